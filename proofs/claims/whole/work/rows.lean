section
-- ===== PART A: goes FIRST, ahead of the names: the tables' words, and 'selects' of the private methods out of them =====
/-- a private method of a class that the tables say can be made, by its rows of tables_1 -/
def lw_okq (q : MethodName × Nat) : Prop := (q.1.cls ≠ "java/lang/invoke/MethodHandle" ∧ q.1.cls ≠ "java/lang/invoke/VarHandle") ∧ Cond.instantiable q.1.cls q.2 ∈ tables_1 ∧ Cond.privateMethod q.1 ∈ tables_1 ∧ Cond.instanceMethod q.1 ∈ tables_1
theorem lw_p0 : lw_okq (⟨"java/lang/Throwable", "fillInStackTrace", "(I)Ljava/lang/Throwable;"⟩, 6) := ⟨⟨by decide +kernel, by decide +kernel⟩, List.mem_of_getElem? (i := 237) (by decide +kernel), List.mem_of_getElem? (i := 235) (by decide +kernel), List.mem_of_getElem? (i := 236) (by decide +kernel)⟩
theorem lw_p1 : lw_okq (⟨"LeatherRoom", "endWait", "()LLeatherRoom$Shape;"⟩, 9) := ⟨⟨by decide +kernel, by decide +kernel⟩, List.mem_of_getElem? (i := 17) (by decide +kernel), List.mem_of_getElem? (i := 301) (by decide +kernel), List.mem_of_getElem? (i := 302) (by decide +kernel)⟩
theorem lw_p2 : lw_okq (⟨"LeatherRoom", "isKind", "(I)Z"⟩, 9) := ⟨⟨by decide +kernel, by decide +kernel⟩, List.mem_of_getElem? (i := 17) (by decide +kernel), List.mem_of_getElem? (i := 400) (by decide +kernel), List.mem_of_getElem? (i := 401) (by decide +kernel)⟩
theorem lw_p3 : lw_okq (⟨"LeatherRoom", "canLie", "(LLeatherRoom$Kind;III)Z"⟩, 9) := ⟨⟨by decide +kernel, by decide +kernel⟩, List.mem_of_getElem? (i := 17) (by decide +kernel), List.mem_of_getElem? (i := 408) (by decide +kernel), List.mem_of_getElem? (i := 409) (by decide +kernel)⟩
theorem lw_p4 : lw_okq (⟨"LeatherRoom", "isOffParts", "(LLeatherRoom$Shape;II)Z"⟩, 9) := ⟨⟨by decide +kernel, by decide +kernel⟩, List.mem_of_getElem? (i := 17) (by decide +kernel), List.mem_of_getElem? (i := 420) (by decide +kernel), List.mem_of_getElem? (i := 421) (by decide +kernel)⟩
theorem lw_p5 : lw_okq (⟨"LeatherRoom", "isOffZones", "(LLeatherRoom$Shape;III)Z"⟩, 9) := ⟨⟨by decide +kernel, by decide +kernel⟩, List.mem_of_getElem? (i := 17) (by decide +kernel), List.mem_of_getElem? (i := 432) (by decide +kernel), List.mem_of_getElem? (i := 433) (by decide +kernel)⟩
theorem lw_p6 : lw_okq (⟨"LeatherRoom", "findPlace", "(LLeatherRoom$Kind;)I"⟩, 9) := ⟨⟨by decide +kernel, by decide +kernel⟩, List.mem_of_getElem? (i := 17) (by decide +kernel), List.mem_of_getElem? (i := 465) (by decide +kernel), List.mem_of_getElem? (i := 466) (by decide +kernel)⟩
theorem lw_p7 : lw_okq (⟨"LeatherRoom", "addPart", "(IIII)I"⟩, 9) := ⟨⟨by decide +kernel, by decide +kernel⟩, List.mem_of_getElem? (i := 17) (by decide +kernel), List.mem_of_getElem? (i := 493) (by decide +kernel), List.mem_of_getElem? (i := 494) (by decide +kernel)⟩
theorem lw_p8 : lw_okq (⟨"LeatherRoom", "isPart", "(I)Z"⟩, 9) := ⟨⟨by decide +kernel, by decide +kernel⟩, List.mem_of_getElem? (i := 17) (by decide +kernel), List.mem_of_getElem? (i := 532) (by decide +kernel), List.mem_of_getElem? (i := 533) (by decide +kernel)⟩
theorem lw_p9 : lw_okq (⟨"LeatherRoomModel", "count", "()I"⟩, 30) := ⟨⟨by decide +kernel, by decide +kernel⟩, List.mem_of_getElem? (i := 545) (by decide +kernel), List.mem_of_getElem? (i := 654) (by decide +kernel), List.mem_of_getElem? (i := 655) (by decide +kernel)⟩
theorem lw_p10 : lw_okq (⟨"LeatherRoomModel", "isPlain", "(I)Z"⟩, 30) := ⟨⟨by decide +kernel, by decide +kernel⟩, List.mem_of_getElem? (i := 545) (by decide +kernel), List.mem_of_getElem? (i := 658) (by decide +kernel), List.mem_of_getElem? (i := 659) (by decide +kernel)⟩
theorem lw_p11 : lw_okq (⟨"LeatherRoomModel", "isOn", "(III)Z"⟩, 30) := ⟨⟨by decide +kernel, by decide +kernel⟩, List.mem_of_getElem? (i := 545) (by decide +kernel), List.mem_of_getElem? (i := 662) (by decide +kernel), List.mem_of_getElem? (i := 663) (by decide +kernel)⟩
theorem lw_p12 : lw_okq (⟨"LeatherRoomModel", "side", "(III)I"⟩, 30) := ⟨⟨by decide +kernel, by decide +kernel⟩, List.mem_of_getElem? (i := 545) (by decide +kernel), List.mem_of_getElem? (i := 666) (by decide +kernel), List.mem_of_getElem? (i := 667) (by decide +kernel)⟩
theorem lw_p13 : lw_okq (⟨"LeatherRoomModel", "within", "(III)Z"⟩, 30) := ⟨⟨by decide +kernel, by decide +kernel⟩, List.mem_of_getElem? (i := 545) (by decide +kernel), List.mem_of_getElem? (i := 670) (by decide +kernel), List.mem_of_getElem? (i := 671) (by decide +kernel)⟩
theorem lw_p14 : lw_okq (⟨"LeatherRoomModel", "meet", "(III)Z"⟩, 30) := ⟨⟨by decide +kernel, by decide +kernel⟩, List.mem_of_getElem? (i := 545) (by decide +kernel), List.mem_of_getElem? (i := 674) (by decide +kernel), List.mem_of_getElem? (i := 675) (by decide +kernel)⟩
theorem lw_p15 : lw_okq (⟨"LeatherRoomModel", "isRound", "(I)Z"⟩, 30) := ⟨⟨by decide +kernel, by decide +kernel⟩, List.mem_of_getElem? (i := 545) (by decide +kernel), List.mem_of_getElem? (i := 685) (by decide +kernel), List.mem_of_getElem? (i := 686) (by decide +kernel)⟩
def lw_privs_1 : List (MethodName × Nat) := [(⟨"java/lang/Throwable", "fillInStackTrace", "(I)Ljava/lang/Throwable;"⟩, 6), (⟨"LeatherRoom", "endWait", "()LLeatherRoom$Shape;"⟩, 9), (⟨"LeatherRoom", "isKind", "(I)Z"⟩, 9), (⟨"LeatherRoom", "canLie", "(LLeatherRoom$Kind;III)Z"⟩, 9), (⟨"LeatherRoom", "isOffParts", "(LLeatherRoom$Shape;II)Z"⟩, 9), (⟨"LeatherRoom", "isOffZones", "(LLeatherRoom$Shape;III)Z"⟩, 9), (⟨"LeatherRoom", "findPlace", "(LLeatherRoom$Kind;)I"⟩, 9), (⟨"LeatherRoom", "addPart", "(IIII)I"⟩, 9), (⟨"LeatherRoom", "isPart", "(I)Z"⟩, 9), (⟨"LeatherRoomModel", "count", "()I"⟩, 30), (⟨"LeatherRoomModel", "isPlain", "(I)Z"⟩, 30), (⟨"LeatherRoomModel", "isOn", "(III)Z"⟩, 30), (⟨"LeatherRoomModel", "side", "(III)I"⟩, 30), (⟨"LeatherRoomModel", "within", "(III)Z"⟩, 30), (⟨"LeatherRoomModel", "meet", "(III)Z"⟩, 30), (⟨"LeatherRoomModel", "isRound", "(I)Z"⟩, 30)]
theorem lw_r1 : ∀ q ∈ lw_privs_1, lw_okq q := List.forall_mem_cons.mpr ⟨lw_p0, List.forall_mem_cons.mpr ⟨lw_p1, List.forall_mem_cons.mpr ⟨lw_p2, List.forall_mem_cons.mpr ⟨lw_p3, List.forall_mem_cons.mpr ⟨lw_p4, List.forall_mem_cons.mpr ⟨lw_p5, List.forall_mem_cons.mpr ⟨lw_p6, List.forall_mem_cons.mpr ⟨lw_p7, List.forall_mem_cons.mpr ⟨lw_p8, List.forall_mem_cons.mpr ⟨lw_p9, List.forall_mem_cons.mpr ⟨lw_p10, List.forall_mem_cons.mpr ⟨lw_p11, List.forall_mem_cons.mpr ⟨lw_p12, List.forall_mem_cons.mpr ⟨lw_p13, List.forall_mem_cons.mpr ⟨lw_p14, List.forall_mem_cons.mpr ⟨lw_p15, fun _ h => absurd h List.not_mem_nil⟩⟩⟩⟩⟩⟩⟩⟩⟩⟩⟩⟩⟩⟩⟩⟩
theorem lw_p16 : lw_okq (⟨"LeatherRoomModel", "isKind", "(I)Z"⟩, 30) := ⟨⟨by decide +kernel, by decide +kernel⟩, List.mem_of_getElem? (i := 545) (by decide +kernel), List.mem_of_getElem? (i := 701) (by decide +kernel), List.mem_of_getElem? (i := 702) (by decide +kernel)⟩
theorem lw_p17 : lw_okq (⟨"LeatherRoomModel", "isPlace", "(III)Z"⟩, 30) := ⟨⟨by decide +kernel, by decide +kernel⟩, List.mem_of_getElem? (i := 545) (by decide +kernel), List.mem_of_getElem? (i := 705) (by decide +kernel), List.mem_of_getElem? (i := 706) (by decide +kernel)⟩
theorem lw_p18 : lw_okq (⟨"LeatherRoomModel", "isFit", "(IIII)Z"⟩, 30) := ⟨⟨by decide +kernel, by decide +kernel⟩, List.mem_of_getElem? (i := 545) (by decide +kernel), List.mem_of_getElem? (i := 709) (by decide +kernel), List.mem_of_getElem? (i := 710) (by decide +kernel)⟩
theorem lw_p19 : lw_okq (⟨"LeatherRoomModel", "shape", "(IIII)V"⟩, 30) := ⟨⟨by decide +kernel, by decide +kernel⟩, List.mem_of_getElem? (i := 545) (by decide +kernel), List.mem_of_getElem? (i := 713) (by decide +kernel), List.mem_of_getElem? (i := 714) (by decide +kernel)⟩
theorem lw_p20 : lw_okq (⟨"LeatherRoomModel", "isInHide", "()Z"⟩, 30) := ⟨⟨by decide +kernel, by decide +kernel⟩, List.mem_of_getElem? (i := 545) (by decide +kernel), List.mem_of_getElem? (i := 717) (by decide +kernel), List.mem_of_getElem? (i := 718) (by decide +kernel)⟩
theorem lw_p21 : lw_okq (⟨"LeatherRoomModel", "overlaps", "()Z"⟩, 30) := ⟨⟨by decide +kernel, by decide +kernel⟩, List.mem_of_getElem? (i := 545) (by decide +kernel), List.mem_of_getElem? (i := 721) (by decide +kernel), List.mem_of_getElem? (i := 722) (by decide +kernel)⟩
theorem lw_p22 : lw_okq (⟨"LeatherRoomModel", "isParted", "(II)Z"⟩, 30) := ⟨⟨by decide +kernel, by decide +kernel⟩, List.mem_of_getElem? (i := 545) (by decide +kernel), List.mem_of_getElem? (i := 725) (by decide +kernel), List.mem_of_getElem? (i := 726) (by decide +kernel)⟩
theorem lw_p23 : lw_okq (⟨"LeatherRoomModel", "isMiddleInside", "()Z"⟩, 30) := ⟨⟨by decide +kernel, by decide +kernel⟩, List.mem_of_getElem? (i := 545) (by decide +kernel), List.mem_of_getElem? (i := 731) (by decide +kernel), List.mem_of_getElem? (i := 732) (by decide +kernel)⟩
theorem lw_p24 : lw_okq (⟨"LeatherRoomModel", "isOffZones", "(I)Z"⟩, 30) := ⟨⟨by decide +kernel, by decide +kernel⟩, List.mem_of_getElem? (i := 545) (by decide +kernel), List.mem_of_getElem? (i := 735) (by decide +kernel), List.mem_of_getElem? (i := 736) (by decide +kernel)⟩
theorem lw_p25 : lw_okq (⟨"LeatherRoomModel", "isBesideParts", "()Z"⟩, 30) := ⟨⟨by decide +kernel, by decide +kernel⟩, List.mem_of_getElem? (i := 545) (by decide +kernel), List.mem_of_getElem? (i := 739) (by decide +kernel), List.mem_of_getElem? (i := 740) (by decide +kernel)⟩
theorem lw_p26 : lw_okq (⟨"LeatherRoomModel", "search", "(I)I"⟩, 30) := ⟨⟨by decide +kernel, by decide +kernel⟩, List.mem_of_getElem? (i := 545) (by decide +kernel), List.mem_of_getElem? (i := 747) (by decide +kernel), List.mem_of_getElem? (i := 748) (by decide +kernel)⟩
theorem lw_p27 : lw_okq (⟨"LeatherRoomModel", "place", "(IIII)I"⟩, 30) := ⟨⟨by decide +kernel, by decide +kernel⟩, List.mem_of_getElem? (i := 545) (by decide +kernel), List.mem_of_getElem? (i := 755) (by decide +kernel), List.mem_of_getElem? (i := 756) (by decide +kernel)⟩
theorem lw_p28 : lw_okq (⟨"LeatherRoomModel", "isPart", "(I)Z"⟩, 30) := ⟨⟨by decide +kernel, by decide +kernel⟩, List.mem_of_getElem? (i := 545) (by decide +kernel), List.mem_of_getElem? (i := 767) (by decide +kernel), List.mem_of_getElem? (i := 768) (by decide +kernel)⟩
def lw_privs_2 : List (MethodName × Nat) := [(⟨"LeatherRoomModel", "isKind", "(I)Z"⟩, 30), (⟨"LeatherRoomModel", "isPlace", "(III)Z"⟩, 30), (⟨"LeatherRoomModel", "isFit", "(IIII)Z"⟩, 30), (⟨"LeatherRoomModel", "shape", "(IIII)V"⟩, 30), (⟨"LeatherRoomModel", "isInHide", "()Z"⟩, 30), (⟨"LeatherRoomModel", "overlaps", "()Z"⟩, 30), (⟨"LeatherRoomModel", "isParted", "(II)Z"⟩, 30), (⟨"LeatherRoomModel", "isMiddleInside", "()Z"⟩, 30), (⟨"LeatherRoomModel", "isOffZones", "(I)Z"⟩, 30), (⟨"LeatherRoomModel", "isBesideParts", "()Z"⟩, 30), (⟨"LeatherRoomModel", "search", "(I)I"⟩, 30), (⟨"LeatherRoomModel", "place", "(IIII)I"⟩, 30), (⟨"LeatherRoomModel", "isPart", "(I)Z"⟩, 30)]
theorem lw_r2 : ∀ q ∈ lw_privs_2, lw_okq q := List.forall_mem_cons.mpr ⟨lw_p16, List.forall_mem_cons.mpr ⟨lw_p17, List.forall_mem_cons.mpr ⟨lw_p18, List.forall_mem_cons.mpr ⟨lw_p19, List.forall_mem_cons.mpr ⟨lw_p20, List.forall_mem_cons.mpr ⟨lw_p21, List.forall_mem_cons.mpr ⟨lw_p22, List.forall_mem_cons.mpr ⟨lw_p23, List.forall_mem_cons.mpr ⟨lw_p24, List.forall_mem_cons.mpr ⟨lw_p25, List.forall_mem_cons.mpr ⟨lw_p26, List.forall_mem_cons.mpr ⟨lw_p27, List.forall_mem_cons.mpr ⟨lw_p28, fun _ h => absurd h List.not_mem_nil⟩⟩⟩⟩⟩⟩⟩⟩⟩⟩⟩⟩⟩
def lw_privs : List (MethodName × Nat) := lw_privs_1 ++ (lw_privs_2)
def lw_tbl : List Cond := k2_sels lw_privs ++ tables_1
theorem lw_privs_ok : ∀ q ∈ lw_privs, lw_okq q := by
  show ∀ q ∈ lw_privs_1 ++ (lw_privs_2), lw_okq q
  exact List.forall_mem_append.mpr ⟨lw_r1, lw_r2⟩
end
section
-- words: all good words of the tables in one list; every method's words are its own code and this list
def BG : List Cond := lw_tbl.filter goodWord
theorem bg_at (i : Nat) {w : Cond} (h : lw_tbl[i]? = some w) (hg : goodWord w = true) : w ∈ BG := List.mem_filter.mpr ⟨List.mem_of_getElem? h, hg⟩
theorem bg_good {w : Cond} (h : w ∈ BG) : (w.onTables && w.keeps) = true ∨ ∃ ty, w = .arrayClass ty := good_of_word (List.mem_filter.mp h).2
theorem bg_tbl {w : Cond} (h : w ∈ BG) : w ∈ lw_tbl := (List.mem_filter.mp h).1
theorem bg_in {c1 c2 : Cond} (h : c2 ∈ BG) : GoodIn (c1 :: BG) (c2 :: BG) := fun w hw => by
  rcases List.mem_cons.mp hw with rfl | hw
  · exact ⟨List.mem_cons_of_mem _ h, bg_good h⟩
  · exact ⟨List.mem_cons_of_mem _ hw, bg_good hw⟩
theorem bg_V {c1 c2 : Cond} {own C : String} {idx : Nat} {y : MethodName} (h : c2 ∈ BG) (h1 : Cond.methodLink own idx y ∈ BG) (h2 : Cond.instanceMethod y ∈ BG) (h3 : Cond.selects C y y ∈ BG) (h4 : Cond.initialized C ∈ BG) : GoodIn (c1 :: BG) (wsV own idx C y (c2 :: BG)) := fun w hw => by
  rcases List.mem_append.mp hw with hw | hw
  · simp only [List.mem_cons, List.not_mem_nil, or_false] at hw
    rcases hw with rfl | rfl | rfl | rfl
    · exact ⟨List.mem_cons_of_mem _ h1, bg_good h1⟩
    · exact ⟨List.mem_cons_of_mem _ h2, bg_good h2⟩
    · exact ⟨List.mem_cons_of_mem _ h3, bg_good h3⟩
    · exact ⟨List.mem_cons_of_mem _ h4, bg_good h4⟩
  · exact bg_in h w hw
theorem bg_S {c1 c2 : Cond} {own : String} {idx : Nat} {y : MethodName} (h : c2 ∈ BG) (h1 : Cond.methodLink own idx y ∈ BG) (h2 : Cond.static y ∈ BG) (h3 : Cond.initialized y.cls ∈ BG) : GoodIn (c1 :: BG) (va_wsS own idx y (c2 :: BG)) := fun w hw => by
  rcases List.mem_append.mp hw with hw | hw
  · simp only [List.mem_cons, List.not_mem_nil, or_false] at hw
    rcases hw with rfl | rfl | rfl
    · exact ⟨List.mem_cons_of_mem _ h1, bg_good h1⟩
    · exact ⟨List.mem_cons_of_mem _ h2, bg_good h2⟩
    · exact ⟨List.mem_cons_of_mem _ h3, bg_good h3⟩
  · exact bg_in h w hw
theorem ws_0 : (Cond.selects "java/lang/Throwable" ({ cls := "java/lang/Throwable", name := "fillInStackTrace", desc := "(I)Ljava/lang/Throwable;" } : Jvm.MethodName) ({ cls := "java/lang/Throwable", name := "fillInStackTrace", desc := "(I)Ljava/lang/Throwable;" } : Jvm.MethodName)) ∈ BG := bg_at 0 (by decide +kernel) (by decide +kernel)
theorem ws_1 : (Cond.selects "LeatherRoom" ({ cls := "LeatherRoom", name := "endWait", desc := "()LLeatherRoom$Shape;" } : Jvm.MethodName) ({ cls := "LeatherRoom", name := "endWait", desc := "()LLeatherRoom$Shape;" } : Jvm.MethodName)) ∈ BG := bg_at 1 (by decide +kernel) (by decide +kernel)
theorem ws_2 : (Cond.selects "LeatherRoom" ({ cls := "LeatherRoom", name := "isKind", desc := "(I)Z" } : Jvm.MethodName) ({ cls := "LeatherRoom", name := "isKind", desc := "(I)Z" } : Jvm.MethodName)) ∈ BG := bg_at 2 (by decide +kernel) (by decide +kernel)
theorem ws_3 : (Cond.selects "LeatherRoom" ({ cls := "LeatherRoom", name := "canLie", desc := "(LLeatherRoom$Kind;III)Z" } : Jvm.MethodName) ({ cls := "LeatherRoom", name := "canLie", desc := "(LLeatherRoom$Kind;III)Z" } : Jvm.MethodName)) ∈ BG := bg_at 3 (by decide +kernel) (by decide +kernel)
theorem ws_4 : (Cond.selects "LeatherRoom" ({ cls := "LeatherRoom", name := "isOffParts", desc := "(LLeatherRoom$Shape;II)Z" } : Jvm.MethodName) ({ cls := "LeatherRoom", name := "isOffParts", desc := "(LLeatherRoom$Shape;II)Z" } : Jvm.MethodName)) ∈ BG := bg_at 4 (by decide +kernel) (by decide +kernel)
theorem ws_5 : (Cond.selects "LeatherRoom" ({ cls := "LeatherRoom", name := "isOffZones", desc := "(LLeatherRoom$Shape;III)Z" } : Jvm.MethodName) ({ cls := "LeatherRoom", name := "isOffZones", desc := "(LLeatherRoom$Shape;III)Z" } : Jvm.MethodName)) ∈ BG := bg_at 5 (by decide +kernel) (by decide +kernel)
theorem ws_6 : (Cond.selects "LeatherRoom" ({ cls := "LeatherRoom", name := "findPlace", desc := "(LLeatherRoom$Kind;)I" } : Jvm.MethodName) ({ cls := "LeatherRoom", name := "findPlace", desc := "(LLeatherRoom$Kind;)I" } : Jvm.MethodName)) ∈ BG := bg_at 6 (by decide +kernel) (by decide +kernel)
theorem ws_7 : (Cond.selects "LeatherRoom" ({ cls := "LeatherRoom", name := "addPart", desc := "(IIII)I" } : Jvm.MethodName) ({ cls := "LeatherRoom", name := "addPart", desc := "(IIII)I" } : Jvm.MethodName)) ∈ BG := bg_at 7 (by decide +kernel) (by decide +kernel)
theorem ws_8 : (Cond.selects "LeatherRoom" ({ cls := "LeatherRoom", name := "isPart", desc := "(I)Z" } : Jvm.MethodName) ({ cls := "LeatherRoom", name := "isPart", desc := "(I)Z" } : Jvm.MethodName)) ∈ BG := bg_at 8 (by decide +kernel) (by decide +kernel)
theorem ws_9 : (Cond.selects "LeatherRoomModel" ({ cls := "LeatherRoomModel", name := "count", desc := "()I" } : Jvm.MethodName) ({ cls := "LeatherRoomModel", name := "count", desc := "()I" } : Jvm.MethodName)) ∈ BG := bg_at 9 (by decide +kernel) (by decide +kernel)
theorem ws_10 : (Cond.selects "LeatherRoomModel" ({ cls := "LeatherRoomModel", name := "isPlain", desc := "(I)Z" } : Jvm.MethodName) ({ cls := "LeatherRoomModel", name := "isPlain", desc := "(I)Z" } : Jvm.MethodName)) ∈ BG := bg_at 10 (by decide +kernel) (by decide +kernel)
theorem ws_11 : (Cond.selects "LeatherRoomModel" ({ cls := "LeatherRoomModel", name := "isOn", desc := "(III)Z" } : Jvm.MethodName) ({ cls := "LeatherRoomModel", name := "isOn", desc := "(III)Z" } : Jvm.MethodName)) ∈ BG := bg_at 11 (by decide +kernel) (by decide +kernel)
theorem ws_12 : (Cond.selects "LeatherRoomModel" ({ cls := "LeatherRoomModel", name := "side", desc := "(III)I" } : Jvm.MethodName) ({ cls := "LeatherRoomModel", name := "side", desc := "(III)I" } : Jvm.MethodName)) ∈ BG := bg_at 12 (by decide +kernel) (by decide +kernel)
theorem ws_13 : (Cond.selects "LeatherRoomModel" ({ cls := "LeatherRoomModel", name := "within", desc := "(III)Z" } : Jvm.MethodName) ({ cls := "LeatherRoomModel", name := "within", desc := "(III)Z" } : Jvm.MethodName)) ∈ BG := bg_at 13 (by decide +kernel) (by decide +kernel)
theorem ws_14 : (Cond.selects "LeatherRoomModel" ({ cls := "LeatherRoomModel", name := "meet", desc := "(III)Z" } : Jvm.MethodName) ({ cls := "LeatherRoomModel", name := "meet", desc := "(III)Z" } : Jvm.MethodName)) ∈ BG := bg_at 14 (by decide +kernel) (by decide +kernel)
theorem ws_15 : (Cond.selects "LeatherRoomModel" ({ cls := "LeatherRoomModel", name := "isRound", desc := "(I)Z" } : Jvm.MethodName) ({ cls := "LeatherRoomModel", name := "isRound", desc := "(I)Z" } : Jvm.MethodName)) ∈ BG := bg_at 15 (by decide +kernel) (by decide +kernel)
theorem ws_16 : (Cond.selects "LeatherRoomModel" ({ cls := "LeatherRoomModel", name := "isKind", desc := "(I)Z" } : Jvm.MethodName) ({ cls := "LeatherRoomModel", name := "isKind", desc := "(I)Z" } : Jvm.MethodName)) ∈ BG := bg_at 16 (by decide +kernel) (by decide +kernel)
theorem ws_17 : (Cond.selects "LeatherRoomModel" ({ cls := "LeatherRoomModel", name := "isPlace", desc := "(III)Z" } : Jvm.MethodName) ({ cls := "LeatherRoomModel", name := "isPlace", desc := "(III)Z" } : Jvm.MethodName)) ∈ BG := bg_at 17 (by decide +kernel) (by decide +kernel)
theorem ws_18 : (Cond.selects "LeatherRoomModel" ({ cls := "LeatherRoomModel", name := "isFit", desc := "(IIII)Z" } : Jvm.MethodName) ({ cls := "LeatherRoomModel", name := "isFit", desc := "(IIII)Z" } : Jvm.MethodName)) ∈ BG := bg_at 18 (by decide +kernel) (by decide +kernel)
theorem ws_19 : (Cond.selects "LeatherRoomModel" ({ cls := "LeatherRoomModel", name := "shape", desc := "(IIII)V" } : Jvm.MethodName) ({ cls := "LeatherRoomModel", name := "shape", desc := "(IIII)V" } : Jvm.MethodName)) ∈ BG := bg_at 19 (by decide +kernel) (by decide +kernel)
theorem ws_20 : (Cond.selects "LeatherRoomModel" ({ cls := "LeatherRoomModel", name := "isInHide", desc := "()Z" } : Jvm.MethodName) ({ cls := "LeatherRoomModel", name := "isInHide", desc := "()Z" } : Jvm.MethodName)) ∈ BG := bg_at 20 (by decide +kernel) (by decide +kernel)
theorem ws_21 : (Cond.selects "LeatherRoomModel" ({ cls := "LeatherRoomModel", name := "overlaps", desc := "()Z" } : Jvm.MethodName) ({ cls := "LeatherRoomModel", name := "overlaps", desc := "()Z" } : Jvm.MethodName)) ∈ BG := bg_at 21 (by decide +kernel) (by decide +kernel)
theorem ws_22 : (Cond.selects "LeatherRoomModel" ({ cls := "LeatherRoomModel", name := "isParted", desc := "(II)Z" } : Jvm.MethodName) ({ cls := "LeatherRoomModel", name := "isParted", desc := "(II)Z" } : Jvm.MethodName)) ∈ BG := bg_at 22 (by decide +kernel) (by decide +kernel)
theorem ws_23 : (Cond.selects "LeatherRoomModel" ({ cls := "LeatherRoomModel", name := "isMiddleInside", desc := "()Z" } : Jvm.MethodName) ({ cls := "LeatherRoomModel", name := "isMiddleInside", desc := "()Z" } : Jvm.MethodName)) ∈ BG := bg_at 23 (by decide +kernel) (by decide +kernel)
theorem ws_24 : (Cond.selects "LeatherRoomModel" ({ cls := "LeatherRoomModel", name := "isOffZones", desc := "(I)Z" } : Jvm.MethodName) ({ cls := "LeatherRoomModel", name := "isOffZones", desc := "(I)Z" } : Jvm.MethodName)) ∈ BG := bg_at 24 (by decide +kernel) (by decide +kernel)
theorem ws_25 : (Cond.selects "LeatherRoomModel" ({ cls := "LeatherRoomModel", name := "isBesideParts", desc := "()Z" } : Jvm.MethodName) ({ cls := "LeatherRoomModel", name := "isBesideParts", desc := "()Z" } : Jvm.MethodName)) ∈ BG := bg_at 25 (by decide +kernel) (by decide +kernel)
theorem ws_26 : (Cond.selects "LeatherRoomModel" ({ cls := "LeatherRoomModel", name := "search", desc := "(I)I" } : Jvm.MethodName) ({ cls := "LeatherRoomModel", name := "search", desc := "(I)I" } : Jvm.MethodName)) ∈ BG := bg_at 26 (by decide +kernel) (by decide +kernel)
theorem ws_27 : (Cond.selects "LeatherRoomModel" ({ cls := "LeatherRoomModel", name := "place", desc := "(IIII)I" } : Jvm.MethodName) ({ cls := "LeatherRoomModel", name := "place", desc := "(IIII)I" } : Jvm.MethodName)) ∈ BG := bg_at 27 (by decide +kernel) (by decide +kernel)
theorem ws_28 : (Cond.selects "LeatherRoomModel" ({ cls := "LeatherRoomModel", name := "isPart", desc := "(I)Z" } : Jvm.MethodName) ({ cls := "LeatherRoomModel", name := "isPart", desc := "(I)Z" } : Jvm.MethodName)) ∈ BG := bg_at 28 (by decide +kernel) (by decide +kernel)
theorem wd_0 : (Cond.initialized "LeatherRoomLaw") ∈ BG := bg_at 29 (by decide +kernel) (by decide +kernel)
theorem wd_1 : (Cond.initialized "LeatherRoom") ∈ BG := bg_at 30 (by decide +kernel) (by decide +kernel)
theorem wd_2 : (Cond.initialized "LeatherRoom$Shape") ∈ BG := bg_at 31 (by decide +kernel) (by decide +kernel)
theorem wd_3 : (Cond.initialized "LeatherRoom$Zone") ∈ BG := bg_at 32 (by decide +kernel) (by decide +kernel)
theorem wd_4 : (Cond.initialized "LeatherRoom$Kind") ∈ BG := bg_at 33 (by decide +kernel) (by decide +kernel)
theorem wd_5 : (Cond.initialized "LeatherRoom$Part") ∈ BG := bg_at 34 (by decide +kernel) (by decide +kernel)
theorem wd_6 : (Cond.initialized "LeatherRoomModel") ∈ BG := bg_at 35 (by decide +kernel) (by decide +kernel)
theorem wd_7 : (Cond.initialized "java/lang/Throwable") ∈ BG := bg_at 36 (by decide +kernel) (by decide +kernel)
theorem wd_8 : (Cond.initialized "java/lang/Exception") ∈ BG := bg_at 37 (by decide +kernel) (by decide +kernel)
theorem wd_9 : (Cond.initialized "java/lang/RuntimeException") ∈ BG := bg_at 38 (by decide +kernel) (by decide +kernel)
theorem wd_10 : (Cond.initialized "java/lang/IllegalArgumentException") ∈ BG := bg_at 39 (by decide +kernel) (by decide +kernel)
theorem wd_11 : (Cond.initialized "java/lang/IllegalStateException") ∈ BG := bg_at 40 (by decide +kernel) (by decide +kernel)
theorem wd_12 : (Cond.initialized "java/lang/Math") ∈ BG := bg_at 41 (by decide +kernel) (by decide +kernel)
theorem wd_13 : (Cond.initialized "java/lang/Integer") ∈ BG := bg_at 42 (by decide +kernel) (by decide +kernel)
theorem wd_14 : (Cond.initialized "java/util/NoSuchElementException") ∈ BG := bg_at 43 (by decide +kernel) (by decide +kernel)
theorem wd_15 : (Cond.initialized "java/lang/UnsupportedOperationException") ∈ BG := bg_at 44 (by decide +kernel) (by decide +kernel)
theorem wd_16 : (Cond.classLink "LeatherRoomLaw" (8 : Nat) "LeatherRoom") ∈ BG := bg_at 45 (by decide +kernel) (by decide +kernel)
theorem wd_17 : (Cond.instantiable "LeatherRoom" (9 : Nat)) ∈ BG := bg_at 46 (by decide +kernel) (by decide +kernel)
theorem wd_18 : (Cond.methodLink "LeatherRoomLaw" (54 : Nat) ({ cls := "LeatherRoom", name := "<init>", desc := "()V" } : Jvm.MethodName)) ∈ BG := bg_at 47 (by decide +kernel) (by decide +kernel)
theorem wd_19 : (Cond.instanceMethod ({ cls := "LeatherRoom", name := "<init>", desc := "()V" } : Jvm.MethodName)) ∈ BG := bg_at 48 (by decide +kernel) (by decide +kernel)
theorem wd_20 : (Cond.code ({ cls := "LeatherRoom", name := "<init>", desc := "()V" } : Jvm.MethodName) prog_1_method_1_code (2 : Nat) (Option.none : Option Jvm.ClassFile.FieldType)) ∈ BG := bg_at 49 (by decide +kernel) (by decide +kernel)
theorem wd_21 : (Cond.methodLink "LeatherRoom" (1 : Nat) ({ cls := "java/lang/Object", name := "<init>", desc := "()V" } : Jvm.MethodName)) ∈ BG := bg_at 50 (by decide +kernel) (by decide +kernel)
theorem wd_22 : (Cond.instanceMethod ({ cls := "java/lang/Object", name := "<init>", desc := "()V" } : Jvm.MethodName)) ∈ BG := bg_at 51 (by decide +kernel) (by decide +kernel)
theorem wd_23 : (Cond.code ({ cls := "java/lang/Object", name := "<init>", desc := "()V" } : Jvm.MethodName) object_method_1_code (1 : Nat) (Option.none : Option Jvm.ClassFile.FieldType)) ∈ BG := bg_at 52 (by decide +kernel) (by decide +kernel)
theorem wd_24 : (Cond.classLink "LeatherRoom" (7 : Nat) "LeatherRoom$Shape") ∈ BG := bg_at 53 (by decide +kernel) (by decide +kernel)
theorem wd_25 : (Cond.instantiable "LeatherRoom$Shape" (7 : Nat)) ∈ BG := bg_at 54 (by decide +kernel) (by decide +kernel)
theorem wd_27 : (Cond.instanceMethod ({ cls := "LeatherRoom$Shape", name := "<init>", desc := "()V" } : Jvm.MethodName)) ∈ BG := bg_at 56 (by decide +kernel) (by decide +kernel)
theorem wd_28 : (Cond.code ({ cls := "LeatherRoom$Shape", name := "<init>", desc := "()V" } : Jvm.MethodName) prog_4_method_1_code (1 : Nat) (Option.none : Option Jvm.ClassFile.FieldType)) ∈ BG := bg_at 57 (by decide +kernel) (by decide +kernel)
theorem wd_29 : (Cond.methodLink "LeatherRoom$Shape" (3 : Nat) ({ cls := "java/lang/Object", name := "<init>", desc := "()V" } : Jvm.MethodName)) ∈ BG := bg_at 58 (by decide +kernel) (by decide +kernel)
theorem wd_30 : (Cond.fieldLink "LeatherRoom$Shape" (9 : Nat) "LeatherRoom$Shape" "x" "[I") ∈ BG := bg_at 59 (by decide +kernel) (by decide +kernel)
theorem wd_31 : (Cond.fieldLink "LeatherRoom$Shape" (15 : Nat) "LeatherRoom$Shape" "y" "[I") ∈ BG := bg_at 60 (by decide +kernel) (by decide +kernel)
theorem wd_32 : (Cond.fieldLink "LeatherRoom$Shape" (18 : Nat) "LeatherRoom$Shape" "size" "I") ∈ BG := bg_at 61 (by decide +kernel) (by decide +kernel)
theorem wd_33 : (Cond.fieldLink "LeatherRoom" (54 : Nat) "LeatherRoom$Shape" "size" "I") ∈ BG := bg_at 62 (by decide +kernel) (by decide +kernel)
theorem wd_34 : (Cond.fieldLink "LeatherRoom$Kind" (25 : Nat) "LeatherRoom$Shape" "lowX" "I") ∈ BG := bg_at 63 (by decide +kernel) (by decide +kernel)
theorem wd_35 : (Cond.fieldLink "LeatherRoom$Shape" (22 : Nat) "LeatherRoom$Shape" "lowX" "I") ∈ BG := bg_at 64 (by decide +kernel) (by decide +kernel)
theorem wd_36 : (Cond.fieldLink "LeatherRoom" (228 : Nat) "LeatherRoom$Shape" "lowX" "I") ∈ BG := bg_at 65 (by decide +kernel) (by decide +kernel)
theorem wd_37 : (Cond.fieldLink "LeatherRoom$Shape" (31 : Nat) "LeatherRoom$Shape" "highX" "I") ∈ BG := bg_at 66 (by decide +kernel) (by decide +kernel)
theorem wd_38 : (Cond.fieldLink "LeatherRoom" (106 : Nat) "LeatherRoom$Shape" "highX" "I") ∈ BG := bg_at 67 (by decide +kernel) (by decide +kernel)
theorem wd_39 : (Cond.fieldLink "LeatherRoom$Kind" (28 : Nat) "LeatherRoom$Shape" "lowY" "I") ∈ BG := bg_at 68 (by decide +kernel) (by decide +kernel)
theorem wd_40 : (Cond.fieldLink "LeatherRoom$Shape" (37 : Nat) "LeatherRoom$Shape" "lowY" "I") ∈ BG := bg_at 69 (by decide +kernel) (by decide +kernel)
theorem wd_41 : (Cond.fieldLink "LeatherRoom" (225 : Nat) "LeatherRoom$Shape" "lowY" "I") ∈ BG := bg_at 70 (by decide +kernel) (by decide +kernel)
theorem wd_42 : (Cond.fieldLink "LeatherRoom$Shape" (40 : Nat) "LeatherRoom$Shape" "highY" "I") ∈ BG := bg_at 71 (by decide +kernel) (by decide +kernel)
theorem wd_43 : (Cond.fieldLink "LeatherRoom" (109 : Nat) "LeatherRoom$Shape" "highY" "I") ∈ BG := bg_at 72 (by decide +kernel) (by decide +kernel)
theorem wd_44 : (Cond.laysFinal "LeatherRoom$Shape" "LeatherRoom$Shape" "x" "[I") ∈ BG := bg_at 73 (by decide +kernel) (by decide +kernel)
theorem wd_46 : (Cond.laysFinal "LeatherRoom$Shape" "LeatherRoom$Shape" "y" "[I") ∈ BG := bg_at 75 (by decide +kernel) (by decide +kernel)
theorem wd_48 : (Cond.lays "LeatherRoom$Shape" "LeatherRoom$Shape" "size" "I") ∈ BG := bg_at 77 (by decide +kernel) (by decide +kernel)
theorem wd_50 : (Cond.lays "LeatherRoom$Shape" "LeatherRoom$Shape" "lowX" "I") ∈ BG := bg_at 79 (by decide +kernel) (by decide +kernel)
theorem wd_52 : (Cond.lays "LeatherRoom$Shape" "LeatherRoom$Shape" "highX" "I") ∈ BG := bg_at 81 (by decide +kernel) (by decide +kernel)
theorem wd_54 : (Cond.lays "LeatherRoom$Shape" "LeatherRoom$Shape" "lowY" "I") ∈ BG := bg_at 83 (by decide +kernel) (by decide +kernel)
theorem wd_56 : (Cond.lays "LeatherRoom$Shape" "LeatherRoom$Shape" "highY" "I") ∈ BG := bg_at 85 (by decide +kernel) (by decide +kernel)
theorem wd_59 : (Cond.arrayClass Jvm.ClassFile.FieldType.int) ∈ BG := bg_at 88 (by decide +kernel) (by decide +kernel)
theorem wd_60 : (Cond.classLink "LeatherRoom" (22 : Nat) "LeatherRoom$Zone") ∈ BG := bg_at 89 (by decide +kernel) (by decide +kernel)
theorem wd_62 : (Cond.classLink "LeatherRoom" (28 : Nat) "LeatherRoom$Kind") ∈ BG := bg_at 91 (by decide +kernel) (by decide +kernel)
theorem wd_64 : (Cond.classLink "LeatherRoom" (34 : Nat) "LeatherRoom$Part") ∈ BG := bg_at 93 (by decide +kernel) (by decide +kernel)
theorem wd_66 : (Cond.instantiable "LeatherRoom$Zone" (2 : Nat)) ∈ BG := bg_at 95 (by decide +kernel) (by decide +kernel)
theorem wd_68 : (Cond.instanceMethod ({ cls := "LeatherRoom$Zone", name := "<init>", desc := "()V" } : Jvm.MethodName)) ∈ BG := bg_at 97 (by decide +kernel) (by decide +kernel)
theorem wd_69 : (Cond.code ({ cls := "LeatherRoom$Zone", name := "<init>", desc := "()V" } : Jvm.MethodName) prog_5_method_1_code (1 : Nat) (Option.none : Option Jvm.ClassFile.FieldType)) ∈ BG := bg_at 98 (by decide +kernel) (by decide +kernel)
theorem wd_70 : (Cond.methodLink "LeatherRoom$Zone" (1 : Nat) ({ cls := "java/lang/Object", name := "<init>", desc := "()V" } : Jvm.MethodName)) ∈ BG := bg_at 99 (by decide +kernel) (by decide +kernel)
theorem wd_71 : (Cond.classLink "LeatherRoom$Zone" (7 : Nat) "LeatherRoom$Shape") ∈ BG := bg_at 100 (by decide +kernel) (by decide +kernel)
theorem wd_73 : (Cond.fieldLink "LeatherRoom$Zone" (10 : Nat) "LeatherRoom$Zone" "shape" "LLeatherRoom$Shape;") ∈ BG := bg_at 102 (by decide +kernel) (by decide +kernel)
theorem wd_74 : (Cond.fieldLink "LeatherRoom" (224 : Nat) "LeatherRoom$Zone" "shape" "LLeatherRoom$Shape;") ∈ BG := bg_at 103 (by decide +kernel) (by decide +kernel)
theorem wd_75 : (Cond.fieldLink "LeatherRoom$Zone" (16 : Nat) "LeatherRoom$Zone" "grade" "I") ∈ BG := bg_at 104 (by decide +kernel) (by decide +kernel)
theorem wd_76 : (Cond.fieldLink "LeatherRoom" (223 : Nat) "LeatherRoom$Zone" "grade" "I") ∈ BG := bg_at 105 (by decide +kernel) (by decide +kernel)
theorem wd_77 : (Cond.laysFinal "LeatherRoom$Zone" "LeatherRoom$Zone" "shape" "LLeatherRoom$Shape;") ∈ BG := bg_at 106 (by decide +kernel) (by decide +kernel)
theorem wd_79 : (Cond.lays "LeatherRoom$Zone" "LeatherRoom$Zone" "grade" "I") ∈ BG := bg_at 108 (by decide +kernel) (by decide +kernel)
theorem wd_82 : (Cond.instantiable "LeatherRoom$Kind" (3 : Nat)) ∈ BG := bg_at 111 (by decide +kernel) (by decide +kernel)
theorem wd_83 : (Cond.methodLink "LeatherRoom" (41 : Nat) ({ cls := "LeatherRoom$Kind", name := "<init>", desc := "()V" } : Jvm.MethodName)) ∈ BG := bg_at 112 (by decide +kernel) (by decide +kernel)
theorem wd_84 : (Cond.instanceMethod ({ cls := "LeatherRoom$Kind", name := "<init>", desc := "()V" } : Jvm.MethodName)) ∈ BG := bg_at 113 (by decide +kernel) (by decide +kernel)
theorem wd_85 : (Cond.code ({ cls := "LeatherRoom$Kind", name := "<init>", desc := "()V" } : Jvm.MethodName) prog_2_method_1_code (2 : Nat) (Option.none : Option Jvm.ClassFile.FieldType)) ∈ BG := bg_at 114 (by decide +kernel) (by decide +kernel)
theorem wd_86 : (Cond.methodLink "LeatherRoom$Kind" (3 : Nat) ({ cls := "java/lang/Object", name := "<init>", desc := "()V" } : Jvm.MethodName)) ∈ BG := bg_at 115 (by decide +kernel) (by decide +kernel)
theorem wd_87 : (Cond.classLink "LeatherRoom$Kind" (9 : Nat) "LeatherRoom$Shape") ∈ BG := bg_at 116 (by decide +kernel) (by decide +kernel)
theorem wd_90 : (Cond.fieldLink "LeatherRoom$Kind" (11 : Nat) "LeatherRoom$Kind" "turned" "[LLeatherRoom$Shape;") ∈ BG := bg_at 119 (by decide +kernel) (by decide +kernel)
theorem wd_91 : (Cond.fieldLink "LeatherRoom" (199 : Nat) "LeatherRoom$Kind" "turned" "[LLeatherRoom$Shape;") ∈ BG := bg_at 120 (by decide +kernel) (by decide +kernel)
theorem wd_92 : (Cond.fieldLink "LeatherRoom$Kind" (18 : Nat) "LeatherRoom$Kind" "grade" "I") ∈ BG := bg_at 121 (by decide +kernel) (by decide +kernel)
theorem wd_93 : (Cond.fieldLink "LeatherRoom" (210 : Nat) "LeatherRoom$Kind" "grade" "I") ∈ BG := bg_at 122 (by decide +kernel) (by decide +kernel)
theorem wd_94 : (Cond.fieldLink "LeatherRoom$Kind" (22 : Nat) "LeatherRoom$Kind" "turns" "I") ∈ BG := bg_at 123 (by decide +kernel) (by decide +kernel)
theorem wd_95 : (Cond.laysFinal "LeatherRoom$Kind" "LeatherRoom$Kind" "turned" "[LLeatherRoom$Shape;") ∈ BG := bg_at 124 (by decide +kernel) (by decide +kernel)
theorem wd_97 : (Cond.lays "LeatherRoom$Kind" "LeatherRoom$Kind" "grade" "I") ∈ BG := bg_at 126 (by decide +kernel) (by decide +kernel)
theorem wd_99 : (Cond.lays "LeatherRoom$Kind" "LeatherRoom$Kind" "turns" "I") ∈ BG := bg_at 128 (by decide +kernel) (by decide +kernel)
theorem wd_102 : (Cond.instantiable "LeatherRoom$Part" (6 : Nat)) ∈ BG := bg_at 131 (by decide +kernel) (by decide +kernel)
theorem wd_104 : (Cond.instanceMethod ({ cls := "LeatherRoom$Part", name := "<init>", desc := "()V" } : Jvm.MethodName)) ∈ BG := bg_at 133 (by decide +kernel) (by decide +kernel)
theorem wd_105 : (Cond.code ({ cls := "LeatherRoom$Part", name := "<init>", desc := "()V" } : Jvm.MethodName) prog_3_method_1_code (1 : Nat) (Option.none : Option Jvm.ClassFile.FieldType)) ∈ BG := bg_at 134 (by decide +kernel) (by decide +kernel)
theorem wd_106 : (Cond.methodLink "LeatherRoom$Part" (1 : Nat) ({ cls := "java/lang/Object", name := "<init>", desc := "()V" } : Jvm.MethodName)) ∈ BG := bg_at 135 (by decide +kernel) (by decide +kernel)
theorem wd_107 : (Cond.classLink "LeatherRoom$Part" (7 : Nat) "LeatherRoom$Shape") ∈ BG := bg_at 136 (by decide +kernel) (by decide +kernel)
theorem wd_109 : (Cond.fieldLink "LeatherRoom$Part" (10 : Nat) "LeatherRoom$Part" "shape" "LLeatherRoom$Shape;") ∈ BG := bg_at 138 (by decide +kernel) (by decide +kernel)
theorem wd_110 : (Cond.fieldLink "LeatherRoom" (190 : Nat) "LeatherRoom$Part" "shape" "LLeatherRoom$Shape;") ∈ BG := bg_at 139 (by decide +kernel) (by decide +kernel)
theorem wd_111 : (Cond.fieldLink "LeatherRoom$Part" (16 : Nat) "LeatherRoom$Part" "lies" "Z") ∈ BG := bg_at 140 (by decide +kernel) (by decide +kernel)
theorem wd_112 : (Cond.fieldLink "LeatherRoom" (162 : Nat) "LeatherRoom$Part" "lies" "Z") ∈ BG := bg_at 141 (by decide +kernel) (by decide +kernel)
theorem wd_113 : (Cond.fieldLink "LeatherRoom$Part" (20 : Nat) "LeatherRoom$Part" "kind" "I") ∈ BG := bg_at 142 (by decide +kernel) (by decide +kernel)
theorem wd_114 : (Cond.fieldLink "LeatherRoom" (166 : Nat) "LeatherRoom$Part" "kind" "I") ∈ BG := bg_at 143 (by decide +kernel) (by decide +kernel)
theorem wd_115 : (Cond.fieldLink "LeatherRoom$Part" (24 : Nat) "LeatherRoom$Part" "x" "I") ∈ BG := bg_at 144 (by decide +kernel) (by decide +kernel)
theorem wd_116 : (Cond.fieldLink "LeatherRoom" (171 : Nat) "LeatherRoom$Part" "x" "I") ∈ BG := bg_at 145 (by decide +kernel) (by decide +kernel)
theorem wd_117 : (Cond.fieldLink "LeatherRoom$Part" (27 : Nat) "LeatherRoom$Part" "y" "I") ∈ BG := bg_at 146 (by decide +kernel) (by decide +kernel)
theorem wd_118 : (Cond.fieldLink "LeatherRoom" (174 : Nat) "LeatherRoom$Part" "y" "I") ∈ BG := bg_at 147 (by decide +kernel) (by decide +kernel)
theorem wd_119 : (Cond.fieldLink "LeatherRoom$Part" (30 : Nat) "LeatherRoom$Part" "turn" "I") ∈ BG := bg_at 148 (by decide +kernel) (by decide +kernel)
theorem wd_120 : (Cond.fieldLink "LeatherRoom" (177 : Nat) "LeatherRoom$Part" "turn" "I") ∈ BG := bg_at 149 (by decide +kernel) (by decide +kernel)
theorem wd_121 : (Cond.laysFinal "LeatherRoom$Part" "LeatherRoom$Part" "shape" "LLeatherRoom$Shape;") ∈ BG := bg_at 150 (by decide +kernel) (by decide +kernel)
theorem wd_123 : (Cond.lays "LeatherRoom$Part" "LeatherRoom$Part" "lies" "Z") ∈ BG := bg_at 152 (by decide +kernel) (by decide +kernel)
theorem wd_125 : (Cond.lays "LeatherRoom$Part" "LeatherRoom$Part" "kind" "I") ∈ BG := bg_at 154 (by decide +kernel) (by decide +kernel)
theorem wd_127 : (Cond.lays "LeatherRoom$Part" "LeatherRoom$Part" "x" "I") ∈ BG := bg_at 156 (by decide +kernel) (by decide +kernel)
theorem wd_129 : (Cond.lays "LeatherRoom$Part" "LeatherRoom$Part" "y" "I") ∈ BG := bg_at 158 (by decide +kernel) (by decide +kernel)
theorem wd_131 : (Cond.lays "LeatherRoom$Part" "LeatherRoom$Part" "turn" "I") ∈ BG := bg_at 160 (by decide +kernel) (by decide +kernel)
theorem wd_134 : (Cond.fieldLink "LeatherRoom" (10 : Nat) "LeatherRoom" "waiting" "LLeatherRoom$Shape;") ∈ BG := bg_at 163 (by decide +kernel) (by decide +kernel)
theorem wd_135 : (Cond.fieldLink "LeatherRoom" (16 : Nat) "LeatherRoom" "offered" "LLeatherRoom$Shape;") ∈ BG := bg_at 164 (by decide +kernel) (by decide +kernel)
theorem wd_136 : (Cond.fieldLink "LeatherRoom" (19 : Nat) "LeatherRoom" "outline" "LLeatherRoom$Shape;") ∈ BG := bg_at 165 (by decide +kernel) (by decide +kernel)
theorem wd_137 : (Cond.fieldLink "LeatherRoom" (24 : Nat) "LeatherRoom" "zones" "[LLeatherRoom$Zone;") ∈ BG := bg_at 166 (by decide +kernel) (by decide +kernel)
theorem wd_138 : (Cond.fieldLink "LeatherRoom" (30 : Nat) "LeatherRoom" "kinds" "[LLeatherRoom$Kind;") ∈ BG := bg_at 167 (by decide +kernel) (by decide +kernel)
theorem wd_139 : (Cond.fieldLink "LeatherRoom" (36 : Nat) "LeatherRoom" "lots" "[LLeatherRoom$Part;") ∈ BG := bg_at 168 (by decide +kernel) (by decide +kernel)
theorem wd_140 : (Cond.fieldLink "LeatherRoom" (93 : Nat) "LeatherRoom" "zoneCount" "I") ∈ BG := bg_at 169 (by decide +kernel) (by decide +kernel)
theorem wd_141 : (Cond.fieldLink "LeatherRoom" (114 : Nat) "LeatherRoom" "kindCount" "I") ∈ BG := bg_at 170 (by decide +kernel) (by decide +kernel)
theorem wd_142 : (Cond.fieldLink "LeatherRoom" (67 : Nat) "LeatherRoom" "partCount" "I") ∈ BG := bg_at 171 (by decide +kernel) (by decide +kernel)
theorem wd_143 : (Cond.laysFinal "LeatherRoom" "LeatherRoom" "waiting" "LLeatherRoom$Shape;") ∈ BG := bg_at 172 (by decide +kernel) (by decide +kernel)
theorem wd_145 : (Cond.laysFinal "LeatherRoom" "LeatherRoom" "offered" "LLeatherRoom$Shape;") ∈ BG := bg_at 174 (by decide +kernel) (by decide +kernel)
theorem wd_147 : (Cond.laysFinal "LeatherRoom" "LeatherRoom" "outline" "LLeatherRoom$Shape;") ∈ BG := bg_at 176 (by decide +kernel) (by decide +kernel)
theorem wd_149 : (Cond.laysFinal "LeatherRoom" "LeatherRoom" "zones" "[LLeatherRoom$Zone;") ∈ BG := bg_at 178 (by decide +kernel) (by decide +kernel)
theorem wd_151 : (Cond.laysFinal "LeatherRoom" "LeatherRoom" "kinds" "[LLeatherRoom$Kind;") ∈ BG := bg_at 180 (by decide +kernel) (by decide +kernel)
theorem wd_153 : (Cond.laysFinal "LeatherRoom" "LeatherRoom" "lots" "[LLeatherRoom$Part;") ∈ BG := bg_at 182 (by decide +kernel) (by decide +kernel)
theorem wd_155 : (Cond.lays "LeatherRoom" "LeatherRoom" "zoneCount" "I") ∈ BG := bg_at 184 (by decide +kernel) (by decide +kernel)
theorem wd_157 : (Cond.lays "LeatherRoom" "LeatherRoom" "kindCount" "I") ∈ BG := bg_at 186 (by decide +kernel) (by decide +kernel)
theorem wd_159 : (Cond.lays "LeatherRoom" "LeatherRoom" "partCount" "I") ∈ BG := bg_at 188 (by decide +kernel) (by decide +kernel)
theorem wd_162 : (Cond.methodLink "LeatherRoomLaw" (98 : Nat) ({ cls := "LeatherRoom", name := "strip", desc := "()I" } : Jvm.MethodName)) ∈ BG := bg_at 191 (by decide +kernel) (by decide +kernel)
theorem wd_163 : (Cond.instanceMethod ({ cls := "LeatherRoom", name := "strip", desc := "()I" } : Jvm.MethodName)) ∈ BG := bg_at 192 (by decide +kernel) (by decide +kernel)
theorem wd_164 : (Cond.selects "LeatherRoom" ({ cls := "LeatherRoom", name := "strip", desc := "()I" } : Jvm.MethodName) ({ cls := "LeatherRoom", name := "strip", desc := "()I" } : Jvm.MethodName)) ∈ BG := bg_at 193 (by decide +kernel) (by decide +kernel)
theorem wd_165 : (Cond.code ({ cls := "LeatherRoom", name := "strip", desc := "()I" } : Jvm.MethodName) prog_1_method_12_code (3 : Nat) (Option.some Jvm.ClassFile.FieldType.int)) ∈ BG := bg_at 194 (by decide +kernel) (by decide +kernel)
theorem wd_166 : (Cond.methodLink "LeatherRoomLaw" (105 : Nat) ({ cls := "LeatherRoom", name := "parts", desc := "()I" } : Jvm.MethodName)) ∈ BG := bg_at 195 (by decide +kernel) (by decide +kernel)
theorem wd_167 : (Cond.instanceMethod ({ cls := "LeatherRoom", name := "parts", desc := "()I" } : Jvm.MethodName)) ∈ BG := bg_at 196 (by decide +kernel) (by decide +kernel)
theorem wd_168 : (Cond.selects "LeatherRoom" ({ cls := "LeatherRoom", name := "parts", desc := "()I" } : Jvm.MethodName) ({ cls := "LeatherRoom", name := "parts", desc := "()I" } : Jvm.MethodName)) ∈ BG := bg_at 197 (by decide +kernel) (by decide +kernel)
theorem wd_169 : (Cond.code ({ cls := "LeatherRoom", name := "parts", desc := "()I" } : Jvm.MethodName) prog_1_method_14_code (1 : Nat) (Option.some Jvm.ClassFile.FieldType.int)) ∈ BG := bg_at 198 (by decide +kernel) (by decide +kernel)
theorem wd_170 : (Cond.methodLink "LeatherRoomLaw" (109 : Nat) ({ cls := "LeatherRoom", name := "free", desc := "()I" } : Jvm.MethodName)) ∈ BG := bg_at 199 (by decide +kernel) (by decide +kernel)
theorem wd_171 : (Cond.instanceMethod ({ cls := "LeatherRoom", name := "free", desc := "()I" } : Jvm.MethodName)) ∈ BG := bg_at 200 (by decide +kernel) (by decide +kernel)
theorem wd_172 : (Cond.selects "LeatherRoom" ({ cls := "LeatherRoom", name := "free", desc := "()I" } : Jvm.MethodName) ({ cls := "LeatherRoom", name := "free", desc := "()I" } : Jvm.MethodName)) ∈ BG := bg_at 201 (by decide +kernel) (by decide +kernel)
theorem wd_173 : (Cond.code ({ cls := "LeatherRoom", name := "free", desc := "()I" } : Jvm.MethodName) prog_1_method_15_code (3 : Nat) (Option.some Jvm.ClassFile.FieldType.int)) ∈ BG := bg_at 202 (by decide +kernel) (by decide +kernel)
theorem wd_174 : (Cond.methodLink "LeatherRoom" (180 : Nat) ({ cls := "LeatherRoom$Shape", name := "doubleArea", desc := "()I" } : Jvm.MethodName)) ∈ BG := bg_at 203 (by decide +kernel) (by decide +kernel)
theorem wd_175 : (Cond.instanceMethod ({ cls := "LeatherRoom$Shape", name := "doubleArea", desc := "()I" } : Jvm.MethodName)) ∈ BG := bg_at 204 (by decide +kernel) (by decide +kernel)
theorem wd_176 : (Cond.selects "LeatherRoom$Shape" ({ cls := "LeatherRoom$Shape", name := "doubleArea", desc := "()I" } : Jvm.MethodName) ({ cls := "LeatherRoom$Shape", name := "doubleArea", desc := "()I" } : Jvm.MethodName)) ∈ BG := bg_at 205 (by decide +kernel) (by decide +kernel)
theorem wd_177 : (Cond.code ({ cls := "LeatherRoom$Shape", name := "doubleArea", desc := "()I" } : Jvm.MethodName) prog_4_method_8_code (4 : Nat) (Option.some Jvm.ClassFile.FieldType.int)) ∈ BG := bg_at 206 (by decide +kernel) (by decide +kernel)
theorem wd_178 : (Cond.methodLink "LeatherRoom$Shape" (58 : Nat) ({ cls := "LeatherRoom$Shape", name := "next", desc := "(I)I" } : Jvm.MethodName)) ∈ BG := bg_at 207 (by decide +kernel) (by decide +kernel)
theorem wd_179 : (Cond.instanceMethod ({ cls := "LeatherRoom$Shape", name := "next", desc := "(I)I" } : Jvm.MethodName)) ∈ BG := bg_at 208 (by decide +kernel) (by decide +kernel)
theorem wd_180 : (Cond.selects "LeatherRoom$Shape" ({ cls := "LeatherRoom$Shape", name := "next", desc := "(I)I" } : Jvm.MethodName) ({ cls := "LeatherRoom$Shape", name := "next", desc := "(I)I" } : Jvm.MethodName)) ∈ BG := bg_at 209 (by decide +kernel) (by decide +kernel)
theorem wd_181 : (Cond.code ({ cls := "LeatherRoom$Shape", name := "next", desc := "(I)I" } : Jvm.MethodName) prog_4_method_7_code (2 : Nat) (Option.some Jvm.ClassFile.FieldType.int)) ∈ BG := bg_at 210 (by decide +kernel) (by decide +kernel)
theorem wd_182 : (Cond.methodLink "LeatherRoom" (184 : Nat) ({ cls := "java/lang/Math", name := "abs", desc := "(I)I" } : Jvm.MethodName)) ∈ BG := bg_at 211 (by decide +kernel) (by decide +kernel)
theorem wd_183 : (Cond.static ({ cls := "java/lang/Math", name := "abs", desc := "(I)I" } : Jvm.MethodName)) ∈ BG := bg_at 212 (by decide +kernel) (by decide +kernel)
theorem wd_184 : (Cond.code ({ cls := "java/lang/Math", name := "abs", desc := "(I)I" } : Jvm.MethodName) prog_12_method_59_code (1 : Nat) (Option.some Jvm.ClassFile.FieldType.int)) ∈ BG := bg_at 213 (by decide +kernel) (by decide +kernel)
theorem wd_185 : (Cond.methodLink "LeatherRoomLaw" (58 : Nat) ({ cls := "LeatherRoomLaw", name := "corner", desc := "(LLeatherRoom;II[J)I" } : Jvm.MethodName)) ∈ BG := bg_at 214 (by decide +kernel) (by decide +kernel)
theorem wd_186 : (Cond.static ({ cls := "LeatherRoomLaw", name := "corner", desc := "(LLeatherRoom;II[J)I" } : Jvm.MethodName)) ∈ BG := bg_at 215 (by decide +kernel) (by decide +kernel)
theorem wd_187 : (Cond.codeWith ({ cls := "LeatherRoomLaw", name := "corner", desc := "(LLeatherRoom;II[J)I" } : Jvm.MethodName) method_3_code (5 : Nat) (Option.some Jvm.ClassFile.FieldType.int) [((0 : Nat), (10 : Nat), (13 : Nat), (13 : Nat)), ((0 : Nat), (10 : Nat), (17 : Nat), (15 : Nat))]) ∈ BG := bg_at 216 (by decide +kernel) (by decide +kernel)
theorem wd_188 : (Cond.classLink "LeatherRoomLaw" (13 : Nat) "java/lang/IllegalArgumentException") ∈ BG := bg_at 217 (by decide +kernel) (by decide +kernel)
theorem wd_189 : (Cond.classLink "LeatherRoomLaw" (15 : Nat) "java/lang/IllegalStateException") ∈ BG := bg_at 218 (by decide +kernel) (by decide +kernel)
theorem wd_190 : (Cond.methodLink "LeatherRoomLaw" (7 : Nat) ({ cls := "LeatherRoom", name := "corner", desc := "(II)I" } : Jvm.MethodName)) ∈ BG := bg_at 219 (by decide +kernel) (by decide +kernel)
theorem wd_191 : (Cond.instanceMethod ({ cls := "LeatherRoom", name := "corner", desc := "(II)I" } : Jvm.MethodName)) ∈ BG := bg_at 220 (by decide +kernel) (by decide +kernel)
theorem wd_192 : (Cond.selects "LeatherRoom" ({ cls := "LeatherRoom", name := "corner", desc := "(II)I" } : Jvm.MethodName) ({ cls := "LeatherRoom", name := "corner", desc := "(II)I" } : Jvm.MethodName)) ∈ BG := bg_at 221 (by decide +kernel) (by decide +kernel)
theorem wd_193 : (Cond.code ({ cls := "LeatherRoom", name := "corner", desc := "(II)I" } : Jvm.MethodName) prog_1_method_2_code (3 : Nat) (Option.some Jvm.ClassFile.FieldType.int)) ∈ BG := bg_at 222 (by decide +kernel) (by decide +kernel)
theorem wd_194 : (Cond.methodLink "LeatherRoom" (43 : Nat) ({ cls := "LeatherRoom", name := "isPoint", desc := "(II)Z" } : Jvm.MethodName)) ∈ BG := bg_at 223 (by decide +kernel) (by decide +kernel)
theorem wd_195 : (Cond.static ({ cls := "LeatherRoom", name := "isPoint", desc := "(II)Z" } : Jvm.MethodName)) ∈ BG := bg_at 224 (by decide +kernel) (by decide +kernel)
theorem wd_196 : (Cond.code ({ cls := "LeatherRoom", name := "isPoint", desc := "(II)Z" } : Jvm.MethodName) prog_1_method_16_code (2 : Nat) (Option.some Jvm.ClassFile.FieldType.boolean)) ∈ BG := bg_at 225 (by decide +kernel) (by decide +kernel)
theorem wd_197 : (Cond.classLink "LeatherRoom" (47 : Nat) "java/lang/IllegalArgumentException") ∈ BG := bg_at 226 (by decide +kernel) (by decide +kernel)
theorem wd_198 : (Cond.instantiable "java/lang/IllegalArgumentException" (6 : Nat)) ∈ BG := bg_at 227 (by decide +kernel) (by decide +kernel)
theorem wd_206 : (Cond.selects "java/lang/IllegalArgumentException" ({ cls := "java/lang/Throwable", name := "fillInStackTrace", desc := "(I)Ljava/lang/Throwable;" } : Jvm.MethodName) ({ cls := "java/lang/Throwable", name := "fillInStackTrace", desc := "(I)Ljava/lang/Throwable;" } : Jvm.MethodName)) ∈ BG := bg_at 235 (by decide +kernel) (by decide +kernel)
theorem wd_207 : (Cond.selects "java/lang/IllegalArgumentException" ({ cls := "java/lang/Throwable", name := "fillInStackTrace", desc := "()Ljava/lang/Throwable;" } : Jvm.MethodName) ({ cls := "java/lang/Throwable", name := "fillInStackTrace", desc := "()Ljava/lang/Throwable;" } : Jvm.MethodName)) ∈ BG := bg_at 236 (by decide +kernel) (by decide +kernel)
theorem wd_208 : (Cond.lays "java/lang/IllegalArgumentException" "java/lang/Throwable" "cause" "Ljava/lang/Throwable;") ∈ BG := bg_at 237 (by decide +kernel) (by decide +kernel)
theorem wd_209 : (Cond.lays "java/lang/Throwable" "java/lang/Throwable" "cause" "Ljava/lang/Throwable;") ∈ BG := bg_at 238 (by decide +kernel) (by decide +kernel)
theorem wd_210 : (Cond.lays "java/lang/IllegalArgumentException" "java/lang/Throwable" "stackTrace" "[Ljava/lang/StackTraceElement;") ∈ BG := bg_at 239 (by decide +kernel) (by decide +kernel)
theorem wd_211 : (Cond.lays "java/lang/Throwable" "java/lang/Throwable" "stackTrace" "[Ljava/lang/StackTraceElement;") ∈ BG := bg_at 240 (by decide +kernel) (by decide +kernel)
theorem wd_212 : (Cond.lays "java/lang/IllegalArgumentException" "java/lang/Throwable" "suppressedExceptions" "Ljava/util/List;") ∈ BG := bg_at 241 (by decide +kernel) (by decide +kernel)
theorem wd_213 : (Cond.lays "java/lang/Throwable" "java/lang/Throwable" "suppressedExceptions" "Ljava/util/List;") ∈ BG := bg_at 242 (by decide +kernel) (by decide +kernel)
theorem wd_214 : (Cond.lays "java/lang/IllegalArgumentException" "java/lang/Throwable" "detailMessage" "Ljava/lang/String;") ∈ BG := bg_at 243 (by decide +kernel) (by decide +kernel)
theorem wd_215 : (Cond.lays "java/lang/Throwable" "java/lang/Throwable" "detailMessage" "Ljava/lang/String;") ∈ BG := bg_at 244 (by decide +kernel) (by decide +kernel)
theorem wd_216 : (Cond.lays "java/lang/IllegalArgumentException" "java/lang/Throwable" "backtrace" "Ljava/lang/Object;") ∈ BG := bg_at 245 (by decide +kernel) (by decide +kernel)
theorem wd_217 : (Cond.lays "java/lang/Throwable" "java/lang/Throwable" "backtrace" "Ljava/lang/Object;") ∈ BG := bg_at 246 (by decide +kernel) (by decide +kernel)
theorem wd_218 : (Cond.fieldLink "java/lang/Throwable" (198 : Nat) "java/lang/Throwable" "backtrace" "Ljava/lang/Object;") ∈ BG := bg_at 247 (by decide +kernel) (by decide +kernel)
theorem wd_220 : (Cond.instanceMethod ({ cls := "java/lang/Throwable", name := "<init>", desc := "()V" } : Jvm.MethodName)) ∈ BG := bg_at 249 (by decide +kernel) (by decide +kernel)
theorem wd_221 : (Cond.code ({ cls := "java/lang/Throwable", name := "<init>", desc := "()V" } : Jvm.MethodName) prog_15_method_1_code (1 : Nat) (Option.none : Option Jvm.ClassFile.FieldType)) ∈ BG := bg_at 250 (by decide +kernel) (by decide +kernel)
theorem wd_222 : (Cond.methodLink "java/lang/Throwable" (1 : Nat) ({ cls := "java/lang/Object", name := "<init>", desc := "()V" } : Jvm.MethodName)) ∈ BG := bg_at 251 (by decide +kernel) (by decide +kernel)
theorem wd_223 : (Cond.fieldLink "java/lang/Throwable" (13 : Nat) "java/lang/Throwable" "UNASSIGNED_STACK" "[Ljava/lang/StackTraceElement;") ∈ BG := bg_at 252 (by decide +kernel) (by decide +kernel)
theorem wd_225 : (Cond.fieldLink "java/lang/Throwable" (20 : Nat) "java/lang/Throwable" "SUPPRESSED_SENTINEL" "Ljava/util/List;") ∈ BG := bg_at 254 (by decide +kernel) (by decide +kernel)
theorem wd_227 : (Cond.methodLink "java/lang/Throwable" (27 : Nat) ({ cls := "java/lang/Throwable", name := "fillInStackTrace", desc := "()Ljava/lang/Throwable;" } : Jvm.MethodName)) ∈ BG := bg_at 256 (by decide +kernel) (by decide +kernel)
theorem wd_228 : (Cond.instanceMethod ({ cls := "java/lang/Throwable", name := "fillInStackTrace", desc := "()Ljava/lang/Throwable;" } : Jvm.MethodName)) ∈ BG := bg_at 257 (by decide +kernel) (by decide +kernel)
theorem wd_230 : (Cond.selects "java/lang/IllegalStateException" ({ cls := "java/lang/Throwable", name := "fillInStackTrace", desc := "()Ljava/lang/Throwable;" } : Jvm.MethodName) ({ cls := "java/lang/Throwable", name := "fillInStackTrace", desc := "()Ljava/lang/Throwable;" } : Jvm.MethodName)) ∈ BG := bg_at 259 (by decide +kernel) (by decide +kernel)
theorem wd_231 : (Cond.selects "java/lang/UnsupportedOperationException" ({ cls := "java/lang/Throwable", name := "fillInStackTrace", desc := "()Ljava/lang/Throwable;" } : Jvm.MethodName) ({ cls := "java/lang/Throwable", name := "fillInStackTrace", desc := "()Ljava/lang/Throwable;" } : Jvm.MethodName)) ∈ BG := bg_at 260 (by decide +kernel) (by decide +kernel)
theorem wd_232 : (Cond.selects "java/util/NoSuchElementException" ({ cls := "java/lang/Throwable", name := "fillInStackTrace", desc := "()Ljava/lang/Throwable;" } : Jvm.MethodName) ({ cls := "java/lang/Throwable", name := "fillInStackTrace", desc := "()Ljava/lang/Throwable;" } : Jvm.MethodName)) ∈ BG := bg_at 261 (by decide +kernel) (by decide +kernel)
theorem wd_233 : (Cond.codeSync ({ cls := "java/lang/Throwable", name := "fillInStackTrace", desc := "()Ljava/lang/Throwable;" } : Jvm.MethodName) prog_15_method_18_code (1 : Nat) (Option.some (Jvm.ClassFile.FieldType.object "java/lang/Throwable"))) ∈ BG := bg_at 262 (by decide +kernel) (by decide +kernel)
theorem wd_234 : (Cond.methodLink "java/lang/Throwable" (202 : Nat) ({ cls := "java/lang/Throwable", name := "fillInStackTrace", desc := "(I)Ljava/lang/Throwable;" } : Jvm.MethodName)) ∈ BG := bg_at 263 (by decide +kernel) (by decide +kernel)
theorem wd_236 : (Cond.instanceMethod ({ cls := "java/lang/Throwable", name := "fillInStackTrace", desc := "(I)Ljava/lang/Throwable;" } : Jvm.MethodName)) ∈ BG := bg_at 265 (by decide +kernel) (by decide +kernel)
theorem wd_237 : (Cond.instantiable "java/lang/Throwable" (6 : Nat)) ∈ BG := bg_at 266 (by decide +kernel) (by decide +kernel)
theorem wd_238 : (Cond.native ({ cls := "java/lang/Throwable", name := "fillInStackTrace", desc := "(I)Ljava/lang/Throwable;" } : Jvm.MethodName)) ∈ BG := bg_at 267 (by decide +kernel) (by decide +kernel)
theorem wd_240 : (Cond.methodLink "LeatherRoom" (51 : Nat) ({ cls := "java/lang/IllegalArgumentException", name := "<init>", desc := "(Ljava/lang/String;)V" } : Jvm.MethodName)) ∈ BG := bg_at 269 (by decide +kernel) (by decide +kernel)
theorem wd_241 : (Cond.instanceMethod ({ cls := "java/lang/IllegalArgumentException", name := "<init>", desc := "(Ljava/lang/String;)V" } : Jvm.MethodName)) ∈ BG := bg_at 270 (by decide +kernel) (by decide +kernel)
theorem wd_242 : (Cond.code ({ cls := "java/lang/IllegalArgumentException", name := "<init>", desc := "(Ljava/lang/String;)V" } : Jvm.MethodName) prog_9_method_2_code (2 : Nat) (Option.none : Option Jvm.ClassFile.FieldType)) ∈ BG := bg_at 271 (by decide +kernel) (by decide +kernel)
theorem wd_243 : (Cond.methodLink "java/lang/IllegalArgumentException" (7 : Nat) ({ cls := "java/lang/RuntimeException", name := "<init>", desc := "(Ljava/lang/String;)V" } : Jvm.MethodName)) ∈ BG := bg_at 272 (by decide +kernel) (by decide +kernel)
theorem wd_244 : (Cond.instanceMethod ({ cls := "java/lang/RuntimeException", name := "<init>", desc := "(Ljava/lang/String;)V" } : Jvm.MethodName)) ∈ BG := bg_at 273 (by decide +kernel) (by decide +kernel)
theorem wd_245 : (Cond.code ({ cls := "java/lang/RuntimeException", name := "<init>", desc := "(Ljava/lang/String;)V" } : Jvm.MethodName) prog_13_method_2_code (2 : Nat) (Option.none : Option Jvm.ClassFile.FieldType)) ∈ BG := bg_at 274 (by decide +kernel) (by decide +kernel)
theorem wd_246 : (Cond.methodLink "java/lang/RuntimeException" (7 : Nat) ({ cls := "java/lang/Exception", name := "<init>", desc := "(Ljava/lang/String;)V" } : Jvm.MethodName)) ∈ BG := bg_at 275 (by decide +kernel) (by decide +kernel)
theorem wd_247 : (Cond.instanceMethod ({ cls := "java/lang/Exception", name := "<init>", desc := "(Ljava/lang/String;)V" } : Jvm.MethodName)) ∈ BG := bg_at 276 (by decide +kernel) (by decide +kernel)
theorem wd_248 : (Cond.code ({ cls := "java/lang/Exception", name := "<init>", desc := "(Ljava/lang/String;)V" } : Jvm.MethodName) prog_8_method_2_code (2 : Nat) (Option.none : Option Jvm.ClassFile.FieldType)) ∈ BG := bg_at 277 (by decide +kernel) (by decide +kernel)
theorem wd_249 : (Cond.methodLink "java/lang/Exception" (7 : Nat) ({ cls := "java/lang/Throwable", name := "<init>", desc := "(Ljava/lang/String;)V" } : Jvm.MethodName)) ∈ BG := bg_at 278 (by decide +kernel) (by decide +kernel)
theorem wd_250 : (Cond.instanceMethod ({ cls := "java/lang/Throwable", name := "<init>", desc := "(Ljava/lang/String;)V" } : Jvm.MethodName)) ∈ BG := bg_at 279 (by decide +kernel) (by decide +kernel)
theorem wd_251 : (Cond.code ({ cls := "java/lang/Throwable", name := "<init>", desc := "(Ljava/lang/String;)V" } : Jvm.MethodName) prog_15_method_2_code (2 : Nat) (Option.none : Option Jvm.ClassFile.FieldType)) ∈ BG := bg_at 280 (by decide +kernel) (by decide +kernel)
theorem wd_253 : (Cond.fieldLink "java/lang/Throwable" (31 : Nat) "java/lang/Throwable" "detailMessage" "Ljava/lang/String;") ∈ BG := bg_at 282 (by decide +kernel) (by decide +kernel)
theorem wd_254 : (Cond.fieldLink "java/lang/Throwable" (7 : Nat) "java/lang/Throwable" "cause" "Ljava/lang/Throwable;") ∈ BG := bg_at 283 (by decide +kernel) (by decide +kernel)
theorem wd_255 : (Cond.fieldLink "java/lang/Throwable" (17 : Nat) "java/lang/Throwable" "stackTrace" "[Ljava/lang/StackTraceElement;") ∈ BG := bg_at 284 (by decide +kernel) (by decide +kernel)
theorem wd_256 : (Cond.fieldLink "java/lang/Throwable" (24 : Nat) "java/lang/Throwable" "suppressedExceptions" "Ljava/util/List;") ∈ BG := bg_at 285 (by decide +kernel) (by decide +kernel)
theorem wd_261 : (Cond.lays "java/lang/IllegalArgumentException" "java/lang/Throwable" "depth" "I") ∈ BG := bg_at 290 (by decide +kernel) (by decide +kernel)
theorem wd_265 : (Cond.arrayClass Jvm.ClassFile.FieldType.byte) ∈ BG := bg_at 294 (by decide +kernel) (by decide +kernel)
theorem wd_266 : (Cond.classLink "LeatherRoom" (58 : Nat) "java/lang/IllegalStateException") ∈ BG := bg_at 295 (by decide +kernel) (by decide +kernel)
theorem wd_267 : (Cond.instantiable "java/lang/IllegalStateException" (6 : Nat)) ∈ BG := bg_at 296 (by decide +kernel) (by decide +kernel)
theorem wd_269 : (Cond.selects "java/lang/IllegalStateException" ({ cls := "java/lang/Throwable", name := "fillInStackTrace", desc := "(I)Ljava/lang/Throwable;" } : Jvm.MethodName) ({ cls := "java/lang/Throwable", name := "fillInStackTrace", desc := "(I)Ljava/lang/Throwable;" } : Jvm.MethodName)) ∈ BG := bg_at 298 (by decide +kernel) (by decide +kernel)
theorem wd_270 : (Cond.lays "java/lang/IllegalStateException" "java/lang/Throwable" "cause" "Ljava/lang/Throwable;") ∈ BG := bg_at 299 (by decide +kernel) (by decide +kernel)
theorem wd_271 : (Cond.lays "java/lang/IllegalStateException" "java/lang/Throwable" "stackTrace" "[Ljava/lang/StackTraceElement;") ∈ BG := bg_at 300 (by decide +kernel) (by decide +kernel)
theorem wd_272 : (Cond.lays "java/lang/IllegalStateException" "java/lang/Throwable" "suppressedExceptions" "Ljava/util/List;") ∈ BG := bg_at 301 (by decide +kernel) (by decide +kernel)
theorem wd_273 : (Cond.lays "java/lang/IllegalStateException" "java/lang/Throwable" "detailMessage" "Ljava/lang/String;") ∈ BG := bg_at 302 (by decide +kernel) (by decide +kernel)
theorem wd_274 : (Cond.lays "java/lang/IllegalStateException" "java/lang/Throwable" "backtrace" "Ljava/lang/Object;") ∈ BG := bg_at 303 (by decide +kernel) (by decide +kernel)
theorem wd_276 : (Cond.methodLink "LeatherRoom" (62 : Nat) ({ cls := "java/lang/IllegalStateException", name := "<init>", desc := "(Ljava/lang/String;)V" } : Jvm.MethodName)) ∈ BG := bg_at 305 (by decide +kernel) (by decide +kernel)
theorem wd_277 : (Cond.instanceMethod ({ cls := "java/lang/IllegalStateException", name := "<init>", desc := "(Ljava/lang/String;)V" } : Jvm.MethodName)) ∈ BG := bg_at 306 (by decide +kernel) (by decide +kernel)
theorem wd_278 : (Cond.code ({ cls := "java/lang/IllegalStateException", name := "<init>", desc := "(Ljava/lang/String;)V" } : Jvm.MethodName) prog_10_method_2_code (2 : Nat) (Option.none : Option Jvm.ClassFile.FieldType)) ∈ BG := bg_at 307 (by decide +kernel) (by decide +kernel)
theorem wd_279 : (Cond.methodLink "java/lang/IllegalStateException" (7 : Nat) ({ cls := "java/lang/RuntimeException", name := "<init>", desc := "(Ljava/lang/String;)V" } : Jvm.MethodName)) ∈ BG := bg_at 308 (by decide +kernel) (by decide +kernel)
theorem wd_280 : (Cond.lays "java/lang/IllegalStateException" "java/lang/Throwable" "depth" "I") ∈ BG := bg_at 309 (by decide +kernel) (by decide +kernel)
theorem wd_282 : (Cond.methodLink "LeatherRoom" (63 : Nat) ({ cls := "LeatherRoom$Shape", name := "add", desc := "(II)V" } : Jvm.MethodName)) ∈ BG := bg_at 311 (by decide +kernel) (by decide +kernel)
theorem wd_283 : (Cond.instanceMethod ({ cls := "LeatherRoom$Shape", name := "add", desc := "(II)V" } : Jvm.MethodName)) ∈ BG := bg_at 312 (by decide +kernel) (by decide +kernel)
theorem wd_284 : (Cond.selects "LeatherRoom$Shape" ({ cls := "LeatherRoom$Shape", name := "add", desc := "(II)V" } : Jvm.MethodName) ({ cls := "LeatherRoom$Shape", name := "add", desc := "(II)V" } : Jvm.MethodName)) ∈ BG := bg_at 313 (by decide +kernel) (by decide +kernel)
theorem wd_285 : (Cond.code ({ cls := "LeatherRoom$Shape", name := "add", desc := "(II)V" } : Jvm.MethodName) prog_4_method_3_code (3 : Nat) (Option.none : Option Jvm.ClassFile.FieldType)) ∈ BG := bg_at 314 (by decide +kernel) (by decide +kernel)
theorem wd_286 : (Cond.methodLink "LeatherRoom$Shape" (25 : Nat) ({ cls := "java/lang/Math", name := "min", desc := "(II)I" } : Jvm.MethodName)) ∈ BG := bg_at 315 (by decide +kernel) (by decide +kernel)
theorem wd_287 : (Cond.static ({ cls := "java/lang/Math", name := "min", desc := "(II)I" } : Jvm.MethodName)) ∈ BG := bg_at 316 (by decide +kernel) (by decide +kernel)
theorem wd_288 : (Cond.code ({ cls := "java/lang/Math", name := "min", desc := "(II)I" } : Jvm.MethodName) prog_12_method_69_code (2 : Nat) (Option.some Jvm.ClassFile.FieldType.int)) ∈ BG := bg_at 317 (by decide +kernel) (by decide +kernel)
theorem wd_289 : (Cond.methodLink "LeatherRoom$Shape" (34 : Nat) ({ cls := "java/lang/Math", name := "max", desc := "(II)I" } : Jvm.MethodName)) ∈ BG := bg_at 318 (by decide +kernel) (by decide +kernel)
theorem wd_290 : (Cond.static ({ cls := "java/lang/Math", name := "max", desc := "(II)I" } : Jvm.MethodName)) ∈ BG := bg_at 319 (by decide +kernel) (by decide +kernel)
theorem wd_291 : (Cond.code ({ cls := "java/lang/Math", name := "max", desc := "(II)I" } : Jvm.MethodName) prog_12_method_65_code (2 : Nat) (Option.some Jvm.ClassFile.FieldType.int)) ∈ BG := bg_at 320 (by decide +kernel) (by decide +kernel)
theorem wd_292 : (Cond.methodLink "LeatherRoomLaw" (68 : Nat) ({ cls := "LeatherRoomLaw", name := "hide", desc := "(LLeatherRoom;)I" } : Jvm.MethodName)) ∈ BG := bg_at 321 (by decide +kernel) (by decide +kernel)
theorem wd_293 : (Cond.static ({ cls := "LeatherRoomLaw", name := "hide", desc := "(LLeatherRoom;)I" } : Jvm.MethodName)) ∈ BG := bg_at 322 (by decide +kernel) (by decide +kernel)
theorem wd_294 : (Cond.codeWith ({ cls := "LeatherRoomLaw", name := "hide", desc := "(LLeatherRoom;)I" } : Jvm.MethodName) method_4_code (2 : Nat) (Option.some Jvm.ClassFile.FieldType.int) [((0 : Nat), (4 : Nat), (7 : Nat), (15 : Nat)), ((0 : Nat), (4 : Nat), (10 : Nat), (13 : Nat))]) ∈ BG := bg_at 323 (by decide +kernel) (by decide +kernel)
theorem wd_295 : (Cond.methodLink "LeatherRoomLaw" (17 : Nat) ({ cls := "LeatherRoom", name := "hide", desc := "()V" } : Jvm.MethodName)) ∈ BG := bg_at 324 (by decide +kernel) (by decide +kernel)
theorem wd_296 : (Cond.instanceMethod ({ cls := "LeatherRoom", name := "hide", desc := "()V" } : Jvm.MethodName)) ∈ BG := bg_at 325 (by decide +kernel) (by decide +kernel)
theorem wd_297 : (Cond.selects "LeatherRoom" ({ cls := "LeatherRoom", name := "hide", desc := "()V" } : Jvm.MethodName) ({ cls := "LeatherRoom", name := "hide", desc := "()V" } : Jvm.MethodName)) ∈ BG := bg_at 326 (by decide +kernel) (by decide +kernel)
theorem wd_298 : (Cond.code ({ cls := "LeatherRoom", name := "hide", desc := "()V" } : Jvm.MethodName) prog_1_method_3_code (2 : Nat) (Option.none : Option Jvm.ClassFile.FieldType)) ∈ BG := bg_at 327 (by decide +kernel) (by decide +kernel)
theorem wd_300 : (Cond.methodLink "LeatherRoom" (72 : Nat) ({ cls := "LeatherRoom", name := "endWait", desc := "()LLeatherRoom$Shape;" } : Jvm.MethodName)) ∈ BG := bg_at 329 (by decide +kernel) (by decide +kernel)
theorem wd_302 : (Cond.instanceMethod ({ cls := "LeatherRoom", name := "endWait", desc := "()LLeatherRoom$Shape;" } : Jvm.MethodName)) ∈ BG := bg_at 331 (by decide +kernel) (by decide +kernel)
theorem wd_303 : (Cond.code ({ cls := "LeatherRoom", name := "endWait", desc := "()LLeatherRoom$Shape;" } : Jvm.MethodName) prog_1_method_20_code (1 : Nat) (Option.some (Jvm.ClassFile.FieldType.object "LeatherRoom$Shape"))) ∈ BG := bg_at 332 (by decide +kernel) (by decide +kernel)
theorem wd_304 : (Cond.methodLink "LeatherRoom" (82 : Nat) ({ cls := "LeatherRoom$Shape", name := "copy", desc := "(LLeatherRoom$Shape;II)V" } : Jvm.MethodName)) ∈ BG := bg_at 333 (by decide +kernel) (by decide +kernel)
theorem wd_305 : (Cond.instanceMethod ({ cls := "LeatherRoom$Shape", name := "copy", desc := "(LLeatherRoom$Shape;II)V" } : Jvm.MethodName)) ∈ BG := bg_at 334 (by decide +kernel) (by decide +kernel)
theorem wd_306 : (Cond.selects "LeatherRoom$Shape" ({ cls := "LeatherRoom$Shape", name := "copy", desc := "(LLeatherRoom$Shape;II)V" } : Jvm.MethodName) ({ cls := "LeatherRoom$Shape", name := "copy", desc := "(LLeatherRoom$Shape;II)V" } : Jvm.MethodName)) ∈ BG := bg_at 335 (by decide +kernel) (by decide +kernel)
theorem wd_307 : (Cond.code ({ cls := "LeatherRoom$Shape", name := "copy", desc := "(LLeatherRoom$Shape;II)V" } : Jvm.MethodName) prog_4_method_4_code (5 : Nat) (Option.none : Option Jvm.ClassFile.FieldType)) ∈ BG := bg_at 336 (by decide +kernel) (by decide +kernel)
theorem wd_308 : (Cond.methodLink "LeatherRoom$Shape" (43 : Nat) ({ cls := "LeatherRoom$Shape", name := "empty", desc := "()V" } : Jvm.MethodName)) ∈ BG := bg_at 337 (by decide +kernel) (by decide +kernel)
theorem wd_309 : (Cond.instanceMethod ({ cls := "LeatherRoom$Shape", name := "empty", desc := "()V" } : Jvm.MethodName)) ∈ BG := bg_at 338 (by decide +kernel) (by decide +kernel)
theorem wd_310 : (Cond.selects "LeatherRoom$Shape" ({ cls := "LeatherRoom$Shape", name := "empty", desc := "()V" } : Jvm.MethodName) ({ cls := "LeatherRoom$Shape", name := "empty", desc := "()V" } : Jvm.MethodName)) ∈ BG := bg_at 339 (by decide +kernel) (by decide +kernel)
theorem wd_311 : (Cond.code ({ cls := "LeatherRoom$Shape", name := "empty", desc := "()V" } : Jvm.MethodName) prog_4_method_2_code (1 : Nat) (Option.none : Option Jvm.ClassFile.FieldType)) ∈ BG := bg_at 340 (by decide +kernel) (by decide +kernel)
theorem wd_312 : (Cond.methodLink "LeatherRoom$Shape" (46 : Nat) ({ cls := "LeatherRoom$Shape", name := "add", desc := "(II)V" } : Jvm.MethodName)) ∈ BG := bg_at 341 (by decide +kernel) (by decide +kernel)
theorem wd_313 : (Cond.methodLink "LeatherRoom" (193 : Nat) ({ cls := "LeatherRoom$Shape", name := "empty", desc := "()V" } : Jvm.MethodName)) ∈ BG := bg_at 342 (by decide +kernel) (by decide +kernel)
theorem wd_314 : (Cond.methodLink "LeatherRoom" (76 : Nat) ({ cls := "LeatherRoom$Shape", name := "isPlain", desc := "()Z" } : Jvm.MethodName)) ∈ BG := bg_at 343 (by decide +kernel) (by decide +kernel)
theorem wd_315 : (Cond.instanceMethod ({ cls := "LeatherRoom$Shape", name := "isPlain", desc := "()Z" } : Jvm.MethodName)) ∈ BG := bg_at 344 (by decide +kernel) (by decide +kernel)
theorem wd_316 : (Cond.selects "LeatherRoom$Shape" ({ cls := "LeatherRoom$Shape", name := "isPlain", desc := "()Z" } : Jvm.MethodName) ({ cls := "LeatherRoom$Shape", name := "isPlain", desc := "()Z" } : Jvm.MethodName)) ∈ BG := bg_at 345 (by decide +kernel) (by decide +kernel)
theorem wd_317 : (Cond.code ({ cls := "LeatherRoom$Shape", name := "isPlain", desc := "()Z" } : Jvm.MethodName) prog_4_method_11_code (4 : Nat) (Option.some Jvm.ClassFile.FieldType.boolean)) ∈ BG := bg_at 346 (by decide +kernel) (by decide +kernel)
theorem wd_318 : (Cond.methodLink "LeatherRoom$Shape" (66 : Nat) ({ cls := "LeatherRoom$Shape", name := "foldsBack", desc := "(I)Z" } : Jvm.MethodName)) ∈ BG := bg_at 347 (by decide +kernel) (by decide +kernel)
theorem wd_319 : (Cond.instanceMethod ({ cls := "LeatherRoom$Shape", name := "foldsBack", desc := "(I)Z" } : Jvm.MethodName)) ∈ BG := bg_at 348 (by decide +kernel) (by decide +kernel)
theorem wd_320 : (Cond.selects "LeatherRoom$Shape" ({ cls := "LeatherRoom$Shape", name := "foldsBack", desc := "(I)Z" } : Jvm.MethodName) ({ cls := "LeatherRoom$Shape", name := "foldsBack", desc := "(I)Z" } : Jvm.MethodName)) ∈ BG := bg_at 349 (by decide +kernel) (by decide +kernel)
theorem wd_321 : (Cond.code ({ cls := "LeatherRoom$Shape", name := "foldsBack", desc := "(I)Z" } : Jvm.MethodName) prog_4_method_12_code (5 : Nat) (Option.some Jvm.ClassFile.FieldType.boolean)) ∈ BG := bg_at 350 (by decide +kernel) (by decide +kernel)
theorem wd_322 : (Cond.methodLink "LeatherRoom$Shape" (62 : Nat) ({ cls := "LeatherRoom$Shape", name := "beside", desc := "(III)I" } : Jvm.MethodName)) ∈ BG := bg_at 351 (by decide +kernel) (by decide +kernel)
theorem wd_323 : (Cond.instanceMethod ({ cls := "LeatherRoom$Shape", name := "beside", desc := "(III)I" } : Jvm.MethodName)) ∈ BG := bg_at 352 (by decide +kernel) (by decide +kernel)
theorem wd_324 : (Cond.selects "LeatherRoom$Shape" ({ cls := "LeatherRoom$Shape", name := "beside", desc := "(III)I" } : Jvm.MethodName) ({ cls := "LeatherRoom$Shape", name := "beside", desc := "(III)I" } : Jvm.MethodName)) ∈ BG := bg_at 353 (by decide +kernel) (by decide +kernel)
theorem wd_325 : (Cond.code ({ cls := "LeatherRoom$Shape", name := "beside", desc := "(III)I" } : Jvm.MethodName) prog_4_method_9_code (5 : Nat) (Option.some Jvm.ClassFile.FieldType.int)) ∈ BG := bg_at 354 (by decide +kernel) (by decide +kernel)
theorem wd_326 : (Cond.methodLink "LeatherRoom$Shape" (70 : Nat) ({ cls := "LeatherRoom$Shape", name := "sidesMeet", desc := "(II)Z" } : Jvm.MethodName)) ∈ BG := bg_at 355 (by decide +kernel) (by decide +kernel)
theorem wd_327 : (Cond.instanceMethod ({ cls := "LeatherRoom$Shape", name := "sidesMeet", desc := "(II)Z" } : Jvm.MethodName)) ∈ BG := bg_at 356 (by decide +kernel) (by decide +kernel)
theorem wd_328 : (Cond.selects "LeatherRoom$Shape" ({ cls := "LeatherRoom$Shape", name := "sidesMeet", desc := "(II)Z" } : Jvm.MethodName) ({ cls := "LeatherRoom$Shape", name := "sidesMeet", desc := "(II)Z" } : Jvm.MethodName)) ∈ BG := bg_at 357 (by decide +kernel) (by decide +kernel)
theorem wd_329 : (Cond.code ({ cls := "LeatherRoom$Shape", name := "sidesMeet", desc := "(II)Z" } : Jvm.MethodName) prog_4_method_13_code (3 : Nat) (Option.some Jvm.ClassFile.FieldType.boolean)) ∈ BG := bg_at 358 (by decide +kernel) (by decide +kernel)
theorem wd_330 : (Cond.methodLink "LeatherRoom$Shape" (74 : Nat) ({ cls := "LeatherRoom$Shape", name := "rangesMeet", desc := "(IIII)Z" } : Jvm.MethodName)) ∈ BG := bg_at 359 (by decide +kernel) (by decide +kernel)
theorem wd_331 : (Cond.static ({ cls := "LeatherRoom$Shape", name := "rangesMeet", desc := "(IIII)Z" } : Jvm.MethodName)) ∈ BG := bg_at 360 (by decide +kernel) (by decide +kernel)
theorem wd_332 : (Cond.code ({ cls := "LeatherRoom$Shape", name := "rangesMeet", desc := "(IIII)Z" } : Jvm.MethodName) prog_4_method_15_code (4 : Nat) (Option.some Jvm.ClassFile.FieldType.boolean)) ∈ BG := bg_at 361 (by decide +kernel) (by decide +kernel)
theorem wd_333 : (Cond.methodLink "LeatherRoom$Shape" (78 : Nat) ({ cls := "LeatherRoom$Shape", name := "lineMeets", desc := "(II)Z" } : Jvm.MethodName)) ∈ BG := bg_at 362 (by decide +kernel) (by decide +kernel)
theorem wd_334 : (Cond.instanceMethod ({ cls := "LeatherRoom$Shape", name := "lineMeets", desc := "(II)Z" } : Jvm.MethodName)) ∈ BG := bg_at 363 (by decide +kernel) (by decide +kernel)
theorem wd_335 : (Cond.selects "LeatherRoom$Shape" ({ cls := "LeatherRoom$Shape", name := "lineMeets", desc := "(II)Z" } : Jvm.MethodName) ({ cls := "LeatherRoom$Shape", name := "lineMeets", desc := "(II)Z" } : Jvm.MethodName)) ∈ BG := bg_at 364 (by decide +kernel) (by decide +kernel)
theorem wd_336 : (Cond.code ({ cls := "LeatherRoom$Shape", name := "lineMeets", desc := "(II)Z" } : Jvm.MethodName) prog_4_method_14_code (6 : Nat) (Option.some Jvm.ClassFile.FieldType.boolean)) ∈ BG := bg_at 365 (by decide +kernel) (by decide +kernel)
theorem wd_337 : (Cond.methodLink "LeatherRoom$Shape" (81 : Nat) ({ cls := "java/lang/Integer", name := "signum", desc := "(I)I" } : Jvm.MethodName)) ∈ BG := bg_at 366 (by decide +kernel) (by decide +kernel)
theorem wd_338 : (Cond.static ({ cls := "java/lang/Integer", name := "signum", desc := "(I)I" } : Jvm.MethodName)) ∈ BG := bg_at 367 (by decide +kernel) (by decide +kernel)
theorem wd_339 : (Cond.code ({ cls := "java/lang/Integer", name := "signum", desc := "(I)I" } : Jvm.MethodName) prog_11_method_56_code (1 : Nat) (Option.some Jvm.ClassFile.FieldType.int)) ∈ BG := bg_at 368 (by decide +kernel) (by decide +kernel)
theorem wd_341 : (Cond.methodLink "LeatherRoomLaw" (72 : Nat) ({ cls := "LeatherRoomLaw", name := "zone", desc := "(LLeatherRoom;I[J)I" } : Jvm.MethodName)) ∈ BG := bg_at 370 (by decide +kernel) (by decide +kernel)
theorem wd_342 : (Cond.static ({ cls := "LeatherRoomLaw", name := "zone", desc := "(LLeatherRoom;I[J)I" } : Jvm.MethodName)) ∈ BG := bg_at 371 (by decide +kernel) (by decide +kernel)
theorem wd_343 : (Cond.codeWith ({ cls := "LeatherRoomLaw", name := "zone", desc := "(LLeatherRoom;I[J)I" } : Jvm.MethodName) method_5_code (4 : Nat) (Option.some Jvm.ClassFile.FieldType.int) [((0 : Nat), (9 : Nat), (12 : Nat), (13 : Nat)), ((0 : Nat), (9 : Nat), (15 : Nat), (15 : Nat))]) ∈ BG := bg_at 372 (by decide +kernel) (by decide +kernel)
theorem wd_344 : (Cond.methodLink "LeatherRoomLaw" (20 : Nat) ({ cls := "LeatherRoom", name := "zone", desc := "(I)I" } : Jvm.MethodName)) ∈ BG := bg_at 373 (by decide +kernel) (by decide +kernel)
theorem wd_345 : (Cond.instanceMethod ({ cls := "LeatherRoom", name := "zone", desc := "(I)I" } : Jvm.MethodName)) ∈ BG := bg_at 374 (by decide +kernel) (by decide +kernel)
theorem wd_346 : (Cond.selects "LeatherRoom" ({ cls := "LeatherRoom", name := "zone", desc := "(I)I" } : Jvm.MethodName) ({ cls := "LeatherRoom", name := "zone", desc := "(I)I" } : Jvm.MethodName)) ∈ BG := bg_at 375 (by decide +kernel) (by decide +kernel)
theorem wd_347 : (Cond.code ({ cls := "LeatherRoom", name := "zone", desc := "(I)I" } : Jvm.MethodName) prog_1_method_4_code (3 : Nat) (Option.some Jvm.ClassFile.FieldType.int)) ∈ BG := bg_at 376 (by decide +kernel) (by decide +kernel)
theorem wd_349 : (Cond.methodLink "LeatherRoom" (88 : Nat) ({ cls := "LeatherRoom$Shape", name := "isRound", desc := "()Z" } : Jvm.MethodName)) ∈ BG := bg_at 378 (by decide +kernel) (by decide +kernel)
theorem wd_350 : (Cond.instanceMethod ({ cls := "LeatherRoom$Shape", name := "isRound", desc := "()Z" } : Jvm.MethodName)) ∈ BG := bg_at 379 (by decide +kernel) (by decide +kernel)
theorem wd_351 : (Cond.selects "LeatherRoom$Shape" ({ cls := "LeatherRoom$Shape", name := "isRound", desc := "()Z" } : Jvm.MethodName) ({ cls := "LeatherRoom$Shape", name := "isRound", desc := "()Z" } : Jvm.MethodName)) ∈ BG := bg_at 380 (by decide +kernel) (by decide +kernel)
theorem wd_352 : (Cond.code ({ cls := "LeatherRoom$Shape", name := "isRound", desc := "()Z" } : Jvm.MethodName) prog_4_method_10_code (5 : Nat) (Option.some Jvm.ClassFile.FieldType.boolean)) ∈ BG := bg_at 381 (by decide +kernel) (by decide +kernel)
theorem wd_355 : (Cond.methodLink "LeatherRoom" (98 : Nat) ({ cls := "LeatherRoom$Zone", name := "become", desc := "(ILLeatherRoom$Shape;)V" } : Jvm.MethodName)) ∈ BG := bg_at 384 (by decide +kernel) (by decide +kernel)
theorem wd_356 : (Cond.instanceMethod ({ cls := "LeatherRoom$Zone", name := "become", desc := "(ILLeatherRoom$Shape;)V" } : Jvm.MethodName)) ∈ BG := bg_at 385 (by decide +kernel) (by decide +kernel)
theorem wd_357 : (Cond.selects "LeatherRoom$Zone" ({ cls := "LeatherRoom$Zone", name := "become", desc := "(ILLeatherRoom$Shape;)V" } : Jvm.MethodName) ({ cls := "LeatherRoom$Zone", name := "become", desc := "(ILLeatherRoom$Shape;)V" } : Jvm.MethodName)) ∈ BG := bg_at 386 (by decide +kernel) (by decide +kernel)
theorem wd_358 : (Cond.code ({ cls := "LeatherRoom$Zone", name := "become", desc := "(ILLeatherRoom$Shape;)V" } : Jvm.MethodName) prog_5_method_2_code (3 : Nat) (Option.none : Option Jvm.ClassFile.FieldType)) ∈ BG := bg_at 387 (by decide +kernel) (by decide +kernel)
theorem wd_359 : (Cond.methodLink "LeatherRoom$Zone" (20 : Nat) ({ cls := "LeatherRoom$Shape", name := "copyLeftward", desc := "(LLeatherRoom$Shape;II)V" } : Jvm.MethodName)) ∈ BG := bg_at 388 (by decide +kernel) (by decide +kernel)
theorem wd_360 : (Cond.instanceMethod ({ cls := "LeatherRoom$Shape", name := "copyLeftward", desc := "(LLeatherRoom$Shape;II)V" } : Jvm.MethodName)) ∈ BG := bg_at 389 (by decide +kernel) (by decide +kernel)
theorem wd_361 : (Cond.selects "LeatherRoom$Shape" ({ cls := "LeatherRoom$Shape", name := "copyLeftward", desc := "(LLeatherRoom$Shape;II)V" } : Jvm.MethodName) ({ cls := "LeatherRoom$Shape", name := "copyLeftward", desc := "(LLeatherRoom$Shape;II)V" } : Jvm.MethodName)) ∈ BG := bg_at 390 (by decide +kernel) (by decide +kernel)
theorem wd_362 : (Cond.code ({ cls := "LeatherRoom$Shape", name := "copyLeftward", desc := "(LLeatherRoom$Shape;II)V" } : Jvm.MethodName) prog_4_method_5_code (5 : Nat) (Option.none : Option Jvm.ClassFile.FieldType)) ∈ BG := bg_at 391 (by decide +kernel) (by decide +kernel)
theorem wd_363 : (Cond.methodLink "LeatherRoom$Shape" (50 : Nat) ({ cls := "LeatherRoom$Shape", name := "doubleArea", desc := "()I" } : Jvm.MethodName)) ∈ BG := bg_at 392 (by decide +kernel) (by decide +kernel)
theorem wd_364 : (Cond.methodLink "LeatherRoom$Shape" (54 : Nat) ({ cls := "LeatherRoom$Shape", name := "copy", desc := "(LLeatherRoom$Shape;II)V" } : Jvm.MethodName)) ∈ BG := bg_at 393 (by decide +kernel) (by decide +kernel)
theorem wd_365 : (Cond.methodLink "LeatherRoomLaw" (76 : Nat) ({ cls := "LeatherRoomLaw", name := "clear", desc := "(LLeatherRoom;)I" } : Jvm.MethodName)) ∈ BG := bg_at 394 (by decide +kernel) (by decide +kernel)
theorem wd_366 : (Cond.static ({ cls := "LeatherRoomLaw", name := "clear", desc := "(LLeatherRoom;)I" } : Jvm.MethodName)) ∈ BG := bg_at 395 (by decide +kernel) (by decide +kernel)
theorem wd_367 : (Cond.codeWith ({ cls := "LeatherRoomLaw", name := "clear", desc := "(LLeatherRoom;)I" } : Jvm.MethodName) method_6_code (2 : Nat) (Option.some Jvm.ClassFile.FieldType.int) [((0 : Nat), (4 : Nat), (7 : Nat), (15 : Nat))]) ∈ BG := bg_at 396 (by decide +kernel) (by decide +kernel)
theorem wd_368 : (Cond.methodLink "LeatherRoomLaw" (24 : Nat) ({ cls := "LeatherRoom", name := "clear", desc := "()V" } : Jvm.MethodName)) ∈ BG := bg_at 397 (by decide +kernel) (by decide +kernel)
theorem wd_369 : (Cond.instanceMethod ({ cls := "LeatherRoom", name := "clear", desc := "()V" } : Jvm.MethodName)) ∈ BG := bg_at 398 (by decide +kernel) (by decide +kernel)
theorem wd_370 : (Cond.selects "LeatherRoom" ({ cls := "LeatherRoom", name := "clear", desc := "()V" } : Jvm.MethodName) ({ cls := "LeatherRoom", name := "clear", desc := "()V" } : Jvm.MethodName)) ∈ BG := bg_at 399 (by decide +kernel) (by decide +kernel)
theorem wd_371 : (Cond.code ({ cls := "LeatherRoom", name := "clear", desc := "()V" } : Jvm.MethodName) prog_1_method_5_code (1 : Nat) (Option.none : Option Jvm.ClassFile.FieldType)) ∈ BG := bg_at 400 (by decide +kernel) (by decide +kernel)
theorem wd_372 : (Cond.methodLink "LeatherRoomLaw" (79 : Nat) ({ cls := "LeatherRoomLaw", name := "kind", desc := "(LLeatherRoom;II[J)I" } : Jvm.MethodName)) ∈ BG := bg_at 401 (by decide +kernel) (by decide +kernel)
theorem wd_373 : (Cond.static ({ cls := "LeatherRoomLaw", name := "kind", desc := "(LLeatherRoom;II[J)I" } : Jvm.MethodName)) ∈ BG := bg_at 402 (by decide +kernel) (by decide +kernel)
theorem wd_374 : (Cond.codeWith ({ cls := "LeatherRoomLaw", name := "kind", desc := "(LLeatherRoom;II[J)I" } : Jvm.MethodName) method_7_code (5 : Nat) (Option.some Jvm.ClassFile.FieldType.int) [((0 : Nat), (10 : Nat), (13 : Nat), (13 : Nat)), ((0 : Nat), (10 : Nat), (17 : Nat), (15 : Nat))]) ∈ BG := bg_at 403 (by decide +kernel) (by decide +kernel)
theorem wd_375 : (Cond.methodLink "LeatherRoomLaw" (27 : Nat) ({ cls := "LeatherRoom", name := "kind", desc := "(II)I" } : Jvm.MethodName)) ∈ BG := bg_at 404 (by decide +kernel) (by decide +kernel)
theorem wd_376 : (Cond.instanceMethod ({ cls := "LeatherRoom", name := "kind", desc := "(II)I" } : Jvm.MethodName)) ∈ BG := bg_at 405 (by decide +kernel) (by decide +kernel)
theorem wd_377 : (Cond.selects "LeatherRoom" ({ cls := "LeatherRoom", name := "kind", desc := "(II)I" } : Jvm.MethodName) ({ cls := "LeatherRoom", name := "kind", desc := "(II)I" } : Jvm.MethodName)) ∈ BG := bg_at 406 (by decide +kernel) (by decide +kernel)
theorem wd_378 : (Cond.code ({ cls := "LeatherRoom", name := "kind", desc := "(II)I" } : Jvm.MethodName) prog_1_method_6_code (4 : Nat) (Option.some Jvm.ClassFile.FieldType.int)) ∈ BG := bg_at 407 (by decide +kernel) (by decide +kernel)
theorem wd_383 : (Cond.methodLink "LeatherRoom" (119 : Nat) ({ cls := "LeatherRoom$Kind", name := "become", desc := "(IILLeatherRoom$Shape;)V" } : Jvm.MethodName)) ∈ BG := bg_at 412 (by decide +kernel) (by decide +kernel)
theorem wd_384 : (Cond.instanceMethod ({ cls := "LeatherRoom$Kind", name := "become", desc := "(IILLeatherRoom$Shape;)V" } : Jvm.MethodName)) ∈ BG := bg_at 413 (by decide +kernel) (by decide +kernel)
theorem wd_385 : (Cond.selects "LeatherRoom$Kind" ({ cls := "LeatherRoom$Kind", name := "become", desc := "(IILLeatherRoom$Shape;)V" } : Jvm.MethodName) ({ cls := "LeatherRoom$Kind", name := "become", desc := "(IILLeatherRoom$Shape;)V" } : Jvm.MethodName)) ∈ BG := bg_at 414 (by decide +kernel) (by decide +kernel)
theorem wd_386 : (Cond.code ({ cls := "LeatherRoom$Kind", name := "become", desc := "(IILLeatherRoom$Shape;)V" } : Jvm.MethodName) prog_2_method_2_code (5 : Nat) (Option.none : Option Jvm.ClassFile.FieldType)) ∈ BG := bg_at 415 (by decide +kernel) (by decide +kernel)
theorem wd_387 : (Cond.methodLink "LeatherRoom$Kind" (31 : Nat) ({ cls := "LeatherRoom$Shape", name := "copyLeftward", desc := "(LLeatherRoom$Shape;II)V" } : Jvm.MethodName)) ∈ BG := bg_at 416 (by decide +kernel) (by decide +kernel)
theorem wd_388 : (Cond.methodLink "LeatherRoom$Kind" (35 : Nat) ({ cls := "LeatherRoom$Shape", name := "copyTurned", desc := "(LLeatherRoom$Shape;)V" } : Jvm.MethodName)) ∈ BG := bg_at 417 (by decide +kernel) (by decide +kernel)
theorem wd_389 : (Cond.instanceMethod ({ cls := "LeatherRoom$Shape", name := "copyTurned", desc := "(LLeatherRoom$Shape;)V" } : Jvm.MethodName)) ∈ BG := bg_at 418 (by decide +kernel) (by decide +kernel)
theorem wd_390 : (Cond.selects "LeatherRoom$Shape" ({ cls := "LeatherRoom$Shape", name := "copyTurned", desc := "(LLeatherRoom$Shape;)V" } : Jvm.MethodName) ({ cls := "LeatherRoom$Shape", name := "copyTurned", desc := "(LLeatherRoom$Shape;)V" } : Jvm.MethodName)) ∈ BG := bg_at 419 (by decide +kernel) (by decide +kernel)
theorem wd_391 : (Cond.code ({ cls := "LeatherRoom$Shape", name := "copyTurned", desc := "(LLeatherRoom$Shape;)V" } : Jvm.MethodName) prog_4_method_6_code (3 : Nat) (Option.none : Option Jvm.ClassFile.FieldType)) ∈ BG := bg_at 420 (by decide +kernel) (by decide +kernel)
theorem wd_392 : (Cond.methodLink "LeatherRoomLaw" (82 : Nat) ({ cls := "LeatherRoomLaw", name := "fits", desc := "(LLeatherRoom;IIII[J)I" } : Jvm.MethodName)) ∈ BG := bg_at 421 (by decide +kernel) (by decide +kernel)
theorem wd_393 : (Cond.static ({ cls := "LeatherRoomLaw", name := "fits", desc := "(LLeatherRoom;IIII[J)I" } : Jvm.MethodName)) ∈ BG := bg_at 422 (by decide +kernel) (by decide +kernel)
theorem wd_394 : (Cond.codeWith ({ cls := "LeatherRoomLaw", name := "fits", desc := "(LLeatherRoom;IIII[J)I" } : Jvm.MethodName) method_8_code (7 : Nat) (Option.some Jvm.ClassFile.FieldType.int) [((0 : Nat), (21 : Nat), (24 : Nat), (13 : Nat))]) ∈ BG := bg_at 423 (by decide +kernel) (by decide +kernel)
theorem wd_395 : (Cond.methodLink "LeatherRoomLaw" (30 : Nat) ({ cls := "LeatherRoom", name := "fits", desc := "(IIII)Z" } : Jvm.MethodName)) ∈ BG := bg_at 424 (by decide +kernel) (by decide +kernel)
theorem wd_396 : (Cond.instanceMethod ({ cls := "LeatherRoom", name := "fits", desc := "(IIII)Z" } : Jvm.MethodName)) ∈ BG := bg_at 425 (by decide +kernel) (by decide +kernel)
theorem wd_397 : (Cond.selects "LeatherRoom" ({ cls := "LeatherRoom", name := "fits", desc := "(IIII)Z" } : Jvm.MethodName) ({ cls := "LeatherRoom", name := "fits", desc := "(IIII)Z" } : Jvm.MethodName)) ∈ BG := bg_at 426 (by decide +kernel) (by decide +kernel)
theorem wd_398 : (Cond.code ({ cls := "LeatherRoom", name := "fits", desc := "(IIII)Z" } : Jvm.MethodName) prog_1_method_7_code (5 : Nat) (Option.some Jvm.ClassFile.FieldType.boolean)) ∈ BG := bg_at 427 (by decide +kernel) (by decide +kernel)
theorem wd_399 : (Cond.methodLink "LeatherRoom" (122 : Nat) ({ cls := "LeatherRoom", name := "isKind", desc := "(I)Z" } : Jvm.MethodName)) ∈ BG := bg_at 428 (by decide +kernel) (by decide +kernel)
theorem wd_401 : (Cond.instanceMethod ({ cls := "LeatherRoom", name := "isKind", desc := "(I)Z" } : Jvm.MethodName)) ∈ BG := bg_at 430 (by decide +kernel) (by decide +kernel)
theorem wd_402 : (Cond.code ({ cls := "LeatherRoom", name := "isKind", desc := "(I)Z" } : Jvm.MethodName) prog_1_method_18_code (2 : Nat) (Option.some Jvm.ClassFile.FieldType.boolean)) ∈ BG := bg_at 431 (by decide +kernel) (by decide +kernel)
theorem wd_403 : (Cond.methodLink "LeatherRoom" (126 : Nat) ({ cls := "LeatherRoom", name := "isTurn", desc := "(I)Z" } : Jvm.MethodName)) ∈ BG := bg_at 432 (by decide +kernel) (by decide +kernel)
theorem wd_404 : (Cond.static ({ cls := "LeatherRoom", name := "isTurn", desc := "(I)Z" } : Jvm.MethodName)) ∈ BG := bg_at 433 (by decide +kernel) (by decide +kernel)
theorem wd_405 : (Cond.code ({ cls := "LeatherRoom", name := "isTurn", desc := "(I)Z" } : Jvm.MethodName) prog_1_method_17_code (1 : Nat) (Option.some Jvm.ClassFile.FieldType.boolean)) ∈ BG := bg_at 434 (by decide +kernel) (by decide +kernel)
theorem wd_407 : (Cond.methodLink "LeatherRoom" (131 : Nat) ({ cls := "LeatherRoom", name := "canLie", desc := "(LLeatherRoom$Kind;III)Z" } : Jvm.MethodName)) ∈ BG := bg_at 436 (by decide +kernel) (by decide +kernel)
theorem wd_409 : (Cond.instanceMethod ({ cls := "LeatherRoom", name := "canLie", desc := "(LLeatherRoom$Kind;III)Z" } : Jvm.MethodName)) ∈ BG := bg_at 438 (by decide +kernel) (by decide +kernel)
theorem wd_410 : (Cond.code ({ cls := "LeatherRoom", name := "canLie", desc := "(LLeatherRoom$Kind;III)Z" } : Jvm.MethodName) prog_1_method_21_code (6 : Nat) (Option.some Jvm.ClassFile.FieldType.boolean)) ∈ BG := bg_at 439 (by decide +kernel) (by decide +kernel)
theorem wd_411 : (Cond.methodLink "LeatherRoom" (196 : Nat) ({ cls := "LeatherRoom$Kind", name := "hasTurn", desc := "(I)Z" } : Jvm.MethodName)) ∈ BG := bg_at 440 (by decide +kernel) (by decide +kernel)
theorem wd_412 : (Cond.instanceMethod ({ cls := "LeatherRoom$Kind", name := "hasTurn", desc := "(I)Z" } : Jvm.MethodName)) ∈ BG := bg_at 441 (by decide +kernel) (by decide +kernel)
theorem wd_413 : (Cond.selects "LeatherRoom$Kind" ({ cls := "LeatherRoom$Kind", name := "hasTurn", desc := "(I)Z" } : Jvm.MethodName) ({ cls := "LeatherRoom$Kind", name := "hasTurn", desc := "(I)Z" } : Jvm.MethodName)) ∈ BG := bg_at 442 (by decide +kernel) (by decide +kernel)
theorem wd_414 : (Cond.code ({ cls := "LeatherRoom$Kind", name := "hasTurn", desc := "(I)Z" } : Jvm.MethodName) prog_2_method_3_code (2 : Nat) (Option.some Jvm.ClassFile.FieldType.boolean)) ∈ BG := bg_at 443 (by decide +kernel) (by decide +kernel)
theorem wd_415 : (Cond.methodLink "LeatherRoom" (203 : Nat) ({ cls := "LeatherRoom$Shape", name := "boxHolds", desc := "(LLeatherRoom$Shape;II)Z" } : Jvm.MethodName)) ∈ BG := bg_at 444 (by decide +kernel) (by decide +kernel)
theorem wd_416 : (Cond.instanceMethod ({ cls := "LeatherRoom$Shape", name := "boxHolds", desc := "(LLeatherRoom$Shape;II)Z" } : Jvm.MethodName)) ∈ BG := bg_at 445 (by decide +kernel) (by decide +kernel)
theorem wd_417 : (Cond.selects "LeatherRoom$Shape" ({ cls := "LeatherRoom$Shape", name := "boxHolds", desc := "(LLeatherRoom$Shape;II)Z" } : Jvm.MethodName) ({ cls := "LeatherRoom$Shape", name := "boxHolds", desc := "(LLeatherRoom$Shape;II)Z" } : Jvm.MethodName)) ∈ BG := bg_at 446 (by decide +kernel) (by decide +kernel)
theorem wd_418 : (Cond.code ({ cls := "LeatherRoom$Shape", name := "boxHolds", desc := "(LLeatherRoom$Shape;II)Z" } : Jvm.MethodName) prog_4_method_16_code (4 : Nat) (Option.some Jvm.ClassFile.FieldType.boolean)) ∈ BG := bg_at 447 (by decide +kernel) (by decide +kernel)
theorem wd_419 : (Cond.methodLink "LeatherRoom" (207 : Nat) ({ cls := "LeatherRoom", name := "isOffParts", desc := "(LLeatherRoom$Shape;II)Z" } : Jvm.MethodName)) ∈ BG := bg_at 448 (by decide +kernel) (by decide +kernel)
theorem wd_421 : (Cond.instanceMethod ({ cls := "LeatherRoom", name := "isOffParts", desc := "(LLeatherRoom$Shape;II)Z" } : Jvm.MethodName)) ∈ BG := bg_at 450 (by decide +kernel) (by decide +kernel)
theorem wd_422 : (Cond.code ({ cls := "LeatherRoom", name := "isOffParts", desc := "(LLeatherRoom$Shape;II)Z" } : Jvm.MethodName) prog_1_method_22_code (5 : Nat) (Option.some Jvm.ClassFile.FieldType.boolean)) ∈ BG := bg_at 451 (by decide +kernel) (by decide +kernel)
theorem wd_423 : (Cond.methodLink "LeatherRoom" (220 : Nat) ({ cls := "LeatherRoom$Shape", name := "overlaps", desc := "(LLeatherRoom$Shape;II)Z" } : Jvm.MethodName)) ∈ BG := bg_at 452 (by decide +kernel) (by decide +kernel)
theorem wd_424 : (Cond.instanceMethod ({ cls := "LeatherRoom$Shape", name := "overlaps", desc := "(LLeatherRoom$Shape;II)Z" } : Jvm.MethodName)) ∈ BG := bg_at 453 (by decide +kernel) (by decide +kernel)
theorem wd_425 : (Cond.selects "LeatherRoom$Shape" ({ cls := "LeatherRoom$Shape", name := "overlaps", desc := "(LLeatherRoom$Shape;II)Z" } : Jvm.MethodName) ({ cls := "LeatherRoom$Shape", name := "overlaps", desc := "(LLeatherRoom$Shape;II)Z" } : Jvm.MethodName)) ∈ BG := bg_at 454 (by decide +kernel) (by decide +kernel)
theorem wd_426 : (Cond.code ({ cls := "LeatherRoom$Shape", name := "overlaps", desc := "(LLeatherRoom$Shape;II)Z" } : Jvm.MethodName) prog_4_method_17_code (5 : Nat) (Option.some Jvm.ClassFile.FieldType.boolean)) ∈ BG := bg_at 455 (by decide +kernel) (by decide +kernel)
theorem wd_427 : (Cond.methodLink "LeatherRoom$Shape" (86 : Nat) ({ cls := "LeatherRoom$Shape", name := "sideParts", desc := "(LLeatherRoom$Shape;II)Z" } : Jvm.MethodName)) ∈ BG := bg_at 456 (by decide +kernel) (by decide +kernel)
theorem wd_428 : (Cond.instanceMethod ({ cls := "LeatherRoom$Shape", name := "sideParts", desc := "(LLeatherRoom$Shape;II)Z" } : Jvm.MethodName)) ∈ BG := bg_at 457 (by decide +kernel) (by decide +kernel)
theorem wd_429 : (Cond.selects "LeatherRoom$Shape" ({ cls := "LeatherRoom$Shape", name := "sideParts", desc := "(LLeatherRoom$Shape;II)Z" } : Jvm.MethodName) ({ cls := "LeatherRoom$Shape", name := "sideParts", desc := "(LLeatherRoom$Shape;II)Z" } : Jvm.MethodName)) ∈ BG := bg_at 458 (by decide +kernel) (by decide +kernel)
theorem wd_430 : (Cond.code ({ cls := "LeatherRoom$Shape", name := "sideParts", desc := "(LLeatherRoom$Shape;II)Z" } : Jvm.MethodName) prog_4_method_18_code (7 : Nat) (Option.some Jvm.ClassFile.FieldType.boolean)) ∈ BG := bg_at 459 (by decide +kernel) (by decide +kernel)
theorem wd_431 : (Cond.methodLink "LeatherRoom" (213 : Nat) ({ cls := "LeatherRoom", name := "isOffZones", desc := "(LLeatherRoom$Shape;III)Z" } : Jvm.MethodName)) ∈ BG := bg_at 460 (by decide +kernel) (by decide +kernel)
theorem wd_433 : (Cond.instanceMethod ({ cls := "LeatherRoom", name := "isOffZones", desc := "(LLeatherRoom$Shape;III)Z" } : Jvm.MethodName)) ∈ BG := bg_at 462 (by decide +kernel) (by decide +kernel)
theorem wd_434 : (Cond.code ({ cls := "LeatherRoom", name := "isOffZones", desc := "(LLeatherRoom$Shape;III)Z" } : Jvm.MethodName) prog_1_method_23_code (6 : Nat) (Option.some Jvm.ClassFile.FieldType.boolean)) ∈ BG := bg_at 463 (by decide +kernel) (by decide +kernel)
theorem wd_435 : (Cond.methodLink "LeatherRoom" (217 : Nat) ({ cls := "LeatherRoom$Shape", name := "holds", desc := "(LLeatherRoom$Shape;II)Z" } : Jvm.MethodName)) ∈ BG := bg_at 464 (by decide +kernel) (by decide +kernel)
theorem wd_436 : (Cond.instanceMethod ({ cls := "LeatherRoom$Shape", name := "holds", desc := "(LLeatherRoom$Shape;II)Z" } : Jvm.MethodName)) ∈ BG := bg_at 465 (by decide +kernel) (by decide +kernel)
theorem wd_437 : (Cond.selects "LeatherRoom$Shape" ({ cls := "LeatherRoom$Shape", name := "holds", desc := "(LLeatherRoom$Shape;II)Z" } : Jvm.MethodName) ({ cls := "LeatherRoom$Shape", name := "holds", desc := "(LLeatherRoom$Shape;II)Z" } : Jvm.MethodName)) ∈ BG := bg_at 466 (by decide +kernel) (by decide +kernel)
theorem wd_438 : (Cond.code ({ cls := "LeatherRoom$Shape", name := "holds", desc := "(LLeatherRoom$Shape;II)Z" } : Jvm.MethodName) prog_4_method_19_code (6 : Nat) (Option.some Jvm.ClassFile.FieldType.boolean)) ∈ BG := bg_at 467 (by decide +kernel) (by decide +kernel)
theorem wd_439 : (Cond.methodLink "LeatherRoom$Shape" (90 : Nat) ({ cls := "LeatherRoom$Shape", name := "sideCuts", desc := "(ILLeatherRoom$Shape;II)Z" } : Jvm.MethodName)) ∈ BG := bg_at 468 (by decide +kernel) (by decide +kernel)
theorem wd_440 : (Cond.instanceMethod ({ cls := "LeatherRoom$Shape", name := "sideCuts", desc := "(ILLeatherRoom$Shape;II)Z" } : Jvm.MethodName)) ∈ BG := bg_at 469 (by decide +kernel) (by decide +kernel)
theorem wd_441 : (Cond.selects "LeatherRoom$Shape" ({ cls := "LeatherRoom$Shape", name := "sideCuts", desc := "(ILLeatherRoom$Shape;II)Z" } : Jvm.MethodName) ({ cls := "LeatherRoom$Shape", name := "sideCuts", desc := "(ILLeatherRoom$Shape;II)Z" } : Jvm.MethodName)) ∈ BG := bg_at 470 (by decide +kernel) (by decide +kernel)
theorem wd_442 : (Cond.code ({ cls := "LeatherRoom$Shape", name := "sideCuts", desc := "(ILLeatherRoom$Shape;II)Z" } : Jvm.MethodName) prog_4_method_20_code (11 : Nat) (Option.some Jvm.ClassFile.FieldType.boolean)) ∈ BG := bg_at 471 (by decide +kernel) (by decide +kernel)
theorem wd_443 : (Cond.methodLink "LeatherRoom$Shape" (97 : Nat) ({ cls := "LeatherRoom$Shape", name := "lineCuts", desc := "(ILLeatherRoom$Shape;II)Z" } : Jvm.MethodName)) ∈ BG := bg_at 472 (by decide +kernel) (by decide +kernel)
theorem wd_444 : (Cond.instanceMethod ({ cls := "LeatherRoom$Shape", name := "lineCuts", desc := "(ILLeatherRoom$Shape;II)Z" } : Jvm.MethodName)) ∈ BG := bg_at 473 (by decide +kernel) (by decide +kernel)
theorem wd_445 : (Cond.selects "LeatherRoom$Shape" ({ cls := "LeatherRoom$Shape", name := "lineCuts", desc := "(ILLeatherRoom$Shape;II)Z" } : Jvm.MethodName) ({ cls := "LeatherRoom$Shape", name := "lineCuts", desc := "(ILLeatherRoom$Shape;II)Z" } : Jvm.MethodName)) ∈ BG := bg_at 474 (by decide +kernel) (by decide +kernel)
theorem wd_446 : (Cond.code ({ cls := "LeatherRoom$Shape", name := "lineCuts", desc := "(ILLeatherRoom$Shape;II)Z" } : Jvm.MethodName) prog_4_method_21_code (9 : Nat) (Option.some Jvm.ClassFile.FieldType.boolean)) ∈ BG := bg_at 475 (by decide +kernel) (by decide +kernel)
theorem wd_447 : (Cond.methodLink "LeatherRoom$Shape" (100 : Nat) ({ cls := "LeatherRoom$Shape", name := "isBeyond", desc := "(IIII)Z" } : Jvm.MethodName)) ∈ BG := bg_at 476 (by decide +kernel) (by decide +kernel)
theorem wd_448 : (Cond.instanceMethod ({ cls := "LeatherRoom$Shape", name := "isBeyond", desc := "(IIII)Z" } : Jvm.MethodName)) ∈ BG := bg_at 477 (by decide +kernel) (by decide +kernel)
theorem wd_449 : (Cond.selects "LeatherRoom$Shape" ({ cls := "LeatherRoom$Shape", name := "isBeyond", desc := "(IIII)Z" } : Jvm.MethodName) ({ cls := "LeatherRoom$Shape", name := "isBeyond", desc := "(IIII)Z" } : Jvm.MethodName)) ∈ BG := bg_at 478 (by decide +kernel) (by decide +kernel)
theorem wd_450 : (Cond.code ({ cls := "LeatherRoom$Shape", name := "isBeyond", desc := "(IIII)Z" } : Jvm.MethodName) prog_4_method_22_code (6 : Nat) (Option.some Jvm.ClassFile.FieldType.boolean)) ∈ BG := bg_at 479 (by decide +kernel) (by decide +kernel)
theorem wd_451 : (Cond.methodLink "LeatherRoom$Shape" (94 : Nat) ({ cls := "LeatherRoom$Shape", name := "surrounds", desc := "(II)Z" } : Jvm.MethodName)) ∈ BG := bg_at 480 (by decide +kernel) (by decide +kernel)
theorem wd_452 : (Cond.instanceMethod ({ cls := "LeatherRoom$Shape", name := "surrounds", desc := "(II)Z" } : Jvm.MethodName)) ∈ BG := bg_at 481 (by decide +kernel) (by decide +kernel)
theorem wd_453 : (Cond.selects "LeatherRoom$Shape" ({ cls := "LeatherRoom$Shape", name := "surrounds", desc := "(II)Z" } : Jvm.MethodName) ({ cls := "LeatherRoom$Shape", name := "surrounds", desc := "(II)Z" } : Jvm.MethodName)) ∈ BG := bg_at 482 (by decide +kernel) (by decide +kernel)
theorem wd_454 : (Cond.code ({ cls := "LeatherRoom$Shape", name := "surrounds", desc := "(II)Z" } : Jvm.MethodName) prog_4_method_23_code (9 : Nat) (Option.some Jvm.ClassFile.FieldType.boolean)) ∈ BG := bg_at 483 (by decide +kernel) (by decide +kernel)
theorem wd_455 : (Cond.methodLink "LeatherRoomLaw" (86 : Nat) ({ cls := "LeatherRoomLaw", name := "best", desc := "(LLeatherRoom;I[J)I" } : Jvm.MethodName)) ∈ BG := bg_at 484 (by decide +kernel) (by decide +kernel)
theorem wd_456 : (Cond.static ({ cls := "LeatherRoomLaw", name := "best", desc := "(LLeatherRoom;I[J)I" } : Jvm.MethodName)) ∈ BG := bg_at 485 (by decide +kernel) (by decide +kernel)
theorem wd_457 : (Cond.codeWith ({ cls := "LeatherRoomLaw", name := "best", desc := "(LLeatherRoom;I[J)I" } : Jvm.MethodName) method_9_code (4 : Nat) (Option.some Jvm.ClassFile.FieldType.int) [((0 : Nat), (9 : Nat), (12 : Nat), (13 : Nat)), ((0 : Nat), (9 : Nat), (15 : Nat), (37 : Nat))]) ∈ BG := bg_at 486 (by decide +kernel) (by decide +kernel)
theorem wd_458 : (Cond.classLink "LeatherRoomLaw" (37 : Nat) "java/util/NoSuchElementException") ∈ BG := bg_at 487 (by decide +kernel) (by decide +kernel)
theorem wd_459 : (Cond.methodLink "LeatherRoomLaw" (34 : Nat) ({ cls := "LeatherRoom", name := "best", desc := "(I)I" } : Jvm.MethodName)) ∈ BG := bg_at 488 (by decide +kernel) (by decide +kernel)
theorem wd_460 : (Cond.instanceMethod ({ cls := "LeatherRoom", name := "best", desc := "(I)I" } : Jvm.MethodName)) ∈ BG := bg_at 489 (by decide +kernel) (by decide +kernel)
theorem wd_461 : (Cond.selects "LeatherRoom" ({ cls := "LeatherRoom", name := "best", desc := "(I)I" } : Jvm.MethodName) ({ cls := "LeatherRoom", name := "best", desc := "(I)I" } : Jvm.MethodName)) ∈ BG := bg_at 490 (by decide +kernel) (by decide +kernel)
theorem wd_462 : (Cond.code ({ cls := "LeatherRoom", name := "best", desc := "(I)I" } : Jvm.MethodName) prog_1_method_8_code (3 : Nat) (Option.some Jvm.ClassFile.FieldType.int)) ∈ BG := bg_at 491 (by decide +kernel) (by decide +kernel)
theorem wd_464 : (Cond.methodLink "LeatherRoom" (137 : Nat) ({ cls := "LeatherRoom", name := "findPlace", desc := "(LLeatherRoom$Kind;)I" } : Jvm.MethodName)) ∈ BG := bg_at 493 (by decide +kernel) (by decide +kernel)
theorem wd_466 : (Cond.instanceMethod ({ cls := "LeatherRoom", name := "findPlace", desc := "(LLeatherRoom$Kind;)I" } : Jvm.MethodName)) ∈ BG := bg_at 495 (by decide +kernel) (by decide +kernel)
theorem wd_467 : (Cond.code ({ cls := "LeatherRoom", name := "findPlace", desc := "(LLeatherRoom$Kind;)I" } : Jvm.MethodName) prog_1_method_24_code (5 : Nat) (Option.some Jvm.ClassFile.FieldType.int)) ∈ BG := bg_at 496 (by decide +kernel) (by decide +kernel)
theorem wd_468 : (Cond.classLink "LeatherRoom" (141 : Nat) "java/util/NoSuchElementException") ∈ BG := bg_at 497 (by decide +kernel) (by decide +kernel)
theorem wd_469 : (Cond.instantiable "java/util/NoSuchElementException" (6 : Nat)) ∈ BG := bg_at 498 (by decide +kernel) (by decide +kernel)
theorem wd_471 : (Cond.selects "java/util/NoSuchElementException" ({ cls := "java/lang/Throwable", name := "fillInStackTrace", desc := "(I)Ljava/lang/Throwable;" } : Jvm.MethodName) ({ cls := "java/lang/Throwable", name := "fillInStackTrace", desc := "(I)Ljava/lang/Throwable;" } : Jvm.MethodName)) ∈ BG := bg_at 500 (by decide +kernel) (by decide +kernel)
theorem wd_472 : (Cond.lays "java/util/NoSuchElementException" "java/lang/Throwable" "cause" "Ljava/lang/Throwable;") ∈ BG := bg_at 501 (by decide +kernel) (by decide +kernel)
theorem wd_473 : (Cond.lays "java/util/NoSuchElementException" "java/lang/Throwable" "stackTrace" "[Ljava/lang/StackTraceElement;") ∈ BG := bg_at 502 (by decide +kernel) (by decide +kernel)
theorem wd_474 : (Cond.lays "java/util/NoSuchElementException" "java/lang/Throwable" "suppressedExceptions" "Ljava/util/List;") ∈ BG := bg_at 503 (by decide +kernel) (by decide +kernel)
theorem wd_475 : (Cond.lays "java/util/NoSuchElementException" "java/lang/Throwable" "detailMessage" "Ljava/lang/String;") ∈ BG := bg_at 504 (by decide +kernel) (by decide +kernel)
theorem wd_476 : (Cond.lays "java/util/NoSuchElementException" "java/lang/Throwable" "backtrace" "Ljava/lang/Object;") ∈ BG := bg_at 505 (by decide +kernel) (by decide +kernel)
theorem wd_478 : (Cond.methodLink "LeatherRoom" (145 : Nat) ({ cls := "java/util/NoSuchElementException", name := "<init>", desc := "(Ljava/lang/String;)V" } : Jvm.MethodName)) ∈ BG := bg_at 507 (by decide +kernel) (by decide +kernel)
theorem wd_479 : (Cond.instanceMethod ({ cls := "java/util/NoSuchElementException", name := "<init>", desc := "(Ljava/lang/String;)V" } : Jvm.MethodName)) ∈ BG := bg_at 508 (by decide +kernel) (by decide +kernel)
theorem wd_480 : (Cond.code ({ cls := "java/util/NoSuchElementException", name := "<init>", desc := "(Ljava/lang/String;)V" } : Jvm.MethodName) prog_17_method_4_code (2 : Nat) (Option.none : Option Jvm.ClassFile.FieldType)) ∈ BG := bg_at 509 (by decide +kernel) (by decide +kernel)
theorem wd_481 : (Cond.methodLink "java/util/NoSuchElementException" (13 : Nat) ({ cls := "java/lang/RuntimeException", name := "<init>", desc := "(Ljava/lang/String;)V" } : Jvm.MethodName)) ∈ BG := bg_at 510 (by decide +kernel) (by decide +kernel)
theorem wd_482 : (Cond.lays "java/util/NoSuchElementException" "java/lang/Throwable" "depth" "I") ∈ BG := bg_at 511 (by decide +kernel) (by decide +kernel)
theorem wd_484 : (Cond.methodLink "LeatherRoomLaw" (89 : Nat) ({ cls := "LeatherRoomLaw", name := "lay", desc := "(LLeatherRoom;I[J)I" } : Jvm.MethodName)) ∈ BG := bg_at 513 (by decide +kernel) (by decide +kernel)
theorem wd_485 : (Cond.static ({ cls := "LeatherRoomLaw", name := "lay", desc := "(LLeatherRoom;I[J)I" } : Jvm.MethodName)) ∈ BG := bg_at 514 (by decide +kernel) (by decide +kernel)
theorem wd_486 : (Cond.codeWith ({ cls := "LeatherRoomLaw", name := "lay", desc := "(LLeatherRoom;I[J)I" } : Jvm.MethodName) method_10_code (4 : Nat) (Option.some Jvm.ClassFile.FieldType.int) [((0 : Nat), (9 : Nat), (12 : Nat), (13 : Nat)), ((0 : Nat), (9 : Nat), (15 : Nat), (15 : Nat)), ((0 : Nat), (9 : Nat), (18 : Nat), (37 : Nat))]) ∈ BG := bg_at 515 (by decide +kernel) (by decide +kernel)
theorem wd_487 : (Cond.methodLink "LeatherRoomLaw" (39 : Nat) ({ cls := "LeatherRoom", name := "lay", desc := "(I)I" } : Jvm.MethodName)) ∈ BG := bg_at 516 (by decide +kernel) (by decide +kernel)
theorem wd_488 : (Cond.instanceMethod ({ cls := "LeatherRoom", name := "lay", desc := "(I)I" } : Jvm.MethodName)) ∈ BG := bg_at 517 (by decide +kernel) (by decide +kernel)
theorem wd_489 : (Cond.selects "LeatherRoom" ({ cls := "LeatherRoom", name := "lay", desc := "(I)I" } : Jvm.MethodName) ({ cls := "LeatherRoom", name := "lay", desc := "(I)I" } : Jvm.MethodName)) ∈ BG := bg_at 518 (by decide +kernel) (by decide +kernel)
theorem wd_490 : (Cond.code ({ cls := "LeatherRoom", name := "lay", desc := "(I)I" } : Jvm.MethodName) prog_1_method_9_code (6 : Nat) (Option.some Jvm.ClassFile.FieldType.int)) ∈ BG := bg_at 519 (by decide +kernel) (by decide +kernel)
theorem wd_492 : (Cond.methodLink "LeatherRoom" (148 : Nat) ({ cls := "LeatherRoom", name := "addPart", desc := "(IIII)I" } : Jvm.MethodName)) ∈ BG := bg_at 521 (by decide +kernel) (by decide +kernel)
theorem wd_494 : (Cond.instanceMethod ({ cls := "LeatherRoom", name := "addPart", desc := "(IIII)I" } : Jvm.MethodName)) ∈ BG := bg_at 523 (by decide +kernel) (by decide +kernel)
theorem wd_495 : (Cond.code ({ cls := "LeatherRoom", name := "addPart", desc := "(IIII)I" } : Jvm.MethodName) prog_1_method_25_code (6 : Nat) (Option.some Jvm.ClassFile.FieldType.int)) ∈ BG := bg_at 524 (by decide +kernel) (by decide +kernel)
theorem wd_496 : (Cond.methodLink "LeatherRoom" (231 : Nat) ({ cls := "LeatherRoom$Part", name := "become", desc := "(IIII)V" } : Jvm.MethodName)) ∈ BG := bg_at 525 (by decide +kernel) (by decide +kernel)
theorem wd_497 : (Cond.instanceMethod ({ cls := "LeatherRoom$Part", name := "become", desc := "(IIII)V" } : Jvm.MethodName)) ∈ BG := bg_at 526 (by decide +kernel) (by decide +kernel)
theorem wd_498 : (Cond.selects "LeatherRoom$Part" ({ cls := "LeatherRoom$Part", name := "become", desc := "(IIII)V" } : Jvm.MethodName) ({ cls := "LeatherRoom$Part", name := "become", desc := "(IIII)V" } : Jvm.MethodName)) ∈ BG := bg_at 527 (by decide +kernel) (by decide +kernel)
theorem wd_499 : (Cond.code ({ cls := "LeatherRoom$Part", name := "become", desc := "(IIII)V" } : Jvm.MethodName) prog_3_method_2_code (5 : Nat) (Option.none : Option Jvm.ClassFile.FieldType)) ∈ BG := bg_at 528 (by decide +kernel) (by decide +kernel)
theorem wd_500 : (Cond.methodLink "LeatherRoomLaw" (92 : Nat) ({ cls := "LeatherRoomLaw", name := "put", desc := "(LLeatherRoom;IIII[J)I" } : Jvm.MethodName)) ∈ BG := bg_at 529 (by decide +kernel) (by decide +kernel)
theorem wd_501 : (Cond.static ({ cls := "LeatherRoomLaw", name := "put", desc := "(LLeatherRoom;IIII[J)I" } : Jvm.MethodName)) ∈ BG := bg_at 530 (by decide +kernel) (by decide +kernel)
theorem wd_502 : (Cond.codeWith ({ cls := "LeatherRoomLaw", name := "put", desc := "(LLeatherRoom;IIII[J)I" } : Jvm.MethodName) method_11_code (7 : Nat) (Option.some Jvm.ClassFile.FieldType.int) [((0 : Nat), (14 : Nat), (17 : Nat), (13 : Nat)), ((0 : Nat), (14 : Nat), (21 : Nat), (15 : Nat)), ((0 : Nat), (14 : Nat), (25 : Nat), (46 : Nat))]) ∈ BG := bg_at 531 (by decide +kernel) (by decide +kernel)
theorem wd_503 : (Cond.classLink "LeatherRoomLaw" (46 : Nat) "java/lang/UnsupportedOperationException") ∈ BG := bg_at 532 (by decide +kernel) (by decide +kernel)
theorem wd_504 : (Cond.methodLink "LeatherRoomLaw" (42 : Nat) ({ cls := "LeatherRoom", name := "put", desc := "(IIII)I" } : Jvm.MethodName)) ∈ BG := bg_at 533 (by decide +kernel) (by decide +kernel)
theorem wd_505 : (Cond.instanceMethod ({ cls := "LeatherRoom", name := "put", desc := "(IIII)I" } : Jvm.MethodName)) ∈ BG := bg_at 534 (by decide +kernel) (by decide +kernel)
theorem wd_506 : (Cond.selects "LeatherRoom" ({ cls := "LeatherRoom", name := "put", desc := "(IIII)I" } : Jvm.MethodName) ({ cls := "LeatherRoom", name := "put", desc := "(IIII)I" } : Jvm.MethodName)) ∈ BG := bg_at 535 (by decide +kernel) (by decide +kernel)
theorem wd_507 : (Cond.code ({ cls := "LeatherRoom", name := "put", desc := "(IIII)I" } : Jvm.MethodName) prog_1_method_10_code (5 : Nat) (Option.some Jvm.ClassFile.FieldType.int)) ∈ BG := bg_at 536 (by decide +kernel) (by decide +kernel)
theorem wd_508 : (Cond.classLink "LeatherRoom" (152 : Nat) "java/lang/UnsupportedOperationException") ∈ BG := bg_at 537 (by decide +kernel) (by decide +kernel)
theorem wd_509 : (Cond.instantiable "java/lang/UnsupportedOperationException" (6 : Nat)) ∈ BG := bg_at 538 (by decide +kernel) (by decide +kernel)
theorem wd_511 : (Cond.selects "java/lang/UnsupportedOperationException" ({ cls := "java/lang/Throwable", name := "fillInStackTrace", desc := "(I)Ljava/lang/Throwable;" } : Jvm.MethodName) ({ cls := "java/lang/Throwable", name := "fillInStackTrace", desc := "(I)Ljava/lang/Throwable;" } : Jvm.MethodName)) ∈ BG := bg_at 540 (by decide +kernel) (by decide +kernel)
theorem wd_512 : (Cond.lays "java/lang/UnsupportedOperationException" "java/lang/Throwable" "cause" "Ljava/lang/Throwable;") ∈ BG := bg_at 541 (by decide +kernel) (by decide +kernel)
theorem wd_513 : (Cond.lays "java/lang/UnsupportedOperationException" "java/lang/Throwable" "stackTrace" "[Ljava/lang/StackTraceElement;") ∈ BG := bg_at 542 (by decide +kernel) (by decide +kernel)
theorem wd_514 : (Cond.lays "java/lang/UnsupportedOperationException" "java/lang/Throwable" "suppressedExceptions" "Ljava/util/List;") ∈ BG := bg_at 543 (by decide +kernel) (by decide +kernel)
theorem wd_515 : (Cond.lays "java/lang/UnsupportedOperationException" "java/lang/Throwable" "detailMessage" "Ljava/lang/String;") ∈ BG := bg_at 544 (by decide +kernel) (by decide +kernel)
theorem wd_516 : (Cond.lays "java/lang/UnsupportedOperationException" "java/lang/Throwable" "backtrace" "Ljava/lang/Object;") ∈ BG := bg_at 545 (by decide +kernel) (by decide +kernel)
theorem wd_518 : (Cond.methodLink "LeatherRoom" (156 : Nat) ({ cls := "java/lang/UnsupportedOperationException", name := "<init>", desc := "(Ljava/lang/String;)V" } : Jvm.MethodName)) ∈ BG := bg_at 547 (by decide +kernel) (by decide +kernel)
theorem wd_519 : (Cond.instanceMethod ({ cls := "java/lang/UnsupportedOperationException", name := "<init>", desc := "(Ljava/lang/String;)V" } : Jvm.MethodName)) ∈ BG := bg_at 548 (by decide +kernel) (by decide +kernel)
theorem wd_520 : (Cond.code ({ cls := "java/lang/UnsupportedOperationException", name := "<init>", desc := "(Ljava/lang/String;)V" } : Jvm.MethodName) prog_16_method_2_code (2 : Nat) (Option.none : Option Jvm.ClassFile.FieldType)) ∈ BG := bg_at 549 (by decide +kernel) (by decide +kernel)
theorem wd_521 : (Cond.methodLink "java/lang/UnsupportedOperationException" (7 : Nat) ({ cls := "java/lang/RuntimeException", name := "<init>", desc := "(Ljava/lang/String;)V" } : Jvm.MethodName)) ∈ BG := bg_at 550 (by decide +kernel) (by decide +kernel)
theorem wd_522 : (Cond.lays "java/lang/UnsupportedOperationException" "java/lang/Throwable" "depth" "I") ∈ BG := bg_at 551 (by decide +kernel) (by decide +kernel)
theorem wd_524 : (Cond.methodLink "LeatherRoomLaw" (95 : Nat) ({ cls := "LeatherRoomLaw", name := "take", desc := "(LLeatherRoom;I[J)I" } : Jvm.MethodName)) ∈ BG := bg_at 553 (by decide +kernel) (by decide +kernel)
theorem wd_525 : (Cond.static ({ cls := "LeatherRoomLaw", name := "take", desc := "(LLeatherRoom;I[J)I" } : Jvm.MethodName)) ∈ BG := bg_at 554 (by decide +kernel) (by decide +kernel)
theorem wd_526 : (Cond.codeWith ({ cls := "LeatherRoomLaw", name := "take", desc := "(LLeatherRoom;I[J)I" } : Jvm.MethodName) method_12_code (4 : Nat) (Option.some Jvm.ClassFile.FieldType.int) [((0 : Nat), (9 : Nat), (12 : Nat), (37 : Nat))]) ∈ BG := bg_at 555 (by decide +kernel) (by decide +kernel)
theorem wd_527 : (Cond.methodLink "LeatherRoomLaw" (48 : Nat) ({ cls := "LeatherRoom", name := "take", desc := "(I)I" } : Jvm.MethodName)) ∈ BG := bg_at 556 (by decide +kernel) (by decide +kernel)
theorem wd_528 : (Cond.instanceMethod ({ cls := "LeatherRoom", name := "take", desc := "(I)I" } : Jvm.MethodName)) ∈ BG := bg_at 557 (by decide +kernel) (by decide +kernel)
theorem wd_529 : (Cond.selects "LeatherRoom" ({ cls := "LeatherRoom", name := "take", desc := "(I)I" } : Jvm.MethodName) ({ cls := "LeatherRoom", name := "take", desc := "(I)I" } : Jvm.MethodName)) ∈ BG := bg_at 558 (by decide +kernel) (by decide +kernel)
theorem wd_530 : (Cond.code ({ cls := "LeatherRoom", name := "take", desc := "(I)I" } : Jvm.MethodName) prog_1_method_11_code (2 : Nat) (Option.some Jvm.ClassFile.FieldType.int)) ∈ BG := bg_at 559 (by decide +kernel) (by decide +kernel)
theorem wd_531 : (Cond.methodLink "LeatherRoom" (157 : Nat) ({ cls := "LeatherRoom", name := "isPart", desc := "(I)Z" } : Jvm.MethodName)) ∈ BG := bg_at 560 (by decide +kernel) (by decide +kernel)
theorem wd_533 : (Cond.instanceMethod ({ cls := "LeatherRoom", name := "isPart", desc := "(I)Z" } : Jvm.MethodName)) ∈ BG := bg_at 562 (by decide +kernel) (by decide +kernel)
theorem wd_534 : (Cond.code ({ cls := "LeatherRoom", name := "isPart", desc := "(I)Z" } : Jvm.MethodName) prog_1_method_19_code (2 : Nat) (Option.some Jvm.ClassFile.FieldType.boolean)) ∈ BG := bg_at 563 (by decide +kernel) (by decide +kernel)
theorem wd_536 : (Cond.methodLink "LeatherRoomLaw" (102 : Nat) ({ cls := "LeatherRoomLaw", name := "part", desc := "(LLeatherRoom;II[J)I" } : Jvm.MethodName)) ∈ BG := bg_at 565 (by decide +kernel) (by decide +kernel)
theorem wd_537 : (Cond.static ({ cls := "LeatherRoomLaw", name := "part", desc := "(LLeatherRoom;II[J)I" } : Jvm.MethodName)) ∈ BG := bg_at 566 (by decide +kernel) (by decide +kernel)
theorem wd_538 : (Cond.codeWith ({ cls := "LeatherRoomLaw", name := "part", desc := "(LLeatherRoom;II[J)I" } : Jvm.MethodName) method_13_code (5 : Nat) (Option.some Jvm.ClassFile.FieldType.int) [((0 : Nat), (10 : Nat), (13 : Nat), (13 : Nat)), ((0 : Nat), (10 : Nat), (17 : Nat), (37 : Nat))]) ∈ BG := bg_at 567 (by decide +kernel) (by decide +kernel)
theorem wd_539 : (Cond.methodLink "LeatherRoomLaw" (51 : Nat) ({ cls := "LeatherRoom", name := "part", desc := "(II)I" } : Jvm.MethodName)) ∈ BG := bg_at 568 (by decide +kernel) (by decide +kernel)
theorem wd_540 : (Cond.instanceMethod ({ cls := "LeatherRoom", name := "part", desc := "(II)I" } : Jvm.MethodName)) ∈ BG := bg_at 569 (by decide +kernel) (by decide +kernel)
theorem wd_541 : (Cond.selects "LeatherRoom" ({ cls := "LeatherRoom", name := "part", desc := "(II)I" } : Jvm.MethodName) ({ cls := "LeatherRoom", name := "part", desc := "(II)I" } : Jvm.MethodName)) ∈ BG := bg_at 570 (by decide +kernel) (by decide +kernel)
theorem wd_542 : (Cond.code ({ cls := "LeatherRoom", name := "part", desc := "(II)I" } : Jvm.MethodName) prog_1_method_13_code (3 : Nat) (Option.some Jvm.ClassFile.FieldType.int)) ∈ BG := bg_at 571 (by decide +kernel) (by decide +kernel)
theorem wd_544 : (Cond.classLink "LeatherRoomLaw" (55 : Nat) "LeatherRoomModel") ∈ BG := bg_at 573 (by decide +kernel) (by decide +kernel)
theorem wd_545 : (Cond.instantiable "LeatherRoomModel" (30 : Nat)) ∈ BG := bg_at 574 (by decide +kernel) (by decide +kernel)
theorem wd_546 : (Cond.methodLink "LeatherRoomLaw" (57 : Nat) ({ cls := "LeatherRoomModel", name := "<init>", desc := "()V" } : Jvm.MethodName)) ∈ BG := bg_at 575 (by decide +kernel) (by decide +kernel)
theorem wd_547 : (Cond.instanceMethod ({ cls := "LeatherRoomModel", name := "<init>", desc := "()V" } : Jvm.MethodName)) ∈ BG := bg_at 576 (by decide +kernel) (by decide +kernel)
theorem wd_548 : (Cond.code ({ cls := "LeatherRoomModel", name := "<init>", desc := "()V" } : Jvm.MethodName) prog_7_method_1_code (2 : Nat) (Option.none : Option Jvm.ClassFile.FieldType)) ∈ BG := bg_at 577 (by decide +kernel) (by decide +kernel)
theorem wd_549 : (Cond.methodLink "LeatherRoomModel" (1 : Nat) ({ cls := "java/lang/Object", name := "<init>", desc := "()V" } : Jvm.MethodName)) ∈ BG := bg_at 578 (by decide +kernel) (by decide +kernel)
theorem wd_550 : (Cond.fieldLink "LeatherRoomModel" (79 : Nat) "LeatherRoomModel" "code" "I") ∈ BG := bg_at 579 (by decide +kernel) (by decide +kernel)
theorem wd_551 : (Cond.fieldLink "LeatherRoomModel" (83 : Nat) "LeatherRoomModel" "waiting" "I") ∈ BG := bg_at 580 (by decide +kernel) (by decide +kernel)
theorem wd_552 : (Cond.fieldLink "LeatherRoomModel" (7 : Nat) "LeatherRoomModel" "waitX" "[I") ∈ BG := bg_at 581 (by decide +kernel) (by decide +kernel)
theorem wd_553 : (Cond.fieldLink "LeatherRoomModel" (13 : Nat) "LeatherRoomModel" "waitY" "[I") ∈ BG := bg_at 582 (by decide +kernel) (by decide +kernel)
theorem wd_554 : (Cond.fieldLink "LeatherRoomModel" (108 : Nat) "LeatherRoomModel" "hideCorners" "I") ∈ BG := bg_at 583 (by decide +kernel) (by decide +kernel)
theorem wd_555 : (Cond.fieldLink "LeatherRoomModel" (16 : Nat) "LeatherRoomModel" "hideX" "[I") ∈ BG := bg_at 584 (by decide +kernel) (by decide +kernel)
theorem wd_556 : (Cond.fieldLink "LeatherRoomModel" (19 : Nat) "LeatherRoomModel" "hideY" "[I") ∈ BG := bg_at 585 (by decide +kernel) (by decide +kernel)
theorem wd_557 : (Cond.fieldLink "LeatherRoomModel" (118 : Nat) "LeatherRoomModel" "zones" "I") ∈ BG := bg_at 586 (by decide +kernel) (by decide +kernel)
theorem wd_558 : (Cond.fieldLink "LeatherRoomModel" (22 : Nat) "LeatherRoomModel" "zoneX" "[I") ∈ BG := bg_at 587 (by decide +kernel) (by decide +kernel)
theorem wd_559 : (Cond.fieldLink "LeatherRoomModel" (25 : Nat) "LeatherRoomModel" "zoneY" "[I") ∈ BG := bg_at 588 (by decide +kernel) (by decide +kernel)
theorem wd_560 : (Cond.fieldLink "LeatherRoomModel" (28 : Nat) "LeatherRoomModel" "zoneCorners" "[I") ∈ BG := bg_at 589 (by decide +kernel) (by decide +kernel)
theorem wd_561 : (Cond.fieldLink "LeatherRoomModel" (31 : Nat) "LeatherRoomModel" "zoneGrade" "[I") ∈ BG := bg_at 590 (by decide +kernel) (by decide +kernel)
theorem wd_562 : (Cond.fieldLink "LeatherRoomModel" (121 : Nat) "LeatherRoomModel" "kinds" "I") ∈ BG := bg_at 591 (by decide +kernel) (by decide +kernel)
theorem wd_563 : (Cond.fieldLink "LeatherRoomModel" (34 : Nat) "LeatherRoomModel" "kindX" "[I") ∈ BG := bg_at 592 (by decide +kernel) (by decide +kernel)
theorem wd_564 : (Cond.fieldLink "LeatherRoomModel" (37 : Nat) "LeatherRoomModel" "kindY" "[I") ∈ BG := bg_at 593 (by decide +kernel) (by decide +kernel)
theorem wd_565 : (Cond.fieldLink "LeatherRoomModel" (40 : Nat) "LeatherRoomModel" "kindCorners" "[I") ∈ BG := bg_at 594 (by decide +kernel) (by decide +kernel)
theorem wd_566 : (Cond.fieldLink "LeatherRoomModel" (43 : Nat) "LeatherRoomModel" "kindGrade" "[I") ∈ BG := bg_at 595 (by decide +kernel) (by decide +kernel)
theorem wd_567 : (Cond.fieldLink "LeatherRoomModel" (46 : Nat) "LeatherRoomModel" "kindTurns" "[I") ∈ BG := bg_at 596 (by decide +kernel) (by decide +kernel)
theorem wd_568 : (Cond.fieldLink "LeatherRoomModel" (49 : Nat) "LeatherRoomModel" "partKind" "[I") ∈ BG := bg_at 597 (by decide +kernel) (by decide +kernel)
theorem wd_569 : (Cond.fieldLink "LeatherRoomModel" (52 : Nat) "LeatherRoomModel" "partX" "[I") ∈ BG := bg_at 598 (by decide +kernel) (by decide +kernel)
theorem wd_570 : (Cond.fieldLink "LeatherRoomModel" (55 : Nat) "LeatherRoomModel" "partY" "[I") ∈ BG := bg_at 599 (by decide +kernel) (by decide +kernel)
theorem wd_571 : (Cond.fieldLink "LeatherRoomModel" (58 : Nat) "LeatherRoomModel" "partTurn" "[I") ∈ BG := bg_at 600 (by decide +kernel) (by decide +kernel)
theorem wd_572 : (Cond.fieldLink "LeatherRoomModel" (61 : Nat) "LeatherRoomModel" "cornerX" "[I") ∈ BG := bg_at 601 (by decide +kernel) (by decide +kernel)
theorem wd_573 : (Cond.fieldLink "LeatherRoomModel" (64 : Nat) "LeatherRoomModel" "cornerY" "[I") ∈ BG := bg_at 602 (by decide +kernel) (by decide +kernel)
theorem wd_574 : (Cond.fieldLink "LeatherRoomModel" (124 : Nat) "LeatherRoomModel" "many" "I") ∈ BG := bg_at 603 (by decide +kernel) (by decide +kernel)
theorem wd_575 : (Cond.fieldLink "LeatherRoomModel" (67 : Nat) "LeatherRoomModel" "x" "[I") ∈ BG := bg_at 604 (by decide +kernel) (by decide +kernel)
theorem wd_576 : (Cond.fieldLink "LeatherRoomModel" (70 : Nat) "LeatherRoomModel" "y" "[I") ∈ BG := bg_at 605 (by decide +kernel) (by decide +kernel)
theorem wd_577 : (Cond.fieldLink "LeatherRoomModel" (129 : Nat) "LeatherRoomModel" "otherMany" "I") ∈ BG := bg_at 606 (by decide +kernel) (by decide +kernel)
theorem wd_578 : (Cond.fieldLink "LeatherRoomModel" (73 : Nat) "LeatherRoomModel" "otherX" "[I") ∈ BG := bg_at 607 (by decide +kernel) (by decide +kernel)
theorem wd_579 : (Cond.fieldLink "LeatherRoomModel" (76 : Nat) "LeatherRoomModel" "otherY" "[I") ∈ BG := bg_at 608 (by decide +kernel) (by decide +kernel)
theorem wd_580 : (Cond.lays "LeatherRoomModel" "LeatherRoomModel" "code" "I") ∈ BG := bg_at 609 (by decide +kernel) (by decide +kernel)
theorem wd_582 : (Cond.lays "LeatherRoomModel" "LeatherRoomModel" "waiting" "I") ∈ BG := bg_at 611 (by decide +kernel) (by decide +kernel)
theorem wd_584 : (Cond.laysFinal "LeatherRoomModel" "LeatherRoomModel" "waitX" "[I") ∈ BG := bg_at 613 (by decide +kernel) (by decide +kernel)
theorem wd_586 : (Cond.laysFinal "LeatherRoomModel" "LeatherRoomModel" "waitY" "[I") ∈ BG := bg_at 615 (by decide +kernel) (by decide +kernel)
theorem wd_588 : (Cond.lays "LeatherRoomModel" "LeatherRoomModel" "hideCorners" "I") ∈ BG := bg_at 617 (by decide +kernel) (by decide +kernel)
theorem wd_590 : (Cond.laysFinal "LeatherRoomModel" "LeatherRoomModel" "hideX" "[I") ∈ BG := bg_at 619 (by decide +kernel) (by decide +kernel)
theorem wd_592 : (Cond.laysFinal "LeatherRoomModel" "LeatherRoomModel" "hideY" "[I") ∈ BG := bg_at 621 (by decide +kernel) (by decide +kernel)
theorem wd_594 : (Cond.lays "LeatherRoomModel" "LeatherRoomModel" "zones" "I") ∈ BG := bg_at 623 (by decide +kernel) (by decide +kernel)
theorem wd_596 : (Cond.laysFinal "LeatherRoomModel" "LeatherRoomModel" "zoneX" "[I") ∈ BG := bg_at 625 (by decide +kernel) (by decide +kernel)
theorem wd_598 : (Cond.laysFinal "LeatherRoomModel" "LeatherRoomModel" "zoneY" "[I") ∈ BG := bg_at 627 (by decide +kernel) (by decide +kernel)
theorem wd_600 : (Cond.laysFinal "LeatherRoomModel" "LeatherRoomModel" "zoneCorners" "[I") ∈ BG := bg_at 629 (by decide +kernel) (by decide +kernel)
theorem wd_602 : (Cond.laysFinal "LeatherRoomModel" "LeatherRoomModel" "zoneGrade" "[I") ∈ BG := bg_at 631 (by decide +kernel) (by decide +kernel)
theorem wd_604 : (Cond.lays "LeatherRoomModel" "LeatherRoomModel" "kinds" "I") ∈ BG := bg_at 633 (by decide +kernel) (by decide +kernel)
theorem wd_606 : (Cond.laysFinal "LeatherRoomModel" "LeatherRoomModel" "kindX" "[I") ∈ BG := bg_at 635 (by decide +kernel) (by decide +kernel)
theorem wd_608 : (Cond.laysFinal "LeatherRoomModel" "LeatherRoomModel" "kindY" "[I") ∈ BG := bg_at 637 (by decide +kernel) (by decide +kernel)
theorem wd_610 : (Cond.laysFinal "LeatherRoomModel" "LeatherRoomModel" "kindCorners" "[I") ∈ BG := bg_at 639 (by decide +kernel) (by decide +kernel)
theorem wd_612 : (Cond.laysFinal "LeatherRoomModel" "LeatherRoomModel" "kindGrade" "[I") ∈ BG := bg_at 641 (by decide +kernel) (by decide +kernel)
theorem wd_614 : (Cond.laysFinal "LeatherRoomModel" "LeatherRoomModel" "kindTurns" "[I") ∈ BG := bg_at 643 (by decide +kernel) (by decide +kernel)
theorem wd_616 : (Cond.laysFinal "LeatherRoomModel" "LeatherRoomModel" "partKind" "[I") ∈ BG := bg_at 645 (by decide +kernel) (by decide +kernel)
theorem wd_618 : (Cond.laysFinal "LeatherRoomModel" "LeatherRoomModel" "partX" "[I") ∈ BG := bg_at 647 (by decide +kernel) (by decide +kernel)
theorem wd_620 : (Cond.laysFinal "LeatherRoomModel" "LeatherRoomModel" "partY" "[I") ∈ BG := bg_at 649 (by decide +kernel) (by decide +kernel)
theorem wd_622 : (Cond.laysFinal "LeatherRoomModel" "LeatherRoomModel" "partTurn" "[I") ∈ BG := bg_at 651 (by decide +kernel) (by decide +kernel)
theorem wd_624 : (Cond.laysFinal "LeatherRoomModel" "LeatherRoomModel" "cornerX" "[I") ∈ BG := bg_at 653 (by decide +kernel) (by decide +kernel)
theorem wd_626 : (Cond.laysFinal "LeatherRoomModel" "LeatherRoomModel" "cornerY" "[I") ∈ BG := bg_at 655 (by decide +kernel) (by decide +kernel)
theorem wd_628 : (Cond.lays "LeatherRoomModel" "LeatherRoomModel" "many" "I") ∈ BG := bg_at 657 (by decide +kernel) (by decide +kernel)
theorem wd_630 : (Cond.laysFinal "LeatherRoomModel" "LeatherRoomModel" "x" "[I") ∈ BG := bg_at 659 (by decide +kernel) (by decide +kernel)
theorem wd_632 : (Cond.laysFinal "LeatherRoomModel" "LeatherRoomModel" "y" "[I") ∈ BG := bg_at 661 (by decide +kernel) (by decide +kernel)
theorem wd_634 : (Cond.lays "LeatherRoomModel" "LeatherRoomModel" "otherMany" "I") ∈ BG := bg_at 663 (by decide +kernel) (by decide +kernel)
theorem wd_636 : (Cond.laysFinal "LeatherRoomModel" "LeatherRoomModel" "otherX" "[I") ∈ BG := bg_at 665 (by decide +kernel) (by decide +kernel)
theorem wd_638 : (Cond.laysFinal "LeatherRoomModel" "LeatherRoomModel" "otherY" "[I") ∈ BG := bg_at 667 (by decide +kernel) (by decide +kernel)
theorem wd_641 : (Cond.methodLink "LeatherRoomLaw" (64 : Nat) ({ cls := "LeatherRoomModel", name := "thrown", desc := "()I" } : Jvm.MethodName)) ∈ BG := bg_at 670 (by decide +kernel) (by decide +kernel)
theorem wd_642 : (Cond.instanceMethod ({ cls := "LeatherRoomModel", name := "thrown", desc := "()I" } : Jvm.MethodName)) ∈ BG := bg_at 671 (by decide +kernel) (by decide +kernel)
theorem wd_643 : (Cond.selects "LeatherRoomModel" ({ cls := "LeatherRoomModel", name := "thrown", desc := "()I" } : Jvm.MethodName) ({ cls := "LeatherRoomModel", name := "thrown", desc := "()I" } : Jvm.MethodName)) ∈ BG := bg_at 672 (by decide +kernel) (by decide +kernel)
theorem wd_644 : (Cond.code ({ cls := "LeatherRoomModel", name := "thrown", desc := "()I" } : Jvm.MethodName) prog_7_method_2_code (1 : Nat) (Option.some Jvm.ClassFile.FieldType.int)) ∈ BG := bg_at 673 (by decide +kernel) (by decide +kernel)
theorem wd_645 : (Cond.methodLink "LeatherRoomLaw" (63 : Nat) ({ cls := "LeatherRoomModel", name := "corner", desc := "(II)I" } : Jvm.MethodName)) ∈ BG := bg_at 674 (by decide +kernel) (by decide +kernel)
theorem wd_646 : (Cond.instanceMethod ({ cls := "LeatherRoomModel", name := "corner", desc := "(II)I" } : Jvm.MethodName)) ∈ BG := bg_at 675 (by decide +kernel) (by decide +kernel)
theorem wd_647 : (Cond.selects "LeatherRoomModel" ({ cls := "LeatherRoomModel", name := "corner", desc := "(II)I" } : Jvm.MethodName) ({ cls := "LeatherRoomModel", name := "corner", desc := "(II)I" } : Jvm.MethodName)) ∈ BG := bg_at 676 (by decide +kernel) (by decide +kernel)
theorem wd_648 : (Cond.code ({ cls := "LeatherRoomModel", name := "corner", desc := "(II)I" } : Jvm.MethodName) prog_7_method_4_code (3 : Nat) (Option.some Jvm.ClassFile.FieldType.int)) ∈ BG := bg_at 677 (by decide +kernel) (by decide +kernel)
theorem wd_649 : (Cond.methodLink "LeatherRoomLaw" (71 : Nat) ({ cls := "LeatherRoomModel", name := "hide", desc := "()V" } : Jvm.MethodName)) ∈ BG := bg_at 678 (by decide +kernel) (by decide +kernel)
theorem wd_650 : (Cond.instanceMethod ({ cls := "LeatherRoomModel", name := "hide", desc := "()V" } : Jvm.MethodName)) ∈ BG := bg_at 679 (by decide +kernel) (by decide +kernel)
theorem wd_651 : (Cond.selects "LeatherRoomModel" ({ cls := "LeatherRoomModel", name := "hide", desc := "()V" } : Jvm.MethodName) ({ cls := "LeatherRoomModel", name := "hide", desc := "()V" } : Jvm.MethodName)) ∈ BG := bg_at 680 (by decide +kernel) (by decide +kernel)
theorem wd_652 : (Cond.code ({ cls := "LeatherRoomModel", name := "hide", desc := "()V" } : Jvm.MethodName) prog_7_method_11_code (3 : Nat) (Option.none : Option Jvm.ClassFile.FieldType)) ∈ BG := bg_at 681 (by decide +kernel) (by decide +kernel)
theorem wd_653 : (Cond.methodLink "LeatherRoomModel" (100 : Nat) ({ cls := "LeatherRoomModel", name := "count", desc := "()I" } : Jvm.MethodName)) ∈ BG := bg_at 682 (by decide +kernel) (by decide +kernel)
theorem wd_655 : (Cond.instanceMethod ({ cls := "LeatherRoomModel", name := "count", desc := "()I" } : Jvm.MethodName)) ∈ BG := bg_at 684 (by decide +kernel) (by decide +kernel)
theorem wd_656 : (Cond.code ({ cls := "LeatherRoomModel", name := "count", desc := "()I" } : Jvm.MethodName) prog_7_method_3_code (3 : Nat) (Option.some Jvm.ClassFile.FieldType.int)) ∈ BG := bg_at 685 (by decide +kernel) (by decide +kernel)
theorem wd_657 : (Cond.methodLink "LeatherRoomModel" (104 : Nat) ({ cls := "LeatherRoomModel", name := "isPlain", desc := "(I)Z" } : Jvm.MethodName)) ∈ BG := bg_at 686 (by decide +kernel) (by decide +kernel)
theorem wd_659 : (Cond.instanceMethod ({ cls := "LeatherRoomModel", name := "isPlain", desc := "(I)Z" } : Jvm.MethodName)) ∈ BG := bg_at 688 (by decide +kernel) (by decide +kernel)
theorem wd_660 : (Cond.code ({ cls := "LeatherRoomModel", name := "isPlain", desc := "(I)Z" } : Jvm.MethodName) prog_7_method_9_code (8 : Nat) (Option.some Jvm.ClassFile.FieldType.boolean)) ∈ BG := bg_at 689 (by decide +kernel) (by decide +kernel)
theorem wd_661 : (Cond.methodLink "LeatherRoomModel" (94 : Nat) ({ cls := "LeatherRoomModel", name := "isOn", desc := "(III)Z" } : Jvm.MethodName)) ∈ BG := bg_at 690 (by decide +kernel) (by decide +kernel)
theorem wd_663 : (Cond.instanceMethod ({ cls := "LeatherRoomModel", name := "isOn", desc := "(III)Z" } : Jvm.MethodName)) ∈ BG := bg_at 692 (by decide +kernel) (by decide +kernel)
theorem wd_664 : (Cond.code ({ cls := "LeatherRoomModel", name := "isOn", desc := "(III)Z" } : Jvm.MethodName) prog_7_method_7_code (4 : Nat) (Option.some Jvm.ClassFile.FieldType.boolean)) ∈ BG := bg_at 693 (by decide +kernel) (by decide +kernel)
theorem wd_665 : (Cond.methodLink "LeatherRoomModel" (86 : Nat) ({ cls := "LeatherRoomModel", name := "side", desc := "(III)I" } : Jvm.MethodName)) ∈ BG := bg_at 694 (by decide +kernel) (by decide +kernel)
theorem wd_667 : (Cond.instanceMethod ({ cls := "LeatherRoomModel", name := "side", desc := "(III)I" } : Jvm.MethodName)) ∈ BG := bg_at 696 (by decide +kernel) (by decide +kernel)
theorem wd_668 : (Cond.code ({ cls := "LeatherRoomModel", name := "side", desc := "(III)I" } : Jvm.MethodName) prog_7_method_5_code (4 : Nat) (Option.some Jvm.ClassFile.FieldType.int)) ∈ BG := bg_at 697 (by decide +kernel) (by decide +kernel)
theorem wd_669 : (Cond.methodLink "LeatherRoomModel" (90 : Nat) ({ cls := "LeatherRoomModel", name := "within", desc := "(III)Z" } : Jvm.MethodName)) ∈ BG := bg_at 698 (by decide +kernel) (by decide +kernel)
theorem wd_671 : (Cond.instanceMethod ({ cls := "LeatherRoomModel", name := "within", desc := "(III)Z" } : Jvm.MethodName)) ∈ BG := bg_at 700 (by decide +kernel) (by decide +kernel)
theorem wd_672 : (Cond.code ({ cls := "LeatherRoomModel", name := "within", desc := "(III)Z" } : Jvm.MethodName) prog_7_method_6_code (8 : Nat) (Option.some Jvm.ClassFile.FieldType.boolean)) ∈ BG := bg_at 701 (by decide +kernel) (by decide +kernel)
theorem wd_673 : (Cond.methodLink "LeatherRoomModel" (97 : Nat) ({ cls := "LeatherRoomModel", name := "meet", desc := "(III)Z" } : Jvm.MethodName)) ∈ BG := bg_at 702 (by decide +kernel) (by decide +kernel)
theorem wd_675 : (Cond.instanceMethod ({ cls := "LeatherRoomModel", name := "meet", desc := "(III)Z" } : Jvm.MethodName)) ∈ BG := bg_at 704 (by decide +kernel) (by decide +kernel)
theorem wd_676 : (Cond.code ({ cls := "LeatherRoomModel", name := "meet", desc := "(III)Z" } : Jvm.MethodName) prog_7_method_8_code (8 : Nat) (Option.some Jvm.ClassFile.FieldType.boolean)) ∈ BG := bg_at 705 (by decide +kernel) (by decide +kernel)
theorem wd_677 : (Cond.methodLink "LeatherRoomLaw" (75 : Nat) ({ cls := "LeatherRoomModel", name := "zone", desc := "(I)I" } : Jvm.MethodName)) ∈ BG := bg_at 706 (by decide +kernel) (by decide +kernel)
theorem wd_678 : (Cond.instanceMethod ({ cls := "LeatherRoomModel", name := "zone", desc := "(I)I" } : Jvm.MethodName)) ∈ BG := bg_at 707 (by decide +kernel) (by decide +kernel)
theorem wd_679 : (Cond.selects "LeatherRoomModel" ({ cls := "LeatherRoomModel", name := "zone", desc := "(I)I" } : Jvm.MethodName) ({ cls := "LeatherRoomModel", name := "zone", desc := "(I)I" } : Jvm.MethodName)) ∈ BG := bg_at 708 (by decide +kernel) (by decide +kernel)
theorem wd_680 : (Cond.code ({ cls := "LeatherRoomModel", name := "zone", desc := "(I)I" } : Jvm.MethodName) prog_7_method_13_code (4 : Nat) (Option.some Jvm.ClassFile.FieldType.int)) ∈ BG := bg_at 709 (by decide +kernel) (by decide +kernel)
theorem wd_681 : (Cond.methodLink "LeatherRoomModel" (111 : Nat) ({ cls := "LeatherRoomModel", name := "isGrade", desc := "(II)Z" } : Jvm.MethodName)) ∈ BG := bg_at 710 (by decide +kernel) (by decide +kernel)
theorem wd_682 : (Cond.static ({ cls := "LeatherRoomModel", name := "isGrade", desc := "(II)Z" } : Jvm.MethodName)) ∈ BG := bg_at 711 (by decide +kernel) (by decide +kernel)
theorem wd_683 : (Cond.code ({ cls := "LeatherRoomModel", name := "isGrade", desc := "(II)Z" } : Jvm.MethodName) prog_7_method_12_code (2 : Nat) (Option.some Jvm.ClassFile.FieldType.boolean)) ∈ BG := bg_at 712 (by decide +kernel) (by decide +kernel)
theorem wd_684 : (Cond.methodLink "LeatherRoomModel" (115 : Nat) ({ cls := "LeatherRoomModel", name := "isRound", desc := "(I)Z" } : Jvm.MethodName)) ∈ BG := bg_at 713 (by decide +kernel) (by decide +kernel)
theorem wd_686 : (Cond.instanceMethod ({ cls := "LeatherRoomModel", name := "isRound", desc := "(I)Z" } : Jvm.MethodName)) ∈ BG := bg_at 715 (by decide +kernel) (by decide +kernel)
theorem wd_687 : (Cond.code ({ cls := "LeatherRoomModel", name := "isRound", desc := "(I)Z" } : Jvm.MethodName) prog_7_method_10_code (7 : Nat) (Option.some Jvm.ClassFile.FieldType.boolean)) ∈ BG := bg_at 716 (by decide +kernel) (by decide +kernel)
theorem wd_688 : (Cond.methodLink "LeatherRoomLaw" (78 : Nat) ({ cls := "LeatherRoomModel", name := "clear", desc := "()V" } : Jvm.MethodName)) ∈ BG := bg_at 717 (by decide +kernel) (by decide +kernel)
theorem wd_689 : (Cond.instanceMethod ({ cls := "LeatherRoomModel", name := "clear", desc := "()V" } : Jvm.MethodName)) ∈ BG := bg_at 718 (by decide +kernel) (by decide +kernel)
theorem wd_690 : (Cond.selects "LeatherRoomModel" ({ cls := "LeatherRoomModel", name := "clear", desc := "()V" } : Jvm.MethodName) ({ cls := "LeatherRoomModel", name := "clear", desc := "()V" } : Jvm.MethodName)) ∈ BG := bg_at 719 (by decide +kernel) (by decide +kernel)
theorem wd_691 : (Cond.code ({ cls := "LeatherRoomModel", name := "clear", desc := "()V" } : Jvm.MethodName) prog_7_method_14_code (1 : Nat) (Option.none : Option Jvm.ClassFile.FieldType)) ∈ BG := bg_at 720 (by decide +kernel) (by decide +kernel)
theorem wd_692 : (Cond.methodLink "LeatherRoomLaw" (81 : Nat) ({ cls := "LeatherRoomModel", name := "kind", desc := "(II)I" } : Jvm.MethodName)) ∈ BG := bg_at 721 (by decide +kernel) (by decide +kernel)
theorem wd_693 : (Cond.instanceMethod ({ cls := "LeatherRoomModel", name := "kind", desc := "(II)I" } : Jvm.MethodName)) ∈ BG := bg_at 722 (by decide +kernel) (by decide +kernel)
theorem wd_694 : (Cond.selects "LeatherRoomModel" ({ cls := "LeatherRoomModel", name := "kind", desc := "(II)I" } : Jvm.MethodName) ({ cls := "LeatherRoomModel", name := "kind", desc := "(II)I" } : Jvm.MethodName)) ∈ BG := bg_at 723 (by decide +kernel) (by decide +kernel)
theorem wd_695 : (Cond.code ({ cls := "LeatherRoomModel", name := "kind", desc := "(II)I" } : Jvm.MethodName) prog_7_method_15_code (6 : Nat) (Option.some Jvm.ClassFile.FieldType.int)) ∈ BG := bg_at 724 (by decide +kernel) (by decide +kernel)
theorem wd_696 : (Cond.methodLink "LeatherRoomLaw" (85 : Nat) ({ cls := "LeatherRoomModel", name := "fits", desc := "(IIII)Z" } : Jvm.MethodName)) ∈ BG := bg_at 725 (by decide +kernel) (by decide +kernel)
theorem wd_697 : (Cond.instanceMethod ({ cls := "LeatherRoomModel", name := "fits", desc := "(IIII)Z" } : Jvm.MethodName)) ∈ BG := bg_at 726 (by decide +kernel) (by decide +kernel)
theorem wd_698 : (Cond.selects "LeatherRoomModel" ({ cls := "LeatherRoomModel", name := "fits", desc := "(IIII)Z" } : Jvm.MethodName) ({ cls := "LeatherRoomModel", name := "fits", desc := "(IIII)Z" } : Jvm.MethodName)) ∈ BG := bg_at 727 (by decide +kernel) (by decide +kernel)
theorem wd_699 : (Cond.code ({ cls := "LeatherRoomModel", name := "fits", desc := "(IIII)Z" } : Jvm.MethodName) prog_7_method_26_code (5 : Nat) (Option.some Jvm.ClassFile.FieldType.boolean)) ∈ BG := bg_at 728 (by decide +kernel) (by decide +kernel)
theorem wd_700 : (Cond.methodLink "LeatherRoomModel" (155 : Nat) ({ cls := "LeatherRoomModel", name := "isKind", desc := "(I)Z" } : Jvm.MethodName)) ∈ BG := bg_at 729 (by decide +kernel) (by decide +kernel)
theorem wd_702 : (Cond.instanceMethod ({ cls := "LeatherRoomModel", name := "isKind", desc := "(I)Z" } : Jvm.MethodName)) ∈ BG := bg_at 731 (by decide +kernel) (by decide +kernel)
theorem wd_703 : (Cond.code ({ cls := "LeatherRoomModel", name := "isKind", desc := "(I)Z" } : Jvm.MethodName) prog_7_method_24_code (2 : Nat) (Option.some Jvm.ClassFile.FieldType.boolean)) ∈ BG := bg_at 732 (by decide +kernel) (by decide +kernel)
theorem wd_704 : (Cond.methodLink "LeatherRoomModel" (158 : Nat) ({ cls := "LeatherRoomModel", name := "isPlace", desc := "(III)Z" } : Jvm.MethodName)) ∈ BG := bg_at 733 (by decide +kernel) (by decide +kernel)
theorem wd_706 : (Cond.instanceMethod ({ cls := "LeatherRoomModel", name := "isPlace", desc := "(III)Z" } : Jvm.MethodName)) ∈ BG := bg_at 735 (by decide +kernel) (by decide +kernel)
theorem wd_707 : (Cond.code ({ cls := "LeatherRoomModel", name := "isPlace", desc := "(III)Z" } : Jvm.MethodName) prog_7_method_25_code (4 : Nat) (Option.some Jvm.ClassFile.FieldType.boolean)) ∈ BG := bg_at 736 (by decide +kernel) (by decide +kernel)
theorem wd_708 : (Cond.methodLink "LeatherRoomModel" (161 : Nat) ({ cls := "LeatherRoomModel", name := "isFit", desc := "(IIII)Z" } : Jvm.MethodName)) ∈ BG := bg_at 737 (by decide +kernel) (by decide +kernel)
theorem wd_710 : (Cond.instanceMethod ({ cls := "LeatherRoomModel", name := "isFit", desc := "(IIII)Z" } : Jvm.MethodName)) ∈ BG := bg_at 739 (by decide +kernel) (by decide +kernel)
theorem wd_711 : (Cond.code ({ cls := "LeatherRoomModel", name := "isFit", desc := "(IIII)Z" } : Jvm.MethodName) prog_7_method_23_code (6 : Nat) (Option.some Jvm.ClassFile.FieldType.boolean)) ∈ BG := bg_at 740 (by decide +kernel) (by decide +kernel)
theorem wd_712 : (Cond.methodLink "LeatherRoomModel" (142 : Nat) ({ cls := "LeatherRoomModel", name := "shape", desc := "(IIII)V" } : Jvm.MethodName)) ∈ BG := bg_at 741 (by decide +kernel) (by decide +kernel)
theorem wd_714 : (Cond.instanceMethod ({ cls := "LeatherRoomModel", name := "shape", desc := "(IIII)V" } : Jvm.MethodName)) ∈ BG := bg_at 743 (by decide +kernel) (by decide +kernel)
theorem wd_715 : (Cond.code ({ cls := "LeatherRoomModel", name := "shape", desc := "(IIII)V" } : Jvm.MethodName) prog_7_method_16_code (12 : Nat) (Option.none : Option Jvm.ClassFile.FieldType)) ∈ BG := bg_at 744 (by decide +kernel) (by decide +kernel)
theorem wd_716 : (Cond.methodLink "LeatherRoomModel" (146 : Nat) ({ cls := "LeatherRoomModel", name := "isInHide", desc := "()Z" } : Jvm.MethodName)) ∈ BG := bg_at 745 (by decide +kernel) (by decide +kernel)
theorem wd_718 : (Cond.instanceMethod ({ cls := "LeatherRoomModel", name := "isInHide", desc := "()Z" } : Jvm.MethodName)) ∈ BG := bg_at 747 (by decide +kernel) (by decide +kernel)
theorem wd_719 : (Cond.code ({ cls := "LeatherRoomModel", name := "isInHide", desc := "()Z" } : Jvm.MethodName) prog_7_method_20_code (3 : Nat) (Option.some Jvm.ClassFile.FieldType.boolean)) ∈ BG := bg_at 748 (by decide +kernel) (by decide +kernel)
theorem wd_720 : (Cond.methodLink "LeatherRoomModel" (135 : Nat) ({ cls := "LeatherRoomModel", name := "overlaps", desc := "()Z" } : Jvm.MethodName)) ∈ BG := bg_at 749 (by decide +kernel) (by decide +kernel)
theorem wd_722 : (Cond.instanceMethod ({ cls := "LeatherRoomModel", name := "overlaps", desc := "()Z" } : Jvm.MethodName)) ∈ BG := bg_at 751 (by decide +kernel) (by decide +kernel)
theorem wd_723 : (Cond.code ({ cls := "LeatherRoomModel", name := "overlaps", desc := "()Z" } : Jvm.MethodName) prog_7_method_18_code (3 : Nat) (Option.some Jvm.ClassFile.FieldType.boolean)) ∈ BG := bg_at 752 (by decide +kernel) (by decide +kernel)
theorem wd_724 : (Cond.methodLink "LeatherRoomModel" (132 : Nat) ({ cls := "LeatherRoomModel", name := "isParted", desc := "(II)Z" } : Jvm.MethodName)) ∈ BG := bg_at 753 (by decide +kernel) (by decide +kernel)
theorem wd_726 : (Cond.instanceMethod ({ cls := "LeatherRoomModel", name := "isParted", desc := "(II)Z" } : Jvm.MethodName)) ∈ BG := bg_at 755 (by decide +kernel) (by decide +kernel)
theorem wd_727 : (Cond.code ({ cls := "LeatherRoomModel", name := "isParted", desc := "(II)Z" } : Jvm.MethodName) prog_7_method_17_code (9 : Nat) (Option.some Jvm.ClassFile.FieldType.boolean)) ∈ BG := bg_at 756 (by decide +kernel) (by decide +kernel)
theorem wd_728 : (Cond.constant "LeatherRoomModel" (127 : Nat) (1000000 : Int32)) ∈ BG := bg_at 757 (by decide +kernel) (by decide +kernel)
theorem wd_729 : (Cond.constant "LeatherRoomModel" (128 : Nat) (-1000000 : Int32)) ∈ BG := bg_at 758 (by decide +kernel) (by decide +kernel)
theorem wd_730 : (Cond.methodLink "LeatherRoomModel" (139 : Nat) ({ cls := "LeatherRoomModel", name := "isMiddleInside", desc := "()Z" } : Jvm.MethodName)) ∈ BG := bg_at 759 (by decide +kernel) (by decide +kernel)
theorem wd_732 : (Cond.instanceMethod ({ cls := "LeatherRoomModel", name := "isMiddleInside", desc := "()Z" } : Jvm.MethodName)) ∈ BG := bg_at 761 (by decide +kernel) (by decide +kernel)
theorem wd_733 : (Cond.code ({ cls := "LeatherRoomModel", name := "isMiddleInside", desc := "()Z" } : Jvm.MethodName) prog_7_method_19_code (11 : Nat) (Option.some Jvm.ClassFile.FieldType.boolean)) ∈ BG := bg_at 762 (by decide +kernel) (by decide +kernel)
theorem wd_734 : (Cond.methodLink "LeatherRoomModel" (149 : Nat) ({ cls := "LeatherRoomModel", name := "isOffZones", desc := "(I)Z" } : Jvm.MethodName)) ∈ BG := bg_at 763 (by decide +kernel) (by decide +kernel)
theorem wd_736 : (Cond.instanceMethod ({ cls := "LeatherRoomModel", name := "isOffZones", desc := "(I)Z" } : Jvm.MethodName)) ∈ BG := bg_at 765 (by decide +kernel) (by decide +kernel)
theorem wd_737 : (Cond.code ({ cls := "LeatherRoomModel", name := "isOffZones", desc := "(I)Z" } : Jvm.MethodName) prog_7_method_21_code (4 : Nat) (Option.some Jvm.ClassFile.FieldType.boolean)) ∈ BG := bg_at 766 (by decide +kernel) (by decide +kernel)
theorem wd_738 : (Cond.methodLink "LeatherRoomModel" (152 : Nat) ({ cls := "LeatherRoomModel", name := "isBesideParts", desc := "()Z" } : Jvm.MethodName)) ∈ BG := bg_at 767 (by decide +kernel) (by decide +kernel)
theorem wd_740 : (Cond.instanceMethod ({ cls := "LeatherRoomModel", name := "isBesideParts", desc := "()Z" } : Jvm.MethodName)) ∈ BG := bg_at 769 (by decide +kernel) (by decide +kernel)
theorem wd_741 : (Cond.code ({ cls := "LeatherRoomModel", name := "isBesideParts", desc := "()Z" } : Jvm.MethodName) prog_7_method_22_code (3 : Nat) (Option.some Jvm.ClassFile.FieldType.boolean)) ∈ BG := bg_at 770 (by decide +kernel) (by decide +kernel)
theorem wd_742 : (Cond.methodLink "LeatherRoomLaw" (88 : Nat) ({ cls := "LeatherRoomModel", name := "best", desc := "(I)I" } : Jvm.MethodName)) ∈ BG := bg_at 771 (by decide +kernel) (by decide +kernel)
theorem wd_743 : (Cond.instanceMethod ({ cls := "LeatherRoomModel", name := "best", desc := "(I)I" } : Jvm.MethodName)) ∈ BG := bg_at 772 (by decide +kernel) (by decide +kernel)
theorem wd_744 : (Cond.selects "LeatherRoomModel" ({ cls := "LeatherRoomModel", name := "best", desc := "(I)I" } : Jvm.MethodName) ({ cls := "LeatherRoomModel", name := "best", desc := "(I)I" } : Jvm.MethodName)) ∈ BG := bg_at 773 (by decide +kernel) (by decide +kernel)
theorem wd_745 : (Cond.code ({ cls := "LeatherRoomModel", name := "best", desc := "(I)I" } : Jvm.MethodName) prog_7_method_28_code (3 : Nat) (Option.some Jvm.ClassFile.FieldType.int)) ∈ BG := bg_at 774 (by decide +kernel) (by decide +kernel)
theorem wd_746 : (Cond.methodLink "LeatherRoomModel" (165 : Nat) ({ cls := "LeatherRoomModel", name := "search", desc := "(I)I" } : Jvm.MethodName)) ∈ BG := bg_at 775 (by decide +kernel) (by decide +kernel)
theorem wd_748 : (Cond.instanceMethod ({ cls := "LeatherRoomModel", name := "search", desc := "(I)I" } : Jvm.MethodName)) ∈ BG := bg_at 777 (by decide +kernel) (by decide +kernel)
theorem wd_749 : (Cond.code ({ cls := "LeatherRoomModel", name := "search", desc := "(I)I" } : Jvm.MethodName) prog_7_method_27_code (5 : Nat) (Option.some Jvm.ClassFile.FieldType.int)) ∈ BG := bg_at 778 (by decide +kernel) (by decide +kernel)
theorem wd_750 : (Cond.methodLink "LeatherRoomLaw" (91 : Nat) ({ cls := "LeatherRoomModel", name := "lay", desc := "(I)I" } : Jvm.MethodName)) ∈ BG := bg_at 779 (by decide +kernel) (by decide +kernel)
theorem wd_751 : (Cond.instanceMethod ({ cls := "LeatherRoomModel", name := "lay", desc := "(I)I" } : Jvm.MethodName)) ∈ BG := bg_at 780 (by decide +kernel) (by decide +kernel)
theorem wd_752 : (Cond.selects "LeatherRoomModel" ({ cls := "LeatherRoomModel", name := "lay", desc := "(I)I" } : Jvm.MethodName) ({ cls := "LeatherRoomModel", name := "lay", desc := "(I)I" } : Jvm.MethodName)) ∈ BG := bg_at 781 (by decide +kernel) (by decide +kernel)
theorem wd_753 : (Cond.code ({ cls := "LeatherRoomModel", name := "lay", desc := "(I)I" } : Jvm.MethodName) prog_7_method_30_code (3 : Nat) (Option.some Jvm.ClassFile.FieldType.int)) ∈ BG := bg_at 782 (by decide +kernel) (by decide +kernel)
theorem wd_754 : (Cond.methodLink "LeatherRoomModel" (169 : Nat) ({ cls := "LeatherRoomModel", name := "place", desc := "(IIII)I" } : Jvm.MethodName)) ∈ BG := bg_at 783 (by decide +kernel) (by decide +kernel)
theorem wd_756 : (Cond.instanceMethod ({ cls := "LeatherRoomModel", name := "place", desc := "(IIII)I" } : Jvm.MethodName)) ∈ BG := bg_at 785 (by decide +kernel) (by decide +kernel)
theorem wd_757 : (Cond.code ({ cls := "LeatherRoomModel", name := "place", desc := "(IIII)I" } : Jvm.MethodName) prog_7_method_29_code (7 : Nat) (Option.some Jvm.ClassFile.FieldType.int)) ∈ BG := bg_at 786 (by decide +kernel) (by decide +kernel)
theorem wd_758 : (Cond.methodLink "LeatherRoomLaw" (94 : Nat) ({ cls := "LeatherRoomModel", name := "put", desc := "(IIII)I" } : Jvm.MethodName)) ∈ BG := bg_at 787 (by decide +kernel) (by decide +kernel)
theorem wd_759 : (Cond.instanceMethod ({ cls := "LeatherRoomModel", name := "put", desc := "(IIII)I" } : Jvm.MethodName)) ∈ BG := bg_at 788 (by decide +kernel) (by decide +kernel)
theorem wd_760 : (Cond.selects "LeatherRoomModel" ({ cls := "LeatherRoomModel", name := "put", desc := "(IIII)I" } : Jvm.MethodName) ({ cls := "LeatherRoomModel", name := "put", desc := "(IIII)I" } : Jvm.MethodName)) ∈ BG := bg_at 789 (by decide +kernel) (by decide +kernel)
theorem wd_761 : (Cond.code ({ cls := "LeatherRoomModel", name := "put", desc := "(IIII)I" } : Jvm.MethodName) prog_7_method_31_code (5 : Nat) (Option.some Jvm.ClassFile.FieldType.int)) ∈ BG := bg_at 790 (by decide +kernel) (by decide +kernel)
theorem wd_762 : (Cond.methodLink "LeatherRoomLaw" (97 : Nat) ({ cls := "LeatherRoomModel", name := "take", desc := "(I)I" } : Jvm.MethodName)) ∈ BG := bg_at 791 (by decide +kernel) (by decide +kernel)
theorem wd_763 : (Cond.instanceMethod ({ cls := "LeatherRoomModel", name := "take", desc := "(I)I" } : Jvm.MethodName)) ∈ BG := bg_at 792 (by decide +kernel) (by decide +kernel)
theorem wd_764 : (Cond.selects "LeatherRoomModel" ({ cls := "LeatherRoomModel", name := "take", desc := "(I)I" } : Jvm.MethodName) ({ cls := "LeatherRoomModel", name := "take", desc := "(I)I" } : Jvm.MethodName)) ∈ BG := bg_at 793 (by decide +kernel) (by decide +kernel)
theorem wd_765 : (Cond.code ({ cls := "LeatherRoomModel", name := "take", desc := "(I)I" } : Jvm.MethodName) prog_7_method_33_code (3 : Nat) (Option.some Jvm.ClassFile.FieldType.int)) ∈ BG := bg_at 794 (by decide +kernel) (by decide +kernel)
theorem wd_766 : (Cond.methodLink "LeatherRoomModel" (173 : Nat) ({ cls := "LeatherRoomModel", name := "isPart", desc := "(I)Z" } : Jvm.MethodName)) ∈ BG := bg_at 795 (by decide +kernel) (by decide +kernel)
theorem wd_768 : (Cond.instanceMethod ({ cls := "LeatherRoomModel", name := "isPart", desc := "(I)Z" } : Jvm.MethodName)) ∈ BG := bg_at 797 (by decide +kernel) (by decide +kernel)
theorem wd_769 : (Cond.code ({ cls := "LeatherRoomModel", name := "isPart", desc := "(I)Z" } : Jvm.MethodName) prog_7_method_32_code (2 : Nat) (Option.some Jvm.ClassFile.FieldType.boolean)) ∈ BG := bg_at 798 (by decide +kernel) (by decide +kernel)
theorem wd_770 : (Cond.methodLink "LeatherRoomLaw" (101 : Nat) ({ cls := "LeatherRoomModel", name := "strip", desc := "()I" } : Jvm.MethodName)) ∈ BG := bg_at 799 (by decide +kernel) (by decide +kernel)
theorem wd_771 : (Cond.instanceMethod ({ cls := "LeatherRoomModel", name := "strip", desc := "()I" } : Jvm.MethodName)) ∈ BG := bg_at 800 (by decide +kernel) (by decide +kernel)
theorem wd_772 : (Cond.selects "LeatherRoomModel" ({ cls := "LeatherRoomModel", name := "strip", desc := "()I" } : Jvm.MethodName) ({ cls := "LeatherRoomModel", name := "strip", desc := "()I" } : Jvm.MethodName)) ∈ BG := bg_at 801 (by decide +kernel) (by decide +kernel)
theorem wd_773 : (Cond.code ({ cls := "LeatherRoomModel", name := "strip", desc := "()I" } : Jvm.MethodName) prog_7_method_34_code (3 : Nat) (Option.some Jvm.ClassFile.FieldType.int)) ∈ BG := bg_at 802 (by decide +kernel) (by decide +kernel)
theorem wd_774 : (Cond.methodLink "LeatherRoomLaw" (104 : Nat) ({ cls := "LeatherRoomModel", name := "part", desc := "(II)I" } : Jvm.MethodName)) ∈ BG := bg_at 803 (by decide +kernel) (by decide +kernel)
theorem wd_775 : (Cond.instanceMethod ({ cls := "LeatherRoomModel", name := "part", desc := "(II)I" } : Jvm.MethodName)) ∈ BG := bg_at 804 (by decide +kernel) (by decide +kernel)
theorem wd_776 : (Cond.selects "LeatherRoomModel" ({ cls := "LeatherRoomModel", name := "part", desc := "(II)I" } : Jvm.MethodName) ({ cls := "LeatherRoomModel", name := "part", desc := "(II)I" } : Jvm.MethodName)) ∈ BG := bg_at 805 (by decide +kernel) (by decide +kernel)
theorem wd_777 : (Cond.code ({ cls := "LeatherRoomModel", name := "part", desc := "(II)I" } : Jvm.MethodName) prog_7_method_35_code (3 : Nat) (Option.some Jvm.ClassFile.FieldType.int)) ∈ BG := bg_at 806 (by decide +kernel) (by decide +kernel)
theorem wd_778 : (Cond.methodLink "LeatherRoomLaw" (108 : Nat) ({ cls := "LeatherRoomModel", name := "parts", desc := "()I" } : Jvm.MethodName)) ∈ BG := bg_at 807 (by decide +kernel) (by decide +kernel)
theorem wd_779 : (Cond.instanceMethod ({ cls := "LeatherRoomModel", name := "parts", desc := "()I" } : Jvm.MethodName)) ∈ BG := bg_at 808 (by decide +kernel) (by decide +kernel)
theorem wd_780 : (Cond.selects "LeatherRoomModel" ({ cls := "LeatherRoomModel", name := "parts", desc := "()I" } : Jvm.MethodName) ({ cls := "LeatherRoomModel", name := "parts", desc := "()I" } : Jvm.MethodName)) ∈ BG := bg_at 809 (by decide +kernel) (by decide +kernel)
theorem wd_781 : (Cond.code ({ cls := "LeatherRoomModel", name := "parts", desc := "()I" } : Jvm.MethodName) prog_7_method_36_code (1 : Nat) (Option.some Jvm.ClassFile.FieldType.int)) ∈ BG := bg_at 810 (by decide +kernel) (by decide +kernel)
theorem wd_782 : (Cond.methodLink "LeatherRoomLaw" (112 : Nat) ({ cls := "LeatherRoomModel", name := "free", desc := "()I" } : Jvm.MethodName)) ∈ BG := bg_at 811 (by decide +kernel) (by decide +kernel)
theorem wd_783 : (Cond.instanceMethod ({ cls := "LeatherRoomModel", name := "free", desc := "()I" } : Jvm.MethodName)) ∈ BG := bg_at 812 (by decide +kernel) (by decide +kernel)
theorem wd_784 : (Cond.selects "LeatherRoomModel" ({ cls := "LeatherRoomModel", name := "free", desc := "()I" } : Jvm.MethodName) ({ cls := "LeatherRoomModel", name := "free", desc := "()I" } : Jvm.MethodName)) ∈ BG := bg_at 813 (by decide +kernel) (by decide +kernel)
theorem wd_785 : (Cond.code ({ cls := "LeatherRoomModel", name := "free", desc := "()I" } : Jvm.MethodName) prog_7_method_38_code (7 : Nat) (Option.some Jvm.ClassFile.FieldType.int)) ∈ BG := bg_at 814 (by decide +kernel) (by decide +kernel)
theorem wd_786 : (Cond.methodLink "LeatherRoomModel" (176 : Nat) ({ cls := "LeatherRoomModel", name := "size", desc := "(I)I" } : Jvm.MethodName)) ∈ BG := bg_at 815 (by decide +kernel) (by decide +kernel)
theorem wd_787 : (Cond.static ({ cls := "LeatherRoomModel", name := "size", desc := "(I)I" } : Jvm.MethodName)) ∈ BG := bg_at 816 (by decide +kernel) (by decide +kernel)
theorem wd_788 : (Cond.code ({ cls := "LeatherRoomModel", name := "size", desc := "(I)I" } : Jvm.MethodName) prog_7_method_37_code (1 : Nat) (Option.some Jvm.ClassFile.FieldType.int)) ∈ BG := bg_at 817 (by decide +kernel) (by decide +kernel)
theorem wd_789 : (Cond.arrayClass Jvm.ClassFile.FieldType.long) ∈ BG := bg_at 818 (by decide +kernel) (by decide +kernel)
end
section
-- names of methods, their code, their words; fields
def y_R_init : MethodName := ⟨"LeatherRoom", "<init>", "()V"⟩
abbrev c_R_init : ByteArray := prog_1_method_1_code
def w_R_init : List Cond := .code y_R_init c_R_init 2 none :: BG
def y_JObject_init : MethodName := ⟨"java/lang/Object", "<init>", "()V"⟩
abbrev c_JObject_init : ByteArray := object_method_1_code
def w_JObject_init : List Cond := .code y_JObject_init c_JObject_init 1 none :: BG
def y_S_init : MethodName := ⟨"LeatherRoom$Shape", "<init>", "()V"⟩
abbrev c_S_init : ByteArray := prog_4_method_1_code
def w_S_init : List Cond := .code y_S_init c_S_init 1 none :: BG
def y_Z_init : MethodName := ⟨"LeatherRoom$Zone", "<init>", "()V"⟩
abbrev c_Z_init : ByteArray := prog_5_method_1_code
def w_Z_init : List Cond := .code y_Z_init c_Z_init 1 none :: BG
def y_K_init : MethodName := ⟨"LeatherRoom$Kind", "<init>", "()V"⟩
abbrev c_K_init : ByteArray := prog_2_method_1_code
def w_K_init : List Cond := .code y_K_init c_K_init 2 none :: BG
def y_P_init : MethodName := ⟨"LeatherRoom$Part", "<init>", "()V"⟩
abbrev c_P_init : ByteArray := prog_3_method_1_code
def w_P_init : List Cond := .code y_P_init c_P_init 1 none :: BG
def y_R_strip : MethodName := ⟨"LeatherRoom", "strip", "()I"⟩
abbrev c_R_strip : ByteArray := prog_1_method_12_code
def w_R_strip : List Cond := .code y_R_strip c_R_strip 3 (some .int) :: BG
def y_R_parts : MethodName := ⟨"LeatherRoom", "parts", "()I"⟩
abbrev c_R_parts : ByteArray := prog_1_method_14_code
def w_R_parts : List Cond := .code y_R_parts c_R_parts 1 (some .int) :: BG
def y_R_free : MethodName := ⟨"LeatherRoom", "free", "()I"⟩
abbrev c_R_free : ByteArray := prog_1_method_15_code
def w_R_free : List Cond := .code y_R_free c_R_free 3 (some .int) :: BG
def y_S_doubleArea : MethodName := ⟨"LeatherRoom$Shape", "doubleArea", "()I"⟩
abbrev c_S_doubleArea : ByteArray := prog_4_method_8_code
def w_S_doubleArea : List Cond := .code y_S_doubleArea c_S_doubleArea 4 (some .int) :: BG
def y_S_next : MethodName := ⟨"LeatherRoom$Shape", "next", "(I)I"⟩
abbrev c_S_next : ByteArray := prog_4_method_7_code
def w_S_next : List Cond := .code y_S_next c_S_next 2 (some .int) :: BG
def y_JMath_abs : MethodName := ⟨"java/lang/Math", "abs", "(I)I"⟩
abbrev c_JMath_abs : ByteArray := prog_12_method_59_code
def w_JMath_abs : List Cond := .code y_JMath_abs c_JMath_abs 1 (some .int) :: BG
def y_L_corner : MethodName := ⟨"LeatherRoomLaw", "corner", "(LLeatherRoom;II[J)I"⟩
abbrev c_L_corner : ByteArray := method_3_code
def w_L_corner : List Cond := .codeWith y_L_corner c_L_corner 5 (some .int) [((0 : Nat), (10 : Nat), (13 : Nat), (13 : Nat)), ((0 : Nat), (10 : Nat), (17 : Nat), (15 : Nat))] :: BG
def y_R_corner : MethodName := ⟨"LeatherRoom", "corner", "(II)I"⟩
abbrev c_R_corner : ByteArray := prog_1_method_2_code
def w_R_corner : List Cond := .code y_R_corner c_R_corner 3 (some .int) :: BG
def y_R_isPoint : MethodName := ⟨"LeatherRoom", "isPoint", "(II)Z"⟩
abbrev c_R_isPoint : ByteArray := prog_1_method_16_code
def w_R_isPoint : List Cond := .code y_R_isPoint c_R_isPoint 2 (some .boolean) :: BG
def y_JThrowable_init : MethodName := ⟨"java/lang/Throwable", "<init>", "()V"⟩
abbrev c_JThrowable_init : ByteArray := prog_15_method_1_code
def w_JThrowable_init : List Cond := .code y_JThrowable_init c_JThrowable_init 1 none :: BG
def y_JIllegalArgumentException_init : MethodName := ⟨"java/lang/IllegalArgumentException", "<init>", "(Ljava/lang/String;)V"⟩
abbrev c_JIllegalArgumentException_init : ByteArray := prog_9_method_2_code
def w_JIllegalArgumentException_init : List Cond := .code y_JIllegalArgumentException_init c_JIllegalArgumentException_init 2 none :: BG
def y_JRuntimeException_init : MethodName := ⟨"java/lang/RuntimeException", "<init>", "(Ljava/lang/String;)V"⟩
abbrev c_JRuntimeException_init : ByteArray := prog_13_method_2_code
def w_JRuntimeException_init : List Cond := .code y_JRuntimeException_init c_JRuntimeException_init 2 none :: BG
def y_JException_init : MethodName := ⟨"java/lang/Exception", "<init>", "(Ljava/lang/String;)V"⟩
abbrev c_JException_init : ByteArray := prog_8_method_2_code
def w_JException_init : List Cond := .code y_JException_init c_JException_init 2 none :: BG
def y_JThrowable_init_1 : MethodName := ⟨"java/lang/Throwable", "<init>", "(Ljava/lang/String;)V"⟩
abbrev c_JThrowable_init_1 : ByteArray := prog_15_method_2_code
def w_JThrowable_init_1 : List Cond := .code y_JThrowable_init_1 c_JThrowable_init_1 2 none :: BG
def y_JIllegalStateException_init : MethodName := ⟨"java/lang/IllegalStateException", "<init>", "(Ljava/lang/String;)V"⟩
abbrev c_JIllegalStateException_init : ByteArray := prog_10_method_2_code
def w_JIllegalStateException_init : List Cond := .code y_JIllegalStateException_init c_JIllegalStateException_init 2 none :: BG
def y_S_add : MethodName := ⟨"LeatherRoom$Shape", "add", "(II)V"⟩
abbrev c_S_add : ByteArray := prog_4_method_3_code
def w_S_add : List Cond := .code y_S_add c_S_add 3 none :: BG
def y_JMath_min : MethodName := ⟨"java/lang/Math", "min", "(II)I"⟩
abbrev c_JMath_min : ByteArray := prog_12_method_69_code
def w_JMath_min : List Cond := .code y_JMath_min c_JMath_min 2 (some .int) :: BG
def y_JMath_max : MethodName := ⟨"java/lang/Math", "max", "(II)I"⟩
abbrev c_JMath_max : ByteArray := prog_12_method_65_code
def w_JMath_max : List Cond := .code y_JMath_max c_JMath_max 2 (some .int) :: BG
def y_L_hide : MethodName := ⟨"LeatherRoomLaw", "hide", "(LLeatherRoom;)I"⟩
abbrev c_L_hide : ByteArray := method_4_code
def w_L_hide : List Cond := .codeWith y_L_hide c_L_hide 2 (some .int) [((0 : Nat), (4 : Nat), (7 : Nat), (15 : Nat)), ((0 : Nat), (4 : Nat), (10 : Nat), (13 : Nat))] :: BG
def y_R_hide : MethodName := ⟨"LeatherRoom", "hide", "()V"⟩
abbrev c_R_hide : ByteArray := prog_1_method_3_code
def w_R_hide : List Cond := .code y_R_hide c_R_hide 2 none :: BG
def y_R_endWait : MethodName := ⟨"LeatherRoom", "endWait", "()LLeatherRoom$Shape;"⟩
abbrev c_R_endWait : ByteArray := prog_1_method_20_code
def w_R_endWait : List Cond := .code y_R_endWait c_R_endWait 1 (some (.object "LeatherRoom$Shape")) :: BG
def y_S_copy : MethodName := ⟨"LeatherRoom$Shape", "copy", "(LLeatherRoom$Shape;II)V"⟩
abbrev c_S_copy : ByteArray := prog_4_method_4_code
def w_S_copy : List Cond := .code y_S_copy c_S_copy 5 none :: BG
def y_S_empty : MethodName := ⟨"LeatherRoom$Shape", "empty", "()V"⟩
abbrev c_S_empty : ByteArray := prog_4_method_2_code
def w_S_empty : List Cond := .code y_S_empty c_S_empty 1 none :: BG
def y_S_isPlain : MethodName := ⟨"LeatherRoom$Shape", "isPlain", "()Z"⟩
abbrev c_S_isPlain : ByteArray := prog_4_method_11_code
def w_S_isPlain : List Cond := .code y_S_isPlain c_S_isPlain 4 (some .boolean) :: BG
def y_S_foldsBack : MethodName := ⟨"LeatherRoom$Shape", "foldsBack", "(I)Z"⟩
abbrev c_S_foldsBack : ByteArray := prog_4_method_12_code
def w_S_foldsBack : List Cond := .code y_S_foldsBack c_S_foldsBack 5 (some .boolean) :: BG
def y_S_beside : MethodName := ⟨"LeatherRoom$Shape", "beside", "(III)I"⟩
abbrev c_S_beside : ByteArray := prog_4_method_9_code
def w_S_beside : List Cond := .code y_S_beside c_S_beside 5 (some .int) :: BG
def y_S_sidesMeet : MethodName := ⟨"LeatherRoom$Shape", "sidesMeet", "(II)Z"⟩
abbrev c_S_sidesMeet : ByteArray := prog_4_method_13_code
def w_S_sidesMeet : List Cond := .code y_S_sidesMeet c_S_sidesMeet 3 (some .boolean) :: BG
def y_S_rangesMeet : MethodName := ⟨"LeatherRoom$Shape", "rangesMeet", "(IIII)Z"⟩
abbrev c_S_rangesMeet : ByteArray := prog_4_method_15_code
def w_S_rangesMeet : List Cond := .code y_S_rangesMeet c_S_rangesMeet 4 (some .boolean) :: BG
def y_S_lineMeets : MethodName := ⟨"LeatherRoom$Shape", "lineMeets", "(II)Z"⟩
abbrev c_S_lineMeets : ByteArray := prog_4_method_14_code
def w_S_lineMeets : List Cond := .code y_S_lineMeets c_S_lineMeets 6 (some .boolean) :: BG
def y_JInteger_signum : MethodName := ⟨"java/lang/Integer", "signum", "(I)I"⟩
abbrev c_JInteger_signum : ByteArray := prog_11_method_56_code
def w_JInteger_signum : List Cond := .code y_JInteger_signum c_JInteger_signum 1 (some .int) :: BG
def y_L_zone : MethodName := ⟨"LeatherRoomLaw", "zone", "(LLeatherRoom;I[J)I"⟩
abbrev c_L_zone : ByteArray := method_5_code
def w_L_zone : List Cond := .codeWith y_L_zone c_L_zone 4 (some .int) [((0 : Nat), (9 : Nat), (12 : Nat), (13 : Nat)), ((0 : Nat), (9 : Nat), (15 : Nat), (15 : Nat))] :: BG
def y_R_zone : MethodName := ⟨"LeatherRoom", "zone", "(I)I"⟩
abbrev c_R_zone : ByteArray := prog_1_method_4_code
def w_R_zone : List Cond := .code y_R_zone c_R_zone 3 (some .int) :: BG
def y_S_isRound : MethodName := ⟨"LeatherRoom$Shape", "isRound", "()Z"⟩
abbrev c_S_isRound : ByteArray := prog_4_method_10_code
def w_S_isRound : List Cond := .code y_S_isRound c_S_isRound 5 (some .boolean) :: BG
def y_Z_become : MethodName := ⟨"LeatherRoom$Zone", "become", "(ILLeatherRoom$Shape;)V"⟩
abbrev c_Z_become : ByteArray := prog_5_method_2_code
def w_Z_become : List Cond := .code y_Z_become c_Z_become 3 none :: BG
def y_S_copyLeftward : MethodName := ⟨"LeatherRoom$Shape", "copyLeftward", "(LLeatherRoom$Shape;II)V"⟩
abbrev c_S_copyLeftward : ByteArray := prog_4_method_5_code
def w_S_copyLeftward : List Cond := .code y_S_copyLeftward c_S_copyLeftward 5 none :: BG
def y_L_clear : MethodName := ⟨"LeatherRoomLaw", "clear", "(LLeatherRoom;)I"⟩
abbrev c_L_clear : ByteArray := method_6_code
def w_L_clear : List Cond := .codeWith y_L_clear c_L_clear 2 (some .int) [((0 : Nat), (4 : Nat), (7 : Nat), (15 : Nat))] :: BG
def y_R_clear : MethodName := ⟨"LeatherRoom", "clear", "()V"⟩
abbrev c_R_clear : ByteArray := prog_1_method_5_code
def w_R_clear : List Cond := .code y_R_clear c_R_clear 1 none :: BG
def y_L_kind : MethodName := ⟨"LeatherRoomLaw", "kind", "(LLeatherRoom;II[J)I"⟩
abbrev c_L_kind : ByteArray := method_7_code
def w_L_kind : List Cond := .codeWith y_L_kind c_L_kind 5 (some .int) [((0 : Nat), (10 : Nat), (13 : Nat), (13 : Nat)), ((0 : Nat), (10 : Nat), (17 : Nat), (15 : Nat))] :: BG
def y_R_kind : MethodName := ⟨"LeatherRoom", "kind", "(II)I"⟩
abbrev c_R_kind : ByteArray := prog_1_method_6_code
def w_R_kind : List Cond := .code y_R_kind c_R_kind 4 (some .int) :: BG
def y_K_become : MethodName := ⟨"LeatherRoom$Kind", "become", "(IILLeatherRoom$Shape;)V"⟩
abbrev c_K_become : ByteArray := prog_2_method_2_code
def w_K_become : List Cond := .code y_K_become c_K_become 5 none :: BG
def y_S_copyTurned : MethodName := ⟨"LeatherRoom$Shape", "copyTurned", "(LLeatherRoom$Shape;)V"⟩
abbrev c_S_copyTurned : ByteArray := prog_4_method_6_code
def w_S_copyTurned : List Cond := .code y_S_copyTurned c_S_copyTurned 3 none :: BG
def y_L_fits : MethodName := ⟨"LeatherRoomLaw", "fits", "(LLeatherRoom;IIII[J)I"⟩
abbrev c_L_fits : ByteArray := method_8_code
def w_L_fits : List Cond := .codeWith y_L_fits c_L_fits 7 (some .int) [((0 : Nat), (21 : Nat), (24 : Nat), (13 : Nat))] :: BG
def y_R_fits : MethodName := ⟨"LeatherRoom", "fits", "(IIII)Z"⟩
abbrev c_R_fits : ByteArray := prog_1_method_7_code
def w_R_fits : List Cond := .code y_R_fits c_R_fits 5 (some .boolean) :: BG
def y_R_isKind : MethodName := ⟨"LeatherRoom", "isKind", "(I)Z"⟩
abbrev c_R_isKind : ByteArray := prog_1_method_18_code
def w_R_isKind : List Cond := .code y_R_isKind c_R_isKind 2 (some .boolean) :: BG
def y_R_isTurn : MethodName := ⟨"LeatherRoom", "isTurn", "(I)Z"⟩
abbrev c_R_isTurn : ByteArray := prog_1_method_17_code
def w_R_isTurn : List Cond := .code y_R_isTurn c_R_isTurn 1 (some .boolean) :: BG
def y_R_canLie : MethodName := ⟨"LeatherRoom", "canLie", "(LLeatherRoom$Kind;III)Z"⟩
abbrev c_R_canLie : ByteArray := prog_1_method_21_code
def w_R_canLie : List Cond := .code y_R_canLie c_R_canLie 6 (some .boolean) :: BG
def y_K_hasTurn : MethodName := ⟨"LeatherRoom$Kind", "hasTurn", "(I)Z"⟩
abbrev c_K_hasTurn : ByteArray := prog_2_method_3_code
def w_K_hasTurn : List Cond := .code y_K_hasTurn c_K_hasTurn 2 (some .boolean) :: BG
def y_S_boxHolds : MethodName := ⟨"LeatherRoom$Shape", "boxHolds", "(LLeatherRoom$Shape;II)Z"⟩
abbrev c_S_boxHolds : ByteArray := prog_4_method_16_code
def w_S_boxHolds : List Cond := .code y_S_boxHolds c_S_boxHolds 4 (some .boolean) :: BG
def y_R_isOffParts : MethodName := ⟨"LeatherRoom", "isOffParts", "(LLeatherRoom$Shape;II)Z"⟩
abbrev c_R_isOffParts : ByteArray := prog_1_method_22_code
def w_R_isOffParts : List Cond := .code y_R_isOffParts c_R_isOffParts 5 (some .boolean) :: BG
def y_S_overlaps : MethodName := ⟨"LeatherRoom$Shape", "overlaps", "(LLeatherRoom$Shape;II)Z"⟩
abbrev c_S_overlaps : ByteArray := prog_4_method_17_code
def w_S_overlaps : List Cond := .code y_S_overlaps c_S_overlaps 5 (some .boolean) :: BG
def y_S_sideParts : MethodName := ⟨"LeatherRoom$Shape", "sideParts", "(LLeatherRoom$Shape;II)Z"⟩
abbrev c_S_sideParts : ByteArray := prog_4_method_18_code
def w_S_sideParts : List Cond := .code y_S_sideParts c_S_sideParts 7 (some .boolean) :: BG
def y_R_isOffZones : MethodName := ⟨"LeatherRoom", "isOffZones", "(LLeatherRoom$Shape;III)Z"⟩
abbrev c_R_isOffZones : ByteArray := prog_1_method_23_code
def w_R_isOffZones : List Cond := .code y_R_isOffZones c_R_isOffZones 6 (some .boolean) :: BG
def y_S_holds : MethodName := ⟨"LeatherRoom$Shape", "holds", "(LLeatherRoom$Shape;II)Z"⟩
abbrev c_S_holds : ByteArray := prog_4_method_19_code
def w_S_holds : List Cond := .code y_S_holds c_S_holds 6 (some .boolean) :: BG
def y_S_sideCuts : MethodName := ⟨"LeatherRoom$Shape", "sideCuts", "(ILLeatherRoom$Shape;II)Z"⟩
abbrev c_S_sideCuts : ByteArray := prog_4_method_20_code
def w_S_sideCuts : List Cond := .code y_S_sideCuts c_S_sideCuts 11 (some .boolean) :: BG
def y_S_lineCuts : MethodName := ⟨"LeatherRoom$Shape", "lineCuts", "(ILLeatherRoom$Shape;II)Z"⟩
abbrev c_S_lineCuts : ByteArray := prog_4_method_21_code
def w_S_lineCuts : List Cond := .code y_S_lineCuts c_S_lineCuts 9 (some .boolean) :: BG
def y_S_isBeyond : MethodName := ⟨"LeatherRoom$Shape", "isBeyond", "(IIII)Z"⟩
abbrev c_S_isBeyond : ByteArray := prog_4_method_22_code
def w_S_isBeyond : List Cond := .code y_S_isBeyond c_S_isBeyond 6 (some .boolean) :: BG
def y_S_surrounds : MethodName := ⟨"LeatherRoom$Shape", "surrounds", "(II)Z"⟩
abbrev c_S_surrounds : ByteArray := prog_4_method_23_code
def w_S_surrounds : List Cond := .code y_S_surrounds c_S_surrounds 9 (some .boolean) :: BG
def y_L_best : MethodName := ⟨"LeatherRoomLaw", "best", "(LLeatherRoom;I[J)I"⟩
abbrev c_L_best : ByteArray := method_9_code
def w_L_best : List Cond := .codeWith y_L_best c_L_best 4 (some .int) [((0 : Nat), (9 : Nat), (12 : Nat), (13 : Nat)), ((0 : Nat), (9 : Nat), (15 : Nat), (37 : Nat))] :: BG
def y_R_best : MethodName := ⟨"LeatherRoom", "best", "(I)I"⟩
abbrev c_R_best : ByteArray := prog_1_method_8_code
def w_R_best : List Cond := .code y_R_best c_R_best 3 (some .int) :: BG
def y_R_findPlace : MethodName := ⟨"LeatherRoom", "findPlace", "(LLeatherRoom$Kind;)I"⟩
abbrev c_R_findPlace : ByteArray := prog_1_method_24_code
def w_R_findPlace : List Cond := .code y_R_findPlace c_R_findPlace 5 (some .int) :: BG
def y_JNoSuchElementException_init : MethodName := ⟨"java/util/NoSuchElementException", "<init>", "(Ljava/lang/String;)V"⟩
abbrev c_JNoSuchElementException_init : ByteArray := prog_17_method_4_code
def w_JNoSuchElementException_init : List Cond := .code y_JNoSuchElementException_init c_JNoSuchElementException_init 2 none :: BG
def y_L_lay : MethodName := ⟨"LeatherRoomLaw", "lay", "(LLeatherRoom;I[J)I"⟩
abbrev c_L_lay : ByteArray := method_10_code
def w_L_lay : List Cond := .codeWith y_L_lay c_L_lay 4 (some .int) [((0 : Nat), (9 : Nat), (12 : Nat), (13 : Nat)), ((0 : Nat), (9 : Nat), (15 : Nat), (15 : Nat)), ((0 : Nat), (9 : Nat), (18 : Nat), (37 : Nat))] :: BG
def y_R_lay : MethodName := ⟨"LeatherRoom", "lay", "(I)I"⟩
abbrev c_R_lay : ByteArray := prog_1_method_9_code
def w_R_lay : List Cond := .code y_R_lay c_R_lay 6 (some .int) :: BG
def y_R_addPart : MethodName := ⟨"LeatherRoom", "addPart", "(IIII)I"⟩
abbrev c_R_addPart : ByteArray := prog_1_method_25_code
def w_R_addPart : List Cond := .code y_R_addPart c_R_addPart 6 (some .int) :: BG
def y_P_become : MethodName := ⟨"LeatherRoom$Part", "become", "(IIII)V"⟩
abbrev c_P_become : ByteArray := prog_3_method_2_code
def w_P_become : List Cond := .code y_P_become c_P_become 5 none :: BG
def y_L_put : MethodName := ⟨"LeatherRoomLaw", "put", "(LLeatherRoom;IIII[J)I"⟩
abbrev c_L_put : ByteArray := method_11_code
def w_L_put : List Cond := .codeWith y_L_put c_L_put 7 (some .int) [((0 : Nat), (14 : Nat), (17 : Nat), (13 : Nat)), ((0 : Nat), (14 : Nat), (21 : Nat), (15 : Nat)), ((0 : Nat), (14 : Nat), (25 : Nat), (46 : Nat))] :: BG
def y_R_put : MethodName := ⟨"LeatherRoom", "put", "(IIII)I"⟩
abbrev c_R_put : ByteArray := prog_1_method_10_code
def w_R_put : List Cond := .code y_R_put c_R_put 5 (some .int) :: BG
def y_JUnsupportedOperationException_init : MethodName := ⟨"java/lang/UnsupportedOperationException", "<init>", "(Ljava/lang/String;)V"⟩
abbrev c_JUnsupportedOperationException_init : ByteArray := prog_16_method_2_code
def w_JUnsupportedOperationException_init : List Cond := .code y_JUnsupportedOperationException_init c_JUnsupportedOperationException_init 2 none :: BG
def y_L_take : MethodName := ⟨"LeatherRoomLaw", "take", "(LLeatherRoom;I[J)I"⟩
abbrev c_L_take : ByteArray := method_12_code
def w_L_take : List Cond := .codeWith y_L_take c_L_take 4 (some .int) [((0 : Nat), (9 : Nat), (12 : Nat), (37 : Nat))] :: BG
def y_R_take : MethodName := ⟨"LeatherRoom", "take", "(I)I"⟩
abbrev c_R_take : ByteArray := prog_1_method_11_code
def w_R_take : List Cond := .code y_R_take c_R_take 2 (some .int) :: BG
def y_R_isPart : MethodName := ⟨"LeatherRoom", "isPart", "(I)Z"⟩
abbrev c_R_isPart : ByteArray := prog_1_method_19_code
def w_R_isPart : List Cond := .code y_R_isPart c_R_isPart 2 (some .boolean) :: BG
def y_L_part : MethodName := ⟨"LeatherRoomLaw", "part", "(LLeatherRoom;II[J)I"⟩
abbrev c_L_part : ByteArray := method_13_code
def w_L_part : List Cond := .codeWith y_L_part c_L_part 5 (some .int) [((0 : Nat), (10 : Nat), (13 : Nat), (13 : Nat)), ((0 : Nat), (10 : Nat), (17 : Nat), (37 : Nat))] :: BG
def y_R_part : MethodName := ⟨"LeatherRoom", "part", "(II)I"⟩
abbrev c_R_part : ByteArray := prog_1_method_13_code
def w_R_part : List Cond := .code y_R_part c_R_part 3 (some .int) :: BG
def y_M_init : MethodName := ⟨"LeatherRoomModel", "<init>", "()V"⟩
abbrev c_M_init : ByteArray := prog_7_method_1_code
def w_M_init : List Cond := .code y_M_init c_M_init 2 none :: BG
def y_M_thrown : MethodName := ⟨"LeatherRoomModel", "thrown", "()I"⟩
abbrev c_M_thrown : ByteArray := prog_7_method_2_code
def w_M_thrown : List Cond := .code y_M_thrown c_M_thrown 1 (some .int) :: BG
def y_M_corner : MethodName := ⟨"LeatherRoomModel", "corner", "(II)I"⟩
abbrev c_M_corner : ByteArray := prog_7_method_4_code
def w_M_corner : List Cond := .code y_M_corner c_M_corner 3 (some .int) :: BG
def y_M_hide : MethodName := ⟨"LeatherRoomModel", "hide", "()V"⟩
abbrev c_M_hide : ByteArray := prog_7_method_11_code
def w_M_hide : List Cond := .code y_M_hide c_M_hide 3 none :: BG
def y_M_count : MethodName := ⟨"LeatherRoomModel", "count", "()I"⟩
abbrev c_M_count : ByteArray := prog_7_method_3_code
def w_M_count : List Cond := .code y_M_count c_M_count 3 (some .int) :: BG
def y_M_isPlain : MethodName := ⟨"LeatherRoomModel", "isPlain", "(I)Z"⟩
abbrev c_M_isPlain : ByteArray := prog_7_method_9_code
def w_M_isPlain : List Cond := .code y_M_isPlain c_M_isPlain 8 (some .boolean) :: BG
def y_M_isOn : MethodName := ⟨"LeatherRoomModel", "isOn", "(III)Z"⟩
abbrev c_M_isOn : ByteArray := prog_7_method_7_code
def w_M_isOn : List Cond := .code y_M_isOn c_M_isOn 4 (some .boolean) :: BG
def y_M_side : MethodName := ⟨"LeatherRoomModel", "side", "(III)I"⟩
abbrev c_M_side : ByteArray := prog_7_method_5_code
def w_M_side : List Cond := .code y_M_side c_M_side 4 (some .int) :: BG
def y_M_within : MethodName := ⟨"LeatherRoomModel", "within", "(III)Z"⟩
abbrev c_M_within : ByteArray := prog_7_method_6_code
def w_M_within : List Cond := .code y_M_within c_M_within 8 (some .boolean) :: BG
def y_M_meet : MethodName := ⟨"LeatherRoomModel", "meet", "(III)Z"⟩
abbrev c_M_meet : ByteArray := prog_7_method_8_code
def w_M_meet : List Cond := .code y_M_meet c_M_meet 8 (some .boolean) :: BG
def y_M_zone : MethodName := ⟨"LeatherRoomModel", "zone", "(I)I"⟩
abbrev c_M_zone : ByteArray := prog_7_method_13_code
def w_M_zone : List Cond := .code y_M_zone c_M_zone 4 (some .int) :: BG
def y_M_isGrade : MethodName := ⟨"LeatherRoomModel", "isGrade", "(II)Z"⟩
abbrev c_M_isGrade : ByteArray := prog_7_method_12_code
def w_M_isGrade : List Cond := .code y_M_isGrade c_M_isGrade 2 (some .boolean) :: BG
def y_M_isRound : MethodName := ⟨"LeatherRoomModel", "isRound", "(I)Z"⟩
abbrev c_M_isRound : ByteArray := prog_7_method_10_code
def w_M_isRound : List Cond := .code y_M_isRound c_M_isRound 7 (some .boolean) :: BG
def y_M_clear : MethodName := ⟨"LeatherRoomModel", "clear", "()V"⟩
abbrev c_M_clear : ByteArray := prog_7_method_14_code
def w_M_clear : List Cond := .code y_M_clear c_M_clear 1 none :: BG
def y_M_kind : MethodName := ⟨"LeatherRoomModel", "kind", "(II)I"⟩
abbrev c_M_kind : ByteArray := prog_7_method_15_code
def w_M_kind : List Cond := .code y_M_kind c_M_kind 6 (some .int) :: BG
def y_M_fits : MethodName := ⟨"LeatherRoomModel", "fits", "(IIII)Z"⟩
abbrev c_M_fits : ByteArray := prog_7_method_26_code
def w_M_fits : List Cond := .code y_M_fits c_M_fits 5 (some .boolean) :: BG
def y_M_isKind : MethodName := ⟨"LeatherRoomModel", "isKind", "(I)Z"⟩
abbrev c_M_isKind : ByteArray := prog_7_method_24_code
def w_M_isKind : List Cond := .code y_M_isKind c_M_isKind 2 (some .boolean) :: BG
def y_M_isPlace : MethodName := ⟨"LeatherRoomModel", "isPlace", "(III)Z"⟩
abbrev c_M_isPlace : ByteArray := prog_7_method_25_code
def w_M_isPlace : List Cond := .code y_M_isPlace c_M_isPlace 4 (some .boolean) :: BG
def y_M_isFit : MethodName := ⟨"LeatherRoomModel", "isFit", "(IIII)Z"⟩
abbrev c_M_isFit : ByteArray := prog_7_method_23_code
def w_M_isFit : List Cond := .code y_M_isFit c_M_isFit 6 (some .boolean) :: BG
def y_M_shape : MethodName := ⟨"LeatherRoomModel", "shape", "(IIII)V"⟩
abbrev c_M_shape : ByteArray := prog_7_method_16_code
def w_M_shape : List Cond := .code y_M_shape c_M_shape 12 none :: BG
def y_M_isInHide : MethodName := ⟨"LeatherRoomModel", "isInHide", "()Z"⟩
abbrev c_M_isInHide : ByteArray := prog_7_method_20_code
def w_M_isInHide : List Cond := .code y_M_isInHide c_M_isInHide 3 (some .boolean) :: BG
def y_M_overlaps : MethodName := ⟨"LeatherRoomModel", "overlaps", "()Z"⟩
abbrev c_M_overlaps : ByteArray := prog_7_method_18_code
def w_M_overlaps : List Cond := .code y_M_overlaps c_M_overlaps 3 (some .boolean) :: BG
def y_M_isParted : MethodName := ⟨"LeatherRoomModel", "isParted", "(II)Z"⟩
abbrev c_M_isParted : ByteArray := prog_7_method_17_code
def w_M_isParted : List Cond := .code y_M_isParted c_M_isParted 9 (some .boolean) :: BG
def y_M_isMiddleInside : MethodName := ⟨"LeatherRoomModel", "isMiddleInside", "()Z"⟩
abbrev c_M_isMiddleInside : ByteArray := prog_7_method_19_code
def w_M_isMiddleInside : List Cond := .code y_M_isMiddleInside c_M_isMiddleInside 11 (some .boolean) :: BG
def y_M_isOffZones : MethodName := ⟨"LeatherRoomModel", "isOffZones", "(I)Z"⟩
abbrev c_M_isOffZones : ByteArray := prog_7_method_21_code
def w_M_isOffZones : List Cond := .code y_M_isOffZones c_M_isOffZones 4 (some .boolean) :: BG
def y_M_isBesideParts : MethodName := ⟨"LeatherRoomModel", "isBesideParts", "()Z"⟩
abbrev c_M_isBesideParts : ByteArray := prog_7_method_22_code
def w_M_isBesideParts : List Cond := .code y_M_isBesideParts c_M_isBesideParts 3 (some .boolean) :: BG
def y_M_best : MethodName := ⟨"LeatherRoomModel", "best", "(I)I"⟩
abbrev c_M_best : ByteArray := prog_7_method_28_code
def w_M_best : List Cond := .code y_M_best c_M_best 3 (some .int) :: BG
def y_M_search : MethodName := ⟨"LeatherRoomModel", "search", "(I)I"⟩
abbrev c_M_search : ByteArray := prog_7_method_27_code
def w_M_search : List Cond := .code y_M_search c_M_search 5 (some .int) :: BG
def y_M_lay : MethodName := ⟨"LeatherRoomModel", "lay", "(I)I"⟩
abbrev c_M_lay : ByteArray := prog_7_method_30_code
def w_M_lay : List Cond := .code y_M_lay c_M_lay 3 (some .int) :: BG
def y_M_place : MethodName := ⟨"LeatherRoomModel", "place", "(IIII)I"⟩
abbrev c_M_place : ByteArray := prog_7_method_29_code
def w_M_place : List Cond := .code y_M_place c_M_place 7 (some .int) :: BG
def y_M_put : MethodName := ⟨"LeatherRoomModel", "put", "(IIII)I"⟩
abbrev c_M_put : ByteArray := prog_7_method_31_code
def w_M_put : List Cond := .code y_M_put c_M_put 5 (some .int) :: BG
def y_M_take : MethodName := ⟨"LeatherRoomModel", "take", "(I)I"⟩
abbrev c_M_take : ByteArray := prog_7_method_33_code
def w_M_take : List Cond := .code y_M_take c_M_take 3 (some .int) :: BG
def y_M_isPart : MethodName := ⟨"LeatherRoomModel", "isPart", "(I)Z"⟩
abbrev c_M_isPart : ByteArray := prog_7_method_32_code
def w_M_isPart : List Cond := .code y_M_isPart c_M_isPart 2 (some .boolean) :: BG
def y_M_strip : MethodName := ⟨"LeatherRoomModel", "strip", "()I"⟩
abbrev c_M_strip : ByteArray := prog_7_method_34_code
def w_M_strip : List Cond := .code y_M_strip c_M_strip 3 (some .int) :: BG
def y_M_part : MethodName := ⟨"LeatherRoomModel", "part", "(II)I"⟩
abbrev c_M_part : ByteArray := prog_7_method_35_code
def w_M_part : List Cond := .code y_M_part c_M_part 3 (some .int) :: BG
def y_M_parts : MethodName := ⟨"LeatherRoomModel", "parts", "()I"⟩
abbrev c_M_parts : ByteArray := prog_7_method_36_code
def w_M_parts : List Cond := .code y_M_parts c_M_parts 1 (some .int) :: BG
def y_M_free : MethodName := ⟨"LeatherRoomModel", "free", "()I"⟩
abbrev c_M_free : ByteArray := prog_7_method_38_code
def w_M_free : List Cond := .code y_M_free c_M_free 7 (some .int) :: BG
def y_M_size : MethodName := ⟨"LeatherRoomModel", "size", "(I)I"⟩
abbrev c_M_size : ByteArray := prog_7_method_37_code
def w_M_size : List Cond := .code y_M_size c_M_size 1 (some .int) :: BG
def y_L_law : MethodName := ⟨"LeatherRoomLaw", "law", "([I)Z"⟩
abbrev c_L_law : ByteArray := code
def F_K : u_T := fun k => match k with
  | 0 => ("LeatherRoom$Kind", "turned", "[LLeatherRoom$Shape;", true)
  | 1 => ("LeatherRoom$Kind", "grade", "I", false)
  | _ => ("LeatherRoom$Kind", "turns", "I", false)
def t_K : Nat → FieldType := fun k => match k with
  | 0 => .array (.object "LeatherRoom$Shape")
  | 1 => .int
  | _ => .int
theorem n_K : ∀ a, a < 3 → ∀ b, b < 3 → a ≠ b → (F_K a).2.1 ≠ (F_K b).2.1 := by decide +kernel
theorem t_K_ok : ∀ k, k < 3 → parseFieldDescriptor (F_K k).2.2.1 = some (t_K k) := by decide +kernel
theorem u_K : ∀ w ∈ u_ws "LeatherRoom$Kind" F_K 3, w ∈ BG := by
  intro w hw
  obtain ⟨k, hk, rfl⟩ := List.mem_map.mp hw
  have hk := List.mem_range.mp hk
  match k, hk with
  | 0, _ => exact wd_95
  | 1, _ => exact wd_97
  | 2, _ => exact wd_99
  | k + 3, h => omega
def F_P : u_T := fun k => match k with
  | 0 => ("LeatherRoom$Part", "shape", "LLeatherRoom$Shape;", true)
  | 1 => ("LeatherRoom$Part", "lies", "Z", false)
  | 2 => ("LeatherRoom$Part", "kind", "I", false)
  | 3 => ("LeatherRoom$Part", "x", "I", false)
  | 4 => ("LeatherRoom$Part", "y", "I", false)
  | _ => ("LeatherRoom$Part", "turn", "I", false)
def t_P : Nat → FieldType := fun k => match k with
  | 0 => .object "LeatherRoom$Shape"
  | 1 => .boolean
  | 2 => .int
  | 3 => .int
  | 4 => .int
  | _ => .int
theorem n_P : ∀ a, a < 6 → ∀ b, b < 6 → a ≠ b → (F_P a).2.1 ≠ (F_P b).2.1 := by decide +kernel
theorem t_P_ok : ∀ k, k < 6 → parseFieldDescriptor (F_P k).2.2.1 = some (t_P k) := by decide +kernel
theorem u_P : ∀ w ∈ u_ws "LeatherRoom$Part" F_P 6, w ∈ BG := by
  intro w hw
  obtain ⟨k, hk, rfl⟩ := List.mem_map.mp hw
  have hk := List.mem_range.mp hk
  match k, hk with
  | 0, _ => exact wd_121
  | 1, _ => exact wd_123
  | 2, _ => exact wd_125
  | 3, _ => exact wd_127
  | 4, _ => exact wd_129
  | 5, _ => exact wd_131
  | k + 6, h => omega
def F_S : u_T := fun k => match k with
  | 0 => ("LeatherRoom$Shape", "x", "[I", true)
  | 1 => ("LeatherRoom$Shape", "y", "[I", true)
  | 2 => ("LeatherRoom$Shape", "size", "I", false)
  | 3 => ("LeatherRoom$Shape", "lowX", "I", false)
  | 4 => ("LeatherRoom$Shape", "highX", "I", false)
  | 5 => ("LeatherRoom$Shape", "lowY", "I", false)
  | _ => ("LeatherRoom$Shape", "highY", "I", false)
def t_S : Nat → FieldType := fun k => match k with
  | 0 => .array .int
  | 1 => .array .int
  | 2 => .int
  | 3 => .int
  | 4 => .int
  | 5 => .int
  | _ => .int
theorem n_S : ∀ a, a < 7 → ∀ b, b < 7 → a ≠ b → (F_S a).2.1 ≠ (F_S b).2.1 := by decide +kernel
theorem t_S_ok : ∀ k, k < 7 → parseFieldDescriptor (F_S k).2.2.1 = some (t_S k) := by decide +kernel
theorem u_S : ∀ w ∈ u_ws "LeatherRoom$Shape" F_S 7, w ∈ BG := by
  intro w hw
  obtain ⟨k, hk, rfl⟩ := List.mem_map.mp hw
  have hk := List.mem_range.mp hk
  match k, hk with
  | 0, _ => exact wd_44
  | 1, _ => exact wd_46
  | 2, _ => exact wd_48
  | 3, _ => exact wd_50
  | 4, _ => exact wd_52
  | 5, _ => exact wd_54
  | 6, _ => exact wd_56
  | k + 7, h => omega
def F_Z : u_T := fun k => match k with
  | 0 => ("LeatherRoom$Zone", "shape", "LLeatherRoom$Shape;", true)
  | _ => ("LeatherRoom$Zone", "grade", "I", false)
def t_Z : Nat → FieldType := fun k => match k with
  | 0 => .object "LeatherRoom$Shape"
  | _ => .int
theorem n_Z : ∀ a, a < 2 → ∀ b, b < 2 → a ≠ b → (F_Z a).2.1 ≠ (F_Z b).2.1 := by decide +kernel
theorem t_Z_ok : ∀ k, k < 2 → parseFieldDescriptor (F_Z k).2.2.1 = some (t_Z k) := by decide +kernel
theorem u_Z : ∀ w ∈ u_ws "LeatherRoom$Zone" F_Z 2, w ∈ BG := by
  intro w hw
  obtain ⟨k, hk, rfl⟩ := List.mem_map.mp hw
  have hk := List.mem_range.mp hk
  match k, hk with
  | 0, _ => exact wd_77
  | 1, _ => exact wd_79
  | k + 2, h => omega
def F_R : u_T := fun k => match k with
  | 0 => ("LeatherRoom", "waiting", "LLeatherRoom$Shape;", true)
  | 1 => ("LeatherRoom", "offered", "LLeatherRoom$Shape;", true)
  | 2 => ("LeatherRoom", "outline", "LLeatherRoom$Shape;", true)
  | 3 => ("LeatherRoom", "zones", "[LLeatherRoom$Zone;", true)
  | 4 => ("LeatherRoom", "kinds", "[LLeatherRoom$Kind;", true)
  | 5 => ("LeatherRoom", "lots", "[LLeatherRoom$Part;", true)
  | 6 => ("LeatherRoom", "zoneCount", "I", false)
  | 7 => ("LeatherRoom", "kindCount", "I", false)
  | _ => ("LeatherRoom", "partCount", "I", false)
def t_R : Nat → FieldType := fun k => match k with
  | 0 => .object "LeatherRoom$Shape"
  | 1 => .object "LeatherRoom$Shape"
  | 2 => .object "LeatherRoom$Shape"
  | 3 => .array (.object "LeatherRoom$Zone")
  | 4 => .array (.object "LeatherRoom$Kind")
  | 5 => .array (.object "LeatherRoom$Part")
  | 6 => .int
  | 7 => .int
  | _ => .int
theorem n_R : ∀ a, a < 9 → ∀ b, b < 9 → a ≠ b → (F_R a).2.1 ≠ (F_R b).2.1 := by decide +kernel
theorem t_R_ok : ∀ k, k < 9 → parseFieldDescriptor (F_R k).2.2.1 = some (t_R k) := by decide +kernel
theorem u_R : ∀ w ∈ u_ws "LeatherRoom" F_R 9, w ∈ BG := by
  intro w hw
  obtain ⟨k, hk, rfl⟩ := List.mem_map.mp hw
  have hk := List.mem_range.mp hk
  match k, hk with
  | 0, _ => exact wd_143
  | 1, _ => exact wd_145
  | 2, _ => exact wd_147
  | 3, _ => exact wd_149
  | 4, _ => exact wd_151
  | 5, _ => exact wd_153
  | 6, _ => exact wd_155
  | 7, _ => exact wd_157
  | 8, _ => exact wd_159
  | k + 9, h => omega
def F_M : u_T := fun k => match k with
  | 0 => ("LeatherRoomModel", "code", "I", false)
  | 1 => ("LeatherRoomModel", "waiting", "I", false)
  | 2 => ("LeatherRoomModel", "waitX", "[I", true)
  | 3 => ("LeatherRoomModel", "waitY", "[I", true)
  | 4 => ("LeatherRoomModel", "hideCorners", "I", false)
  | 5 => ("LeatherRoomModel", "hideX", "[I", true)
  | 6 => ("LeatherRoomModel", "hideY", "[I", true)
  | 7 => ("LeatherRoomModel", "zones", "I", false)
  | 8 => ("LeatherRoomModel", "zoneX", "[I", true)
  | 9 => ("LeatherRoomModel", "zoneY", "[I", true)
  | 10 => ("LeatherRoomModel", "zoneCorners", "[I", true)
  | 11 => ("LeatherRoomModel", "zoneGrade", "[I", true)
  | 12 => ("LeatherRoomModel", "kinds", "I", false)
  | 13 => ("LeatherRoomModel", "kindX", "[I", true)
  | 14 => ("LeatherRoomModel", "kindY", "[I", true)
  | 15 => ("LeatherRoomModel", "kindCorners", "[I", true)
  | 16 => ("LeatherRoomModel", "kindGrade", "[I", true)
  | 17 => ("LeatherRoomModel", "kindTurns", "[I", true)
  | 18 => ("LeatherRoomModel", "partKind", "[I", true)
  | 19 => ("LeatherRoomModel", "partX", "[I", true)
  | 20 => ("LeatherRoomModel", "partY", "[I", true)
  | 21 => ("LeatherRoomModel", "partTurn", "[I", true)
  | 22 => ("LeatherRoomModel", "cornerX", "[I", true)
  | 23 => ("LeatherRoomModel", "cornerY", "[I", true)
  | 24 => ("LeatherRoomModel", "many", "I", false)
  | 25 => ("LeatherRoomModel", "x", "[I", true)
  | 26 => ("LeatherRoomModel", "y", "[I", true)
  | 27 => ("LeatherRoomModel", "otherMany", "I", false)
  | 28 => ("LeatherRoomModel", "otherX", "[I", true)
  | _ => ("LeatherRoomModel", "otherY", "[I", true)
def t_M : Nat → FieldType := fun k => match k with
  | 0 => .int
  | 1 => .int
  | 2 => .array .int
  | 3 => .array .int
  | 4 => .int
  | 5 => .array .int
  | 6 => .array .int
  | 7 => .int
  | 8 => .array .int
  | 9 => .array .int
  | 10 => .array .int
  | 11 => .array .int
  | 12 => .int
  | 13 => .array .int
  | 14 => .array .int
  | 15 => .array .int
  | 16 => .array .int
  | 17 => .array .int
  | 18 => .array .int
  | 19 => .array .int
  | 20 => .array .int
  | 21 => .array .int
  | 22 => .array .int
  | 23 => .array .int
  | 24 => .int
  | 25 => .array .int
  | 26 => .array .int
  | 27 => .int
  | 28 => .array .int
  | _ => .array .int
theorem n_M : ∀ a, a < 30 → ∀ b, b < 30 → a ≠ b → (F_M a).2.1 ≠ (F_M b).2.1 := by decide +kernel
theorem t_M_ok : ∀ k, k < 30 → parseFieldDescriptor (F_M k).2.2.1 = some (t_M k) := by decide +kernel
theorem u_M : ∀ w ∈ u_ws "LeatherRoomModel" F_M 30, w ∈ BG := by
  intro w hw
  obtain ⟨k, hk, rfl⟩ := List.mem_map.mp hw
  have hk := List.mem_range.mp hk
  match k, hk with
  | 0, _ => exact wd_580
  | 1, _ => exact wd_582
  | 2, _ => exact wd_584
  | 3, _ => exact wd_586
  | 4, _ => exact wd_588
  | 5, _ => exact wd_590
  | 6, _ => exact wd_592
  | 7, _ => exact wd_594
  | 8, _ => exact wd_596
  | 9, _ => exact wd_598
  | 10, _ => exact wd_600
  | 11, _ => exact wd_602
  | 12, _ => exact wd_604
  | 13, _ => exact wd_606
  | 14, _ => exact wd_608
  | 15, _ => exact wd_610
  | 16, _ => exact wd_612
  | 17, _ => exact wd_614
  | 18, _ => exact wd_616
  | 19, _ => exact wd_618
  | 20, _ => exact wd_620
  | 21, _ => exact wd_622
  | 22, _ => exact wd_624
  | 23, _ => exact wd_626
  | 24, _ => exact wd_628
  | 25, _ => exact wd_630
  | 26, _ => exact wd_632
  | 27, _ => exact wd_634
  | 28, _ => exact wd_636
  | 29, _ => exact wd_638
  | k + 30, h => omega
abbrev cls_all : List vw_C := [("LeatherRoom$Kind", F_K, 3), ("LeatherRoom$Part", F_P, 6), ("LeatherRoom$Shape", F_S, 7), ("LeatherRoom$Zone", F_Z, 2), ("LeatherRoom", F_R, 9), ("LeatherRoomModel", F_M, 30)]
end
section
-- GEOMETRY: words
/-- p lies between a and b -/
def ge_bt (a b p : Int) : Prop := (a ≤ p ∧ p ≤ b) ∨ (b ≤ p ∧ p ≤ a)
def ge_cr (ax ay bx b_y px py : Int) : Int := (bx - ax) * (py - ay) - (b_y - ay) * (px - ax)
def ge_on (ax ay bx b_y px py : Int) : Prop := ge_cr ax ay bx b_y px py = 0 ∧ ge_bt ax bx px ∧ ge_bt ay b_y py
/-- the ranges of a, b and of c, d have a number in common -/
def ge_rg (a b c d : Int) : Prop := (c ≤ a ∨ d ≤ a ∨ c ≤ b ∨ d ≤ b) ∧ (a ≤ c ∨ b ≤ c ∨ a ≤ d ∨ b ≤ d)
/-- boxes and sides of lines -/
def ge_bx (ax ay bx b_y cx cy dx dy : Int) : Prop := ge_rg ax bx cx dx ∧ ge_rg ay b_y cy dy ∧
  ge_cr ax ay bx b_y cx cy * ge_cr ax ay bx b_y dx dy ≤ 0 ∧ ge_cr cx cy dx dy ax ay * ge_cr cx cy dx dy bx b_y ≤ 0
def ge_any (ax ay bx b_y cx cy dx dy : Int) : Prop := ge_on ax ay bx b_y cx cy ∨ ge_on ax ay bx b_y dx dy ∨ ge_on cx cy dx dy ax ay ∨ ge_on cx cy dx dy bx b_y
/-- each stretch goes right through the other -/
def ge_thru (ax ay bx b_y cx cy dx dy : Int) : Prop :=
  ge_cr ax ay bx b_y cx cy * ge_cr ax ay bx b_y dx dy < 0 ∧ ge_cr cx cy dx dy ax ay * ge_cr cx cy dx dy bx b_y < 0
def ge_x (a b : Int × Int) : Int := a.1 * b.2 - a.2 * b.1
def ge_d (a b : Int × Int) : Int := a.1 * b.1 + a.2 * b.2
def ge_nx (n i : Nat) : Nat := if i + 1 < n then i + 1 else 0
def ge_pv (n i : Nat) : Nat := if i = 0 then n - 1 else i - 1
/-- the inner normal of a side, where the corners go round to the left -/
def ge_nv (P : Nat → Int × Int) (n i : Nat) : Int × Int := ((P i).2 - (P (ge_nx n i)).2, (P (ge_nx n i)).1 - (P i).1)
def ge_bs (P : Nat → Int × Int) (n i : Nat) (p : Int × Int) : Int := ((P (ge_nx n i)).1 - (P i).1) * (p.2 - (P i).2) - ((P (ge_nx n i)).2 - (P i).2) * (p.1 - (P i).1)
def ge_ccw (n : Nat) (P : Nat → Int × Int) : Prop := ∀ i k, i < n → k < n → k ≠ i → k ≠ ge_nx n i → 0 < ge_bs P n i (P k)
/-- the stretches v w and m n have no point in common -/
def ge_dj (v w m n : Int × Int) : Prop := ∀ a b c e : Int, 0 ≤ a → 0 ≤ b → 0 ≤ c → 0 ≤ e → 0 < a + b → a + b = c + e →
  a * v.1 + b * w.1 = c * m.1 + e * n.1 → a * v.2 + b * w.2 = c * m.2 + e * n.2 → False
/-- where the ray from m to the right meets the side v w -/
def ge_hit (m v w : Int × Int) : Prop := (v.2 ≤ m.2 ∧ m.2 < w.2 ∧ 0 < ge_cr v.1 v.2 w.1 w.2 m.1 m.2) ∨ (w.2 ≤ m.2 ∧ m.2 < v.2 ∧ ge_cr v.1 v.2 w.1 w.2 m.1 m.2 < 0)
/-- right of m n, and between their heights (m is the lower one) -/
def ge_in (m n v : Int × Int) : Prop := m.2 < v.2 ∧ v.2 ≤ n.2 ∧ ge_cr m.1 m.2 n.1 n.2 v.1 v.2 < 0
/-- the parity: whether the ray meets an odd number of the sides 0 .. k - 1 -/
noncomputable def ge_odd (n : Nat) (V : Nat → Int × Int) (m : Int × Int) : Nat → Prop
  | 0 => False
  | k + 1 => ¬ (ge_odd n V m k ↔ ge_hit m (V k) (V (ge_nx n k)))
/-- no point of one lies beyond all of the other in the direction d, or the other way -/
def ge_pt (n : Nat) (P : Nat → Int × Int) (m : Nat) (Q : Nat → Int × Int) (d : Int × Int) : Prop :=
  (∀ i k, i < n → k < m → ge_d d (P i) ≤ ge_d d (Q k)) ∨ (∀ i k, i < n → k < m → ge_d d (Q k) ≤ ge_d d (P i))
/-- the reference: no side's normal parts them -/
def ge_ov (n : Nat) (P : Nat → Int × Int) (m : Nat) (Q : Nat → Int × Int) : Prop :=
  (∀ i, i < n → ¬ ge_pt n P m Q (ge_nv P n i)) ∧ (∀ k, k < m → ¬ ge_pt n P m Q (ge_nv Q m k))
/-- the corners the other way round -/
def ge_rev (n : Nat) (P : Nat → Int × Int) : Nat → Int × Int := fun i => P (n - 1 - i)
/-- the class: boxes, then sides, each from within -/
def ge_apart (n : Nat) (P : Nat → Int × Int) (m : Nat) (Q : Nat → Int × Int) : Prop :=
  (∀ i k, i < n → k < m → (Q k).1 ≤ (P i).1) ∨ (∀ i k, i < n → k < m → (P i).1 ≤ (Q k).1) ∨ (∀ i k, i < n → k < m → (Q k).2 ≤ (P i).2) ∨ (∀ i k, i < n → k < m → (P i).2 ≤ (Q k).2)
def ge_sp (n : Nat) (P : Nat → Int × Int) (m : Nat) (Q : Nat → Int × Int) : Prop := ∃ i, i < n ∧ ∀ k, k < m → ge_bs P n i (Q k) ≤ 0
def ge_ov2 (n : Nat) (P : Nat → Int × Int) (m : Nat) (Q : Nat → Int × Int) : Prop := ¬ ge_apart n P m Q ∧ ¬ ge_sp n P m Q ∧ ¬ ge_sp m Q n P
def ge_two2 (A B : Int × Int) : Nat → Int × Int := fun i => if i = 0 then A else B
/-- the class: the side A B has points inside the piece Q -/
def ge_cut (A B : Int × Int) (m : Nat) (Q : Nat → Int × Int) : Prop :=
  ¬ ((∀ k, k < m → A.1 ≤ (Q k).1 ∧ B.1 ≤ (Q k).1) ∨ (∀ k, k < m → (Q k).1 ≤ A.1 ∧ (Q k).1 ≤ B.1) ∨ (∀ k, k < m → A.2 ≤ (Q k).2 ∧ B.2 ≤ (Q k).2) ∨ (∀ k, k < m → (Q k).2 ≤ A.2 ∧ (Q k).2 ≤ B.2)) ∧
  (∃ k, k < m ∧ 0 < ge_cr A.1 A.2 B.1 B.2 (Q k).1 (Q k).2) ∧ (∃ k, k < m ∧ ge_cr A.1 A.2 B.1 B.2 (Q k).1 (Q k).2 < 0) ∧
  ¬ ∃ k, k < m ∧ ge_bs Q m k A ≤ 0 ∧ ge_bs Q m k B ≤ 0
def ge_3 (V : Nat → Int × Int) : Nat → Int × Int := fun k => (3 * (V k).1, 3 * (V k).2)
def ge_mid3 (a b c : Int × Int) : Int × Int := (a.1 + b.1 + c.1, a.2 + b.2 + c.2)
/-- the reference's question of one side -/
def ge_hitM (m v w : Int × Int) : Prop := ¬ (m.2 < v.2 ↔ m.2 < w.2) ∧ (0 < ge_cr v.1 v.2 w.1 w.2 m.1 m.2 ↔ v.2 < w.2)
def ge_cw (n : Nat) (P : Nat → Int × Int) : Prop := ∀ i k, i < n → k < n → k ≠ i → k ≠ ge_nx n i → ge_bs P n i (P k) < 0
/-- the class: the sign of the first corner that tells -/
def ge_rd (n : Nat) (P : Nat → Int × Int) : Prop := ∀ i k, i < n → k < n → k ≠ i → k ≠ ge_nx n i → 0 < (if 0 < ge_bs P n 0 (P 2) then 1 else -1) * ge_bs P n i (P k)
def ge_sumN (f : Nat → Nat) : Nat → Nat
  | 0 => 0
  | k + 1 => ge_sumN f k + f k
def ge_sm (f : Nat → Int) : Nat → Int
  | 0 => 0
  | k + 1 => ge_sm f k + f k
def ge_sd (n : Nat) (P : Nat → Int × Int) (k : Nat) : Int := (P k).1 * (P (ge_nx n k)).2 - (P (ge_nx n k)).1 * (P k).2
def ge_ar (n : Nat) (P : Nat → Int × Int) (k : Nat) : Int := ge_sm (ge_sd n P) k
/-- the fan from corner 0 -/
def ge_fan (P : Nat → Int × Int) : Nat → Int
  | 0 => 0
  | k + 1 => ge_fan P k + ge_cr (P k).1 (P k).2 (P (k + 1)).1 (P (k + 1)).2 (P 0).1 (P 0).2
/-- x and y changed: the way turns too, and every index stays -/
def ge_mir (P : Nat → Int × Int) : Nat → Int × Int := fun i => ((P i).2, (P i).1)
def ge_onI (P : Nat → Int × Int) (i j k : Nat) : Prop := ge_on (P i).1 (P i).2 (P j).1 (P j).2 (P k).1 (P k).2
def ge_crI (P : Nat → Int × Int) (i j k : Nat) : Int := ge_cr (P i).1 (P i).2 (P j).1 (P j).2 (P k).1 (P k).2
/-- the reference: two sides meet -/
def ge_mtM (n : Nat) (P : Nat → Int × Int) (i k : Nat) : Prop :=
  (ge_onI P i (ge_nx n i) k ∨ ge_onI P i (ge_nx n i) (ge_nx n k) ∨ ge_onI P k (ge_nx n k) i ∨ ge_onI P k (ge_nx n k) (ge_nx n i)) ∨
  (¬ ((0 < ge_crI P i (ge_nx n i) k ↔ 0 < ge_crI P i (ge_nx n i) (ge_nx n k)) ∨ (0 < ge_crI P k (ge_nx n k) i ↔ 0 < ge_crI P k (ge_nx n k) (ge_nx n i))) ∧
   ¬ (ge_crI P i (ge_nx n i) k = 0 ∨ ge_crI P i (ge_nx n i) (ge_nx n k) = 0 ∨ ge_crI P k (ge_nx n k) i = 0 ∨ ge_crI P k (ge_nx n k) (ge_nx n i) = 0))
/-- the class: two sides meet -/
def ge_mtC (n : Nat) (P : Nat → Int × Int) (i k : Nat) : Prop :=
  ge_bx (P i).1 (P i).2 (P (ge_nx n i)).1 (P (ge_nx n i)).2 (P k).1 (P k).2 (P (ge_nx n k)).1 (P (ge_nx n k)).2
/-- the class: a side and the next fold back -/
def ge_fd (n : Nat) (P : Nat → Int × Int) (i : Nat) : Prop :=
  ge_bs P n i (P (ge_nx n (ge_nx n i))) = 0 ∧
  0 ≤ ((P i).1 - (P (ge_nx n i)).1) * ((P (ge_nx n (ge_nx n i))).1 - (P (ge_nx n i)).1) + ((P i).2 - (P (ge_nx n i)).2) * ((P (ge_nx n (ge_nx n i))).2 - (P (ge_nx n i)).2)
def ge_plC (n : Nat) (P : Nat → Int × Int) : Prop := ∀ i, i < n → ¬ ge_fd n P i ∧ ∀ j, i + 2 ≤ j → j < n → ge_nx n j ≠ i → ¬ ge_mtC n P i j
def ge_plM (n : Nat) (P : Nat → Int × Int) : Prop := ∀ i, i < n → (¬ ge_onI P i (ge_nx n i) (ge_nx n (ge_nx n i)) ∧ ¬ ge_onI P (ge_nx n i) (ge_nx n (ge_nx n i)) i) ∧
  ∀ k, k < n → ¬ ((k ≠ i ∧ k ≠ ge_nx n i ∧ ge_nx n k ≠ i) ∧ ge_mtM n P i k)
/-- (y, x, t) before (y', x', t') in the order in which places are tried -/
def ge_bf (y x t y' x' t' : Int) : Prop := y < y' ∨ (y = y' ∧ (x < x' ∨ (x = x' ∧ t < t')))
/-- r is the first place that fits, in the form that is answered, or -1 -/
def ge_first (F : Int → Int → Int → Prop) (r : Int) : Prop :=
  (r = -1 ∧ ∀ y x t, ¬ F y x t) ∨ (∃ y x t, F y x t ∧ r = x + 32 * y + 1024 * t ∧ ∀ y' x' t', ge_bf y' x' t' y x t → ¬ F y' x' t')
theorem ge_ar_s (n : Nat) (P : Nat → Int × Int) (k : Nat) : ge_ar n P (k + 1) = ge_ar n P k + ((P k).1 * (P (ge_nx n k)).2 - (P (ge_nx n k)).1 * (P k).2) := rfl
end
section
-- BASE: ints as zI z; locals as a list read by zg; the judgement zG (the machine at pc, locals lv, stack st, all cells in one pool L f) and its rows
def zI (z : Int) : Int32 := Int32.ofInt z
abbrev zO (z : Int) : Prop := -2147483648 ≤ z ∧ z ≤ 2147483647
theorem zI_add (a b : Int) : zI a + zI b = zI (a + b) := (Int32.ofInt_add a b).symm
theorem zI_sub (a b : Int) : zI a - zI b = zI (a - b) := (Int32.ofInt_sub a b).symm
theorem zI_mul (a b : Int) : zI a * zI b = zI (a * b) := (Int32.ofInt_mul a b).symm
theorem zI_neg (a : Int) : -zI a = zI (-a) := (Int32.ofInt_neg a).symm
theorem zI_0 : zI 0 = 0 := rfl
theorem zI_1 : zI 1 = 1 := rfl
theorem zI_toInt {a : Int} (h : zO a) : (zI a).toInt = a := Int32.toInt_ofInt_of_le (by have := h.1; omega) (by have := h.2; omega)
theorem zI_of (x : Int32) : x = zI x.toInt := (Int32.ofInt_toInt x).symm
theorem zO_of (x : Int32) : zO x.toInt := ⟨by have := x.le_toInt; omega, by have := x.toInt_lt; omega⟩
theorem zI_ex (x : Int32) : ∃ z, zO z ∧ x = zI z := ⟨x.toInt, zO_of x, zI_of x⟩
theorem zI_nat (n : Nat) : zI (n : Int) = nI n := Int32.ofInt_eq_ofNat
theorem zI_lt {a b : Int} (ha : zO a) (hb : zO b) : zI a < zI b ↔ a < b := by rw [Int32.lt_iff_toInt_lt, zI_toInt ha, zI_toInt hb]
theorem zI_le {a b : Int} (ha : zO a) (hb : zO b) : zI a ≤ zI b ↔ a ≤ b := by rw [Int32.le_iff_toInt_le, zI_toInt ha, zI_toInt hb]
theorem zI_eq {a b : Int} (ha : zO a) (hb : zO b) : zI a = zI b ↔ a = b := by
  rw [← Int32.toInt_inj, zI_toInt ha, zI_toInt hb]
theorem zO_0 : zO 0 := by omega
theorem zI_in {z : Int} {n : Nat} (h0 : 0 ≤ z) (h1 : z < n) (hn : n < 2 ^ 31) : vp_in (zI z) n := by
  rw [vp_in_iff, zI_toInt (by omega)]; exact ⟨h0, h1⟩
theorem zI_cl {z : Int} {n : Nat} (h0 : 0 ≤ z) (h1 : z < n) (hn : n < 2 ^ 31) : (zI z).toNatClampNeg = z.toNat := by
  obtain ⟨k, rfl⟩ : ∃ k : Nat, z = k := ⟨z.toNat, by omega⟩
  rw [zI_nat, nI_clamp (by omega)]; rfl
-- locals
def zg : List (Nat × Value) → Nat → Option Value
  | [], _ => none
  | q :: t, i => cond (Nat.beq i q.1) (some q.2) (zg t i)
theorem zg_cons (j : Nat) (v : Value) (t : List (Nat × Value)) (i : Nat) : zg ((j, v) :: t) i = if i = j then some v else zg t i := by
  show cond (Nat.beq i j) (some v) (zg t i) = _
  by_cases h : i = j
  · subst h; simp
  · have : Nat.beq i j = false := by
      cases hb : Nat.beq i j with
      | false => rfl
      | true => exact absurd (Nat.eq_of_beq_eq_true hb) h
    rw [this, if_neg h]; rfl
theorem zg_mem {v : Value} {i : Nat} : ∀ {l : List (Nat × Value)}, zg l i = some v → i ∈ l.map Prod.fst
  | [], h => by cases h
  | (j, w) :: t, h => by
    rw [zg_cons] at h
    by_cases e : i = j
    · subst e; simp
    · rw [if_neg e] at h
      exact List.mem_cons_of_mem _ (zg_mem h)
def zd (l : List (Nat × Value)) : List (Nat × Value) := (l.map Prod.fst).filterMap (fun j => (zg l j).map (fun v => (j, v)))
theorem zd_mem {l : List (Nat × Value)} {i : Nat} {v : Value} : (i, v) ∈ zd l ↔ zg l i = some v := by
  unfold zd
  rw [List.mem_filterMap]
  constructor
  · rintro ⟨j, -, h⟩
    cases hj : zg l j with
    | none => rw [hj] at h; cases h
    | some w =>
      rw [hj] at h
      have := Option.some.inj h
      obtain ⟨rfl, rfl⟩ := Prod.mk.inj this
      exact hj
  · intro h
    exact ⟨i, zg_mem h, by rw [h]; rfl⟩
def zL (ls : Array Slot) (nL : Nat) (lv : List (Nat × Value)) : Prop := ls.size = nL ∧ lv_wf ls ∧ ∀ i v, zg lv i = some v → ls[i]? = some (.val v) ∧ v.category = 1
theorem zL_has {ls : Array Slot} {nL : Nat} {lv : List (Nat × Value)} (h : zL ls nL lv) : lv_has ls nL (zd lv) := ⟨h.1, h.2.1, fun q hq => (h.2.2 q.1 q.2 (zd_mem.mp hq)).1⟩
theorem zL_at {ls : Array Slot} {nL : Nat} {lv : List (Nat × Value)} (h : zL ls nL lv) {i : Nat} {v : Value} (hi : zg lv i = some v) : ls[i]? = some (.val v) := (h.2.2 i v hi).1
theorem zL_put {ls ls' : Array Slot} {nL : Nat} {lv : List (Nat × Value)} (h : zL ls nL lv) {i : Nat} {x : Value} (hx : x.category = 1) (h' : lv_has ls' nL ((i, x) :: (zd lv).filter (fun q => !(q.1 == i) && !(q.1 + 1 == i && q.2.category == 2)))) : zL ls' nL ((i, x) :: lv) := by
  refine ⟨h'.1, h'.2.1, fun j v hj => ?_⟩
  rw [zg_cons] at hj
  by_cases e : j = i
  · subst e
    rw [if_pos rfl] at hj
    obtain rfl := Option.some.inj hj
    exact ⟨h'.2.2 (j, x) List.mem_cons_self, hx⟩
  · rw [if_neg e] at hj
    have hc := (h.2.2 j v hj).2
    refine ⟨h'.2.2 (j, v) (List.mem_cons_of_mem _ (List.mem_filter.mpr ⟨zd_mem.mpr hj, ?_⟩)), hc⟩
    simp [e, hc]
/-- fewer or the same locals -/
theorem zL_sub {ls : Array Slot} {nL : Nat} {lv lv' : List (Nat × Value)} (h : zL ls nL lv) (hs : lv'.map (fun q => zg lv q.1) = lv'.map (fun q => some q.2)) : zL ls nL lv' := by
  refine ⟨h.1, h.2.1, fun i v hi => h.2.2 i v ?_⟩
  have key : ∀ l : List (Nat × Value), l.map (fun q => zg lv q.1) = l.map (fun q => some q.2) → zg l i = some v → zg lv i = some v := by
    intro l
    induction l with
    | nil => intro _ h; cases h
    | cons q t ih =>
      intro h1 h2
      obtain ⟨j, w⟩ := q
      rw [List.map_cons, List.map_cons] at h1
      have h3 := List.cons.inj h1
      rw [zg_cons] at h2
      by_cases e : i = j
      · subst e
        rw [if_pos rfl] at h2
        rw [← h2]; exact h3.1
      · rw [if_neg e] at h2
        exact ih h3.2 h2
  exact key lv' hs hi
theorem zL_entry {vs : List Value} {n : Nat} (h : (lg_sl vs).length ≤ n) (hc : (lv_args 0 vs).all (fun q => q.2.category == 1) = true) : zL ((lg_sl vs ++ List.replicate (n - (lg_sl vs).length) Slot.unset).toArray) n (lv_args 0 vs) := by
  have e := lv_entry vs h
  have key : ∀ (l : List (Nat × Value)) (i : Nat) (v : Value), zg l i = some v → (i, v) ∈ l := by
    intro l
    induction l with
    | nil => intro i v h; cases h
    | cons q t ih =>
      intro i v h
      obtain ⟨j, w⟩ := q
      rw [zg_cons] at h
      by_cases e : i = j
      · subst e
        rw [if_pos rfl] at h
        obtain rfl := Option.some.inj h
        exact List.mem_cons_self
      · rw [if_neg e] at h
        exact List.mem_cons_of_mem _ (ih i v h)
  exact ⟨e.1, e.2.1, fun i v hi => ⟨e.2.2 (i, v) (key _ i v hi), by have := List.all_eq_true.mp hc (i, v) (key _ i v hi); simpa using this⟩⟩
-- the world
abbrev zc : List vw_C := cls_all
abbrev zt (G : Nat → ClassId) : List (ClassId × FieldType) := [(G 0, .int), (G 1, .long), (G 2, .object "LeatherRoom$Shape"), (G 3, .object "LeatherRoom$Zone"), (G 4, .object "LeatherRoom$Kind"), (G 5, .object "LeatherRoom$Part")]
/-- a row of ints -/
def zr (G : Nat → ClassId) (N : Nat) (X : Int → Int) : va_E := .inl (G 0, N, .inl (fun j : Nat => zI (X (j : Int))))
/-- a row of references -/
def zq (G : Nat → ClassId) (k N : Nat) (X : Int → Nat) : va_E := .inl (G k, N, .inr (.inr (.inr (.inr (fun j : Nat => some (X (j : Int)))))))
def iu (X : Int → Int) (z v : Int) : Int → Int := fun q => if q = z then v else X q
theorem zr_up (X : Int → Int) (z v : Int) (h0 : 0 ≤ z) : upd (fun j : Nat => zI (X (j : Int))) z.toNat (zI v) = fun j : Nat => zI (iu X z v (j : Int)) := by
  funext j
  unfold upd iu
  by_cases e : j = z.toNat
  · rw [if_pos e, if_pos (by omega)]
  · rw [if_neg e, if_neg (by omega)]
abbrev zW (D : va_G) (G : Nat → ClassId) (L : List Nat) (f : Nat → va_E) (sz : Nat) (U : State) : Prop := U.heap.size = sz ∧ va_P D zc (va_pl L f) U.heap ∧ va_K D zc (zt G) U ∧ va_D (fun _ => True) (va_pl L f)
/-- an end: an answer, a pool -/
def zE (D : va_G) (A : Nat → Prop) (Q : Option Value → List Nat → (Nat → va_E) → Prop) : Array Value → State → Outcome → State → Prop := fun _ st oc t =>
  (∃ (v : Option Value) (L : List Nat) (f : Nat → va_E), oc = .returned v ∧ Q v L f ∧ va_P D zc (va_pl L f) t.heap ∧ va_D A (va_pl L f)) ∧ va_F A st t
/-- a contract: from the pool L f, with these arguments, the method answers and leaves a pool, with Q -/
def zM (l : Launch) (D : va_G) (G : Nat → ClassId) (y : MethodName) (ws : List Cond) (rm : Room) (av : List Value) (L : List Nat) (f : Nat → va_E) (Q : Option Value → List Nat → (Nat → va_E) → Prop) : Prop :=
  ∀ sz : Nat, Met l y ws rm (va_Pc av (zW D G L f sz)) (zE D (va_A (va_pl L f) sz) Q) rm.cells rm.slots (va_A (va_pl L f) sz)
def zX (p : Program) (s : State) (m : MethodId) (args : Array Value) (meth : Method) (c : Code) (D : va_G) (G : Nat → ClassId) (A : Nat → Prop) (cc : ByteArray) (own : String) (nL : Nat) : Prop :=
  p.tables.exec = Jvm.exec ∧ c.code = cc ∧ c.maxLocals = nL ∧ s.vm.findClass own = some m.cls ∧ (∀ w ∈ BG, w.before args s = true) ∧ va_K D zc (zt G) s ∧ (∀ q, s.heap.size ≤ q → A q) ∧ meth.locks = false
def zG (p : Program) (l : Launch) (e : Env) (R : Room) (s : State) (m : MethodId) (args : Array Value) (below : List Frame) (meth : Method) (c : Code) (D : va_G) (A : Nat → Prop) (nL cells slots : Nat) (Q : State → Prop) (pc : Nat) (lv : List (Nat × Value)) (st : List Value) (L : List Nat) (f : Nat → va_E) : Prop :=
  ∀ (H : Heap) (locs : List Loc) (ls : Array Slot), zL ls nL lv → va_P D zc (va_pl L f) H → va_D A (va_pl L f) → va_S A s.heap H locs → W p l e R s m args below meth c H locs cells slots Q (F0 m pc ls st)
theorem zM.of {l : Launch} {D : va_G} {G : Nat → ClassId} {y : MethodName} {cc : ByteArray} {maxL : Nat} {ret : Option FieldType} {rm : Room} {av : List Value} {L : List Nat} {f : Nat → va_E} {Qc : Option Value → List Nat → (Nat → va_E) → Prop} (hy : plainName y.cls = true) (hlen : (lg_sl av).length ≤ maxL) (hcat : (lv_args 0 av).all (fun q => q.2.category == 1) = true)
    (body : ∀ (p : Program) (e : Env) (s : State) (m : MethodId) (args : Array Value) (below : List Frame) (meth : Method) (c : Code) (A : Nat → Prop), zX p s m args meth c D G A cc y.cls maxL → meth.sig.returnType = ret → meth.name = y.name → zG p l e rm s m args below meth c D A maxL 0 0 (MQ below (zE D A Qc) args s rm.cells rm.slots A) 0 (lv_args 0 av) [] L f) :
    zM l D G y (.code y cc maxL ret :: BG) rm av L f Qc := by
  intro sz
  refine Met.ofW (cc := cc) (maxL := maxL) (ret := ret) hy rfl ?_
  intro p e s m args below meth c s₁ B hml hv
  obtain ⟨rfl, hsz, hP, hK, hD0⟩ := hv
  have hts := atoms_spec (ws := .code y cc maxL ret :: BG) B.pre
  subst hsz
  have hD := hD0.self (sz := s.heap.size)
  have hA : ∀ q : Nat, s.heap.size ≤ q → va_A (va_pl L f) s.heap.size q := fun q h => Or.inr h
  rw [lg_entry_eq]
  exact body p e s m av.toArray below meth c _ ⟨B.exec, B.bytes, hml, findClass_of_methodNamed B.named, fun w h => hts w (List.mem_cons_of_mem _ h), hK, hA, B.notSynchronized⟩ B.returns (name_of_methodNamed B.named B.method).1 s.heap [] _ (zL_entry hlen hcat) hP hD va_S.rf
section ZG
variable {p : Program} {l : Launch} {e : Env} {R : Room} {s : State} {m : MethodId} {args : Array Value} {below : List Frame} {meth : Method} {c : Code} {D : va_G} {G : Nat → ClassId} {A : Nat → Prop} {nL cells slots : Nat} {Q : State → Prop} {cc : ByteArray} {own : String}
variable {pc n t : Nat} {lv lv' : List (Nat × Value)} {st : List Value} {L : List Nat} {f : Nat → va_E}
/-- other words for the same locals -/
theorem k_loc (k : zG p l e R s m args below meth c D A nL cells slots Q pc lv' st L f) (hs : lv'.map (fun q => zg lv q.1) = lv'.map (fun q => some q.2)) : zG p l e R s m args below meth c D A nL cells slots Q pc lv st L f := fun H locs ls hl hP hD hS => k H locs ls (zL_sub hl hs) hP hD hS
theorem k_iconst (X : zX p s m args meth c D G A cc own nL) {z : Int} (hd : decode cc pc = .ok (.iconst z, 1)) (hn : pc + 1 = n) (k : zG p l e R s m args below meth c D A nL cells slots Q n lv (.int (zI z) :: st) L f) : zG p l e R s m args below meth c D A nL cells slots Q pc lv st L f := by
  subst hn; exact fun H locs ls hl hP hD hS => lv_iconst X.1 X.2.1 hd rfl (k H locs ls hl hP hD hS)
theorem k_bipush (X : zX p s m args meth c D G A cc own nL) {z : Int} (hd : decode cc pc = .ok (.bipush z, 2)) (hz : (Int8.ofInt z).toInt32 = zI z) (hn : pc + 2 = n) (k : zG p l e R s m args below meth c D A nL cells slots Q n lv (.int (zI z) :: st) L f) : zG p l e R s m args below meth c D A nL cells slots Q pc lv st L f := by
  subst hn; exact fun H locs ls hl hP hD hS => lv_bipush X.1 X.2.1 hd hz (k H locs ls hl hP hD hS)
theorem k_sipush (X : zX p s m args meth c D G A cc own nL) {z : Int} (hd : decode cc pc = .ok (.sipush z, 3)) (hz : (Int16.ofInt z).toInt32 = zI z) (hn : pc + 3 = n) (k : zG p l e R s m args below meth c D A nL cells slots Q n lv (.int (zI z) :: st) L f) : zG p l e R s m args below meth c D A nL cells slots Q pc lv st L f := by
  subst hn; exact fun H locs ls hl hP hD hS => lv_sipush X.1 X.2.1 hd hz (k H locs ls hl hP hD hS)
theorem k_iload_n (X : zX p s m args meth c D G A cc own nL) {k : Fin 4} {i : Nat} {x : Int32} (hd : decode cc pc = .ok (.iload_n k, 1)) (hi : (k : Nat) = i) (hg : zg lv i = some (.int x)) (hn : pc + 1 = n) (k : zG p l e R s m args below meth c D A nL cells slots Q n lv (.int x :: st) L f) : zG p l e R s m args below meth c D A nL cells slots Q pc lv st L f := by
  subst hn; exact fun H locs ls hl hP hD hS => lv_iload_n X.1 X.2.1 hd hi (zL_at hl hg) (k H locs ls hl hP hD hS)
theorem k_iload (X : zX p s m args meth c D G A cc own nL) {i : Nat} {x : Int32} (hd : decode cc pc = .ok (.iload i, 2)) (hg : zg lv i = some (.int x)) (hn : pc + 2 = n) (k : zG p l e R s m args below meth c D A nL cells slots Q n lv (.int x :: st) L f) : zG p l e R s m args below meth c D A nL cells slots Q pc lv st L f := by
  subst hn; exact fun H locs ls hl hP hD hS => lv_iload X.1 X.2.1 hd (zL_at hl hg) (k H locs ls hl hP hD hS)
theorem k_aload_n (X : zX p s m args meth c D G A cc own nL) {k : Fin 4} {i x : Nat} (hd : decode cc pc = .ok (.aload_n k, 1)) (hi : (k : Nat) = i) (hg : zg lv i = some (.ref x)) (hn : pc + 1 = n) (k : zG p l e R s m args below meth c D A nL cells slots Q n lv (.ref x :: st) L f) : zG p l e R s m args below meth c D A nL cells slots Q pc lv st L f := by
  subst hn; exact fun H locs ls hl hP hD hS => lv_aload_n X.1 X.2.1 hd hi (zL_at hl hg) (k H locs ls hl hP hD hS)
theorem k_aload (X : zX p s m args meth c D G A cc own nL) {i x : Nat} (hd : decode cc pc = .ok (.aload i, 2)) (hg : zg lv i = some (.ref x)) (hn : pc + 2 = n) (k : zG p l e R s m args below meth c D A nL cells slots Q n lv (.ref x :: st) L f) : zG p l e R s m args below meth c D A nL cells slots Q pc lv st L f := by
  subst hn; exact fun H locs ls hl hP hD hS => lv_aload X.1 X.2.1 hd (zL_at hl hg) (k H locs ls hl hP hD hS)
theorem k_istore_n (X : zX p s m args meth c D G A cc own nL) {k : Fin 4} {i : Nat} {x : Int32} (hd : decode cc pc = .ok (.istore_n k, 1)) (hi : (k : Nat) = i) (hL : i < nL) (hn : pc + 1 = n) (k : zG p l e R s m args below meth c D A nL cells slots Q n ((i, .int x) :: lv) st L f) : zG p l e R s m args below meth c D A nL cells slots Q pc lv (.int x :: st) L f := by
  subst hn; exact fun H locs ls hl hP hD hS => lv_istore_n X.1 X.2.1 hd hi (zL_has hl) hL rfl (fun ls' h' => k H locs ls' (zL_put hl rfl h') hP hD hS)
theorem k_istore (X : zX p s m args meth c D G A cc own nL) {i : Nat} {x : Int32} (hd : decode cc pc = .ok (.istore i, 2)) (hL : i < nL) (hn : pc + 2 = n) (k : zG p l e R s m args below meth c D A nL cells slots Q n ((i, .int x) :: lv) st L f) : zG p l e R s m args below meth c D A nL cells slots Q pc lv (.int x :: st) L f := by
  subst hn; exact fun H locs ls hl hP hD hS => lv_istore X.1 X.2.1 hd (zL_has hl) hL rfl (fun ls' h' => k H locs ls' (zL_put hl rfl h') hP hD hS)
theorem k_astore_n (X : zX p s m args meth c D G A cc own nL) {k : Fin 4} {i x : Nat} (hd : decode cc pc = .ok (.astore_n k, 1)) (hi : (k : Nat) = i) (hL : i < nL) (hn : pc + 1 = n) (k : zG p l e R s m args below meth c D A nL cells slots Q n ((i, .ref x) :: lv) st L f) : zG p l e R s m args below meth c D A nL cells slots Q pc lv (.ref x :: st) L f := by
  subst hn; exact fun H locs ls hl hP hD hS => lv_astore_n X.1 X.2.1 hd hi (zL_has hl) hL rfl (fun ls' h' => k H locs ls' (zL_put hl rfl h') hP hD hS)
theorem k_astore (X : zX p s m args meth c D G A cc own nL) {i x : Nat} (hd : decode cc pc = .ok (.astore i, 2)) (hL : i < nL) (hn : pc + 2 = n) (k : zG p l e R s m args below meth c D A nL cells slots Q n ((i, .ref x) :: lv) st L f) : zG p l e R s m args below meth c D A nL cells slots Q pc lv (.ref x :: st) L f := by
  subst hn; exact fun H locs ls hl hP hD hS => lv_astore X.1 X.2.1 hd (zL_has hl) hL rfl (fun ls' h' => k H locs ls' (zL_put hl rfl h') hP hD hS)
theorem k_iinc (X : zX p s m args meth c D G A cc own nL) {i : Nat} {z w : Int} (hd : decode cc pc = .ok (.iinc i w, 3)) (hg : zg lv i = some (.int (zI z))) (hL : i < nL) (hn : pc + 3 = n) (k : zG p l e R s m args below meth c D A nL cells slots Q n ((i, .int (zI (z + w))) :: lv) st L f) : zG p l e R s m args below meth c D A nL cells slots Q pc lv st L f := by
  subst hn
  intro H locs ls hl hP hD hS
  obtain ⟨q, hq⟩ := List.getElem?_of_mem (zd_mem.mpr hg)
  exact lv_iinc X.1 X.2.1 hd (zL_has hl) hq (zI_add z w) hL rfl (fun ls' h' => k H locs ls' (zL_put hl rfl h') hP hD hS)
theorem k_iadd (X : zX p s m args meth c D G A cc own nL) {a b : Int} (hd : decode cc pc = .ok (.iadd, 1)) (hn : pc + 1 = n) (k : zG p l e R s m args below meth c D A nL cells slots Q n lv (.int (zI (a + b)) :: st) L f) : zG p l e R s m args below meth c D A nL cells slots Q pc lv (.int (zI b) :: .int (zI a) :: st) L f := by
  subst hn; exact fun H locs ls hl hP hD hS => lv_iadd X.1 X.2.1 hd (by rw [zI_add]; exact k H locs ls hl hP hD hS)
theorem k_isub (X : zX p s m args meth c D G A cc own nL) {a b : Int} (hd : decode cc pc = .ok (.isub, 1)) (hn : pc + 1 = n) (k : zG p l e R s m args below meth c D A nL cells slots Q n lv (.int (zI (a - b)) :: st) L f) : zG p l e R s m args below meth c D A nL cells slots Q pc lv (.int (zI b) :: .int (zI a) :: st) L f := by
  subst hn; exact fun H locs ls hl hP hD hS => lv_isub X.1 X.2.1 hd (by rw [zI_sub]; exact k H locs ls hl hP hD hS)
theorem k_imul (X : zX p s m args meth c D G A cc own nL) {a b : Int} (hd : decode cc pc = .ok (.imul, 1)) (hn : pc + 1 = n) (k : zG p l e R s m args below meth c D A nL cells slots Q n lv (.int (zI (a * b)) :: st) L f) : zG p l e R s m args below meth c D A nL cells slots Q pc lv (.int (zI b) :: .int (zI a) :: st) L f := by
  subst hn; exact fun H locs ls hl hP hD hS => lv_imul X.1 X.2.1 hd (by rw [zI_mul]; exact k H locs ls hl hP hD hS)
theorem k_ineg (X : zX p s m args meth c D G A cc own nL) {a : Int} (hd : decode cc pc = .ok (.ineg, 1)) (hn : pc + 1 = n) (k : zG p l e R s m args below meth c D A nL cells slots Q n lv (.int (zI (-a)) :: st) L f) : zG p l e R s m args below meth c D A nL cells slots Q pc lv (.int (zI a) :: st) L f := by
  subst hn; exact fun H locs ls hl hP hD hS => lv_ineg X.1 X.2.1 hd (by rw [zI_neg]; exact k H locs ls hl hP hD hS)
theorem k_dup (X : zX p s m args meth c D G A cc own nL) {v : Value} (hd : decode cc pc = .ok (.dup, 1)) (hv : v.category = 1) (hn : pc + 1 = n) (k : zG p l e R s m args below meth c D A nL cells slots Q n lv (v :: v :: st) L f) : zG p l e R s m args below meth c D A nL cells slots Q pc lv (v :: st) L f := by
  subst hn; exact fun H locs ls hl hP hD hS => lv_dup X.1 X.2.1 hd hv (k H locs ls hl hP hD hS)
theorem k_pop (X : zX p s m args meth c D G A cc own nL) {v : Value} (hd : decode cc pc = .ok (.pop, 1)) (hv : v.category = 1) (hn : pc + 1 = n) (k : zG p l e R s m args below meth c D A nL cells slots Q n lv st L f) : zG p l e R s m args below meth c D A nL cells slots Q pc lv (v :: st) L f := by
  subst hn; exact fun H locs ls hl hP hD hS => lv_pop X.1 X.2.1 hd hv (k H locs ls hl hP hD hS)
theorem k_dup2 (X : zX p s m args meth c D G A cc own nL) {v w : Value} (hd : decode cc pc = .ok (.dup2, 1)) (hv : v.category = 1) (hw : w.category = 1) (hn : pc + 1 = n) (k : zG p l e R s m args below meth c D A nL cells slots Q n lv (v :: w :: v :: w :: st) L f) : zG p l e R s m args below meth c D A nL cells slots Q pc lv (v :: w :: st) L f := by
  subst hn; exact fun H locs ls hl hP hD hS => lv_dup2_11 X.1 X.2.1 hd hv hw (k H locs ls hl hP hD hS)
theorem k_goto (X : zX p s m args meth c D G A cc own nL) {off : Int} (hd : decode cc pc = .ok (.goto off, 3)) (ht : (pc : Int) + off = (t : Int)) (k : zG p l e R s m args below meth c D A nL cells slots Q t lv st L f) : zG p l e R s m args below meth c D A nL cells slots Q pc lv st L f :=
  fun H locs ls hl hP hD hS => lv_goto X.1 X.2.1 hd ht (k H locs ls hl hP hD hS)
theorem k_if_eq (X : zX p s m args meth c D G A cc own nL) {a off : Int} (hd : decode cc pc = .ok (.ifCond .eq off, 3)) (ht : (pc : Int) + off = (t : Int)) (hn : pc + 3 = n) (ha : zO a) (kt : a = 0 → zG p l e R s m args below meth c D A nL cells slots Q t lv st L f) (kf : ¬ (a = 0) → zG p l e R s m args below meth c D A nL cells slots Q n lv st L f) : zG p l e R s m args below meth c D A nL cells slots Q pc lv (.int (zI a) :: st) L f := by
  subst hn
  have i := zI_eq ha zO_0
  rw [zI_0] at i
  exact fun H locs ls hl hP hD hS => lv_if_eq X.1 X.2.1 hd ht (fun h => kt (i.mp h) H locs ls hl hP hD hS) (fun h => kf (fun q => h (i.mpr q)) H locs ls hl hP hD hS)
theorem k_if_ne (X : zX p s m args meth c D G A cc own nL) {a off : Int} (hd : decode cc pc = .ok (.ifCond .ne off, 3)) (ht : (pc : Int) + off = (t : Int)) (hn : pc + 3 = n) (ha : zO a) (kt : ¬ a = 0 → zG p l e R s m args below meth c D A nL cells slots Q t lv st L f) (kf : a = 0 → zG p l e R s m args below meth c D A nL cells slots Q n lv st L f) : zG p l e R s m args below meth c D A nL cells slots Q pc lv (.int (zI a) :: st) L f := by
  subst hn
  have i := zI_eq ha zO_0
  rw [zI_0] at i
  exact fun H locs ls hl hP hD hS => lv_if_ne X.1 X.2.1 hd ht (fun h => kt (fun q => h (i.mpr q)) H locs ls hl hP hD hS) (fun h => kf (i.mp h) H locs ls hl hP hD hS)
theorem k_if_lt (X : zX p s m args meth c D G A cc own nL) {a off : Int} (hd : decode cc pc = .ok (.ifCond .lt off, 3)) (ht : (pc : Int) + off = (t : Int)) (hn : pc + 3 = n) (ha : zO a) (kt : a < 0 → zG p l e R s m args below meth c D A nL cells slots Q t lv st L f) (kf : ¬ (a < 0) → zG p l e R s m args below meth c D A nL cells slots Q n lv st L f) : zG p l e R s m args below meth c D A nL cells slots Q pc lv (.int (zI a) :: st) L f := by
  subst hn
  have i := zI_lt ha zO_0
  rw [zI_0] at i
  exact fun H locs ls hl hP hD hS => lv_if_lt X.1 X.2.1 hd ht (fun h => kt (i.mp h) H locs ls hl hP hD hS) (fun h => kf (fun q => h (i.mpr q)) H locs ls hl hP hD hS)
theorem k_if_ge (X : zX p s m args meth c D G A cc own nL) {a off : Int} (hd : decode cc pc = .ok (.ifCond .ge off, 3)) (ht : (pc : Int) + off = (t : Int)) (hn : pc + 3 = n) (ha : zO a) (kt : 0 ≤ a → zG p l e R s m args below meth c D A nL cells slots Q t lv st L f) (kf : ¬ (0 ≤ a) → zG p l e R s m args below meth c D A nL cells slots Q n lv st L f) : zG p l e R s m args below meth c D A nL cells slots Q pc lv (.int (zI a) :: st) L f := by
  subst hn
  have i := zI_le zO_0 ha
  rw [zI_0] at i
  exact fun H locs ls hl hP hD hS => lv_if_ge X.1 X.2.1 hd ht (fun h => kt (i.mp h) H locs ls hl hP hD hS) (fun h => kf (fun q => h (i.mpr q)) H locs ls hl hP hD hS)
theorem k_if_gt (X : zX p s m args meth c D G A cc own nL) {a off : Int} (hd : decode cc pc = .ok (.ifCond .gt off, 3)) (ht : (pc : Int) + off = (t : Int)) (hn : pc + 3 = n) (ha : zO a) (kt : 0 < a → zG p l e R s m args below meth c D A nL cells slots Q t lv st L f) (kf : ¬ (0 < a) → zG p l e R s m args below meth c D A nL cells slots Q n lv st L f) : zG p l e R s m args below meth c D A nL cells slots Q pc lv (.int (zI a) :: st) L f := by
  subst hn
  have i := zI_lt zO_0 ha
  rw [zI_0] at i
  exact fun H locs ls hl hP hD hS => lv_if_gt X.1 X.2.1 hd ht (fun h => kt (i.mp h) H locs ls hl hP hD hS) (fun h => kf (fun q => h (i.mpr q)) H locs ls hl hP hD hS)
theorem k_if_le (X : zX p s m args meth c D G A cc own nL) {a off : Int} (hd : decode cc pc = .ok (.ifCond .le off, 3)) (ht : (pc : Int) + off = (t : Int)) (hn : pc + 3 = n) (ha : zO a) (kt : a ≤ 0 → zG p l e R s m args below meth c D A nL cells slots Q t lv st L f) (kf : ¬ (a ≤ 0) → zG p l e R s m args below meth c D A nL cells slots Q n lv st L f) : zG p l e R s m args below meth c D A nL cells slots Q pc lv (.int (zI a) :: st) L f := by
  subst hn
  have i := zI_le ha zO_0
  rw [zI_0] at i
  exact fun H locs ls hl hP hD hS => lv_if_le X.1 X.2.1 hd ht (fun h => kt (i.mp h) H locs ls hl hP hD hS) (fun h => kf (fun q => h (i.mpr q)) H locs ls hl hP hD hS)
theorem k_icmp_eq (X : zX p s m args meth c D G A cc own nL) {a b off : Int} (hd : decode cc pc = .ok (.if_icmp .eq off, 3)) (ht : (pc : Int) + off = (t : Int)) (hn : pc + 3 = n) (ha : zO a) (hb : zO b) (kt : a = b → zG p l e R s m args below meth c D A nL cells slots Q t lv st L f) (kf : ¬ (a = b) → zG p l e R s m args below meth c D A nL cells slots Q n lv st L f) : zG p l e R s m args below meth c D A nL cells slots Q pc lv (.int (zI b) :: .int (zI a) :: st) L f := by
  subst hn
  have i := zI_eq ha hb
  exact fun H locs ls hl hP hD hS => lv_icmp_eq X.1 X.2.1 hd ht (fun h => kt (i.mp h) H locs ls hl hP hD hS) (fun h => kf (fun q => h (i.mpr q)) H locs ls hl hP hD hS)
theorem k_icmp_ne (X : zX p s m args meth c D G A cc own nL) {a b off : Int} (hd : decode cc pc = .ok (.if_icmp .ne off, 3)) (ht : (pc : Int) + off = (t : Int)) (hn : pc + 3 = n) (ha : zO a) (hb : zO b) (kt : ¬ a = b → zG p l e R s m args below meth c D A nL cells slots Q t lv st L f) (kf : a = b → zG p l e R s m args below meth c D A nL cells slots Q n lv st L f) : zG p l e R s m args below meth c D A nL cells slots Q pc lv (.int (zI b) :: .int (zI a) :: st) L f := by
  subst hn
  have i := zI_eq ha hb
  exact fun H locs ls hl hP hD hS => lv_icmp_ne X.1 X.2.1 hd ht (fun h => kt (fun q => h (i.mpr q)) H locs ls hl hP hD hS) (fun h => kf (i.mp h) H locs ls hl hP hD hS)
theorem k_icmp_lt (X : zX p s m args meth c D G A cc own nL) {a b off : Int} (hd : decode cc pc = .ok (.if_icmp .lt off, 3)) (ht : (pc : Int) + off = (t : Int)) (hn : pc + 3 = n) (ha : zO a) (hb : zO b) (kt : a < b → zG p l e R s m args below meth c D A nL cells slots Q t lv st L f) (kf : ¬ (a < b) → zG p l e R s m args below meth c D A nL cells slots Q n lv st L f) : zG p l e R s m args below meth c D A nL cells slots Q pc lv (.int (zI b) :: .int (zI a) :: st) L f := by
  subst hn
  have i := zI_lt ha hb
  exact fun H locs ls hl hP hD hS => lv_icmp_lt X.1 X.2.1 hd ht (fun h => kt (i.mp h) H locs ls hl hP hD hS) (fun h => kf (fun q => h (i.mpr q)) H locs ls hl hP hD hS)
theorem k_icmp_ge (X : zX p s m args meth c D G A cc own nL) {a b off : Int} (hd : decode cc pc = .ok (.if_icmp .ge off, 3)) (ht : (pc : Int) + off = (t : Int)) (hn : pc + 3 = n) (ha : zO a) (hb : zO b) (kt : b ≤ a → zG p l e R s m args below meth c D A nL cells slots Q t lv st L f) (kf : ¬ (b ≤ a) → zG p l e R s m args below meth c D A nL cells slots Q n lv st L f) : zG p l e R s m args below meth c D A nL cells slots Q pc lv (.int (zI b) :: .int (zI a) :: st) L f := by
  subst hn
  have i := zI_le hb ha
  exact fun H locs ls hl hP hD hS => lv_icmp_ge X.1 X.2.1 hd ht (fun h => kt (i.mp h) H locs ls hl hP hD hS) (fun h => kf (fun q => h (i.mpr q)) H locs ls hl hP hD hS)
theorem k_icmp_gt (X : zX p s m args meth c D G A cc own nL) {a b off : Int} (hd : decode cc pc = .ok (.if_icmp .gt off, 3)) (ht : (pc : Int) + off = (t : Int)) (hn : pc + 3 = n) (ha : zO a) (hb : zO b) (kt : b < a → zG p l e R s m args below meth c D A nL cells slots Q t lv st L f) (kf : ¬ (b < a) → zG p l e R s m args below meth c D A nL cells slots Q n lv st L f) : zG p l e R s m args below meth c D A nL cells slots Q pc lv (.int (zI b) :: .int (zI a) :: st) L f := by
  subst hn
  have i := zI_lt hb ha
  exact fun H locs ls hl hP hD hS => lv_icmp_gt X.1 X.2.1 hd ht (fun h => kt (i.mp h) H locs ls hl hP hD hS) (fun h => kf (fun q => h (i.mpr q)) H locs ls hl hP hD hS)
theorem k_icmp_le (X : zX p s m args meth c D G A cc own nL) {a b off : Int} (hd : decode cc pc = .ok (.if_icmp .le off, 3)) (ht : (pc : Int) + off = (t : Int)) (hn : pc + 3 = n) (ha : zO a) (hb : zO b) (kt : a ≤ b → zG p l e R s m args below meth c D A nL cells slots Q t lv st L f) (kf : ¬ (a ≤ b) → zG p l e R s m args below meth c D A nL cells slots Q n lv st L f) : zG p l e R s m args below meth c D A nL cells slots Q pc lv (.int (zI b) :: .int (zI a) :: st) L f := by
  subst hn
  have i := zI_le ha hb
  exact fun H locs ls hl hP hD hS => lv_icmp_le X.1 X.2.1 hd ht (fun h => kt (i.mp h) H locs ls hl hP hD hS) (fun h => kf (fun q => h (i.mpr q)) H locs ls hl hP hD hS)
-- cells
theorem pl_at {a : Nat} {E : va_E} (ha : a ∈ L) (hf : f a = E) : ∃ q : Nat, (va_pl L f)[q]? = some (a, E) := by
  obtain ⟨q, hq⟩ := va_pl_get (X := []) (f := f) ha
  exact ⟨q, by rw [← hf]; exact hq⟩
theorem pl_set {a q : Nat} {E E' : va_E} (hD : va_D A (va_pl L f)) (ha : a ∈ L) (hf : f a = E) (hq : (va_pl L f)[q]? = some (a, E)) : (va_pl L f).set q (a, E') = va_pl L (va_up f a E') :=
  va_pl_set (X := []) hD ha (by rw [hf]; exact hq)
theorem k_get (X : zX p s m args meth c D G A cc own nL) {C : String} {T : u_T} {N ci index : Nat} (hin : ∀ w ∈ u_ws C T N, w ∈ BG) (hc : zc[ci]? = some (C, T, N)) {a : Nat} {fs : List Value} {v : Value} (k : Nat) (hk : k < N) (hw : Cond.fieldLink own index C (T k).2.1 (T k).2.2.1 ∈ BG) (hsame : (T k).1 = C) (hd : decode cc pc = .ok (.getfield index, 3)) (hn : pc + 3 = n) (ha : a ∈ L) (hf : f a = .inr (ci, fs)) (hv : fs[k]? = some v) (kk : zG p l e R s m args below meth c D A nL cells slots Q n lv (v :: st) L f) : zG p l e R s m args below meth c D A nL cells slots Q pc lv (.ref a :: st) L f := by
  subst hn
  intro H locs ls hl hP hD hS
  obtain ⟨q, hq⟩ := pl_at ha hf
  exact va_get (D := D) (ci := ci) (v := v) (C := C) (T := T) (N := N) X.1 X.2.1 X.2.2.2.2.1 hin X.2.2.2.1 X.2.2.2.2.2.1 hP q hq hc k hk (X.2.2.2.2.1 _ hw) (fun x h => by rw [hsame] at h; exact h) hv hd (kk H locs ls hl hP hD hS)
theorem k_put (X : zX p s m args meth c D G A cc own nL) {C : String} {T : u_T} {N ci index : Nat} (hin : ∀ w ∈ u_ws C T N, w ∈ BG) {ty0 : Nat → FieldType} (hty : ∀ k, k < N → parseFieldDescriptor (T k).2.2.1 = some (ty0 k)) (hnm : ∀ a, a < N → ∀ b, b < N → a ≠ b → (T a).2.1 ≠ (T b).2.1) (hc : zc[ci]? = some (C, T, N)) {a : Nat} {fs : List Value} {v : Value} (k : Nat) (hk : k < N) (hw : Cond.fieldLink own index C (T k).2.1 (T k).2.2.1 ∈ BG) (hsame : (T k).1 = C) (hfin : (T k).2.2.2 = false) (hnar : narrow (ty0 k) v = v) (hfit : fits (ty0 k) v = true) (hd : decode cc pc = .ok (.putfield index, 3)) (hn : pc + 3 = n) (ha : a ∈ L) (hf : f a = .inr (ci, fs)) (hl : k < fs.length) (kk : zG p l e R s m args below meth c D A nL cells slots Q n lv st L (va_up f a (.inr (ci, fs.set k v)))) : zG p l e R s m args below meth c D A nL cells slots Q pc lv (v :: .ref a :: st) L f := by
  subst hn
  intro H locs ls hl' hP hD hS
  obtain ⟨q, hq⟩ := pl_at ha hf
  exact va_put (D := D) (ci := ci) (v := v) (ty := ty0 k) (C := C) (T := T) (N := N) X.1 X.2.1 X.2.2.2.2.1 hin ty0 hty hnm X.2.2.2.1 X.2.2.2.2.2.1 hP hD hS q hq hc k hk (X.2.2.2.2.1 _ hw) (fun x h => by rw [hsame] at h; exact h) hfin (hty k hk) hnar hfit hl hd (fun H1 locs1 hP1 hD1 hS1 => kk H1 locs1 ls hl' (by rw [← pl_set hD ha hf hq]; exact hP1) (by rw [← pl_set hD ha hf hq]; exact hD1) hS1)
theorem k_iald (X : zX p s m args meth c D G A cc own nL) {a N : Nat} {Y : Int → Int} {z : Int} (hd : decode cc pc = .ok (.iaload, 1)) (hn : pc + 1 = n) (ha : a ∈ L) (hf : f a = zr G N Y) (h0 : 0 ≤ z) (h1 : z < N) (hN : N < 2 ^ 31) (kk : zG p l e R s m args below meth c D A nL cells slots Q n lv (.int (zI (Y z)) :: st) L f) : zG p l e R s m args below meth c D A nL cells slots Q pc lv (.int (zI z) :: .ref a :: st) L f := by
  subst hn
  intro H locs ls hl hP hD hS
  obtain ⟨q, hq⟩ := pl_at ha hf
  refine va_iald X.1 X.2.1 X.2.2.2.2.2.1 hP q 0 hq rfl (zI_in h0 h1 hN) hd ?_
  rw [zI_cl h0 h1 hN, show ((z.toNat : Nat) : Int) = z from Int.toNat_of_nonneg h0]
  exact kk H locs ls hl hP hD hS
theorem k_iast (X : zX p s m args meth c D G A cc own nL) {a N : Nat} {Y : Int → Int} {z v : Int} (hd : decode cc pc = .ok (.iastore, 1)) (hn : pc + 1 = n) (ha : a ∈ L) (hf : f a = zr G N Y) (h0 : 0 ≤ z) (h1 : z < N) (hN : N < 2 ^ 31) (kk : zG p l e R s m args below meth c D A nL cells slots Q n lv st L (va_up f a (zr G N (iu Y z v)))) : zG p l e R s m args below meth c D A nL cells slots Q pc lv (.int (zI v) :: .int (zI z) :: .ref a :: st) L f := by
  subst hn
  intro H locs ls hl hP hD hS
  obtain ⟨q, hq⟩ := pl_at ha hf
  refine va_iast X.1 X.2.1 X.2.2.2.2.2.1 hP hD hS q 0 hq rfl (zI_in h0 h1 hN) hd (fun H1 locs1 hP1 hD1 hS1 => ?_)
  rw [zI_cl h0 h1 hN, zr_up Y z v h0] at hP1 hD1
  exact kk H1 locs1 ls hl (by rw [← pl_set hD ha hf hq]; exact hP1) (by rw [← pl_set hD ha hf hq]; exact hD1) hS1
theorem k_aald (X : zX p s m args meth c D G A cc own nL) {a N g : Nat} {C : String} {Y : Int → Nat} {z : Int} (hd : decode cc pc = .ok (.aaload, 1)) (hn : pc + 1 = n) (ha : a ∈ L) (hf : f a = zq G g N Y) (hg : (zt G)[g]? = some (G g, .object C)) (h0 : 0 ≤ z) (h1 : z < N) (hN : N < 2 ^ 31) (kk : zG p l e R s m args below meth c D A nL cells slots Q n lv (.ref (Y z) :: st) L f) : zG p l e R s m args below meth c D A nL cells slots Q pc lv (.int (zI z) :: .ref a :: st) L f := by
  subst hn
  intro H locs ls hl hP hD hS
  obtain ⟨q, hq⟩ := pl_at ha hf
  refine va_aldq X.1 X.2.1 X.2.2.2.2.2.1 hP q g hq hg (zI_in h0 h1 hN) hd ?_
  rw [zI_cl h0 h1 hN, show ((z.toNat : Nat) : Int) = z from Int.toNat_of_nonneg h0]
  exact kk H locs ls hl hP hD hS
-- ends
theorem k_iret (X : zX p s m args meth c D G A cc own nL) {Qc : Option Value → List Nat → (Nat → va_E) → Prop} {mc ms : Nat} {ty : FieldType} {v : Int32} (hd : decode cc pc = .ok (.ireturn, 1)) (hr : meth.sig.returnType = some ty) (hnar : narrow ty (.int v) = .int v) (h1 : cells ≤ mc) (h2 : slots ≤ ms) (hq : Qc (some (.int v)) L f) : zG p l e R s m args below meth c D A nL cells slots (MQ below (zE D A Qc) args s mc ms A) pc lv [.int v] L f := by
  intro H locs ls hl hP hD hS
  refine W.widen h1 h2 ?_
  exact W.zret (hlocks := X.2.2.2.2.2.2.2) X.1 X.2.1 hr hnar (fun t ht _ => ⟨⟨_, L, f, rfl, hq, by rw [ht]; exact hP, hD⟩, hS.F ht⟩) hS.2.2 hd
theorem k_vret (X : zX p s m args meth c D G A cc own nL) {Qc : Option Value → List Nat → (Nat → va_E) → Prop} {mc ms : Nat} (hd : decode cc pc = .ok (.return_, 1)) (hr : meth.sig.returnType = none) (h1 : cells ≤ mc) (h2 : slots ≤ ms) (hq : Qc none L f) : zG p l e R s m args below meth c D A nL cells slots (MQ below (zE D A Qc) args s mc ms A) pc lv [] L f := by
  intro H locs ls hl hP hD hS
  refine W.widen h1 h2 ?_
  exact W.vret (hlocks := X.2.2.2.2.2.2.2) X.1 X.2.1 hr (fun t ht _ => ⟨⟨_, L, f, rfl, hq, by rw [ht]; exact hP, hD⟩, hS.F ht⟩) hS.2.2 hd
theorem k_aret (X : zX p s m args meth c D G A cc own nL) {Qc : Option Value → List Nat → (Nat → va_E) → Prop} {mc ms : Nat} {C : String} {a : Nat} (hd : decode cc pc = .ok (.areturn, 1)) (hr : meth.sig.returnType = some (.object C)) (h1 : cells ≤ mc) (h2 : slots ≤ ms) (hq : Qc (some (.ref a)) L f) : zG p l e R s m args below meth c D A nL cells slots (MQ below (zE D A Qc) args s mc ms A) pc lv [.ref a] L f := by
  intro H locs ls hl hP hD hS
  refine W.widen h1 h2 ?_
  exact W.aret (hlocks := X.2.2.2.2.2.2.2) X.1 X.2.1 hr (Or.inl ⟨C, rfl⟩) (Or.inr ⟨a, rfl⟩) (fun t ht _ => ⟨⟨_, L, f, rfl, hq, by rw [ht]; exact hP, hD⟩, hS.F ht⟩) hS.2.2 hd
-- calls
theorem zM_blind {av : List Value} {sz : Nat} : FrameBlind (va_Pc av (zW D G L f sz)) := fun a U g mk q => by
  obtain ⟨q0, q1, qP, qK, qD⟩ := q
  exact ⟨q0, q1, qP, va_K.moved (u := U) (U := U.calling g mk a) (Vm.Alike.refl U.vm) qK, qD⟩
theorem zA_sub {H : Heap} {locs : List Loc} (hD : va_D A (va_pl L f)) (hS : va_S A s.heap H locs) (hA : ∀ q, s.heap.size ≤ q → A q) : ∀ q, va_A (va_pl L f) H.size q → A q := by
  intro q h
  rcases h with ⟨k, e, h⟩ | h
  · exact hD.2 k (q, e) h
  · exact hA q (Nat.le_trans hS.1 h)
theorem k_ran (X : zX p s m args meth c D G A cc own nL) {Qc : Option Value → List Nat → (Nat → va_E) → Prop} {mc ms : Nat} {st0 : List Value} {av : Array Value} (hn : pc + 3 = n)
    (hr : ∀ (H : Heap) (locs : List Loc) (ls : Array Slot), ls.size = nL → va_P D zc (va_pl L f) H → va_D A (va_pl L f) → va_Run p l e R s m args below meth c H locs cells slots mc ms (F0 m pc ls st0) st (zE D (va_A (va_pl L f) H.size) Qc av) (va_A (va_pl L f) H.size))
    (kk : ∀ (v : Option Value) (L1 : List Nat) (f1 : Nat → va_E), Qc v L1 f1 → zG p l e R s m args below meth c D A nL (cells + mc) (slots + ms) Q n lv (v.toList ++ st) L1 f1) : zG p l e R s m args below meth c D A nL cells slots Q pc lv st0 L f := by
  subst hn
  intro H locs ls hl hP hD hS T hT X'
  have hF := zA_sub hD hS X.2.2.2.2.2.2.1
  obtain ⟨v, st₀, t, T', Lc, h0, X2, hL, e1, e2, ⟨⟨v', L1, f1, hv, hq, hP1, hD1⟩, hz, hk⟩, hst⟩ := hr H locs ls hl.1 hP hD T hT X'
  cases hv
  have hS1 : va_S A s.heap t.heap (locs ++ Lc) := by
    refine ⟨Nat.le_trans hS.1 (by rw [← h0]; exact hz), fun q hq1 hq2 => ?_, fun q hq1 => ?_⟩
    · rw [hk q (by rw [h0]; exact Nat.lt_of_lt_of_le hq1 hS.1) (fun h => hq2 (hF q h)), h0]
      exact hS.2.1 q hq1 hq2
    · rcases List.mem_append.mp hq1 with h | h
      · exact hS.2.2 q h
      · exact hF _ (hL q h)
  obtain ⟨t2, a1, b1⟩ := kk v L1 f1 hq t.heap (locs ++ Lc) ls hl hP1 (hD1.weaken (fun _ q _ h => hF q.1 h)) hS1 T' e1 X2
  exact ⟨t2, hst t2 a1, b1⟩
theorem k_callV (X : zX p s m args meth c D G A cc own nL) {Qc : Option Value → List Nat → (Nat → va_E) → Prop} {C : String} {T : u_T} {N ci index maxL na b : Nat} {y : MethodName} {bytes : ByteArray} {ret : Option FieldType} {rm : Room} {As st0 : List Value} {fs : List Value}
    (hM : zM l D G y (.code y bytes maxL ret :: BG) rm (.ref b :: As) L f Qc) (hb : b ∈ L) (hfb : f b = .inr (ci, fs)) (hc : zc[ci]? = some (C, T, N)) (w1 : Cond.code y bytes maxL ret ∈ BG) (w2 : Cond.methodLink own index y ∈ BG) (w3 : Cond.instanceMethod y ∈ BG) (w4 : Cond.selects C y y ∈ BG) (w5 : Cond.initialized C ∈ BG)
    (hy : y.cls = C ∧ y.cls ≠ "java/lang/invoke/MethodHandle" ∧ y.cls ≠ "java/lang/invoke/VarHandle" ∧ (parseMethodDescriptor y.desc).map (fun d => d.parameters.length) = some na) (hR : rm.frames + 1 ≤ R.frames ∧ 8 + (maxL + 11) + rm.locals ≤ R.locals) (hna : As.length = na) (hst : st0 = As.reverse ++ .ref b :: st) (hcat : (st.map fun v => v.category).sum ≤ 8) (hd : decode cc pc = .ok (.invokevirtual index, 3)) (hn : pc + 3 = n) (hf : cells + rm.cells ≤ R.cells ∧ slots + rm.slots ≤ R.slots)
    (kk : ∀ (v : Option Value) (L1 : List Nat) (f1 : Nat → va_E), Qc v L1 f1 → zG p l e R s m args below meth c D A nL (cells + rm.cells) (slots + rm.slots) Q n lv (v.toList ++ st) L1 f1) : zG p l e R s m args below meth c D A nL cells slots Q pc lv st0 L f := by
  refine k_ran X (mc := rm.cells) (ms := rm.slots) (av := (Value.ref b :: As).toArray) hn (fun H locs ls hls hP hD => ?_) kk
  obtain ⟨q, hq⟩ := pl_at hb hfb
  have hts := X.2.2.2.2.1
  have hg : GoodIn BG (wsV own index C y (.code y bytes maxL ret :: BG)) := fun w hw => by
    rcases List.mem_append.mp hw with hw | hw
    · simp only [List.mem_cons, List.not_mem_nil, or_false] at hw
      rcases hw with rfl | rfl | rfl | rfl
      · exact ⟨w2, bg_good w2⟩
      · exact ⟨w3, bg_good w3⟩
      · exact ⟨w4, bg_good w4⟩
      · exact ⟨w5, bg_good w5⟩
    · rcases List.mem_cons.mp hw with rfl | hw
      · exact ⟨w1, bg_good w1⟩
      · exact ⟨hw, bg_good hw⟩
  exact va_runV (As := As) (rest := st) ⟨X.1, X.2.1, X.2.2.1, X.2.2.2.1, hts⟩ (hM H.size) (cwV na hts hg rfl rfl rfl hy hR)
    ⟨zM_blind, va_recv X.2.2.2.2.2.1 hP hc hq, fun U hU hW => ⟨rfl, by rw [hU], by rw [hU]; exact hP, va_K.moved hW.alike X.2.2.2.2.2.1, hD.weaken (fun _ _ _ _ => trivial)⟩⟩ rfl hna hls hst (lv_room hcat) hd hf
theorem k_callS (X : zX p s m args meth c D G A cc own nL) {Qc : Option Value → List Nat → (Nat → va_E) → Prop} {index maxL na : Nat} {y : MethodName} {bytes : ByteArray} {ret : Option FieldType} {rm : Room} {As st0 : List Value}
    (hM : zM l D G y (.code y bytes maxL ret :: BG) rm As L f Qc) (w1 : Cond.code y bytes maxL ret ∈ BG) (w2 : Cond.methodLink own index y ∈ BG) (w3 : Cond.static y ∈ BG) (w5 : Cond.initialized y.cls ∈ BG)
    (hy : y.cls ≠ "java/lang/invoke/MethodHandle" ∧ y.cls ≠ "java/lang/invoke/VarHandle" ∧ (parseMethodDescriptor y.desc).map (fun d => d.parameters.length) = some na) (hR : rm.frames + 1 ≤ R.frames ∧ 8 + (maxL + 11) + rm.locals ≤ R.locals) (hna : As.length = na) (hst : st0 = As.reverse ++ st) (hcat : (st.map fun v => v.category).sum ≤ 8) (hd : decode cc pc = .ok (.invokestatic index, 3)) (hn : pc + 3 = n) (hf : cells + rm.cells ≤ R.cells ∧ slots + rm.slots ≤ R.slots)
    (kk : ∀ (v : Option Value) (L1 : List Nat) (f1 : Nat → va_E), Qc v L1 f1 → zG p l e R s m args below meth c D A nL (cells + rm.cells) (slots + rm.slots) Q n lv (v.toList ++ st) L1 f1) : zG p l e R s m args below meth c D A nL cells slots Q pc lv st0 L f := by
  refine k_ran X (mc := rm.cells) (ms := rm.slots) (av := As.toArray) hn (fun H locs ls hls hP hD => ?_) kk
  have hts := X.2.2.2.2.1
  have hg : GoodIn BG (va_wsS own index y (.code y bytes maxL ret :: BG)) := fun w hw => by
    rcases List.mem_append.mp hw with hw | hw
    · simp only [List.mem_cons, List.not_mem_nil, or_false] at hw
      rcases hw with rfl | rfl | rfl
      · exact ⟨w2, bg_good w2⟩
      · exact ⟨w3, bg_good w3⟩
      · exact ⟨w5, bg_good w5⟩
    · rcases List.mem_cons.mp hw with rfl | hw
      · exact ⟨w1, bg_good w1⟩
      · exact ⟨hw, bg_good hw⟩
  exact va_runS (As := As) (rest := st) ⟨X.1, X.2.1, X.2.2.1, X.2.2.2.1, hts⟩ (hM H.size) (va_cwS na hts hg rfl rfl rfl hy hR)
    ⟨zM_blind, fun U hU hW => ⟨rfl, by rw [hU], by rw [hU]; exact hP, va_K.moved hW.alike X.2.2.2.2.2.1, hD.weaken (fun _ _ _ _ => trivial)⟩⟩ rfl hna hls hst (lv_room hcat) hd hf
end ZG
/-- what a query's end says: an int answer, the pool as it was -/
def zA (L : List Nat) (f : Nat → va_E) (post : Int → Prop) : Option Value → List Nat → (Nat → va_E) → Prop := fun v L1 f1 => ∃ r : Int, v = some (.int (zI r)) ∧ post r ∧ L1 = L ∧ f1 = f
/-- yes or no -/
def zB (P : Prop) (r : Int) : Prop := (P ∧ r = 1) ∨ (¬ P ∧ r = 0)
abbrev zR0 (fr lo : Nat) : Room := { frames := fr, cells := 0, slots := 0, locals := lo }
section ZQ
variable {p : Program} {l : Launch} {e : Env} {R : Room} {s : State} {m : MethodId} {args : Array Value} {below : List Frame} {meth : Method} {c : Code} {D : va_G} {G : Nat → ClassId} {A : Nat → Prop} {nL cells slots : Nat} {Q : State → Prop} {cc : ByteArray} {own : String}
variable {pc n t : Nat} {lv lv' : List (Nat × Value)} {st : List Value} {L : List Nat} {f : Nat → va_E}
/-- a call that makes no cell -/
theorem k_wV (X : zX p s m args meth c D G A cc own nL) {Qc : Option Value → List Nat → (Nat → va_E) → Prop} {C : String} {T : u_T} {N ci index maxL na b fr lo : Nat} {y : MethodName} {bytes : ByteArray} {ret : Option FieldType} {As st0 : List Value} {fs : List Value}
    (hM : zM l D G y (.code y bytes maxL ret :: BG) (zR0 fr lo) (.ref b :: As) L f Qc) (hb : b ∈ L) (hfb : f b = .inr (ci, fs)) (hc : zc[ci]? = some (C, T, N)) (w1 : Cond.code y bytes maxL ret ∈ BG) (w2 : Cond.methodLink own index y ∈ BG) (w3 : Cond.instanceMethod y ∈ BG) (w4 : Cond.selects C y y ∈ BG) (w5 : Cond.initialized C ∈ BG)
    (hy : y.cls = C ∧ y.cls ≠ "java/lang/invoke/MethodHandle" ∧ y.cls ≠ "java/lang/invoke/VarHandle" ∧ (parseMethodDescriptor y.desc).map (fun d => d.parameters.length) = some na) (hR : fr + 1 ≤ R.frames ∧ 8 + (maxL + 11) + lo ≤ R.locals) (hna : As.length = na) (hst : st0 = As.reverse ++ .ref b :: st) (hcat : (st.map fun v => v.category).sum ≤ 8) (hd : decode cc pc = .ok (.invokevirtual index, 3)) (hn : pc + 3 = n) (hf : cells ≤ R.cells ∧ slots ≤ R.slots)
    (kk : ∀ (v : Option Value) (L1 : List Nat) (f1 : Nat → va_E), Qc v L1 f1 → zG p l e R s m args below meth c D A nL cells slots Q n lv (v.toList ++ st) L1 f1) : zG p l e R s m args below meth c D A nL cells slots Q pc lv st0 L f :=
  k_callV X hM hb hfb hc w1 w2 w3 w4 w5 hy hR hna hst hcat hd hn hf kk
theorem k_wS (X : zX p s m args meth c D G A cc own nL) {Qc : Option Value → List Nat → (Nat → va_E) → Prop} {index maxL na fr lo : Nat} {y : MethodName} {bytes : ByteArray} {ret : Option FieldType} {As st0 : List Value}
    (hM : zM l D G y (.code y bytes maxL ret :: BG) (zR0 fr lo) As L f Qc) (w1 : Cond.code y bytes maxL ret ∈ BG) (w2 : Cond.methodLink own index y ∈ BG) (w3 : Cond.static y ∈ BG) (w5 : Cond.initialized y.cls ∈ BG)
    (hy : y.cls ≠ "java/lang/invoke/MethodHandle" ∧ y.cls ≠ "java/lang/invoke/VarHandle" ∧ (parseMethodDescriptor y.desc).map (fun d => d.parameters.length) = some na) (hR : fr + 1 ≤ R.frames ∧ 8 + (maxL + 11) + lo ≤ R.locals) (hna : As.length = na) (hst : st0 = As.reverse ++ st) (hcat : (st.map fun v => v.category).sum ≤ 8) (hd : decode cc pc = .ok (.invokestatic index, 3)) (hn : pc + 3 = n) (hf : cells ≤ R.cells ∧ slots ≤ R.slots)
    (kk : ∀ (v : Option Value) (L1 : List Nat) (f1 : Nat → va_E), Qc v L1 f1 → zG p l e R s m args below meth c D A nL cells slots Q n lv (v.toList ++ st) L1 f1) : zG p l e R s m args below meth c D A nL cells slots Q pc lv st0 L f :=
  k_callS X hM w1 w2 w3 w5 hy hR hna hst hcat hd hn hf kk
/-- the call of a query -/
theorem k_qV (X : zX p s m args meth c D G A cc own nL) {post : Int → Prop} {C : String} {T : u_T} {N ci index maxL na b fr lo : Nat} {y : MethodName} {bytes : ByteArray} {ret : Option FieldType} {As st0 : List Value} {fs : List Value}
    (hM : zM l D G y (.code y bytes maxL ret :: BG) (zR0 fr lo) (.ref b :: As) L f (zA L f post)) (hb : b ∈ L) (hfb : f b = .inr (ci, fs)) (hc : zc[ci]? = some (C, T, N)) (w1 : Cond.code y bytes maxL ret ∈ BG) (w2 : Cond.methodLink own index y ∈ BG) (w3 : Cond.instanceMethod y ∈ BG) (w4 : Cond.selects C y y ∈ BG) (w5 : Cond.initialized C ∈ BG)
    (hy : y.cls = C ∧ y.cls ≠ "java/lang/invoke/MethodHandle" ∧ y.cls ≠ "java/lang/invoke/VarHandle" ∧ (parseMethodDescriptor y.desc).map (fun d => d.parameters.length) = some na) (hR : fr + 1 ≤ R.frames ∧ 8 + (maxL + 11) + lo ≤ R.locals) (hna : As.length = na) (hst : st0 = As.reverse ++ .ref b :: st) (hcat : (st.map fun v => v.category).sum ≤ 8) (hd : decode cc pc = .ok (.invokevirtual index, 3)) (hn : pc + 3 = n) (hf : cells ≤ R.cells ∧ slots ≤ R.slots)
    (kk : ∀ r : Int, post r → zG p l e R s m args below meth c D A nL cells slots Q n lv (.int (zI r) :: st) L f) : zG p l e R s m args below meth c D A nL cells slots Q pc lv st0 L f :=
  k_wV X hM hb hfb hc w1 w2 w3 w4 w5 hy hR hna hst hcat hd hn hf (fun v L1 f1 hq => by
    obtain ⟨r, rfl, hp, rfl, rfl⟩ := hq
    exact kk r hp)
theorem k_qS (X : zX p s m args meth c D G A cc own nL) {post : Int → Prop} {index maxL na fr lo : Nat} {y : MethodName} {bytes : ByteArray} {ret : Option FieldType} {As st0 : List Value}
    (hM : zM l D G y (.code y bytes maxL ret :: BG) (zR0 fr lo) As L f (zA L f post)) (w1 : Cond.code y bytes maxL ret ∈ BG) (w2 : Cond.methodLink own index y ∈ BG) (w3 : Cond.static y ∈ BG) (w5 : Cond.initialized y.cls ∈ BG)
    (hy : y.cls ≠ "java/lang/invoke/MethodHandle" ∧ y.cls ≠ "java/lang/invoke/VarHandle" ∧ (parseMethodDescriptor y.desc).map (fun d => d.parameters.length) = some na) (hR : fr + 1 ≤ R.frames ∧ 8 + (maxL + 11) + lo ≤ R.locals) (hna : As.length = na) (hst : st0 = As.reverse ++ st) (hcat : (st.map fun v => v.category).sum ≤ 8) (hd : decode cc pc = .ok (.invokestatic index, 3)) (hn : pc + 3 = n) (hf : cells ≤ R.cells ∧ slots ≤ R.slots)
    (kk : ∀ r : Int, post r → zG p l e R s m args below meth c D A nL cells slots Q n lv (.int (zI r) :: st) L f) : zG p l e R s m args below meth c D A nL cells slots Q pc lv st0 L f :=
  k_wS X hM w1 w2 w3 w5 hy hR hna hst hcat hd hn hf (fun v L1 f1 hq => by
    obtain ⟨r, rfl, hp, rfl, rfl⟩ := hq
    exact kk r hp)
/-- a number gets a name -/
theorem k_top {a : Int} (k : ∀ x, x = a → zG p l e R s m args below meth c D A nL cells slots Q pc lv (.int (zI x) :: st) L f) : zG p l e R s m args below meth c D A nL cells slots Q pc lv (.int (zI a) :: st) L f := k a rfl
/-- the same number in other words -/
theorem k_val {a b : Int} (h : a = b) (k : zG p l e R s m args below meth c D A nL cells slots Q pc lv (.int (zI b) :: st) L f) : zG p l e R s m args below meth c D A nL cells slots Q pc lv (.int (zI a) :: st) L f := by rw [h]; exact k
end ZQ
end
section
-- BASE 2: Math.max, min, abs; bounds of products; a shape's cells
section ZM
variable {p : Program} {l : Launch} {e : Env} {R : Room} {s : State} {m : MethodId} {args : Array Value} {below : List Frame} {meth : Method} {c : Code} {D : va_G} {G : Nat → ClassId} {A : Nat → Prop} {nL cells slots : Nat} {Q : State → Prop} {cc : ByteArray} {own : String}
variable {pc n t : Nat} {lv lv' : List (Nat × Value)} {st : List Value} {L : List Nat} {f : Nat → va_E}
theorem k_max (X : zX p s m args meth c D G A cc own nL) {index : Nat} {a b : Int} (hd : decode cc pc = .ok (.invokestatic index, 3)) (hn : pc + 3 = n) (w2 : Cond.methodLink own index Lib.Math.max.name ∈ BG) (w3 : Cond.static Lib.Math.max.name ∈ BG) (w5 : Cond.initialized "java/lang/Math" ∈ BG) (w1 : Cond.code Lib.Math.max.name Lib.Math.max.code 2 (some .int) ∈ BG) (hR : 1 ≤ R.frames ∧ (st.map fun v => v.category).sum + 13 ≤ R.locals) (hc : cells ≤ R.cells ∧ slots ≤ R.slots) (ha : zO a) (hb : zO b)
    (kk : zG p l e R s m args below meth c D A nL cells slots Q n lv (.int (zI (max a b)) :: st) L f) : zG p l e R s m args below meth c D A nL cells slots Q pc lv (.int (zI b) :: .int (zI a) :: st) L f := by
  subst hn
  intro H locs ls hl hP hD hS
  have hts := X.2.2.2.2.1
  refine va_mmax X.1 X.2.1 (X.2.2.1.trans hl.1.symm) X.2.2.2.1 (hts _ w2) (hts _ w3) (hts _ w5) (hts _ w1) hR.1 hR.2 hc.1 hc.2 hd ?_
  have e : (if zI a < zI b then zI b else zI a) = zI (max a b) := by
    by_cases h : a < b
    · rw [if_pos ((zI_lt ha hb).mpr h), show max a b = b by omega]
    · rw [if_neg (fun q => h ((zI_lt ha hb).mp q)), show max a b = a by omega]
  rw [e]
  exact kk H locs ls hl hP hD hS
theorem k_min (X : zX p s m args meth c D G A cc own nL) {index : Nat} {a b : Int} (hd : decode cc pc = .ok (.invokestatic index, 3)) (hn : pc + 3 = n) (w2 : Cond.methodLink own index Lib.Math.min.name ∈ BG) (w3 : Cond.static Lib.Math.min.name ∈ BG) (w5 : Cond.initialized "java/lang/Math" ∈ BG) (w1 : Cond.code Lib.Math.min.name Lib.Math.min.code 2 (some .int) ∈ BG) (hR : 1 ≤ R.frames ∧ (st.map fun v => v.category).sum + 13 ≤ R.locals) (hc : cells ≤ R.cells ∧ slots ≤ R.slots) (ha : zO a) (hb : zO b)
    (kk : zG p l e R s m args below meth c D A nL cells slots Q n lv (.int (zI (min a b)) :: st) L f) : zG p l e R s m args below meth c D A nL cells slots Q pc lv (.int (zI b) :: .int (zI a) :: st) L f := by
  subst hn
  intro H locs ls hl hP hD hS
  have hts := X.2.2.2.2.1
  refine va_mmin X.1 X.2.1 (X.2.2.1.trans hl.1.symm) X.2.2.2.1 (hts _ w2) (hts _ w3) (hts _ w5) (hts _ w1) hR.1 hR.2 hc.1 hc.2 hd ?_
  have e : (if zI b < zI a then zI b else zI a) = zI (min a b) := by
    by_cases h : b < a
    · rw [if_pos ((zI_lt hb ha).mpr h), show min a b = b by omega]
    · rw [if_neg (fun q => h ((zI_lt hb ha).mp q)), show min a b = a by omega]
  rw [e]
  exact kk H locs ls hl hP hD hS
theorem k_abs (X : zX p s m args meth c D G A cc own nL) {index : Nat} {a : Int} (hd : decode cc pc = .ok (.invokestatic index, 3)) (hn : pc + 3 = n) (w2 : Cond.methodLink own index Lib.Math.abs.name ∈ BG) (w3 : Cond.static Lib.Math.abs.name ∈ BG) (w5 : Cond.initialized "java/lang/Math" ∈ BG) (w1 : Cond.code Lib.Math.abs.name Lib.Math.abs.code 1 (some .int) ∈ BG) (hR : 1 ≤ R.frames ∧ (st.map fun v => v.category).sum + 13 ≤ R.locals) (hc : cells ≤ R.cells ∧ slots ≤ R.slots) (ha : zO a)
    (kk : zG p l e R s m args below meth c D A nL cells slots Q n lv (.int (zI (if 0 ≤ a then a else -a)) :: st) L f) : zG p l e R s m args below meth c D A nL cells slots Q pc lv (.int (zI a) :: st) L f := by
  subst hn
  intro H locs ls hl hP hD hS
  have hts := X.2.2.2.2.1
  refine va_mabs X.1 X.2.1 (X.2.2.1.trans hl.1.symm) X.2.2.2.1 (hts _ w2) (hts _ w3) (hts _ w5) (hts _ w1) hR.1 hR.2 hc.1 hc.2 hd ?_
  have e : (if 0 ≤ zI a then zI a else 0 - zI a) = zI (if 0 ≤ a then a else -a) := by
    have i0 : (0 : Int32) ≤ zI a ↔ 0 ≤ a := zI_le zO_0 ha
    by_cases h : 0 ≤ a
    · rw [if_pos (i0.mpr h), if_pos h]
    · rw [if_neg (fun q => h (i0.mp q)), if_neg h, ← zI_0, zI_sub, show (0 : Int) - a = -a by omega]
  rw [e]
  exact kk H locs ls hl hP hD hS
theorem k_ishr (X : zX p s m args meth c D G A cc own nL) {x y : Int32} (hd : decode cc pc = .ok (.ishr, 1)) (hn : pc + 1 = n) (k : zG p l e R s m args below meth c D A nL cells slots Q n lv (.int (x >>> (y &&& 31)) :: st) L f) : zG p l e R s m args below meth c D A nL cells slots Q pc lv (.int y :: .int x :: st) L f := by
  subst hn; exact fun H locs ls hl hP hD hS => lv_ishr X.1 X.2.1 hd (k H locs ls hl hP hD hS)
theorem k_iand (X : zX p s m args meth c D G A cc own nL) {x y : Int32} (hd : decode cc pc = .ok (.iand, 1)) (hn : pc + 1 = n) (k : zG p l e R s m args below meth c D A nL cells slots Q n lv (.int (x &&& y) :: st) L f) : zG p l e R s m args below meth c D A nL cells slots Q pc lv (.int y :: .int x :: st) L f := by
  subst hn; exact fun H locs ls hl hP hD hS => lv_iand X.1 X.2.1 hd (k H locs ls hl hP hD hS)
theorem k_ior (X : zX p s m args meth c D G A cc own nL) {x y : Int32} (hd : decode cc pc = .ok (.ior, 1)) (hn : pc + 1 = n) (k : zG p l e R s m args below meth c D A nL cells slots Q n lv (.int (x ||| y) :: st) L f) : zG p l e R s m args below meth c D A nL cells slots Q pc lv (.int y :: .int x :: st) L f := by
  subst hn; exact fun H locs ls hl hP hD hS => lv_ior X.1 X.2.1 hd (k H locs ls hl hP hD hS)
theorem k_iushr (X : zX p s m args meth c D G A cc own nL) {x y : Int32} (hd : decode cc pc = .ok (.iushr, 1)) (hn : pc + 1 = n) (k : zG p l e R s m args below meth c D A nL cells slots Q n lv (.int (x.toUInt32 >>> (y.toUInt32 &&& Int32.toUInt32 31)).toInt32 :: st) L f) : zG p l e R s m args below meth c D A nL cells slots Q pc lv (.int y :: .int x :: st) L f := by
  subst hn; exact fun H locs ls hl hP hD hS => lv_iushr X.1 X.2.1 hd rfl (k H locs ls hl hP hD hS)
theorem k_ldc (X : zX p s m args meth c D G A cc own nL) {index : Nat} {v : Int32} (hw : Cond.constant own index v ∈ BG) {z : Int} (hz : v = zI z) (hd : decode cc pc = .ok (.ldc index, 2)) (hn : pc + 2 = n) (k : zG p l e R s m args below meth c D A nL cells slots Q n lv (.int (zI z) :: st) L f) : zG p l e R s m args below meth c D A nL cells slots Q pc lv st L f := by
  subst hn; subst hz
  exact fun H locs ls hl hP hD hS => lv_ldc X.1 X.2.1 X.2.2.2.1 (X.2.2.2.2.1 _ hw) hd (k H locs ls hl hP hD hS)
/-- a number of the machine in other words -/
theorem k_va32 {x y : Int32} (h : x = y) (k : zG p l e R s m args below meth c D A nL cells slots Q pc lv (.int y :: st) L f) : zG p l e R s m args below meth c D A nL cells slots Q pc lv (.int x :: st) L f := by rw [h]; exact k
/-- remainder and quotient of numbers that aren't below 0 -/
theorem zI_div {a b : Int} (ha0 : 0 ≤ a) (ha : a ≤ 2147483647) (hb0 : 0 < b) (hb : b ≤ 2147483647) : zI a / zI b = zI (a / b) := by
  obtain ⟨k, rfl⟩ : ∃ k : Nat, a = k := ⟨a.toNat, by omega⟩
  obtain ⟨j, rfl⟩ : ∃ j : Nat, b = j := ⟨b.toNat, by omega⟩
  rw [zI_nat, zI_nat, pk_div (by omega) (by omega) (by omega), ← Int.natCast_ediv, zI_nat]
theorem k_idiv (X : zX p s m args meth c D G A cc own nL) {a b : Int} (hd : decode cc pc = .ok (.idiv, 1)) (hn : pc + 1 = n) (ha0 : 0 ≤ a) (ha : a ≤ 2147483647) (hb0 : 0 < b) (hb : b ≤ 2147483647) (k : zG p l e R s m args below meth c D A nL cells slots Q n lv (.int (zI (a / b)) :: st) L f) : zG p l e R s m args below meth c D A nL cells slots Q pc lv (.int (zI b) :: .int (zI a) :: st) L f := by
  subst hn
  have hne : ¬ zI b = 0 := fun q => by
    rw [← zI_0] at q
    have := (zI_eq (by omega) zO_0).mp q
    omega
  exact fun H locs ls hl hP hD hS => lv_idiv X.1 X.2.1 hd hne (by rw [zI_div ha0 ha hb0 hb]; exact k H locs ls hl hP hD hS)
theorem k_irem (X : zX p s m args meth c D G A cc own nL) {a b : Int} (hd : decode cc pc = .ok (.irem, 1)) (hn : pc + 1 = n) (ha0 : 0 ≤ a) (ha : a ≤ 2147483647) (hb0 : 0 < b) (hb : b ≤ 2147483647) (k : zG p l e R s m args below meth c D A nL cells slots Q n lv (.int (zI (a % b)) :: st) L f) : zG p l e R s m args below meth c D A nL cells slots Q pc lv (.int (zI b) :: .int (zI a) :: st) L f := by
  subst hn
  have hne : ¬ zI b = 0 := fun q => by
    rw [← zI_0] at q
    have := (zI_eq (by omega) zO_0).mp q
    omega
  refine fun H locs ls hl hP hD hS => lv_irem X.1 X.2.1 hd hne ?_
  rw [zI_div ha0 ha hb0 hb, zI_mul, zI_sub, show a - a / b * b = a % b by rw [Int.emod_def, Int.mul_comm]]
  exact k H locs ls hl hP hD hS
end ZM
theorem mul_bd {a b A B : Int} (h1 : -A ≤ a) (h2 : a ≤ A) (h3 : -B ≤ b) (h4 : b ≤ B) : -(A * B) ≤ a * b ∧ a * b ≤ A * B := by
  have x1 := Int.mul_nonneg (a := A - a) (b := B - b) (by omega) (by omega)
  have x2 := Int.mul_nonneg (a := A + a) (b := B + b) (by omega) (by omega)
  have x3 := Int.mul_nonneg (a := A - a) (b := B + b) (by omega) (by omega)
  have x4 := Int.mul_nonneg (a := A + a) (b := B - b) (by omega) (by omega)
  have y1 : (A - a) * (B - b) = A * B - A * b - a * B + a * b := by grind
  have y2 : (A + a) * (B + b) = A * B + A * b + a * B + a * b := by grind
  have y3 : (A - a) * (B + b) = A * B + A * b - a * B - a * b := by grind
  have y4 : (A + a) * (B - b) = A * B - A * b + a * B - a * b := by grind
  omega
-- a shape: its object at a, its rows at ax and ay; n corners; its box
def sP (X Y : Int → Int) : Nat → Int × Int := fun k => (X (k : Int), Y (k : Int))
def zS (G : Nat → ClassId) (L : List Nat) (f : Nat → va_E) (a ax ay n : Nat) (X Y : Int → Int) (lx hx ly hy : Int) : Prop :=
  a ∈ L ∧ ax ∈ L ∧ ay ∈ L ∧ f a = .inr (2, [.ref ax, .ref ay, .int (zI (n : Int)), .int (zI lx), .int (zI hx), .int (zI ly), .int (zI hy)]) ∧ f ax = zr G 12 X ∧ f ay = zr G 12 Y
/-- corners of moderate size -/
def sB (n : Nat) (X Y : Int → Int) : Prop := n ≤ 12 ∧ ∀ j : Nat, j < n → -100 ≤ X (j : Int) ∧ X (j : Int) ≤ 100 ∧ -100 ≤ Y (j : Int) ∧ Y (j : Int) ≤ 100
theorem bs_bd {n : Nat} {X Y : Int → Int} (h : sB n X Y) {i : Nat} (hi : i < n) {px py : Int} (h1 : -200 ≤ px) (h2 : px ≤ 200) (h3 : -200 ≤ py) (h4 : py ≤ 200) : -120000 ≤ ge_bs (sP X Y) n i (px, py) ∧ ge_bs (sP X Y) n i (px, py) ≤ 120000 := by
  have a := h.2 i hi
  have b := h.2 (ge_nx n i) (by unfold ge_nx; split <;> omega)
  have u := mul_bd (a := X (ge_nx n i : Nat) - X i) (b := py - Y i) (A := 200) (B := 300) (by omega) (by omega) (by omega) (by omega)
  have v := mul_bd (a := Y (ge_nx n i : Nat) - Y i) (b := px - X i) (A := 200) (B := 300) (by omega) (by omega) (by omega) (by omega)
  unfold ge_bs sP
  dsimp only
  omega
-- the sign
def sg (z : Int) : Int := if z < 0 then -1 else if z = 0 then 0 else 1
theorem sg_bd (u v : Int) : -1 ≤ sg u * sg v ∧ sg u * sg v ≤ 1 := by
  unfold sg
  repeat' split
  all_goals omega
theorem sg_mul (u v : Int) : sg u * sg v ≤ 0 ↔ u * v ≤ 0 := by
  have a1 : u < 0 → v < 0 → 0 < u * v := Int.mul_pos_of_neg_of_neg
  have a2 : 0 < u → 0 < v → 0 < u * v := Int.mul_pos
  have a3 : u < 0 → 0 < v → u * v < 0 := Int.mul_neg_of_neg_of_pos
  have a4 : 0 < u → v < 0 → u * v < 0 := Int.mul_neg_of_pos_of_neg
  have a5 : u = 0 → u * v = 0 := fun h => by rw [h, Int.zero_mul]
  have a6 : v = 0 → u * v = 0 := fun h => by rw [h, Int.mul_zero]
  generalize u * v = w at *
  unfold sg
  repeat' split
  all_goals omega
theorem sg_lem {z : Int} (h1 : -1000000 ≤ z) (h2 : z ≤ 1000000) : (zI z >>> (zI 31 &&& 31)) ||| ((zI (-z)).toUInt32 >>> ((zI 31).toUInt32 &&& Int32.toUInt32 31)).toInt32 = zI (sg z) := by
  have e1 : zI z >>> (zI 31 &&& 31) = zI (if z < 0 then -1 else 0) := by
    rw [← Int32.toInt_inj, pk_shr _ _ 31 (by decide), zI_toInt (by omega), zI_toInt (by split <;> omega), Int.shiftRight_eq_div_pow]
    split <;> omega
  have e2 : ((zI (-z)).toUInt32 >>> ((zI 31).toUInt32 &&& Int32.toUInt32 31)).toInt32 = zI (if 0 < z then 1 else 0) := by
    rw [← Int32.toBitVec_inj]
    apply BitVec.eq_of_toNat_eq
    rw [pk_ushr _ _ 31 (by decide)]
    have t : (zI (-z)).toBitVec.toInt = -z := zI_toInt (by omega)
    rw [BitVec.toInt_eq_toNat_cond] at t
    have b := (zI (-z)).toBitVec.isLt
    by_cases hz : 0 < z
    · rw [if_pos hz, show (zI 1).toBitVec.toNat = 1 by decide]
      split at t <;> omega
    · rw [if_neg hz, show (zI 0).toBitVec.toNat = 0 by decide]
      split at t <;> omega
  rw [e1, e2]
  unfold sg
  by_cases c1 : z < 0
  · rw [if_pos c1, if_pos c1, if_neg (by omega)]; decide
  · by_cases c2 : z = 0
    · rw [if_neg c1, if_neg c1, if_pos c2, if_neg (by omega)]; decide
    · rw [if_neg c1, if_neg c1, if_neg c2, if_pos (by omega)]; decide
theorem d_JInteger_signum_0 : decode c_JInteger_signum 0 = .ok (.iload_n 0, 1) := by decide +kernel
theorem d_JInteger_signum_1 : decode c_JInteger_signum 1 = .ok (.bipush 31, 2) := by decide +kernel
theorem d_JInteger_signum_3 : decode c_JInteger_signum 3 = .ok (.ishr, 1) := by decide +kernel
theorem d_JInteger_signum_4 : decode c_JInteger_signum 4 = .ok (.iload_n 0, 1) := by decide +kernel
theorem d_JInteger_signum_5 : decode c_JInteger_signum 5 = .ok (.ineg, 1) := by decide +kernel
theorem d_JInteger_signum_6 : decode c_JInteger_signum 6 = .ok (.bipush 31, 2) := by decide +kernel
theorem d_JInteger_signum_8 : decode c_JInteger_signum 8 = .ok (.iushr, 1) := by decide +kernel
theorem d_JInteger_signum_9 : decode c_JInteger_signum 9 = .ok (.ior, 1) := by decide +kernel
theorem d_JInteger_signum_10 : decode c_JInteger_signum 10 = .ok (.ireturn, 1) := by decide +kernel
/-- the sign of a number -/
theorem m_signum (l : Launch) (D : va_G) (G : Nat → ClassId) {L : List Nat} {f : Nat → va_E} (z : Int) (h1 : -1000000 ≤ z) (h2 : z ≤ 1000000) : zM l D G y_JInteger_signum (.code y_JInteger_signum c_JInteger_signum 1 (some .int) :: BG) (zR0 0 0) [.int (zI z)] L f (zA L f (fun r => r = sg z)) := by
  refine zM.of (by decide) (Nat.le_of_ble_eq_true rfl) rfl (fun p e s m args below meth c A Xc hr hnm => ?_)
  refine k_iload_n Xc d_JInteger_signum_0 rfl rfl (n := 1) rfl ?_
  refine k_bipush Xc d_JInteger_signum_1 rfl (n := 3) rfl ?_
  refine k_ishr Xc d_JInteger_signum_3 (n := 4) rfl ?_
  refine k_iload_n Xc d_JInteger_signum_4 rfl rfl (n := 5) rfl ?_
  refine k_ineg Xc d_JInteger_signum_5 (n := 6) rfl ?_
  refine k_bipush Xc d_JInteger_signum_6 rfl (n := 8) rfl ?_
  refine k_iushr Xc d_JInteger_signum_8 (n := 9) rfl ?_
  refine k_ior Xc d_JInteger_signum_9 (n := 10) rfl ?_
  refine k_va32 (sg_lem h1 h2) ?_
  exact k_iret Xc d_JInteger_signum_10 hr rfl (Nat.le_refl _) (Nat.le_refl _) ⟨_, rfl, rfl, rfl, rfl⟩
theorem zB_t {P : Prop} {o : Int} (h : zB P o) (ho : ¬ o = 0) : P := by
  rcases h with h | h
  · exact h.1
  · exact absurd h.2 ho
theorem zB_f {P : Prop} {o : Int} (h : zB P o) (ho : o = 0) : ¬ P := by
  rcases h with h | h
  · have := h.2; omega
  · exact h.1
theorem zB_01 {P : Prop} {o : Int} (h : zB P o) : o = 0 ∨ o = 1 := by
  rcases h with h | h
  · exact Or.inr h.2
  · exact Or.inl h.2
theorem zB_yes {P : Nat → Prop} {k : Nat} {o : Int} (h : zB (∃ j, j < k ∧ P j) o) (hh : ¬ o = 0 ∨ P k) : zB (∃ j, j < k + 1 ∧ P j) 1 := by
  refine Or.inl ⟨?_, rfl⟩
  rcases hh with hh | hh
  · obtain ⟨j, a, b⟩ := zB_t h hh
    exact ⟨j, by omega, b⟩
  · exact ⟨k, by omega, hh⟩
theorem zB_no {P : Nat → Prop} {k : Nat} {o : Int} (h : zB (∃ j, j < k ∧ P j) o) (ho : o = 0) (hp : ¬ P k) : zB (∃ j, j < k + 1 ∧ P j) 0 := by
  refine Or.inr ⟨fun ⟨j, a, b⟩ => ?_, rfl⟩
  rcases Nat.lt_or_ge j k with q | q
  · exact zB_f h ho ⟨j, q, b⟩
  · have e : j = k := by omega
    subst e
    exact hp b
theorem odd_flip {n : Nat} {V : Nat → Int × Int} {m : Int × Int} {i : Nat} {o o2 : Int} (h : zB (ge_odd n V m i) o) (hh : ge_hit m (V i) (V (ge_nx n i))) (e : o2 = 1 - o) : zB (ge_odd n V m (i + 1)) o2 := by
  unfold zB at *
  simp only [ge_odd]
  rcases h with ⟨h, q⟩ | ⟨h, q⟩
  · exact Or.inr ⟨fun z => z ⟨fun _ => hh, fun _ => h⟩, by omega⟩
  · exact Or.inl ⟨fun z => h (z.mpr hh), by omega⟩
theorem odd_keep {n : Nat} {V : Nat → Int × Int} {m : Int × Int} {i : Nat} {o : Int} (h : zB (ge_odd n V m i) o) (hh : ¬ ge_hit m (V i) (V (ge_nx n i))) : zB (ge_odd n V m (i + 1)) o := by
  unfold zB at *
  simp only [ge_odd]
  rcases h with ⟨h, q⟩ | ⟨h, q⟩
  · exact Or.inl ⟨fun z => hh (z.mp h), q⟩
  · exact Or.inr ⟨fun z => z ⟨fun w => absurd w h, fun w => absurd w hh⟩, q⟩
theorem hit3 {X Y : Int → Int} {i j : Nat} {tx ty w : Int} (h : w = (X (j : Int) - X (i : Int)) * (ty - 3 * Y (i : Int)) - (Y (j : Int) - Y (i : Int)) * (tx - 3 * X (i : Int))) :
    ge_hit (tx, ty) (ge_3 (sP X Y) i) (ge_3 (sP X Y) j) ↔ (3 * Y (i : Int) ≤ ty ∧ ty < 3 * Y (j : Int) ∧ 0 < w) ∨ (3 * Y (j : Int) ≤ ty ∧ ty < 3 * Y (i : Int) ∧ w < 0) := by
  unfold ge_hit ge_3 sP ge_cr
  dsimp only
  have e : (3 * X (j : Int) - 3 * X (i : Int)) * (ty - 3 * Y (i : Int)) - (3 * Y (j : Int) - 3 * Y (i : Int)) * (tx - 3 * X (i : Int)) = 3 * w := by rw [h]; grind
  rw [e]
  constructor
  · rintro (⟨a, b, c⟩ | ⟨a, b, c⟩)
    · exact Or.inl ⟨a, b, by omega⟩
    · exact Or.inr ⟨a, b, by omega⟩
  · rintro (⟨a, b, c⟩ | ⟨a, b, c⟩)
    · exact Or.inl ⟨a, b, by omega⟩
    · exact Or.inr ⟨a, b, by omega⟩
/-- the class: side i, as it lies to the piece moved by dx, dy, has points inside the piece -/
def sCut (n : Nat) (X Y : Int → Int) (k2 : Nat) (U V : Int → Int) (lu hu lv hv dx dy : Int) (i : Nat) : Prop :=
  ¬ (max (X (i : Int) - dx) (X ((ge_nx n i : Nat) : Int) - dx) ≤ lu ∨ hu ≤ min (X (i : Int) - dx) (X ((ge_nx n i : Nat) : Int) - dx) ∨ max (Y (i : Int) - dy) (Y ((ge_nx n i : Nat) : Int) - dy) ≤ lv ∨ hv ≤ min (Y (i : Int) - dy) (Y ((ge_nx n i : Nat) : Int) - dy)) ∧
  ((∃ k : Nat, k < k2 ∧ 0 < ge_bs (sP X Y) n i (U (k : Int) + dx, V (k : Int) + dy)) ∧ ∃ k : Nat, k < k2 ∧ ge_bs (sP X Y) n i (U (k : Int) + dx, V (k : Int) + dy) < 0) ∧
  ¬ ∃ k : Nat, k < k2 ∧ ge_bs (sP U V) k2 k (X (i : Int) - dx, Y (i : Int) - dy) ≤ 0 ∧ ge_bs (sP U V) k2 k (X ((ge_nx n i : Nat) : Int) - dx, Y ((ge_nx n i : Nat) : Int) - dy) ≤ 0
end
section
-- BASE 3: words for what writers of shapes do
def sFr (f f1 : Nat → va_E) (a ax ay : Nat) : Prop := ∀ q, q ≠ a → q ≠ ax → q ≠ ay → f1 q = f q
def sAp (a ax ay b bx b_y : Nat) : Prop := b ≠ a ∧ bx ≠ ax ∧ bx ≠ ay ∧ b_y ≠ ax ∧ b_y ≠ ay
theorem zS_ne {G : Nat → ClassId} {L : List Nat} {f : Nat → va_E} {a ax ay n : Nat} {X Y : Int → Int} {lx hx ly hy : Int} (h : zS G L f a ax ay n X Y lx hx ly hy) : ax ≠ a ∧ ay ≠ a := by
  obtain ⟨-, -, -, h1, h2, h3⟩ := h
  refine ⟨fun e => ?_, fun e => ?_⟩
  · rw [e, h1] at h2; unfold zr at h2; cases h2
  · rw [e, h1] at h3; unfold zr at h3; cases h3
theorem zS_ne2 {G : Nat → ClassId} {L : List Nat} {f : Nat → va_E} {a ax ay n : Nat} {X Y : Int → Int} {lx hx ly hy : Int} (h : zS G L f a ax ay n X Y lx hx ly hy) {b bx b_y k2 : Nat} {U V : Int → Int} {lu hu lv hv : Int} (t : zS G L f b bx b_y k2 U V lu hu lv hv) : b ≠ ax ∧ b ≠ ay := by
  obtain ⟨-, -, -, -, h2, h3⟩ := h
  obtain ⟨-, -, -, h1, -, -⟩ := t
  refine ⟨fun e => ?_, fun e => ?_⟩
  · rw [← e, h1] at h2; unfold zr at h2; cases h2
  · rw [← e, h1] at h3; unfold zr at h3; cases h3
theorem zS_keep {G : Nat → ClassId} {L : List Nat} {f g : Nat → va_E} {a ax ay n : Nat} {X Y : Int → Int} {lx hx ly hy : Int} (h : zS G L f a ax ay n X Y lx hx ly hy) {b bx b_y k2 : Nat} {U V : Int → Int} {lu hu lv hv : Int} (t : zS G L f b bx b_y k2 U V lu hu lv hv) (hF : sFr f g a ax ay) (ap : sAp a ax ay b bx b_y) : zS G L g b bx b_y k2 U V lu hu lv hv := by
  obtain ⟨p1, p2⟩ := zS_ne2 h t
  obtain ⟨r1, r2⟩ := zS_ne2 t h
  obtain ⟨a1, a2, a3, a4, a5⟩ := ap
  obtain ⟨m1, m2, m3, t1, t2, t3⟩ := t
  exact ⟨m1, m2, m3, (hF b a1 p1 p2).trans t1, (hF bx (Ne.symm r1) a2 a3).trans t2, (hF b_y (Ne.symm r2) a4 a5).trans t3⟩
theorem sFr_tr {f g h : Nat → va_E} {a ax ay : Nat} (h1 : sFr f g a ax ay) (h2 : sFr g h a ax ay) : sFr f h a ax ay := fun q q1 q2 q3 => (h2 q q1 q2 q3).trans (h1 q q1 q2 q3)
theorem sFr_rf {f : Nat → va_E} {a ax ay : Nat} : sFr f f a ax ay := fun _ _ _ _ => rfl
def bxl (n : Nat) (l x : Int) : Int := if n = 0 then x else min l x
def bxh (n : Nat) (l x : Int) : Int := if n = 0 then x else max l x
/-- the least box -/
def sBx (n : Nat) (X Y : Int → Int) (lx hx ly hy : Int) : Prop := 0 < n →
  (∀ j : Nat, j < n → lx ≤ X (j : Int) ∧ X (j : Int) ≤ hx ∧ ly ≤ Y (j : Int) ∧ Y (j : Int) ≤ hy) ∧ (∃ j : Nat, j < n ∧ X (j : Int) = lx) ∧ (∃ j : Nat, j < n ∧ X (j : Int) = hx) ∧ (∃ j : Nat, j < n ∧ Y (j : Int) = ly) ∧ (∃ j : Nat, j < n ∧ Y (j : Int) = hy)
theorem iu_at (X : Int → Int) (z v : Int) : iu X z v z = v := if_pos rfl
theorem iu_ne {X : Int → Int} {z v q : Int} (h : q ≠ z) : iu X z v q = X q := if_neg h
theorem iu_nat {X : Int → Int} {n j : Nat} {v : Int} (h : j < n) : iu X (n : Int) v (j : Int) = X (j : Int) := if_neg (by omega)
theorem sBx_add {n : Nat} {X Y : Int → Int} {lx hx ly hy : Int} (h : sBx n X Y lx hx ly hy) (x y : Int) : sBx (n + 1) (iu X (n : Int) x) (iu Y (n : Int) y) (bxl n lx x) (bxh n hx x) (bxl n ly y) (bxh n hy y) := by
  intro _
  by_cases hn : n = 0
  · subst hn
    unfold bxl bxh
    simp only [if_true]
    refine ⟨fun j hj => ?_, ⟨0, by omega, iu_at _ _ _⟩, ⟨0, by omega, iu_at _ _ _⟩, ⟨0, by omega, iu_at _ _ _⟩, ⟨0, by omega, iu_at _ _ _⟩⟩
    have e : j = 0 := by omega
    subst e
    rw [iu_at, iu_at]
    omega
  · obtain ⟨h1, ⟨j1, a1, b1⟩, ⟨j2, a2, b2⟩, ⟨j3, a3, b3⟩, ⟨j4, a4, b4⟩⟩ := h (by omega)
    unfold bxl bxh
    simp only [if_neg hn]
    have old : ∀ j : Nat, j < n → iu X (n : Int) x (j : Int) = X (j : Int) ∧ iu Y (n : Int) y (j : Int) = Y (j : Int) := fun j hj => ⟨iu_nat hj, iu_nat hj⟩
    refine ⟨fun j hj => ?_, ?_, ?_, ?_, ?_⟩
    · rcases Nat.lt_or_ge j n with q | q
      · rw [(old j q).1, (old j q).2]
        have := h1 j q
        omega
      · have e : j = n := by omega
        subst e
        rw [iu_at, iu_at]
        omega
    · rcases Int.le_total lx x with q | q
      · exact ⟨j1, by omega, by rw [(old j1 a1).1, b1]; omega⟩
      · exact ⟨n, by omega, by rw [iu_at]; omega⟩
    · rcases Int.le_total hx x with q | q
      · exact ⟨n, by omega, by rw [iu_at]; omega⟩
      · exact ⟨j2, by omega, by rw [(old j2 a2).1, b2]; omega⟩
    · rcases Int.le_total ly y with q | q
      · exact ⟨j3, by omega, by rw [(old j3 a3).2, b3]; omega⟩
      · exact ⟨n, by omega, by rw [iu_at]; omega⟩
    · rcases Int.le_total hy y with q | q
      · exact ⟨n, by omega, by rw [iu_at]; omega⟩
      · exact ⟨j4, by omega, by rw [(old j4 a4).2, b4]; omega⟩
def sIs (n : Nat) (X Y : Int → Int) (gx gy : Nat → Int) : Prop := ∀ j : Nat, j < n → X (j : Int) = gx j ∧ Y (j : Int) = gy j
theorem sIs_add {n : Nat} {X Y : Int → Int} {gx gy : Nat → Int} (h : sIs n X Y gx gy) {x y : Int} (hx : x = gx n) (hy : y = gy n) : sIs (n + 1) (iu X (n : Int) x) (iu Y (n : Int) y) gx gy := by
  intro j hj
  rcases Nat.lt_or_ge j n with q | q
  · rw [iu_nat q, iu_nat q]; exact h j q
  · have e : j = n := by omega
    subst e
    rw [iu_at, iu_at]; exact ⟨hx, hy⟩
/-- a box of corners of moderate size is of moderate size -/
theorem sBx_bd {n : Nat} {X Y : Int → Int} {lx hx ly hy : Int} (h : sBx n X Y lx hx ly hy) {gx gy : Nat → Int} (hi : sIs n X Y gx gy) {B : Int} (hg : ∀ j, j < n → -B ≤ gx j ∧ gx j ≤ B ∧ -B ≤ gy j ∧ gy j ≤ B) (hn : 0 < n) : -B ≤ lx ∧ lx ≤ B ∧ -B ≤ hx ∧ hx ≤ B ∧ -B ≤ ly ∧ ly ≤ B ∧ -B ≤ hy ∧ hy ≤ B := by
  obtain ⟨-, ⟨j1, a1, b1⟩, ⟨j2, a2, b2⟩, ⟨j3, a3, b3⟩, ⟨j4, a4, b4⟩⟩ := h hn
  have c1 := hg j1 a1
  have c2 := hg j2 a2
  have c3 := hg j3 a3
  have c4 := hg j4 a4
  rw [← (hi j1 a1).1, b1] at c1
  rw [← (hi j2 a2).1, b2] at c2
  rw [← (hi j3 a3).2, b3] at c3
  rw [← (hi j4 a4).2, b4] at c4
  omega
/-- a new shape at a: its corners are gx, gy; nothing else has changed -/
def zN (G : Nat → ClassId) (L : List Nat) (f f1 : Nat → va_E) (a ax ay n : Nat) (gx gy : Nat → Int) : Prop :=
  ∃ (X Y : Int → Int) (lx hx ly hy : Int), zS G L f1 a ax ay n X Y lx hx ly hy ∧ sFr f f1 a ax ay ∧ sIs n X Y gx gy ∧ sBx n X Y lx hx ly hy
end
