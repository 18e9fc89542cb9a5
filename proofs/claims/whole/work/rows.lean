section
-- ===== PART A: goes FIRST, ahead of the names: the tables' words, and 'selects' of the private methods out of them =====
/-- a private method of a class that the tables say can be made, by its rows of tables_1 -/
def lw_okq (q : MethodName × Nat) : Prop := (q.1.cls ≠ "java/lang/invoke/MethodHandle" ∧ q.1.cls ≠ "java/lang/invoke/VarHandle") ∧ Cond.instantiable q.1.cls q.2 ∈ tables_1 ∧ Cond.privateMethod q.1 ∈ tables_1 ∧ Cond.instanceMethod q.1 ∈ tables_1
theorem lw_p0 : lw_okq (⟨"java/lang/Throwable", "fillInStackTrace", "(I)Ljava/lang/Throwable;"⟩, 6) := ⟨⟨by decide +kernel, by decide +kernel⟩, List.mem_of_getElem? (i := 237) (by decide +kernel), List.mem_of_getElem? (i := 235) (by decide +kernel), List.mem_of_getElem? (i := 236) (by decide +kernel)⟩
theorem lw_p1 : lw_okq (⟨"LeatherRoom", "endWait", "()LLeatherRoom$Shape;"⟩, 9) := ⟨⟨by decide +kernel, by decide +kernel⟩, List.mem_of_getElem? (i := 17) (by decide +kernel), List.mem_of_getElem? (i := 301) (by decide +kernel), List.mem_of_getElem? (i := 302) (by decide +kernel)⟩
theorem lw_p2 : lw_okq (⟨"LeatherRoom", "isKind", "(I)Z"⟩, 9) := ⟨⟨by decide +kernel, by decide +kernel⟩, List.mem_of_getElem? (i := 17) (by decide +kernel), List.mem_of_getElem? (i := 400) (by decide +kernel), List.mem_of_getElem? (i := 401) (by decide +kernel)⟩
theorem lw_p3 : lw_okq (⟨"LeatherRoom", "canLie", "(LLeatherRoom$Kind;III)Z"⟩, 9) := ⟨⟨by decide +kernel, by decide +kernel⟩, List.mem_of_getElem? (i := 17) (by decide +kernel), List.mem_of_getElem? (i := 408) (by decide +kernel), List.mem_of_getElem? (i := 409) (by decide +kernel)⟩
theorem lw_p4 : lw_okq (⟨"LeatherRoom", "isOffParts", "(LLeatherRoom$Shape;II)Z"⟩, 9) := ⟨⟨by decide +kernel, by decide +kernel⟩, List.mem_of_getElem? (i := 17) (by decide +kernel), List.mem_of_getElem? (i := 420) (by decide +kernel), List.mem_of_getElem? (i := 421) (by decide +kernel)⟩
theorem lw_p5 : lw_okq (⟨"LeatherRoom", "isOffZones", "(LLeatherRoom$Shape;III)Z"⟩, 9) := ⟨⟨by decide +kernel, by decide +kernel⟩, List.mem_of_getElem? (i := 17) (by decide +kernel), List.mem_of_getElem? (i := 432) (by decide +kernel), List.mem_of_getElem? (i := 433) (by decide +kernel)⟩
theorem lw_p6 : lw_okq (⟨"LeatherRoom", "findPlace", "(LLeatherRoom$Kind;)I"⟩, 9) := ⟨⟨by decide +kernel, by decide +kernel⟩, List.mem_of_getElem? (i := 17) (by decide +kernel), List.mem_of_getElem? (i := 465) (by decide +kernel), List.mem_of_getElem? (i := 466) (by decide +kernel)⟩
theorem lw_p7 : lw_okq (⟨"LeatherRoom", "addPart", "(IIII)I"⟩, 9) := ⟨⟨by decide +kernel, by decide +kernel⟩, List.mem_of_getElem? (i := 17) (by decide +kernel), List.mem_of_getElem? (i := 493) (by decide +kernel), List.mem_of_getElem? (i := 494) (by decide +kernel)⟩
theorem lw_p8 : lw_okq (⟨"LeatherRoom", "isPart", "(I)Z"⟩, 9) := ⟨⟨by decide +kernel, by decide +kernel⟩, List.mem_of_getElem? (i := 17) (by decide +kernel), List.mem_of_getElem? (i := 532) (by decide +kernel), List.mem_of_getElem? (i := 533) (by decide +kernel)⟩
theorem lw_p9 : lw_okq (⟨"LeatherRoomModel", "count", "()I"⟩, 30) := ⟨⟨by decide +kernel, by decide +kernel⟩, List.mem_of_getElem? (i := 545) (by decide +kernel), List.mem_of_getElem? (i := 654) (by decide +kernel), List.mem_of_getElem? (i := 655) (by decide +kernel)⟩
theorem lw_p10 : lw_okq (⟨"LeatherRoomModel", "isPlain", "(I)Z"⟩, 30) := ⟨⟨by decide +kernel, by decide +kernel⟩, List.mem_of_getElem? (i := 545) (by decide +kernel), List.mem_of_getElem? (i := 658) (by decide +kernel), List.mem_of_getElem? (i := 659) (by decide +kernel)⟩
theorem lw_p11 : lw_okq (⟨"LeatherRoomModel", "isOn", "(III)Z"⟩, 30) := ⟨⟨by decide +kernel, by decide +kernel⟩, List.mem_of_getElem? (i := 545) (by decide +kernel), List.mem_of_getElem? (i := 662) (by decide +kernel), List.mem_of_getElem? (i := 663) (by decide +kernel)⟩
theorem lw_p12 : lw_okq (⟨"LeatherRoomModel", "side", "(III)I"⟩, 30) := ⟨⟨by decide +kernel, by decide +kernel⟩, List.mem_of_getElem? (i := 545) (by decide +kernel), List.mem_of_getElem? (i := 666) (by decide +kernel), List.mem_of_getElem? (i := 667) (by decide +kernel)⟩
theorem lw_p13 : lw_okq (⟨"LeatherRoomModel", "within", "(III)Z"⟩, 30) := ⟨⟨by decide +kernel, by decide +kernel⟩, List.mem_of_getElem? (i := 545) (by decide +kernel), List.mem_of_getElem? (i := 670) (by decide +kernel), List.mem_of_getElem? (i := 671) (by decide +kernel)⟩
theorem lw_p14 : lw_okq (⟨"LeatherRoomModel", "meet", "(III)Z"⟩, 30) := ⟨⟨by decide +kernel, by decide +kernel⟩, List.mem_of_getElem? (i := 545) (by decide +kernel), List.mem_of_getElem? (i := 674) (by decide +kernel), List.mem_of_getElem? (i := 675) (by decide +kernel)⟩
theorem lw_p15 : lw_okq (⟨"LeatherRoomModel", "isRound", "(I)Z"⟩, 30) := ⟨⟨by decide +kernel, by decide +kernel⟩, List.mem_of_getElem? (i := 545) (by decide +kernel), List.mem_of_getElem? (i := 685) (by decide +kernel), List.mem_of_getElem? (i := 686) (by decide +kernel)⟩
def lw_privs_1 : List (MethodName × Nat) := [(⟨"java/lang/Throwable", "fillInStackTrace", "(I)Ljava/lang/Throwable;"⟩, 6), (⟨"LeatherRoom", "endWait", "()LLeatherRoom$Shape;"⟩, 9), (⟨"LeatherRoom", "isKind", "(I)Z"⟩, 9), (⟨"LeatherRoom", "canLie", "(LLeatherRoom$Kind;III)Z"⟩, 9), (⟨"LeatherRoom", "isOffParts", "(LLeatherRoom$Shape;II)Z"⟩, 9), (⟨"LeatherRoom", "isOffZones", "(LLeatherRoom$Shape;III)Z"⟩, 9), (⟨"LeatherRoom", "findPlace", "(LLeatherRoom$Kind;)I"⟩, 9), (⟨"LeatherRoom", "addPart", "(IIII)I"⟩, 9), (⟨"LeatherRoom", "isPart", "(I)Z"⟩, 9), (⟨"LeatherRoomModel", "count", "()I"⟩, 30), (⟨"LeatherRoomModel", "isPlain", "(I)Z"⟩, 30), (⟨"LeatherRoomModel", "isOn", "(III)Z"⟩, 30), (⟨"LeatherRoomModel", "side", "(III)I"⟩, 30), (⟨"LeatherRoomModel", "within", "(III)Z"⟩, 30), (⟨"LeatherRoomModel", "meet", "(III)Z"⟩, 30), (⟨"LeatherRoomModel", "isRound", "(I)Z"⟩, 30)]
theorem lw_r1 : ∀ q ∈ lw_privs_1, lw_okq q := List.forall_mem_cons.mpr ⟨lw_p0, List.forall_mem_cons.mpr ⟨lw_p1, List.forall_mem_cons.mpr ⟨lw_p2, List.forall_mem_cons.mpr ⟨lw_p3, List.forall_mem_cons.mpr ⟨lw_p4, List.forall_mem_cons.mpr ⟨lw_p5, List.forall_mem_cons.mpr ⟨lw_p6, List.forall_mem_cons.mpr ⟨lw_p7, List.forall_mem_cons.mpr ⟨lw_p8, List.forall_mem_cons.mpr ⟨lw_p9, List.forall_mem_cons.mpr ⟨lw_p10, List.forall_mem_cons.mpr ⟨lw_p11, List.forall_mem_cons.mpr ⟨lw_p12, List.forall_mem_cons.mpr ⟨lw_p13, List.forall_mem_cons.mpr ⟨lw_p14, List.forall_mem_cons.mpr ⟨lw_p15, fun _ h => absurd h List.not_mem_nil⟩⟩⟩⟩⟩⟩⟩⟩⟩⟩⟩⟩⟩⟩⟩⟩
theorem lw_p16 : lw_okq (⟨"LeatherRoomModel", "isKind", "(I)Z"⟩, 30) := ⟨⟨by decide +kernel, by decide +kernel⟩, List.mem_of_getElem? (i := 545) (by decide +kernel), List.mem_of_getElem? (i := 701) (by decide +kernel), List.mem_of_getElem? (i := 702) (by decide +kernel)⟩
theorem lw_p17 : lw_okq (⟨"LeatherRoomModel", "isPlace", "(III)Z"⟩, 30) := ⟨⟨by decide +kernel, by decide +kernel⟩, List.mem_of_getElem? (i := 545) (by decide +kernel), List.mem_of_getElem? (i := 705) (by decide +kernel), List.mem_of_getElem? (i := 706) (by decide +kernel)⟩
theorem lw_p18 : lw_okq (⟨"LeatherRoomModel", "isFit", "(IIII)Z"⟩, 30) := ⟨⟨by decide +kernel, by decide +kernel⟩, List.mem_of_getElem? (i := 545) (by decide +kernel), List.mem_of_getElem? (i := 709) (by decide +kernel), List.mem_of_getElem? (i := 710) (by decide +kernel)⟩
theorem lw_p19 : lw_okq (⟨"LeatherRoomModel", "shape", "(IIII)V"⟩, 30) := ⟨⟨by decide +kernel, by decide +kernel⟩, List.mem_of_getElem? (i := 545) (by decide +kernel), List.mem_of_getElem? (i := 713) (by decide +kernel), List.mem_of_getElem? (i := 714) (by decide +kernel)⟩
theorem lw_p20 : lw_okq (⟨"LeatherRoomModel", "isInHide", "()Z"⟩, 30) := ⟨⟨by decide +kernel, by decide +kernel⟩, List.mem_of_getElem? (i := 545) (by decide +kernel), List.mem_of_getElem? (i := 717) (by decide +kernel), List.mem_of_getElem? (i := 718) (by decide +kernel)⟩
theorem lw_p21 : lw_okq (⟨"LeatherRoomModel", "overlaps", "()Z"⟩, 30) := ⟨⟨by decide +kernel, by decide +kernel⟩, List.mem_of_getElem? (i := 545) (by decide +kernel), List.mem_of_getElem? (i := 721) (by decide +kernel), List.mem_of_getElem? (i := 722) (by decide +kernel)⟩
theorem lw_p22 : lw_okq (⟨"LeatherRoomModel", "isParted", "(II)Z"⟩, 30) := ⟨⟨by decide +kernel, by decide +kernel⟩, List.mem_of_getElem? (i := 545) (by decide +kernel), List.mem_of_getElem? (i := 725) (by decide +kernel), List.mem_of_getElem? (i := 726) (by decide +kernel)⟩
theorem lw_p23 : lw_okq (⟨"LeatherRoomModel", "isMiddleInside", "()Z"⟩, 30) := ⟨⟨by decide +kernel, by decide +kernel⟩, List.mem_of_getElem? (i := 545) (by decide +kernel), List.mem_of_getElem? (i := 731) (by decide +kernel), List.mem_of_getElem? (i := 732) (by decide +kernel)⟩
theorem lw_p24 : lw_okq (⟨"LeatherRoomModel", "isOffZones", "(I)Z"⟩, 30) := ⟨⟨by decide +kernel, by decide +kernel⟩, List.mem_of_getElem? (i := 545) (by decide +kernel), List.mem_of_getElem? (i := 735) (by decide +kernel), List.mem_of_getElem? (i := 736) (by decide +kernel)⟩
theorem lw_p25 : lw_okq (⟨"LeatherRoomModel", "isBesideParts", "()Z"⟩, 30) := ⟨⟨by decide +kernel, by decide +kernel⟩, List.mem_of_getElem? (i := 545) (by decide +kernel), List.mem_of_getElem? (i := 739) (by decide +kernel), List.mem_of_getElem? (i := 740) (by decide +kernel)⟩
theorem lw_p26 : lw_okq (⟨"LeatherRoomModel", "search", "(I)I"⟩, 30) := ⟨⟨by decide +kernel, by decide +kernel⟩, List.mem_of_getElem? (i := 545) (by decide +kernel), List.mem_of_getElem? (i := 747) (by decide +kernel), List.mem_of_getElem? (i := 748) (by decide +kernel)⟩
theorem lw_p27 : lw_okq (⟨"LeatherRoomModel", "place", "(IIII)I"⟩, 30) := ⟨⟨by decide +kernel, by decide +kernel⟩, List.mem_of_getElem? (i := 545) (by decide +kernel), List.mem_of_getElem? (i := 755) (by decide +kernel), List.mem_of_getElem? (i := 756) (by decide +kernel)⟩
theorem lw_p28 : lw_okq (⟨"LeatherRoomModel", "isPart", "(I)Z"⟩, 30) := ⟨⟨by decide +kernel, by decide +kernel⟩, List.mem_of_getElem? (i := 545) (by decide +kernel), List.mem_of_getElem? (i := 767) (by decide +kernel), List.mem_of_getElem? (i := 768) (by decide +kernel)⟩
def lw_privs_2 : List (MethodName × Nat) := [(⟨"LeatherRoomModel", "isKind", "(I)Z"⟩, 30), (⟨"LeatherRoomModel", "isPlace", "(III)Z"⟩, 30), (⟨"LeatherRoomModel", "isFit", "(IIII)Z"⟩, 30), (⟨"LeatherRoomModel", "shape", "(IIII)V"⟩, 30), (⟨"LeatherRoomModel", "isInHide", "()Z"⟩, 30), (⟨"LeatherRoomModel", "overlaps", "()Z"⟩, 30), (⟨"LeatherRoomModel", "isParted", "(II)Z"⟩, 30), (⟨"LeatherRoomModel", "isMiddleInside", "()Z"⟩, 30), (⟨"LeatherRoomModel", "isOffZones", "(I)Z"⟩, 30), (⟨"LeatherRoomModel", "isBesideParts", "()Z"⟩, 30), (⟨"LeatherRoomModel", "search", "(I)I"⟩, 30), (⟨"LeatherRoomModel", "place", "(IIII)I"⟩, 30), (⟨"LeatherRoomModel", "isPart", "(I)Z"⟩, 30)]
theorem lw_r2 : ∀ q ∈ lw_privs_2, lw_okq q := List.forall_mem_cons.mpr ⟨lw_p16, List.forall_mem_cons.mpr ⟨lw_p17, List.forall_mem_cons.mpr ⟨lw_p18, List.forall_mem_cons.mpr ⟨lw_p19, List.forall_mem_cons.mpr ⟨lw_p20, List.forall_mem_cons.mpr ⟨lw_p21, List.forall_mem_cons.mpr ⟨lw_p22, List.forall_mem_cons.mpr ⟨lw_p23, List.forall_mem_cons.mpr ⟨lw_p24, List.forall_mem_cons.mpr ⟨lw_p25, List.forall_mem_cons.mpr ⟨lw_p26, List.forall_mem_cons.mpr ⟨lw_p27, List.forall_mem_cons.mpr ⟨lw_p28, fun _ h => absurd h List.not_mem_nil⟩⟩⟩⟩⟩⟩⟩⟩⟩⟩⟩⟩⟩
def lw_privs : List (MethodName × Nat) := lw_privs_1 ++ (lw_privs_2)
def lw_tbl : List Cond := k2_sels lw_privs ++ tables_1
theorem lw_privs_ok : ∀ q ∈ lw_privs, lw_okq q := by
  show ∀ q ∈ lw_privs_1 ++ (lw_privs_2), lw_okq q
  exact List.forall_mem_append.mpr ⟨lw_r1, lw_r2⟩
end
section
-- words: all good words of the tables in one list; every method's words are its own code and this list
def BG : List Cond := lw_tbl.filter goodWord
theorem bg_at (i : Nat) {w : Cond} (h : lw_tbl[i]? = some w) (hg : goodWord w = true) : w ∈ BG := List.mem_filter.mpr ⟨List.mem_of_getElem? h, hg⟩
theorem bg_good {w : Cond} (h : w ∈ BG) : (w.onTables && w.keeps) = true ∨ ∃ ty, w = .arrayClass ty := good_of_word (List.mem_filter.mp h).2
theorem bg_tbl {w : Cond} (h : w ∈ BG) : w ∈ lw_tbl := (List.mem_filter.mp h).1
theorem bg_in {c1 c2 : Cond} (h : c2 ∈ BG) : GoodIn (c1 :: BG) (c2 :: BG) := fun w hw => by
  rcases List.mem_cons.mp hw with rfl | hw
  · exact ⟨List.mem_cons_of_mem _ h, bg_good h⟩
  · exact ⟨List.mem_cons_of_mem _ hw, bg_good hw⟩
theorem bg_V {c1 c2 : Cond} {own C : String} {idx : Nat} {y : MethodName} (h : c2 ∈ BG) (h1 : Cond.methodLink own idx y ∈ BG) (h2 : Cond.instanceMethod y ∈ BG) (h3 : Cond.selects C y y ∈ BG) (h4 : Cond.initialized C ∈ BG) : GoodIn (c1 :: BG) (wsV own idx C y (c2 :: BG)) := fun w hw => by
  rcases List.mem_append.mp hw with hw | hw
  · simp only [List.mem_cons, List.not_mem_nil, or_false] at hw
    rcases hw with rfl | rfl | rfl | rfl
    · exact ⟨List.mem_cons_of_mem _ h1, bg_good h1⟩
    · exact ⟨List.mem_cons_of_mem _ h2, bg_good h2⟩
    · exact ⟨List.mem_cons_of_mem _ h3, bg_good h3⟩
    · exact ⟨List.mem_cons_of_mem _ h4, bg_good h4⟩
  · exact bg_in h w hw
theorem bg_S {c1 c2 : Cond} {own : String} {idx : Nat} {y : MethodName} (h : c2 ∈ BG) (h1 : Cond.methodLink own idx y ∈ BG) (h2 : Cond.static y ∈ BG) (h3 : Cond.initialized y.cls ∈ BG) : GoodIn (c1 :: BG) (va_wsS own idx y (c2 :: BG)) := fun w hw => by
  rcases List.mem_append.mp hw with hw | hw
  · simp only [List.mem_cons, List.not_mem_nil, or_false] at hw
    rcases hw with rfl | rfl | rfl
    · exact ⟨List.mem_cons_of_mem _ h1, bg_good h1⟩
    · exact ⟨List.mem_cons_of_mem _ h2, bg_good h2⟩
    · exact ⟨List.mem_cons_of_mem _ h3, bg_good h3⟩
  · exact bg_in h w hw
theorem ws_0 : (Cond.selects "java/lang/Throwable" ({ cls := "java/lang/Throwable", name := "fillInStackTrace", desc := "(I)Ljava/lang/Throwable;" } : Jvm.MethodName) ({ cls := "java/lang/Throwable", name := "fillInStackTrace", desc := "(I)Ljava/lang/Throwable;" } : Jvm.MethodName)) ∈ BG := bg_at 0 (by decide +kernel) (by decide +kernel)
theorem ws_1 : (Cond.selects "LeatherRoom" ({ cls := "LeatherRoom", name := "endWait", desc := "()LLeatherRoom$Shape;" } : Jvm.MethodName) ({ cls := "LeatherRoom", name := "endWait", desc := "()LLeatherRoom$Shape;" } : Jvm.MethodName)) ∈ BG := bg_at 1 (by decide +kernel) (by decide +kernel)
theorem ws_2 : (Cond.selects "LeatherRoom" ({ cls := "LeatherRoom", name := "isKind", desc := "(I)Z" } : Jvm.MethodName) ({ cls := "LeatherRoom", name := "isKind", desc := "(I)Z" } : Jvm.MethodName)) ∈ BG := bg_at 2 (by decide +kernel) (by decide +kernel)
theorem ws_3 : (Cond.selects "LeatherRoom" ({ cls := "LeatherRoom", name := "canLie", desc := "(LLeatherRoom$Kind;III)Z" } : Jvm.MethodName) ({ cls := "LeatherRoom", name := "canLie", desc := "(LLeatherRoom$Kind;III)Z" } : Jvm.MethodName)) ∈ BG := bg_at 3 (by decide +kernel) (by decide +kernel)
theorem ws_4 : (Cond.selects "LeatherRoom" ({ cls := "LeatherRoom", name := "isOffParts", desc := "(LLeatherRoom$Shape;II)Z" } : Jvm.MethodName) ({ cls := "LeatherRoom", name := "isOffParts", desc := "(LLeatherRoom$Shape;II)Z" } : Jvm.MethodName)) ∈ BG := bg_at 4 (by decide +kernel) (by decide +kernel)
theorem ws_5 : (Cond.selects "LeatherRoom" ({ cls := "LeatherRoom", name := "isOffZones", desc := "(LLeatherRoom$Shape;III)Z" } : Jvm.MethodName) ({ cls := "LeatherRoom", name := "isOffZones", desc := "(LLeatherRoom$Shape;III)Z" } : Jvm.MethodName)) ∈ BG := bg_at 5 (by decide +kernel) (by decide +kernel)
theorem ws_6 : (Cond.selects "LeatherRoom" ({ cls := "LeatherRoom", name := "findPlace", desc := "(LLeatherRoom$Kind;)I" } : Jvm.MethodName) ({ cls := "LeatherRoom", name := "findPlace", desc := "(LLeatherRoom$Kind;)I" } : Jvm.MethodName)) ∈ BG := bg_at 6 (by decide +kernel) (by decide +kernel)
theorem ws_7 : (Cond.selects "LeatherRoom" ({ cls := "LeatherRoom", name := "addPart", desc := "(IIII)I" } : Jvm.MethodName) ({ cls := "LeatherRoom", name := "addPart", desc := "(IIII)I" } : Jvm.MethodName)) ∈ BG := bg_at 7 (by decide +kernel) (by decide +kernel)
theorem ws_8 : (Cond.selects "LeatherRoom" ({ cls := "LeatherRoom", name := "isPart", desc := "(I)Z" } : Jvm.MethodName) ({ cls := "LeatherRoom", name := "isPart", desc := "(I)Z" } : Jvm.MethodName)) ∈ BG := bg_at 8 (by decide +kernel) (by decide +kernel)
theorem ws_9 : (Cond.selects "LeatherRoomModel" ({ cls := "LeatherRoomModel", name := "count", desc := "()I" } : Jvm.MethodName) ({ cls := "LeatherRoomModel", name := "count", desc := "()I" } : Jvm.MethodName)) ∈ BG := bg_at 9 (by decide +kernel) (by decide +kernel)
theorem ws_10 : (Cond.selects "LeatherRoomModel" ({ cls := "LeatherRoomModel", name := "isPlain", desc := "(I)Z" } : Jvm.MethodName) ({ cls := "LeatherRoomModel", name := "isPlain", desc := "(I)Z" } : Jvm.MethodName)) ∈ BG := bg_at 10 (by decide +kernel) (by decide +kernel)
theorem ws_11 : (Cond.selects "LeatherRoomModel" ({ cls := "LeatherRoomModel", name := "isOn", desc := "(III)Z" } : Jvm.MethodName) ({ cls := "LeatherRoomModel", name := "isOn", desc := "(III)Z" } : Jvm.MethodName)) ∈ BG := bg_at 11 (by decide +kernel) (by decide +kernel)
theorem ws_12 : (Cond.selects "LeatherRoomModel" ({ cls := "LeatherRoomModel", name := "side", desc := "(III)I" } : Jvm.MethodName) ({ cls := "LeatherRoomModel", name := "side", desc := "(III)I" } : Jvm.MethodName)) ∈ BG := bg_at 12 (by decide +kernel) (by decide +kernel)
theorem ws_13 : (Cond.selects "LeatherRoomModel" ({ cls := "LeatherRoomModel", name := "within", desc := "(III)Z" } : Jvm.MethodName) ({ cls := "LeatherRoomModel", name := "within", desc := "(III)Z" } : Jvm.MethodName)) ∈ BG := bg_at 13 (by decide +kernel) (by decide +kernel)
theorem ws_14 : (Cond.selects "LeatherRoomModel" ({ cls := "LeatherRoomModel", name := "meet", desc := "(III)Z" } : Jvm.MethodName) ({ cls := "LeatherRoomModel", name := "meet", desc := "(III)Z" } : Jvm.MethodName)) ∈ BG := bg_at 14 (by decide +kernel) (by decide +kernel)
theorem ws_15 : (Cond.selects "LeatherRoomModel" ({ cls := "LeatherRoomModel", name := "isRound", desc := "(I)Z" } : Jvm.MethodName) ({ cls := "LeatherRoomModel", name := "isRound", desc := "(I)Z" } : Jvm.MethodName)) ∈ BG := bg_at 15 (by decide +kernel) (by decide +kernel)
theorem ws_16 : (Cond.selects "LeatherRoomModel" ({ cls := "LeatherRoomModel", name := "isKind", desc := "(I)Z" } : Jvm.MethodName) ({ cls := "LeatherRoomModel", name := "isKind", desc := "(I)Z" } : Jvm.MethodName)) ∈ BG := bg_at 16 (by decide +kernel) (by decide +kernel)
theorem ws_17 : (Cond.selects "LeatherRoomModel" ({ cls := "LeatherRoomModel", name := "isPlace", desc := "(III)Z" } : Jvm.MethodName) ({ cls := "LeatherRoomModel", name := "isPlace", desc := "(III)Z" } : Jvm.MethodName)) ∈ BG := bg_at 17 (by decide +kernel) (by decide +kernel)
theorem ws_18 : (Cond.selects "LeatherRoomModel" ({ cls := "LeatherRoomModel", name := "isFit", desc := "(IIII)Z" } : Jvm.MethodName) ({ cls := "LeatherRoomModel", name := "isFit", desc := "(IIII)Z" } : Jvm.MethodName)) ∈ BG := bg_at 18 (by decide +kernel) (by decide +kernel)
theorem ws_19 : (Cond.selects "LeatherRoomModel" ({ cls := "LeatherRoomModel", name := "shape", desc := "(IIII)V" } : Jvm.MethodName) ({ cls := "LeatherRoomModel", name := "shape", desc := "(IIII)V" } : Jvm.MethodName)) ∈ BG := bg_at 19 (by decide +kernel) (by decide +kernel)
theorem ws_20 : (Cond.selects "LeatherRoomModel" ({ cls := "LeatherRoomModel", name := "isInHide", desc := "()Z" } : Jvm.MethodName) ({ cls := "LeatherRoomModel", name := "isInHide", desc := "()Z" } : Jvm.MethodName)) ∈ BG := bg_at 20 (by decide +kernel) (by decide +kernel)
theorem ws_21 : (Cond.selects "LeatherRoomModel" ({ cls := "LeatherRoomModel", name := "overlaps", desc := "()Z" } : Jvm.MethodName) ({ cls := "LeatherRoomModel", name := "overlaps", desc := "()Z" } : Jvm.MethodName)) ∈ BG := bg_at 21 (by decide +kernel) (by decide +kernel)
theorem ws_22 : (Cond.selects "LeatherRoomModel" ({ cls := "LeatherRoomModel", name := "isParted", desc := "(II)Z" } : Jvm.MethodName) ({ cls := "LeatherRoomModel", name := "isParted", desc := "(II)Z" } : Jvm.MethodName)) ∈ BG := bg_at 22 (by decide +kernel) (by decide +kernel)
theorem ws_23 : (Cond.selects "LeatherRoomModel" ({ cls := "LeatherRoomModel", name := "isMiddleInside", desc := "()Z" } : Jvm.MethodName) ({ cls := "LeatherRoomModel", name := "isMiddleInside", desc := "()Z" } : Jvm.MethodName)) ∈ BG := bg_at 23 (by decide +kernel) (by decide +kernel)
theorem ws_24 : (Cond.selects "LeatherRoomModel" ({ cls := "LeatherRoomModel", name := "isOffZones", desc := "(I)Z" } : Jvm.MethodName) ({ cls := "LeatherRoomModel", name := "isOffZones", desc := "(I)Z" } : Jvm.MethodName)) ∈ BG := bg_at 24 (by decide +kernel) (by decide +kernel)
theorem ws_25 : (Cond.selects "LeatherRoomModel" ({ cls := "LeatherRoomModel", name := "isBesideParts", desc := "()Z" } : Jvm.MethodName) ({ cls := "LeatherRoomModel", name := "isBesideParts", desc := "()Z" } : Jvm.MethodName)) ∈ BG := bg_at 25 (by decide +kernel) (by decide +kernel)
theorem ws_26 : (Cond.selects "LeatherRoomModel" ({ cls := "LeatherRoomModel", name := "search", desc := "(I)I" } : Jvm.MethodName) ({ cls := "LeatherRoomModel", name := "search", desc := "(I)I" } : Jvm.MethodName)) ∈ BG := bg_at 26 (by decide +kernel) (by decide +kernel)
theorem ws_27 : (Cond.selects "LeatherRoomModel" ({ cls := "LeatherRoomModel", name := "place", desc := "(IIII)I" } : Jvm.MethodName) ({ cls := "LeatherRoomModel", name := "place", desc := "(IIII)I" } : Jvm.MethodName)) ∈ BG := bg_at 27 (by decide +kernel) (by decide +kernel)
theorem ws_28 : (Cond.selects "LeatherRoomModel" ({ cls := "LeatherRoomModel", name := "isPart", desc := "(I)Z" } : Jvm.MethodName) ({ cls := "LeatherRoomModel", name := "isPart", desc := "(I)Z" } : Jvm.MethodName)) ∈ BG := bg_at 28 (by decide +kernel) (by decide +kernel)
theorem wd_0 : (Cond.initialized "LeatherRoomLaw") ∈ BG := bg_at 29 (by decide +kernel) (by decide +kernel)
theorem wd_1 : (Cond.initialized "LeatherRoom") ∈ BG := bg_at 30 (by decide +kernel) (by decide +kernel)
theorem wd_2 : (Cond.initialized "LeatherRoom$Shape") ∈ BG := bg_at 31 (by decide +kernel) (by decide +kernel)
theorem wd_3 : (Cond.initialized "LeatherRoom$Zone") ∈ BG := bg_at 32 (by decide +kernel) (by decide +kernel)
theorem wd_4 : (Cond.initialized "LeatherRoom$Kind") ∈ BG := bg_at 33 (by decide +kernel) (by decide +kernel)
theorem wd_5 : (Cond.initialized "LeatherRoom$Part") ∈ BG := bg_at 34 (by decide +kernel) (by decide +kernel)
theorem wd_6 : (Cond.initialized "LeatherRoomModel") ∈ BG := bg_at 35 (by decide +kernel) (by decide +kernel)
theorem wd_7 : (Cond.initialized "java/lang/Throwable") ∈ BG := bg_at 36 (by decide +kernel) (by decide +kernel)
theorem wd_8 : (Cond.initialized "java/lang/Exception") ∈ BG := bg_at 37 (by decide +kernel) (by decide +kernel)
theorem wd_9 : (Cond.initialized "java/lang/RuntimeException") ∈ BG := bg_at 38 (by decide +kernel) (by decide +kernel)
theorem wd_10 : (Cond.initialized "java/lang/IllegalArgumentException") ∈ BG := bg_at 39 (by decide +kernel) (by decide +kernel)
theorem wd_11 : (Cond.initialized "java/lang/IllegalStateException") ∈ BG := bg_at 40 (by decide +kernel) (by decide +kernel)
theorem wd_12 : (Cond.initialized "java/lang/Math") ∈ BG := bg_at 41 (by decide +kernel) (by decide +kernel)
theorem wd_13 : (Cond.initialized "java/lang/Integer") ∈ BG := bg_at 42 (by decide +kernel) (by decide +kernel)
theorem wd_14 : (Cond.initialized "java/util/NoSuchElementException") ∈ BG := bg_at 43 (by decide +kernel) (by decide +kernel)
theorem wd_15 : (Cond.initialized "java/lang/UnsupportedOperationException") ∈ BG := bg_at 44 (by decide +kernel) (by decide +kernel)
theorem wd_16 : (Cond.classLink "LeatherRoomLaw" (8 : Nat) "LeatherRoom") ∈ BG := bg_at 45 (by decide +kernel) (by decide +kernel)
theorem wd_17 : (Cond.instantiable "LeatherRoom" (9 : Nat)) ∈ BG := bg_at 46 (by decide +kernel) (by decide +kernel)
theorem wd_18 : (Cond.methodLink "LeatherRoomLaw" (54 : Nat) ({ cls := "LeatherRoom", name := "<init>", desc := "()V" } : Jvm.MethodName)) ∈ BG := bg_at 47 (by decide +kernel) (by decide +kernel)
theorem wd_19 : (Cond.instanceMethod ({ cls := "LeatherRoom", name := "<init>", desc := "()V" } : Jvm.MethodName)) ∈ BG := bg_at 48 (by decide +kernel) (by decide +kernel)
theorem wd_20 : (Cond.code ({ cls := "LeatherRoom", name := "<init>", desc := "()V" } : Jvm.MethodName) prog_1_method_1_code (2 : Nat) (Option.none : Option Jvm.ClassFile.FieldType)) ∈ BG := bg_at 49 (by decide +kernel) (by decide +kernel)
theorem wd_21 : (Cond.methodLink "LeatherRoom" (1 : Nat) ({ cls := "java/lang/Object", name := "<init>", desc := "()V" } : Jvm.MethodName)) ∈ BG := bg_at 50 (by decide +kernel) (by decide +kernel)
theorem wd_22 : (Cond.instanceMethod ({ cls := "java/lang/Object", name := "<init>", desc := "()V" } : Jvm.MethodName)) ∈ BG := bg_at 51 (by decide +kernel) (by decide +kernel)
theorem wd_23 : (Cond.code ({ cls := "java/lang/Object", name := "<init>", desc := "()V" } : Jvm.MethodName) object_method_1_code (1 : Nat) (Option.none : Option Jvm.ClassFile.FieldType)) ∈ BG := bg_at 52 (by decide +kernel) (by decide +kernel)
theorem wd_24 : (Cond.classLink "LeatherRoom" (7 : Nat) "LeatherRoom$Shape") ∈ BG := bg_at 53 (by decide +kernel) (by decide +kernel)
theorem wd_25 : (Cond.instantiable "LeatherRoom$Shape" (7 : Nat)) ∈ BG := bg_at 54 (by decide +kernel) (by decide +kernel)
theorem wd_27 : (Cond.instanceMethod ({ cls := "LeatherRoom$Shape", name := "<init>", desc := "()V" } : Jvm.MethodName)) ∈ BG := bg_at 56 (by decide +kernel) (by decide +kernel)
theorem wd_28 : (Cond.code ({ cls := "LeatherRoom$Shape", name := "<init>", desc := "()V" } : Jvm.MethodName) prog_4_method_1_code (1 : Nat) (Option.none : Option Jvm.ClassFile.FieldType)) ∈ BG := bg_at 57 (by decide +kernel) (by decide +kernel)
theorem wd_29 : (Cond.methodLink "LeatherRoom$Shape" (3 : Nat) ({ cls := "java/lang/Object", name := "<init>", desc := "()V" } : Jvm.MethodName)) ∈ BG := bg_at 58 (by decide +kernel) (by decide +kernel)
theorem wd_30 : (Cond.fieldLink "LeatherRoom$Shape" (9 : Nat) "LeatherRoom$Shape" "x" "[I") ∈ BG := bg_at 59 (by decide +kernel) (by decide +kernel)
theorem wd_31 : (Cond.fieldLink "LeatherRoom$Shape" (15 : Nat) "LeatherRoom$Shape" "y" "[I") ∈ BG := bg_at 60 (by decide +kernel) (by decide +kernel)
theorem wd_32 : (Cond.fieldLink "LeatherRoom$Shape" (18 : Nat) "LeatherRoom$Shape" "size" "I") ∈ BG := bg_at 61 (by decide +kernel) (by decide +kernel)
theorem wd_33 : (Cond.fieldLink "LeatherRoom" (54 : Nat) "LeatherRoom$Shape" "size" "I") ∈ BG := bg_at 62 (by decide +kernel) (by decide +kernel)
theorem wd_34 : (Cond.fieldLink "LeatherRoom$Kind" (25 : Nat) "LeatherRoom$Shape" "lowX" "I") ∈ BG := bg_at 63 (by decide +kernel) (by decide +kernel)
theorem wd_35 : (Cond.fieldLink "LeatherRoom$Shape" (22 : Nat) "LeatherRoom$Shape" "lowX" "I") ∈ BG := bg_at 64 (by decide +kernel) (by decide +kernel)
theorem wd_36 : (Cond.fieldLink "LeatherRoom" (228 : Nat) "LeatherRoom$Shape" "lowX" "I") ∈ BG := bg_at 65 (by decide +kernel) (by decide +kernel)
theorem wd_37 : (Cond.fieldLink "LeatherRoom$Shape" (31 : Nat) "LeatherRoom$Shape" "highX" "I") ∈ BG := bg_at 66 (by decide +kernel) (by decide +kernel)
theorem wd_38 : (Cond.fieldLink "LeatherRoom" (106 : Nat) "LeatherRoom$Shape" "highX" "I") ∈ BG := bg_at 67 (by decide +kernel) (by decide +kernel)
theorem wd_39 : (Cond.fieldLink "LeatherRoom$Kind" (28 : Nat) "LeatherRoom$Shape" "lowY" "I") ∈ BG := bg_at 68 (by decide +kernel) (by decide +kernel)
theorem wd_40 : (Cond.fieldLink "LeatherRoom$Shape" (37 : Nat) "LeatherRoom$Shape" "lowY" "I") ∈ BG := bg_at 69 (by decide +kernel) (by decide +kernel)
theorem wd_41 : (Cond.fieldLink "LeatherRoom" (225 : Nat) "LeatherRoom$Shape" "lowY" "I") ∈ BG := bg_at 70 (by decide +kernel) (by decide +kernel)
theorem wd_42 : (Cond.fieldLink "LeatherRoom$Shape" (40 : Nat) "LeatherRoom$Shape" "highY" "I") ∈ BG := bg_at 71 (by decide +kernel) (by decide +kernel)
theorem wd_43 : (Cond.fieldLink "LeatherRoom" (109 : Nat) "LeatherRoom$Shape" "highY" "I") ∈ BG := bg_at 72 (by decide +kernel) (by decide +kernel)
theorem wd_44 : (Cond.laysFinal "LeatherRoom$Shape" "LeatherRoom$Shape" "x" "[I") ∈ BG := bg_at 73 (by decide +kernel) (by decide +kernel)
theorem wd_46 : (Cond.laysFinal "LeatherRoom$Shape" "LeatherRoom$Shape" "y" "[I") ∈ BG := bg_at 75 (by decide +kernel) (by decide +kernel)
theorem wd_48 : (Cond.lays "LeatherRoom$Shape" "LeatherRoom$Shape" "size" "I") ∈ BG := bg_at 77 (by decide +kernel) (by decide +kernel)
theorem wd_50 : (Cond.lays "LeatherRoom$Shape" "LeatherRoom$Shape" "lowX" "I") ∈ BG := bg_at 79 (by decide +kernel) (by decide +kernel)
theorem wd_52 : (Cond.lays "LeatherRoom$Shape" "LeatherRoom$Shape" "highX" "I") ∈ BG := bg_at 81 (by decide +kernel) (by decide +kernel)
theorem wd_54 : (Cond.lays "LeatherRoom$Shape" "LeatherRoom$Shape" "lowY" "I") ∈ BG := bg_at 83 (by decide +kernel) (by decide +kernel)
theorem wd_56 : (Cond.lays "LeatherRoom$Shape" "LeatherRoom$Shape" "highY" "I") ∈ BG := bg_at 85 (by decide +kernel) (by decide +kernel)
theorem wd_59 : (Cond.arrayClass Jvm.ClassFile.FieldType.int) ∈ BG := bg_at 88 (by decide +kernel) (by decide +kernel)
theorem wd_60 : (Cond.classLink "LeatherRoom" (22 : Nat) "LeatherRoom$Zone") ∈ BG := bg_at 89 (by decide +kernel) (by decide +kernel)
theorem wd_62 : (Cond.classLink "LeatherRoom" (28 : Nat) "LeatherRoom$Kind") ∈ BG := bg_at 91 (by decide +kernel) (by decide +kernel)
theorem wd_64 : (Cond.classLink "LeatherRoom" (34 : Nat) "LeatherRoom$Part") ∈ BG := bg_at 93 (by decide +kernel) (by decide +kernel)
theorem wd_66 : (Cond.instantiable "LeatherRoom$Zone" (2 : Nat)) ∈ BG := bg_at 95 (by decide +kernel) (by decide +kernel)
theorem wd_68 : (Cond.instanceMethod ({ cls := "LeatherRoom$Zone", name := "<init>", desc := "()V" } : Jvm.MethodName)) ∈ BG := bg_at 97 (by decide +kernel) (by decide +kernel)
theorem wd_69 : (Cond.code ({ cls := "LeatherRoom$Zone", name := "<init>", desc := "()V" } : Jvm.MethodName) prog_5_method_1_code (1 : Nat) (Option.none : Option Jvm.ClassFile.FieldType)) ∈ BG := bg_at 98 (by decide +kernel) (by decide +kernel)
theorem wd_70 : (Cond.methodLink "LeatherRoom$Zone" (1 : Nat) ({ cls := "java/lang/Object", name := "<init>", desc := "()V" } : Jvm.MethodName)) ∈ BG := bg_at 99 (by decide +kernel) (by decide +kernel)
theorem wd_71 : (Cond.classLink "LeatherRoom$Zone" (7 : Nat) "LeatherRoom$Shape") ∈ BG := bg_at 100 (by decide +kernel) (by decide +kernel)
theorem wd_73 : (Cond.fieldLink "LeatherRoom$Zone" (10 : Nat) "LeatherRoom$Zone" "shape" "LLeatherRoom$Shape;") ∈ BG := bg_at 102 (by decide +kernel) (by decide +kernel)
theorem wd_74 : (Cond.fieldLink "LeatherRoom" (224 : Nat) "LeatherRoom$Zone" "shape" "LLeatherRoom$Shape;") ∈ BG := bg_at 103 (by decide +kernel) (by decide +kernel)
theorem wd_75 : (Cond.fieldLink "LeatherRoom$Zone" (16 : Nat) "LeatherRoom$Zone" "grade" "I") ∈ BG := bg_at 104 (by decide +kernel) (by decide +kernel)
theorem wd_76 : (Cond.fieldLink "LeatherRoom" (223 : Nat) "LeatherRoom$Zone" "grade" "I") ∈ BG := bg_at 105 (by decide +kernel) (by decide +kernel)
theorem wd_77 : (Cond.laysFinal "LeatherRoom$Zone" "LeatherRoom$Zone" "shape" "LLeatherRoom$Shape;") ∈ BG := bg_at 106 (by decide +kernel) (by decide +kernel)
theorem wd_79 : (Cond.lays "LeatherRoom$Zone" "LeatherRoom$Zone" "grade" "I") ∈ BG := bg_at 108 (by decide +kernel) (by decide +kernel)
theorem wd_82 : (Cond.instantiable "LeatherRoom$Kind" (3 : Nat)) ∈ BG := bg_at 111 (by decide +kernel) (by decide +kernel)
theorem wd_83 : (Cond.methodLink "LeatherRoom" (41 : Nat) ({ cls := "LeatherRoom$Kind", name := "<init>", desc := "()V" } : Jvm.MethodName)) ∈ BG := bg_at 112 (by decide +kernel) (by decide +kernel)
theorem wd_84 : (Cond.instanceMethod ({ cls := "LeatherRoom$Kind", name := "<init>", desc := "()V" } : Jvm.MethodName)) ∈ BG := bg_at 113 (by decide +kernel) (by decide +kernel)
theorem wd_85 : (Cond.code ({ cls := "LeatherRoom$Kind", name := "<init>", desc := "()V" } : Jvm.MethodName) prog_2_method_1_code (2 : Nat) (Option.none : Option Jvm.ClassFile.FieldType)) ∈ BG := bg_at 114 (by decide +kernel) (by decide +kernel)
theorem wd_86 : (Cond.methodLink "LeatherRoom$Kind" (3 : Nat) ({ cls := "java/lang/Object", name := "<init>", desc := "()V" } : Jvm.MethodName)) ∈ BG := bg_at 115 (by decide +kernel) (by decide +kernel)
theorem wd_87 : (Cond.classLink "LeatherRoom$Kind" (9 : Nat) "LeatherRoom$Shape") ∈ BG := bg_at 116 (by decide +kernel) (by decide +kernel)
theorem wd_90 : (Cond.fieldLink "LeatherRoom$Kind" (11 : Nat) "LeatherRoom$Kind" "turned" "[LLeatherRoom$Shape;") ∈ BG := bg_at 119 (by decide +kernel) (by decide +kernel)
theorem wd_91 : (Cond.fieldLink "LeatherRoom" (199 : Nat) "LeatherRoom$Kind" "turned" "[LLeatherRoom$Shape;") ∈ BG := bg_at 120 (by decide +kernel) (by decide +kernel)
theorem wd_92 : (Cond.fieldLink "LeatherRoom$Kind" (18 : Nat) "LeatherRoom$Kind" "grade" "I") ∈ BG := bg_at 121 (by decide +kernel) (by decide +kernel)
theorem wd_93 : (Cond.fieldLink "LeatherRoom" (210 : Nat) "LeatherRoom$Kind" "grade" "I") ∈ BG := bg_at 122 (by decide +kernel) (by decide +kernel)
theorem wd_94 : (Cond.fieldLink "LeatherRoom$Kind" (22 : Nat) "LeatherRoom$Kind" "turns" "I") ∈ BG := bg_at 123 (by decide +kernel) (by decide +kernel)
theorem wd_95 : (Cond.laysFinal "LeatherRoom$Kind" "LeatherRoom$Kind" "turned" "[LLeatherRoom$Shape;") ∈ BG := bg_at 124 (by decide +kernel) (by decide +kernel)
theorem wd_97 : (Cond.lays "LeatherRoom$Kind" "LeatherRoom$Kind" "grade" "I") ∈ BG := bg_at 126 (by decide +kernel) (by decide +kernel)
theorem wd_99 : (Cond.lays "LeatherRoom$Kind" "LeatherRoom$Kind" "turns" "I") ∈ BG := bg_at 128 (by decide +kernel) (by decide +kernel)
theorem wd_102 : (Cond.instantiable "LeatherRoom$Part" (6 : Nat)) ∈ BG := bg_at 131 (by decide +kernel) (by decide +kernel)
theorem wd_104 : (Cond.instanceMethod ({ cls := "LeatherRoom$Part", name := "<init>", desc := "()V" } : Jvm.MethodName)) ∈ BG := bg_at 133 (by decide +kernel) (by decide +kernel)
theorem wd_105 : (Cond.code ({ cls := "LeatherRoom$Part", name := "<init>", desc := "()V" } : Jvm.MethodName) prog_3_method_1_code (1 : Nat) (Option.none : Option Jvm.ClassFile.FieldType)) ∈ BG := bg_at 134 (by decide +kernel) (by decide +kernel)
theorem wd_106 : (Cond.methodLink "LeatherRoom$Part" (1 : Nat) ({ cls := "java/lang/Object", name := "<init>", desc := "()V" } : Jvm.MethodName)) ∈ BG := bg_at 135 (by decide +kernel) (by decide +kernel)
theorem wd_107 : (Cond.classLink "LeatherRoom$Part" (7 : Nat) "LeatherRoom$Shape") ∈ BG := bg_at 136 (by decide +kernel) (by decide +kernel)
theorem wd_109 : (Cond.fieldLink "LeatherRoom$Part" (10 : Nat) "LeatherRoom$Part" "shape" "LLeatherRoom$Shape;") ∈ BG := bg_at 138 (by decide +kernel) (by decide +kernel)
theorem wd_110 : (Cond.fieldLink "LeatherRoom" (190 : Nat) "LeatherRoom$Part" "shape" "LLeatherRoom$Shape;") ∈ BG := bg_at 139 (by decide +kernel) (by decide +kernel)
theorem wd_111 : (Cond.fieldLink "LeatherRoom$Part" (16 : Nat) "LeatherRoom$Part" "lies" "Z") ∈ BG := bg_at 140 (by decide +kernel) (by decide +kernel)
theorem wd_112 : (Cond.fieldLink "LeatherRoom" (162 : Nat) "LeatherRoom$Part" "lies" "Z") ∈ BG := bg_at 141 (by decide +kernel) (by decide +kernel)
theorem wd_113 : (Cond.fieldLink "LeatherRoom$Part" (20 : Nat) "LeatherRoom$Part" "kind" "I") ∈ BG := bg_at 142 (by decide +kernel) (by decide +kernel)
theorem wd_114 : (Cond.fieldLink "LeatherRoom" (166 : Nat) "LeatherRoom$Part" "kind" "I") ∈ BG := bg_at 143 (by decide +kernel) (by decide +kernel)
theorem wd_115 : (Cond.fieldLink "LeatherRoom$Part" (24 : Nat) "LeatherRoom$Part" "x" "I") ∈ BG := bg_at 144 (by decide +kernel) (by decide +kernel)
theorem wd_116 : (Cond.fieldLink "LeatherRoom" (171 : Nat) "LeatherRoom$Part" "x" "I") ∈ BG := bg_at 145 (by decide +kernel) (by decide +kernel)
theorem wd_117 : (Cond.fieldLink "LeatherRoom$Part" (27 : Nat) "LeatherRoom$Part" "y" "I") ∈ BG := bg_at 146 (by decide +kernel) (by decide +kernel)
theorem wd_118 : (Cond.fieldLink "LeatherRoom" (174 : Nat) "LeatherRoom$Part" "y" "I") ∈ BG := bg_at 147 (by decide +kernel) (by decide +kernel)
theorem wd_119 : (Cond.fieldLink "LeatherRoom$Part" (30 : Nat) "LeatherRoom$Part" "turn" "I") ∈ BG := bg_at 148 (by decide +kernel) (by decide +kernel)
theorem wd_120 : (Cond.fieldLink "LeatherRoom" (177 : Nat) "LeatherRoom$Part" "turn" "I") ∈ BG := bg_at 149 (by decide +kernel) (by decide +kernel)
theorem wd_121 : (Cond.laysFinal "LeatherRoom$Part" "LeatherRoom$Part" "shape" "LLeatherRoom$Shape;") ∈ BG := bg_at 150 (by decide +kernel) (by decide +kernel)
theorem wd_123 : (Cond.lays "LeatherRoom$Part" "LeatherRoom$Part" "lies" "Z") ∈ BG := bg_at 152 (by decide +kernel) (by decide +kernel)
theorem wd_125 : (Cond.lays "LeatherRoom$Part" "LeatherRoom$Part" "kind" "I") ∈ BG := bg_at 154 (by decide +kernel) (by decide +kernel)
theorem wd_127 : (Cond.lays "LeatherRoom$Part" "LeatherRoom$Part" "x" "I") ∈ BG := bg_at 156 (by decide +kernel) (by decide +kernel)
theorem wd_129 : (Cond.lays "LeatherRoom$Part" "LeatherRoom$Part" "y" "I") ∈ BG := bg_at 158 (by decide +kernel) (by decide +kernel)
theorem wd_131 : (Cond.lays "LeatherRoom$Part" "LeatherRoom$Part" "turn" "I") ∈ BG := bg_at 160 (by decide +kernel) (by decide +kernel)
theorem wd_134 : (Cond.fieldLink "LeatherRoom" (10 : Nat) "LeatherRoom" "waiting" "LLeatherRoom$Shape;") ∈ BG := bg_at 163 (by decide +kernel) (by decide +kernel)
theorem wd_135 : (Cond.fieldLink "LeatherRoom" (16 : Nat) "LeatherRoom" "offered" "LLeatherRoom$Shape;") ∈ BG := bg_at 164 (by decide +kernel) (by decide +kernel)
theorem wd_136 : (Cond.fieldLink "LeatherRoom" (19 : Nat) "LeatherRoom" "outline" "LLeatherRoom$Shape;") ∈ BG := bg_at 165 (by decide +kernel) (by decide +kernel)
theorem wd_137 : (Cond.fieldLink "LeatherRoom" (24 : Nat) "LeatherRoom" "zones" "[LLeatherRoom$Zone;") ∈ BG := bg_at 166 (by decide +kernel) (by decide +kernel)
theorem wd_138 : (Cond.fieldLink "LeatherRoom" (30 : Nat) "LeatherRoom" "kinds" "[LLeatherRoom$Kind;") ∈ BG := bg_at 167 (by decide +kernel) (by decide +kernel)
theorem wd_139 : (Cond.fieldLink "LeatherRoom" (36 : Nat) "LeatherRoom" "lots" "[LLeatherRoom$Part;") ∈ BG := bg_at 168 (by decide +kernel) (by decide +kernel)
theorem wd_140 : (Cond.fieldLink "LeatherRoom" (93 : Nat) "LeatherRoom" "zoneCount" "I") ∈ BG := bg_at 169 (by decide +kernel) (by decide +kernel)
theorem wd_141 : (Cond.fieldLink "LeatherRoom" (114 : Nat) "LeatherRoom" "kindCount" "I") ∈ BG := bg_at 170 (by decide +kernel) (by decide +kernel)
theorem wd_142 : (Cond.fieldLink "LeatherRoom" (67 : Nat) "LeatherRoom" "partCount" "I") ∈ BG := bg_at 171 (by decide +kernel) (by decide +kernel)
theorem wd_143 : (Cond.laysFinal "LeatherRoom" "LeatherRoom" "waiting" "LLeatherRoom$Shape;") ∈ BG := bg_at 172 (by decide +kernel) (by decide +kernel)
theorem wd_145 : (Cond.laysFinal "LeatherRoom" "LeatherRoom" "offered" "LLeatherRoom$Shape;") ∈ BG := bg_at 174 (by decide +kernel) (by decide +kernel)
theorem wd_147 : (Cond.laysFinal "LeatherRoom" "LeatherRoom" "outline" "LLeatherRoom$Shape;") ∈ BG := bg_at 176 (by decide +kernel) (by decide +kernel)
theorem wd_149 : (Cond.laysFinal "LeatherRoom" "LeatherRoom" "zones" "[LLeatherRoom$Zone;") ∈ BG := bg_at 178 (by decide +kernel) (by decide +kernel)
theorem wd_151 : (Cond.laysFinal "LeatherRoom" "LeatherRoom" "kinds" "[LLeatherRoom$Kind;") ∈ BG := bg_at 180 (by decide +kernel) (by decide +kernel)
theorem wd_153 : (Cond.laysFinal "LeatherRoom" "LeatherRoom" "lots" "[LLeatherRoom$Part;") ∈ BG := bg_at 182 (by decide +kernel) (by decide +kernel)
theorem wd_155 : (Cond.lays "LeatherRoom" "LeatherRoom" "zoneCount" "I") ∈ BG := bg_at 184 (by decide +kernel) (by decide +kernel)
theorem wd_157 : (Cond.lays "LeatherRoom" "LeatherRoom" "kindCount" "I") ∈ BG := bg_at 186 (by decide +kernel) (by decide +kernel)
theorem wd_159 : (Cond.lays "LeatherRoom" "LeatherRoom" "partCount" "I") ∈ BG := bg_at 188 (by decide +kernel) (by decide +kernel)
theorem wd_162 : (Cond.methodLink "LeatherRoomLaw" (98 : Nat) ({ cls := "LeatherRoom", name := "strip", desc := "()I" } : Jvm.MethodName)) ∈ BG := bg_at 191 (by decide +kernel) (by decide +kernel)
theorem wd_163 : (Cond.instanceMethod ({ cls := "LeatherRoom", name := "strip", desc := "()I" } : Jvm.MethodName)) ∈ BG := bg_at 192 (by decide +kernel) (by decide +kernel)
theorem wd_164 : (Cond.selects "LeatherRoom" ({ cls := "LeatherRoom", name := "strip", desc := "()I" } : Jvm.MethodName) ({ cls := "LeatherRoom", name := "strip", desc := "()I" } : Jvm.MethodName)) ∈ BG := bg_at 193 (by decide +kernel) (by decide +kernel)
theorem wd_165 : (Cond.code ({ cls := "LeatherRoom", name := "strip", desc := "()I" } : Jvm.MethodName) prog_1_method_12_code (3 : Nat) (Option.some Jvm.ClassFile.FieldType.int)) ∈ BG := bg_at 194 (by decide +kernel) (by decide +kernel)
theorem wd_166 : (Cond.methodLink "LeatherRoomLaw" (105 : Nat) ({ cls := "LeatherRoom", name := "parts", desc := "()I" } : Jvm.MethodName)) ∈ BG := bg_at 195 (by decide +kernel) (by decide +kernel)
theorem wd_167 : (Cond.instanceMethod ({ cls := "LeatherRoom", name := "parts", desc := "()I" } : Jvm.MethodName)) ∈ BG := bg_at 196 (by decide +kernel) (by decide +kernel)
theorem wd_168 : (Cond.selects "LeatherRoom" ({ cls := "LeatherRoom", name := "parts", desc := "()I" } : Jvm.MethodName) ({ cls := "LeatherRoom", name := "parts", desc := "()I" } : Jvm.MethodName)) ∈ BG := bg_at 197 (by decide +kernel) (by decide +kernel)
theorem wd_169 : (Cond.code ({ cls := "LeatherRoom", name := "parts", desc := "()I" } : Jvm.MethodName) prog_1_method_14_code (1 : Nat) (Option.some Jvm.ClassFile.FieldType.int)) ∈ BG := bg_at 198 (by decide +kernel) (by decide +kernel)
theorem wd_170 : (Cond.methodLink "LeatherRoomLaw" (109 : Nat) ({ cls := "LeatherRoom", name := "free", desc := "()I" } : Jvm.MethodName)) ∈ BG := bg_at 199 (by decide +kernel) (by decide +kernel)
theorem wd_171 : (Cond.instanceMethod ({ cls := "LeatherRoom", name := "free", desc := "()I" } : Jvm.MethodName)) ∈ BG := bg_at 200 (by decide +kernel) (by decide +kernel)
theorem wd_172 : (Cond.selects "LeatherRoom" ({ cls := "LeatherRoom", name := "free", desc := "()I" } : Jvm.MethodName) ({ cls := "LeatherRoom", name := "free", desc := "()I" } : Jvm.MethodName)) ∈ BG := bg_at 201 (by decide +kernel) (by decide +kernel)
theorem wd_173 : (Cond.code ({ cls := "LeatherRoom", name := "free", desc := "()I" } : Jvm.MethodName) prog_1_method_15_code (3 : Nat) (Option.some Jvm.ClassFile.FieldType.int)) ∈ BG := bg_at 202 (by decide +kernel) (by decide +kernel)
theorem wd_174 : (Cond.methodLink "LeatherRoom" (180 : Nat) ({ cls := "LeatherRoom$Shape", name := "doubleArea", desc := "()I" } : Jvm.MethodName)) ∈ BG := bg_at 203 (by decide +kernel) (by decide +kernel)
theorem wd_175 : (Cond.instanceMethod ({ cls := "LeatherRoom$Shape", name := "doubleArea", desc := "()I" } : Jvm.MethodName)) ∈ BG := bg_at 204 (by decide +kernel) (by decide +kernel)
theorem wd_176 : (Cond.selects "LeatherRoom$Shape" ({ cls := "LeatherRoom$Shape", name := "doubleArea", desc := "()I" } : Jvm.MethodName) ({ cls := "LeatherRoom$Shape", name := "doubleArea", desc := "()I" } : Jvm.MethodName)) ∈ BG := bg_at 205 (by decide +kernel) (by decide +kernel)
theorem wd_177 : (Cond.code ({ cls := "LeatherRoom$Shape", name := "doubleArea", desc := "()I" } : Jvm.MethodName) prog_4_method_8_code (4 : Nat) (Option.some Jvm.ClassFile.FieldType.int)) ∈ BG := bg_at 206 (by decide +kernel) (by decide +kernel)
theorem wd_178 : (Cond.methodLink "LeatherRoom$Shape" (58 : Nat) ({ cls := "LeatherRoom$Shape", name := "next", desc := "(I)I" } : Jvm.MethodName)) ∈ BG := bg_at 207 (by decide +kernel) (by decide +kernel)
theorem wd_179 : (Cond.instanceMethod ({ cls := "LeatherRoom$Shape", name := "next", desc := "(I)I" } : Jvm.MethodName)) ∈ BG := bg_at 208 (by decide +kernel) (by decide +kernel)
theorem wd_180 : (Cond.selects "LeatherRoom$Shape" ({ cls := "LeatherRoom$Shape", name := "next", desc := "(I)I" } : Jvm.MethodName) ({ cls := "LeatherRoom$Shape", name := "next", desc := "(I)I" } : Jvm.MethodName)) ∈ BG := bg_at 209 (by decide +kernel) (by decide +kernel)
theorem wd_181 : (Cond.code ({ cls := "LeatherRoom$Shape", name := "next", desc := "(I)I" } : Jvm.MethodName) prog_4_method_7_code (2 : Nat) (Option.some Jvm.ClassFile.FieldType.int)) ∈ BG := bg_at 210 (by decide +kernel) (by decide +kernel)
theorem wd_182 : (Cond.methodLink "LeatherRoom" (184 : Nat) ({ cls := "java/lang/Math", name := "abs", desc := "(I)I" } : Jvm.MethodName)) ∈ BG := bg_at 211 (by decide +kernel) (by decide +kernel)
theorem wd_183 : (Cond.static ({ cls := "java/lang/Math", name := "abs", desc := "(I)I" } : Jvm.MethodName)) ∈ BG := bg_at 212 (by decide +kernel) (by decide +kernel)
theorem wd_184 : (Cond.code ({ cls := "java/lang/Math", name := "abs", desc := "(I)I" } : Jvm.MethodName) prog_12_method_59_code (1 : Nat) (Option.some Jvm.ClassFile.FieldType.int)) ∈ BG := bg_at 213 (by decide +kernel) (by decide +kernel)
theorem wd_185 : (Cond.methodLink "LeatherRoomLaw" (58 : Nat) ({ cls := "LeatherRoomLaw", name := "corner", desc := "(LLeatherRoom;II[J)I" } : Jvm.MethodName)) ∈ BG := bg_at 214 (by decide +kernel) (by decide +kernel)
theorem wd_186 : (Cond.static ({ cls := "LeatherRoomLaw", name := "corner", desc := "(LLeatherRoom;II[J)I" } : Jvm.MethodName)) ∈ BG := bg_at 215 (by decide +kernel) (by decide +kernel)
theorem wd_187 : (Cond.codeWith ({ cls := "LeatherRoomLaw", name := "corner", desc := "(LLeatherRoom;II[J)I" } : Jvm.MethodName) method_3_code (5 : Nat) (Option.some Jvm.ClassFile.FieldType.int) [((0 : Nat), (10 : Nat), (13 : Nat), (13 : Nat)), ((0 : Nat), (10 : Nat), (17 : Nat), (15 : Nat))]) ∈ BG := bg_at 216 (by decide +kernel) (by decide +kernel)
theorem wd_188 : (Cond.classLink "LeatherRoomLaw" (13 : Nat) "java/lang/IllegalArgumentException") ∈ BG := bg_at 217 (by decide +kernel) (by decide +kernel)
theorem wd_189 : (Cond.classLink "LeatherRoomLaw" (15 : Nat) "java/lang/IllegalStateException") ∈ BG := bg_at 218 (by decide +kernel) (by decide +kernel)
theorem wd_190 : (Cond.methodLink "LeatherRoomLaw" (7 : Nat) ({ cls := "LeatherRoom", name := "corner", desc := "(II)I" } : Jvm.MethodName)) ∈ BG := bg_at 219 (by decide +kernel) (by decide +kernel)
theorem wd_191 : (Cond.instanceMethod ({ cls := "LeatherRoom", name := "corner", desc := "(II)I" } : Jvm.MethodName)) ∈ BG := bg_at 220 (by decide +kernel) (by decide +kernel)
theorem wd_192 : (Cond.selects "LeatherRoom" ({ cls := "LeatherRoom", name := "corner", desc := "(II)I" } : Jvm.MethodName) ({ cls := "LeatherRoom", name := "corner", desc := "(II)I" } : Jvm.MethodName)) ∈ BG := bg_at 221 (by decide +kernel) (by decide +kernel)
theorem wd_193 : (Cond.code ({ cls := "LeatherRoom", name := "corner", desc := "(II)I" } : Jvm.MethodName) prog_1_method_2_code (3 : Nat) (Option.some Jvm.ClassFile.FieldType.int)) ∈ BG := bg_at 222 (by decide +kernel) (by decide +kernel)
theorem wd_194 : (Cond.methodLink "LeatherRoom" (43 : Nat) ({ cls := "LeatherRoom", name := "isPoint", desc := "(II)Z" } : Jvm.MethodName)) ∈ BG := bg_at 223 (by decide +kernel) (by decide +kernel)
theorem wd_195 : (Cond.static ({ cls := "LeatherRoom", name := "isPoint", desc := "(II)Z" } : Jvm.MethodName)) ∈ BG := bg_at 224 (by decide +kernel) (by decide +kernel)
theorem wd_196 : (Cond.code ({ cls := "LeatherRoom", name := "isPoint", desc := "(II)Z" } : Jvm.MethodName) prog_1_method_16_code (2 : Nat) (Option.some Jvm.ClassFile.FieldType.boolean)) ∈ BG := bg_at 225 (by decide +kernel) (by decide +kernel)
theorem wd_197 : (Cond.classLink "LeatherRoom" (47 : Nat) "java/lang/IllegalArgumentException") ∈ BG := bg_at 226 (by decide +kernel) (by decide +kernel)
theorem wd_198 : (Cond.instantiable "java/lang/IllegalArgumentException" (6 : Nat)) ∈ BG := bg_at 227 (by decide +kernel) (by decide +kernel)
theorem wd_206 : (Cond.selects "java/lang/IllegalArgumentException" ({ cls := "java/lang/Throwable", name := "fillInStackTrace", desc := "(I)Ljava/lang/Throwable;" } : Jvm.MethodName) ({ cls := "java/lang/Throwable", name := "fillInStackTrace", desc := "(I)Ljava/lang/Throwable;" } : Jvm.MethodName)) ∈ BG := bg_at 235 (by decide +kernel) (by decide +kernel)
theorem wd_207 : (Cond.selects "java/lang/IllegalArgumentException" ({ cls := "java/lang/Throwable", name := "fillInStackTrace", desc := "()Ljava/lang/Throwable;" } : Jvm.MethodName) ({ cls := "java/lang/Throwable", name := "fillInStackTrace", desc := "()Ljava/lang/Throwable;" } : Jvm.MethodName)) ∈ BG := bg_at 236 (by decide +kernel) (by decide +kernel)
theorem wd_208 : (Cond.lays "java/lang/IllegalArgumentException" "java/lang/Throwable" "cause" "Ljava/lang/Throwable;") ∈ BG := bg_at 237 (by decide +kernel) (by decide +kernel)
theorem wd_209 : (Cond.lays "java/lang/Throwable" "java/lang/Throwable" "cause" "Ljava/lang/Throwable;") ∈ BG := bg_at 238 (by decide +kernel) (by decide +kernel)
theorem wd_210 : (Cond.lays "java/lang/IllegalArgumentException" "java/lang/Throwable" "stackTrace" "[Ljava/lang/StackTraceElement;") ∈ BG := bg_at 239 (by decide +kernel) (by decide +kernel)
theorem wd_211 : (Cond.lays "java/lang/Throwable" "java/lang/Throwable" "stackTrace" "[Ljava/lang/StackTraceElement;") ∈ BG := bg_at 240 (by decide +kernel) (by decide +kernel)
theorem wd_212 : (Cond.lays "java/lang/IllegalArgumentException" "java/lang/Throwable" "suppressedExceptions" "Ljava/util/List;") ∈ BG := bg_at 241 (by decide +kernel) (by decide +kernel)
theorem wd_213 : (Cond.lays "java/lang/Throwable" "java/lang/Throwable" "suppressedExceptions" "Ljava/util/List;") ∈ BG := bg_at 242 (by decide +kernel) (by decide +kernel)
theorem wd_214 : (Cond.lays "java/lang/IllegalArgumentException" "java/lang/Throwable" "detailMessage" "Ljava/lang/String;") ∈ BG := bg_at 243 (by decide +kernel) (by decide +kernel)
theorem wd_215 : (Cond.lays "java/lang/Throwable" "java/lang/Throwable" "detailMessage" "Ljava/lang/String;") ∈ BG := bg_at 244 (by decide +kernel) (by decide +kernel)
theorem wd_216 : (Cond.lays "java/lang/IllegalArgumentException" "java/lang/Throwable" "backtrace" "Ljava/lang/Object;") ∈ BG := bg_at 245 (by decide +kernel) (by decide +kernel)
theorem wd_217 : (Cond.lays "java/lang/Throwable" "java/lang/Throwable" "backtrace" "Ljava/lang/Object;") ∈ BG := bg_at 246 (by decide +kernel) (by decide +kernel)
theorem wd_218 : (Cond.fieldLink "java/lang/Throwable" (198 : Nat) "java/lang/Throwable" "backtrace" "Ljava/lang/Object;") ∈ BG := bg_at 247 (by decide +kernel) (by decide +kernel)
theorem wd_220 : (Cond.instanceMethod ({ cls := "java/lang/Throwable", name := "<init>", desc := "()V" } : Jvm.MethodName)) ∈ BG := bg_at 249 (by decide +kernel) (by decide +kernel)
theorem wd_221 : (Cond.code ({ cls := "java/lang/Throwable", name := "<init>", desc := "()V" } : Jvm.MethodName) prog_15_method_1_code (1 : Nat) (Option.none : Option Jvm.ClassFile.FieldType)) ∈ BG := bg_at 250 (by decide +kernel) (by decide +kernel)
theorem wd_222 : (Cond.methodLink "java/lang/Throwable" (1 : Nat) ({ cls := "java/lang/Object", name := "<init>", desc := "()V" } : Jvm.MethodName)) ∈ BG := bg_at 251 (by decide +kernel) (by decide +kernel)
theorem wd_223 : (Cond.fieldLink "java/lang/Throwable" (13 : Nat) "java/lang/Throwable" "UNASSIGNED_STACK" "[Ljava/lang/StackTraceElement;") ∈ BG := bg_at 252 (by decide +kernel) (by decide +kernel)
theorem wd_225 : (Cond.fieldLink "java/lang/Throwable" (20 : Nat) "java/lang/Throwable" "SUPPRESSED_SENTINEL" "Ljava/util/List;") ∈ BG := bg_at 254 (by decide +kernel) (by decide +kernel)
theorem wd_227 : (Cond.methodLink "java/lang/Throwable" (27 : Nat) ({ cls := "java/lang/Throwable", name := "fillInStackTrace", desc := "()Ljava/lang/Throwable;" } : Jvm.MethodName)) ∈ BG := bg_at 256 (by decide +kernel) (by decide +kernel)
theorem wd_228 : (Cond.instanceMethod ({ cls := "java/lang/Throwable", name := "fillInStackTrace", desc := "()Ljava/lang/Throwable;" } : Jvm.MethodName)) ∈ BG := bg_at 257 (by decide +kernel) (by decide +kernel)
theorem wd_230 : (Cond.selects "java/lang/IllegalStateException" ({ cls := "java/lang/Throwable", name := "fillInStackTrace", desc := "()Ljava/lang/Throwable;" } : Jvm.MethodName) ({ cls := "java/lang/Throwable", name := "fillInStackTrace", desc := "()Ljava/lang/Throwable;" } : Jvm.MethodName)) ∈ BG := bg_at 259 (by decide +kernel) (by decide +kernel)
theorem wd_231 : (Cond.selects "java/lang/UnsupportedOperationException" ({ cls := "java/lang/Throwable", name := "fillInStackTrace", desc := "()Ljava/lang/Throwable;" } : Jvm.MethodName) ({ cls := "java/lang/Throwable", name := "fillInStackTrace", desc := "()Ljava/lang/Throwable;" } : Jvm.MethodName)) ∈ BG := bg_at 260 (by decide +kernel) (by decide +kernel)
theorem wd_232 : (Cond.selects "java/util/NoSuchElementException" ({ cls := "java/lang/Throwable", name := "fillInStackTrace", desc := "()Ljava/lang/Throwable;" } : Jvm.MethodName) ({ cls := "java/lang/Throwable", name := "fillInStackTrace", desc := "()Ljava/lang/Throwable;" } : Jvm.MethodName)) ∈ BG := bg_at 261 (by decide +kernel) (by decide +kernel)
theorem wd_233 : (Cond.codeSync ({ cls := "java/lang/Throwable", name := "fillInStackTrace", desc := "()Ljava/lang/Throwable;" } : Jvm.MethodName) prog_15_method_18_code (1 : Nat) (Option.some (Jvm.ClassFile.FieldType.object "java/lang/Throwable"))) ∈ BG := bg_at 262 (by decide +kernel) (by decide +kernel)
theorem wd_234 : (Cond.methodLink "java/lang/Throwable" (202 : Nat) ({ cls := "java/lang/Throwable", name := "fillInStackTrace", desc := "(I)Ljava/lang/Throwable;" } : Jvm.MethodName)) ∈ BG := bg_at 263 (by decide +kernel) (by decide +kernel)
theorem wd_236 : (Cond.instanceMethod ({ cls := "java/lang/Throwable", name := "fillInStackTrace", desc := "(I)Ljava/lang/Throwable;" } : Jvm.MethodName)) ∈ BG := bg_at 265 (by decide +kernel) (by decide +kernel)
theorem wd_237 : (Cond.instantiable "java/lang/Throwable" (6 : Nat)) ∈ BG := bg_at 266 (by decide +kernel) (by decide +kernel)
theorem wd_238 : (Cond.native ({ cls := "java/lang/Throwable", name := "fillInStackTrace", desc := "(I)Ljava/lang/Throwable;" } : Jvm.MethodName)) ∈ BG := bg_at 267 (by decide +kernel) (by decide +kernel)
theorem wd_240 : (Cond.methodLink "LeatherRoom" (51 : Nat) ({ cls := "java/lang/IllegalArgumentException", name := "<init>", desc := "(Ljava/lang/String;)V" } : Jvm.MethodName)) ∈ BG := bg_at 269 (by decide +kernel) (by decide +kernel)
theorem wd_241 : (Cond.instanceMethod ({ cls := "java/lang/IllegalArgumentException", name := "<init>", desc := "(Ljava/lang/String;)V" } : Jvm.MethodName)) ∈ BG := bg_at 270 (by decide +kernel) (by decide +kernel)
theorem wd_242 : (Cond.code ({ cls := "java/lang/IllegalArgumentException", name := "<init>", desc := "(Ljava/lang/String;)V" } : Jvm.MethodName) prog_9_method_2_code (2 : Nat) (Option.none : Option Jvm.ClassFile.FieldType)) ∈ BG := bg_at 271 (by decide +kernel) (by decide +kernel)
theorem wd_243 : (Cond.methodLink "java/lang/IllegalArgumentException" (7 : Nat) ({ cls := "java/lang/RuntimeException", name := "<init>", desc := "(Ljava/lang/String;)V" } : Jvm.MethodName)) ∈ BG := bg_at 272 (by decide +kernel) (by decide +kernel)
theorem wd_244 : (Cond.instanceMethod ({ cls := "java/lang/RuntimeException", name := "<init>", desc := "(Ljava/lang/String;)V" } : Jvm.MethodName)) ∈ BG := bg_at 273 (by decide +kernel) (by decide +kernel)
theorem wd_245 : (Cond.code ({ cls := "java/lang/RuntimeException", name := "<init>", desc := "(Ljava/lang/String;)V" } : Jvm.MethodName) prog_13_method_2_code (2 : Nat) (Option.none : Option Jvm.ClassFile.FieldType)) ∈ BG := bg_at 274 (by decide +kernel) (by decide +kernel)
theorem wd_246 : (Cond.methodLink "java/lang/RuntimeException" (7 : Nat) ({ cls := "java/lang/Exception", name := "<init>", desc := "(Ljava/lang/String;)V" } : Jvm.MethodName)) ∈ BG := bg_at 275 (by decide +kernel) (by decide +kernel)
theorem wd_247 : (Cond.instanceMethod ({ cls := "java/lang/Exception", name := "<init>", desc := "(Ljava/lang/String;)V" } : Jvm.MethodName)) ∈ BG := bg_at 276 (by decide +kernel) (by decide +kernel)
theorem wd_248 : (Cond.code ({ cls := "java/lang/Exception", name := "<init>", desc := "(Ljava/lang/String;)V" } : Jvm.MethodName) prog_8_method_2_code (2 : Nat) (Option.none : Option Jvm.ClassFile.FieldType)) ∈ BG := bg_at 277 (by decide +kernel) (by decide +kernel)
theorem wd_249 : (Cond.methodLink "java/lang/Exception" (7 : Nat) ({ cls := "java/lang/Throwable", name := "<init>", desc := "(Ljava/lang/String;)V" } : Jvm.MethodName)) ∈ BG := bg_at 278 (by decide +kernel) (by decide +kernel)
theorem wd_250 : (Cond.instanceMethod ({ cls := "java/lang/Throwable", name := "<init>", desc := "(Ljava/lang/String;)V" } : Jvm.MethodName)) ∈ BG := bg_at 279 (by decide +kernel) (by decide +kernel)
theorem wd_251 : (Cond.code ({ cls := "java/lang/Throwable", name := "<init>", desc := "(Ljava/lang/String;)V" } : Jvm.MethodName) prog_15_method_2_code (2 : Nat) (Option.none : Option Jvm.ClassFile.FieldType)) ∈ BG := bg_at 280 (by decide +kernel) (by decide +kernel)
theorem wd_253 : (Cond.fieldLink "java/lang/Throwable" (31 : Nat) "java/lang/Throwable" "detailMessage" "Ljava/lang/String;") ∈ BG := bg_at 282 (by decide +kernel) (by decide +kernel)
theorem wd_254 : (Cond.fieldLink "java/lang/Throwable" (7 : Nat) "java/lang/Throwable" "cause" "Ljava/lang/Throwable;") ∈ BG := bg_at 283 (by decide +kernel) (by decide +kernel)
theorem wd_255 : (Cond.fieldLink "java/lang/Throwable" (17 : Nat) "java/lang/Throwable" "stackTrace" "[Ljava/lang/StackTraceElement;") ∈ BG := bg_at 284 (by decide +kernel) (by decide +kernel)
theorem wd_256 : (Cond.fieldLink "java/lang/Throwable" (24 : Nat) "java/lang/Throwable" "suppressedExceptions" "Ljava/util/List;") ∈ BG := bg_at 285 (by decide +kernel) (by decide +kernel)
theorem wd_261 : (Cond.lays "java/lang/IllegalArgumentException" "java/lang/Throwable" "depth" "I") ∈ BG := bg_at 290 (by decide +kernel) (by decide +kernel)
theorem wd_265 : (Cond.arrayClass Jvm.ClassFile.FieldType.byte) ∈ BG := bg_at 294 (by decide +kernel) (by decide +kernel)
theorem wd_266 : (Cond.classLink "LeatherRoom" (58 : Nat) "java/lang/IllegalStateException") ∈ BG := bg_at 295 (by decide +kernel) (by decide +kernel)
theorem wd_267 : (Cond.instantiable "java/lang/IllegalStateException" (6 : Nat)) ∈ BG := bg_at 296 (by decide +kernel) (by decide +kernel)
theorem wd_269 : (Cond.selects "java/lang/IllegalStateException" ({ cls := "java/lang/Throwable", name := "fillInStackTrace", desc := "(I)Ljava/lang/Throwable;" } : Jvm.MethodName) ({ cls := "java/lang/Throwable", name := "fillInStackTrace", desc := "(I)Ljava/lang/Throwable;" } : Jvm.MethodName)) ∈ BG := bg_at 298 (by decide +kernel) (by decide +kernel)
theorem wd_270 : (Cond.lays "java/lang/IllegalStateException" "java/lang/Throwable" "cause" "Ljava/lang/Throwable;") ∈ BG := bg_at 299 (by decide +kernel) (by decide +kernel)
theorem wd_271 : (Cond.lays "java/lang/IllegalStateException" "java/lang/Throwable" "stackTrace" "[Ljava/lang/StackTraceElement;") ∈ BG := bg_at 300 (by decide +kernel) (by decide +kernel)
theorem wd_272 : (Cond.lays "java/lang/IllegalStateException" "java/lang/Throwable" "suppressedExceptions" "Ljava/util/List;") ∈ BG := bg_at 301 (by decide +kernel) (by decide +kernel)
theorem wd_273 : (Cond.lays "java/lang/IllegalStateException" "java/lang/Throwable" "detailMessage" "Ljava/lang/String;") ∈ BG := bg_at 302 (by decide +kernel) (by decide +kernel)
theorem wd_274 : (Cond.lays "java/lang/IllegalStateException" "java/lang/Throwable" "backtrace" "Ljava/lang/Object;") ∈ BG := bg_at 303 (by decide +kernel) (by decide +kernel)
theorem wd_276 : (Cond.methodLink "LeatherRoom" (62 : Nat) ({ cls := "java/lang/IllegalStateException", name := "<init>", desc := "(Ljava/lang/String;)V" } : Jvm.MethodName)) ∈ BG := bg_at 305 (by decide +kernel) (by decide +kernel)
theorem wd_277 : (Cond.instanceMethod ({ cls := "java/lang/IllegalStateException", name := "<init>", desc := "(Ljava/lang/String;)V" } : Jvm.MethodName)) ∈ BG := bg_at 306 (by decide +kernel) (by decide +kernel)
theorem wd_278 : (Cond.code ({ cls := "java/lang/IllegalStateException", name := "<init>", desc := "(Ljava/lang/String;)V" } : Jvm.MethodName) prog_10_method_2_code (2 : Nat) (Option.none : Option Jvm.ClassFile.FieldType)) ∈ BG := bg_at 307 (by decide +kernel) (by decide +kernel)
theorem wd_279 : (Cond.methodLink "java/lang/IllegalStateException" (7 : Nat) ({ cls := "java/lang/RuntimeException", name := "<init>", desc := "(Ljava/lang/String;)V" } : Jvm.MethodName)) ∈ BG := bg_at 308 (by decide +kernel) (by decide +kernel)
theorem wd_280 : (Cond.lays "java/lang/IllegalStateException" "java/lang/Throwable" "depth" "I") ∈ BG := bg_at 309 (by decide +kernel) (by decide +kernel)
theorem wd_282 : (Cond.methodLink "LeatherRoom" (63 : Nat) ({ cls := "LeatherRoom$Shape", name := "add", desc := "(II)V" } : Jvm.MethodName)) ∈ BG := bg_at 311 (by decide +kernel) (by decide +kernel)
theorem wd_283 : (Cond.instanceMethod ({ cls := "LeatherRoom$Shape", name := "add", desc := "(II)V" } : Jvm.MethodName)) ∈ BG := bg_at 312 (by decide +kernel) (by decide +kernel)
theorem wd_284 : (Cond.selects "LeatherRoom$Shape" ({ cls := "LeatherRoom$Shape", name := "add", desc := "(II)V" } : Jvm.MethodName) ({ cls := "LeatherRoom$Shape", name := "add", desc := "(II)V" } : Jvm.MethodName)) ∈ BG := bg_at 313 (by decide +kernel) (by decide +kernel)
theorem wd_285 : (Cond.code ({ cls := "LeatherRoom$Shape", name := "add", desc := "(II)V" } : Jvm.MethodName) prog_4_method_3_code (3 : Nat) (Option.none : Option Jvm.ClassFile.FieldType)) ∈ BG := bg_at 314 (by decide +kernel) (by decide +kernel)
theorem wd_286 : (Cond.methodLink "LeatherRoom$Shape" (25 : Nat) ({ cls := "java/lang/Math", name := "min", desc := "(II)I" } : Jvm.MethodName)) ∈ BG := bg_at 315 (by decide +kernel) (by decide +kernel)
theorem wd_287 : (Cond.static ({ cls := "java/lang/Math", name := "min", desc := "(II)I" } : Jvm.MethodName)) ∈ BG := bg_at 316 (by decide +kernel) (by decide +kernel)
theorem wd_288 : (Cond.code ({ cls := "java/lang/Math", name := "min", desc := "(II)I" } : Jvm.MethodName) prog_12_method_69_code (2 : Nat) (Option.some Jvm.ClassFile.FieldType.int)) ∈ BG := bg_at 317 (by decide +kernel) (by decide +kernel)
theorem wd_289 : (Cond.methodLink "LeatherRoom$Shape" (34 : Nat) ({ cls := "java/lang/Math", name := "max", desc := "(II)I" } : Jvm.MethodName)) ∈ BG := bg_at 318 (by decide +kernel) (by decide +kernel)
theorem wd_290 : (Cond.static ({ cls := "java/lang/Math", name := "max", desc := "(II)I" } : Jvm.MethodName)) ∈ BG := bg_at 319 (by decide +kernel) (by decide +kernel)
theorem wd_291 : (Cond.code ({ cls := "java/lang/Math", name := "max", desc := "(II)I" } : Jvm.MethodName) prog_12_method_65_code (2 : Nat) (Option.some Jvm.ClassFile.FieldType.int)) ∈ BG := bg_at 320 (by decide +kernel) (by decide +kernel)
theorem wd_292 : (Cond.methodLink "LeatherRoomLaw" (68 : Nat) ({ cls := "LeatherRoomLaw", name := "hide", desc := "(LLeatherRoom;)I" } : Jvm.MethodName)) ∈ BG := bg_at 321 (by decide +kernel) (by decide +kernel)
theorem wd_293 : (Cond.static ({ cls := "LeatherRoomLaw", name := "hide", desc := "(LLeatherRoom;)I" } : Jvm.MethodName)) ∈ BG := bg_at 322 (by decide +kernel) (by decide +kernel)
theorem wd_294 : (Cond.codeWith ({ cls := "LeatherRoomLaw", name := "hide", desc := "(LLeatherRoom;)I" } : Jvm.MethodName) method_4_code (2 : Nat) (Option.some Jvm.ClassFile.FieldType.int) [((0 : Nat), (4 : Nat), (7 : Nat), (15 : Nat)), ((0 : Nat), (4 : Nat), (10 : Nat), (13 : Nat))]) ∈ BG := bg_at 323 (by decide +kernel) (by decide +kernel)
theorem wd_295 : (Cond.methodLink "LeatherRoomLaw" (17 : Nat) ({ cls := "LeatherRoom", name := "hide", desc := "()V" } : Jvm.MethodName)) ∈ BG := bg_at 324 (by decide +kernel) (by decide +kernel)
theorem wd_296 : (Cond.instanceMethod ({ cls := "LeatherRoom", name := "hide", desc := "()V" } : Jvm.MethodName)) ∈ BG := bg_at 325 (by decide +kernel) (by decide +kernel)
theorem wd_297 : (Cond.selects "LeatherRoom" ({ cls := "LeatherRoom", name := "hide", desc := "()V" } : Jvm.MethodName) ({ cls := "LeatherRoom", name := "hide", desc := "()V" } : Jvm.MethodName)) ∈ BG := bg_at 326 (by decide +kernel) (by decide +kernel)
theorem wd_298 : (Cond.code ({ cls := "LeatherRoom", name := "hide", desc := "()V" } : Jvm.MethodName) prog_1_method_3_code (2 : Nat) (Option.none : Option Jvm.ClassFile.FieldType)) ∈ BG := bg_at 327 (by decide +kernel) (by decide +kernel)
theorem wd_300 : (Cond.methodLink "LeatherRoom" (72 : Nat) ({ cls := "LeatherRoom", name := "endWait", desc := "()LLeatherRoom$Shape;" } : Jvm.MethodName)) ∈ BG := bg_at 329 (by decide +kernel) (by decide +kernel)
theorem wd_302 : (Cond.instanceMethod ({ cls := "LeatherRoom", name := "endWait", desc := "()LLeatherRoom$Shape;" } : Jvm.MethodName)) ∈ BG := bg_at 331 (by decide +kernel) (by decide +kernel)
theorem wd_303 : (Cond.code ({ cls := "LeatherRoom", name := "endWait", desc := "()LLeatherRoom$Shape;" } : Jvm.MethodName) prog_1_method_20_code (1 : Nat) (Option.some (Jvm.ClassFile.FieldType.object "LeatherRoom$Shape"))) ∈ BG := bg_at 332 (by decide +kernel) (by decide +kernel)
theorem wd_304 : (Cond.methodLink "LeatherRoom" (82 : Nat) ({ cls := "LeatherRoom$Shape", name := "copy", desc := "(LLeatherRoom$Shape;II)V" } : Jvm.MethodName)) ∈ BG := bg_at 333 (by decide +kernel) (by decide +kernel)
theorem wd_305 : (Cond.instanceMethod ({ cls := "LeatherRoom$Shape", name := "copy", desc := "(LLeatherRoom$Shape;II)V" } : Jvm.MethodName)) ∈ BG := bg_at 334 (by decide +kernel) (by decide +kernel)
theorem wd_306 : (Cond.selects "LeatherRoom$Shape" ({ cls := "LeatherRoom$Shape", name := "copy", desc := "(LLeatherRoom$Shape;II)V" } : Jvm.MethodName) ({ cls := "LeatherRoom$Shape", name := "copy", desc := "(LLeatherRoom$Shape;II)V" } : Jvm.MethodName)) ∈ BG := bg_at 335 (by decide +kernel) (by decide +kernel)
theorem wd_307 : (Cond.code ({ cls := "LeatherRoom$Shape", name := "copy", desc := "(LLeatherRoom$Shape;II)V" } : Jvm.MethodName) prog_4_method_4_code (5 : Nat) (Option.none : Option Jvm.ClassFile.FieldType)) ∈ BG := bg_at 336 (by decide +kernel) (by decide +kernel)
theorem wd_308 : (Cond.methodLink "LeatherRoom$Shape" (43 : Nat) ({ cls := "LeatherRoom$Shape", name := "empty", desc := "()V" } : Jvm.MethodName)) ∈ BG := bg_at 337 (by decide +kernel) (by decide +kernel)
theorem wd_309 : (Cond.instanceMethod ({ cls := "LeatherRoom$Shape", name := "empty", desc := "()V" } : Jvm.MethodName)) ∈ BG := bg_at 338 (by decide +kernel) (by decide +kernel)
theorem wd_310 : (Cond.selects "LeatherRoom$Shape" ({ cls := "LeatherRoom$Shape", name := "empty", desc := "()V" } : Jvm.MethodName) ({ cls := "LeatherRoom$Shape", name := "empty", desc := "()V" } : Jvm.MethodName)) ∈ BG := bg_at 339 (by decide +kernel) (by decide +kernel)
theorem wd_311 : (Cond.code ({ cls := "LeatherRoom$Shape", name := "empty", desc := "()V" } : Jvm.MethodName) prog_4_method_2_code (1 : Nat) (Option.none : Option Jvm.ClassFile.FieldType)) ∈ BG := bg_at 340 (by decide +kernel) (by decide +kernel)
theorem wd_312 : (Cond.methodLink "LeatherRoom$Shape" (46 : Nat) ({ cls := "LeatherRoom$Shape", name := "add", desc := "(II)V" } : Jvm.MethodName)) ∈ BG := bg_at 341 (by decide +kernel) (by decide +kernel)
theorem wd_313 : (Cond.methodLink "LeatherRoom" (193 : Nat) ({ cls := "LeatherRoom$Shape", name := "empty", desc := "()V" } : Jvm.MethodName)) ∈ BG := bg_at 342 (by decide +kernel) (by decide +kernel)
theorem wd_314 : (Cond.methodLink "LeatherRoom" (76 : Nat) ({ cls := "LeatherRoom$Shape", name := "isPlain", desc := "()Z" } : Jvm.MethodName)) ∈ BG := bg_at 343 (by decide +kernel) (by decide +kernel)
theorem wd_315 : (Cond.instanceMethod ({ cls := "LeatherRoom$Shape", name := "isPlain", desc := "()Z" } : Jvm.MethodName)) ∈ BG := bg_at 344 (by decide +kernel) (by decide +kernel)
theorem wd_316 : (Cond.selects "LeatherRoom$Shape" ({ cls := "LeatherRoom$Shape", name := "isPlain", desc := "()Z" } : Jvm.MethodName) ({ cls := "LeatherRoom$Shape", name := "isPlain", desc := "()Z" } : Jvm.MethodName)) ∈ BG := bg_at 345 (by decide +kernel) (by decide +kernel)
theorem wd_317 : (Cond.code ({ cls := "LeatherRoom$Shape", name := "isPlain", desc := "()Z" } : Jvm.MethodName) prog_4_method_11_code (4 : Nat) (Option.some Jvm.ClassFile.FieldType.boolean)) ∈ BG := bg_at 346 (by decide +kernel) (by decide +kernel)
theorem wd_318 : (Cond.methodLink "LeatherRoom$Shape" (66 : Nat) ({ cls := "LeatherRoom$Shape", name := "foldsBack", desc := "(I)Z" } : Jvm.MethodName)) ∈ BG := bg_at 347 (by decide +kernel) (by decide +kernel)
theorem wd_319 : (Cond.instanceMethod ({ cls := "LeatherRoom$Shape", name := "foldsBack", desc := "(I)Z" } : Jvm.MethodName)) ∈ BG := bg_at 348 (by decide +kernel) (by decide +kernel)
theorem wd_320 : (Cond.selects "LeatherRoom$Shape" ({ cls := "LeatherRoom$Shape", name := "foldsBack", desc := "(I)Z" } : Jvm.MethodName) ({ cls := "LeatherRoom$Shape", name := "foldsBack", desc := "(I)Z" } : Jvm.MethodName)) ∈ BG := bg_at 349 (by decide +kernel) (by decide +kernel)
theorem wd_321 : (Cond.code ({ cls := "LeatherRoom$Shape", name := "foldsBack", desc := "(I)Z" } : Jvm.MethodName) prog_4_method_12_code (5 : Nat) (Option.some Jvm.ClassFile.FieldType.boolean)) ∈ BG := bg_at 350 (by decide +kernel) (by decide +kernel)
theorem wd_322 : (Cond.methodLink "LeatherRoom$Shape" (62 : Nat) ({ cls := "LeatherRoom$Shape", name := "beside", desc := "(III)I" } : Jvm.MethodName)) ∈ BG := bg_at 351 (by decide +kernel) (by decide +kernel)
theorem wd_323 : (Cond.instanceMethod ({ cls := "LeatherRoom$Shape", name := "beside", desc := "(III)I" } : Jvm.MethodName)) ∈ BG := bg_at 352 (by decide +kernel) (by decide +kernel)
theorem wd_324 : (Cond.selects "LeatherRoom$Shape" ({ cls := "LeatherRoom$Shape", name := "beside", desc := "(III)I" } : Jvm.MethodName) ({ cls := "LeatherRoom$Shape", name := "beside", desc := "(III)I" } : Jvm.MethodName)) ∈ BG := bg_at 353 (by decide +kernel) (by decide +kernel)
theorem wd_325 : (Cond.code ({ cls := "LeatherRoom$Shape", name := "beside", desc := "(III)I" } : Jvm.MethodName) prog_4_method_9_code (5 : Nat) (Option.some Jvm.ClassFile.FieldType.int)) ∈ BG := bg_at 354 (by decide +kernel) (by decide +kernel)
theorem wd_326 : (Cond.methodLink "LeatherRoom$Shape" (70 : Nat) ({ cls := "LeatherRoom$Shape", name := "sidesMeet", desc := "(II)Z" } : Jvm.MethodName)) ∈ BG := bg_at 355 (by decide +kernel) (by decide +kernel)
theorem wd_327 : (Cond.instanceMethod ({ cls := "LeatherRoom$Shape", name := "sidesMeet", desc := "(II)Z" } : Jvm.MethodName)) ∈ BG := bg_at 356 (by decide +kernel) (by decide +kernel)
theorem wd_328 : (Cond.selects "LeatherRoom$Shape" ({ cls := "LeatherRoom$Shape", name := "sidesMeet", desc := "(II)Z" } : Jvm.MethodName) ({ cls := "LeatherRoom$Shape", name := "sidesMeet", desc := "(II)Z" } : Jvm.MethodName)) ∈ BG := bg_at 357 (by decide +kernel) (by decide +kernel)
theorem wd_329 : (Cond.code ({ cls := "LeatherRoom$Shape", name := "sidesMeet", desc := "(II)Z" } : Jvm.MethodName) prog_4_method_13_code (3 : Nat) (Option.some Jvm.ClassFile.FieldType.boolean)) ∈ BG := bg_at 358 (by decide +kernel) (by decide +kernel)
theorem wd_330 : (Cond.methodLink "LeatherRoom$Shape" (74 : Nat) ({ cls := "LeatherRoom$Shape", name := "rangesMeet", desc := "(IIII)Z" } : Jvm.MethodName)) ∈ BG := bg_at 359 (by decide +kernel) (by decide +kernel)
theorem wd_331 : (Cond.static ({ cls := "LeatherRoom$Shape", name := "rangesMeet", desc := "(IIII)Z" } : Jvm.MethodName)) ∈ BG := bg_at 360 (by decide +kernel) (by decide +kernel)
theorem wd_332 : (Cond.code ({ cls := "LeatherRoom$Shape", name := "rangesMeet", desc := "(IIII)Z" } : Jvm.MethodName) prog_4_method_15_code (4 : Nat) (Option.some Jvm.ClassFile.FieldType.boolean)) ∈ BG := bg_at 361 (by decide +kernel) (by decide +kernel)
theorem wd_333 : (Cond.methodLink "LeatherRoom$Shape" (78 : Nat) ({ cls := "LeatherRoom$Shape", name := "lineMeets", desc := "(II)Z" } : Jvm.MethodName)) ∈ BG := bg_at 362 (by decide +kernel) (by decide +kernel)
theorem wd_334 : (Cond.instanceMethod ({ cls := "LeatherRoom$Shape", name := "lineMeets", desc := "(II)Z" } : Jvm.MethodName)) ∈ BG := bg_at 363 (by decide +kernel) (by decide +kernel)
theorem wd_335 : (Cond.selects "LeatherRoom$Shape" ({ cls := "LeatherRoom$Shape", name := "lineMeets", desc := "(II)Z" } : Jvm.MethodName) ({ cls := "LeatherRoom$Shape", name := "lineMeets", desc := "(II)Z" } : Jvm.MethodName)) ∈ BG := bg_at 364 (by decide +kernel) (by decide +kernel)
theorem wd_336 : (Cond.code ({ cls := "LeatherRoom$Shape", name := "lineMeets", desc := "(II)Z" } : Jvm.MethodName) prog_4_method_14_code (6 : Nat) (Option.some Jvm.ClassFile.FieldType.boolean)) ∈ BG := bg_at 365 (by decide +kernel) (by decide +kernel)
theorem wd_337 : (Cond.methodLink "LeatherRoom$Shape" (81 : Nat) ({ cls := "java/lang/Integer", name := "signum", desc := "(I)I" } : Jvm.MethodName)) ∈ BG := bg_at 366 (by decide +kernel) (by decide +kernel)
theorem wd_338 : (Cond.static ({ cls := "java/lang/Integer", name := "signum", desc := "(I)I" } : Jvm.MethodName)) ∈ BG := bg_at 367 (by decide +kernel) (by decide +kernel)
theorem wd_339 : (Cond.code ({ cls := "java/lang/Integer", name := "signum", desc := "(I)I" } : Jvm.MethodName) prog_11_method_56_code (1 : Nat) (Option.some Jvm.ClassFile.FieldType.int)) ∈ BG := bg_at 368 (by decide +kernel) (by decide +kernel)
theorem wd_341 : (Cond.methodLink "LeatherRoomLaw" (72 : Nat) ({ cls := "LeatherRoomLaw", name := "zone", desc := "(LLeatherRoom;I[J)I" } : Jvm.MethodName)) ∈ BG := bg_at 370 (by decide +kernel) (by decide +kernel)
theorem wd_342 : (Cond.static ({ cls := "LeatherRoomLaw", name := "zone", desc := "(LLeatherRoom;I[J)I" } : Jvm.MethodName)) ∈ BG := bg_at 371 (by decide +kernel) (by decide +kernel)
theorem wd_343 : (Cond.codeWith ({ cls := "LeatherRoomLaw", name := "zone", desc := "(LLeatherRoom;I[J)I" } : Jvm.MethodName) method_5_code (4 : Nat) (Option.some Jvm.ClassFile.FieldType.int) [((0 : Nat), (9 : Nat), (12 : Nat), (13 : Nat)), ((0 : Nat), (9 : Nat), (15 : Nat), (15 : Nat))]) ∈ BG := bg_at 372 (by decide +kernel) (by decide +kernel)
theorem wd_344 : (Cond.methodLink "LeatherRoomLaw" (20 : Nat) ({ cls := "LeatherRoom", name := "zone", desc := "(I)I" } : Jvm.MethodName)) ∈ BG := bg_at 373 (by decide +kernel) (by decide +kernel)
theorem wd_345 : (Cond.instanceMethod ({ cls := "LeatherRoom", name := "zone", desc := "(I)I" } : Jvm.MethodName)) ∈ BG := bg_at 374 (by decide +kernel) (by decide +kernel)
theorem wd_346 : (Cond.selects "LeatherRoom" ({ cls := "LeatherRoom", name := "zone", desc := "(I)I" } : Jvm.MethodName) ({ cls := "LeatherRoom", name := "zone", desc := "(I)I" } : Jvm.MethodName)) ∈ BG := bg_at 375 (by decide +kernel) (by decide +kernel)
theorem wd_347 : (Cond.code ({ cls := "LeatherRoom", name := "zone", desc := "(I)I" } : Jvm.MethodName) prog_1_method_4_code (3 : Nat) (Option.some Jvm.ClassFile.FieldType.int)) ∈ BG := bg_at 376 (by decide +kernel) (by decide +kernel)
theorem wd_349 : (Cond.methodLink "LeatherRoom" (88 : Nat) ({ cls := "LeatherRoom$Shape", name := "isRound", desc := "()Z" } : Jvm.MethodName)) ∈ BG := bg_at 378 (by decide +kernel) (by decide +kernel)
theorem wd_350 : (Cond.instanceMethod ({ cls := "LeatherRoom$Shape", name := "isRound", desc := "()Z" } : Jvm.MethodName)) ∈ BG := bg_at 379 (by decide +kernel) (by decide +kernel)
theorem wd_351 : (Cond.selects "LeatherRoom$Shape" ({ cls := "LeatherRoom$Shape", name := "isRound", desc := "()Z" } : Jvm.MethodName) ({ cls := "LeatherRoom$Shape", name := "isRound", desc := "()Z" } : Jvm.MethodName)) ∈ BG := bg_at 380 (by decide +kernel) (by decide +kernel)
theorem wd_352 : (Cond.code ({ cls := "LeatherRoom$Shape", name := "isRound", desc := "()Z" } : Jvm.MethodName) prog_4_method_10_code (5 : Nat) (Option.some Jvm.ClassFile.FieldType.boolean)) ∈ BG := bg_at 381 (by decide +kernel) (by decide +kernel)
theorem wd_355 : (Cond.methodLink "LeatherRoom" (98 : Nat) ({ cls := "LeatherRoom$Zone", name := "become", desc := "(ILLeatherRoom$Shape;)V" } : Jvm.MethodName)) ∈ BG := bg_at 384 (by decide +kernel) (by decide +kernel)
theorem wd_356 : (Cond.instanceMethod ({ cls := "LeatherRoom$Zone", name := "become", desc := "(ILLeatherRoom$Shape;)V" } : Jvm.MethodName)) ∈ BG := bg_at 385 (by decide +kernel) (by decide +kernel)
theorem wd_357 : (Cond.selects "LeatherRoom$Zone" ({ cls := "LeatherRoom$Zone", name := "become", desc := "(ILLeatherRoom$Shape;)V" } : Jvm.MethodName) ({ cls := "LeatherRoom$Zone", name := "become", desc := "(ILLeatherRoom$Shape;)V" } : Jvm.MethodName)) ∈ BG := bg_at 386 (by decide +kernel) (by decide +kernel)
theorem wd_358 : (Cond.code ({ cls := "LeatherRoom$Zone", name := "become", desc := "(ILLeatherRoom$Shape;)V" } : Jvm.MethodName) prog_5_method_2_code (3 : Nat) (Option.none : Option Jvm.ClassFile.FieldType)) ∈ BG := bg_at 387 (by decide +kernel) (by decide +kernel)
theorem wd_359 : (Cond.methodLink "LeatherRoom$Zone" (20 : Nat) ({ cls := "LeatherRoom$Shape", name := "copyLeftward", desc := "(LLeatherRoom$Shape;II)V" } : Jvm.MethodName)) ∈ BG := bg_at 388 (by decide +kernel) (by decide +kernel)
theorem wd_360 : (Cond.instanceMethod ({ cls := "LeatherRoom$Shape", name := "copyLeftward", desc := "(LLeatherRoom$Shape;II)V" } : Jvm.MethodName)) ∈ BG := bg_at 389 (by decide +kernel) (by decide +kernel)
theorem wd_361 : (Cond.selects "LeatherRoom$Shape" ({ cls := "LeatherRoom$Shape", name := "copyLeftward", desc := "(LLeatherRoom$Shape;II)V" } : Jvm.MethodName) ({ cls := "LeatherRoom$Shape", name := "copyLeftward", desc := "(LLeatherRoom$Shape;II)V" } : Jvm.MethodName)) ∈ BG := bg_at 390 (by decide +kernel) (by decide +kernel)
theorem wd_362 : (Cond.code ({ cls := "LeatherRoom$Shape", name := "copyLeftward", desc := "(LLeatherRoom$Shape;II)V" } : Jvm.MethodName) prog_4_method_5_code (5 : Nat) (Option.none : Option Jvm.ClassFile.FieldType)) ∈ BG := bg_at 391 (by decide +kernel) (by decide +kernel)
theorem wd_363 : (Cond.methodLink "LeatherRoom$Shape" (50 : Nat) ({ cls := "LeatherRoom$Shape", name := "doubleArea", desc := "()I" } : Jvm.MethodName)) ∈ BG := bg_at 392 (by decide +kernel) (by decide +kernel)
theorem wd_364 : (Cond.methodLink "LeatherRoom$Shape" (54 : Nat) ({ cls := "LeatherRoom$Shape", name := "copy", desc := "(LLeatherRoom$Shape;II)V" } : Jvm.MethodName)) ∈ BG := bg_at 393 (by decide +kernel) (by decide +kernel)
theorem wd_365 : (Cond.methodLink "LeatherRoomLaw" (76 : Nat) ({ cls := "LeatherRoomLaw", name := "clear", desc := "(LLeatherRoom;)I" } : Jvm.MethodName)) ∈ BG := bg_at 394 (by decide +kernel) (by decide +kernel)
theorem wd_366 : (Cond.static ({ cls := "LeatherRoomLaw", name := "clear", desc := "(LLeatherRoom;)I" } : Jvm.MethodName)) ∈ BG := bg_at 395 (by decide +kernel) (by decide +kernel)
theorem wd_367 : (Cond.codeWith ({ cls := "LeatherRoomLaw", name := "clear", desc := "(LLeatherRoom;)I" } : Jvm.MethodName) method_6_code (2 : Nat) (Option.some Jvm.ClassFile.FieldType.int) [((0 : Nat), (4 : Nat), (7 : Nat), (15 : Nat))]) ∈ BG := bg_at 396 (by decide +kernel) (by decide +kernel)
theorem wd_368 : (Cond.methodLink "LeatherRoomLaw" (24 : Nat) ({ cls := "LeatherRoom", name := "clear", desc := "()V" } : Jvm.MethodName)) ∈ BG := bg_at 397 (by decide +kernel) (by decide +kernel)
theorem wd_369 : (Cond.instanceMethod ({ cls := "LeatherRoom", name := "clear", desc := "()V" } : Jvm.MethodName)) ∈ BG := bg_at 398 (by decide +kernel) (by decide +kernel)
theorem wd_370 : (Cond.selects "LeatherRoom" ({ cls := "LeatherRoom", name := "clear", desc := "()V" } : Jvm.MethodName) ({ cls := "LeatherRoom", name := "clear", desc := "()V" } : Jvm.MethodName)) ∈ BG := bg_at 399 (by decide +kernel) (by decide +kernel)
theorem wd_371 : (Cond.code ({ cls := "LeatherRoom", name := "clear", desc := "()V" } : Jvm.MethodName) prog_1_method_5_code (1 : Nat) (Option.none : Option Jvm.ClassFile.FieldType)) ∈ BG := bg_at 400 (by decide +kernel) (by decide +kernel)
theorem wd_372 : (Cond.methodLink "LeatherRoomLaw" (79 : Nat) ({ cls := "LeatherRoomLaw", name := "kind", desc := "(LLeatherRoom;II[J)I" } : Jvm.MethodName)) ∈ BG := bg_at 401 (by decide +kernel) (by decide +kernel)
theorem wd_373 : (Cond.static ({ cls := "LeatherRoomLaw", name := "kind", desc := "(LLeatherRoom;II[J)I" } : Jvm.MethodName)) ∈ BG := bg_at 402 (by decide +kernel) (by decide +kernel)
theorem wd_374 : (Cond.codeWith ({ cls := "LeatherRoomLaw", name := "kind", desc := "(LLeatherRoom;II[J)I" } : Jvm.MethodName) method_7_code (5 : Nat) (Option.some Jvm.ClassFile.FieldType.int) [((0 : Nat), (10 : Nat), (13 : Nat), (13 : Nat)), ((0 : Nat), (10 : Nat), (17 : Nat), (15 : Nat))]) ∈ BG := bg_at 403 (by decide +kernel) (by decide +kernel)
theorem wd_375 : (Cond.methodLink "LeatherRoomLaw" (27 : Nat) ({ cls := "LeatherRoom", name := "kind", desc := "(II)I" } : Jvm.MethodName)) ∈ BG := bg_at 404 (by decide +kernel) (by decide +kernel)
theorem wd_376 : (Cond.instanceMethod ({ cls := "LeatherRoom", name := "kind", desc := "(II)I" } : Jvm.MethodName)) ∈ BG := bg_at 405 (by decide +kernel) (by decide +kernel)
theorem wd_377 : (Cond.selects "LeatherRoom" ({ cls := "LeatherRoom", name := "kind", desc := "(II)I" } : Jvm.MethodName) ({ cls := "LeatherRoom", name := "kind", desc := "(II)I" } : Jvm.MethodName)) ∈ BG := bg_at 406 (by decide +kernel) (by decide +kernel)
theorem wd_378 : (Cond.code ({ cls := "LeatherRoom", name := "kind", desc := "(II)I" } : Jvm.MethodName) prog_1_method_6_code (4 : Nat) (Option.some Jvm.ClassFile.FieldType.int)) ∈ BG := bg_at 407 (by decide +kernel) (by decide +kernel)
theorem wd_383 : (Cond.methodLink "LeatherRoom" (119 : Nat) ({ cls := "LeatherRoom$Kind", name := "become", desc := "(IILLeatherRoom$Shape;)V" } : Jvm.MethodName)) ∈ BG := bg_at 412 (by decide +kernel) (by decide +kernel)
theorem wd_384 : (Cond.instanceMethod ({ cls := "LeatherRoom$Kind", name := "become", desc := "(IILLeatherRoom$Shape;)V" } : Jvm.MethodName)) ∈ BG := bg_at 413 (by decide +kernel) (by decide +kernel)
theorem wd_385 : (Cond.selects "LeatherRoom$Kind" ({ cls := "LeatherRoom$Kind", name := "become", desc := "(IILLeatherRoom$Shape;)V" } : Jvm.MethodName) ({ cls := "LeatherRoom$Kind", name := "become", desc := "(IILLeatherRoom$Shape;)V" } : Jvm.MethodName)) ∈ BG := bg_at 414 (by decide +kernel) (by decide +kernel)
theorem wd_386 : (Cond.code ({ cls := "LeatherRoom$Kind", name := "become", desc := "(IILLeatherRoom$Shape;)V" } : Jvm.MethodName) prog_2_method_2_code (5 : Nat) (Option.none : Option Jvm.ClassFile.FieldType)) ∈ BG := bg_at 415 (by decide +kernel) (by decide +kernel)
theorem wd_387 : (Cond.methodLink "LeatherRoom$Kind" (31 : Nat) ({ cls := "LeatherRoom$Shape", name := "copyLeftward", desc := "(LLeatherRoom$Shape;II)V" } : Jvm.MethodName)) ∈ BG := bg_at 416 (by decide +kernel) (by decide +kernel)
theorem wd_388 : (Cond.methodLink "LeatherRoom$Kind" (35 : Nat) ({ cls := "LeatherRoom$Shape", name := "copyTurned", desc := "(LLeatherRoom$Shape;)V" } : Jvm.MethodName)) ∈ BG := bg_at 417 (by decide +kernel) (by decide +kernel)
theorem wd_389 : (Cond.instanceMethod ({ cls := "LeatherRoom$Shape", name := "copyTurned", desc := "(LLeatherRoom$Shape;)V" } : Jvm.MethodName)) ∈ BG := bg_at 418 (by decide +kernel) (by decide +kernel)
theorem wd_390 : (Cond.selects "LeatherRoom$Shape" ({ cls := "LeatherRoom$Shape", name := "copyTurned", desc := "(LLeatherRoom$Shape;)V" } : Jvm.MethodName) ({ cls := "LeatherRoom$Shape", name := "copyTurned", desc := "(LLeatherRoom$Shape;)V" } : Jvm.MethodName)) ∈ BG := bg_at 419 (by decide +kernel) (by decide +kernel)
theorem wd_391 : (Cond.code ({ cls := "LeatherRoom$Shape", name := "copyTurned", desc := "(LLeatherRoom$Shape;)V" } : Jvm.MethodName) prog_4_method_6_code (3 : Nat) (Option.none : Option Jvm.ClassFile.FieldType)) ∈ BG := bg_at 420 (by decide +kernel) (by decide +kernel)
theorem wd_392 : (Cond.methodLink "LeatherRoomLaw" (82 : Nat) ({ cls := "LeatherRoomLaw", name := "fits", desc := "(LLeatherRoom;IIII[J)I" } : Jvm.MethodName)) ∈ BG := bg_at 421 (by decide +kernel) (by decide +kernel)
theorem wd_393 : (Cond.static ({ cls := "LeatherRoomLaw", name := "fits", desc := "(LLeatherRoom;IIII[J)I" } : Jvm.MethodName)) ∈ BG := bg_at 422 (by decide +kernel) (by decide +kernel)
theorem wd_394 : (Cond.codeWith ({ cls := "LeatherRoomLaw", name := "fits", desc := "(LLeatherRoom;IIII[J)I" } : Jvm.MethodName) method_8_code (7 : Nat) (Option.some Jvm.ClassFile.FieldType.int) [((0 : Nat), (21 : Nat), (24 : Nat), (13 : Nat))]) ∈ BG := bg_at 423 (by decide +kernel) (by decide +kernel)
theorem wd_395 : (Cond.methodLink "LeatherRoomLaw" (30 : Nat) ({ cls := "LeatherRoom", name := "fits", desc := "(IIII)Z" } : Jvm.MethodName)) ∈ BG := bg_at 424 (by decide +kernel) (by decide +kernel)
theorem wd_396 : (Cond.instanceMethod ({ cls := "LeatherRoom", name := "fits", desc := "(IIII)Z" } : Jvm.MethodName)) ∈ BG := bg_at 425 (by decide +kernel) (by decide +kernel)
theorem wd_397 : (Cond.selects "LeatherRoom" ({ cls := "LeatherRoom", name := "fits", desc := "(IIII)Z" } : Jvm.MethodName) ({ cls := "LeatherRoom", name := "fits", desc := "(IIII)Z" } : Jvm.MethodName)) ∈ BG := bg_at 426 (by decide +kernel) (by decide +kernel)
theorem wd_398 : (Cond.code ({ cls := "LeatherRoom", name := "fits", desc := "(IIII)Z" } : Jvm.MethodName) prog_1_method_7_code (5 : Nat) (Option.some Jvm.ClassFile.FieldType.boolean)) ∈ BG := bg_at 427 (by decide +kernel) (by decide +kernel)
theorem wd_399 : (Cond.methodLink "LeatherRoom" (122 : Nat) ({ cls := "LeatherRoom", name := "isKind", desc := "(I)Z" } : Jvm.MethodName)) ∈ BG := bg_at 428 (by decide +kernel) (by decide +kernel)
theorem wd_401 : (Cond.instanceMethod ({ cls := "LeatherRoom", name := "isKind", desc := "(I)Z" } : Jvm.MethodName)) ∈ BG := bg_at 430 (by decide +kernel) (by decide +kernel)
theorem wd_402 : (Cond.code ({ cls := "LeatherRoom", name := "isKind", desc := "(I)Z" } : Jvm.MethodName) prog_1_method_18_code (2 : Nat) (Option.some Jvm.ClassFile.FieldType.boolean)) ∈ BG := bg_at 431 (by decide +kernel) (by decide +kernel)
theorem wd_403 : (Cond.methodLink "LeatherRoom" (126 : Nat) ({ cls := "LeatherRoom", name := "isTurn", desc := "(I)Z" } : Jvm.MethodName)) ∈ BG := bg_at 432 (by decide +kernel) (by decide +kernel)
theorem wd_404 : (Cond.static ({ cls := "LeatherRoom", name := "isTurn", desc := "(I)Z" } : Jvm.MethodName)) ∈ BG := bg_at 433 (by decide +kernel) (by decide +kernel)
theorem wd_405 : (Cond.code ({ cls := "LeatherRoom", name := "isTurn", desc := "(I)Z" } : Jvm.MethodName) prog_1_method_17_code (1 : Nat) (Option.some Jvm.ClassFile.FieldType.boolean)) ∈ BG := bg_at 434 (by decide +kernel) (by decide +kernel)
theorem wd_407 : (Cond.methodLink "LeatherRoom" (131 : Nat) ({ cls := "LeatherRoom", name := "canLie", desc := "(LLeatherRoom$Kind;III)Z" } : Jvm.MethodName)) ∈ BG := bg_at 436 (by decide +kernel) (by decide +kernel)
theorem wd_409 : (Cond.instanceMethod ({ cls := "LeatherRoom", name := "canLie", desc := "(LLeatherRoom$Kind;III)Z" } : Jvm.MethodName)) ∈ BG := bg_at 438 (by decide +kernel) (by decide +kernel)
theorem wd_410 : (Cond.code ({ cls := "LeatherRoom", name := "canLie", desc := "(LLeatherRoom$Kind;III)Z" } : Jvm.MethodName) prog_1_method_21_code (6 : Nat) (Option.some Jvm.ClassFile.FieldType.boolean)) ∈ BG := bg_at 439 (by decide +kernel) (by decide +kernel)
theorem wd_411 : (Cond.methodLink "LeatherRoom" (196 : Nat) ({ cls := "LeatherRoom$Kind", name := "hasTurn", desc := "(I)Z" } : Jvm.MethodName)) ∈ BG := bg_at 440 (by decide +kernel) (by decide +kernel)
theorem wd_412 : (Cond.instanceMethod ({ cls := "LeatherRoom$Kind", name := "hasTurn", desc := "(I)Z" } : Jvm.MethodName)) ∈ BG := bg_at 441 (by decide +kernel) (by decide +kernel)
theorem wd_413 : (Cond.selects "LeatherRoom$Kind" ({ cls := "LeatherRoom$Kind", name := "hasTurn", desc := "(I)Z" } : Jvm.MethodName) ({ cls := "LeatherRoom$Kind", name := "hasTurn", desc := "(I)Z" } : Jvm.MethodName)) ∈ BG := bg_at 442 (by decide +kernel) (by decide +kernel)
theorem wd_414 : (Cond.code ({ cls := "LeatherRoom$Kind", name := "hasTurn", desc := "(I)Z" } : Jvm.MethodName) prog_2_method_3_code (2 : Nat) (Option.some Jvm.ClassFile.FieldType.boolean)) ∈ BG := bg_at 443 (by decide +kernel) (by decide +kernel)
theorem wd_415 : (Cond.methodLink "LeatherRoom" (203 : Nat) ({ cls := "LeatherRoom$Shape", name := "boxHolds", desc := "(LLeatherRoom$Shape;II)Z" } : Jvm.MethodName)) ∈ BG := bg_at 444 (by decide +kernel) (by decide +kernel)
theorem wd_416 : (Cond.instanceMethod ({ cls := "LeatherRoom$Shape", name := "boxHolds", desc := "(LLeatherRoom$Shape;II)Z" } : Jvm.MethodName)) ∈ BG := bg_at 445 (by decide +kernel) (by decide +kernel)
theorem wd_417 : (Cond.selects "LeatherRoom$Shape" ({ cls := "LeatherRoom$Shape", name := "boxHolds", desc := "(LLeatherRoom$Shape;II)Z" } : Jvm.MethodName) ({ cls := "LeatherRoom$Shape", name := "boxHolds", desc := "(LLeatherRoom$Shape;II)Z" } : Jvm.MethodName)) ∈ BG := bg_at 446 (by decide +kernel) (by decide +kernel)
theorem wd_418 : (Cond.code ({ cls := "LeatherRoom$Shape", name := "boxHolds", desc := "(LLeatherRoom$Shape;II)Z" } : Jvm.MethodName) prog_4_method_16_code (4 : Nat) (Option.some Jvm.ClassFile.FieldType.boolean)) ∈ BG := bg_at 447 (by decide +kernel) (by decide +kernel)
theorem wd_419 : (Cond.methodLink "LeatherRoom" (207 : Nat) ({ cls := "LeatherRoom", name := "isOffParts", desc := "(LLeatherRoom$Shape;II)Z" } : Jvm.MethodName)) ∈ BG := bg_at 448 (by decide +kernel) (by decide +kernel)
theorem wd_421 : (Cond.instanceMethod ({ cls := "LeatherRoom", name := "isOffParts", desc := "(LLeatherRoom$Shape;II)Z" } : Jvm.MethodName)) ∈ BG := bg_at 450 (by decide +kernel) (by decide +kernel)
theorem wd_422 : (Cond.code ({ cls := "LeatherRoom", name := "isOffParts", desc := "(LLeatherRoom$Shape;II)Z" } : Jvm.MethodName) prog_1_method_22_code (5 : Nat) (Option.some Jvm.ClassFile.FieldType.boolean)) ∈ BG := bg_at 451 (by decide +kernel) (by decide +kernel)
theorem wd_423 : (Cond.methodLink "LeatherRoom" (220 : Nat) ({ cls := "LeatherRoom$Shape", name := "overlaps", desc := "(LLeatherRoom$Shape;II)Z" } : Jvm.MethodName)) ∈ BG := bg_at 452 (by decide +kernel) (by decide +kernel)
theorem wd_424 : (Cond.instanceMethod ({ cls := "LeatherRoom$Shape", name := "overlaps", desc := "(LLeatherRoom$Shape;II)Z" } : Jvm.MethodName)) ∈ BG := bg_at 453 (by decide +kernel) (by decide +kernel)
theorem wd_425 : (Cond.selects "LeatherRoom$Shape" ({ cls := "LeatherRoom$Shape", name := "overlaps", desc := "(LLeatherRoom$Shape;II)Z" } : Jvm.MethodName) ({ cls := "LeatherRoom$Shape", name := "overlaps", desc := "(LLeatherRoom$Shape;II)Z" } : Jvm.MethodName)) ∈ BG := bg_at 454 (by decide +kernel) (by decide +kernel)
theorem wd_426 : (Cond.code ({ cls := "LeatherRoom$Shape", name := "overlaps", desc := "(LLeatherRoom$Shape;II)Z" } : Jvm.MethodName) prog_4_method_17_code (5 : Nat) (Option.some Jvm.ClassFile.FieldType.boolean)) ∈ BG := bg_at 455 (by decide +kernel) (by decide +kernel)
theorem wd_427 : (Cond.methodLink "LeatherRoom$Shape" (86 : Nat) ({ cls := "LeatherRoom$Shape", name := "sideParts", desc := "(LLeatherRoom$Shape;II)Z" } : Jvm.MethodName)) ∈ BG := bg_at 456 (by decide +kernel) (by decide +kernel)
theorem wd_428 : (Cond.instanceMethod ({ cls := "LeatherRoom$Shape", name := "sideParts", desc := "(LLeatherRoom$Shape;II)Z" } : Jvm.MethodName)) ∈ BG := bg_at 457 (by decide +kernel) (by decide +kernel)
theorem wd_429 : (Cond.selects "LeatherRoom$Shape" ({ cls := "LeatherRoom$Shape", name := "sideParts", desc := "(LLeatherRoom$Shape;II)Z" } : Jvm.MethodName) ({ cls := "LeatherRoom$Shape", name := "sideParts", desc := "(LLeatherRoom$Shape;II)Z" } : Jvm.MethodName)) ∈ BG := bg_at 458 (by decide +kernel) (by decide +kernel)
theorem wd_430 : (Cond.code ({ cls := "LeatherRoom$Shape", name := "sideParts", desc := "(LLeatherRoom$Shape;II)Z" } : Jvm.MethodName) prog_4_method_18_code (7 : Nat) (Option.some Jvm.ClassFile.FieldType.boolean)) ∈ BG := bg_at 459 (by decide +kernel) (by decide +kernel)
theorem wd_431 : (Cond.methodLink "LeatherRoom" (213 : Nat) ({ cls := "LeatherRoom", name := "isOffZones", desc := "(LLeatherRoom$Shape;III)Z" } : Jvm.MethodName)) ∈ BG := bg_at 460 (by decide +kernel) (by decide +kernel)
theorem wd_433 : (Cond.instanceMethod ({ cls := "LeatherRoom", name := "isOffZones", desc := "(LLeatherRoom$Shape;III)Z" } : Jvm.MethodName)) ∈ BG := bg_at 462 (by decide +kernel) (by decide +kernel)
theorem wd_434 : (Cond.code ({ cls := "LeatherRoom", name := "isOffZones", desc := "(LLeatherRoom$Shape;III)Z" } : Jvm.MethodName) prog_1_method_23_code (6 : Nat) (Option.some Jvm.ClassFile.FieldType.boolean)) ∈ BG := bg_at 463 (by decide +kernel) (by decide +kernel)
theorem wd_435 : (Cond.methodLink "LeatherRoom" (217 : Nat) ({ cls := "LeatherRoom$Shape", name := "holds", desc := "(LLeatherRoom$Shape;II)Z" } : Jvm.MethodName)) ∈ BG := bg_at 464 (by decide +kernel) (by decide +kernel)
theorem wd_436 : (Cond.instanceMethod ({ cls := "LeatherRoom$Shape", name := "holds", desc := "(LLeatherRoom$Shape;II)Z" } : Jvm.MethodName)) ∈ BG := bg_at 465 (by decide +kernel) (by decide +kernel)
theorem wd_437 : (Cond.selects "LeatherRoom$Shape" ({ cls := "LeatherRoom$Shape", name := "holds", desc := "(LLeatherRoom$Shape;II)Z" } : Jvm.MethodName) ({ cls := "LeatherRoom$Shape", name := "holds", desc := "(LLeatherRoom$Shape;II)Z" } : Jvm.MethodName)) ∈ BG := bg_at 466 (by decide +kernel) (by decide +kernel)
theorem wd_438 : (Cond.code ({ cls := "LeatherRoom$Shape", name := "holds", desc := "(LLeatherRoom$Shape;II)Z" } : Jvm.MethodName) prog_4_method_19_code (6 : Nat) (Option.some Jvm.ClassFile.FieldType.boolean)) ∈ BG := bg_at 467 (by decide +kernel) (by decide +kernel)
theorem wd_439 : (Cond.methodLink "LeatherRoom$Shape" (90 : Nat) ({ cls := "LeatherRoom$Shape", name := "sideCuts", desc := "(ILLeatherRoom$Shape;II)Z" } : Jvm.MethodName)) ∈ BG := bg_at 468 (by decide +kernel) (by decide +kernel)
theorem wd_440 : (Cond.instanceMethod ({ cls := "LeatherRoom$Shape", name := "sideCuts", desc := "(ILLeatherRoom$Shape;II)Z" } : Jvm.MethodName)) ∈ BG := bg_at 469 (by decide +kernel) (by decide +kernel)
theorem wd_441 : (Cond.selects "LeatherRoom$Shape" ({ cls := "LeatherRoom$Shape", name := "sideCuts", desc := "(ILLeatherRoom$Shape;II)Z" } : Jvm.MethodName) ({ cls := "LeatherRoom$Shape", name := "sideCuts", desc := "(ILLeatherRoom$Shape;II)Z" } : Jvm.MethodName)) ∈ BG := bg_at 470 (by decide +kernel) (by decide +kernel)
theorem wd_442 : (Cond.code ({ cls := "LeatherRoom$Shape", name := "sideCuts", desc := "(ILLeatherRoom$Shape;II)Z" } : Jvm.MethodName) prog_4_method_20_code (11 : Nat) (Option.some Jvm.ClassFile.FieldType.boolean)) ∈ BG := bg_at 471 (by decide +kernel) (by decide +kernel)
theorem wd_443 : (Cond.methodLink "LeatherRoom$Shape" (97 : Nat) ({ cls := "LeatherRoom$Shape", name := "lineCuts", desc := "(ILLeatherRoom$Shape;II)Z" } : Jvm.MethodName)) ∈ BG := bg_at 472 (by decide +kernel) (by decide +kernel)
theorem wd_444 : (Cond.instanceMethod ({ cls := "LeatherRoom$Shape", name := "lineCuts", desc := "(ILLeatherRoom$Shape;II)Z" } : Jvm.MethodName)) ∈ BG := bg_at 473 (by decide +kernel) (by decide +kernel)
theorem wd_445 : (Cond.selects "LeatherRoom$Shape" ({ cls := "LeatherRoom$Shape", name := "lineCuts", desc := "(ILLeatherRoom$Shape;II)Z" } : Jvm.MethodName) ({ cls := "LeatherRoom$Shape", name := "lineCuts", desc := "(ILLeatherRoom$Shape;II)Z" } : Jvm.MethodName)) ∈ BG := bg_at 474 (by decide +kernel) (by decide +kernel)
theorem wd_446 : (Cond.code ({ cls := "LeatherRoom$Shape", name := "lineCuts", desc := "(ILLeatherRoom$Shape;II)Z" } : Jvm.MethodName) prog_4_method_21_code (9 : Nat) (Option.some Jvm.ClassFile.FieldType.boolean)) ∈ BG := bg_at 475 (by decide +kernel) (by decide +kernel)
theorem wd_447 : (Cond.methodLink "LeatherRoom$Shape" (100 : Nat) ({ cls := "LeatherRoom$Shape", name := "isBeyond", desc := "(IIII)Z" } : Jvm.MethodName)) ∈ BG := bg_at 476 (by decide +kernel) (by decide +kernel)
theorem wd_448 : (Cond.instanceMethod ({ cls := "LeatherRoom$Shape", name := "isBeyond", desc := "(IIII)Z" } : Jvm.MethodName)) ∈ BG := bg_at 477 (by decide +kernel) (by decide +kernel)
theorem wd_449 : (Cond.selects "LeatherRoom$Shape" ({ cls := "LeatherRoom$Shape", name := "isBeyond", desc := "(IIII)Z" } : Jvm.MethodName) ({ cls := "LeatherRoom$Shape", name := "isBeyond", desc := "(IIII)Z" } : Jvm.MethodName)) ∈ BG := bg_at 478 (by decide +kernel) (by decide +kernel)
theorem wd_450 : (Cond.code ({ cls := "LeatherRoom$Shape", name := "isBeyond", desc := "(IIII)Z" } : Jvm.MethodName) prog_4_method_22_code (6 : Nat) (Option.some Jvm.ClassFile.FieldType.boolean)) ∈ BG := bg_at 479 (by decide +kernel) (by decide +kernel)
theorem wd_451 : (Cond.methodLink "LeatherRoom$Shape" (94 : Nat) ({ cls := "LeatherRoom$Shape", name := "surrounds", desc := "(II)Z" } : Jvm.MethodName)) ∈ BG := bg_at 480 (by decide +kernel) (by decide +kernel)
theorem wd_452 : (Cond.instanceMethod ({ cls := "LeatherRoom$Shape", name := "surrounds", desc := "(II)Z" } : Jvm.MethodName)) ∈ BG := bg_at 481 (by decide +kernel) (by decide +kernel)
theorem wd_453 : (Cond.selects "LeatherRoom$Shape" ({ cls := "LeatherRoom$Shape", name := "surrounds", desc := "(II)Z" } : Jvm.MethodName) ({ cls := "LeatherRoom$Shape", name := "surrounds", desc := "(II)Z" } : Jvm.MethodName)) ∈ BG := bg_at 482 (by decide +kernel) (by decide +kernel)
theorem wd_454 : (Cond.code ({ cls := "LeatherRoom$Shape", name := "surrounds", desc := "(II)Z" } : Jvm.MethodName) prog_4_method_23_code (9 : Nat) (Option.some Jvm.ClassFile.FieldType.boolean)) ∈ BG := bg_at 483 (by decide +kernel) (by decide +kernel)
theorem wd_455 : (Cond.methodLink "LeatherRoomLaw" (86 : Nat) ({ cls := "LeatherRoomLaw", name := "best", desc := "(LLeatherRoom;I[J)I" } : Jvm.MethodName)) ∈ BG := bg_at 484 (by decide +kernel) (by decide +kernel)
theorem wd_456 : (Cond.static ({ cls := "LeatherRoomLaw", name := "best", desc := "(LLeatherRoom;I[J)I" } : Jvm.MethodName)) ∈ BG := bg_at 485 (by decide +kernel) (by decide +kernel)
theorem wd_457 : (Cond.codeWith ({ cls := "LeatherRoomLaw", name := "best", desc := "(LLeatherRoom;I[J)I" } : Jvm.MethodName) method_9_code (4 : Nat) (Option.some Jvm.ClassFile.FieldType.int) [((0 : Nat), (9 : Nat), (12 : Nat), (13 : Nat)), ((0 : Nat), (9 : Nat), (15 : Nat), (37 : Nat))]) ∈ BG := bg_at 486 (by decide +kernel) (by decide +kernel)
theorem wd_458 : (Cond.classLink "LeatherRoomLaw" (37 : Nat) "java/util/NoSuchElementException") ∈ BG := bg_at 487 (by decide +kernel) (by decide +kernel)
theorem wd_459 : (Cond.methodLink "LeatherRoomLaw" (34 : Nat) ({ cls := "LeatherRoom", name := "best", desc := "(I)I" } : Jvm.MethodName)) ∈ BG := bg_at 488 (by decide +kernel) (by decide +kernel)
theorem wd_460 : (Cond.instanceMethod ({ cls := "LeatherRoom", name := "best", desc := "(I)I" } : Jvm.MethodName)) ∈ BG := bg_at 489 (by decide +kernel) (by decide +kernel)
theorem wd_461 : (Cond.selects "LeatherRoom" ({ cls := "LeatherRoom", name := "best", desc := "(I)I" } : Jvm.MethodName) ({ cls := "LeatherRoom", name := "best", desc := "(I)I" } : Jvm.MethodName)) ∈ BG := bg_at 490 (by decide +kernel) (by decide +kernel)
theorem wd_462 : (Cond.code ({ cls := "LeatherRoom", name := "best", desc := "(I)I" } : Jvm.MethodName) prog_1_method_8_code (3 : Nat) (Option.some Jvm.ClassFile.FieldType.int)) ∈ BG := bg_at 491 (by decide +kernel) (by decide +kernel)
theorem wd_464 : (Cond.methodLink "LeatherRoom" (137 : Nat) ({ cls := "LeatherRoom", name := "findPlace", desc := "(LLeatherRoom$Kind;)I" } : Jvm.MethodName)) ∈ BG := bg_at 493 (by decide +kernel) (by decide +kernel)
theorem wd_466 : (Cond.instanceMethod ({ cls := "LeatherRoom", name := "findPlace", desc := "(LLeatherRoom$Kind;)I" } : Jvm.MethodName)) ∈ BG := bg_at 495 (by decide +kernel) (by decide +kernel)
theorem wd_467 : (Cond.code ({ cls := "LeatherRoom", name := "findPlace", desc := "(LLeatherRoom$Kind;)I" } : Jvm.MethodName) prog_1_method_24_code (5 : Nat) (Option.some Jvm.ClassFile.FieldType.int)) ∈ BG := bg_at 496 (by decide +kernel) (by decide +kernel)
theorem wd_468 : (Cond.classLink "LeatherRoom" (141 : Nat) "java/util/NoSuchElementException") ∈ BG := bg_at 497 (by decide +kernel) (by decide +kernel)
theorem wd_469 : (Cond.instantiable "java/util/NoSuchElementException" (6 : Nat)) ∈ BG := bg_at 498 (by decide +kernel) (by decide +kernel)
theorem wd_471 : (Cond.selects "java/util/NoSuchElementException" ({ cls := "java/lang/Throwable", name := "fillInStackTrace", desc := "(I)Ljava/lang/Throwable;" } : Jvm.MethodName) ({ cls := "java/lang/Throwable", name := "fillInStackTrace", desc := "(I)Ljava/lang/Throwable;" } : Jvm.MethodName)) ∈ BG := bg_at 500 (by decide +kernel) (by decide +kernel)
theorem wd_472 : (Cond.lays "java/util/NoSuchElementException" "java/lang/Throwable" "cause" "Ljava/lang/Throwable;") ∈ BG := bg_at 501 (by decide +kernel) (by decide +kernel)
theorem wd_473 : (Cond.lays "java/util/NoSuchElementException" "java/lang/Throwable" "stackTrace" "[Ljava/lang/StackTraceElement;") ∈ BG := bg_at 502 (by decide +kernel) (by decide +kernel)
theorem wd_474 : (Cond.lays "java/util/NoSuchElementException" "java/lang/Throwable" "suppressedExceptions" "Ljava/util/List;") ∈ BG := bg_at 503 (by decide +kernel) (by decide +kernel)
theorem wd_475 : (Cond.lays "java/util/NoSuchElementException" "java/lang/Throwable" "detailMessage" "Ljava/lang/String;") ∈ BG := bg_at 504 (by decide +kernel) (by decide +kernel)
theorem wd_476 : (Cond.lays "java/util/NoSuchElementException" "java/lang/Throwable" "backtrace" "Ljava/lang/Object;") ∈ BG := bg_at 505 (by decide +kernel) (by decide +kernel)
theorem wd_478 : (Cond.methodLink "LeatherRoom" (145 : Nat) ({ cls := "java/util/NoSuchElementException", name := "<init>", desc := "(Ljava/lang/String;)V" } : Jvm.MethodName)) ∈ BG := bg_at 507 (by decide +kernel) (by decide +kernel)
theorem wd_479 : (Cond.instanceMethod ({ cls := "java/util/NoSuchElementException", name := "<init>", desc := "(Ljava/lang/String;)V" } : Jvm.MethodName)) ∈ BG := bg_at 508 (by decide +kernel) (by decide +kernel)
theorem wd_480 : (Cond.code ({ cls := "java/util/NoSuchElementException", name := "<init>", desc := "(Ljava/lang/String;)V" } : Jvm.MethodName) prog_17_method_4_code (2 : Nat) (Option.none : Option Jvm.ClassFile.FieldType)) ∈ BG := bg_at 509 (by decide +kernel) (by decide +kernel)
theorem wd_481 : (Cond.methodLink "java/util/NoSuchElementException" (13 : Nat) ({ cls := "java/lang/RuntimeException", name := "<init>", desc := "(Ljava/lang/String;)V" } : Jvm.MethodName)) ∈ BG := bg_at 510 (by decide +kernel) (by decide +kernel)
theorem wd_482 : (Cond.lays "java/util/NoSuchElementException" "java/lang/Throwable" "depth" "I") ∈ BG := bg_at 511 (by decide +kernel) (by decide +kernel)
theorem wd_484 : (Cond.methodLink "LeatherRoomLaw" (89 : Nat) ({ cls := "LeatherRoomLaw", name := "lay", desc := "(LLeatherRoom;I[J)I" } : Jvm.MethodName)) ∈ BG := bg_at 513 (by decide +kernel) (by decide +kernel)
theorem wd_485 : (Cond.static ({ cls := "LeatherRoomLaw", name := "lay", desc := "(LLeatherRoom;I[J)I" } : Jvm.MethodName)) ∈ BG := bg_at 514 (by decide +kernel) (by decide +kernel)
theorem wd_486 : (Cond.codeWith ({ cls := "LeatherRoomLaw", name := "lay", desc := "(LLeatherRoom;I[J)I" } : Jvm.MethodName) method_10_code (4 : Nat) (Option.some Jvm.ClassFile.FieldType.int) [((0 : Nat), (9 : Nat), (12 : Nat), (13 : Nat)), ((0 : Nat), (9 : Nat), (15 : Nat), (15 : Nat)), ((0 : Nat), (9 : Nat), (18 : Nat), (37 : Nat))]) ∈ BG := bg_at 515 (by decide +kernel) (by decide +kernel)
theorem wd_487 : (Cond.methodLink "LeatherRoomLaw" (39 : Nat) ({ cls := "LeatherRoom", name := "lay", desc := "(I)I" } : Jvm.MethodName)) ∈ BG := bg_at 516 (by decide +kernel) (by decide +kernel)
theorem wd_488 : (Cond.instanceMethod ({ cls := "LeatherRoom", name := "lay", desc := "(I)I" } : Jvm.MethodName)) ∈ BG := bg_at 517 (by decide +kernel) (by decide +kernel)
theorem wd_489 : (Cond.selects "LeatherRoom" ({ cls := "LeatherRoom", name := "lay", desc := "(I)I" } : Jvm.MethodName) ({ cls := "LeatherRoom", name := "lay", desc := "(I)I" } : Jvm.MethodName)) ∈ BG := bg_at 518 (by decide +kernel) (by decide +kernel)
theorem wd_490 : (Cond.code ({ cls := "LeatherRoom", name := "lay", desc := "(I)I" } : Jvm.MethodName) prog_1_method_9_code (6 : Nat) (Option.some Jvm.ClassFile.FieldType.int)) ∈ BG := bg_at 519 (by decide +kernel) (by decide +kernel)
theorem wd_492 : (Cond.methodLink "LeatherRoom" (148 : Nat) ({ cls := "LeatherRoom", name := "addPart", desc := "(IIII)I" } : Jvm.MethodName)) ∈ BG := bg_at 521 (by decide +kernel) (by decide +kernel)
theorem wd_494 : (Cond.instanceMethod ({ cls := "LeatherRoom", name := "addPart", desc := "(IIII)I" } : Jvm.MethodName)) ∈ BG := bg_at 523 (by decide +kernel) (by decide +kernel)
theorem wd_495 : (Cond.code ({ cls := "LeatherRoom", name := "addPart", desc := "(IIII)I" } : Jvm.MethodName) prog_1_method_25_code (6 : Nat) (Option.some Jvm.ClassFile.FieldType.int)) ∈ BG := bg_at 524 (by decide +kernel) (by decide +kernel)
theorem wd_496 : (Cond.methodLink "LeatherRoom" (231 : Nat) ({ cls := "LeatherRoom$Part", name := "become", desc := "(IIII)V" } : Jvm.MethodName)) ∈ BG := bg_at 525 (by decide +kernel) (by decide +kernel)
theorem wd_497 : (Cond.instanceMethod ({ cls := "LeatherRoom$Part", name := "become", desc := "(IIII)V" } : Jvm.MethodName)) ∈ BG := bg_at 526 (by decide +kernel) (by decide +kernel)
theorem wd_498 : (Cond.selects "LeatherRoom$Part" ({ cls := "LeatherRoom$Part", name := "become", desc := "(IIII)V" } : Jvm.MethodName) ({ cls := "LeatherRoom$Part", name := "become", desc := "(IIII)V" } : Jvm.MethodName)) ∈ BG := bg_at 527 (by decide +kernel) (by decide +kernel)
theorem wd_499 : (Cond.code ({ cls := "LeatherRoom$Part", name := "become", desc := "(IIII)V" } : Jvm.MethodName) prog_3_method_2_code (5 : Nat) (Option.none : Option Jvm.ClassFile.FieldType)) ∈ BG := bg_at 528 (by decide +kernel) (by decide +kernel)
theorem wd_500 : (Cond.methodLink "LeatherRoomLaw" (92 : Nat) ({ cls := "LeatherRoomLaw", name := "put", desc := "(LLeatherRoom;IIII[J)I" } : Jvm.MethodName)) ∈ BG := bg_at 529 (by decide +kernel) (by decide +kernel)
theorem wd_501 : (Cond.static ({ cls := "LeatherRoomLaw", name := "put", desc := "(LLeatherRoom;IIII[J)I" } : Jvm.MethodName)) ∈ BG := bg_at 530 (by decide +kernel) (by decide +kernel)
theorem wd_502 : (Cond.codeWith ({ cls := "LeatherRoomLaw", name := "put", desc := "(LLeatherRoom;IIII[J)I" } : Jvm.MethodName) method_11_code (7 : Nat) (Option.some Jvm.ClassFile.FieldType.int) [((0 : Nat), (14 : Nat), (17 : Nat), (13 : Nat)), ((0 : Nat), (14 : Nat), (21 : Nat), (15 : Nat)), ((0 : Nat), (14 : Nat), (25 : Nat), (46 : Nat))]) ∈ BG := bg_at 531 (by decide +kernel) (by decide +kernel)
theorem wd_503 : (Cond.classLink "LeatherRoomLaw" (46 : Nat) "java/lang/UnsupportedOperationException") ∈ BG := bg_at 532 (by decide +kernel) (by decide +kernel)
theorem wd_504 : (Cond.methodLink "LeatherRoomLaw" (42 : Nat) ({ cls := "LeatherRoom", name := "put", desc := "(IIII)I" } : Jvm.MethodName)) ∈ BG := bg_at 533 (by decide +kernel) (by decide +kernel)
theorem wd_505 : (Cond.instanceMethod ({ cls := "LeatherRoom", name := "put", desc := "(IIII)I" } : Jvm.MethodName)) ∈ BG := bg_at 534 (by decide +kernel) (by decide +kernel)
theorem wd_506 : (Cond.selects "LeatherRoom" ({ cls := "LeatherRoom", name := "put", desc := "(IIII)I" } : Jvm.MethodName) ({ cls := "LeatherRoom", name := "put", desc := "(IIII)I" } : Jvm.MethodName)) ∈ BG := bg_at 535 (by decide +kernel) (by decide +kernel)
theorem wd_507 : (Cond.code ({ cls := "LeatherRoom", name := "put", desc := "(IIII)I" } : Jvm.MethodName) prog_1_method_10_code (5 : Nat) (Option.some Jvm.ClassFile.FieldType.int)) ∈ BG := bg_at 536 (by decide +kernel) (by decide +kernel)
theorem wd_508 : (Cond.classLink "LeatherRoom" (152 : Nat) "java/lang/UnsupportedOperationException") ∈ BG := bg_at 537 (by decide +kernel) (by decide +kernel)
theorem wd_509 : (Cond.instantiable "java/lang/UnsupportedOperationException" (6 : Nat)) ∈ BG := bg_at 538 (by decide +kernel) (by decide +kernel)
theorem wd_511 : (Cond.selects "java/lang/UnsupportedOperationException" ({ cls := "java/lang/Throwable", name := "fillInStackTrace", desc := "(I)Ljava/lang/Throwable;" } : Jvm.MethodName) ({ cls := "java/lang/Throwable", name := "fillInStackTrace", desc := "(I)Ljava/lang/Throwable;" } : Jvm.MethodName)) ∈ BG := bg_at 540 (by decide +kernel) (by decide +kernel)
theorem wd_512 : (Cond.lays "java/lang/UnsupportedOperationException" "java/lang/Throwable" "cause" "Ljava/lang/Throwable;") ∈ BG := bg_at 541 (by decide +kernel) (by decide +kernel)
theorem wd_513 : (Cond.lays "java/lang/UnsupportedOperationException" "java/lang/Throwable" "stackTrace" "[Ljava/lang/StackTraceElement;") ∈ BG := bg_at 542 (by decide +kernel) (by decide +kernel)
theorem wd_514 : (Cond.lays "java/lang/UnsupportedOperationException" "java/lang/Throwable" "suppressedExceptions" "Ljava/util/List;") ∈ BG := bg_at 543 (by decide +kernel) (by decide +kernel)
theorem wd_515 : (Cond.lays "java/lang/UnsupportedOperationException" "java/lang/Throwable" "detailMessage" "Ljava/lang/String;") ∈ BG := bg_at 544 (by decide +kernel) (by decide +kernel)
theorem wd_516 : (Cond.lays "java/lang/UnsupportedOperationException" "java/lang/Throwable" "backtrace" "Ljava/lang/Object;") ∈ BG := bg_at 545 (by decide +kernel) (by decide +kernel)
theorem wd_518 : (Cond.methodLink "LeatherRoom" (156 : Nat) ({ cls := "java/lang/UnsupportedOperationException", name := "<init>", desc := "(Ljava/lang/String;)V" } : Jvm.MethodName)) ∈ BG := bg_at 547 (by decide +kernel) (by decide +kernel)
theorem wd_519 : (Cond.instanceMethod ({ cls := "java/lang/UnsupportedOperationException", name := "<init>", desc := "(Ljava/lang/String;)V" } : Jvm.MethodName)) ∈ BG := bg_at 548 (by decide +kernel) (by decide +kernel)
theorem wd_520 : (Cond.code ({ cls := "java/lang/UnsupportedOperationException", name := "<init>", desc := "(Ljava/lang/String;)V" } : Jvm.MethodName) prog_16_method_2_code (2 : Nat) (Option.none : Option Jvm.ClassFile.FieldType)) ∈ BG := bg_at 549 (by decide +kernel) (by decide +kernel)
theorem wd_521 : (Cond.methodLink "java/lang/UnsupportedOperationException" (7 : Nat) ({ cls := "java/lang/RuntimeException", name := "<init>", desc := "(Ljava/lang/String;)V" } : Jvm.MethodName)) ∈ BG := bg_at 550 (by decide +kernel) (by decide +kernel)
theorem wd_522 : (Cond.lays "java/lang/UnsupportedOperationException" "java/lang/Throwable" "depth" "I") ∈ BG := bg_at 551 (by decide +kernel) (by decide +kernel)
theorem wd_524 : (Cond.methodLink "LeatherRoomLaw" (95 : Nat) ({ cls := "LeatherRoomLaw", name := "take", desc := "(LLeatherRoom;I[J)I" } : Jvm.MethodName)) ∈ BG := bg_at 553 (by decide +kernel) (by decide +kernel)
theorem wd_525 : (Cond.static ({ cls := "LeatherRoomLaw", name := "take", desc := "(LLeatherRoom;I[J)I" } : Jvm.MethodName)) ∈ BG := bg_at 554 (by decide +kernel) (by decide +kernel)
theorem wd_526 : (Cond.codeWith ({ cls := "LeatherRoomLaw", name := "take", desc := "(LLeatherRoom;I[J)I" } : Jvm.MethodName) method_12_code (4 : Nat) (Option.some Jvm.ClassFile.FieldType.int) [((0 : Nat), (9 : Nat), (12 : Nat), (37 : Nat))]) ∈ BG := bg_at 555 (by decide +kernel) (by decide +kernel)
theorem wd_527 : (Cond.methodLink "LeatherRoomLaw" (48 : Nat) ({ cls := "LeatherRoom", name := "take", desc := "(I)I" } : Jvm.MethodName)) ∈ BG := bg_at 556 (by decide +kernel) (by decide +kernel)
theorem wd_528 : (Cond.instanceMethod ({ cls := "LeatherRoom", name := "take", desc := "(I)I" } : Jvm.MethodName)) ∈ BG := bg_at 557 (by decide +kernel) (by decide +kernel)
theorem wd_529 : (Cond.selects "LeatherRoom" ({ cls := "LeatherRoom", name := "take", desc := "(I)I" } : Jvm.MethodName) ({ cls := "LeatherRoom", name := "take", desc := "(I)I" } : Jvm.MethodName)) ∈ BG := bg_at 558 (by decide +kernel) (by decide +kernel)
theorem wd_530 : (Cond.code ({ cls := "LeatherRoom", name := "take", desc := "(I)I" } : Jvm.MethodName) prog_1_method_11_code (2 : Nat) (Option.some Jvm.ClassFile.FieldType.int)) ∈ BG := bg_at 559 (by decide +kernel) (by decide +kernel)
theorem wd_531 : (Cond.methodLink "LeatherRoom" (157 : Nat) ({ cls := "LeatherRoom", name := "isPart", desc := "(I)Z" } : Jvm.MethodName)) ∈ BG := bg_at 560 (by decide +kernel) (by decide +kernel)
theorem wd_533 : (Cond.instanceMethod ({ cls := "LeatherRoom", name := "isPart", desc := "(I)Z" } : Jvm.MethodName)) ∈ BG := bg_at 562 (by decide +kernel) (by decide +kernel)
theorem wd_534 : (Cond.code ({ cls := "LeatherRoom", name := "isPart", desc := "(I)Z" } : Jvm.MethodName) prog_1_method_19_code (2 : Nat) (Option.some Jvm.ClassFile.FieldType.boolean)) ∈ BG := bg_at 563 (by decide +kernel) (by decide +kernel)
theorem wd_536 : (Cond.methodLink "LeatherRoomLaw" (102 : Nat) ({ cls := "LeatherRoomLaw", name := "part", desc := "(LLeatherRoom;II[J)I" } : Jvm.MethodName)) ∈ BG := bg_at 565 (by decide +kernel) (by decide +kernel)
theorem wd_537 : (Cond.static ({ cls := "LeatherRoomLaw", name := "part", desc := "(LLeatherRoom;II[J)I" } : Jvm.MethodName)) ∈ BG := bg_at 566 (by decide +kernel) (by decide +kernel)
theorem wd_538 : (Cond.codeWith ({ cls := "LeatherRoomLaw", name := "part", desc := "(LLeatherRoom;II[J)I" } : Jvm.MethodName) method_13_code (5 : Nat) (Option.some Jvm.ClassFile.FieldType.int) [((0 : Nat), (10 : Nat), (13 : Nat), (13 : Nat)), ((0 : Nat), (10 : Nat), (17 : Nat), (37 : Nat))]) ∈ BG := bg_at 567 (by decide +kernel) (by decide +kernel)
theorem wd_539 : (Cond.methodLink "LeatherRoomLaw" (51 : Nat) ({ cls := "LeatherRoom", name := "part", desc := "(II)I" } : Jvm.MethodName)) ∈ BG := bg_at 568 (by decide +kernel) (by decide +kernel)
theorem wd_540 : (Cond.instanceMethod ({ cls := "LeatherRoom", name := "part", desc := "(II)I" } : Jvm.MethodName)) ∈ BG := bg_at 569 (by decide +kernel) (by decide +kernel)
theorem wd_541 : (Cond.selects "LeatherRoom" ({ cls := "LeatherRoom", name := "part", desc := "(II)I" } : Jvm.MethodName) ({ cls := "LeatherRoom", name := "part", desc := "(II)I" } : Jvm.MethodName)) ∈ BG := bg_at 570 (by decide +kernel) (by decide +kernel)
theorem wd_542 : (Cond.code ({ cls := "LeatherRoom", name := "part", desc := "(II)I" } : Jvm.MethodName) prog_1_method_13_code (3 : Nat) (Option.some Jvm.ClassFile.FieldType.int)) ∈ BG := bg_at 571 (by decide +kernel) (by decide +kernel)
theorem wd_544 : (Cond.classLink "LeatherRoomLaw" (55 : Nat) "LeatherRoomModel") ∈ BG := bg_at 573 (by decide +kernel) (by decide +kernel)
theorem wd_545 : (Cond.instantiable "LeatherRoomModel" (30 : Nat)) ∈ BG := bg_at 574 (by decide +kernel) (by decide +kernel)
theorem wd_546 : (Cond.methodLink "LeatherRoomLaw" (57 : Nat) ({ cls := "LeatherRoomModel", name := "<init>", desc := "()V" } : Jvm.MethodName)) ∈ BG := bg_at 575 (by decide +kernel) (by decide +kernel)
theorem wd_547 : (Cond.instanceMethod ({ cls := "LeatherRoomModel", name := "<init>", desc := "()V" } : Jvm.MethodName)) ∈ BG := bg_at 576 (by decide +kernel) (by decide +kernel)
theorem wd_548 : (Cond.code ({ cls := "LeatherRoomModel", name := "<init>", desc := "()V" } : Jvm.MethodName) prog_7_method_1_code (2 : Nat) (Option.none : Option Jvm.ClassFile.FieldType)) ∈ BG := bg_at 577 (by decide +kernel) (by decide +kernel)
theorem wd_549 : (Cond.methodLink "LeatherRoomModel" (1 : Nat) ({ cls := "java/lang/Object", name := "<init>", desc := "()V" } : Jvm.MethodName)) ∈ BG := bg_at 578 (by decide +kernel) (by decide +kernel)
theorem wd_550 : (Cond.fieldLink "LeatherRoomModel" (79 : Nat) "LeatherRoomModel" "code" "I") ∈ BG := bg_at 579 (by decide +kernel) (by decide +kernel)
theorem wd_551 : (Cond.fieldLink "LeatherRoomModel" (83 : Nat) "LeatherRoomModel" "waiting" "I") ∈ BG := bg_at 580 (by decide +kernel) (by decide +kernel)
theorem wd_552 : (Cond.fieldLink "LeatherRoomModel" (7 : Nat) "LeatherRoomModel" "waitX" "[I") ∈ BG := bg_at 581 (by decide +kernel) (by decide +kernel)
theorem wd_553 : (Cond.fieldLink "LeatherRoomModel" (13 : Nat) "LeatherRoomModel" "waitY" "[I") ∈ BG := bg_at 582 (by decide +kernel) (by decide +kernel)
theorem wd_554 : (Cond.fieldLink "LeatherRoomModel" (108 : Nat) "LeatherRoomModel" "hideCorners" "I") ∈ BG := bg_at 583 (by decide +kernel) (by decide +kernel)
theorem wd_555 : (Cond.fieldLink "LeatherRoomModel" (16 : Nat) "LeatherRoomModel" "hideX" "[I") ∈ BG := bg_at 584 (by decide +kernel) (by decide +kernel)
theorem wd_556 : (Cond.fieldLink "LeatherRoomModel" (19 : Nat) "LeatherRoomModel" "hideY" "[I") ∈ BG := bg_at 585 (by decide +kernel) (by decide +kernel)
theorem wd_557 : (Cond.fieldLink "LeatherRoomModel" (118 : Nat) "LeatherRoomModel" "zones" "I") ∈ BG := bg_at 586 (by decide +kernel) (by decide +kernel)
theorem wd_558 : (Cond.fieldLink "LeatherRoomModel" (22 : Nat) "LeatherRoomModel" "zoneX" "[I") ∈ BG := bg_at 587 (by decide +kernel) (by decide +kernel)
theorem wd_559 : (Cond.fieldLink "LeatherRoomModel" (25 : Nat) "LeatherRoomModel" "zoneY" "[I") ∈ BG := bg_at 588 (by decide +kernel) (by decide +kernel)
theorem wd_560 : (Cond.fieldLink "LeatherRoomModel" (28 : Nat) "LeatherRoomModel" "zoneCorners" "[I") ∈ BG := bg_at 589 (by decide +kernel) (by decide +kernel)
theorem wd_561 : (Cond.fieldLink "LeatherRoomModel" (31 : Nat) "LeatherRoomModel" "zoneGrade" "[I") ∈ BG := bg_at 590 (by decide +kernel) (by decide +kernel)
theorem wd_562 : (Cond.fieldLink "LeatherRoomModel" (121 : Nat) "LeatherRoomModel" "kinds" "I") ∈ BG := bg_at 591 (by decide +kernel) (by decide +kernel)
theorem wd_563 : (Cond.fieldLink "LeatherRoomModel" (34 : Nat) "LeatherRoomModel" "kindX" "[I") ∈ BG := bg_at 592 (by decide +kernel) (by decide +kernel)
theorem wd_564 : (Cond.fieldLink "LeatherRoomModel" (37 : Nat) "LeatherRoomModel" "kindY" "[I") ∈ BG := bg_at 593 (by decide +kernel) (by decide +kernel)
theorem wd_565 : (Cond.fieldLink "LeatherRoomModel" (40 : Nat) "LeatherRoomModel" "kindCorners" "[I") ∈ BG := bg_at 594 (by decide +kernel) (by decide +kernel)
theorem wd_566 : (Cond.fieldLink "LeatherRoomModel" (43 : Nat) "LeatherRoomModel" "kindGrade" "[I") ∈ BG := bg_at 595 (by decide +kernel) (by decide +kernel)
theorem wd_567 : (Cond.fieldLink "LeatherRoomModel" (46 : Nat) "LeatherRoomModel" "kindTurns" "[I") ∈ BG := bg_at 596 (by decide +kernel) (by decide +kernel)
theorem wd_568 : (Cond.fieldLink "LeatherRoomModel" (49 : Nat) "LeatherRoomModel" "partKind" "[I") ∈ BG := bg_at 597 (by decide +kernel) (by decide +kernel)
theorem wd_569 : (Cond.fieldLink "LeatherRoomModel" (52 : Nat) "LeatherRoomModel" "partX" "[I") ∈ BG := bg_at 598 (by decide +kernel) (by decide +kernel)
theorem wd_570 : (Cond.fieldLink "LeatherRoomModel" (55 : Nat) "LeatherRoomModel" "partY" "[I") ∈ BG := bg_at 599 (by decide +kernel) (by decide +kernel)
theorem wd_571 : (Cond.fieldLink "LeatherRoomModel" (58 : Nat) "LeatherRoomModel" "partTurn" "[I") ∈ BG := bg_at 600 (by decide +kernel) (by decide +kernel)
theorem wd_572 : (Cond.fieldLink "LeatherRoomModel" (61 : Nat) "LeatherRoomModel" "cornerX" "[I") ∈ BG := bg_at 601 (by decide +kernel) (by decide +kernel)
theorem wd_573 : (Cond.fieldLink "LeatherRoomModel" (64 : Nat) "LeatherRoomModel" "cornerY" "[I") ∈ BG := bg_at 602 (by decide +kernel) (by decide +kernel)
theorem wd_574 : (Cond.fieldLink "LeatherRoomModel" (124 : Nat) "LeatherRoomModel" "many" "I") ∈ BG := bg_at 603 (by decide +kernel) (by decide +kernel)
theorem wd_575 : (Cond.fieldLink "LeatherRoomModel" (67 : Nat) "LeatherRoomModel" "x" "[I") ∈ BG := bg_at 604 (by decide +kernel) (by decide +kernel)
theorem wd_576 : (Cond.fieldLink "LeatherRoomModel" (70 : Nat) "LeatherRoomModel" "y" "[I") ∈ BG := bg_at 605 (by decide +kernel) (by decide +kernel)
theorem wd_577 : (Cond.fieldLink "LeatherRoomModel" (129 : Nat) "LeatherRoomModel" "otherMany" "I") ∈ BG := bg_at 606 (by decide +kernel) (by decide +kernel)
theorem wd_578 : (Cond.fieldLink "LeatherRoomModel" (73 : Nat) "LeatherRoomModel" "otherX" "[I") ∈ BG := bg_at 607 (by decide +kernel) (by decide +kernel)
theorem wd_579 : (Cond.fieldLink "LeatherRoomModel" (76 : Nat) "LeatherRoomModel" "otherY" "[I") ∈ BG := bg_at 608 (by decide +kernel) (by decide +kernel)
theorem wd_580 : (Cond.lays "LeatherRoomModel" "LeatherRoomModel" "code" "I") ∈ BG := bg_at 609 (by decide +kernel) (by decide +kernel)
theorem wd_582 : (Cond.lays "LeatherRoomModel" "LeatherRoomModel" "waiting" "I") ∈ BG := bg_at 611 (by decide +kernel) (by decide +kernel)
theorem wd_584 : (Cond.laysFinal "LeatherRoomModel" "LeatherRoomModel" "waitX" "[I") ∈ BG := bg_at 613 (by decide +kernel) (by decide +kernel)
theorem wd_586 : (Cond.laysFinal "LeatherRoomModel" "LeatherRoomModel" "waitY" "[I") ∈ BG := bg_at 615 (by decide +kernel) (by decide +kernel)
theorem wd_588 : (Cond.lays "LeatherRoomModel" "LeatherRoomModel" "hideCorners" "I") ∈ BG := bg_at 617 (by decide +kernel) (by decide +kernel)
theorem wd_590 : (Cond.laysFinal "LeatherRoomModel" "LeatherRoomModel" "hideX" "[I") ∈ BG := bg_at 619 (by decide +kernel) (by decide +kernel)
theorem wd_592 : (Cond.laysFinal "LeatherRoomModel" "LeatherRoomModel" "hideY" "[I") ∈ BG := bg_at 621 (by decide +kernel) (by decide +kernel)
theorem wd_594 : (Cond.lays "LeatherRoomModel" "LeatherRoomModel" "zones" "I") ∈ BG := bg_at 623 (by decide +kernel) (by decide +kernel)
theorem wd_596 : (Cond.laysFinal "LeatherRoomModel" "LeatherRoomModel" "zoneX" "[I") ∈ BG := bg_at 625 (by decide +kernel) (by decide +kernel)
theorem wd_598 : (Cond.laysFinal "LeatherRoomModel" "LeatherRoomModel" "zoneY" "[I") ∈ BG := bg_at 627 (by decide +kernel) (by decide +kernel)
theorem wd_600 : (Cond.laysFinal "LeatherRoomModel" "LeatherRoomModel" "zoneCorners" "[I") ∈ BG := bg_at 629 (by decide +kernel) (by decide +kernel)
theorem wd_602 : (Cond.laysFinal "LeatherRoomModel" "LeatherRoomModel" "zoneGrade" "[I") ∈ BG := bg_at 631 (by decide +kernel) (by decide +kernel)
theorem wd_604 : (Cond.lays "LeatherRoomModel" "LeatherRoomModel" "kinds" "I") ∈ BG := bg_at 633 (by decide +kernel) (by decide +kernel)
theorem wd_606 : (Cond.laysFinal "LeatherRoomModel" "LeatherRoomModel" "kindX" "[I") ∈ BG := bg_at 635 (by decide +kernel) (by decide +kernel)
theorem wd_608 : (Cond.laysFinal "LeatherRoomModel" "LeatherRoomModel" "kindY" "[I") ∈ BG := bg_at 637 (by decide +kernel) (by decide +kernel)
theorem wd_610 : (Cond.laysFinal "LeatherRoomModel" "LeatherRoomModel" "kindCorners" "[I") ∈ BG := bg_at 639 (by decide +kernel) (by decide +kernel)
theorem wd_612 : (Cond.laysFinal "LeatherRoomModel" "LeatherRoomModel" "kindGrade" "[I") ∈ BG := bg_at 641 (by decide +kernel) (by decide +kernel)
theorem wd_614 : (Cond.laysFinal "LeatherRoomModel" "LeatherRoomModel" "kindTurns" "[I") ∈ BG := bg_at 643 (by decide +kernel) (by decide +kernel)
theorem wd_616 : (Cond.laysFinal "LeatherRoomModel" "LeatherRoomModel" "partKind" "[I") ∈ BG := bg_at 645 (by decide +kernel) (by decide +kernel)
theorem wd_618 : (Cond.laysFinal "LeatherRoomModel" "LeatherRoomModel" "partX" "[I") ∈ BG := bg_at 647 (by decide +kernel) (by decide +kernel)
theorem wd_620 : (Cond.laysFinal "LeatherRoomModel" "LeatherRoomModel" "partY" "[I") ∈ BG := bg_at 649 (by decide +kernel) (by decide +kernel)
theorem wd_622 : (Cond.laysFinal "LeatherRoomModel" "LeatherRoomModel" "partTurn" "[I") ∈ BG := bg_at 651 (by decide +kernel) (by decide +kernel)
theorem wd_624 : (Cond.laysFinal "LeatherRoomModel" "LeatherRoomModel" "cornerX" "[I") ∈ BG := bg_at 653 (by decide +kernel) (by decide +kernel)
theorem wd_626 : (Cond.laysFinal "LeatherRoomModel" "LeatherRoomModel" "cornerY" "[I") ∈ BG := bg_at 655 (by decide +kernel) (by decide +kernel)
theorem wd_628 : (Cond.lays "LeatherRoomModel" "LeatherRoomModel" "many" "I") ∈ BG := bg_at 657 (by decide +kernel) (by decide +kernel)
theorem wd_630 : (Cond.laysFinal "LeatherRoomModel" "LeatherRoomModel" "x" "[I") ∈ BG := bg_at 659 (by decide +kernel) (by decide +kernel)
theorem wd_632 : (Cond.laysFinal "LeatherRoomModel" "LeatherRoomModel" "y" "[I") ∈ BG := bg_at 661 (by decide +kernel) (by decide +kernel)
theorem wd_634 : (Cond.lays "LeatherRoomModel" "LeatherRoomModel" "otherMany" "I") ∈ BG := bg_at 663 (by decide +kernel) (by decide +kernel)
theorem wd_636 : (Cond.laysFinal "LeatherRoomModel" "LeatherRoomModel" "otherX" "[I") ∈ BG := bg_at 665 (by decide +kernel) (by decide +kernel)
theorem wd_638 : (Cond.laysFinal "LeatherRoomModel" "LeatherRoomModel" "otherY" "[I") ∈ BG := bg_at 667 (by decide +kernel) (by decide +kernel)
theorem wd_641 : (Cond.methodLink "LeatherRoomLaw" (64 : Nat) ({ cls := "LeatherRoomModel", name := "thrown", desc := "()I" } : Jvm.MethodName)) ∈ BG := bg_at 670 (by decide +kernel) (by decide +kernel)
theorem wd_642 : (Cond.instanceMethod ({ cls := "LeatherRoomModel", name := "thrown", desc := "()I" } : Jvm.MethodName)) ∈ BG := bg_at 671 (by decide +kernel) (by decide +kernel)
theorem wd_643 : (Cond.selects "LeatherRoomModel" ({ cls := "LeatherRoomModel", name := "thrown", desc := "()I" } : Jvm.MethodName) ({ cls := "LeatherRoomModel", name := "thrown", desc := "()I" } : Jvm.MethodName)) ∈ BG := bg_at 672 (by decide +kernel) (by decide +kernel)
theorem wd_644 : (Cond.code ({ cls := "LeatherRoomModel", name := "thrown", desc := "()I" } : Jvm.MethodName) prog_7_method_2_code (1 : Nat) (Option.some Jvm.ClassFile.FieldType.int)) ∈ BG := bg_at 673 (by decide +kernel) (by decide +kernel)
theorem wd_645 : (Cond.methodLink "LeatherRoomLaw" (63 : Nat) ({ cls := "LeatherRoomModel", name := "corner", desc := "(II)I" } : Jvm.MethodName)) ∈ BG := bg_at 674 (by decide +kernel) (by decide +kernel)
theorem wd_646 : (Cond.instanceMethod ({ cls := "LeatherRoomModel", name := "corner", desc := "(II)I" } : Jvm.MethodName)) ∈ BG := bg_at 675 (by decide +kernel) (by decide +kernel)
theorem wd_647 : (Cond.selects "LeatherRoomModel" ({ cls := "LeatherRoomModel", name := "corner", desc := "(II)I" } : Jvm.MethodName) ({ cls := "LeatherRoomModel", name := "corner", desc := "(II)I" } : Jvm.MethodName)) ∈ BG := bg_at 676 (by decide +kernel) (by decide +kernel)
theorem wd_648 : (Cond.code ({ cls := "LeatherRoomModel", name := "corner", desc := "(II)I" } : Jvm.MethodName) prog_7_method_4_code (3 : Nat) (Option.some Jvm.ClassFile.FieldType.int)) ∈ BG := bg_at 677 (by decide +kernel) (by decide +kernel)
theorem wd_649 : (Cond.methodLink "LeatherRoomLaw" (71 : Nat) ({ cls := "LeatherRoomModel", name := "hide", desc := "()V" } : Jvm.MethodName)) ∈ BG := bg_at 678 (by decide +kernel) (by decide +kernel)
theorem wd_650 : (Cond.instanceMethod ({ cls := "LeatherRoomModel", name := "hide", desc := "()V" } : Jvm.MethodName)) ∈ BG := bg_at 679 (by decide +kernel) (by decide +kernel)
theorem wd_651 : (Cond.selects "LeatherRoomModel" ({ cls := "LeatherRoomModel", name := "hide", desc := "()V" } : Jvm.MethodName) ({ cls := "LeatherRoomModel", name := "hide", desc := "()V" } : Jvm.MethodName)) ∈ BG := bg_at 680 (by decide +kernel) (by decide +kernel)
theorem wd_652 : (Cond.code ({ cls := "LeatherRoomModel", name := "hide", desc := "()V" } : Jvm.MethodName) prog_7_method_11_code (3 : Nat) (Option.none : Option Jvm.ClassFile.FieldType)) ∈ BG := bg_at 681 (by decide +kernel) (by decide +kernel)
theorem wd_653 : (Cond.methodLink "LeatherRoomModel" (100 : Nat) ({ cls := "LeatherRoomModel", name := "count", desc := "()I" } : Jvm.MethodName)) ∈ BG := bg_at 682 (by decide +kernel) (by decide +kernel)
theorem wd_655 : (Cond.instanceMethod ({ cls := "LeatherRoomModel", name := "count", desc := "()I" } : Jvm.MethodName)) ∈ BG := bg_at 684 (by decide +kernel) (by decide +kernel)
theorem wd_656 : (Cond.code ({ cls := "LeatherRoomModel", name := "count", desc := "()I" } : Jvm.MethodName) prog_7_method_3_code (3 : Nat) (Option.some Jvm.ClassFile.FieldType.int)) ∈ BG := bg_at 685 (by decide +kernel) (by decide +kernel)
theorem wd_657 : (Cond.methodLink "LeatherRoomModel" (104 : Nat) ({ cls := "LeatherRoomModel", name := "isPlain", desc := "(I)Z" } : Jvm.MethodName)) ∈ BG := bg_at 686 (by decide +kernel) (by decide +kernel)
theorem wd_659 : (Cond.instanceMethod ({ cls := "LeatherRoomModel", name := "isPlain", desc := "(I)Z" } : Jvm.MethodName)) ∈ BG := bg_at 688 (by decide +kernel) (by decide +kernel)
theorem wd_660 : (Cond.code ({ cls := "LeatherRoomModel", name := "isPlain", desc := "(I)Z" } : Jvm.MethodName) prog_7_method_9_code (8 : Nat) (Option.some Jvm.ClassFile.FieldType.boolean)) ∈ BG := bg_at 689 (by decide +kernel) (by decide +kernel)
theorem wd_661 : (Cond.methodLink "LeatherRoomModel" (94 : Nat) ({ cls := "LeatherRoomModel", name := "isOn", desc := "(III)Z" } : Jvm.MethodName)) ∈ BG := bg_at 690 (by decide +kernel) (by decide +kernel)
theorem wd_663 : (Cond.instanceMethod ({ cls := "LeatherRoomModel", name := "isOn", desc := "(III)Z" } : Jvm.MethodName)) ∈ BG := bg_at 692 (by decide +kernel) (by decide +kernel)
theorem wd_664 : (Cond.code ({ cls := "LeatherRoomModel", name := "isOn", desc := "(III)Z" } : Jvm.MethodName) prog_7_method_7_code (4 : Nat) (Option.some Jvm.ClassFile.FieldType.boolean)) ∈ BG := bg_at 693 (by decide +kernel) (by decide +kernel)
theorem wd_665 : (Cond.methodLink "LeatherRoomModel" (86 : Nat) ({ cls := "LeatherRoomModel", name := "side", desc := "(III)I" } : Jvm.MethodName)) ∈ BG := bg_at 694 (by decide +kernel) (by decide +kernel)
theorem wd_667 : (Cond.instanceMethod ({ cls := "LeatherRoomModel", name := "side", desc := "(III)I" } : Jvm.MethodName)) ∈ BG := bg_at 696 (by decide +kernel) (by decide +kernel)
theorem wd_668 : (Cond.code ({ cls := "LeatherRoomModel", name := "side", desc := "(III)I" } : Jvm.MethodName) prog_7_method_5_code (4 : Nat) (Option.some Jvm.ClassFile.FieldType.int)) ∈ BG := bg_at 697 (by decide +kernel) (by decide +kernel)
theorem wd_669 : (Cond.methodLink "LeatherRoomModel" (90 : Nat) ({ cls := "LeatherRoomModel", name := "within", desc := "(III)Z" } : Jvm.MethodName)) ∈ BG := bg_at 698 (by decide +kernel) (by decide +kernel)
theorem wd_671 : (Cond.instanceMethod ({ cls := "LeatherRoomModel", name := "within", desc := "(III)Z" } : Jvm.MethodName)) ∈ BG := bg_at 700 (by decide +kernel) (by decide +kernel)
theorem wd_672 : (Cond.code ({ cls := "LeatherRoomModel", name := "within", desc := "(III)Z" } : Jvm.MethodName) prog_7_method_6_code (8 : Nat) (Option.some Jvm.ClassFile.FieldType.boolean)) ∈ BG := bg_at 701 (by decide +kernel) (by decide +kernel)
theorem wd_673 : (Cond.methodLink "LeatherRoomModel" (97 : Nat) ({ cls := "LeatherRoomModel", name := "meet", desc := "(III)Z" } : Jvm.MethodName)) ∈ BG := bg_at 702 (by decide +kernel) (by decide +kernel)
theorem wd_675 : (Cond.instanceMethod ({ cls := "LeatherRoomModel", name := "meet", desc := "(III)Z" } : Jvm.MethodName)) ∈ BG := bg_at 704 (by decide +kernel) (by decide +kernel)
theorem wd_676 : (Cond.code ({ cls := "LeatherRoomModel", name := "meet", desc := "(III)Z" } : Jvm.MethodName) prog_7_method_8_code (8 : Nat) (Option.some Jvm.ClassFile.FieldType.boolean)) ∈ BG := bg_at 705 (by decide +kernel) (by decide +kernel)
theorem wd_677 : (Cond.methodLink "LeatherRoomLaw" (75 : Nat) ({ cls := "LeatherRoomModel", name := "zone", desc := "(I)I" } : Jvm.MethodName)) ∈ BG := bg_at 706 (by decide +kernel) (by decide +kernel)
theorem wd_678 : (Cond.instanceMethod ({ cls := "LeatherRoomModel", name := "zone", desc := "(I)I" } : Jvm.MethodName)) ∈ BG := bg_at 707 (by decide +kernel) (by decide +kernel)
theorem wd_679 : (Cond.selects "LeatherRoomModel" ({ cls := "LeatherRoomModel", name := "zone", desc := "(I)I" } : Jvm.MethodName) ({ cls := "LeatherRoomModel", name := "zone", desc := "(I)I" } : Jvm.MethodName)) ∈ BG := bg_at 708 (by decide +kernel) (by decide +kernel)
theorem wd_680 : (Cond.code ({ cls := "LeatherRoomModel", name := "zone", desc := "(I)I" } : Jvm.MethodName) prog_7_method_13_code (4 : Nat) (Option.some Jvm.ClassFile.FieldType.int)) ∈ BG := bg_at 709 (by decide +kernel) (by decide +kernel)
theorem wd_681 : (Cond.methodLink "LeatherRoomModel" (111 : Nat) ({ cls := "LeatherRoomModel", name := "isGrade", desc := "(II)Z" } : Jvm.MethodName)) ∈ BG := bg_at 710 (by decide +kernel) (by decide +kernel)
theorem wd_682 : (Cond.static ({ cls := "LeatherRoomModel", name := "isGrade", desc := "(II)Z" } : Jvm.MethodName)) ∈ BG := bg_at 711 (by decide +kernel) (by decide +kernel)
theorem wd_683 : (Cond.code ({ cls := "LeatherRoomModel", name := "isGrade", desc := "(II)Z" } : Jvm.MethodName) prog_7_method_12_code (2 : Nat) (Option.some Jvm.ClassFile.FieldType.boolean)) ∈ BG := bg_at 712 (by decide +kernel) (by decide +kernel)
theorem wd_684 : (Cond.methodLink "LeatherRoomModel" (115 : Nat) ({ cls := "LeatherRoomModel", name := "isRound", desc := "(I)Z" } : Jvm.MethodName)) ∈ BG := bg_at 713 (by decide +kernel) (by decide +kernel)
theorem wd_686 : (Cond.instanceMethod ({ cls := "LeatherRoomModel", name := "isRound", desc := "(I)Z" } : Jvm.MethodName)) ∈ BG := bg_at 715 (by decide +kernel) (by decide +kernel)
theorem wd_687 : (Cond.code ({ cls := "LeatherRoomModel", name := "isRound", desc := "(I)Z" } : Jvm.MethodName) prog_7_method_10_code (7 : Nat) (Option.some Jvm.ClassFile.FieldType.boolean)) ∈ BG := bg_at 716 (by decide +kernel) (by decide +kernel)
theorem wd_688 : (Cond.methodLink "LeatherRoomLaw" (78 : Nat) ({ cls := "LeatherRoomModel", name := "clear", desc := "()V" } : Jvm.MethodName)) ∈ BG := bg_at 717 (by decide +kernel) (by decide +kernel)
theorem wd_689 : (Cond.instanceMethod ({ cls := "LeatherRoomModel", name := "clear", desc := "()V" } : Jvm.MethodName)) ∈ BG := bg_at 718 (by decide +kernel) (by decide +kernel)
theorem wd_690 : (Cond.selects "LeatherRoomModel" ({ cls := "LeatherRoomModel", name := "clear", desc := "()V" } : Jvm.MethodName) ({ cls := "LeatherRoomModel", name := "clear", desc := "()V" } : Jvm.MethodName)) ∈ BG := bg_at 719 (by decide +kernel) (by decide +kernel)
theorem wd_691 : (Cond.code ({ cls := "LeatherRoomModel", name := "clear", desc := "()V" } : Jvm.MethodName) prog_7_method_14_code (1 : Nat) (Option.none : Option Jvm.ClassFile.FieldType)) ∈ BG := bg_at 720 (by decide +kernel) (by decide +kernel)
theorem wd_692 : (Cond.methodLink "LeatherRoomLaw" (81 : Nat) ({ cls := "LeatherRoomModel", name := "kind", desc := "(II)I" } : Jvm.MethodName)) ∈ BG := bg_at 721 (by decide +kernel) (by decide +kernel)
theorem wd_693 : (Cond.instanceMethod ({ cls := "LeatherRoomModel", name := "kind", desc := "(II)I" } : Jvm.MethodName)) ∈ BG := bg_at 722 (by decide +kernel) (by decide +kernel)
theorem wd_694 : (Cond.selects "LeatherRoomModel" ({ cls := "LeatherRoomModel", name := "kind", desc := "(II)I" } : Jvm.MethodName) ({ cls := "LeatherRoomModel", name := "kind", desc := "(II)I" } : Jvm.MethodName)) ∈ BG := bg_at 723 (by decide +kernel) (by decide +kernel)
theorem wd_695 : (Cond.code ({ cls := "LeatherRoomModel", name := "kind", desc := "(II)I" } : Jvm.MethodName) prog_7_method_15_code (6 : Nat) (Option.some Jvm.ClassFile.FieldType.int)) ∈ BG := bg_at 724 (by decide +kernel) (by decide +kernel)
theorem wd_696 : (Cond.methodLink "LeatherRoomLaw" (85 : Nat) ({ cls := "LeatherRoomModel", name := "fits", desc := "(IIII)Z" } : Jvm.MethodName)) ∈ BG := bg_at 725 (by decide +kernel) (by decide +kernel)
theorem wd_697 : (Cond.instanceMethod ({ cls := "LeatherRoomModel", name := "fits", desc := "(IIII)Z" } : Jvm.MethodName)) ∈ BG := bg_at 726 (by decide +kernel) (by decide +kernel)
theorem wd_698 : (Cond.selects "LeatherRoomModel" ({ cls := "LeatherRoomModel", name := "fits", desc := "(IIII)Z" } : Jvm.MethodName) ({ cls := "LeatherRoomModel", name := "fits", desc := "(IIII)Z" } : Jvm.MethodName)) ∈ BG := bg_at 727 (by decide +kernel) (by decide +kernel)
theorem wd_699 : (Cond.code ({ cls := "LeatherRoomModel", name := "fits", desc := "(IIII)Z" } : Jvm.MethodName) prog_7_method_26_code (5 : Nat) (Option.some Jvm.ClassFile.FieldType.boolean)) ∈ BG := bg_at 728 (by decide +kernel) (by decide +kernel)
theorem wd_700 : (Cond.methodLink "LeatherRoomModel" (155 : Nat) ({ cls := "LeatherRoomModel", name := "isKind", desc := "(I)Z" } : Jvm.MethodName)) ∈ BG := bg_at 729 (by decide +kernel) (by decide +kernel)
theorem wd_702 : (Cond.instanceMethod ({ cls := "LeatherRoomModel", name := "isKind", desc := "(I)Z" } : Jvm.MethodName)) ∈ BG := bg_at 731 (by decide +kernel) (by decide +kernel)
theorem wd_703 : (Cond.code ({ cls := "LeatherRoomModel", name := "isKind", desc := "(I)Z" } : Jvm.MethodName) prog_7_method_24_code (2 : Nat) (Option.some Jvm.ClassFile.FieldType.boolean)) ∈ BG := bg_at 732 (by decide +kernel) (by decide +kernel)
theorem wd_704 : (Cond.methodLink "LeatherRoomModel" (158 : Nat) ({ cls := "LeatherRoomModel", name := "isPlace", desc := "(III)Z" } : Jvm.MethodName)) ∈ BG := bg_at 733 (by decide +kernel) (by decide +kernel)
theorem wd_706 : (Cond.instanceMethod ({ cls := "LeatherRoomModel", name := "isPlace", desc := "(III)Z" } : Jvm.MethodName)) ∈ BG := bg_at 735 (by decide +kernel) (by decide +kernel)
theorem wd_707 : (Cond.code ({ cls := "LeatherRoomModel", name := "isPlace", desc := "(III)Z" } : Jvm.MethodName) prog_7_method_25_code (4 : Nat) (Option.some Jvm.ClassFile.FieldType.boolean)) ∈ BG := bg_at 736 (by decide +kernel) (by decide +kernel)
theorem wd_708 : (Cond.methodLink "LeatherRoomModel" (161 : Nat) ({ cls := "LeatherRoomModel", name := "isFit", desc := "(IIII)Z" } : Jvm.MethodName)) ∈ BG := bg_at 737 (by decide +kernel) (by decide +kernel)
theorem wd_710 : (Cond.instanceMethod ({ cls := "LeatherRoomModel", name := "isFit", desc := "(IIII)Z" } : Jvm.MethodName)) ∈ BG := bg_at 739 (by decide +kernel) (by decide +kernel)
theorem wd_711 : (Cond.code ({ cls := "LeatherRoomModel", name := "isFit", desc := "(IIII)Z" } : Jvm.MethodName) prog_7_method_23_code (6 : Nat) (Option.some Jvm.ClassFile.FieldType.boolean)) ∈ BG := bg_at 740 (by decide +kernel) (by decide +kernel)
theorem wd_712 : (Cond.methodLink "LeatherRoomModel" (142 : Nat) ({ cls := "LeatherRoomModel", name := "shape", desc := "(IIII)V" } : Jvm.MethodName)) ∈ BG := bg_at 741 (by decide +kernel) (by decide +kernel)
theorem wd_714 : (Cond.instanceMethod ({ cls := "LeatherRoomModel", name := "shape", desc := "(IIII)V" } : Jvm.MethodName)) ∈ BG := bg_at 743 (by decide +kernel) (by decide +kernel)
theorem wd_715 : (Cond.code ({ cls := "LeatherRoomModel", name := "shape", desc := "(IIII)V" } : Jvm.MethodName) prog_7_method_16_code (12 : Nat) (Option.none : Option Jvm.ClassFile.FieldType)) ∈ BG := bg_at 744 (by decide +kernel) (by decide +kernel)
theorem wd_716 : (Cond.methodLink "LeatherRoomModel" (146 : Nat) ({ cls := "LeatherRoomModel", name := "isInHide", desc := "()Z" } : Jvm.MethodName)) ∈ BG := bg_at 745 (by decide +kernel) (by decide +kernel)
theorem wd_718 : (Cond.instanceMethod ({ cls := "LeatherRoomModel", name := "isInHide", desc := "()Z" } : Jvm.MethodName)) ∈ BG := bg_at 747 (by decide +kernel) (by decide +kernel)
theorem wd_719 : (Cond.code ({ cls := "LeatherRoomModel", name := "isInHide", desc := "()Z" } : Jvm.MethodName) prog_7_method_20_code (3 : Nat) (Option.some Jvm.ClassFile.FieldType.boolean)) ∈ BG := bg_at 748 (by decide +kernel) (by decide +kernel)
theorem wd_720 : (Cond.methodLink "LeatherRoomModel" (135 : Nat) ({ cls := "LeatherRoomModel", name := "overlaps", desc := "()Z" } : Jvm.MethodName)) ∈ BG := bg_at 749 (by decide +kernel) (by decide +kernel)
theorem wd_722 : (Cond.instanceMethod ({ cls := "LeatherRoomModel", name := "overlaps", desc := "()Z" } : Jvm.MethodName)) ∈ BG := bg_at 751 (by decide +kernel) (by decide +kernel)
theorem wd_723 : (Cond.code ({ cls := "LeatherRoomModel", name := "overlaps", desc := "()Z" } : Jvm.MethodName) prog_7_method_18_code (3 : Nat) (Option.some Jvm.ClassFile.FieldType.boolean)) ∈ BG := bg_at 752 (by decide +kernel) (by decide +kernel)
theorem wd_724 : (Cond.methodLink "LeatherRoomModel" (132 : Nat) ({ cls := "LeatherRoomModel", name := "isParted", desc := "(II)Z" } : Jvm.MethodName)) ∈ BG := bg_at 753 (by decide +kernel) (by decide +kernel)
theorem wd_726 : (Cond.instanceMethod ({ cls := "LeatherRoomModel", name := "isParted", desc := "(II)Z" } : Jvm.MethodName)) ∈ BG := bg_at 755 (by decide +kernel) (by decide +kernel)
theorem wd_727 : (Cond.code ({ cls := "LeatherRoomModel", name := "isParted", desc := "(II)Z" } : Jvm.MethodName) prog_7_method_17_code (9 : Nat) (Option.some Jvm.ClassFile.FieldType.boolean)) ∈ BG := bg_at 756 (by decide +kernel) (by decide +kernel)
theorem wd_728 : (Cond.constant "LeatherRoomModel" (127 : Nat) (1000000 : Int32)) ∈ BG := bg_at 757 (by decide +kernel) (by decide +kernel)
theorem wd_729 : (Cond.constant "LeatherRoomModel" (128 : Nat) (-1000000 : Int32)) ∈ BG := bg_at 758 (by decide +kernel) (by decide +kernel)
theorem wd_730 : (Cond.methodLink "LeatherRoomModel" (139 : Nat) ({ cls := "LeatherRoomModel", name := "isMiddleInside", desc := "()Z" } : Jvm.MethodName)) ∈ BG := bg_at 759 (by decide +kernel) (by decide +kernel)
theorem wd_732 : (Cond.instanceMethod ({ cls := "LeatherRoomModel", name := "isMiddleInside", desc := "()Z" } : Jvm.MethodName)) ∈ BG := bg_at 761 (by decide +kernel) (by decide +kernel)
theorem wd_733 : (Cond.code ({ cls := "LeatherRoomModel", name := "isMiddleInside", desc := "()Z" } : Jvm.MethodName) prog_7_method_19_code (11 : Nat) (Option.some Jvm.ClassFile.FieldType.boolean)) ∈ BG := bg_at 762 (by decide +kernel) (by decide +kernel)
theorem wd_734 : (Cond.methodLink "LeatherRoomModel" (149 : Nat) ({ cls := "LeatherRoomModel", name := "isOffZones", desc := "(I)Z" } : Jvm.MethodName)) ∈ BG := bg_at 763 (by decide +kernel) (by decide +kernel)
theorem wd_736 : (Cond.instanceMethod ({ cls := "LeatherRoomModel", name := "isOffZones", desc := "(I)Z" } : Jvm.MethodName)) ∈ BG := bg_at 765 (by decide +kernel) (by decide +kernel)
theorem wd_737 : (Cond.code ({ cls := "LeatherRoomModel", name := "isOffZones", desc := "(I)Z" } : Jvm.MethodName) prog_7_method_21_code (4 : Nat) (Option.some Jvm.ClassFile.FieldType.boolean)) ∈ BG := bg_at 766 (by decide +kernel) (by decide +kernel)
theorem wd_738 : (Cond.methodLink "LeatherRoomModel" (152 : Nat) ({ cls := "LeatherRoomModel", name := "isBesideParts", desc := "()Z" } : Jvm.MethodName)) ∈ BG := bg_at 767 (by decide +kernel) (by decide +kernel)
theorem wd_740 : (Cond.instanceMethod ({ cls := "LeatherRoomModel", name := "isBesideParts", desc := "()Z" } : Jvm.MethodName)) ∈ BG := bg_at 769 (by decide +kernel) (by decide +kernel)
theorem wd_741 : (Cond.code ({ cls := "LeatherRoomModel", name := "isBesideParts", desc := "()Z" } : Jvm.MethodName) prog_7_method_22_code (3 : Nat) (Option.some Jvm.ClassFile.FieldType.boolean)) ∈ BG := bg_at 770 (by decide +kernel) (by decide +kernel)
theorem wd_742 : (Cond.methodLink "LeatherRoomLaw" (88 : Nat) ({ cls := "LeatherRoomModel", name := "best", desc := "(I)I" } : Jvm.MethodName)) ∈ BG := bg_at 771 (by decide +kernel) (by decide +kernel)
theorem wd_743 : (Cond.instanceMethod ({ cls := "LeatherRoomModel", name := "best", desc := "(I)I" } : Jvm.MethodName)) ∈ BG := bg_at 772 (by decide +kernel) (by decide +kernel)
theorem wd_744 : (Cond.selects "LeatherRoomModel" ({ cls := "LeatherRoomModel", name := "best", desc := "(I)I" } : Jvm.MethodName) ({ cls := "LeatherRoomModel", name := "best", desc := "(I)I" } : Jvm.MethodName)) ∈ BG := bg_at 773 (by decide +kernel) (by decide +kernel)
theorem wd_745 : (Cond.code ({ cls := "LeatherRoomModel", name := "best", desc := "(I)I" } : Jvm.MethodName) prog_7_method_28_code (3 : Nat) (Option.some Jvm.ClassFile.FieldType.int)) ∈ BG := bg_at 774 (by decide +kernel) (by decide +kernel)
theorem wd_746 : (Cond.methodLink "LeatherRoomModel" (165 : Nat) ({ cls := "LeatherRoomModel", name := "search", desc := "(I)I" } : Jvm.MethodName)) ∈ BG := bg_at 775 (by decide +kernel) (by decide +kernel)
theorem wd_748 : (Cond.instanceMethod ({ cls := "LeatherRoomModel", name := "search", desc := "(I)I" } : Jvm.MethodName)) ∈ BG := bg_at 777 (by decide +kernel) (by decide +kernel)
theorem wd_749 : (Cond.code ({ cls := "LeatherRoomModel", name := "search", desc := "(I)I" } : Jvm.MethodName) prog_7_method_27_code (5 : Nat) (Option.some Jvm.ClassFile.FieldType.int)) ∈ BG := bg_at 778 (by decide +kernel) (by decide +kernel)
theorem wd_750 : (Cond.methodLink "LeatherRoomLaw" (91 : Nat) ({ cls := "LeatherRoomModel", name := "lay", desc := "(I)I" } : Jvm.MethodName)) ∈ BG := bg_at 779 (by decide +kernel) (by decide +kernel)
theorem wd_751 : (Cond.instanceMethod ({ cls := "LeatherRoomModel", name := "lay", desc := "(I)I" } : Jvm.MethodName)) ∈ BG := bg_at 780 (by decide +kernel) (by decide +kernel)
theorem wd_752 : (Cond.selects "LeatherRoomModel" ({ cls := "LeatherRoomModel", name := "lay", desc := "(I)I" } : Jvm.MethodName) ({ cls := "LeatherRoomModel", name := "lay", desc := "(I)I" } : Jvm.MethodName)) ∈ BG := bg_at 781 (by decide +kernel) (by decide +kernel)
theorem wd_753 : (Cond.code ({ cls := "LeatherRoomModel", name := "lay", desc := "(I)I" } : Jvm.MethodName) prog_7_method_30_code (3 : Nat) (Option.some Jvm.ClassFile.FieldType.int)) ∈ BG := bg_at 782 (by decide +kernel) (by decide +kernel)
theorem wd_754 : (Cond.methodLink "LeatherRoomModel" (169 : Nat) ({ cls := "LeatherRoomModel", name := "place", desc := "(IIII)I" } : Jvm.MethodName)) ∈ BG := bg_at 783 (by decide +kernel) (by decide +kernel)
theorem wd_756 : (Cond.instanceMethod ({ cls := "LeatherRoomModel", name := "place", desc := "(IIII)I" } : Jvm.MethodName)) ∈ BG := bg_at 785 (by decide +kernel) (by decide +kernel)
theorem wd_757 : (Cond.code ({ cls := "LeatherRoomModel", name := "place", desc := "(IIII)I" } : Jvm.MethodName) prog_7_method_29_code (7 : Nat) (Option.some Jvm.ClassFile.FieldType.int)) ∈ BG := bg_at 786 (by decide +kernel) (by decide +kernel)
theorem wd_758 : (Cond.methodLink "LeatherRoomLaw" (94 : Nat) ({ cls := "LeatherRoomModel", name := "put", desc := "(IIII)I" } : Jvm.MethodName)) ∈ BG := bg_at 787 (by decide +kernel) (by decide +kernel)
theorem wd_759 : (Cond.instanceMethod ({ cls := "LeatherRoomModel", name := "put", desc := "(IIII)I" } : Jvm.MethodName)) ∈ BG := bg_at 788 (by decide +kernel) (by decide +kernel)
theorem wd_760 : (Cond.selects "LeatherRoomModel" ({ cls := "LeatherRoomModel", name := "put", desc := "(IIII)I" } : Jvm.MethodName) ({ cls := "LeatherRoomModel", name := "put", desc := "(IIII)I" } : Jvm.MethodName)) ∈ BG := bg_at 789 (by decide +kernel) (by decide +kernel)
theorem wd_761 : (Cond.code ({ cls := "LeatherRoomModel", name := "put", desc := "(IIII)I" } : Jvm.MethodName) prog_7_method_31_code (5 : Nat) (Option.some Jvm.ClassFile.FieldType.int)) ∈ BG := bg_at 790 (by decide +kernel) (by decide +kernel)
theorem wd_762 : (Cond.methodLink "LeatherRoomLaw" (97 : Nat) ({ cls := "LeatherRoomModel", name := "take", desc := "(I)I" } : Jvm.MethodName)) ∈ BG := bg_at 791 (by decide +kernel) (by decide +kernel)
theorem wd_763 : (Cond.instanceMethod ({ cls := "LeatherRoomModel", name := "take", desc := "(I)I" } : Jvm.MethodName)) ∈ BG := bg_at 792 (by decide +kernel) (by decide +kernel)
theorem wd_764 : (Cond.selects "LeatherRoomModel" ({ cls := "LeatherRoomModel", name := "take", desc := "(I)I" } : Jvm.MethodName) ({ cls := "LeatherRoomModel", name := "take", desc := "(I)I" } : Jvm.MethodName)) ∈ BG := bg_at 793 (by decide +kernel) (by decide +kernel)
theorem wd_765 : (Cond.code ({ cls := "LeatherRoomModel", name := "take", desc := "(I)I" } : Jvm.MethodName) prog_7_method_33_code (3 : Nat) (Option.some Jvm.ClassFile.FieldType.int)) ∈ BG := bg_at 794 (by decide +kernel) (by decide +kernel)
theorem wd_766 : (Cond.methodLink "LeatherRoomModel" (173 : Nat) ({ cls := "LeatherRoomModel", name := "isPart", desc := "(I)Z" } : Jvm.MethodName)) ∈ BG := bg_at 795 (by decide +kernel) (by decide +kernel)
theorem wd_768 : (Cond.instanceMethod ({ cls := "LeatherRoomModel", name := "isPart", desc := "(I)Z" } : Jvm.MethodName)) ∈ BG := bg_at 797 (by decide +kernel) (by decide +kernel)
theorem wd_769 : (Cond.code ({ cls := "LeatherRoomModel", name := "isPart", desc := "(I)Z" } : Jvm.MethodName) prog_7_method_32_code (2 : Nat) (Option.some Jvm.ClassFile.FieldType.boolean)) ∈ BG := bg_at 798 (by decide +kernel) (by decide +kernel)
theorem wd_770 : (Cond.methodLink "LeatherRoomLaw" (101 : Nat) ({ cls := "LeatherRoomModel", name := "strip", desc := "()I" } : Jvm.MethodName)) ∈ BG := bg_at 799 (by decide +kernel) (by decide +kernel)
theorem wd_771 : (Cond.instanceMethod ({ cls := "LeatherRoomModel", name := "strip", desc := "()I" } : Jvm.MethodName)) ∈ BG := bg_at 800 (by decide +kernel) (by decide +kernel)
theorem wd_772 : (Cond.selects "LeatherRoomModel" ({ cls := "LeatherRoomModel", name := "strip", desc := "()I" } : Jvm.MethodName) ({ cls := "LeatherRoomModel", name := "strip", desc := "()I" } : Jvm.MethodName)) ∈ BG := bg_at 801 (by decide +kernel) (by decide +kernel)
theorem wd_773 : (Cond.code ({ cls := "LeatherRoomModel", name := "strip", desc := "()I" } : Jvm.MethodName) prog_7_method_34_code (3 : Nat) (Option.some Jvm.ClassFile.FieldType.int)) ∈ BG := bg_at 802 (by decide +kernel) (by decide +kernel)
theorem wd_774 : (Cond.methodLink "LeatherRoomLaw" (104 : Nat) ({ cls := "LeatherRoomModel", name := "part", desc := "(II)I" } : Jvm.MethodName)) ∈ BG := bg_at 803 (by decide +kernel) (by decide +kernel)
theorem wd_775 : (Cond.instanceMethod ({ cls := "LeatherRoomModel", name := "part", desc := "(II)I" } : Jvm.MethodName)) ∈ BG := bg_at 804 (by decide +kernel) (by decide +kernel)
theorem wd_776 : (Cond.selects "LeatherRoomModel" ({ cls := "LeatherRoomModel", name := "part", desc := "(II)I" } : Jvm.MethodName) ({ cls := "LeatherRoomModel", name := "part", desc := "(II)I" } : Jvm.MethodName)) ∈ BG := bg_at 805 (by decide +kernel) (by decide +kernel)
theorem wd_777 : (Cond.code ({ cls := "LeatherRoomModel", name := "part", desc := "(II)I" } : Jvm.MethodName) prog_7_method_35_code (3 : Nat) (Option.some Jvm.ClassFile.FieldType.int)) ∈ BG := bg_at 806 (by decide +kernel) (by decide +kernel)
theorem wd_778 : (Cond.methodLink "LeatherRoomLaw" (108 : Nat) ({ cls := "LeatherRoomModel", name := "parts", desc := "()I" } : Jvm.MethodName)) ∈ BG := bg_at 807 (by decide +kernel) (by decide +kernel)
theorem wd_779 : (Cond.instanceMethod ({ cls := "LeatherRoomModel", name := "parts", desc := "()I" } : Jvm.MethodName)) ∈ BG := bg_at 808 (by decide +kernel) (by decide +kernel)
theorem wd_780 : (Cond.selects "LeatherRoomModel" ({ cls := "LeatherRoomModel", name := "parts", desc := "()I" } : Jvm.MethodName) ({ cls := "LeatherRoomModel", name := "parts", desc := "()I" } : Jvm.MethodName)) ∈ BG := bg_at 809 (by decide +kernel) (by decide +kernel)
theorem wd_781 : (Cond.code ({ cls := "LeatherRoomModel", name := "parts", desc := "()I" } : Jvm.MethodName) prog_7_method_36_code (1 : Nat) (Option.some Jvm.ClassFile.FieldType.int)) ∈ BG := bg_at 810 (by decide +kernel) (by decide +kernel)
theorem wd_782 : (Cond.methodLink "LeatherRoomLaw" (112 : Nat) ({ cls := "LeatherRoomModel", name := "free", desc := "()I" } : Jvm.MethodName)) ∈ BG := bg_at 811 (by decide +kernel) (by decide +kernel)
theorem wd_783 : (Cond.instanceMethod ({ cls := "LeatherRoomModel", name := "free", desc := "()I" } : Jvm.MethodName)) ∈ BG := bg_at 812 (by decide +kernel) (by decide +kernel)
theorem wd_784 : (Cond.selects "LeatherRoomModel" ({ cls := "LeatherRoomModel", name := "free", desc := "()I" } : Jvm.MethodName) ({ cls := "LeatherRoomModel", name := "free", desc := "()I" } : Jvm.MethodName)) ∈ BG := bg_at 813 (by decide +kernel) (by decide +kernel)
theorem wd_785 : (Cond.code ({ cls := "LeatherRoomModel", name := "free", desc := "()I" } : Jvm.MethodName) prog_7_method_38_code (7 : Nat) (Option.some Jvm.ClassFile.FieldType.int)) ∈ BG := bg_at 814 (by decide +kernel) (by decide +kernel)
theorem wd_786 : (Cond.methodLink "LeatherRoomModel" (176 : Nat) ({ cls := "LeatherRoomModel", name := "size", desc := "(I)I" } : Jvm.MethodName)) ∈ BG := bg_at 815 (by decide +kernel) (by decide +kernel)
theorem wd_787 : (Cond.static ({ cls := "LeatherRoomModel", name := "size", desc := "(I)I" } : Jvm.MethodName)) ∈ BG := bg_at 816 (by decide +kernel) (by decide +kernel)
theorem wd_788 : (Cond.code ({ cls := "LeatherRoomModel", name := "size", desc := "(I)I" } : Jvm.MethodName) prog_7_method_37_code (1 : Nat) (Option.some Jvm.ClassFile.FieldType.int)) ∈ BG := bg_at 817 (by decide +kernel) (by decide +kernel)
theorem wd_789 : (Cond.arrayClass Jvm.ClassFile.FieldType.long) ∈ BG := bg_at 818 (by decide +kernel) (by decide +kernel)
end
section
-- names of methods, their code, their words; fields
def y_R_init : MethodName := ⟨"LeatherRoom", "<init>", "()V"⟩
abbrev c_R_init : ByteArray := prog_1_method_1_code
def w_R_init : List Cond := .code y_R_init c_R_init 2 none :: BG
def y_JObject_init : MethodName := ⟨"java/lang/Object", "<init>", "()V"⟩
abbrev c_JObject_init : ByteArray := object_method_1_code
def w_JObject_init : List Cond := .code y_JObject_init c_JObject_init 1 none :: BG
def y_S_init : MethodName := ⟨"LeatherRoom$Shape", "<init>", "()V"⟩
abbrev c_S_init : ByteArray := prog_4_method_1_code
def w_S_init : List Cond := .code y_S_init c_S_init 1 none :: BG
def y_Z_init : MethodName := ⟨"LeatherRoom$Zone", "<init>", "()V"⟩
abbrev c_Z_init : ByteArray := prog_5_method_1_code
def w_Z_init : List Cond := .code y_Z_init c_Z_init 1 none :: BG
def y_K_init : MethodName := ⟨"LeatherRoom$Kind", "<init>", "()V"⟩
abbrev c_K_init : ByteArray := prog_2_method_1_code
def w_K_init : List Cond := .code y_K_init c_K_init 2 none :: BG
def y_P_init : MethodName := ⟨"LeatherRoom$Part", "<init>", "()V"⟩
abbrev c_P_init : ByteArray := prog_3_method_1_code
def w_P_init : List Cond := .code y_P_init c_P_init 1 none :: BG
def y_R_strip : MethodName := ⟨"LeatherRoom", "strip", "()I"⟩
abbrev c_R_strip : ByteArray := prog_1_method_12_code
def w_R_strip : List Cond := .code y_R_strip c_R_strip 3 (some .int) :: BG
def y_R_parts : MethodName := ⟨"LeatherRoom", "parts", "()I"⟩
abbrev c_R_parts : ByteArray := prog_1_method_14_code
def w_R_parts : List Cond := .code y_R_parts c_R_parts 1 (some .int) :: BG
def y_R_free : MethodName := ⟨"LeatherRoom", "free", "()I"⟩
abbrev c_R_free : ByteArray := prog_1_method_15_code
def w_R_free : List Cond := .code y_R_free c_R_free 3 (some .int) :: BG
def y_S_doubleArea : MethodName := ⟨"LeatherRoom$Shape", "doubleArea", "()I"⟩
abbrev c_S_doubleArea : ByteArray := prog_4_method_8_code
def w_S_doubleArea : List Cond := .code y_S_doubleArea c_S_doubleArea 4 (some .int) :: BG
def y_S_next : MethodName := ⟨"LeatherRoom$Shape", "next", "(I)I"⟩
abbrev c_S_next : ByteArray := prog_4_method_7_code
def w_S_next : List Cond := .code y_S_next c_S_next 2 (some .int) :: BG
def y_JMath_abs : MethodName := ⟨"java/lang/Math", "abs", "(I)I"⟩
abbrev c_JMath_abs : ByteArray := prog_12_method_59_code
def w_JMath_abs : List Cond := .code y_JMath_abs c_JMath_abs 1 (some .int) :: BG
def y_L_corner : MethodName := ⟨"LeatherRoomLaw", "corner", "(LLeatherRoom;II[J)I"⟩
abbrev c_L_corner : ByteArray := method_3_code
def w_L_corner : List Cond := .codeWith y_L_corner c_L_corner 5 (some .int) [((0 : Nat), (10 : Nat), (13 : Nat), (13 : Nat)), ((0 : Nat), (10 : Nat), (17 : Nat), (15 : Nat))] :: BG
def y_R_corner : MethodName := ⟨"LeatherRoom", "corner", "(II)I"⟩
abbrev c_R_corner : ByteArray := prog_1_method_2_code
def w_R_corner : List Cond := .code y_R_corner c_R_corner 3 (some .int) :: BG
def y_R_isPoint : MethodName := ⟨"LeatherRoom", "isPoint", "(II)Z"⟩
abbrev c_R_isPoint : ByteArray := prog_1_method_16_code
def w_R_isPoint : List Cond := .code y_R_isPoint c_R_isPoint 2 (some .boolean) :: BG
def y_JThrowable_init : MethodName := ⟨"java/lang/Throwable", "<init>", "()V"⟩
abbrev c_JThrowable_init : ByteArray := prog_15_method_1_code
def w_JThrowable_init : List Cond := .code y_JThrowable_init c_JThrowable_init 1 none :: BG
def y_JIllegalArgumentException_init : MethodName := ⟨"java/lang/IllegalArgumentException", "<init>", "(Ljava/lang/String;)V"⟩
abbrev c_JIllegalArgumentException_init : ByteArray := prog_9_method_2_code
def w_JIllegalArgumentException_init : List Cond := .code y_JIllegalArgumentException_init c_JIllegalArgumentException_init 2 none :: BG
def y_JRuntimeException_init : MethodName := ⟨"java/lang/RuntimeException", "<init>", "(Ljava/lang/String;)V"⟩
abbrev c_JRuntimeException_init : ByteArray := prog_13_method_2_code
def w_JRuntimeException_init : List Cond := .code y_JRuntimeException_init c_JRuntimeException_init 2 none :: BG
def y_JException_init : MethodName := ⟨"java/lang/Exception", "<init>", "(Ljava/lang/String;)V"⟩
abbrev c_JException_init : ByteArray := prog_8_method_2_code
def w_JException_init : List Cond := .code y_JException_init c_JException_init 2 none :: BG
def y_JThrowable_init_1 : MethodName := ⟨"java/lang/Throwable", "<init>", "(Ljava/lang/String;)V"⟩
abbrev c_JThrowable_init_1 : ByteArray := prog_15_method_2_code
def w_JThrowable_init_1 : List Cond := .code y_JThrowable_init_1 c_JThrowable_init_1 2 none :: BG
def y_JIllegalStateException_init : MethodName := ⟨"java/lang/IllegalStateException", "<init>", "(Ljava/lang/String;)V"⟩
abbrev c_JIllegalStateException_init : ByteArray := prog_10_method_2_code
def w_JIllegalStateException_init : List Cond := .code y_JIllegalStateException_init c_JIllegalStateException_init 2 none :: BG
def y_S_add : MethodName := ⟨"LeatherRoom$Shape", "add", "(II)V"⟩
abbrev c_S_add : ByteArray := prog_4_method_3_code
def w_S_add : List Cond := .code y_S_add c_S_add 3 none :: BG
def y_JMath_min : MethodName := ⟨"java/lang/Math", "min", "(II)I"⟩
abbrev c_JMath_min : ByteArray := prog_12_method_69_code
def w_JMath_min : List Cond := .code y_JMath_min c_JMath_min 2 (some .int) :: BG
def y_JMath_max : MethodName := ⟨"java/lang/Math", "max", "(II)I"⟩
abbrev c_JMath_max : ByteArray := prog_12_method_65_code
def w_JMath_max : List Cond := .code y_JMath_max c_JMath_max 2 (some .int) :: BG
def y_L_hide : MethodName := ⟨"LeatherRoomLaw", "hide", "(LLeatherRoom;)I"⟩
abbrev c_L_hide : ByteArray := method_4_code
def w_L_hide : List Cond := .codeWith y_L_hide c_L_hide 2 (some .int) [((0 : Nat), (4 : Nat), (7 : Nat), (15 : Nat)), ((0 : Nat), (4 : Nat), (10 : Nat), (13 : Nat))] :: BG
def y_R_hide : MethodName := ⟨"LeatherRoom", "hide", "()V"⟩
abbrev c_R_hide : ByteArray := prog_1_method_3_code
def w_R_hide : List Cond := .code y_R_hide c_R_hide 2 none :: BG
def y_R_endWait : MethodName := ⟨"LeatherRoom", "endWait", "()LLeatherRoom$Shape;"⟩
abbrev c_R_endWait : ByteArray := prog_1_method_20_code
def w_R_endWait : List Cond := .code y_R_endWait c_R_endWait 1 (some (.object "LeatherRoom$Shape")) :: BG
def y_S_copy : MethodName := ⟨"LeatherRoom$Shape", "copy", "(LLeatherRoom$Shape;II)V"⟩
abbrev c_S_copy : ByteArray := prog_4_method_4_code
def w_S_copy : List Cond := .code y_S_copy c_S_copy 5 none :: BG
def y_S_empty : MethodName := ⟨"LeatherRoom$Shape", "empty", "()V"⟩
abbrev c_S_empty : ByteArray := prog_4_method_2_code
def w_S_empty : List Cond := .code y_S_empty c_S_empty 1 none :: BG
def y_S_isPlain : MethodName := ⟨"LeatherRoom$Shape", "isPlain", "()Z"⟩
abbrev c_S_isPlain : ByteArray := prog_4_method_11_code
def w_S_isPlain : List Cond := .code y_S_isPlain c_S_isPlain 4 (some .boolean) :: BG
def y_S_foldsBack : MethodName := ⟨"LeatherRoom$Shape", "foldsBack", "(I)Z"⟩
abbrev c_S_foldsBack : ByteArray := prog_4_method_12_code
def w_S_foldsBack : List Cond := .code y_S_foldsBack c_S_foldsBack 5 (some .boolean) :: BG
def y_S_beside : MethodName := ⟨"LeatherRoom$Shape", "beside", "(III)I"⟩
abbrev c_S_beside : ByteArray := prog_4_method_9_code
def w_S_beside : List Cond := .code y_S_beside c_S_beside 5 (some .int) :: BG
def y_S_sidesMeet : MethodName := ⟨"LeatherRoom$Shape", "sidesMeet", "(II)Z"⟩
abbrev c_S_sidesMeet : ByteArray := prog_4_method_13_code
def w_S_sidesMeet : List Cond := .code y_S_sidesMeet c_S_sidesMeet 3 (some .boolean) :: BG
def y_S_rangesMeet : MethodName := ⟨"LeatherRoom$Shape", "rangesMeet", "(IIII)Z"⟩
abbrev c_S_rangesMeet : ByteArray := prog_4_method_15_code
def w_S_rangesMeet : List Cond := .code y_S_rangesMeet c_S_rangesMeet 4 (some .boolean) :: BG
def y_S_lineMeets : MethodName := ⟨"LeatherRoom$Shape", "lineMeets", "(II)Z"⟩
abbrev c_S_lineMeets : ByteArray := prog_4_method_14_code
def w_S_lineMeets : List Cond := .code y_S_lineMeets c_S_lineMeets 6 (some .boolean) :: BG
def y_JInteger_signum : MethodName := ⟨"java/lang/Integer", "signum", "(I)I"⟩
abbrev c_JInteger_signum : ByteArray := prog_11_method_56_code
def w_JInteger_signum : List Cond := .code y_JInteger_signum c_JInteger_signum 1 (some .int) :: BG
def y_L_zone : MethodName := ⟨"LeatherRoomLaw", "zone", "(LLeatherRoom;I[J)I"⟩
abbrev c_L_zone : ByteArray := method_5_code
def w_L_zone : List Cond := .codeWith y_L_zone c_L_zone 4 (some .int) [((0 : Nat), (9 : Nat), (12 : Nat), (13 : Nat)), ((0 : Nat), (9 : Nat), (15 : Nat), (15 : Nat))] :: BG
def y_R_zone : MethodName := ⟨"LeatherRoom", "zone", "(I)I"⟩
abbrev c_R_zone : ByteArray := prog_1_method_4_code
def w_R_zone : List Cond := .code y_R_zone c_R_zone 3 (some .int) :: BG
def y_S_isRound : MethodName := ⟨"LeatherRoom$Shape", "isRound", "()Z"⟩
abbrev c_S_isRound : ByteArray := prog_4_method_10_code
def w_S_isRound : List Cond := .code y_S_isRound c_S_isRound 5 (some .boolean) :: BG
def y_Z_become : MethodName := ⟨"LeatherRoom$Zone", "become", "(ILLeatherRoom$Shape;)V"⟩
abbrev c_Z_become : ByteArray := prog_5_method_2_code
def w_Z_become : List Cond := .code y_Z_become c_Z_become 3 none :: BG
def y_S_copyLeftward : MethodName := ⟨"LeatherRoom$Shape", "copyLeftward", "(LLeatherRoom$Shape;II)V"⟩
abbrev c_S_copyLeftward : ByteArray := prog_4_method_5_code
def w_S_copyLeftward : List Cond := .code y_S_copyLeftward c_S_copyLeftward 5 none :: BG
def y_L_clear : MethodName := ⟨"LeatherRoomLaw", "clear", "(LLeatherRoom;)I"⟩
abbrev c_L_clear : ByteArray := method_6_code
def w_L_clear : List Cond := .codeWith y_L_clear c_L_clear 2 (some .int) [((0 : Nat), (4 : Nat), (7 : Nat), (15 : Nat))] :: BG
def y_R_clear : MethodName := ⟨"LeatherRoom", "clear", "()V"⟩
abbrev c_R_clear : ByteArray := prog_1_method_5_code
def w_R_clear : List Cond := .code y_R_clear c_R_clear 1 none :: BG
def y_L_kind : MethodName := ⟨"LeatherRoomLaw", "kind", "(LLeatherRoom;II[J)I"⟩
abbrev c_L_kind : ByteArray := method_7_code
def w_L_kind : List Cond := .codeWith y_L_kind c_L_kind 5 (some .int) [((0 : Nat), (10 : Nat), (13 : Nat), (13 : Nat)), ((0 : Nat), (10 : Nat), (17 : Nat), (15 : Nat))] :: BG
def y_R_kind : MethodName := ⟨"LeatherRoom", "kind", "(II)I"⟩
abbrev c_R_kind : ByteArray := prog_1_method_6_code
def w_R_kind : List Cond := .code y_R_kind c_R_kind 4 (some .int) :: BG
def y_K_become : MethodName := ⟨"LeatherRoom$Kind", "become", "(IILLeatherRoom$Shape;)V"⟩
abbrev c_K_become : ByteArray := prog_2_method_2_code
def w_K_become : List Cond := .code y_K_become c_K_become 5 none :: BG
def y_S_copyTurned : MethodName := ⟨"LeatherRoom$Shape", "copyTurned", "(LLeatherRoom$Shape;)V"⟩
abbrev c_S_copyTurned : ByteArray := prog_4_method_6_code
def w_S_copyTurned : List Cond := .code y_S_copyTurned c_S_copyTurned 3 none :: BG
def y_L_fits : MethodName := ⟨"LeatherRoomLaw", "fits", "(LLeatherRoom;IIII[J)I"⟩
abbrev c_L_fits : ByteArray := method_8_code
def w_L_fits : List Cond := .codeWith y_L_fits c_L_fits 7 (some .int) [((0 : Nat), (21 : Nat), (24 : Nat), (13 : Nat))] :: BG
def y_R_fits : MethodName := ⟨"LeatherRoom", "fits", "(IIII)Z"⟩
abbrev c_R_fits : ByteArray := prog_1_method_7_code
def w_R_fits : List Cond := .code y_R_fits c_R_fits 5 (some .boolean) :: BG
def y_R_isKind : MethodName := ⟨"LeatherRoom", "isKind", "(I)Z"⟩
abbrev c_R_isKind : ByteArray := prog_1_method_18_code
def w_R_isKind : List Cond := .code y_R_isKind c_R_isKind 2 (some .boolean) :: BG
def y_R_isTurn : MethodName := ⟨"LeatherRoom", "isTurn", "(I)Z"⟩
abbrev c_R_isTurn : ByteArray := prog_1_method_17_code
def w_R_isTurn : List Cond := .code y_R_isTurn c_R_isTurn 1 (some .boolean) :: BG
def y_R_canLie : MethodName := ⟨"LeatherRoom", "canLie", "(LLeatherRoom$Kind;III)Z"⟩
abbrev c_R_canLie : ByteArray := prog_1_method_21_code
def w_R_canLie : List Cond := .code y_R_canLie c_R_canLie 6 (some .boolean) :: BG
def y_K_hasTurn : MethodName := ⟨"LeatherRoom$Kind", "hasTurn", "(I)Z"⟩
abbrev c_K_hasTurn : ByteArray := prog_2_method_3_code
def w_K_hasTurn : List Cond := .code y_K_hasTurn c_K_hasTurn 2 (some .boolean) :: BG
def y_S_boxHolds : MethodName := ⟨"LeatherRoom$Shape", "boxHolds", "(LLeatherRoom$Shape;II)Z"⟩
abbrev c_S_boxHolds : ByteArray := prog_4_method_16_code
def w_S_boxHolds : List Cond := .code y_S_boxHolds c_S_boxHolds 4 (some .boolean) :: BG
def y_R_isOffParts : MethodName := ⟨"LeatherRoom", "isOffParts", "(LLeatherRoom$Shape;II)Z"⟩
abbrev c_R_isOffParts : ByteArray := prog_1_method_22_code
def w_R_isOffParts : List Cond := .code y_R_isOffParts c_R_isOffParts 5 (some .boolean) :: BG
def y_S_overlaps : MethodName := ⟨"LeatherRoom$Shape", "overlaps", "(LLeatherRoom$Shape;II)Z"⟩
abbrev c_S_overlaps : ByteArray := prog_4_method_17_code
def w_S_overlaps : List Cond := .code y_S_overlaps c_S_overlaps 5 (some .boolean) :: BG
def y_S_sideParts : MethodName := ⟨"LeatherRoom$Shape", "sideParts", "(LLeatherRoom$Shape;II)Z"⟩
abbrev c_S_sideParts : ByteArray := prog_4_method_18_code
def w_S_sideParts : List Cond := .code y_S_sideParts c_S_sideParts 7 (some .boolean) :: BG
def y_R_isOffZones : MethodName := ⟨"LeatherRoom", "isOffZones", "(LLeatherRoom$Shape;III)Z"⟩
abbrev c_R_isOffZones : ByteArray := prog_1_method_23_code
def w_R_isOffZones : List Cond := .code y_R_isOffZones c_R_isOffZones 6 (some .boolean) :: BG
def y_S_holds : MethodName := ⟨"LeatherRoom$Shape", "holds", "(LLeatherRoom$Shape;II)Z"⟩
abbrev c_S_holds : ByteArray := prog_4_method_19_code
def w_S_holds : List Cond := .code y_S_holds c_S_holds 6 (some .boolean) :: BG
def y_S_sideCuts : MethodName := ⟨"LeatherRoom$Shape", "sideCuts", "(ILLeatherRoom$Shape;II)Z"⟩
abbrev c_S_sideCuts : ByteArray := prog_4_method_20_code
def w_S_sideCuts : List Cond := .code y_S_sideCuts c_S_sideCuts 11 (some .boolean) :: BG
def y_S_lineCuts : MethodName := ⟨"LeatherRoom$Shape", "lineCuts", "(ILLeatherRoom$Shape;II)Z"⟩
abbrev c_S_lineCuts : ByteArray := prog_4_method_21_code
def w_S_lineCuts : List Cond := .code y_S_lineCuts c_S_lineCuts 9 (some .boolean) :: BG
def y_S_isBeyond : MethodName := ⟨"LeatherRoom$Shape", "isBeyond", "(IIII)Z"⟩
abbrev c_S_isBeyond : ByteArray := prog_4_method_22_code
def w_S_isBeyond : List Cond := .code y_S_isBeyond c_S_isBeyond 6 (some .boolean) :: BG
def y_S_surrounds : MethodName := ⟨"LeatherRoom$Shape", "surrounds", "(II)Z"⟩
abbrev c_S_surrounds : ByteArray := prog_4_method_23_code
def w_S_surrounds : List Cond := .code y_S_surrounds c_S_surrounds 9 (some .boolean) :: BG
def y_L_best : MethodName := ⟨"LeatherRoomLaw", "best", "(LLeatherRoom;I[J)I"⟩
abbrev c_L_best : ByteArray := method_9_code
def w_L_best : List Cond := .codeWith y_L_best c_L_best 4 (some .int) [((0 : Nat), (9 : Nat), (12 : Nat), (13 : Nat)), ((0 : Nat), (9 : Nat), (15 : Nat), (37 : Nat))] :: BG
def y_R_best : MethodName := ⟨"LeatherRoom", "best", "(I)I"⟩
abbrev c_R_best : ByteArray := prog_1_method_8_code
def w_R_best : List Cond := .code y_R_best c_R_best 3 (some .int) :: BG
def y_R_findPlace : MethodName := ⟨"LeatherRoom", "findPlace", "(LLeatherRoom$Kind;)I"⟩
abbrev c_R_findPlace : ByteArray := prog_1_method_24_code
def w_R_findPlace : List Cond := .code y_R_findPlace c_R_findPlace 5 (some .int) :: BG
def y_JNoSuchElementException_init : MethodName := ⟨"java/util/NoSuchElementException", "<init>", "(Ljava/lang/String;)V"⟩
abbrev c_JNoSuchElementException_init : ByteArray := prog_17_method_4_code
def w_JNoSuchElementException_init : List Cond := .code y_JNoSuchElementException_init c_JNoSuchElementException_init 2 none :: BG
def y_L_lay : MethodName := ⟨"LeatherRoomLaw", "lay", "(LLeatherRoom;I[J)I"⟩
abbrev c_L_lay : ByteArray := method_10_code
def w_L_lay : List Cond := .codeWith y_L_lay c_L_lay 4 (some .int) [((0 : Nat), (9 : Nat), (12 : Nat), (13 : Nat)), ((0 : Nat), (9 : Nat), (15 : Nat), (15 : Nat)), ((0 : Nat), (9 : Nat), (18 : Nat), (37 : Nat))] :: BG
def y_R_lay : MethodName := ⟨"LeatherRoom", "lay", "(I)I"⟩
abbrev c_R_lay : ByteArray := prog_1_method_9_code
def w_R_lay : List Cond := .code y_R_lay c_R_lay 6 (some .int) :: BG
def y_R_addPart : MethodName := ⟨"LeatherRoom", "addPart", "(IIII)I"⟩
abbrev c_R_addPart : ByteArray := prog_1_method_25_code
def w_R_addPart : List Cond := .code y_R_addPart c_R_addPart 6 (some .int) :: BG
def y_P_become : MethodName := ⟨"LeatherRoom$Part", "become", "(IIII)V"⟩
abbrev c_P_become : ByteArray := prog_3_method_2_code
def w_P_become : List Cond := .code y_P_become c_P_become 5 none :: BG
def y_L_put : MethodName := ⟨"LeatherRoomLaw", "put", "(LLeatherRoom;IIII[J)I"⟩
abbrev c_L_put : ByteArray := method_11_code
def w_L_put : List Cond := .codeWith y_L_put c_L_put 7 (some .int) [((0 : Nat), (14 : Nat), (17 : Nat), (13 : Nat)), ((0 : Nat), (14 : Nat), (21 : Nat), (15 : Nat)), ((0 : Nat), (14 : Nat), (25 : Nat), (46 : Nat))] :: BG
def y_R_put : MethodName := ⟨"LeatherRoom", "put", "(IIII)I"⟩
abbrev c_R_put : ByteArray := prog_1_method_10_code
def w_R_put : List Cond := .code y_R_put c_R_put 5 (some .int) :: BG
def y_JUnsupportedOperationException_init : MethodName := ⟨"java/lang/UnsupportedOperationException", "<init>", "(Ljava/lang/String;)V"⟩
abbrev c_JUnsupportedOperationException_init : ByteArray := prog_16_method_2_code
def w_JUnsupportedOperationException_init : List Cond := .code y_JUnsupportedOperationException_init c_JUnsupportedOperationException_init 2 none :: BG
def y_L_take : MethodName := ⟨"LeatherRoomLaw", "take", "(LLeatherRoom;I[J)I"⟩
abbrev c_L_take : ByteArray := method_12_code
def w_L_take : List Cond := .codeWith y_L_take c_L_take 4 (some .int) [((0 : Nat), (9 : Nat), (12 : Nat), (37 : Nat))] :: BG
def y_R_take : MethodName := ⟨"LeatherRoom", "take", "(I)I"⟩
abbrev c_R_take : ByteArray := prog_1_method_11_code
def w_R_take : List Cond := .code y_R_take c_R_take 2 (some .int) :: BG
def y_R_isPart : MethodName := ⟨"LeatherRoom", "isPart", "(I)Z"⟩
abbrev c_R_isPart : ByteArray := prog_1_method_19_code
def w_R_isPart : List Cond := .code y_R_isPart c_R_isPart 2 (some .boolean) :: BG
def y_L_part : MethodName := ⟨"LeatherRoomLaw", "part", "(LLeatherRoom;II[J)I"⟩
abbrev c_L_part : ByteArray := method_13_code
def w_L_part : List Cond := .codeWith y_L_part c_L_part 5 (some .int) [((0 : Nat), (10 : Nat), (13 : Nat), (13 : Nat)), ((0 : Nat), (10 : Nat), (17 : Nat), (37 : Nat))] :: BG
def y_R_part : MethodName := ⟨"LeatherRoom", "part", "(II)I"⟩
abbrev c_R_part : ByteArray := prog_1_method_13_code
def w_R_part : List Cond := .code y_R_part c_R_part 3 (some .int) :: BG
def y_M_init : MethodName := ⟨"LeatherRoomModel", "<init>", "()V"⟩
abbrev c_M_init : ByteArray := prog_7_method_1_code
def w_M_init : List Cond := .code y_M_init c_M_init 2 none :: BG
def y_M_thrown : MethodName := ⟨"LeatherRoomModel", "thrown", "()I"⟩
abbrev c_M_thrown : ByteArray := prog_7_method_2_code
def w_M_thrown : List Cond := .code y_M_thrown c_M_thrown 1 (some .int) :: BG
def y_M_corner : MethodName := ⟨"LeatherRoomModel", "corner", "(II)I"⟩
abbrev c_M_corner : ByteArray := prog_7_method_4_code
def w_M_corner : List Cond := .code y_M_corner c_M_corner 3 (some .int) :: BG
def y_M_hide : MethodName := ⟨"LeatherRoomModel", "hide", "()V"⟩
abbrev c_M_hide : ByteArray := prog_7_method_11_code
def w_M_hide : List Cond := .code y_M_hide c_M_hide 3 none :: BG
def y_M_count : MethodName := ⟨"LeatherRoomModel", "count", "()I"⟩
abbrev c_M_count : ByteArray := prog_7_method_3_code
def w_M_count : List Cond := .code y_M_count c_M_count 3 (some .int) :: BG
def y_M_isPlain : MethodName := ⟨"LeatherRoomModel", "isPlain", "(I)Z"⟩
abbrev c_M_isPlain : ByteArray := prog_7_method_9_code
def w_M_isPlain : List Cond := .code y_M_isPlain c_M_isPlain 8 (some .boolean) :: BG
def y_M_isOn : MethodName := ⟨"LeatherRoomModel", "isOn", "(III)Z"⟩
abbrev c_M_isOn : ByteArray := prog_7_method_7_code
def w_M_isOn : List Cond := .code y_M_isOn c_M_isOn 4 (some .boolean) :: BG
def y_M_side : MethodName := ⟨"LeatherRoomModel", "side", "(III)I"⟩
abbrev c_M_side : ByteArray := prog_7_method_5_code
def w_M_side : List Cond := .code y_M_side c_M_side 4 (some .int) :: BG
def y_M_within : MethodName := ⟨"LeatherRoomModel", "within", "(III)Z"⟩
abbrev c_M_within : ByteArray := prog_7_method_6_code
def w_M_within : List Cond := .code y_M_within c_M_within 8 (some .boolean) :: BG
def y_M_meet : MethodName := ⟨"LeatherRoomModel", "meet", "(III)Z"⟩
abbrev c_M_meet : ByteArray := prog_7_method_8_code
def w_M_meet : List Cond := .code y_M_meet c_M_meet 8 (some .boolean) :: BG
def y_M_zone : MethodName := ⟨"LeatherRoomModel", "zone", "(I)I"⟩
abbrev c_M_zone : ByteArray := prog_7_method_13_code
def w_M_zone : List Cond := .code y_M_zone c_M_zone 4 (some .int) :: BG
def y_M_isGrade : MethodName := ⟨"LeatherRoomModel", "isGrade", "(II)Z"⟩
abbrev c_M_isGrade : ByteArray := prog_7_method_12_code
def w_M_isGrade : List Cond := .code y_M_isGrade c_M_isGrade 2 (some .boolean) :: BG
def y_M_isRound : MethodName := ⟨"LeatherRoomModel", "isRound", "(I)Z"⟩
abbrev c_M_isRound : ByteArray := prog_7_method_10_code
def w_M_isRound : List Cond := .code y_M_isRound c_M_isRound 7 (some .boolean) :: BG
def y_M_clear : MethodName := ⟨"LeatherRoomModel", "clear", "()V"⟩
abbrev c_M_clear : ByteArray := prog_7_method_14_code
def w_M_clear : List Cond := .code y_M_clear c_M_clear 1 none :: BG
def y_M_kind : MethodName := ⟨"LeatherRoomModel", "kind", "(II)I"⟩
abbrev c_M_kind : ByteArray := prog_7_method_15_code
def w_M_kind : List Cond := .code y_M_kind c_M_kind 6 (some .int) :: BG
def y_M_fits : MethodName := ⟨"LeatherRoomModel", "fits", "(IIII)Z"⟩
abbrev c_M_fits : ByteArray := prog_7_method_26_code
def w_M_fits : List Cond := .code y_M_fits c_M_fits 5 (some .boolean) :: BG
def y_M_isKind : MethodName := ⟨"LeatherRoomModel", "isKind", "(I)Z"⟩
abbrev c_M_isKind : ByteArray := prog_7_method_24_code
def w_M_isKind : List Cond := .code y_M_isKind c_M_isKind 2 (some .boolean) :: BG
def y_M_isPlace : MethodName := ⟨"LeatherRoomModel", "isPlace", "(III)Z"⟩
abbrev c_M_isPlace : ByteArray := prog_7_method_25_code
def w_M_isPlace : List Cond := .code y_M_isPlace c_M_isPlace 4 (some .boolean) :: BG
def y_M_isFit : MethodName := ⟨"LeatherRoomModel", "isFit", "(IIII)Z"⟩
abbrev c_M_isFit : ByteArray := prog_7_method_23_code
def w_M_isFit : List Cond := .code y_M_isFit c_M_isFit 6 (some .boolean) :: BG
def y_M_shape : MethodName := ⟨"LeatherRoomModel", "shape", "(IIII)V"⟩
abbrev c_M_shape : ByteArray := prog_7_method_16_code
def w_M_shape : List Cond := .code y_M_shape c_M_shape 12 none :: BG
def y_M_isInHide : MethodName := ⟨"LeatherRoomModel", "isInHide", "()Z"⟩
abbrev c_M_isInHide : ByteArray := prog_7_method_20_code
def w_M_isInHide : List Cond := .code y_M_isInHide c_M_isInHide 3 (some .boolean) :: BG
def y_M_overlaps : MethodName := ⟨"LeatherRoomModel", "overlaps", "()Z"⟩
abbrev c_M_overlaps : ByteArray := prog_7_method_18_code
def w_M_overlaps : List Cond := .code y_M_overlaps c_M_overlaps 3 (some .boolean) :: BG
def y_M_isParted : MethodName := ⟨"LeatherRoomModel", "isParted", "(II)Z"⟩
abbrev c_M_isParted : ByteArray := prog_7_method_17_code
def w_M_isParted : List Cond := .code y_M_isParted c_M_isParted 9 (some .boolean) :: BG
def y_M_isMiddleInside : MethodName := ⟨"LeatherRoomModel", "isMiddleInside", "()Z"⟩
abbrev c_M_isMiddleInside : ByteArray := prog_7_method_19_code
def w_M_isMiddleInside : List Cond := .code y_M_isMiddleInside c_M_isMiddleInside 11 (some .boolean) :: BG
def y_M_isOffZones : MethodName := ⟨"LeatherRoomModel", "isOffZones", "(I)Z"⟩
abbrev c_M_isOffZones : ByteArray := prog_7_method_21_code
def w_M_isOffZones : List Cond := .code y_M_isOffZones c_M_isOffZones 4 (some .boolean) :: BG
def y_M_isBesideParts : MethodName := ⟨"LeatherRoomModel", "isBesideParts", "()Z"⟩
abbrev c_M_isBesideParts : ByteArray := prog_7_method_22_code
def w_M_isBesideParts : List Cond := .code y_M_isBesideParts c_M_isBesideParts 3 (some .boolean) :: BG
def y_M_best : MethodName := ⟨"LeatherRoomModel", "best", "(I)I"⟩
abbrev c_M_best : ByteArray := prog_7_method_28_code
def w_M_best : List Cond := .code y_M_best c_M_best 3 (some .int) :: BG
def y_M_search : MethodName := ⟨"LeatherRoomModel", "search", "(I)I"⟩
abbrev c_M_search : ByteArray := prog_7_method_27_code
def w_M_search : List Cond := .code y_M_search c_M_search 5 (some .int) :: BG
def y_M_lay : MethodName := ⟨"LeatherRoomModel", "lay", "(I)I"⟩
abbrev c_M_lay : ByteArray := prog_7_method_30_code
def w_M_lay : List Cond := .code y_M_lay c_M_lay 3 (some .int) :: BG
def y_M_place : MethodName := ⟨"LeatherRoomModel", "place", "(IIII)I"⟩
abbrev c_M_place : ByteArray := prog_7_method_29_code
def w_M_place : List Cond := .code y_M_place c_M_place 7 (some .int) :: BG
def y_M_put : MethodName := ⟨"LeatherRoomModel", "put", "(IIII)I"⟩
abbrev c_M_put : ByteArray := prog_7_method_31_code
def w_M_put : List Cond := .code y_M_put c_M_put 5 (some .int) :: BG
def y_M_take : MethodName := ⟨"LeatherRoomModel", "take", "(I)I"⟩
abbrev c_M_take : ByteArray := prog_7_method_33_code
def w_M_take : List Cond := .code y_M_take c_M_take 3 (some .int) :: BG
def y_M_isPart : MethodName := ⟨"LeatherRoomModel", "isPart", "(I)Z"⟩
abbrev c_M_isPart : ByteArray := prog_7_method_32_code
def w_M_isPart : List Cond := .code y_M_isPart c_M_isPart 2 (some .boolean) :: BG
def y_M_strip : MethodName := ⟨"LeatherRoomModel", "strip", "()I"⟩
abbrev c_M_strip : ByteArray := prog_7_method_34_code
def w_M_strip : List Cond := .code y_M_strip c_M_strip 3 (some .int) :: BG
def y_M_part : MethodName := ⟨"LeatherRoomModel", "part", "(II)I"⟩
abbrev c_M_part : ByteArray := prog_7_method_35_code
def w_M_part : List Cond := .code y_M_part c_M_part 3 (some .int) :: BG
def y_M_parts : MethodName := ⟨"LeatherRoomModel", "parts", "()I"⟩
abbrev c_M_parts : ByteArray := prog_7_method_36_code
def w_M_parts : List Cond := .code y_M_parts c_M_parts 1 (some .int) :: BG
def y_M_free : MethodName := ⟨"LeatherRoomModel", "free", "()I"⟩
abbrev c_M_free : ByteArray := prog_7_method_38_code
def w_M_free : List Cond := .code y_M_free c_M_free 7 (some .int) :: BG
def y_M_size : MethodName := ⟨"LeatherRoomModel", "size", "(I)I"⟩
abbrev c_M_size : ByteArray := prog_7_method_37_code
def w_M_size : List Cond := .code y_M_size c_M_size 1 (some .int) :: BG
def y_L_law : MethodName := ⟨"LeatherRoomLaw", "law", "([I)Z"⟩
abbrev c_L_law : ByteArray := code
def F_K : u_T := fun k => match k with
  | 0 => ("LeatherRoom$Kind", "turned", "[LLeatherRoom$Shape;", true)
  | 1 => ("LeatherRoom$Kind", "grade", "I", false)
  | _ => ("LeatherRoom$Kind", "turns", "I", false)
def t_K : Nat → FieldType := fun k => match k with
  | 0 => .array (.object "LeatherRoom$Shape")
  | 1 => .int
  | _ => .int
theorem n_K : ∀ a, a < 3 → ∀ b, b < 3 → a ≠ b → (F_K a).2.1 ≠ (F_K b).2.1 := by decide +kernel
theorem t_K_ok : ∀ k, k < 3 → parseFieldDescriptor (F_K k).2.2.1 = some (t_K k) := by decide +kernel
theorem u_K : ∀ w ∈ u_ws "LeatherRoom$Kind" F_K 3, w ∈ BG := by
  intro w hw
  obtain ⟨k, hk, rfl⟩ := List.mem_map.mp hw
  have hk := List.mem_range.mp hk
  match k, hk with
  | 0, _ => exact wd_95
  | 1, _ => exact wd_97
  | 2, _ => exact wd_99
  | k + 3, h => omega
def F_P : u_T := fun k => match k with
  | 0 => ("LeatherRoom$Part", "shape", "LLeatherRoom$Shape;", true)
  | 1 => ("LeatherRoom$Part", "lies", "Z", false)
  | 2 => ("LeatherRoom$Part", "kind", "I", false)
  | 3 => ("LeatherRoom$Part", "x", "I", false)
  | 4 => ("LeatherRoom$Part", "y", "I", false)
  | _ => ("LeatherRoom$Part", "turn", "I", false)
def t_P : Nat → FieldType := fun k => match k with
  | 0 => .object "LeatherRoom$Shape"
  | 1 => .boolean
  | 2 => .int
  | 3 => .int
  | 4 => .int
  | _ => .int
theorem n_P : ∀ a, a < 6 → ∀ b, b < 6 → a ≠ b → (F_P a).2.1 ≠ (F_P b).2.1 := by decide +kernel
theorem t_P_ok : ∀ k, k < 6 → parseFieldDescriptor (F_P k).2.2.1 = some (t_P k) := by decide +kernel
theorem u_P : ∀ w ∈ u_ws "LeatherRoom$Part" F_P 6, w ∈ BG := by
  intro w hw
  obtain ⟨k, hk, rfl⟩ := List.mem_map.mp hw
  have hk := List.mem_range.mp hk
  match k, hk with
  | 0, _ => exact wd_121
  | 1, _ => exact wd_123
  | 2, _ => exact wd_125
  | 3, _ => exact wd_127
  | 4, _ => exact wd_129
  | 5, _ => exact wd_131
  | k + 6, h => omega
def F_S : u_T := fun k => match k with
  | 0 => ("LeatherRoom$Shape", "x", "[I", true)
  | 1 => ("LeatherRoom$Shape", "y", "[I", true)
  | 2 => ("LeatherRoom$Shape", "size", "I", false)
  | 3 => ("LeatherRoom$Shape", "lowX", "I", false)
  | 4 => ("LeatherRoom$Shape", "highX", "I", false)
  | 5 => ("LeatherRoom$Shape", "lowY", "I", false)
  | _ => ("LeatherRoom$Shape", "highY", "I", false)
def t_S : Nat → FieldType := fun k => match k with
  | 0 => .array .int
  | 1 => .array .int
  | 2 => .int
  | 3 => .int
  | 4 => .int
  | 5 => .int
  | _ => .int
theorem n_S : ∀ a, a < 7 → ∀ b, b < 7 → a ≠ b → (F_S a).2.1 ≠ (F_S b).2.1 := by decide +kernel
theorem t_S_ok : ∀ k, k < 7 → parseFieldDescriptor (F_S k).2.2.1 = some (t_S k) := by decide +kernel
theorem u_S : ∀ w ∈ u_ws "LeatherRoom$Shape" F_S 7, w ∈ BG := by
  intro w hw
  obtain ⟨k, hk, rfl⟩ := List.mem_map.mp hw
  have hk := List.mem_range.mp hk
  match k, hk with
  | 0, _ => exact wd_44
  | 1, _ => exact wd_46
  | 2, _ => exact wd_48
  | 3, _ => exact wd_50
  | 4, _ => exact wd_52
  | 5, _ => exact wd_54
  | 6, _ => exact wd_56
  | k + 7, h => omega
def F_Z : u_T := fun k => match k with
  | 0 => ("LeatherRoom$Zone", "shape", "LLeatherRoom$Shape;", true)
  | _ => ("LeatherRoom$Zone", "grade", "I", false)
def t_Z : Nat → FieldType := fun k => match k with
  | 0 => .object "LeatherRoom$Shape"
  | _ => .int
theorem n_Z : ∀ a, a < 2 → ∀ b, b < 2 → a ≠ b → (F_Z a).2.1 ≠ (F_Z b).2.1 := by decide +kernel
theorem t_Z_ok : ∀ k, k < 2 → parseFieldDescriptor (F_Z k).2.2.1 = some (t_Z k) := by decide +kernel
theorem u_Z : ∀ w ∈ u_ws "LeatherRoom$Zone" F_Z 2, w ∈ BG := by
  intro w hw
  obtain ⟨k, hk, rfl⟩ := List.mem_map.mp hw
  have hk := List.mem_range.mp hk
  match k, hk with
  | 0, _ => exact wd_77
  | 1, _ => exact wd_79
  | k + 2, h => omega
def F_R : u_T := fun k => match k with
  | 0 => ("LeatherRoom", "waiting", "LLeatherRoom$Shape;", true)
  | 1 => ("LeatherRoom", "offered", "LLeatherRoom$Shape;", true)
  | 2 => ("LeatherRoom", "outline", "LLeatherRoom$Shape;", true)
  | 3 => ("LeatherRoom", "zones", "[LLeatherRoom$Zone;", true)
  | 4 => ("LeatherRoom", "kinds", "[LLeatherRoom$Kind;", true)
  | 5 => ("LeatherRoom", "lots", "[LLeatherRoom$Part;", true)
  | 6 => ("LeatherRoom", "zoneCount", "I", false)
  | 7 => ("LeatherRoom", "kindCount", "I", false)
  | _ => ("LeatherRoom", "partCount", "I", false)
def t_R : Nat → FieldType := fun k => match k with
  | 0 => .object "LeatherRoom$Shape"
  | 1 => .object "LeatherRoom$Shape"
  | 2 => .object "LeatherRoom$Shape"
  | 3 => .array (.object "LeatherRoom$Zone")
  | 4 => .array (.object "LeatherRoom$Kind")
  | 5 => .array (.object "LeatherRoom$Part")
  | 6 => .int
  | 7 => .int
  | _ => .int
theorem n_R : ∀ a, a < 9 → ∀ b, b < 9 → a ≠ b → (F_R a).2.1 ≠ (F_R b).2.1 := by decide +kernel
theorem t_R_ok : ∀ k, k < 9 → parseFieldDescriptor (F_R k).2.2.1 = some (t_R k) := by decide +kernel
theorem u_R : ∀ w ∈ u_ws "LeatherRoom" F_R 9, w ∈ BG := by
  intro w hw
  obtain ⟨k, hk, rfl⟩ := List.mem_map.mp hw
  have hk := List.mem_range.mp hk
  match k, hk with
  | 0, _ => exact wd_143
  | 1, _ => exact wd_145
  | 2, _ => exact wd_147
  | 3, _ => exact wd_149
  | 4, _ => exact wd_151
  | 5, _ => exact wd_153
  | 6, _ => exact wd_155
  | 7, _ => exact wd_157
  | 8, _ => exact wd_159
  | k + 9, h => omega
def F_M : u_T := fun k => match k with
  | 0 => ("LeatherRoomModel", "code", "I", false)
  | 1 => ("LeatherRoomModel", "waiting", "I", false)
  | 2 => ("LeatherRoomModel", "waitX", "[I", true)
  | 3 => ("LeatherRoomModel", "waitY", "[I", true)
  | 4 => ("LeatherRoomModel", "hideCorners", "I", false)
  | 5 => ("LeatherRoomModel", "hideX", "[I", true)
  | 6 => ("LeatherRoomModel", "hideY", "[I", true)
  | 7 => ("LeatherRoomModel", "zones", "I", false)
  | 8 => ("LeatherRoomModel", "zoneX", "[I", true)
  | 9 => ("LeatherRoomModel", "zoneY", "[I", true)
  | 10 => ("LeatherRoomModel", "zoneCorners", "[I", true)
  | 11 => ("LeatherRoomModel", "zoneGrade", "[I", true)
  | 12 => ("LeatherRoomModel", "kinds", "I", false)
  | 13 => ("LeatherRoomModel", "kindX", "[I", true)
  | 14 => ("LeatherRoomModel", "kindY", "[I", true)
  | 15 => ("LeatherRoomModel", "kindCorners", "[I", true)
  | 16 => ("LeatherRoomModel", "kindGrade", "[I", true)
  | 17 => ("LeatherRoomModel", "kindTurns", "[I", true)
  | 18 => ("LeatherRoomModel", "partKind", "[I", true)
  | 19 => ("LeatherRoomModel", "partX", "[I", true)
  | 20 => ("LeatherRoomModel", "partY", "[I", true)
  | 21 => ("LeatherRoomModel", "partTurn", "[I", true)
  | 22 => ("LeatherRoomModel", "cornerX", "[I", true)
  | 23 => ("LeatherRoomModel", "cornerY", "[I", true)
  | 24 => ("LeatherRoomModel", "many", "I", false)
  | 25 => ("LeatherRoomModel", "x", "[I", true)
  | 26 => ("LeatherRoomModel", "y", "[I", true)
  | 27 => ("LeatherRoomModel", "otherMany", "I", false)
  | 28 => ("LeatherRoomModel", "otherX", "[I", true)
  | _ => ("LeatherRoomModel", "otherY", "[I", true)
def t_M : Nat → FieldType := fun k => match k with
  | 0 => .int
  | 1 => .int
  | 2 => .array .int
  | 3 => .array .int
  | 4 => .int
  | 5 => .array .int
  | 6 => .array .int
  | 7 => .int
  | 8 => .array .int
  | 9 => .array .int
  | 10 => .array .int
  | 11 => .array .int
  | 12 => .int
  | 13 => .array .int
  | 14 => .array .int
  | 15 => .array .int
  | 16 => .array .int
  | 17 => .array .int
  | 18 => .array .int
  | 19 => .array .int
  | 20 => .array .int
  | 21 => .array .int
  | 22 => .array .int
  | 23 => .array .int
  | 24 => .int
  | 25 => .array .int
  | 26 => .array .int
  | 27 => .int
  | 28 => .array .int
  | _ => .array .int
theorem n_M : ∀ a, a < 30 → ∀ b, b < 30 → a ≠ b → (F_M a).2.1 ≠ (F_M b).2.1 := by decide +kernel
theorem t_M_ok : ∀ k, k < 30 → parseFieldDescriptor (F_M k).2.2.1 = some (t_M k) := by decide +kernel
theorem u_M : ∀ w ∈ u_ws "LeatherRoomModel" F_M 30, w ∈ BG := by
  intro w hw
  obtain ⟨k, hk, rfl⟩ := List.mem_map.mp hw
  have hk := List.mem_range.mp hk
  match k, hk with
  | 0, _ => exact wd_580
  | 1, _ => exact wd_582
  | 2, _ => exact wd_584
  | 3, _ => exact wd_586
  | 4, _ => exact wd_588
  | 5, _ => exact wd_590
  | 6, _ => exact wd_592
  | 7, _ => exact wd_594
  | 8, _ => exact wd_596
  | 9, _ => exact wd_598
  | 10, _ => exact wd_600
  | 11, _ => exact wd_602
  | 12, _ => exact wd_604
  | 13, _ => exact wd_606
  | 14, _ => exact wd_608
  | 15, _ => exact wd_610
  | 16, _ => exact wd_612
  | 17, _ => exact wd_614
  | 18, _ => exact wd_616
  | 19, _ => exact wd_618
  | 20, _ => exact wd_620
  | 21, _ => exact wd_622
  | 22, _ => exact wd_624
  | 23, _ => exact wd_626
  | 24, _ => exact wd_628
  | 25, _ => exact wd_630
  | 26, _ => exact wd_632
  | 27, _ => exact wd_634
  | 28, _ => exact wd_636
  | 29, _ => exact wd_638
  | k + 30, h => omega
abbrev cls_all : List vw_C := [("LeatherRoom$Kind", F_K, 3), ("LeatherRoom$Part", F_P, 6), ("LeatherRoom$Shape", F_S, 7), ("LeatherRoom$Zone", F_Z, 2), ("LeatherRoom", F_R, 9), ("LeatherRoomModel", F_M, 30)]
end
section
-- GEOMETRY: words
/-- p lies between a and b -/
def ge_bt (a b p : Int) : Prop := (a ≤ p ∧ p ≤ b) ∨ (b ≤ p ∧ p ≤ a)
def ge_cr (ax ay bx b_y px py : Int) : Int := (bx - ax) * (py - ay) - (b_y - ay) * (px - ax)
def ge_on (ax ay bx b_y px py : Int) : Prop := ge_cr ax ay bx b_y px py = 0 ∧ ge_bt ax bx px ∧ ge_bt ay b_y py
/-- the ranges of a, b and of c, d have a number in common -/
def ge_rg (a b c d : Int) : Prop := (c ≤ a ∨ d ≤ a ∨ c ≤ b ∨ d ≤ b) ∧ (a ≤ c ∨ b ≤ c ∨ a ≤ d ∨ b ≤ d)
/-- boxes and sides of lines -/
def ge_bx (ax ay bx b_y cx cy dx dy : Int) : Prop := ge_rg ax bx cx dx ∧ ge_rg ay b_y cy dy ∧
  ge_cr ax ay bx b_y cx cy * ge_cr ax ay bx b_y dx dy ≤ 0 ∧ ge_cr cx cy dx dy ax ay * ge_cr cx cy dx dy bx b_y ≤ 0
def ge_any (ax ay bx b_y cx cy dx dy : Int) : Prop := ge_on ax ay bx b_y cx cy ∨ ge_on ax ay bx b_y dx dy ∨ ge_on cx cy dx dy ax ay ∨ ge_on cx cy dx dy bx b_y
/-- each stretch goes right through the other -/
def ge_thru (ax ay bx b_y cx cy dx dy : Int) : Prop :=
  ge_cr ax ay bx b_y cx cy * ge_cr ax ay bx b_y dx dy < 0 ∧ ge_cr cx cy dx dy ax ay * ge_cr cx cy dx dy bx b_y < 0
def ge_x (a b : Int × Int) : Int := a.1 * b.2 - a.2 * b.1
def ge_d (a b : Int × Int) : Int := a.1 * b.1 + a.2 * b.2
def ge_nx (n i : Nat) : Nat := if i + 1 < n then i + 1 else 0
def ge_pv (n i : Nat) : Nat := if i = 0 then n - 1 else i - 1
/-- the inner normal of a side, where the corners go round to the left -/
def ge_nv (P : Nat → Int × Int) (n i : Nat) : Int × Int := ((P i).2 - (P (ge_nx n i)).2, (P (ge_nx n i)).1 - (P i).1)
def ge_bs (P : Nat → Int × Int) (n i : Nat) (p : Int × Int) : Int := ((P (ge_nx n i)).1 - (P i).1) * (p.2 - (P i).2) - ((P (ge_nx n i)).2 - (P i).2) * (p.1 - (P i).1)
def ge_ccw (n : Nat) (P : Nat → Int × Int) : Prop := ∀ i k, i < n → k < n → k ≠ i → k ≠ ge_nx n i → 0 < ge_bs P n i (P k)
/-- the stretches v w and m n have no point in common -/
def ge_dj (v w m n : Int × Int) : Prop := ∀ a b c e : Int, 0 ≤ a → 0 ≤ b → 0 ≤ c → 0 ≤ e → 0 < a + b → a + b = c + e →
  a * v.1 + b * w.1 = c * m.1 + e * n.1 → a * v.2 + b * w.2 = c * m.2 + e * n.2 → False
/-- where the ray from m to the right meets the side v w -/
def ge_hit (m v w : Int × Int) : Prop := (v.2 ≤ m.2 ∧ m.2 < w.2 ∧ 0 < ge_cr v.1 v.2 w.1 w.2 m.1 m.2) ∨ (w.2 ≤ m.2 ∧ m.2 < v.2 ∧ ge_cr v.1 v.2 w.1 w.2 m.1 m.2 < 0)
/-- right of m n, and between their heights (m is the lower one) -/
def ge_in (m n v : Int × Int) : Prop := m.2 < v.2 ∧ v.2 ≤ n.2 ∧ ge_cr m.1 m.2 n.1 n.2 v.1 v.2 < 0
/-- the parity: whether the ray meets an odd number of the sides 0 .. k - 1 -/
noncomputable def ge_odd (n : Nat) (V : Nat → Int × Int) (m : Int × Int) : Nat → Prop
  | 0 => False
  | k + 1 => ¬ (ge_odd n V m k ↔ ge_hit m (V k) (V (ge_nx n k)))
/-- no point of one lies beyond all of the other in the direction d, or the other way -/
def ge_pt (n : Nat) (P : Nat → Int × Int) (m : Nat) (Q : Nat → Int × Int) (d : Int × Int) : Prop :=
  (∀ i k, i < n → k < m → ge_d d (P i) ≤ ge_d d (Q k)) ∨ (∀ i k, i < n → k < m → ge_d d (Q k) ≤ ge_d d (P i))
/-- the reference: no side's normal parts them -/
def ge_ov (n : Nat) (P : Nat → Int × Int) (m : Nat) (Q : Nat → Int × Int) : Prop :=
  (∀ i, i < n → ¬ ge_pt n P m Q (ge_nv P n i)) ∧ (∀ k, k < m → ¬ ge_pt n P m Q (ge_nv Q m k))
/-- the corners the other way round -/
def ge_rev (n : Nat) (P : Nat → Int × Int) : Nat → Int × Int := fun i => P (n - 1 - i)
/-- the class: boxes, then sides, each from within -/
def ge_apart (n : Nat) (P : Nat → Int × Int) (m : Nat) (Q : Nat → Int × Int) : Prop :=
  (∀ i k, i < n → k < m → (Q k).1 ≤ (P i).1) ∨ (∀ i k, i < n → k < m → (P i).1 ≤ (Q k).1) ∨ (∀ i k, i < n → k < m → (Q k).2 ≤ (P i).2) ∨ (∀ i k, i < n → k < m → (P i).2 ≤ (Q k).2)
def ge_sp (n : Nat) (P : Nat → Int × Int) (m : Nat) (Q : Nat → Int × Int) : Prop := ∃ i, i < n ∧ ∀ k, k < m → ge_bs P n i (Q k) ≤ 0
def ge_ov2 (n : Nat) (P : Nat → Int × Int) (m : Nat) (Q : Nat → Int × Int) : Prop := ¬ ge_apart n P m Q ∧ ¬ ge_sp n P m Q ∧ ¬ ge_sp m Q n P
def ge_two2 (A B : Int × Int) : Nat → Int × Int := fun i => if i = 0 then A else B
/-- the class: the side A B has points inside the piece Q -/
def ge_cut (A B : Int × Int) (m : Nat) (Q : Nat → Int × Int) : Prop :=
  ¬ ((∀ k, k < m → A.1 ≤ (Q k).1 ∧ B.1 ≤ (Q k).1) ∨ (∀ k, k < m → (Q k).1 ≤ A.1 ∧ (Q k).1 ≤ B.1) ∨ (∀ k, k < m → A.2 ≤ (Q k).2 ∧ B.2 ≤ (Q k).2) ∨ (∀ k, k < m → (Q k).2 ≤ A.2 ∧ (Q k).2 ≤ B.2)) ∧
  (∃ k, k < m ∧ 0 < ge_cr A.1 A.2 B.1 B.2 (Q k).1 (Q k).2) ∧ (∃ k, k < m ∧ ge_cr A.1 A.2 B.1 B.2 (Q k).1 (Q k).2 < 0) ∧
  ¬ ∃ k, k < m ∧ ge_bs Q m k A ≤ 0 ∧ ge_bs Q m k B ≤ 0
def ge_3 (V : Nat → Int × Int) : Nat → Int × Int := fun k => (3 * (V k).1, 3 * (V k).2)
def ge_mid3 (a b c : Int × Int) : Int × Int := (a.1 + b.1 + c.1, a.2 + b.2 + c.2)
/-- the reference's question of one side -/
def ge_hitM (m v w : Int × Int) : Prop := ¬ (m.2 < v.2 ↔ m.2 < w.2) ∧ (0 < ge_cr v.1 v.2 w.1 w.2 m.1 m.2 ↔ v.2 < w.2)
def ge_cw (n : Nat) (P : Nat → Int × Int) : Prop := ∀ i k, i < n → k < n → k ≠ i → k ≠ ge_nx n i → ge_bs P n i (P k) < 0
/-- the class: the sign of the first corner that tells -/
def ge_rd (n : Nat) (P : Nat → Int × Int) : Prop := ∀ i k, i < n → k < n → k ≠ i → k ≠ ge_nx n i → 0 < (if 0 < ge_bs P n 0 (P 2) then 1 else -1) * ge_bs P n i (P k)
def ge_sumN (f : Nat → Nat) : Nat → Nat
  | 0 => 0
  | k + 1 => ge_sumN f k + f k
def ge_sm (f : Nat → Int) : Nat → Int
  | 0 => 0
  | k + 1 => ge_sm f k + f k
def ge_sd (n : Nat) (P : Nat → Int × Int) (k : Nat) : Int := (P k).1 * (P (ge_nx n k)).2 - (P (ge_nx n k)).1 * (P k).2
def ge_ar (n : Nat) (P : Nat → Int × Int) (k : Nat) : Int := ge_sm (ge_sd n P) k
/-- the fan from corner 0 -/
def ge_fan (P : Nat → Int × Int) : Nat → Int
  | 0 => 0
  | k + 1 => ge_fan P k + ge_cr (P k).1 (P k).2 (P (k + 1)).1 (P (k + 1)).2 (P 0).1 (P 0).2
/-- x and y changed: the way turns too, and every index stays -/
def ge_mir (P : Nat → Int × Int) : Nat → Int × Int := fun i => ((P i).2, (P i).1)
def ge_onI (P : Nat → Int × Int) (i j k : Nat) : Prop := ge_on (P i).1 (P i).2 (P j).1 (P j).2 (P k).1 (P k).2
def ge_crI (P : Nat → Int × Int) (i j k : Nat) : Int := ge_cr (P i).1 (P i).2 (P j).1 (P j).2 (P k).1 (P k).2
/-- the reference: two sides meet -/
def ge_mtM (n : Nat) (P : Nat → Int × Int) (i k : Nat) : Prop :=
  (ge_onI P i (ge_nx n i) k ∨ ge_onI P i (ge_nx n i) (ge_nx n k) ∨ ge_onI P k (ge_nx n k) i ∨ ge_onI P k (ge_nx n k) (ge_nx n i)) ∨
  (¬ ((0 < ge_crI P i (ge_nx n i) k ↔ 0 < ge_crI P i (ge_nx n i) (ge_nx n k)) ∨ (0 < ge_crI P k (ge_nx n k) i ↔ 0 < ge_crI P k (ge_nx n k) (ge_nx n i))) ∧
   ¬ (ge_crI P i (ge_nx n i) k = 0 ∨ ge_crI P i (ge_nx n i) (ge_nx n k) = 0 ∨ ge_crI P k (ge_nx n k) i = 0 ∨ ge_crI P k (ge_nx n k) (ge_nx n i) = 0))
/-- the class: two sides meet -/
def ge_mtC (n : Nat) (P : Nat → Int × Int) (i k : Nat) : Prop :=
  ge_bx (P i).1 (P i).2 (P (ge_nx n i)).1 (P (ge_nx n i)).2 (P k).1 (P k).2 (P (ge_nx n k)).1 (P (ge_nx n k)).2
/-- the class: a side and the next fold back -/
def ge_fd (n : Nat) (P : Nat → Int × Int) (i : Nat) : Prop :=
  ge_bs P n i (P (ge_nx n (ge_nx n i))) = 0 ∧
  0 ≤ ((P i).1 - (P (ge_nx n i)).1) * ((P (ge_nx n (ge_nx n i))).1 - (P (ge_nx n i)).1) + ((P i).2 - (P (ge_nx n i)).2) * ((P (ge_nx n (ge_nx n i))).2 - (P (ge_nx n i)).2)
def ge_plC (n : Nat) (P : Nat → Int × Int) : Prop := ∀ i, i < n → ¬ ge_fd n P i ∧ ∀ j, i + 2 ≤ j → j < n → ge_nx n j ≠ i → ¬ ge_mtC n P i j
def ge_plM (n : Nat) (P : Nat → Int × Int) : Prop := ∀ i, i < n → (¬ ge_onI P i (ge_nx n i) (ge_nx n (ge_nx n i)) ∧ ¬ ge_onI P (ge_nx n i) (ge_nx n (ge_nx n i)) i) ∧
  ∀ k, k < n → ¬ ((k ≠ i ∧ k ≠ ge_nx n i ∧ ge_nx n k ≠ i) ∧ ge_mtM n P i k)
/-- (y, x, t) before (y', x', t') in the order in which places are tried -/
def ge_bf (y x t y' x' t' : Int) : Prop := y < y' ∨ (y = y' ∧ (x < x' ∨ (x = x' ∧ t < t')))
/-- r is the first place that fits, in the form that is answered, or -1 -/
def ge_first (F : Int → Int → Int → Prop) (r : Int) : Prop :=
  (r = -1 ∧ ∀ y x t, ¬ F y x t) ∨ (∃ y x t, F y x t ∧ r = x + 32 * y + 1024 * t ∧ ∀ y' x' t', ge_bf y' x' t' y x t → ¬ F y' x' t')
theorem ge_ar_s (n : Nat) (P : Nat → Int × Int) (k : Nat) : ge_ar n P (k + 1) = ge_ar n P k + ((P k).1 * (P (ge_nx n k)).2 - (P (ge_nx n k)).1 * (P k).2) := rfl
theorem nx_lt {n i : Nat} (h : 0 < n) : ge_nx n i < n := by unfold ge_nx; split <;> omega
end
section
-- BASE: ints as zI z; locals as a list read by zg; the judgement zG (the machine at pc, locals lv, stack st, all cells in one pool L f) and its rows
def zI (z : Int) : Int32 := Int32.ofInt z
abbrev zO (z : Int) : Prop := -2147483648 ≤ z ∧ z ≤ 2147483647
theorem zI_add (a b : Int) : zI a + zI b = zI (a + b) := (Int32.ofInt_add a b).symm
theorem zI_sub (a b : Int) : zI a - zI b = zI (a - b) := (Int32.ofInt_sub a b).symm
theorem zI_mul (a b : Int) : zI a * zI b = zI (a * b) := (Int32.ofInt_mul a b).symm
theorem zI_neg (a : Int) : -zI a = zI (-a) := (Int32.ofInt_neg a).symm
theorem zI_0 : zI 0 = 0 := rfl
theorem zI_1 : zI 1 = 1 := rfl
theorem zI_toInt {a : Int} (h : zO a) : (zI a).toInt = a := Int32.toInt_ofInt_of_le (by have := h.1; omega) (by have := h.2; omega)
theorem zI_of (x : Int32) : x = zI x.toInt := (Int32.ofInt_toInt x).symm
theorem zO_of (x : Int32) : zO x.toInt := ⟨by have := x.le_toInt; omega, by have := x.toInt_lt; omega⟩
theorem zI_ex (x : Int32) : ∃ z, zO z ∧ x = zI z := ⟨x.toInt, zO_of x, zI_of x⟩
theorem zI_nat (n : Nat) : zI (n : Int) = nI n := Int32.ofInt_eq_ofNat
theorem zI_lt {a b : Int} (ha : zO a) (hb : zO b) : zI a < zI b ↔ a < b := by rw [Int32.lt_iff_toInt_lt, zI_toInt ha, zI_toInt hb]
theorem zI_le {a b : Int} (ha : zO a) (hb : zO b) : zI a ≤ zI b ↔ a ≤ b := by rw [Int32.le_iff_toInt_le, zI_toInt ha, zI_toInt hb]
theorem zI_eq {a b : Int} (ha : zO a) (hb : zO b) : zI a = zI b ↔ a = b := by
  rw [← Int32.toInt_inj, zI_toInt ha, zI_toInt hb]
theorem zO_0 : zO 0 := by omega
theorem zI_in {z : Int} {n : Nat} (h0 : 0 ≤ z) (h1 : z < n) (hn : n < 2 ^ 31) : vp_in (zI z) n := by
  rw [vp_in_iff, zI_toInt (by omega)]; exact ⟨h0, h1⟩
theorem zI_cl {z : Int} {n : Nat} (h0 : 0 ≤ z) (h1 : z < n) (hn : n < 2 ^ 31) : (zI z).toNatClampNeg = z.toNat := by
  obtain ⟨k, rfl⟩ : ∃ k : Nat, z = k := ⟨z.toNat, by omega⟩
  rw [zI_nat, nI_clamp (by omega)]; rfl
-- locals
def zg : List (Nat × Value) → Nat → Option Value
  | [], _ => none
  | q :: t, i => cond (Nat.beq i q.1) (some q.2) (zg t i)
theorem zg_cons (j : Nat) (v : Value) (t : List (Nat × Value)) (i : Nat) : zg ((j, v) :: t) i = if i = j then some v else zg t i := by
  show cond (Nat.beq i j) (some v) (zg t i) = _
  by_cases h : i = j
  · subst h; simp
  · have : Nat.beq i j = false := by
      cases hb : Nat.beq i j with
      | false => rfl
      | true => exact absurd (Nat.eq_of_beq_eq_true hb) h
    rw [this, if_neg h]; rfl
theorem zg_mem {v : Value} {i : Nat} : ∀ {l : List (Nat × Value)}, zg l i = some v → i ∈ l.map Prod.fst
  | [], h => by cases h
  | (j, w) :: t, h => by
    rw [zg_cons] at h
    by_cases e : i = j
    · subst e; simp
    · rw [if_neg e] at h
      exact List.mem_cons_of_mem _ (zg_mem h)
def zd (l : List (Nat × Value)) : List (Nat × Value) := (l.map Prod.fst).filterMap (fun j => (zg l j).map (fun v => (j, v)))
theorem zd_mem {l : List (Nat × Value)} {i : Nat} {v : Value} : (i, v) ∈ zd l ↔ zg l i = some v := by
  unfold zd
  rw [List.mem_filterMap]
  constructor
  · rintro ⟨j, -, h⟩
    cases hj : zg l j with
    | none => rw [hj] at h; cases h
    | some w =>
      rw [hj] at h
      have := Option.some.inj h
      obtain ⟨rfl, rfl⟩ := Prod.mk.inj this
      exact hj
  · intro h
    exact ⟨i, zg_mem h, by rw [h]; rfl⟩
def zL (ls : Array Slot) (nL : Nat) (lv : List (Nat × Value)) : Prop := ls.size = nL ∧ lv_wf ls ∧ ∀ i v, zg lv i = some v → ls[i]? = some (.val v) ∧ v.category = 1
theorem zL_has {ls : Array Slot} {nL : Nat} {lv : List (Nat × Value)} (h : zL ls nL lv) : lv_has ls nL (zd lv) := ⟨h.1, h.2.1, fun q hq => (h.2.2 q.1 q.2 (zd_mem.mp hq)).1⟩
theorem zL_at {ls : Array Slot} {nL : Nat} {lv : List (Nat × Value)} (h : zL ls nL lv) {i : Nat} {v : Value} (hi : zg lv i = some v) : ls[i]? = some (.val v) := (h.2.2 i v hi).1
theorem zL_put {ls ls' : Array Slot} {nL : Nat} {lv : List (Nat × Value)} (h : zL ls nL lv) {i : Nat} {x : Value} (hx : x.category = 1) (h' : lv_has ls' nL ((i, x) :: (zd lv).filter (fun q => !(q.1 == i) && !(q.1 + 1 == i && q.2.category == 2)))) : zL ls' nL ((i, x) :: lv) := by
  refine ⟨h'.1, h'.2.1, fun j v hj => ?_⟩
  rw [zg_cons] at hj
  by_cases e : j = i
  · subst e
    rw [if_pos rfl] at hj
    obtain rfl := Option.some.inj hj
    exact ⟨h'.2.2 (j, x) List.mem_cons_self, hx⟩
  · rw [if_neg e] at hj
    have hc := (h.2.2 j v hj).2
    refine ⟨h'.2.2 (j, v) (List.mem_cons_of_mem _ (List.mem_filter.mpr ⟨zd_mem.mpr hj, ?_⟩)), hc⟩
    simp [e, hc]
/-- fewer or the same locals -/
theorem zL_sub {ls : Array Slot} {nL : Nat} {lv lv' : List (Nat × Value)} (h : zL ls nL lv) (hs : lv'.map (fun q => zg lv q.1) = lv'.map (fun q => some q.2)) : zL ls nL lv' := by
  refine ⟨h.1, h.2.1, fun i v hi => h.2.2 i v ?_⟩
  have key : ∀ l : List (Nat × Value), l.map (fun q => zg lv q.1) = l.map (fun q => some q.2) → zg l i = some v → zg lv i = some v := by
    intro l
    induction l with
    | nil => intro _ h; cases h
    | cons q t ih =>
      intro h1 h2
      obtain ⟨j, w⟩ := q
      rw [List.map_cons, List.map_cons] at h1
      have h3 := List.cons.inj h1
      rw [zg_cons] at h2
      by_cases e : i = j
      · subst e
        rw [if_pos rfl] at h2
        rw [← h2]; exact h3.1
      · rw [if_neg e] at h2
        exact ih h3.2 h2
  exact key lv' hs hi
theorem zL_entry {vs : List Value} {n : Nat} (h : (lg_sl vs).length ≤ n) (hc : (lv_args 0 vs).all (fun q => q.2.category == 1) = true) : zL ((lg_sl vs ++ List.replicate (n - (lg_sl vs).length) Slot.unset).toArray) n (lv_args 0 vs) := by
  have e := lv_entry vs h
  have key : ∀ (l : List (Nat × Value)) (i : Nat) (v : Value), zg l i = some v → (i, v) ∈ l := by
    intro l
    induction l with
    | nil => intro i v h; cases h
    | cons q t ih =>
      intro i v h
      obtain ⟨j, w⟩ := q
      rw [zg_cons] at h
      by_cases e : i = j
      · subst e
        rw [if_pos rfl] at h
        obtain rfl := Option.some.inj h
        exact List.mem_cons_self
      · rw [if_neg e] at h
        exact List.mem_cons_of_mem _ (ih i v h)
  exact ⟨e.1, e.2.1, fun i v hi => ⟨e.2.2 (i, v) (key _ i v hi), by have := List.all_eq_true.mp hc (i, v) (key _ i v hi); simpa using this⟩⟩
-- the world
abbrev zc : List vw_C := cls_all
abbrev zt (G : Nat → ClassId) : List (ClassId × FieldType) := [(G 0, .int), (G 1, .long), (G 2, .object "LeatherRoom$Shape"), (G 3, .object "LeatherRoom$Zone"), (G 4, .object "LeatherRoom$Kind"), (G 5, .object "LeatherRoom$Part")]
/-- a row of ints -/
def zr (G : Nat → ClassId) (N : Nat) (X : Int → Int) : va_E := .inl (G 0, N, .inl (fun j : Nat => zI (X (j : Int))))
/-- a row of references -/
def zq (G : Nat → ClassId) (k N : Nat) (X : Int → Nat) : va_E := .inl (G k, N, .inr (.inr (.inr (.inr (fun j : Nat => some (X (j : Int)))))))
def iu (X : Int → Int) (z v : Int) : Int → Int := fun q => if q = z then v else X q
theorem zr_up (X : Int → Int) (z v : Int) (h0 : 0 ≤ z) : upd (fun j : Nat => zI (X (j : Int))) z.toNat (zI v) = fun j : Nat => zI (iu X z v (j : Int)) := by
  funext j
  unfold upd iu
  by_cases e : j = z.toNat
  · rw [if_pos e, if_pos (by omega)]
  · rw [if_neg e, if_neg (by omega)]
abbrev zW (D : va_G) (G : Nat → ClassId) (L : List Nat) (f : Nat → va_E) (sz : Nat) (U : State) : Prop := U.heap.size = sz ∧ va_P D zc (va_pl L f) U.heap ∧ va_K D zc (zt G) U ∧ va_D (fun _ => True) (va_pl L f)
/-- an end: an answer, a pool -/
def zE (D : va_G) (A : Nat → Prop) (Q : Option Value → List Nat → (Nat → va_E) → Prop) : Array Value → State → Outcome → State → Prop := fun _ st oc t =>
  (∃ (v : Option Value) (L : List Nat) (f : Nat → va_E), oc = .returned v ∧ Q v L f ∧ va_P D zc (va_pl L f) t.heap ∧ va_D A (va_pl L f)) ∧ va_F A st t
/-- a contract: from the pool L f, with these arguments, the method answers and leaves a pool, with Q -/
def zM (l : Launch) (D : va_G) (G : Nat → ClassId) (y : MethodName) (ws : List Cond) (rm : Room) (av : List Value) (L : List Nat) (f : Nat → va_E) (Q : Option Value → List Nat → (Nat → va_E) → Prop) : Prop :=
  ∀ sz : Nat, Met l y ws rm (va_Pc av (zW D G L f sz)) (zE D (va_A (va_pl L f) sz) Q) rm.cells rm.slots (va_A (va_pl L f) sz)
def zX (p : Program) (s : State) (m : MethodId) (args : Array Value) (meth : Method) (c : Code) (D : va_G) (G : Nat → ClassId) (A : Nat → Prop) (cc : ByteArray) (own : String) (nL : Nat) : Prop :=
  p.tables.exec = Jvm.exec ∧ c.code = cc ∧ c.maxLocals = nL ∧ s.vm.findClass own = some m.cls ∧ (∀ w ∈ BG, w.before args s = true) ∧ va_K D zc (zt G) s ∧ (∀ q, s.heap.size ≤ q → A q) ∧ meth.locks = false
def zG (p : Program) (l : Launch) (e : Env) (R : Room) (s : State) (m : MethodId) (args : Array Value) (below : List Frame) (meth : Method) (c : Code) (D : va_G) (A : Nat → Prop) (nL cells slots : Nat) (Q : State → Prop) (pc : Nat) (lv : List (Nat × Value)) (st : List Value) (L : List Nat) (f : Nat → va_E) : Prop :=
  ∀ (H : Heap) (locs : List Loc) (ls : Array Slot), zL ls nL lv → va_P D zc (va_pl L f) H → va_D A (va_pl L f) → va_S A s.heap H locs → W p l e R s m args below meth c H locs cells slots Q (F0 m pc ls st)
theorem zM.of {l : Launch} {D : va_G} {G : Nat → ClassId} {y : MethodName} {cc : ByteArray} {maxL : Nat} {ret : Option FieldType} {rm : Room} {av : List Value} {L : List Nat} {f : Nat → va_E} {Qc : Option Value → List Nat → (Nat → va_E) → Prop} (hy : plainName y.cls = true) (hlen : (lg_sl av).length ≤ maxL) (hcat : (lv_args 0 av).all (fun q => q.2.category == 1) = true)
    (body : ∀ (p : Program) (e : Env) (s : State) (m : MethodId) (args : Array Value) (below : List Frame) (meth : Method) (c : Code) (A : Nat → Prop), zX p s m args meth c D G A cc y.cls maxL → meth.sig.returnType = ret → meth.name = y.name → zG p l e rm s m args below meth c D A maxL 0 0 (MQ below (zE D A Qc) args s rm.cells rm.slots A) 0 (lv_args 0 av) [] L f) :
    zM l D G y (.code y cc maxL ret :: BG) rm av L f Qc := by
  intro sz
  refine Met.ofW (cc := cc) (maxL := maxL) (ret := ret) hy rfl ?_
  intro p e s m args below meth c s₁ B hml hv
  obtain ⟨rfl, hsz, hP, hK, hD0⟩ := hv
  have hts := atoms_spec (ws := .code y cc maxL ret :: BG) B.pre
  subst hsz
  have hD := hD0.self (sz := s.heap.size)
  have hA : ∀ q : Nat, s.heap.size ≤ q → va_A (va_pl L f) s.heap.size q := fun q h => Or.inr h
  rw [lg_entry_eq]
  exact body p e s m av.toArray below meth c _ ⟨B.exec, B.bytes, hml, findClass_of_methodNamed B.named, fun w h => hts w (List.mem_cons_of_mem _ h), hK, hA, B.notSynchronized⟩ B.returns (name_of_methodNamed B.named B.method).1 s.heap [] _ (zL_entry hlen hcat) hP hD va_S.rf
section ZG
variable {p : Program} {l : Launch} {e : Env} {R : Room} {s : State} {m : MethodId} {args : Array Value} {below : List Frame} {meth : Method} {c : Code} {D : va_G} {G : Nat → ClassId} {A : Nat → Prop} {nL cells slots : Nat} {Q : State → Prop} {cc : ByteArray} {own : String}
variable {pc n t : Nat} {lv lv' : List (Nat × Value)} {st : List Value} {L : List Nat} {f : Nat → va_E}
/-- other words for the same locals -/
theorem k_loc (k : zG p l e R s m args below meth c D A nL cells slots Q pc lv' st L f) (hs : lv'.map (fun q => zg lv q.1) = lv'.map (fun q => some q.2)) : zG p l e R s m args below meth c D A nL cells slots Q pc lv st L f := fun H locs ls hl hP hD hS => k H locs ls (zL_sub hl hs) hP hD hS
theorem k_iconst (X : zX p s m args meth c D G A cc own nL) {z : Int} (hd : decode cc pc = .ok (.iconst z, 1)) (hn : pc + 1 = n) (k : zG p l e R s m args below meth c D A nL cells slots Q n lv (.int (zI z) :: st) L f) : zG p l e R s m args below meth c D A nL cells slots Q pc lv st L f := by
  subst hn; exact fun H locs ls hl hP hD hS => lv_iconst X.1 X.2.1 hd rfl (k H locs ls hl hP hD hS)
theorem k_bipush (X : zX p s m args meth c D G A cc own nL) {z : Int} (hd : decode cc pc = .ok (.bipush z, 2)) (hz : (Int8.ofInt z).toInt32 = zI z) (hn : pc + 2 = n) (k : zG p l e R s m args below meth c D A nL cells slots Q n lv (.int (zI z) :: st) L f) : zG p l e R s m args below meth c D A nL cells slots Q pc lv st L f := by
  subst hn; exact fun H locs ls hl hP hD hS => lv_bipush X.1 X.2.1 hd hz (k H locs ls hl hP hD hS)
theorem k_sipush (X : zX p s m args meth c D G A cc own nL) {z : Int} (hd : decode cc pc = .ok (.sipush z, 3)) (hz : (Int16.ofInt z).toInt32 = zI z) (hn : pc + 3 = n) (k : zG p l e R s m args below meth c D A nL cells slots Q n lv (.int (zI z) :: st) L f) : zG p l e R s m args below meth c D A nL cells slots Q pc lv st L f := by
  subst hn; exact fun H locs ls hl hP hD hS => lv_sipush X.1 X.2.1 hd hz (k H locs ls hl hP hD hS)
theorem k_iload_n (X : zX p s m args meth c D G A cc own nL) {k : Fin 4} {i : Nat} {x : Int32} (hd : decode cc pc = .ok (.iload_n k, 1)) (hi : (k : Nat) = i) (hg : zg lv i = some (.int x)) (hn : pc + 1 = n) (k : zG p l e R s m args below meth c D A nL cells slots Q n lv (.int x :: st) L f) : zG p l e R s m args below meth c D A nL cells slots Q pc lv st L f := by
  subst hn; exact fun H locs ls hl hP hD hS => lv_iload_n X.1 X.2.1 hd hi (zL_at hl hg) (k H locs ls hl hP hD hS)
theorem k_iload (X : zX p s m args meth c D G A cc own nL) {i : Nat} {x : Int32} (hd : decode cc pc = .ok (.iload i, 2)) (hg : zg lv i = some (.int x)) (hn : pc + 2 = n) (k : zG p l e R s m args below meth c D A nL cells slots Q n lv (.int x :: st) L f) : zG p l e R s m args below meth c D A nL cells slots Q pc lv st L f := by
  subst hn; exact fun H locs ls hl hP hD hS => lv_iload X.1 X.2.1 hd (zL_at hl hg) (k H locs ls hl hP hD hS)
theorem k_aload_n (X : zX p s m args meth c D G A cc own nL) {k : Fin 4} {i x : Nat} (hd : decode cc pc = .ok (.aload_n k, 1)) (hi : (k : Nat) = i) (hg : zg lv i = some (.ref x)) (hn : pc + 1 = n) (k : zG p l e R s m args below meth c D A nL cells slots Q n lv (.ref x :: st) L f) : zG p l e R s m args below meth c D A nL cells slots Q pc lv st L f := by
  subst hn; exact fun H locs ls hl hP hD hS => lv_aload_n X.1 X.2.1 hd hi (zL_at hl hg) (k H locs ls hl hP hD hS)
theorem k_aload (X : zX p s m args meth c D G A cc own nL) {i x : Nat} (hd : decode cc pc = .ok (.aload i, 2)) (hg : zg lv i = some (.ref x)) (hn : pc + 2 = n) (k : zG p l e R s m args below meth c D A nL cells slots Q n lv (.ref x :: st) L f) : zG p l e R s m args below meth c D A nL cells slots Q pc lv st L f := by
  subst hn; exact fun H locs ls hl hP hD hS => lv_aload X.1 X.2.1 hd (zL_at hl hg) (k H locs ls hl hP hD hS)
theorem k_istore_n (X : zX p s m args meth c D G A cc own nL) {k : Fin 4} {i : Nat} {x : Int32} (hd : decode cc pc = .ok (.istore_n k, 1)) (hi : (k : Nat) = i) (hL : i < nL) (hn : pc + 1 = n) (k : zG p l e R s m args below meth c D A nL cells slots Q n ((i, .int x) :: lv) st L f) : zG p l e R s m args below meth c D A nL cells slots Q pc lv (.int x :: st) L f := by
  subst hn; exact fun H locs ls hl hP hD hS => lv_istore_n X.1 X.2.1 hd hi (zL_has hl) hL rfl (fun ls' h' => k H locs ls' (zL_put hl rfl h') hP hD hS)
theorem k_istore (X : zX p s m args meth c D G A cc own nL) {i : Nat} {x : Int32} (hd : decode cc pc = .ok (.istore i, 2)) (hL : i < nL) (hn : pc + 2 = n) (k : zG p l e R s m args below meth c D A nL cells slots Q n ((i, .int x) :: lv) st L f) : zG p l e R s m args below meth c D A nL cells slots Q pc lv (.int x :: st) L f := by
  subst hn; exact fun H locs ls hl hP hD hS => lv_istore X.1 X.2.1 hd (zL_has hl) hL rfl (fun ls' h' => k H locs ls' (zL_put hl rfl h') hP hD hS)
theorem k_astore_n (X : zX p s m args meth c D G A cc own nL) {k : Fin 4} {i x : Nat} (hd : decode cc pc = .ok (.astore_n k, 1)) (hi : (k : Nat) = i) (hL : i < nL) (hn : pc + 1 = n) (k : zG p l e R s m args below meth c D A nL cells slots Q n ((i, .ref x) :: lv) st L f) : zG p l e R s m args below meth c D A nL cells slots Q pc lv (.ref x :: st) L f := by
  subst hn; exact fun H locs ls hl hP hD hS => lv_astore_n X.1 X.2.1 hd hi (zL_has hl) hL rfl (fun ls' h' => k H locs ls' (zL_put hl rfl h') hP hD hS)
theorem k_astore (X : zX p s m args meth c D G A cc own nL) {i x : Nat} (hd : decode cc pc = .ok (.astore i, 2)) (hL : i < nL) (hn : pc + 2 = n) (k : zG p l e R s m args below meth c D A nL cells slots Q n ((i, .ref x) :: lv) st L f) : zG p l e R s m args below meth c D A nL cells slots Q pc lv (.ref x :: st) L f := by
  subst hn; exact fun H locs ls hl hP hD hS => lv_astore X.1 X.2.1 hd (zL_has hl) hL rfl (fun ls' h' => k H locs ls' (zL_put hl rfl h') hP hD hS)
theorem k_iinc (X : zX p s m args meth c D G A cc own nL) {i : Nat} {z w : Int} (hd : decode cc pc = .ok (.iinc i w, 3)) (hg : zg lv i = some (.int (zI z))) (hL : i < nL) (hn : pc + 3 = n) (k : zG p l e R s m args below meth c D A nL cells slots Q n ((i, .int (zI (z + w))) :: lv) st L f) : zG p l e R s m args below meth c D A nL cells slots Q pc lv st L f := by
  subst hn
  intro H locs ls hl hP hD hS
  obtain ⟨q, hq⟩ := List.getElem?_of_mem (zd_mem.mpr hg)
  exact lv_iinc X.1 X.2.1 hd (zL_has hl) hq (zI_add z w) hL rfl (fun ls' h' => k H locs ls' (zL_put hl rfl h') hP hD hS)
theorem k_iadd (X : zX p s m args meth c D G A cc own nL) {a b : Int} (hd : decode cc pc = .ok (.iadd, 1)) (hn : pc + 1 = n) (k : zG p l e R s m args below meth c D A nL cells slots Q n lv (.int (zI (a + b)) :: st) L f) : zG p l e R s m args below meth c D A nL cells slots Q pc lv (.int (zI b) :: .int (zI a) :: st) L f := by
  subst hn; exact fun H locs ls hl hP hD hS => lv_iadd X.1 X.2.1 hd (by rw [zI_add]; exact k H locs ls hl hP hD hS)
theorem k_isub (X : zX p s m args meth c D G A cc own nL) {a b : Int} (hd : decode cc pc = .ok (.isub, 1)) (hn : pc + 1 = n) (k : zG p l e R s m args below meth c D A nL cells slots Q n lv (.int (zI (a - b)) :: st) L f) : zG p l e R s m args below meth c D A nL cells slots Q pc lv (.int (zI b) :: .int (zI a) :: st) L f := by
  subst hn; exact fun H locs ls hl hP hD hS => lv_isub X.1 X.2.1 hd (by rw [zI_sub]; exact k H locs ls hl hP hD hS)
theorem k_imul (X : zX p s m args meth c D G A cc own nL) {a b : Int} (hd : decode cc pc = .ok (.imul, 1)) (hn : pc + 1 = n) (k : zG p l e R s m args below meth c D A nL cells slots Q n lv (.int (zI (a * b)) :: st) L f) : zG p l e R s m args below meth c D A nL cells slots Q pc lv (.int (zI b) :: .int (zI a) :: st) L f := by
  subst hn; exact fun H locs ls hl hP hD hS => lv_imul X.1 X.2.1 hd (by rw [zI_mul]; exact k H locs ls hl hP hD hS)
theorem k_ineg (X : zX p s m args meth c D G A cc own nL) {a : Int} (hd : decode cc pc = .ok (.ineg, 1)) (hn : pc + 1 = n) (k : zG p l e R s m args below meth c D A nL cells slots Q n lv (.int (zI (-a)) :: st) L f) : zG p l e R s m args below meth c D A nL cells slots Q pc lv (.int (zI a) :: st) L f := by
  subst hn; exact fun H locs ls hl hP hD hS => lv_ineg X.1 X.2.1 hd (by rw [zI_neg]; exact k H locs ls hl hP hD hS)
theorem k_dup (X : zX p s m args meth c D G A cc own nL) {v : Value} (hd : decode cc pc = .ok (.dup, 1)) (hv : v.category = 1) (hn : pc + 1 = n) (k : zG p l e R s m args below meth c D A nL cells slots Q n lv (v :: v :: st) L f) : zG p l e R s m args below meth c D A nL cells slots Q pc lv (v :: st) L f := by
  subst hn; exact fun H locs ls hl hP hD hS => lv_dup X.1 X.2.1 hd hv (k H locs ls hl hP hD hS)
theorem k_pop (X : zX p s m args meth c D G A cc own nL) {v : Value} (hd : decode cc pc = .ok (.pop, 1)) (hv : v.category = 1) (hn : pc + 1 = n) (k : zG p l e R s m args below meth c D A nL cells slots Q n lv st L f) : zG p l e R s m args below meth c D A nL cells slots Q pc lv (v :: st) L f := by
  subst hn; exact fun H locs ls hl hP hD hS => lv_pop X.1 X.2.1 hd hv (k H locs ls hl hP hD hS)
theorem k_dup2 (X : zX p s m args meth c D G A cc own nL) {v w : Value} (hd : decode cc pc = .ok (.dup2, 1)) (hv : v.category = 1) (hw : w.category = 1) (hn : pc + 1 = n) (k : zG p l e R s m args below meth c D A nL cells slots Q n lv (v :: w :: v :: w :: st) L f) : zG p l e R s m args below meth c D A nL cells slots Q pc lv (v :: w :: st) L f := by
  subst hn; exact fun H locs ls hl hP hD hS => lv_dup2_11 X.1 X.2.1 hd hv hw (k H locs ls hl hP hD hS)
theorem k_goto (X : zX p s m args meth c D G A cc own nL) {off : Int} (hd : decode cc pc = .ok (.goto off, 3)) (ht : (pc : Int) + off = (t : Int)) (k : zG p l e R s m args below meth c D A nL cells slots Q t lv st L f) : zG p l e R s m args below meth c D A nL cells slots Q pc lv st L f :=
  fun H locs ls hl hP hD hS => lv_goto X.1 X.2.1 hd ht (k H locs ls hl hP hD hS)
theorem k_if_eq (X : zX p s m args meth c D G A cc own nL) {a off : Int} (hd : decode cc pc = .ok (.ifCond .eq off, 3)) (ht : (pc : Int) + off = (t : Int)) (hn : pc + 3 = n) (ha : zO a) (kt : a = 0 → zG p l e R s m args below meth c D A nL cells slots Q t lv st L f) (kf : ¬ (a = 0) → zG p l e R s m args below meth c D A nL cells slots Q n lv st L f) : zG p l e R s m args below meth c D A nL cells slots Q pc lv (.int (zI a) :: st) L f := by
  subst hn
  have i := zI_eq ha zO_0
  rw [zI_0] at i
  exact fun H locs ls hl hP hD hS => lv_if_eq X.1 X.2.1 hd ht (fun h => kt (i.mp h) H locs ls hl hP hD hS) (fun h => kf (fun q => h (i.mpr q)) H locs ls hl hP hD hS)
theorem k_if_ne (X : zX p s m args meth c D G A cc own nL) {a off : Int} (hd : decode cc pc = .ok (.ifCond .ne off, 3)) (ht : (pc : Int) + off = (t : Int)) (hn : pc + 3 = n) (ha : zO a) (kt : ¬ a = 0 → zG p l e R s m args below meth c D A nL cells slots Q t lv st L f) (kf : a = 0 → zG p l e R s m args below meth c D A nL cells slots Q n lv st L f) : zG p l e R s m args below meth c D A nL cells slots Q pc lv (.int (zI a) :: st) L f := by
  subst hn
  have i := zI_eq ha zO_0
  rw [zI_0] at i
  exact fun H locs ls hl hP hD hS => lv_if_ne X.1 X.2.1 hd ht (fun h => kt (fun q => h (i.mpr q)) H locs ls hl hP hD hS) (fun h => kf (i.mp h) H locs ls hl hP hD hS)
theorem k_if_lt (X : zX p s m args meth c D G A cc own nL) {a off : Int} (hd : decode cc pc = .ok (.ifCond .lt off, 3)) (ht : (pc : Int) + off = (t : Int)) (hn : pc + 3 = n) (ha : zO a) (kt : a < 0 → zG p l e R s m args below meth c D A nL cells slots Q t lv st L f) (kf : ¬ (a < 0) → zG p l e R s m args below meth c D A nL cells slots Q n lv st L f) : zG p l e R s m args below meth c D A nL cells slots Q pc lv (.int (zI a) :: st) L f := by
  subst hn
  have i := zI_lt ha zO_0
  rw [zI_0] at i
  exact fun H locs ls hl hP hD hS => lv_if_lt X.1 X.2.1 hd ht (fun h => kt (i.mp h) H locs ls hl hP hD hS) (fun h => kf (fun q => h (i.mpr q)) H locs ls hl hP hD hS)
theorem k_if_ge (X : zX p s m args meth c D G A cc own nL) {a off : Int} (hd : decode cc pc = .ok (.ifCond .ge off, 3)) (ht : (pc : Int) + off = (t : Int)) (hn : pc + 3 = n) (ha : zO a) (kt : 0 ≤ a → zG p l e R s m args below meth c D A nL cells slots Q t lv st L f) (kf : ¬ (0 ≤ a) → zG p l e R s m args below meth c D A nL cells slots Q n lv st L f) : zG p l e R s m args below meth c D A nL cells slots Q pc lv (.int (zI a) :: st) L f := by
  subst hn
  have i := zI_le zO_0 ha
  rw [zI_0] at i
  exact fun H locs ls hl hP hD hS => lv_if_ge X.1 X.2.1 hd ht (fun h => kt (i.mp h) H locs ls hl hP hD hS) (fun h => kf (fun q => h (i.mpr q)) H locs ls hl hP hD hS)
theorem k_if_gt (X : zX p s m args meth c D G A cc own nL) {a off : Int} (hd : decode cc pc = .ok (.ifCond .gt off, 3)) (ht : (pc : Int) + off = (t : Int)) (hn : pc + 3 = n) (ha : zO a) (kt : 0 < a → zG p l e R s m args below meth c D A nL cells slots Q t lv st L f) (kf : ¬ (0 < a) → zG p l e R s m args below meth c D A nL cells slots Q n lv st L f) : zG p l e R s m args below meth c D A nL cells slots Q pc lv (.int (zI a) :: st) L f := by
  subst hn
  have i := zI_lt zO_0 ha
  rw [zI_0] at i
  exact fun H locs ls hl hP hD hS => lv_if_gt X.1 X.2.1 hd ht (fun h => kt (i.mp h) H locs ls hl hP hD hS) (fun h => kf (fun q => h (i.mpr q)) H locs ls hl hP hD hS)
theorem k_if_le (X : zX p s m args meth c D G A cc own nL) {a off : Int} (hd : decode cc pc = .ok (.ifCond .le off, 3)) (ht : (pc : Int) + off = (t : Int)) (hn : pc + 3 = n) (ha : zO a) (kt : a ≤ 0 → zG p l e R s m args below meth c D A nL cells slots Q t lv st L f) (kf : ¬ (a ≤ 0) → zG p l e R s m args below meth c D A nL cells slots Q n lv st L f) : zG p l e R s m args below meth c D A nL cells slots Q pc lv (.int (zI a) :: st) L f := by
  subst hn
  have i := zI_le ha zO_0
  rw [zI_0] at i
  exact fun H locs ls hl hP hD hS => lv_if_le X.1 X.2.1 hd ht (fun h => kt (i.mp h) H locs ls hl hP hD hS) (fun h => kf (fun q => h (i.mpr q)) H locs ls hl hP hD hS)
theorem k_icmp_eq (X : zX p s m args meth c D G A cc own nL) {a b off : Int} (hd : decode cc pc = .ok (.if_icmp .eq off, 3)) (ht : (pc : Int) + off = (t : Int)) (hn : pc + 3 = n) (ha : zO a) (hb : zO b) (kt : a = b → zG p l e R s m args below meth c D A nL cells slots Q t lv st L f) (kf : ¬ (a = b) → zG p l e R s m args below meth c D A nL cells slots Q n lv st L f) : zG p l e R s m args below meth c D A nL cells slots Q pc lv (.int (zI b) :: .int (zI a) :: st) L f := by
  subst hn
  have i := zI_eq ha hb
  exact fun H locs ls hl hP hD hS => lv_icmp_eq X.1 X.2.1 hd ht (fun h => kt (i.mp h) H locs ls hl hP hD hS) (fun h => kf (fun q => h (i.mpr q)) H locs ls hl hP hD hS)
theorem k_icmp_ne (X : zX p s m args meth c D G A cc own nL) {a b off : Int} (hd : decode cc pc = .ok (.if_icmp .ne off, 3)) (ht : (pc : Int) + off = (t : Int)) (hn : pc + 3 = n) (ha : zO a) (hb : zO b) (kt : ¬ a = b → zG p l e R s m args below meth c D A nL cells slots Q t lv st L f) (kf : a = b → zG p l e R s m args below meth c D A nL cells slots Q n lv st L f) : zG p l e R s m args below meth c D A nL cells slots Q pc lv (.int (zI b) :: .int (zI a) :: st) L f := by
  subst hn
  have i := zI_eq ha hb
  exact fun H locs ls hl hP hD hS => lv_icmp_ne X.1 X.2.1 hd ht (fun h => kt (fun q => h (i.mpr q)) H locs ls hl hP hD hS) (fun h => kf (i.mp h) H locs ls hl hP hD hS)
theorem k_icmp_lt (X : zX p s m args meth c D G A cc own nL) {a b off : Int} (hd : decode cc pc = .ok (.if_icmp .lt off, 3)) (ht : (pc : Int) + off = (t : Int)) (hn : pc + 3 = n) (ha : zO a) (hb : zO b) (kt : a < b → zG p l e R s m args below meth c D A nL cells slots Q t lv st L f) (kf : ¬ (a < b) → zG p l e R s m args below meth c D A nL cells slots Q n lv st L f) : zG p l e R s m args below meth c D A nL cells slots Q pc lv (.int (zI b) :: .int (zI a) :: st) L f := by
  subst hn
  have i := zI_lt ha hb
  exact fun H locs ls hl hP hD hS => lv_icmp_lt X.1 X.2.1 hd ht (fun h => kt (i.mp h) H locs ls hl hP hD hS) (fun h => kf (fun q => h (i.mpr q)) H locs ls hl hP hD hS)
theorem k_icmp_ge (X : zX p s m args meth c D G A cc own nL) {a b off : Int} (hd : decode cc pc = .ok (.if_icmp .ge off, 3)) (ht : (pc : Int) + off = (t : Int)) (hn : pc + 3 = n) (ha : zO a) (hb : zO b) (kt : b ≤ a → zG p l e R s m args below meth c D A nL cells slots Q t lv st L f) (kf : ¬ (b ≤ a) → zG p l e R s m args below meth c D A nL cells slots Q n lv st L f) : zG p l e R s m args below meth c D A nL cells slots Q pc lv (.int (zI b) :: .int (zI a) :: st) L f := by
  subst hn
  have i := zI_le hb ha
  exact fun H locs ls hl hP hD hS => lv_icmp_ge X.1 X.2.1 hd ht (fun h => kt (i.mp h) H locs ls hl hP hD hS) (fun h => kf (fun q => h (i.mpr q)) H locs ls hl hP hD hS)
theorem k_icmp_gt (X : zX p s m args meth c D G A cc own nL) {a b off : Int} (hd : decode cc pc = .ok (.if_icmp .gt off, 3)) (ht : (pc : Int) + off = (t : Int)) (hn : pc + 3 = n) (ha : zO a) (hb : zO b) (kt : b < a → zG p l e R s m args below meth c D A nL cells slots Q t lv st L f) (kf : ¬ (b < a) → zG p l e R s m args below meth c D A nL cells slots Q n lv st L f) : zG p l e R s m args below meth c D A nL cells slots Q pc lv (.int (zI b) :: .int (zI a) :: st) L f := by
  subst hn
  have i := zI_lt hb ha
  exact fun H locs ls hl hP hD hS => lv_icmp_gt X.1 X.2.1 hd ht (fun h => kt (i.mp h) H locs ls hl hP hD hS) (fun h => kf (fun q => h (i.mpr q)) H locs ls hl hP hD hS)
theorem k_icmp_le (X : zX p s m args meth c D G A cc own nL) {a b off : Int} (hd : decode cc pc = .ok (.if_icmp .le off, 3)) (ht : (pc : Int) + off = (t : Int)) (hn : pc + 3 = n) (ha : zO a) (hb : zO b) (kt : a ≤ b → zG p l e R s m args below meth c D A nL cells slots Q t lv st L f) (kf : ¬ (a ≤ b) → zG p l e R s m args below meth c D A nL cells slots Q n lv st L f) : zG p l e R s m args below meth c D A nL cells slots Q pc lv (.int (zI b) :: .int (zI a) :: st) L f := by
  subst hn
  have i := zI_le ha hb
  exact fun H locs ls hl hP hD hS => lv_icmp_le X.1 X.2.1 hd ht (fun h => kt (i.mp h) H locs ls hl hP hD hS) (fun h => kf (fun q => h (i.mpr q)) H locs ls hl hP hD hS)
-- cells
theorem pl_at {a : Nat} {E : va_E} (ha : a ∈ L) (hf : f a = E) : ∃ q : Nat, (va_pl L f)[q]? = some (a, E) := by
  obtain ⟨q, hq⟩ := va_pl_get (X := []) (f := f) ha
  exact ⟨q, by rw [← hf]; exact hq⟩
theorem pl_set {a q : Nat} {E E' : va_E} (hD : va_D A (va_pl L f)) (ha : a ∈ L) (hf : f a = E) (hq : (va_pl L f)[q]? = some (a, E)) : (va_pl L f).set q (a, E') = va_pl L (va_up f a E') :=
  va_pl_set (X := []) hD ha (by rw [hf]; exact hq)
theorem k_get (X : zX p s m args meth c D G A cc own nL) {C : String} {T : u_T} {N ci index : Nat} (hin : ∀ w ∈ u_ws C T N, w ∈ BG) (hc : zc[ci]? = some (C, T, N)) {a : Nat} {fs : List Value} {v : Value} (k : Nat) (hk : k < N) (hw : Cond.fieldLink own index C (T k).2.1 (T k).2.2.1 ∈ BG) (hsame : (T k).1 = C) (hd : decode cc pc = .ok (.getfield index, 3)) (hn : pc + 3 = n) (ha : a ∈ L) (hf : f a = .inr (ci, fs)) (hv : fs[k]? = some v) (kk : zG p l e R s m args below meth c D A nL cells slots Q n lv (v :: st) L f) : zG p l e R s m args below meth c D A nL cells slots Q pc lv (.ref a :: st) L f := by
  subst hn
  intro H locs ls hl hP hD hS
  obtain ⟨q, hq⟩ := pl_at ha hf
  exact va_get (D := D) (ci := ci) (v := v) (C := C) (T := T) (N := N) X.1 X.2.1 X.2.2.2.2.1 hin X.2.2.2.1 X.2.2.2.2.2.1 hP q hq hc k hk (X.2.2.2.2.1 _ hw) (fun x h => by rw [hsame] at h; exact h) hv hd (kk H locs ls hl hP hD hS)
theorem k_put (X : zX p s m args meth c D G A cc own nL) {C : String} {T : u_T} {N ci index : Nat} (hin : ∀ w ∈ u_ws C T N, w ∈ BG) {ty0 : Nat → FieldType} (hty : ∀ k, k < N → parseFieldDescriptor (T k).2.2.1 = some (ty0 k)) (hnm : ∀ a, a < N → ∀ b, b < N → a ≠ b → (T a).2.1 ≠ (T b).2.1) (hc : zc[ci]? = some (C, T, N)) {a : Nat} {fs : List Value} {v : Value} (k : Nat) (hk : k < N) (hw : Cond.fieldLink own index C (T k).2.1 (T k).2.2.1 ∈ BG) (hsame : (T k).1 = C) (hfin : (T k).2.2.2 = false) (hnar : narrow (ty0 k) v = v) (hfit : fits (ty0 k) v = true) (hd : decode cc pc = .ok (.putfield index, 3)) (hn : pc + 3 = n) (ha : a ∈ L) (hf : f a = .inr (ci, fs)) (hl : k < fs.length) (kk : zG p l e R s m args below meth c D A nL cells slots Q n lv st L (va_up f a (.inr (ci, fs.set k v)))) : zG p l e R s m args below meth c D A nL cells slots Q pc lv (v :: .ref a :: st) L f := by
  subst hn
  intro H locs ls hl' hP hD hS
  obtain ⟨q, hq⟩ := pl_at ha hf
  exact va_put (D := D) (ci := ci) (v := v) (ty := ty0 k) (C := C) (T := T) (N := N) X.1 X.2.1 X.2.2.2.2.1 hin ty0 hty hnm X.2.2.2.1 X.2.2.2.2.2.1 hP hD hS q hq hc k hk (X.2.2.2.2.1 _ hw) (fun x h => by rw [hsame] at h; exact h) hfin (hty k hk) hnar hfit hl hd (fun H1 locs1 hP1 hD1 hS1 => kk H1 locs1 ls hl' (by rw [← pl_set hD ha hf hq]; exact hP1) (by rw [← pl_set hD ha hf hq]; exact hD1) hS1)
theorem k_iald (X : zX p s m args meth c D G A cc own nL) {a N : Nat} {Y : Int → Int} {z : Int} (hd : decode cc pc = .ok (.iaload, 1)) (hn : pc + 1 = n) (ha : a ∈ L) (hf : f a = zr G N Y) (h0 : 0 ≤ z) (h1 : z < N) (hN : N < 2 ^ 31) (kk : zG p l e R s m args below meth c D A nL cells slots Q n lv (.int (zI (Y z)) :: st) L f) : zG p l e R s m args below meth c D A nL cells slots Q pc lv (.int (zI z) :: .ref a :: st) L f := by
  subst hn
  intro H locs ls hl hP hD hS
  obtain ⟨q, hq⟩ := pl_at ha hf
  refine va_iald X.1 X.2.1 X.2.2.2.2.2.1 hP q 0 hq rfl (zI_in h0 h1 hN) hd ?_
  rw [zI_cl h0 h1 hN, show ((z.toNat : Nat) : Int) = z from Int.toNat_of_nonneg h0]
  exact kk H locs ls hl hP hD hS
theorem k_iast (X : zX p s m args meth c D G A cc own nL) {a N : Nat} {Y : Int → Int} {z v : Int} (hd : decode cc pc = .ok (.iastore, 1)) (hn : pc + 1 = n) (ha : a ∈ L) (hf : f a = zr G N Y) (h0 : 0 ≤ z) (h1 : z < N) (hN : N < 2 ^ 31) (kk : zG p l e R s m args below meth c D A nL cells slots Q n lv st L (va_up f a (zr G N (iu Y z v)))) : zG p l e R s m args below meth c D A nL cells slots Q pc lv (.int (zI v) :: .int (zI z) :: .ref a :: st) L f := by
  subst hn
  intro H locs ls hl hP hD hS
  obtain ⟨q, hq⟩ := pl_at ha hf
  refine va_iast X.1 X.2.1 X.2.2.2.2.2.1 hP hD hS q 0 hq rfl (zI_in h0 h1 hN) hd (fun H1 locs1 hP1 hD1 hS1 => ?_)
  rw [zI_cl h0 h1 hN, zr_up Y z v h0] at hP1 hD1
  exact kk H1 locs1 ls hl (by rw [← pl_set hD ha hf hq]; exact hP1) (by rw [← pl_set hD ha hf hq]; exact hD1) hS1
theorem k_aald (X : zX p s m args meth c D G A cc own nL) {a N g : Nat} {C : String} {Y : Int → Nat} {z : Int} (hd : decode cc pc = .ok (.aaload, 1)) (hn : pc + 1 = n) (ha : a ∈ L) (hf : f a = zq G g N Y) (hg : (zt G)[g]? = some (G g, .object C)) (h0 : 0 ≤ z) (h1 : z < N) (hN : N < 2 ^ 31) (kk : zG p l e R s m args below meth c D A nL cells slots Q n lv (.ref (Y z) :: st) L f) : zG p l e R s m args below meth c D A nL cells slots Q pc lv (.int (zI z) :: .ref a :: st) L f := by
  subst hn
  intro H locs ls hl hP hD hS
  obtain ⟨q, hq⟩ := pl_at ha hf
  refine va_aldq X.1 X.2.1 X.2.2.2.2.2.1 hP q g hq hg (zI_in h0 h1 hN) hd ?_
  rw [zI_cl h0 h1 hN, show ((z.toNat : Nat) : Int) = z from Int.toNat_of_nonneg h0]
  exact kk H locs ls hl hP hD hS
-- ends
theorem k_iret (X : zX p s m args meth c D G A cc own nL) {Qc : Option Value → List Nat → (Nat → va_E) → Prop} {mc ms : Nat} {ty : FieldType} {v : Int32} (hd : decode cc pc = .ok (.ireturn, 1)) (hr : meth.sig.returnType = some ty) (hnar : narrow ty (.int v) = .int v) (h1 : cells ≤ mc) (h2 : slots ≤ ms) (hq : Qc (some (.int v)) L f) : zG p l e R s m args below meth c D A nL cells slots (MQ below (zE D A Qc) args s mc ms A) pc lv [.int v] L f := by
  intro H locs ls hl hP hD hS
  refine W.widen h1 h2 ?_
  exact W.zret (hlocks := X.2.2.2.2.2.2.2) X.1 X.2.1 hr hnar (fun t ht _ => ⟨⟨_, L, f, rfl, hq, by rw [ht]; exact hP, hD⟩, hS.F ht⟩) hS.2.2 hd
theorem k_vret (X : zX p s m args meth c D G A cc own nL) {Qc : Option Value → List Nat → (Nat → va_E) → Prop} {mc ms : Nat} (hd : decode cc pc = .ok (.return_, 1)) (hr : meth.sig.returnType = none) (h1 : cells ≤ mc) (h2 : slots ≤ ms) (hq : Qc none L f) : zG p l e R s m args below meth c D A nL cells slots (MQ below (zE D A Qc) args s mc ms A) pc lv [] L f := by
  intro H locs ls hl hP hD hS
  refine W.widen h1 h2 ?_
  exact W.vret (hlocks := X.2.2.2.2.2.2.2) X.1 X.2.1 hr (fun t ht _ => ⟨⟨_, L, f, rfl, hq, by rw [ht]; exact hP, hD⟩, hS.F ht⟩) hS.2.2 hd
theorem k_aret (X : zX p s m args meth c D G A cc own nL) {Qc : Option Value → List Nat → (Nat → va_E) → Prop} {mc ms : Nat} {C : String} {a : Nat} (hd : decode cc pc = .ok (.areturn, 1)) (hr : meth.sig.returnType = some (.object C)) (h1 : cells ≤ mc) (h2 : slots ≤ ms) (hq : Qc (some (.ref a)) L f) : zG p l e R s m args below meth c D A nL cells slots (MQ below (zE D A Qc) args s mc ms A) pc lv [.ref a] L f := by
  intro H locs ls hl hP hD hS
  refine W.widen h1 h2 ?_
  exact W.aret (hlocks := X.2.2.2.2.2.2.2) X.1 X.2.1 hr (Or.inl ⟨C, rfl⟩) (Or.inr ⟨a, rfl⟩) (fun t ht _ => ⟨⟨_, L, f, rfl, hq, by rw [ht]; exact hP, hD⟩, hS.F ht⟩) hS.2.2 hd
-- calls
theorem zM_blind {av : List Value} {sz : Nat} : FrameBlind (va_Pc av (zW D G L f sz)) := fun a U g mk q => by
  obtain ⟨q0, q1, qP, qK, qD⟩ := q
  exact ⟨q0, q1, qP, va_K.moved (u := U) (U := U.calling g mk a) (Vm.Alike.refl U.vm) qK, qD⟩
theorem zA_sub {H : Heap} {locs : List Loc} (hD : va_D A (va_pl L f)) (hS : va_S A s.heap H locs) (hA : ∀ q, s.heap.size ≤ q → A q) : ∀ q, va_A (va_pl L f) H.size q → A q := by
  intro q h
  rcases h with ⟨k, e, h⟩ | h
  · exact hD.2 k (q, e) h
  · exact hA q (Nat.le_trans hS.1 h)
theorem k_ran (X : zX p s m args meth c D G A cc own nL) {Qc : Option Value → List Nat → (Nat → va_E) → Prop} {mc ms : Nat} {st0 : List Value} {av : Array Value} (hn : pc + 3 = n)
    (hr : ∀ (H : Heap) (locs : List Loc) (ls : Array Slot), ls.size = nL → va_P D zc (va_pl L f) H → va_D A (va_pl L f) → va_Run p l e R s m args below meth c H locs cells slots mc ms (F0 m pc ls st0) st (zE D (va_A (va_pl L f) H.size) Qc av) (va_A (va_pl L f) H.size))
    (kk : ∀ (v : Option Value) (L1 : List Nat) (f1 : Nat → va_E), Qc v L1 f1 → zG p l e R s m args below meth c D A nL (cells + mc) (slots + ms) Q n lv (v.toList ++ st) L1 f1) : zG p l e R s m args below meth c D A nL cells slots Q pc lv st0 L f := by
  subst hn
  intro H locs ls hl hP hD hS T hT X'
  have hF := zA_sub hD hS X.2.2.2.2.2.2.1
  obtain ⟨v, st₀, t, T', Lc, h0, X2, hL, e1, e2, ⟨⟨v', L1, f1, hv, hq, hP1, hD1⟩, hz, hk⟩, hst⟩ := hr H locs ls hl.1 hP hD T hT X'
  cases hv
  have hS1 : va_S A s.heap t.heap (locs ++ Lc) := by
    refine ⟨Nat.le_trans hS.1 (by rw [← h0]; exact hz), fun q hq1 hq2 => ?_, fun q hq1 => ?_⟩
    · rw [hk q (by rw [h0]; exact Nat.lt_of_lt_of_le hq1 hS.1) (fun h => hq2 (hF q h)), h0]
      exact hS.2.1 q hq1 hq2
    · rcases List.mem_append.mp hq1 with h | h
      · exact hS.2.2 q h
      · exact hF _ (hL q h)
  obtain ⟨t2, a1, b1⟩ := kk v L1 f1 hq t.heap (locs ++ Lc) ls hl hP1 (hD1.weaken (fun _ q _ h => hF q.1 h)) hS1 T' e1 X2
  exact ⟨t2, hst t2 a1, b1⟩
theorem k_callV (X : zX p s m args meth c D G A cc own nL) {Qc : Option Value → List Nat → (Nat → va_E) → Prop} {C : String} {T : u_T} {N ci index maxL na b : Nat} {y : MethodName} {bytes : ByteArray} {ret : Option FieldType} {rm : Room} {As st0 : List Value} {fs : List Value}
    (hM : zM l D G y (.code y bytes maxL ret :: BG) rm (.ref b :: As) L f Qc) (hb : b ∈ L) (hfb : f b = .inr (ci, fs)) (hc : zc[ci]? = some (C, T, N)) (w1 : Cond.code y bytes maxL ret ∈ BG) (w2 : Cond.methodLink own index y ∈ BG) (w3 : Cond.instanceMethod y ∈ BG) (w4 : Cond.selects C y y ∈ BG) (w5 : Cond.initialized C ∈ BG)
    (hy : y.cls = C ∧ y.cls ≠ "java/lang/invoke/MethodHandle" ∧ y.cls ≠ "java/lang/invoke/VarHandle" ∧ (parseMethodDescriptor y.desc).map (fun d => d.parameters.length) = some na) (hR : rm.frames + 1 ≤ R.frames ∧ 8 + (maxL + 11) + rm.locals ≤ R.locals) (hna : As.length = na) (hst : st0 = As.reverse ++ .ref b :: st) (hcat : (st.map fun v => v.category).sum ≤ 8) (hd : decode cc pc = .ok (.invokevirtual index, 3)) (hn : pc + 3 = n) (hf : cells + rm.cells ≤ R.cells ∧ slots + rm.slots ≤ R.slots)
    (kk : ∀ (v : Option Value) (L1 : List Nat) (f1 : Nat → va_E), Qc v L1 f1 → zG p l e R s m args below meth c D A nL (cells + rm.cells) (slots + rm.slots) Q n lv (v.toList ++ st) L1 f1) : zG p l e R s m args below meth c D A nL cells slots Q pc lv st0 L f := by
  refine k_ran X (mc := rm.cells) (ms := rm.slots) (av := (Value.ref b :: As).toArray) hn (fun H locs ls hls hP hD => ?_) kk
  obtain ⟨q, hq⟩ := pl_at hb hfb
  have hts := X.2.2.2.2.1
  have hg : GoodIn BG (wsV own index C y (.code y bytes maxL ret :: BG)) := fun w hw => by
    rcases List.mem_append.mp hw with hw | hw
    · simp only [List.mem_cons, List.not_mem_nil, or_false] at hw
      rcases hw with rfl | rfl | rfl | rfl
      · exact ⟨w2, bg_good w2⟩
      · exact ⟨w3, bg_good w3⟩
      · exact ⟨w4, bg_good w4⟩
      · exact ⟨w5, bg_good w5⟩
    · rcases List.mem_cons.mp hw with rfl | hw
      · exact ⟨w1, bg_good w1⟩
      · exact ⟨hw, bg_good hw⟩
  exact va_runV (As := As) (rest := st) ⟨X.1, X.2.1, X.2.2.1, X.2.2.2.1, hts⟩ (hM H.size) (cwV na hts hg rfl rfl rfl hy hR)
    ⟨zM_blind, va_recv X.2.2.2.2.2.1 hP hc hq, fun U hU hW => ⟨rfl, by rw [hU], by rw [hU]; exact hP, va_K.moved hW.alike X.2.2.2.2.2.1, hD.weaken (fun _ _ _ _ => trivial)⟩⟩ rfl hna hls hst (lv_room hcat) hd hf
theorem k_callS (X : zX p s m args meth c D G A cc own nL) {Qc : Option Value → List Nat → (Nat → va_E) → Prop} {index maxL na : Nat} {y : MethodName} {bytes : ByteArray} {ret : Option FieldType} {rm : Room} {As st0 : List Value}
    (hM : zM l D G y (.code y bytes maxL ret :: BG) rm As L f Qc) (w1 : Cond.code y bytes maxL ret ∈ BG) (w2 : Cond.methodLink own index y ∈ BG) (w3 : Cond.static y ∈ BG) (w5 : Cond.initialized y.cls ∈ BG)
    (hy : y.cls ≠ "java/lang/invoke/MethodHandle" ∧ y.cls ≠ "java/lang/invoke/VarHandle" ∧ (parseMethodDescriptor y.desc).map (fun d => d.parameters.length) = some na) (hR : rm.frames + 1 ≤ R.frames ∧ 8 + (maxL + 11) + rm.locals ≤ R.locals) (hna : As.length = na) (hst : st0 = As.reverse ++ st) (hcat : (st.map fun v => v.category).sum ≤ 8) (hd : decode cc pc = .ok (.invokestatic index, 3)) (hn : pc + 3 = n) (hf : cells + rm.cells ≤ R.cells ∧ slots + rm.slots ≤ R.slots)
    (kk : ∀ (v : Option Value) (L1 : List Nat) (f1 : Nat → va_E), Qc v L1 f1 → zG p l e R s m args below meth c D A nL (cells + rm.cells) (slots + rm.slots) Q n lv (v.toList ++ st) L1 f1) : zG p l e R s m args below meth c D A nL cells slots Q pc lv st0 L f := by
  refine k_ran X (mc := rm.cells) (ms := rm.slots) (av := As.toArray) hn (fun H locs ls hls hP hD => ?_) kk
  have hts := X.2.2.2.2.1
  have hg : GoodIn BG (va_wsS own index y (.code y bytes maxL ret :: BG)) := fun w hw => by
    rcases List.mem_append.mp hw with hw | hw
    · simp only [List.mem_cons, List.not_mem_nil, or_false] at hw
      rcases hw with rfl | rfl | rfl
      · exact ⟨w2, bg_good w2⟩
      · exact ⟨w3, bg_good w3⟩
      · exact ⟨w5, bg_good w5⟩
    · rcases List.mem_cons.mp hw with rfl | hw
      · exact ⟨w1, bg_good w1⟩
      · exact ⟨hw, bg_good hw⟩
  exact va_runS (As := As) (rest := st) ⟨X.1, X.2.1, X.2.2.1, X.2.2.2.1, hts⟩ (hM H.size) (va_cwS na hts hg rfl rfl rfl hy hR)
    ⟨zM_blind, fun U hU hW => ⟨rfl, by rw [hU], by rw [hU]; exact hP, va_K.moved hW.alike X.2.2.2.2.2.1, hD.weaken (fun _ _ _ _ => trivial)⟩⟩ rfl hna hls hst (lv_room hcat) hd hf
end ZG
/-- what a query's end says: an int answer, the pool as it was -/
def zA (L : List Nat) (f : Nat → va_E) (post : Int → Prop) : Option Value → List Nat → (Nat → va_E) → Prop := fun v L1 f1 => ∃ r : Int, v = some (.int (zI r)) ∧ post r ∧ L1 = L ∧ f1 = f
/-- yes or no -/
def zB (P : Prop) (r : Int) : Prop := (P ∧ r = 1) ∨ (¬ P ∧ r = 0)
abbrev zR0 (fr lo : Nat) : Room := { frames := fr, cells := 0, slots := 0, locals := lo }
section ZQ
variable {p : Program} {l : Launch} {e : Env} {R : Room} {s : State} {m : MethodId} {args : Array Value} {below : List Frame} {meth : Method} {c : Code} {D : va_G} {G : Nat → ClassId} {A : Nat → Prop} {nL cells slots : Nat} {Q : State → Prop} {cc : ByteArray} {own : String}
variable {pc n t : Nat} {lv lv' : List (Nat × Value)} {st : List Value} {L : List Nat} {f : Nat → va_E}
/-- a call that makes no cell -/
theorem k_wV (X : zX p s m args meth c D G A cc own nL) {Qc : Option Value → List Nat → (Nat → va_E) → Prop} {C : String} {T : u_T} {N ci index maxL na b fr lo : Nat} {y : MethodName} {bytes : ByteArray} {ret : Option FieldType} {As st0 : List Value} {fs : List Value}
    (hM : zM l D G y (.code y bytes maxL ret :: BG) (zR0 fr lo) (.ref b :: As) L f Qc) (hb : b ∈ L) (hfb : f b = .inr (ci, fs)) (hc : zc[ci]? = some (C, T, N)) (w1 : Cond.code y bytes maxL ret ∈ BG) (w2 : Cond.methodLink own index y ∈ BG) (w3 : Cond.instanceMethod y ∈ BG) (w4 : Cond.selects C y y ∈ BG) (w5 : Cond.initialized C ∈ BG)
    (hy : y.cls = C ∧ y.cls ≠ "java/lang/invoke/MethodHandle" ∧ y.cls ≠ "java/lang/invoke/VarHandle" ∧ (parseMethodDescriptor y.desc).map (fun d => d.parameters.length) = some na) (hR : fr + 1 ≤ R.frames ∧ 8 + (maxL + 11) + lo ≤ R.locals) (hna : As.length = na) (hst : st0 = As.reverse ++ .ref b :: st) (hcat : (st.map fun v => v.category).sum ≤ 8) (hd : decode cc pc = .ok (.invokevirtual index, 3)) (hn : pc + 3 = n) (hf : cells ≤ R.cells ∧ slots ≤ R.slots)
    (kk : ∀ (v : Option Value) (L1 : List Nat) (f1 : Nat → va_E), Qc v L1 f1 → zG p l e R s m args below meth c D A nL cells slots Q n lv (v.toList ++ st) L1 f1) : zG p l e R s m args below meth c D A nL cells slots Q pc lv st0 L f :=
  k_callV X hM hb hfb hc w1 w2 w3 w4 w5 hy hR hna hst hcat hd hn hf kk
theorem k_wS (X : zX p s m args meth c D G A cc own nL) {Qc : Option Value → List Nat → (Nat → va_E) → Prop} {index maxL na fr lo : Nat} {y : MethodName} {bytes : ByteArray} {ret : Option FieldType} {As st0 : List Value}
    (hM : zM l D G y (.code y bytes maxL ret :: BG) (zR0 fr lo) As L f Qc) (w1 : Cond.code y bytes maxL ret ∈ BG) (w2 : Cond.methodLink own index y ∈ BG) (w3 : Cond.static y ∈ BG) (w5 : Cond.initialized y.cls ∈ BG)
    (hy : y.cls ≠ "java/lang/invoke/MethodHandle" ∧ y.cls ≠ "java/lang/invoke/VarHandle" ∧ (parseMethodDescriptor y.desc).map (fun d => d.parameters.length) = some na) (hR : fr + 1 ≤ R.frames ∧ 8 + (maxL + 11) + lo ≤ R.locals) (hna : As.length = na) (hst : st0 = As.reverse ++ st) (hcat : (st.map fun v => v.category).sum ≤ 8) (hd : decode cc pc = .ok (.invokestatic index, 3)) (hn : pc + 3 = n) (hf : cells ≤ R.cells ∧ slots ≤ R.slots)
    (kk : ∀ (v : Option Value) (L1 : List Nat) (f1 : Nat → va_E), Qc v L1 f1 → zG p l e R s m args below meth c D A nL cells slots Q n lv (v.toList ++ st) L1 f1) : zG p l e R s m args below meth c D A nL cells slots Q pc lv st0 L f :=
  k_callS X hM w1 w2 w3 w5 hy hR hna hst hcat hd hn hf kk
/-- the call of a query -/
theorem k_qV (X : zX p s m args meth c D G A cc own nL) {post : Int → Prop} {C : String} {T : u_T} {N ci index maxL na b fr lo : Nat} {y : MethodName} {bytes : ByteArray} {ret : Option FieldType} {As st0 : List Value} {fs : List Value}
    (hM : zM l D G y (.code y bytes maxL ret :: BG) (zR0 fr lo) (.ref b :: As) L f (zA L f post)) (hb : b ∈ L) (hfb : f b = .inr (ci, fs)) (hc : zc[ci]? = some (C, T, N)) (w1 : Cond.code y bytes maxL ret ∈ BG) (w2 : Cond.methodLink own index y ∈ BG) (w3 : Cond.instanceMethod y ∈ BG) (w4 : Cond.selects C y y ∈ BG) (w5 : Cond.initialized C ∈ BG)
    (hy : y.cls = C ∧ y.cls ≠ "java/lang/invoke/MethodHandle" ∧ y.cls ≠ "java/lang/invoke/VarHandle" ∧ (parseMethodDescriptor y.desc).map (fun d => d.parameters.length) = some na) (hR : fr + 1 ≤ R.frames ∧ 8 + (maxL + 11) + lo ≤ R.locals) (hna : As.length = na) (hst : st0 = As.reverse ++ .ref b :: st) (hcat : (st.map fun v => v.category).sum ≤ 8) (hd : decode cc pc = .ok (.invokevirtual index, 3)) (hn : pc + 3 = n) (hf : cells ≤ R.cells ∧ slots ≤ R.slots)
    (kk : ∀ r : Int, post r → zG p l e R s m args below meth c D A nL cells slots Q n lv (.int (zI r) :: st) L f) : zG p l e R s m args below meth c D A nL cells slots Q pc lv st0 L f :=
  k_wV X hM hb hfb hc w1 w2 w3 w4 w5 hy hR hna hst hcat hd hn hf (fun v L1 f1 hq => by
    obtain ⟨r, rfl, hp, rfl, rfl⟩ := hq
    exact kk r hp)
theorem k_qS (X : zX p s m args meth c D G A cc own nL) {post : Int → Prop} {index maxL na fr lo : Nat} {y : MethodName} {bytes : ByteArray} {ret : Option FieldType} {As st0 : List Value}
    (hM : zM l D G y (.code y bytes maxL ret :: BG) (zR0 fr lo) As L f (zA L f post)) (w1 : Cond.code y bytes maxL ret ∈ BG) (w2 : Cond.methodLink own index y ∈ BG) (w3 : Cond.static y ∈ BG) (w5 : Cond.initialized y.cls ∈ BG)
    (hy : y.cls ≠ "java/lang/invoke/MethodHandle" ∧ y.cls ≠ "java/lang/invoke/VarHandle" ∧ (parseMethodDescriptor y.desc).map (fun d => d.parameters.length) = some na) (hR : fr + 1 ≤ R.frames ∧ 8 + (maxL + 11) + lo ≤ R.locals) (hna : As.length = na) (hst : st0 = As.reverse ++ st) (hcat : (st.map fun v => v.category).sum ≤ 8) (hd : decode cc pc = .ok (.invokestatic index, 3)) (hn : pc + 3 = n) (hf : cells ≤ R.cells ∧ slots ≤ R.slots)
    (kk : ∀ r : Int, post r → zG p l e R s m args below meth c D A nL cells slots Q n lv (.int (zI r) :: st) L f) : zG p l e R s m args below meth c D A nL cells slots Q pc lv st0 L f :=
  k_wS X hM w1 w2 w3 w5 hy hR hna hst hcat hd hn hf (fun v L1 f1 hq => by
    obtain ⟨r, rfl, hp, rfl, rfl⟩ := hq
    exact kk r hp)
/-- a number gets a name -/
theorem k_top {a : Int} (k : ∀ x, x = a → zG p l e R s m args below meth c D A nL cells slots Q pc lv (.int (zI x) :: st) L f) : zG p l e R s m args below meth c D A nL cells slots Q pc lv (.int (zI a) :: st) L f := k a rfl
/-- the same number in other words -/
theorem k_val {a b : Int} (h : a = b) (k : zG p l e R s m args below meth c D A nL cells slots Q pc lv (.int (zI b) :: st) L f) : zG p l e R s m args below meth c D A nL cells slots Q pc lv (.int (zI a) :: st) L f := by rw [h]; exact k
end ZQ
end
section
-- BASE 2: Math.max, min, abs; bounds of products; a shape's cells
section ZM
variable {p : Program} {l : Launch} {e : Env} {R : Room} {s : State} {m : MethodId} {args : Array Value} {below : List Frame} {meth : Method} {c : Code} {D : va_G} {G : Nat → ClassId} {A : Nat → Prop} {nL cells slots : Nat} {Q : State → Prop} {cc : ByteArray} {own : String}
variable {pc n t : Nat} {lv lv' : List (Nat × Value)} {st : List Value} {L : List Nat} {f : Nat → va_E}
theorem k_max (X : zX p s m args meth c D G A cc own nL) {index : Nat} {a b : Int} (hd : decode cc pc = .ok (.invokestatic index, 3)) (hn : pc + 3 = n) (w2 : Cond.methodLink own index Lib.Math.max.name ∈ BG) (w3 : Cond.static Lib.Math.max.name ∈ BG) (w5 : Cond.initialized "java/lang/Math" ∈ BG) (w1 : Cond.code Lib.Math.max.name Lib.Math.max.code 2 (some .int) ∈ BG) (hR : 1 ≤ R.frames ∧ (st.map fun v => v.category).sum + 13 ≤ R.locals) (hc : cells ≤ R.cells ∧ slots ≤ R.slots) (ha : zO a) (hb : zO b)
    (kk : zG p l e R s m args below meth c D A nL cells slots Q n lv (.int (zI (max a b)) :: st) L f) : zG p l e R s m args below meth c D A nL cells slots Q pc lv (.int (zI b) :: .int (zI a) :: st) L f := by
  subst hn
  intro H locs ls hl hP hD hS
  have hts := X.2.2.2.2.1
  refine va_mmax X.1 X.2.1 (X.2.2.1.trans hl.1.symm) X.2.2.2.1 (hts _ w2) (hts _ w3) (hts _ w5) (hts _ w1) hR.1 hR.2 hc.1 hc.2 hd ?_
  have e : (if zI a < zI b then zI b else zI a) = zI (max a b) := by
    by_cases h : a < b
    · rw [if_pos ((zI_lt ha hb).mpr h), show max a b = b by omega]
    · rw [if_neg (fun q => h ((zI_lt ha hb).mp q)), show max a b = a by omega]
  rw [e]
  exact kk H locs ls hl hP hD hS
theorem k_min (X : zX p s m args meth c D G A cc own nL) {index : Nat} {a b : Int} (hd : decode cc pc = .ok (.invokestatic index, 3)) (hn : pc + 3 = n) (w2 : Cond.methodLink own index Lib.Math.min.name ∈ BG) (w3 : Cond.static Lib.Math.min.name ∈ BG) (w5 : Cond.initialized "java/lang/Math" ∈ BG) (w1 : Cond.code Lib.Math.min.name Lib.Math.min.code 2 (some .int) ∈ BG) (hR : 1 ≤ R.frames ∧ (st.map fun v => v.category).sum + 13 ≤ R.locals) (hc : cells ≤ R.cells ∧ slots ≤ R.slots) (ha : zO a) (hb : zO b)
    (kk : zG p l e R s m args below meth c D A nL cells slots Q n lv (.int (zI (min a b)) :: st) L f) : zG p l e R s m args below meth c D A nL cells slots Q pc lv (.int (zI b) :: .int (zI a) :: st) L f := by
  subst hn
  intro H locs ls hl hP hD hS
  have hts := X.2.2.2.2.1
  refine va_mmin X.1 X.2.1 (X.2.2.1.trans hl.1.symm) X.2.2.2.1 (hts _ w2) (hts _ w3) (hts _ w5) (hts _ w1) hR.1 hR.2 hc.1 hc.2 hd ?_
  have e : (if zI b < zI a then zI b else zI a) = zI (min a b) := by
    by_cases h : b < a
    · rw [if_pos ((zI_lt hb ha).mpr h), show min a b = b by omega]
    · rw [if_neg (fun q => h ((zI_lt hb ha).mp q)), show min a b = a by omega]
  rw [e]
  exact kk H locs ls hl hP hD hS
theorem k_abs (X : zX p s m args meth c D G A cc own nL) {index : Nat} {a : Int} (hd : decode cc pc = .ok (.invokestatic index, 3)) (hn : pc + 3 = n) (w2 : Cond.methodLink own index Lib.Math.abs.name ∈ BG) (w3 : Cond.static Lib.Math.abs.name ∈ BG) (w5 : Cond.initialized "java/lang/Math" ∈ BG) (w1 : Cond.code Lib.Math.abs.name Lib.Math.abs.code 1 (some .int) ∈ BG) (hR : 1 ≤ R.frames ∧ (st.map fun v => v.category).sum + 13 ≤ R.locals) (hc : cells ≤ R.cells ∧ slots ≤ R.slots) (ha : zO a)
    (kk : zG p l e R s m args below meth c D A nL cells slots Q n lv (.int (zI (if 0 ≤ a then a else -a)) :: st) L f) : zG p l e R s m args below meth c D A nL cells slots Q pc lv (.int (zI a) :: st) L f := by
  subst hn
  intro H locs ls hl hP hD hS
  have hts := X.2.2.2.2.1
  refine va_mabs X.1 X.2.1 (X.2.2.1.trans hl.1.symm) X.2.2.2.1 (hts _ w2) (hts _ w3) (hts _ w5) (hts _ w1) hR.1 hR.2 hc.1 hc.2 hd ?_
  have e : (if 0 ≤ zI a then zI a else 0 - zI a) = zI (if 0 ≤ a then a else -a) := by
    have i0 : (0 : Int32) ≤ zI a ↔ 0 ≤ a := zI_le zO_0 ha
    by_cases h : 0 ≤ a
    · rw [if_pos (i0.mpr h), if_pos h]
    · rw [if_neg (fun q => h (i0.mp q)), if_neg h, ← zI_0, zI_sub, show (0 : Int) - a = -a by omega]
  rw [e]
  exact kk H locs ls hl hP hD hS
theorem k_ishr (X : zX p s m args meth c D G A cc own nL) {x y : Int32} (hd : decode cc pc = .ok (.ishr, 1)) (hn : pc + 1 = n) (k : zG p l e R s m args below meth c D A nL cells slots Q n lv (.int (x >>> (y &&& 31)) :: st) L f) : zG p l e R s m args below meth c D A nL cells slots Q pc lv (.int y :: .int x :: st) L f := by
  subst hn; exact fun H locs ls hl hP hD hS => lv_ishr X.1 X.2.1 hd (k H locs ls hl hP hD hS)
theorem k_iand (X : zX p s m args meth c D G A cc own nL) {x y : Int32} (hd : decode cc pc = .ok (.iand, 1)) (hn : pc + 1 = n) (k : zG p l e R s m args below meth c D A nL cells slots Q n lv (.int (x &&& y) :: st) L f) : zG p l e R s m args below meth c D A nL cells slots Q pc lv (.int y :: .int x :: st) L f := by
  subst hn; exact fun H locs ls hl hP hD hS => lv_iand X.1 X.2.1 hd (k H locs ls hl hP hD hS)
theorem k_ior (X : zX p s m args meth c D G A cc own nL) {x y : Int32} (hd : decode cc pc = .ok (.ior, 1)) (hn : pc + 1 = n) (k : zG p l e R s m args below meth c D A nL cells slots Q n lv (.int (x ||| y) :: st) L f) : zG p l e R s m args below meth c D A nL cells slots Q pc lv (.int y :: .int x :: st) L f := by
  subst hn; exact fun H locs ls hl hP hD hS => lv_ior X.1 X.2.1 hd (k H locs ls hl hP hD hS)
theorem k_iushr (X : zX p s m args meth c D G A cc own nL) {x y : Int32} (hd : decode cc pc = .ok (.iushr, 1)) (hn : pc + 1 = n) (k : zG p l e R s m args below meth c D A nL cells slots Q n lv (.int (x.toUInt32 >>> (y.toUInt32 &&& Int32.toUInt32 31)).toInt32 :: st) L f) : zG p l e R s m args below meth c D A nL cells slots Q pc lv (.int y :: .int x :: st) L f := by
  subst hn; exact fun H locs ls hl hP hD hS => lv_iushr X.1 X.2.1 hd rfl (k H locs ls hl hP hD hS)
theorem k_ldc (X : zX p s m args meth c D G A cc own nL) {index : Nat} {v : Int32} (hw : Cond.constant own index v ∈ BG) {z : Int} (hz : v = zI z) (hd : decode cc pc = .ok (.ldc index, 2)) (hn : pc + 2 = n) (k : zG p l e R s m args below meth c D A nL cells slots Q n lv (.int (zI z) :: st) L f) : zG p l e R s m args below meth c D A nL cells slots Q pc lv st L f := by
  subst hn; subst hz
  exact fun H locs ls hl hP hD hS => lv_ldc X.1 X.2.1 X.2.2.2.1 (X.2.2.2.2.1 _ hw) hd (k H locs ls hl hP hD hS)
/-- a number of the machine in other words -/
theorem k_va32 {x y : Int32} (h : x = y) (k : zG p l e R s m args below meth c D A nL cells slots Q pc lv (.int y :: st) L f) : zG p l e R s m args below meth c D A nL cells slots Q pc lv (.int x :: st) L f := by rw [h]; exact k
/-- remainder and quotient of numbers that aren't below 0 -/
theorem zI_div {a b : Int} (ha0 : 0 ≤ a) (ha : a ≤ 2147483647) (hb0 : 0 < b) (hb : b ≤ 2147483647) : zI a / zI b = zI (a / b) := by
  obtain ⟨k, rfl⟩ : ∃ k : Nat, a = k := ⟨a.toNat, by omega⟩
  obtain ⟨j, rfl⟩ : ∃ j : Nat, b = j := ⟨b.toNat, by omega⟩
  rw [zI_nat, zI_nat, pk_div (by omega) (by omega) (by omega), ← Int.natCast_ediv, zI_nat]
theorem k_idiv (X : zX p s m args meth c D G A cc own nL) {a b : Int} (hd : decode cc pc = .ok (.idiv, 1)) (hn : pc + 1 = n) (ha0 : 0 ≤ a) (ha : a ≤ 2147483647) (hb0 : 0 < b) (hb : b ≤ 2147483647) (k : zG p l e R s m args below meth c D A nL cells slots Q n lv (.int (zI (a / b)) :: st) L f) : zG p l e R s m args below meth c D A nL cells slots Q pc lv (.int (zI b) :: .int (zI a) :: st) L f := by
  subst hn
  have hne : ¬ zI b = 0 := fun q => by
    rw [← zI_0] at q
    have := (zI_eq (by omega) zO_0).mp q
    omega
  exact fun H locs ls hl hP hD hS => lv_idiv X.1 X.2.1 hd hne (by rw [zI_div ha0 ha hb0 hb]; exact k H locs ls hl hP hD hS)
theorem k_irem (X : zX p s m args meth c D G A cc own nL) {a b : Int} (hd : decode cc pc = .ok (.irem, 1)) (hn : pc + 1 = n) (ha0 : 0 ≤ a) (ha : a ≤ 2147483647) (hb0 : 0 < b) (hb : b ≤ 2147483647) (k : zG p l e R s m args below meth c D A nL cells slots Q n lv (.int (zI (a % b)) :: st) L f) : zG p l e R s m args below meth c D A nL cells slots Q pc lv (.int (zI b) :: .int (zI a) :: st) L f := by
  subst hn
  have hne : ¬ zI b = 0 := fun q => by
    rw [← zI_0] at q
    have := (zI_eq (by omega) zO_0).mp q
    omega
  refine fun H locs ls hl hP hD hS => lv_irem X.1 X.2.1 hd hne ?_
  rw [zI_div ha0 ha hb0 hb, zI_mul, zI_sub, show a - a / b * b = a % b by rw [Int.emod_def, Int.mul_comm]]
  exact k H locs ls hl hP hD hS
end ZM
theorem mul_bd {a b A B : Int} (h1 : -A ≤ a) (h2 : a ≤ A) (h3 : -B ≤ b) (h4 : b ≤ B) : -(A * B) ≤ a * b ∧ a * b ≤ A * B := by
  have x1 := Int.mul_nonneg (a := A - a) (b := B - b) (by omega) (by omega)
  have x2 := Int.mul_nonneg (a := A + a) (b := B + b) (by omega) (by omega)
  have x3 := Int.mul_nonneg (a := A - a) (b := B + b) (by omega) (by omega)
  have x4 := Int.mul_nonneg (a := A + a) (b := B - b) (by omega) (by omega)
  have y1 : (A - a) * (B - b) = A * B - A * b - a * B + a * b := by grind
  have y2 : (A + a) * (B + b) = A * B + A * b + a * B + a * b := by grind
  have y3 : (A - a) * (B + b) = A * B + A * b - a * B - a * b := by grind
  have y4 : (A + a) * (B - b) = A * B - A * b + a * B - a * b := by grind
  omega
-- a shape: its object at a, its rows at ax and ay; n corners; its box
def sP (X Y : Int → Int) : Nat → Int × Int := fun k => (X (k : Int), Y (k : Int))
def zS (G : Nat → ClassId) (L : List Nat) (f : Nat → va_E) (a ax ay n : Nat) (X Y : Int → Int) (lx hx ly hy : Int) : Prop :=
  a ∈ L ∧ ax ∈ L ∧ ay ∈ L ∧ f a = .inr (2, [.ref ax, .ref ay, .int (zI (n : Int)), .int (zI lx), .int (zI hx), .int (zI ly), .int (zI hy)]) ∧ f ax = zr G 12 X ∧ f ay = zr G 12 Y
/-- corners of moderate size -/
def sB (n : Nat) (X Y : Int → Int) : Prop := n ≤ 12 ∧ ∀ j : Nat, j < n → -100 ≤ X (j : Int) ∧ X (j : Int) ≤ 100 ∧ -100 ≤ Y (j : Int) ∧ Y (j : Int) ≤ 100
theorem bs_bd {n : Nat} {X Y : Int → Int} (h : sB n X Y) {i : Nat} (hi : i < n) {px py : Int} (h1 : -200 ≤ px) (h2 : px ≤ 200) (h3 : -200 ≤ py) (h4 : py ≤ 200) : -120000 ≤ ge_bs (sP X Y) n i (px, py) ∧ ge_bs (sP X Y) n i (px, py) ≤ 120000 := by
  have a := h.2 i hi
  have b := h.2 (ge_nx n i) (by unfold ge_nx; split <;> omega)
  have u := mul_bd (a := X (ge_nx n i : Nat) - X i) (b := py - Y i) (A := 200) (B := 300) (by omega) (by omega) (by omega) (by omega)
  have v := mul_bd (a := Y (ge_nx n i : Nat) - Y i) (b := px - X i) (A := 200) (B := 300) (by omega) (by omega) (by omega) (by omega)
  unfold ge_bs sP
  dsimp only
  omega
-- the sign
def sg (z : Int) : Int := if z < 0 then -1 else if z = 0 then 0 else 1
theorem sg_bd (u v : Int) : -1 ≤ sg u * sg v ∧ sg u * sg v ≤ 1 := by
  unfold sg
  repeat' split
  all_goals omega
theorem sg_mul (u v : Int) : sg u * sg v ≤ 0 ↔ u * v ≤ 0 := by
  have a1 : u < 0 → v < 0 → 0 < u * v := Int.mul_pos_of_neg_of_neg
  have a2 : 0 < u → 0 < v → 0 < u * v := Int.mul_pos
  have a3 : u < 0 → 0 < v → u * v < 0 := Int.mul_neg_of_neg_of_pos
  have a4 : 0 < u → v < 0 → u * v < 0 := Int.mul_neg_of_pos_of_neg
  have a5 : u = 0 → u * v = 0 := fun h => by rw [h, Int.zero_mul]
  have a6 : v = 0 → u * v = 0 := fun h => by rw [h, Int.mul_zero]
  generalize u * v = w at *
  unfold sg
  repeat' split
  all_goals omega
theorem sg_lem {z : Int} (h1 : -1000000 ≤ z) (h2 : z ≤ 1000000) : (zI z >>> (zI 31 &&& 31)) ||| ((zI (-z)).toUInt32 >>> ((zI 31).toUInt32 &&& Int32.toUInt32 31)).toInt32 = zI (sg z) := by
  have e1 : zI z >>> (zI 31 &&& 31) = zI (if z < 0 then -1 else 0) := by
    rw [← Int32.toInt_inj, pk_shr _ _ 31 (by decide), zI_toInt (by omega), zI_toInt (by split <;> omega), Int.shiftRight_eq_div_pow]
    split <;> omega
  have e2 : ((zI (-z)).toUInt32 >>> ((zI 31).toUInt32 &&& Int32.toUInt32 31)).toInt32 = zI (if 0 < z then 1 else 0) := by
    rw [← Int32.toBitVec_inj]
    apply BitVec.eq_of_toNat_eq
    rw [pk_ushr _ _ 31 (by decide)]
    have t : (zI (-z)).toBitVec.toInt = -z := zI_toInt (by omega)
    rw [BitVec.toInt_eq_toNat_cond] at t
    have b := (zI (-z)).toBitVec.isLt
    by_cases hz : 0 < z
    · rw [if_pos hz, show (zI 1).toBitVec.toNat = 1 by decide]
      split at t <;> omega
    · rw [if_neg hz, show (zI 0).toBitVec.toNat = 0 by decide]
      split at t <;> omega
  rw [e1, e2]
  unfold sg
  by_cases c1 : z < 0
  · rw [if_pos c1, if_pos c1, if_neg (by omega)]; decide
  · by_cases c2 : z = 0
    · rw [if_neg c1, if_neg c1, if_pos c2, if_neg (by omega)]; decide
    · rw [if_neg c1, if_neg c1, if_neg c2, if_pos (by omega)]; decide
theorem d_JInteger_signum_0 : decode c_JInteger_signum 0 = .ok (.iload_n 0, 1) := by decide +kernel
theorem d_JInteger_signum_1 : decode c_JInteger_signum 1 = .ok (.bipush 31, 2) := by decide +kernel
theorem d_JInteger_signum_3 : decode c_JInteger_signum 3 = .ok (.ishr, 1) := by decide +kernel
theorem d_JInteger_signum_4 : decode c_JInteger_signum 4 = .ok (.iload_n 0, 1) := by decide +kernel
theorem d_JInteger_signum_5 : decode c_JInteger_signum 5 = .ok (.ineg, 1) := by decide +kernel
theorem d_JInteger_signum_6 : decode c_JInteger_signum 6 = .ok (.bipush 31, 2) := by decide +kernel
theorem d_JInteger_signum_8 : decode c_JInteger_signum 8 = .ok (.iushr, 1) := by decide +kernel
theorem d_JInteger_signum_9 : decode c_JInteger_signum 9 = .ok (.ior, 1) := by decide +kernel
theorem d_JInteger_signum_10 : decode c_JInteger_signum 10 = .ok (.ireturn, 1) := by decide +kernel
/-- the sign of a number -/
theorem m_signum (l : Launch) (D : va_G) (G : Nat → ClassId) {L : List Nat} {f : Nat → va_E} (z : Int) (h1 : -1000000 ≤ z) (h2 : z ≤ 1000000) : zM l D G y_JInteger_signum (.code y_JInteger_signum c_JInteger_signum 1 (some .int) :: BG) (zR0 0 0) [.int (zI z)] L f (zA L f (fun r => r = sg z)) := by
  refine zM.of (by decide) (Nat.le_of_ble_eq_true rfl) rfl (fun p e s m args below meth c A Xc hr hnm => ?_)
  refine k_iload_n Xc d_JInteger_signum_0 rfl rfl (n := 1) rfl ?_
  refine k_bipush Xc d_JInteger_signum_1 rfl (n := 3) rfl ?_
  refine k_ishr Xc d_JInteger_signum_3 (n := 4) rfl ?_
  refine k_iload_n Xc d_JInteger_signum_4 rfl rfl (n := 5) rfl ?_
  refine k_ineg Xc d_JInteger_signum_5 (n := 6) rfl ?_
  refine k_bipush Xc d_JInteger_signum_6 rfl (n := 8) rfl ?_
  refine k_iushr Xc d_JInteger_signum_8 (n := 9) rfl ?_
  refine k_ior Xc d_JInteger_signum_9 (n := 10) rfl ?_
  refine k_va32 (sg_lem h1 h2) ?_
  exact k_iret Xc d_JInteger_signum_10 hr rfl (Nat.le_refl _) (Nat.le_refl _) ⟨_, rfl, rfl, rfl, rfl⟩
theorem zB_t {P : Prop} {o : Int} (h : zB P o) (ho : ¬ o = 0) : P := by
  rcases h with h | h
  · exact h.1
  · exact absurd h.2 ho
theorem zB_f {P : Prop} {o : Int} (h : zB P o) (ho : o = 0) : ¬ P := by
  rcases h with h | h
  · have := h.2; omega
  · exact h.1
theorem zB_01 {P : Prop} {o : Int} (h : zB P o) : o = 0 ∨ o = 1 := by
  rcases h with h | h
  · exact Or.inr h.2
  · exact Or.inl h.2
theorem zB_yes {P : Nat → Prop} {k : Nat} {o : Int} (h : zB (∃ j, j < k ∧ P j) o) (hh : ¬ o = 0 ∨ P k) : zB (∃ j, j < k + 1 ∧ P j) 1 := by
  refine Or.inl ⟨?_, rfl⟩
  rcases hh with hh | hh
  · obtain ⟨j, a, b⟩ := zB_t h hh
    exact ⟨j, by omega, b⟩
  · exact ⟨k, by omega, hh⟩
theorem zB_no {P : Nat → Prop} {k : Nat} {o : Int} (h : zB (∃ j, j < k ∧ P j) o) (ho : o = 0) (hp : ¬ P k) : zB (∃ j, j < k + 1 ∧ P j) 0 := by
  refine Or.inr ⟨fun ⟨j, a, b⟩ => ?_, rfl⟩
  rcases Nat.lt_or_ge j k with q | q
  · exact zB_f h ho ⟨j, q, b⟩
  · have e : j = k := by omega
    subst e
    exact hp b
theorem odd_flip {n : Nat} {V : Nat → Int × Int} {m : Int × Int} {i : Nat} {o o2 : Int} (h : zB (ge_odd n V m i) o) (hh : ge_hit m (V i) (V (ge_nx n i))) (e : o2 = 1 - o) : zB (ge_odd n V m (i + 1)) o2 := by
  unfold zB at *
  simp only [ge_odd]
  rcases h with ⟨h, q⟩ | ⟨h, q⟩
  · exact Or.inr ⟨fun z => z ⟨fun _ => hh, fun _ => h⟩, by omega⟩
  · exact Or.inl ⟨fun z => h (z.mpr hh), by omega⟩
theorem odd_keep {n : Nat} {V : Nat → Int × Int} {m : Int × Int} {i : Nat} {o : Int} (h : zB (ge_odd n V m i) o) (hh : ¬ ge_hit m (V i) (V (ge_nx n i))) : zB (ge_odd n V m (i + 1)) o := by
  unfold zB at *
  simp only [ge_odd]
  rcases h with ⟨h, q⟩ | ⟨h, q⟩
  · exact Or.inl ⟨fun z => hh (z.mp h), q⟩
  · exact Or.inr ⟨fun z => z ⟨fun w => absurd w h, fun w => absurd w hh⟩, q⟩
theorem hit3 {X Y : Int → Int} {i j : Nat} {tx ty w : Int} (h : w = (X (j : Int) - X (i : Int)) * (ty - 3 * Y (i : Int)) - (Y (j : Int) - Y (i : Int)) * (tx - 3 * X (i : Int))) :
    ge_hit (tx, ty) (ge_3 (sP X Y) i) (ge_3 (sP X Y) j) ↔ (3 * Y (i : Int) ≤ ty ∧ ty < 3 * Y (j : Int) ∧ 0 < w) ∨ (3 * Y (j : Int) ≤ ty ∧ ty < 3 * Y (i : Int) ∧ w < 0) := by
  unfold ge_hit ge_3 sP ge_cr
  dsimp only
  have e : (3 * X (j : Int) - 3 * X (i : Int)) * (ty - 3 * Y (i : Int)) - (3 * Y (j : Int) - 3 * Y (i : Int)) * (tx - 3 * X (i : Int)) = 3 * w := by rw [h]; grind
  rw [e]
  constructor
  · rintro (⟨a, b, c⟩ | ⟨a, b, c⟩)
    · exact Or.inl ⟨a, b, by omega⟩
    · exact Or.inr ⟨a, b, by omega⟩
  · rintro (⟨a, b, c⟩ | ⟨a, b, c⟩)
    · exact Or.inl ⟨a, b, by omega⟩
    · exact Or.inr ⟨a, b, by omega⟩
/-- the class: side i, as it lies to the piece moved by dx, dy, has points inside the piece -/
def sCut (n : Nat) (X Y : Int → Int) (k2 : Nat) (U V : Int → Int) (lu hu lv hv dx dy : Int) (i : Nat) : Prop :=
  ¬ (max (X (i : Int) - dx) (X ((ge_nx n i : Nat) : Int) - dx) ≤ lu ∨ hu ≤ min (X (i : Int) - dx) (X ((ge_nx n i : Nat) : Int) - dx) ∨ max (Y (i : Int) - dy) (Y ((ge_nx n i : Nat) : Int) - dy) ≤ lv ∨ hv ≤ min (Y (i : Int) - dy) (Y ((ge_nx n i : Nat) : Int) - dy)) ∧
  ((∃ k : Nat, k < k2 ∧ 0 < ge_bs (sP X Y) n i (U (k : Int) + dx, V (k : Int) + dy)) ∧ ∃ k : Nat, k < k2 ∧ ge_bs (sP X Y) n i (U (k : Int) + dx, V (k : Int) + dy) < 0) ∧
  ¬ ∃ k : Nat, k < k2 ∧ ge_bs (sP U V) k2 k (X (i : Int) - dx, Y (i : Int) - dy) ≤ 0 ∧ ge_bs (sP U V) k2 k (X ((ge_nx n i : Nat) : Int) - dx, Y ((ge_nx n i : Nat) : Int) - dy) ≤ 0
theorem nar_b {o : Int} (h : o = 0 ∨ o = 1) : narrow .boolean (.int (zI o)) = .int (zI o) := by
  rcases h with rfl | rfl <;> rfl
end
section
-- BASE 3: words for what writers of shapes do
def sFr (f f1 : Nat → va_E) (a ax ay : Nat) : Prop := ∀ q, q ≠ a → q ≠ ax → q ≠ ay → f1 q = f q
def sAp (a ax ay b bx b_y : Nat) : Prop := b ≠ a ∧ bx ≠ ax ∧ bx ≠ ay ∧ b_y ≠ ax ∧ b_y ≠ ay
theorem zS_ne {G : Nat → ClassId} {L : List Nat} {f : Nat → va_E} {a ax ay n : Nat} {X Y : Int → Int} {lx hx ly hy : Int} (h : zS G L f a ax ay n X Y lx hx ly hy) : ax ≠ a ∧ ay ≠ a := by
  obtain ⟨-, -, -, h1, h2, h3⟩ := h
  refine ⟨fun e => ?_, fun e => ?_⟩
  · rw [e, h1] at h2; unfold zr at h2; cases h2
  · rw [e, h1] at h3; unfold zr at h3; cases h3
theorem zS_ne2 {G : Nat → ClassId} {L : List Nat} {f : Nat → va_E} {a ax ay n : Nat} {X Y : Int → Int} {lx hx ly hy : Int} (h : zS G L f a ax ay n X Y lx hx ly hy) {b bx b_y k2 : Nat} {U V : Int → Int} {lu hu lv hv : Int} (t : zS G L f b bx b_y k2 U V lu hu lv hv) : b ≠ ax ∧ b ≠ ay := by
  obtain ⟨-, -, -, -, h2, h3⟩ := h
  obtain ⟨-, -, -, h1, -, -⟩ := t
  refine ⟨fun e => ?_, fun e => ?_⟩
  · rw [← e, h1] at h2; unfold zr at h2; cases h2
  · rw [← e, h1] at h3; unfold zr at h3; cases h3
theorem zS_keep {G : Nat → ClassId} {L : List Nat} {f g : Nat → va_E} {a ax ay n : Nat} {X Y : Int → Int} {lx hx ly hy : Int} (h : zS G L f a ax ay n X Y lx hx ly hy) {b bx b_y k2 : Nat} {U V : Int → Int} {lu hu lv hv : Int} (t : zS G L f b bx b_y k2 U V lu hu lv hv) (hF : sFr f g a ax ay) (ap : sAp a ax ay b bx b_y) : zS G L g b bx b_y k2 U V lu hu lv hv := by
  obtain ⟨p1, p2⟩ := zS_ne2 h t
  obtain ⟨r1, r2⟩ := zS_ne2 t h
  obtain ⟨a1, a2, a3, a4, a5⟩ := ap
  obtain ⟨m1, m2, m3, t1, t2, t3⟩ := t
  exact ⟨m1, m2, m3, (hF b a1 p1 p2).trans t1, (hF bx (Ne.symm r1) a2 a3).trans t2, (hF b_y (Ne.symm r2) a4 a5).trans t3⟩
theorem sFr_tr {f g h : Nat → va_E} {a ax ay : Nat} (h1 : sFr f g a ax ay) (h2 : sFr g h a ax ay) : sFr f h a ax ay := fun q q1 q2 q3 => (h2 q q1 q2 q3).trans (h1 q q1 q2 q3)
theorem sFr_rf {f : Nat → va_E} {a ax ay : Nat} : sFr f f a ax ay := fun _ _ _ _ => rfl
def bxl (n : Nat) (l x : Int) : Int := if n = 0 then x else min l x
def bxh (n : Nat) (l x : Int) : Int := if n = 0 then x else max l x
/-- the least box -/
def sBx (n : Nat) (X Y : Int → Int) (lx hx ly hy : Int) : Prop := 0 < n →
  (∀ j : Nat, j < n → lx ≤ X (j : Int) ∧ X (j : Int) ≤ hx ∧ ly ≤ Y (j : Int) ∧ Y (j : Int) ≤ hy) ∧ (∃ j : Nat, j < n ∧ X (j : Int) = lx) ∧ (∃ j : Nat, j < n ∧ X (j : Int) = hx) ∧ (∃ j : Nat, j < n ∧ Y (j : Int) = ly) ∧ (∃ j : Nat, j < n ∧ Y (j : Int) = hy)
theorem iu_at (X : Int → Int) (z v : Int) : iu X z v z = v := if_pos rfl
theorem iu_ne {X : Int → Int} {z v q : Int} (h : q ≠ z) : iu X z v q = X q := if_neg h
theorem iu_nat {X : Int → Int} {n j : Nat} {v : Int} (h : j < n) : iu X (n : Int) v (j : Int) = X (j : Int) := if_neg (by omega)
theorem sBx_add {n : Nat} {X Y : Int → Int} {lx hx ly hy : Int} (h : sBx n X Y lx hx ly hy) (x y : Int) : sBx (n + 1) (iu X (n : Int) x) (iu Y (n : Int) y) (bxl n lx x) (bxh n hx x) (bxl n ly y) (bxh n hy y) := by
  intro _
  by_cases hn : n = 0
  · subst hn
    unfold bxl bxh
    simp only [if_true]
    refine ⟨fun j hj => ?_, ⟨0, by omega, iu_at _ _ _⟩, ⟨0, by omega, iu_at _ _ _⟩, ⟨0, by omega, iu_at _ _ _⟩, ⟨0, by omega, iu_at _ _ _⟩⟩
    have e : j = 0 := by omega
    subst e
    rw [iu_at, iu_at]
    omega
  · obtain ⟨h1, ⟨j1, a1, b1⟩, ⟨j2, a2, b2⟩, ⟨j3, a3, b3⟩, ⟨j4, a4, b4⟩⟩ := h (by omega)
    unfold bxl bxh
    simp only [if_neg hn]
    have old : ∀ j : Nat, j < n → iu X (n : Int) x (j : Int) = X (j : Int) ∧ iu Y (n : Int) y (j : Int) = Y (j : Int) := fun j hj => ⟨iu_nat hj, iu_nat hj⟩
    refine ⟨fun j hj => ?_, ?_, ?_, ?_, ?_⟩
    · rcases Nat.lt_or_ge j n with q | q
      · rw [(old j q).1, (old j q).2]
        have := h1 j q
        omega
      · have e : j = n := by omega
        subst e
        rw [iu_at, iu_at]
        omega
    · rcases Int.le_total lx x with q | q
      · exact ⟨j1, by omega, by rw [(old j1 a1).1, b1]; omega⟩
      · exact ⟨n, by omega, by rw [iu_at]; omega⟩
    · rcases Int.le_total hx x with q | q
      · exact ⟨n, by omega, by rw [iu_at]; omega⟩
      · exact ⟨j2, by omega, by rw [(old j2 a2).1, b2]; omega⟩
    · rcases Int.le_total ly y with q | q
      · exact ⟨j3, by omega, by rw [(old j3 a3).2, b3]; omega⟩
      · exact ⟨n, by omega, by rw [iu_at]; omega⟩
    · rcases Int.le_total hy y with q | q
      · exact ⟨n, by omega, by rw [iu_at]; omega⟩
      · exact ⟨j4, by omega, by rw [(old j4 a4).2, b4]; omega⟩
def sIs (n : Nat) (X Y : Int → Int) (gx gy : Nat → Int) : Prop := ∀ j : Nat, j < n → X (j : Int) = gx j ∧ Y (j : Int) = gy j
theorem sIs_add {n : Nat} {X Y : Int → Int} {gx gy : Nat → Int} (h : sIs n X Y gx gy) {x y : Int} (hx : x = gx n) (hy : y = gy n) : sIs (n + 1) (iu X (n : Int) x) (iu Y (n : Int) y) gx gy := by
  intro j hj
  rcases Nat.lt_or_ge j n with q | q
  · rw [iu_nat q, iu_nat q]; exact h j q
  · have e : j = n := by omega
    subst e
    rw [iu_at, iu_at]; exact ⟨hx, hy⟩
/-- a box of corners of moderate size is of moderate size -/
theorem sBx_bd {n : Nat} {X Y : Int → Int} {lx hx ly hy : Int} (h : sBx n X Y lx hx ly hy) {gx gy : Nat → Int} (hi : sIs n X Y gx gy) {B : Int} (hg : ∀ j, j < n → -B ≤ gx j ∧ gx j ≤ B ∧ -B ≤ gy j ∧ gy j ≤ B) (hn : 0 < n) : -B ≤ lx ∧ lx ≤ B ∧ -B ≤ hx ∧ hx ≤ B ∧ -B ≤ ly ∧ ly ≤ B ∧ -B ≤ hy ∧ hy ≤ B := by
  obtain ⟨-, ⟨j1, a1, b1⟩, ⟨j2, a2, b2⟩, ⟨j3, a3, b3⟩, ⟨j4, a4, b4⟩⟩ := h hn
  have c1 := hg j1 a1
  have c2 := hg j2 a2
  have c3 := hg j3 a3
  have c4 := hg j4 a4
  rw [← (hi j1 a1).1, b1] at c1
  rw [← (hi j2 a2).1, b2] at c2
  rw [← (hi j3 a3).2, b3] at c3
  rw [← (hi j4 a4).2, b4] at c4
  omega
/-- a new shape at a: its corners are gx, gy; nothing else has changed -/
def zN (G : Nat → ClassId) (L : List Nat) (f f1 : Nat → va_E) (a ax ay n : Nat) (gx gy : Nat → Int) : Prop :=
  ∃ (X Y : Int → Int) (lx hx ly hy : Int), zS G L f1 a ax ay n X Y lx hx ly hy ∧ sFr f f1 a ax ay ∧ sIs n X Y gx gy ∧ sBx n X Y lx hx ly hy
end
section
theorem d_S_init_0 : decode c_S_init 0 = .ok (.aload_n 0, 1) := by decide +kernel
theorem d_S_init_1 : decode c_S_init 1 = .ok (.invokespecial 3, 3) := by decide +kernel
theorem d_S_init_4 : decode c_S_init 4 = .ok (.aload_n 0, 1) := by decide +kernel
theorem d_S_init_5 : decode c_S_init 5 = .ok (.bipush 12, 2) := by decide +kernel
theorem d_S_init_7 : decode c_S_init 7 = .ok (.newarray .int, 2) := by decide +kernel
theorem d_S_init_9 : decode c_S_init 9 = .ok (.putfield 9, 3) := by decide +kernel
theorem d_S_init_12 : decode c_S_init 12 = .ok (.aload_n 0, 1) := by decide +kernel
theorem d_S_init_13 : decode c_S_init 13 = .ok (.bipush 12, 2) := by decide +kernel
theorem d_S_init_15 : decode c_S_init 15 = .ok (.newarray .int, 2) := by decide +kernel
theorem d_S_init_17 : decode c_S_init 17 = .ok (.putfield 15, 3) := by decide +kernel
theorem d_S_init_20 : decode c_S_init 20 = .ok (.return_, 1) := by decide +kernel
theorem d_S_empty_0 : decode c_S_empty 0 = .ok (.aload_n 0, 1) := by decide +kernel
theorem d_S_empty_1 : decode c_S_empty 1 = .ok (.iconst 0, 1) := by decide +kernel
theorem d_S_empty_2 : decode c_S_empty 2 = .ok (.putfield 18, 3) := by decide +kernel
theorem d_S_empty_5 : decode c_S_empty 5 = .ok (.return_, 1) := by decide +kernel
theorem d_S_add_0 : decode c_S_add 0 = .ok (.aload_n 0, 1) := by decide +kernel
theorem d_S_add_1 : decode c_S_add 1 = .ok (.getfield 18, 3) := by decide +kernel
theorem d_S_add_4 : decode c_S_add 4 = .ok (.bipush 12, 2) := by decide +kernel
theorem d_S_add_6 : decode c_S_add 6 = .ok (.if_icmp .lt 4, 3) := by decide +kernel
theorem d_S_add_9 : decode c_S_add 9 = .ok (.return_, 1) := by decide +kernel
theorem d_S_add_10 : decode c_S_add 10 = .ok (.aload_n 0, 1) := by decide +kernel
theorem d_S_add_11 : decode c_S_add 11 = .ok (.aload_n 0, 1) := by decide +kernel
theorem d_S_add_12 : decode c_S_add 12 = .ok (.getfield 18, 3) := by decide +kernel
theorem d_S_add_15 : decode c_S_add 15 = .ok (.ifCond .ne 7, 3) := by decide +kernel
theorem d_S_add_18 : decode c_S_add 18 = .ok (.iload_n 1, 1) := by decide +kernel
theorem d_S_add_19 : decode c_S_add 19 = .ok (.goto 11, 3) := by decide +kernel
theorem d_S_add_22 : decode c_S_add 22 = .ok (.aload_n 0, 1) := by decide +kernel
theorem d_S_add_23 : decode c_S_add 23 = .ok (.getfield 22, 3) := by decide +kernel
theorem d_S_add_26 : decode c_S_add 26 = .ok (.iload_n 1, 1) := by decide +kernel
theorem d_S_add_27 : decode c_S_add 27 = .ok (.invokestatic 25, 3) := by decide +kernel
theorem d_S_add_30 : decode c_S_add 30 = .ok (.putfield 22, 3) := by decide +kernel
theorem d_S_add_33 : decode c_S_add 33 = .ok (.aload_n 0, 1) := by decide +kernel
theorem d_S_add_34 : decode c_S_add 34 = .ok (.aload_n 0, 1) := by decide +kernel
theorem d_S_add_35 : decode c_S_add 35 = .ok (.getfield 18, 3) := by decide +kernel
theorem d_S_add_38 : decode c_S_add 38 = .ok (.ifCond .ne 7, 3) := by decide +kernel
theorem d_S_add_41 : decode c_S_add 41 = .ok (.iload_n 1, 1) := by decide +kernel
theorem d_S_add_42 : decode c_S_add 42 = .ok (.goto 11, 3) := by decide +kernel
theorem d_S_add_45 : decode c_S_add 45 = .ok (.aload_n 0, 1) := by decide +kernel
theorem d_S_add_46 : decode c_S_add 46 = .ok (.getfield 31, 3) := by decide +kernel
theorem d_S_add_49 : decode c_S_add 49 = .ok (.iload_n 1, 1) := by decide +kernel
theorem d_S_add_50 : decode c_S_add 50 = .ok (.invokestatic 34, 3) := by decide +kernel
theorem d_S_add_53 : decode c_S_add 53 = .ok (.putfield 31, 3) := by decide +kernel
theorem d_S_add_56 : decode c_S_add 56 = .ok (.aload_n 0, 1) := by decide +kernel
theorem d_S_add_57 : decode c_S_add 57 = .ok (.aload_n 0, 1) := by decide +kernel
theorem d_S_add_58 : decode c_S_add 58 = .ok (.getfield 18, 3) := by decide +kernel
theorem d_S_add_61 : decode c_S_add 61 = .ok (.ifCond .ne 7, 3) := by decide +kernel
theorem d_S_add_64 : decode c_S_add 64 = .ok (.iload_n 2, 1) := by decide +kernel
theorem d_S_add_65 : decode c_S_add 65 = .ok (.goto 11, 3) := by decide +kernel
theorem d_S_add_68 : decode c_S_add 68 = .ok (.aload_n 0, 1) := by decide +kernel
theorem d_S_add_69 : decode c_S_add 69 = .ok (.getfield 37, 3) := by decide +kernel
theorem d_S_add_72 : decode c_S_add 72 = .ok (.iload_n 2, 1) := by decide +kernel
theorem d_S_add_73 : decode c_S_add 73 = .ok (.invokestatic 25, 3) := by decide +kernel
theorem d_S_add_76 : decode c_S_add 76 = .ok (.putfield 37, 3) := by decide +kernel
theorem d_S_add_79 : decode c_S_add 79 = .ok (.aload_n 0, 1) := by decide +kernel
theorem d_S_add_80 : decode c_S_add 80 = .ok (.aload_n 0, 1) := by decide +kernel
theorem d_S_add_81 : decode c_S_add 81 = .ok (.getfield 18, 3) := by decide +kernel
theorem d_S_add_84 : decode c_S_add 84 = .ok (.ifCond .ne 7, 3) := by decide +kernel
theorem d_S_add_87 : decode c_S_add 87 = .ok (.iload_n 2, 1) := by decide +kernel
theorem d_S_add_88 : decode c_S_add 88 = .ok (.goto 11, 3) := by decide +kernel
theorem d_S_add_91 : decode c_S_add 91 = .ok (.aload_n 0, 1) := by decide +kernel
theorem d_S_add_92 : decode c_S_add 92 = .ok (.getfield 40, 3) := by decide +kernel
theorem d_S_add_95 : decode c_S_add 95 = .ok (.iload_n 2, 1) := by decide +kernel
theorem d_S_add_96 : decode c_S_add 96 = .ok (.invokestatic 34, 3) := by decide +kernel
theorem d_S_add_99 : decode c_S_add 99 = .ok (.putfield 40, 3) := by decide +kernel
theorem d_S_add_102 : decode c_S_add 102 = .ok (.aload_n 0, 1) := by decide +kernel
theorem d_S_add_103 : decode c_S_add 103 = .ok (.getfield 9, 3) := by decide +kernel
theorem d_S_add_106 : decode c_S_add 106 = .ok (.aload_n 0, 1) := by decide +kernel
theorem d_S_add_107 : decode c_S_add 107 = .ok (.getfield 18, 3) := by decide +kernel
theorem d_S_add_110 : decode c_S_add 110 = .ok (.iload_n 1, 1) := by decide +kernel
theorem d_S_add_111 : decode c_S_add 111 = .ok (.iastore, 1) := by decide +kernel
theorem d_S_add_112 : decode c_S_add 112 = .ok (.aload_n 0, 1) := by decide +kernel
theorem d_S_add_113 : decode c_S_add 113 = .ok (.getfield 15, 3) := by decide +kernel
theorem d_S_add_116 : decode c_S_add 116 = .ok (.aload_n 0, 1) := by decide +kernel
theorem d_S_add_117 : decode c_S_add 117 = .ok (.getfield 18, 3) := by decide +kernel
theorem d_S_add_120 : decode c_S_add 120 = .ok (.iload_n 2, 1) := by decide +kernel
theorem d_S_add_121 : decode c_S_add 121 = .ok (.iastore, 1) := by decide +kernel
theorem d_S_add_122 : decode c_S_add 122 = .ok (.aload_n 0, 1) := by decide +kernel
theorem d_S_add_123 : decode c_S_add 123 = .ok (.dup, 1) := by decide +kernel
theorem d_S_add_124 : decode c_S_add 124 = .ok (.getfield 18, 3) := by decide +kernel
theorem d_S_add_127 : decode c_S_add 127 = .ok (.iconst 1, 1) := by decide +kernel
theorem d_S_add_128 : decode c_S_add 128 = .ok (.iadd, 1) := by decide +kernel
theorem d_S_add_129 : decode c_S_add 129 = .ok (.putfield 18, 3) := by decide +kernel
theorem d_S_add_132 : decode c_S_add 132 = .ok (.return_, 1) := by decide +kernel
theorem d_S_copy_0 : decode c_S_copy 0 = .ok (.aload_n 0, 1) := by decide +kernel
theorem d_S_copy_1 : decode c_S_copy 1 = .ok (.invokevirtual 43, 3) := by decide +kernel
theorem d_S_copy_4 : decode c_S_copy 4 = .ok (.iconst 0, 1) := by decide +kernel
theorem d_S_copy_5 : decode c_S_copy 5 = .ok (.istore 4, 2) := by decide +kernel
theorem d_S_copy_7 : decode c_S_copy 7 = .ok (.iload 4, 2) := by decide +kernel
theorem d_S_copy_9 : decode c_S_copy 9 = .ok (.aload_n 1, 1) := by decide +kernel
theorem d_S_copy_10 : decode c_S_copy 10 = .ok (.getfield 18, 3) := by decide +kernel
theorem d_S_copy_13 : decode c_S_copy 13 = .ok (.if_icmp .ge 31, 3) := by decide +kernel
theorem d_S_copy_16 : decode c_S_copy 16 = .ok (.aload_n 0, 1) := by decide +kernel
theorem d_S_copy_17 : decode c_S_copy 17 = .ok (.aload_n 1, 1) := by decide +kernel
theorem d_S_copy_18 : decode c_S_copy 18 = .ok (.getfield 9, 3) := by decide +kernel
theorem d_S_copy_21 : decode c_S_copy 21 = .ok (.iload 4, 2) := by decide +kernel
theorem d_S_copy_23 : decode c_S_copy 23 = .ok (.iaload, 1) := by decide +kernel
theorem d_S_copy_24 : decode c_S_copy 24 = .ok (.iload_n 2, 1) := by decide +kernel
theorem d_S_copy_25 : decode c_S_copy 25 = .ok (.iadd, 1) := by decide +kernel
theorem d_S_copy_26 : decode c_S_copy 26 = .ok (.aload_n 1, 1) := by decide +kernel
theorem d_S_copy_27 : decode c_S_copy 27 = .ok (.getfield 15, 3) := by decide +kernel
theorem d_S_copy_30 : decode c_S_copy 30 = .ok (.iload 4, 2) := by decide +kernel
theorem d_S_copy_32 : decode c_S_copy 32 = .ok (.iaload, 1) := by decide +kernel
theorem d_S_copy_33 : decode c_S_copy 33 = .ok (.iload_n 3, 1) := by decide +kernel
theorem d_S_copy_34 : decode c_S_copy 34 = .ok (.iadd, 1) := by decide +kernel
theorem d_S_copy_35 : decode c_S_copy 35 = .ok (.invokevirtual 46, 3) := by decide +kernel
theorem d_S_copy_38 : decode c_S_copy 38 = .ok (.iinc 4 1, 3) := by decide +kernel
theorem d_S_copy_41 : decode c_S_copy 41 = .ok (.goto (-34), 3) := by decide +kernel
theorem d_S_copy_44 : decode c_S_copy 44 = .ok (.return_, 1) := by decide +kernel
theorem d_S_copyLeftward_0 : decode c_S_copyLeftward 0 = .ok (.aload_n 1, 1) := by decide +kernel
theorem d_S_copyLeftward_1 : decode c_S_copyLeftward 1 = .ok (.invokevirtual 50, 3) := by decide +kernel
theorem d_S_copyLeftward_4 : decode c_S_copyLeftward 4 = .ok (.ifCond .le 11, 3) := by decide +kernel
theorem d_S_copyLeftward_7 : decode c_S_copyLeftward 7 = .ok (.aload_n 0, 1) := by decide +kernel
theorem d_S_copyLeftward_8 : decode c_S_copyLeftward 8 = .ok (.aload_n 1, 1) := by decide +kernel
theorem d_S_copyLeftward_9 : decode c_S_copyLeftward 9 = .ok (.iload_n 2, 1) := by decide +kernel
theorem d_S_copyLeftward_10 : decode c_S_copyLeftward 10 = .ok (.iload_n 3, 1) := by decide +kernel
theorem d_S_copyLeftward_11 : decode c_S_copyLeftward 11 = .ok (.invokevirtual 54, 3) := by decide +kernel
theorem d_S_copyLeftward_14 : decode c_S_copyLeftward 14 = .ok (.return_, 1) := by decide +kernel
theorem d_S_copyLeftward_15 : decode c_S_copyLeftward 15 = .ok (.aload_n 0, 1) := by decide +kernel
theorem d_S_copyLeftward_16 : decode c_S_copyLeftward 16 = .ok (.invokevirtual 43, 3) := by decide +kernel
theorem d_S_copyLeftward_19 : decode c_S_copyLeftward 19 = .ok (.aload_n 1, 1) := by decide +kernel
theorem d_S_copyLeftward_20 : decode c_S_copyLeftward 20 = .ok (.getfield 18, 3) := by decide +kernel
theorem d_S_copyLeftward_23 : decode c_S_copyLeftward 23 = .ok (.iconst 1, 1) := by decide +kernel
theorem d_S_copyLeftward_24 : decode c_S_copyLeftward 24 = .ok (.isub, 1) := by decide +kernel
theorem d_S_copyLeftward_25 : decode c_S_copyLeftward 25 = .ok (.istore 4, 2) := by decide +kernel
theorem d_S_copyLeftward_27 : decode c_S_copyLeftward 27 = .ok (.iload 4, 2) := by decide +kernel
theorem d_S_copyLeftward_29 : decode c_S_copyLeftward 29 = .ok (.ifCond .lt 31, 3) := by decide +kernel
theorem d_S_copyLeftward_32 : decode c_S_copyLeftward 32 = .ok (.aload_n 0, 1) := by decide +kernel
theorem d_S_copyLeftward_33 : decode c_S_copyLeftward 33 = .ok (.aload_n 1, 1) := by decide +kernel
theorem d_S_copyLeftward_34 : decode c_S_copyLeftward 34 = .ok (.getfield 9, 3) := by decide +kernel
theorem d_S_copyLeftward_37 : decode c_S_copyLeftward 37 = .ok (.iload 4, 2) := by decide +kernel
theorem d_S_copyLeftward_39 : decode c_S_copyLeftward 39 = .ok (.iaload, 1) := by decide +kernel
theorem d_S_copyLeftward_40 : decode c_S_copyLeftward 40 = .ok (.iload_n 2, 1) := by decide +kernel
theorem d_S_copyLeftward_41 : decode c_S_copyLeftward 41 = .ok (.iadd, 1) := by decide +kernel
theorem d_S_copyLeftward_42 : decode c_S_copyLeftward 42 = .ok (.aload_n 1, 1) := by decide +kernel
theorem d_S_copyLeftward_43 : decode c_S_copyLeftward 43 = .ok (.getfield 15, 3) := by decide +kernel
theorem d_S_copyLeftward_46 : decode c_S_copyLeftward 46 = .ok (.iload 4, 2) := by decide +kernel
theorem d_S_copyLeftward_48 : decode c_S_copyLeftward 48 = .ok (.iaload, 1) := by decide +kernel
theorem d_S_copyLeftward_49 : decode c_S_copyLeftward 49 = .ok (.iload_n 3, 1) := by decide +kernel
theorem d_S_copyLeftward_50 : decode c_S_copyLeftward 50 = .ok (.iadd, 1) := by decide +kernel
theorem d_S_copyLeftward_51 : decode c_S_copyLeftward 51 = .ok (.invokevirtual 46, 3) := by decide +kernel
theorem d_S_copyLeftward_54 : decode c_S_copyLeftward 54 = .ok (.iinc 4 (-1), 3) := by decide +kernel
theorem d_S_copyLeftward_57 : decode c_S_copyLeftward 57 = .ok (.goto (-30), 3) := by decide +kernel
theorem d_S_copyLeftward_60 : decode c_S_copyLeftward 60 = .ok (.return_, 1) := by decide +kernel
theorem d_S_copyTurned_0 : decode c_S_copyTurned 0 = .ok (.aload_n 0, 1) := by decide +kernel
theorem d_S_copyTurned_1 : decode c_S_copyTurned 1 = .ok (.invokevirtual 43, 3) := by decide +kernel
theorem d_S_copyTurned_4 : decode c_S_copyTurned 4 = .ok (.iconst 0, 1) := by decide +kernel
theorem d_S_copyTurned_5 : decode c_S_copyTurned 5 = .ok (.istore_n 2, 1) := by decide +kernel
theorem d_S_copyTurned_6 : decode c_S_copyTurned 6 = .ok (.iload_n 2, 1) := by decide +kernel
theorem d_S_copyTurned_7 : decode c_S_copyTurned 7 = .ok (.aload_n 1, 1) := by decide +kernel
theorem d_S_copyTurned_8 : decode c_S_copyTurned 8 = .ok (.getfield 18, 3) := by decide +kernel
theorem d_S_copyTurned_11 : decode c_S_copyTurned 11 = .ok (.if_icmp .ge 35, 3) := by decide +kernel
theorem d_S_copyTurned_14 : decode c_S_copyTurned 14 = .ok (.aload_n 0, 1) := by decide +kernel
theorem d_S_copyTurned_15 : decode c_S_copyTurned 15 = .ok (.aload_n 1, 1) := by decide +kernel
theorem d_S_copyTurned_16 : decode c_S_copyTurned 16 = .ok (.getfield 40, 3) := by decide +kernel
theorem d_S_copyTurned_19 : decode c_S_copyTurned 19 = .ok (.aload_n 1, 1) := by decide +kernel
theorem d_S_copyTurned_20 : decode c_S_copyTurned 20 = .ok (.getfield 15, 3) := by decide +kernel
theorem d_S_copyTurned_23 : decode c_S_copyTurned 23 = .ok (.iload_n 2, 1) := by decide +kernel
theorem d_S_copyTurned_24 : decode c_S_copyTurned 24 = .ok (.iaload, 1) := by decide +kernel
theorem d_S_copyTurned_25 : decode c_S_copyTurned 25 = .ok (.isub, 1) := by decide +kernel
theorem d_S_copyTurned_26 : decode c_S_copyTurned 26 = .ok (.aload_n 1, 1) := by decide +kernel
theorem d_S_copyTurned_27 : decode c_S_copyTurned 27 = .ok (.getfield 9, 3) := by decide +kernel
theorem d_S_copyTurned_30 : decode c_S_copyTurned 30 = .ok (.iload_n 2, 1) := by decide +kernel
theorem d_S_copyTurned_31 : decode c_S_copyTurned 31 = .ok (.iaload, 1) := by decide +kernel
theorem d_S_copyTurned_32 : decode c_S_copyTurned 32 = .ok (.aload_n 1, 1) := by decide +kernel
theorem d_S_copyTurned_33 : decode c_S_copyTurned 33 = .ok (.getfield 22, 3) := by decide +kernel
theorem d_S_copyTurned_36 : decode c_S_copyTurned 36 = .ok (.isub, 1) := by decide +kernel
theorem d_S_copyTurned_37 : decode c_S_copyTurned 37 = .ok (.invokevirtual 46, 3) := by decide +kernel
theorem d_S_copyTurned_40 : decode c_S_copyTurned 40 = .ok (.iinc 2 1, 3) := by decide +kernel
theorem d_S_copyTurned_43 : decode c_S_copyTurned 43 = .ok (.goto (-37), 3) := by decide +kernel
theorem d_S_copyTurned_46 : decode c_S_copyTurned 46 = .ok (.return_, 1) := by decide +kernel
theorem d_S_next_0 : decode c_S_next 0 = .ok (.iload_n 1, 1) := by decide +kernel
theorem d_S_next_1 : decode c_S_next 1 = .ok (.iconst 1, 1) := by decide +kernel
theorem d_S_next_2 : decode c_S_next 2 = .ok (.iadd, 1) := by decide +kernel
theorem d_S_next_3 : decode c_S_next 3 = .ok (.aload_n 0, 1) := by decide +kernel
theorem d_S_next_4 : decode c_S_next 4 = .ok (.getfield 18, 3) := by decide +kernel
theorem d_S_next_7 : decode c_S_next 7 = .ok (.if_icmp .ge 9, 3) := by decide +kernel
theorem d_S_next_10 : decode c_S_next 10 = .ok (.iload_n 1, 1) := by decide +kernel
theorem d_S_next_11 : decode c_S_next 11 = .ok (.iconst 1, 1) := by decide +kernel
theorem d_S_next_12 : decode c_S_next 12 = .ok (.iadd, 1) := by decide +kernel
theorem d_S_next_13 : decode c_S_next 13 = .ok (.goto 4, 3) := by decide +kernel
theorem d_S_next_16 : decode c_S_next 16 = .ok (.iconst 0, 1) := by decide +kernel
theorem d_S_next_17 : decode c_S_next 17 = .ok (.ireturn, 1) := by decide +kernel
theorem d_S_doubleArea_0 : decode c_S_doubleArea 0 = .ok (.iconst 0, 1) := by decide +kernel
theorem d_S_doubleArea_1 : decode c_S_doubleArea 1 = .ok (.istore_n 1, 1) := by decide +kernel
theorem d_S_doubleArea_2 : decode c_S_doubleArea 2 = .ok (.iconst 0, 1) := by decide +kernel
theorem d_S_doubleArea_3 : decode c_S_doubleArea 3 = .ok (.istore_n 2, 1) := by decide +kernel
theorem d_S_doubleArea_4 : decode c_S_doubleArea 4 = .ok (.iload_n 2, 1) := by decide +kernel
theorem d_S_doubleArea_5 : decode c_S_doubleArea 5 = .ok (.aload_n 0, 1) := by decide +kernel
theorem d_S_doubleArea_6 : decode c_S_doubleArea 6 = .ok (.getfield 18, 3) := by decide +kernel
theorem d_S_doubleArea_9 : decode c_S_doubleArea 9 = .ok (.if_icmp .ge 45, 3) := by decide +kernel
theorem d_S_doubleArea_12 : decode c_S_doubleArea 12 = .ok (.aload_n 0, 1) := by decide +kernel
theorem d_S_doubleArea_13 : decode c_S_doubleArea 13 = .ok (.iload_n 2, 1) := by decide +kernel
theorem d_S_doubleArea_14 : decode c_S_doubleArea 14 = .ok (.invokevirtual 58, 3) := by decide +kernel
theorem d_S_doubleArea_17 : decode c_S_doubleArea 17 = .ok (.istore_n 3, 1) := by decide +kernel
theorem d_S_doubleArea_18 : decode c_S_doubleArea 18 = .ok (.iload_n 1, 1) := by decide +kernel
theorem d_S_doubleArea_19 : decode c_S_doubleArea 19 = .ok (.aload_n 0, 1) := by decide +kernel
theorem d_S_doubleArea_20 : decode c_S_doubleArea 20 = .ok (.getfield 9, 3) := by decide +kernel
theorem d_S_doubleArea_23 : decode c_S_doubleArea 23 = .ok (.iload_n 2, 1) := by decide +kernel
theorem d_S_doubleArea_24 : decode c_S_doubleArea 24 = .ok (.iaload, 1) := by decide +kernel
theorem d_S_doubleArea_25 : decode c_S_doubleArea 25 = .ok (.aload_n 0, 1) := by decide +kernel
theorem d_S_doubleArea_26 : decode c_S_doubleArea 26 = .ok (.getfield 15, 3) := by decide +kernel
theorem d_S_doubleArea_29 : decode c_S_doubleArea 29 = .ok (.iload_n 3, 1) := by decide +kernel
theorem d_S_doubleArea_30 : decode c_S_doubleArea 30 = .ok (.iaload, 1) := by decide +kernel
theorem d_S_doubleArea_31 : decode c_S_doubleArea 31 = .ok (.imul, 1) := by decide +kernel
theorem d_S_doubleArea_32 : decode c_S_doubleArea 32 = .ok (.aload_n 0, 1) := by decide +kernel
theorem d_S_doubleArea_33 : decode c_S_doubleArea 33 = .ok (.getfield 9, 3) := by decide +kernel
theorem d_S_doubleArea_36 : decode c_S_doubleArea 36 = .ok (.iload_n 3, 1) := by decide +kernel
theorem d_S_doubleArea_37 : decode c_S_doubleArea 37 = .ok (.iaload, 1) := by decide +kernel
theorem d_S_doubleArea_38 : decode c_S_doubleArea 38 = .ok (.aload_n 0, 1) := by decide +kernel
theorem d_S_doubleArea_39 : decode c_S_doubleArea 39 = .ok (.getfield 15, 3) := by decide +kernel
theorem d_S_doubleArea_42 : decode c_S_doubleArea 42 = .ok (.iload_n 2, 1) := by decide +kernel
theorem d_S_doubleArea_43 : decode c_S_doubleArea 43 = .ok (.iaload, 1) := by decide +kernel
theorem d_S_doubleArea_44 : decode c_S_doubleArea 44 = .ok (.imul, 1) := by decide +kernel
theorem d_S_doubleArea_45 : decode c_S_doubleArea 45 = .ok (.isub, 1) := by decide +kernel
theorem d_S_doubleArea_46 : decode c_S_doubleArea 46 = .ok (.iadd, 1) := by decide +kernel
theorem d_S_doubleArea_47 : decode c_S_doubleArea 47 = .ok (.istore_n 1, 1) := by decide +kernel
theorem d_S_doubleArea_48 : decode c_S_doubleArea 48 = .ok (.iinc 2 1, 3) := by decide +kernel
theorem d_S_doubleArea_51 : decode c_S_doubleArea 51 = .ok (.goto (-47), 3) := by decide +kernel
theorem d_S_doubleArea_54 : decode c_S_doubleArea 54 = .ok (.iload_n 1, 1) := by decide +kernel
theorem d_S_doubleArea_55 : decode c_S_doubleArea 55 = .ok (.ireturn, 1) := by decide +kernel
theorem d_S_beside_0 : decode c_S_beside 0 = .ok (.iload_n 1, 1) := by decide +kernel
theorem d_S_beside_1 : decode c_S_beside 1 = .ok (.iconst 1, 1) := by decide +kernel
theorem d_S_beside_2 : decode c_S_beside 2 = .ok (.iadd, 1) := by decide +kernel
theorem d_S_beside_3 : decode c_S_beside 3 = .ok (.aload_n 0, 1) := by decide +kernel
theorem d_S_beside_4 : decode c_S_beside 4 = .ok (.getfield 18, 3) := by decide +kernel
theorem d_S_beside_7 : decode c_S_beside 7 = .ok (.if_icmp .ge 9, 3) := by decide +kernel
theorem d_S_beside_10 : decode c_S_beside 10 = .ok (.iload_n 1, 1) := by decide +kernel
theorem d_S_beside_11 : decode c_S_beside 11 = .ok (.iconst 1, 1) := by decide +kernel
theorem d_S_beside_12 : decode c_S_beside 12 = .ok (.iadd, 1) := by decide +kernel
theorem d_S_beside_13 : decode c_S_beside 13 = .ok (.goto 4, 3) := by decide +kernel
theorem d_S_beside_16 : decode c_S_beside 16 = .ok (.iconst 0, 1) := by decide +kernel
theorem d_S_beside_17 : decode c_S_beside 17 = .ok (.istore 4, 2) := by decide +kernel
theorem d_S_beside_19 : decode c_S_beside 19 = .ok (.aload_n 0, 1) := by decide +kernel
theorem d_S_beside_20 : decode c_S_beside 20 = .ok (.getfield 9, 3) := by decide +kernel
theorem d_S_beside_23 : decode c_S_beside 23 = .ok (.iload 4, 2) := by decide +kernel
theorem d_S_beside_25 : decode c_S_beside 25 = .ok (.iaload, 1) := by decide +kernel
theorem d_S_beside_26 : decode c_S_beside 26 = .ok (.aload_n 0, 1) := by decide +kernel
theorem d_S_beside_27 : decode c_S_beside 27 = .ok (.getfield 9, 3) := by decide +kernel
theorem d_S_beside_30 : decode c_S_beside 30 = .ok (.iload_n 1, 1) := by decide +kernel
theorem d_S_beside_31 : decode c_S_beside 31 = .ok (.iaload, 1) := by decide +kernel
theorem d_S_beside_32 : decode c_S_beside 32 = .ok (.isub, 1) := by decide +kernel
theorem d_S_beside_33 : decode c_S_beside 33 = .ok (.iload_n 3, 1) := by decide +kernel
theorem d_S_beside_34 : decode c_S_beside 34 = .ok (.aload_n 0, 1) := by decide +kernel
theorem d_S_beside_35 : decode c_S_beside 35 = .ok (.getfield 15, 3) := by decide +kernel
theorem d_S_beside_38 : decode c_S_beside 38 = .ok (.iload_n 1, 1) := by decide +kernel
theorem d_S_beside_39 : decode c_S_beside 39 = .ok (.iaload, 1) := by decide +kernel
theorem d_S_beside_40 : decode c_S_beside 40 = .ok (.isub, 1) := by decide +kernel
theorem d_S_beside_41 : decode c_S_beside 41 = .ok (.imul, 1) := by decide +kernel
theorem d_S_beside_42 : decode c_S_beside 42 = .ok (.aload_n 0, 1) := by decide +kernel
theorem d_S_beside_43 : decode c_S_beside 43 = .ok (.getfield 15, 3) := by decide +kernel
theorem d_S_beside_46 : decode c_S_beside 46 = .ok (.iload 4, 2) := by decide +kernel
theorem d_S_beside_48 : decode c_S_beside 48 = .ok (.iaload, 1) := by decide +kernel
theorem d_S_beside_49 : decode c_S_beside 49 = .ok (.aload_n 0, 1) := by decide +kernel
theorem d_S_beside_50 : decode c_S_beside 50 = .ok (.getfield 15, 3) := by decide +kernel
theorem d_S_beside_53 : decode c_S_beside 53 = .ok (.iload_n 1, 1) := by decide +kernel
theorem d_S_beside_54 : decode c_S_beside 54 = .ok (.iaload, 1) := by decide +kernel
theorem d_S_beside_55 : decode c_S_beside 55 = .ok (.isub, 1) := by decide +kernel
theorem d_S_beside_56 : decode c_S_beside 56 = .ok (.iload_n 2, 1) := by decide +kernel
theorem d_S_beside_57 : decode c_S_beside 57 = .ok (.aload_n 0, 1) := by decide +kernel
theorem d_S_beside_58 : decode c_S_beside 58 = .ok (.getfield 9, 3) := by decide +kernel
theorem d_S_beside_61 : decode c_S_beside 61 = .ok (.iload_n 1, 1) := by decide +kernel
theorem d_S_beside_62 : decode c_S_beside 62 = .ok (.iaload, 1) := by decide +kernel
theorem d_S_beside_63 : decode c_S_beside 63 = .ok (.isub, 1) := by decide +kernel
theorem d_S_beside_64 : decode c_S_beside 64 = .ok (.imul, 1) := by decide +kernel
theorem d_S_beside_65 : decode c_S_beside 65 = .ok (.isub, 1) := by decide +kernel
theorem d_S_beside_66 : decode c_S_beside 66 = .ok (.ireturn, 1) := by decide +kernel
theorem d_S_isRound_0 : decode c_S_isRound 0 = .ok (.aload_n 0, 1) := by decide +kernel
theorem d_S_isRound_1 : decode c_S_isRound 1 = .ok (.getfield 18, 3) := by decide +kernel
theorem d_S_isRound_4 : decode c_S_isRound 4 = .ok (.iconst 3, 1) := by decide +kernel
theorem d_S_isRound_5 : decode c_S_isRound 5 = .ok (.if_icmp .lt 12, 3) := by decide +kernel
theorem d_S_isRound_8 : decode c_S_isRound 8 = .ok (.aload_n 0, 1) := by decide +kernel
theorem d_S_isRound_9 : decode c_S_isRound 9 = .ok (.getfield 18, 3) := by decide +kernel
theorem d_S_isRound_12 : decode c_S_isRound 12 = .ok (.bipush 6, 2) := by decide +kernel
theorem d_S_isRound_14 : decode c_S_isRound 14 = .ok (.if_icmp .le 5, 3) := by decide +kernel
theorem d_S_isRound_17 : decode c_S_isRound 17 = .ok (.iconst 0, 1) := by decide +kernel
theorem d_S_isRound_18 : decode c_S_isRound 18 = .ok (.ireturn, 1) := by decide +kernel
theorem d_S_isRound_19 : decode c_S_isRound 19 = .ok (.aload_n 0, 1) := by decide +kernel
theorem d_S_isRound_20 : decode c_S_isRound 20 = .ok (.iconst 0, 1) := by decide +kernel
theorem d_S_isRound_21 : decode c_S_isRound 21 = .ok (.aload_n 0, 1) := by decide +kernel
theorem d_S_isRound_22 : decode c_S_isRound 22 = .ok (.getfield 9, 3) := by decide +kernel
theorem d_S_isRound_25 : decode c_S_isRound 25 = .ok (.iconst 2, 1) := by decide +kernel
theorem d_S_isRound_26 : decode c_S_isRound 26 = .ok (.iaload, 1) := by decide +kernel
theorem d_S_isRound_27 : decode c_S_isRound 27 = .ok (.aload_n 0, 1) := by decide +kernel
theorem d_S_isRound_28 : decode c_S_isRound 28 = .ok (.getfield 15, 3) := by decide +kernel
theorem d_S_isRound_31 : decode c_S_isRound 31 = .ok (.iconst 2, 1) := by decide +kernel
theorem d_S_isRound_32 : decode c_S_isRound 32 = .ok (.iaload, 1) := by decide +kernel
theorem d_S_isRound_33 : decode c_S_isRound 33 = .ok (.invokevirtual 62, 3) := by decide +kernel
theorem d_S_isRound_36 : decode c_S_isRound 36 = .ok (.ifCond .le 7, 3) := by decide +kernel
theorem d_S_isRound_39 : decode c_S_isRound 39 = .ok (.iconst 1, 1) := by decide +kernel
theorem d_S_isRound_40 : decode c_S_isRound 40 = .ok (.goto 4, 3) := by decide +kernel
theorem d_S_isRound_43 : decode c_S_isRound 43 = .ok (.iconst (-1), 1) := by decide +kernel
theorem d_S_isRound_44 : decode c_S_isRound 44 = .ok (.istore_n 1, 1) := by decide +kernel
theorem d_S_isRound_45 : decode c_S_isRound 45 = .ok (.iconst 0, 1) := by decide +kernel
theorem d_S_isRound_46 : decode c_S_isRound 46 = .ok (.istore_n 2, 1) := by decide +kernel
theorem d_S_isRound_47 : decode c_S_isRound 47 = .ok (.iload_n 2, 1) := by decide +kernel
theorem d_S_isRound_48 : decode c_S_isRound 48 = .ok (.aload_n 0, 1) := by decide +kernel
theorem d_S_isRound_49 : decode c_S_isRound 49 = .ok (.getfield 18, 3) := by decide +kernel
theorem d_S_isRound_52 : decode c_S_isRound 52 = .ok (.if_icmp .ge 75, 3) := by decide +kernel
theorem d_S_isRound_55 : decode c_S_isRound 55 = .ok (.iconst 0, 1) := by decide +kernel
theorem d_S_isRound_56 : decode c_S_isRound 56 = .ok (.istore_n 3, 1) := by decide +kernel
theorem d_S_isRound_57 : decode c_S_isRound 57 = .ok (.iload_n 3, 1) := by decide +kernel
theorem d_S_isRound_58 : decode c_S_isRound 58 = .ok (.aload_n 0, 1) := by decide +kernel
theorem d_S_isRound_59 : decode c_S_isRound 59 = .ok (.getfield 18, 3) := by decide +kernel
theorem d_S_isRound_62 : decode c_S_isRound 62 = .ok (.if_icmp .ge 59, 3) := by decide +kernel
theorem d_S_isRound_65 : decode c_S_isRound 65 = .ok (.iload_n 3, 1) := by decide +kernel
theorem d_S_isRound_66 : decode c_S_isRound 66 = .ok (.iload_n 2, 1) := by decide +kernel
theorem d_S_isRound_67 : decode c_S_isRound 67 = .ok (.if_icmp .eq 12, 3) := by decide +kernel
theorem d_S_isRound_70 : decode c_S_isRound 70 = .ok (.iload_n 3, 1) := by decide +kernel
theorem d_S_isRound_71 : decode c_S_isRound 71 = .ok (.aload_n 0, 1) := by decide +kernel
theorem d_S_isRound_72 : decode c_S_isRound 72 = .ok (.iload_n 2, 1) := by decide +kernel
theorem d_S_isRound_73 : decode c_S_isRound 73 = .ok (.invokevirtual 58, 3) := by decide +kernel
theorem d_S_isRound_76 : decode c_S_isRound 76 = .ok (.if_icmp .ne 7, 3) := by decide +kernel
theorem d_S_isRound_79 : decode c_S_isRound 79 = .ok (.iconst 1, 1) := by decide +kernel
theorem d_S_isRound_80 : decode c_S_isRound 80 = .ok (.goto 4, 3) := by decide +kernel
theorem d_S_isRound_83 : decode c_S_isRound 83 = .ok (.iconst 0, 1) := by decide +kernel
theorem d_S_isRound_84 : decode c_S_isRound 84 = .ok (.istore 4, 2) := by decide +kernel
theorem d_S_isRound_86 : decode c_S_isRound 86 = .ok (.iload 4, 2) := by decide +kernel
theorem d_S_isRound_88 : decode c_S_isRound 88 = .ok (.ifCond .ne 27, 3) := by decide +kernel
theorem d_S_isRound_91 : decode c_S_isRound 91 = .ok (.iload_n 1, 1) := by decide +kernel
theorem d_S_isRound_92 : decode c_S_isRound 92 = .ok (.aload_n 0, 1) := by decide +kernel
theorem d_S_isRound_93 : decode c_S_isRound 93 = .ok (.iload_n 2, 1) := by decide +kernel
theorem d_S_isRound_94 : decode c_S_isRound 94 = .ok (.aload_n 0, 1) := by decide +kernel
theorem d_S_isRound_95 : decode c_S_isRound 95 = .ok (.getfield 9, 3) := by decide +kernel
theorem d_S_isRound_98 : decode c_S_isRound 98 = .ok (.iload_n 3, 1) := by decide +kernel
theorem d_S_isRound_99 : decode c_S_isRound 99 = .ok (.iaload, 1) := by decide +kernel
theorem d_S_isRound_100 : decode c_S_isRound 100 = .ok (.aload_n 0, 1) := by decide +kernel
theorem d_S_isRound_101 : decode c_S_isRound 101 = .ok (.getfield 15, 3) := by decide +kernel
theorem d_S_isRound_104 : decode c_S_isRound 104 = .ok (.iload_n 3, 1) := by decide +kernel
theorem d_S_isRound_105 : decode c_S_isRound 105 = .ok (.iaload, 1) := by decide +kernel
theorem d_S_isRound_106 : decode c_S_isRound 106 = .ok (.invokevirtual 62, 3) := by decide +kernel
theorem d_S_isRound_109 : decode c_S_isRound 109 = .ok (.imul, 1) := by decide +kernel
theorem d_S_isRound_110 : decode c_S_isRound 110 = .ok (.ifCond .gt 5, 3) := by decide +kernel
theorem d_S_isRound_113 : decode c_S_isRound 113 = .ok (.iconst 0, 1) := by decide +kernel
theorem d_S_isRound_114 : decode c_S_isRound 114 = .ok (.ireturn, 1) := by decide +kernel
theorem d_S_isRound_115 : decode c_S_isRound 115 = .ok (.iinc 3 1, 3) := by decide +kernel
theorem d_S_isRound_118 : decode c_S_isRound 118 = .ok (.goto (-61), 3) := by decide +kernel
theorem d_S_isRound_121 : decode c_S_isRound 121 = .ok (.iinc 2 1, 3) := by decide +kernel
theorem d_S_isRound_124 : decode c_S_isRound 124 = .ok (.goto (-77), 3) := by decide +kernel
theorem d_S_isRound_127 : decode c_S_isRound 127 = .ok (.iconst 1, 1) := by decide +kernel
theorem d_S_isRound_128 : decode c_S_isRound 128 = .ok (.ireturn, 1) := by decide +kernel
theorem d_S_isPlain_0 : decode c_S_isPlain 0 = .ok (.aload_n 0, 1) := by decide +kernel
theorem d_S_isPlain_1 : decode c_S_isPlain 1 = .ok (.getfield 18, 3) := by decide +kernel
theorem d_S_isPlain_4 : decode c_S_isPlain 4 = .ok (.iconst 3, 1) := by decide +kernel
theorem d_S_isPlain_5 : decode c_S_isPlain 5 = .ok (.if_icmp .ge 5, 3) := by decide +kernel
theorem d_S_isPlain_8 : decode c_S_isPlain 8 = .ok (.iconst 0, 1) := by decide +kernel
theorem d_S_isPlain_9 : decode c_S_isPlain 9 = .ok (.ireturn, 1) := by decide +kernel
theorem d_S_isPlain_10 : decode c_S_isPlain 10 = .ok (.iconst 0, 1) := by decide +kernel
theorem d_S_isPlain_11 : decode c_S_isPlain 11 = .ok (.istore_n 1, 1) := by decide +kernel
theorem d_S_isPlain_12 : decode c_S_isPlain 12 = .ok (.iload_n 1, 1) := by decide +kernel
theorem d_S_isPlain_13 : decode c_S_isPlain 13 = .ok (.aload_n 0, 1) := by decide +kernel
theorem d_S_isPlain_14 : decode c_S_isPlain 14 = .ok (.getfield 18, 3) := by decide +kernel
theorem d_S_isPlain_17 : decode c_S_isPlain 17 = .ok (.if_icmp .ge 67, 3) := by decide +kernel
theorem d_S_isPlain_20 : decode c_S_isPlain 20 = .ok (.aload_n 0, 1) := by decide +kernel
theorem d_S_isPlain_21 : decode c_S_isPlain 21 = .ok (.iload_n 1, 1) := by decide +kernel
theorem d_S_isPlain_22 : decode c_S_isPlain 22 = .ok (.invokevirtual 66, 3) := by decide +kernel
theorem d_S_isPlain_25 : decode c_S_isPlain 25 = .ok (.ifCond .eq 5, 3) := by decide +kernel
theorem d_S_isPlain_28 : decode c_S_isPlain 28 = .ok (.iconst 0, 1) := by decide +kernel
theorem d_S_isPlain_29 : decode c_S_isPlain 29 = .ok (.ireturn, 1) := by decide +kernel
theorem d_S_isPlain_30 : decode c_S_isPlain 30 = .ok (.iload_n 1, 1) := by decide +kernel
theorem d_S_isPlain_31 : decode c_S_isPlain 31 = .ok (.iconst 2, 1) := by decide +kernel
theorem d_S_isPlain_32 : decode c_S_isPlain 32 = .ok (.iadd, 1) := by decide +kernel
theorem d_S_isPlain_33 : decode c_S_isPlain 33 = .ok (.istore_n 2, 1) := by decide +kernel
theorem d_S_isPlain_34 : decode c_S_isPlain 34 = .ok (.iload_n 2, 1) := by decide +kernel
theorem d_S_isPlain_35 : decode c_S_isPlain 35 = .ok (.aload_n 0, 1) := by decide +kernel
theorem d_S_isPlain_36 : decode c_S_isPlain 36 = .ok (.getfield 18, 3) := by decide +kernel
theorem d_S_isPlain_39 : decode c_S_isPlain 39 = .ok (.if_icmp .ge 39, 3) := by decide +kernel
theorem d_S_isPlain_42 : decode c_S_isPlain 42 = .ok (.aload_n 0, 1) := by decide +kernel
theorem d_S_isPlain_43 : decode c_S_isPlain 43 = .ok (.iload_n 2, 1) := by decide +kernel
theorem d_S_isPlain_44 : decode c_S_isPlain 44 = .ok (.invokevirtual 58, 3) := by decide +kernel
theorem d_S_isPlain_47 : decode c_S_isPlain 47 = .ok (.iload_n 1, 1) := by decide +kernel
theorem d_S_isPlain_48 : decode c_S_isPlain 48 = .ok (.if_icmp .ne 7, 3) := by decide +kernel
theorem d_S_isPlain_51 : decode c_S_isPlain 51 = .ok (.iconst 1, 1) := by decide +kernel
theorem d_S_isPlain_52 : decode c_S_isPlain 52 = .ok (.goto 4, 3) := by decide +kernel
theorem d_S_isPlain_55 : decode c_S_isPlain 55 = .ok (.iconst 0, 1) := by decide +kernel
theorem d_S_isPlain_56 : decode c_S_isPlain 56 = .ok (.istore_n 3, 1) := by decide +kernel
theorem d_S_isPlain_57 : decode c_S_isPlain 57 = .ok (.iload_n 3, 1) := by decide +kernel
theorem d_S_isPlain_58 : decode c_S_isPlain 58 = .ok (.ifCond .ne 14, 3) := by decide +kernel
theorem d_S_isPlain_61 : decode c_S_isPlain 61 = .ok (.aload_n 0, 1) := by decide +kernel
theorem d_S_isPlain_62 : decode c_S_isPlain 62 = .ok (.iload_n 1, 1) := by decide +kernel
theorem d_S_isPlain_63 : decode c_S_isPlain 63 = .ok (.iload_n 2, 1) := by decide +kernel
theorem d_S_isPlain_64 : decode c_S_isPlain 64 = .ok (.invokevirtual 70, 3) := by decide +kernel
theorem d_S_isPlain_67 : decode c_S_isPlain 67 = .ok (.ifCond .eq 5, 3) := by decide +kernel
theorem d_S_isPlain_70 : decode c_S_isPlain 70 = .ok (.iconst 0, 1) := by decide +kernel
theorem d_S_isPlain_71 : decode c_S_isPlain 71 = .ok (.ireturn, 1) := by decide +kernel
theorem d_S_isPlain_72 : decode c_S_isPlain 72 = .ok (.iinc 2 1, 3) := by decide +kernel
theorem d_S_isPlain_75 : decode c_S_isPlain 75 = .ok (.goto (-41), 3) := by decide +kernel
theorem d_S_isPlain_78 : decode c_S_isPlain 78 = .ok (.iinc 1 1, 3) := by decide +kernel
theorem d_S_isPlain_81 : decode c_S_isPlain 81 = .ok (.goto (-69), 3) := by decide +kernel
theorem d_S_isPlain_84 : decode c_S_isPlain 84 = .ok (.iconst 1, 1) := by decide +kernel
theorem d_S_isPlain_85 : decode c_S_isPlain 85 = .ok (.ireturn, 1) := by decide +kernel
theorem d_S_foldsBack_0 : decode c_S_foldsBack 0 = .ok (.aload_n 0, 1) := by decide +kernel
theorem d_S_foldsBack_1 : decode c_S_foldsBack 1 = .ok (.iload_n 1, 1) := by decide +kernel
theorem d_S_foldsBack_2 : decode c_S_foldsBack 2 = .ok (.invokevirtual 58, 3) := by decide +kernel
theorem d_S_foldsBack_5 : decode c_S_foldsBack 5 = .ok (.istore_n 2, 1) := by decide +kernel
theorem d_S_foldsBack_6 : decode c_S_foldsBack 6 = .ok (.aload_n 0, 1) := by decide +kernel
theorem d_S_foldsBack_7 : decode c_S_foldsBack 7 = .ok (.iload_n 2, 1) := by decide +kernel
theorem d_S_foldsBack_8 : decode c_S_foldsBack 8 = .ok (.invokevirtual 58, 3) := by decide +kernel
theorem d_S_foldsBack_11 : decode c_S_foldsBack 11 = .ok (.istore_n 3, 1) := by decide +kernel
theorem d_S_foldsBack_12 : decode c_S_foldsBack 12 = .ok (.aload_n 0, 1) := by decide +kernel
theorem d_S_foldsBack_13 : decode c_S_foldsBack 13 = .ok (.getfield 9, 3) := by decide +kernel
theorem d_S_foldsBack_16 : decode c_S_foldsBack 16 = .ok (.iload_n 1, 1) := by decide +kernel
theorem d_S_foldsBack_17 : decode c_S_foldsBack 17 = .ok (.iaload, 1) := by decide +kernel
theorem d_S_foldsBack_18 : decode c_S_foldsBack 18 = .ok (.aload_n 0, 1) := by decide +kernel
theorem d_S_foldsBack_19 : decode c_S_foldsBack 19 = .ok (.getfield 9, 3) := by decide +kernel
theorem d_S_foldsBack_22 : decode c_S_foldsBack 22 = .ok (.iload_n 2, 1) := by decide +kernel
theorem d_S_foldsBack_23 : decode c_S_foldsBack 23 = .ok (.iaload, 1) := by decide +kernel
theorem d_S_foldsBack_24 : decode c_S_foldsBack 24 = .ok (.isub, 1) := by decide +kernel
theorem d_S_foldsBack_25 : decode c_S_foldsBack 25 = .ok (.aload_n 0, 1) := by decide +kernel
theorem d_S_foldsBack_26 : decode c_S_foldsBack 26 = .ok (.getfield 9, 3) := by decide +kernel
theorem d_S_foldsBack_29 : decode c_S_foldsBack 29 = .ok (.iload_n 3, 1) := by decide +kernel
theorem d_S_foldsBack_30 : decode c_S_foldsBack 30 = .ok (.iaload, 1) := by decide +kernel
theorem d_S_foldsBack_31 : decode c_S_foldsBack 31 = .ok (.aload_n 0, 1) := by decide +kernel
theorem d_S_foldsBack_32 : decode c_S_foldsBack 32 = .ok (.getfield 9, 3) := by decide +kernel
theorem d_S_foldsBack_35 : decode c_S_foldsBack 35 = .ok (.iload_n 2, 1) := by decide +kernel
theorem d_S_foldsBack_36 : decode c_S_foldsBack 36 = .ok (.iaload, 1) := by decide +kernel
theorem d_S_foldsBack_37 : decode c_S_foldsBack 37 = .ok (.isub, 1) := by decide +kernel
theorem d_S_foldsBack_38 : decode c_S_foldsBack 38 = .ok (.imul, 1) := by decide +kernel
theorem d_S_foldsBack_39 : decode c_S_foldsBack 39 = .ok (.aload_n 0, 1) := by decide +kernel
theorem d_S_foldsBack_40 : decode c_S_foldsBack 40 = .ok (.getfield 15, 3) := by decide +kernel
theorem d_S_foldsBack_43 : decode c_S_foldsBack 43 = .ok (.iload_n 1, 1) := by decide +kernel
theorem d_S_foldsBack_44 : decode c_S_foldsBack 44 = .ok (.iaload, 1) := by decide +kernel
theorem d_S_foldsBack_45 : decode c_S_foldsBack 45 = .ok (.aload_n 0, 1) := by decide +kernel
theorem d_S_foldsBack_46 : decode c_S_foldsBack 46 = .ok (.getfield 15, 3) := by decide +kernel
theorem d_S_foldsBack_49 : decode c_S_foldsBack 49 = .ok (.iload_n 2, 1) := by decide +kernel
theorem d_S_foldsBack_50 : decode c_S_foldsBack 50 = .ok (.iaload, 1) := by decide +kernel
theorem d_S_foldsBack_51 : decode c_S_foldsBack 51 = .ok (.isub, 1) := by decide +kernel
theorem d_S_foldsBack_52 : decode c_S_foldsBack 52 = .ok (.aload_n 0, 1) := by decide +kernel
theorem d_S_foldsBack_53 : decode c_S_foldsBack 53 = .ok (.getfield 15, 3) := by decide +kernel
theorem d_S_foldsBack_56 : decode c_S_foldsBack 56 = .ok (.iload_n 3, 1) := by decide +kernel
theorem d_S_foldsBack_57 : decode c_S_foldsBack 57 = .ok (.iaload, 1) := by decide +kernel
theorem d_S_foldsBack_58 : decode c_S_foldsBack 58 = .ok (.aload_n 0, 1) := by decide +kernel
theorem d_S_foldsBack_59 : decode c_S_foldsBack 59 = .ok (.getfield 15, 3) := by decide +kernel
theorem d_S_foldsBack_62 : decode c_S_foldsBack 62 = .ok (.iload_n 2, 1) := by decide +kernel
theorem d_S_foldsBack_63 : decode c_S_foldsBack 63 = .ok (.iaload, 1) := by decide +kernel
theorem d_S_foldsBack_64 : decode c_S_foldsBack 64 = .ok (.isub, 1) := by decide +kernel
theorem d_S_foldsBack_65 : decode c_S_foldsBack 65 = .ok (.imul, 1) := by decide +kernel
theorem d_S_foldsBack_66 : decode c_S_foldsBack 66 = .ok (.iadd, 1) := by decide +kernel
theorem d_S_foldsBack_67 : decode c_S_foldsBack 67 = .ok (.istore 4, 2) := by decide +kernel
theorem d_S_foldsBack_69 : decode c_S_foldsBack 69 = .ok (.aload_n 0, 1) := by decide +kernel
theorem d_S_foldsBack_70 : decode c_S_foldsBack 70 = .ok (.iload_n 1, 1) := by decide +kernel
theorem d_S_foldsBack_71 : decode c_S_foldsBack 71 = .ok (.aload_n 0, 1) := by decide +kernel
theorem d_S_foldsBack_72 : decode c_S_foldsBack 72 = .ok (.getfield 9, 3) := by decide +kernel
theorem d_S_foldsBack_75 : decode c_S_foldsBack 75 = .ok (.iload_n 3, 1) := by decide +kernel
theorem d_S_foldsBack_76 : decode c_S_foldsBack 76 = .ok (.iaload, 1) := by decide +kernel
theorem d_S_foldsBack_77 : decode c_S_foldsBack 77 = .ok (.aload_n 0, 1) := by decide +kernel
theorem d_S_foldsBack_78 : decode c_S_foldsBack 78 = .ok (.getfield 15, 3) := by decide +kernel
theorem d_S_foldsBack_81 : decode c_S_foldsBack 81 = .ok (.iload_n 3, 1) := by decide +kernel
theorem d_S_foldsBack_82 : decode c_S_foldsBack 82 = .ok (.iaload, 1) := by decide +kernel
theorem d_S_foldsBack_83 : decode c_S_foldsBack 83 = .ok (.invokevirtual 62, 3) := by decide +kernel
theorem d_S_foldsBack_86 : decode c_S_foldsBack 86 = .ok (.ifCond .ne 12, 3) := by decide +kernel
theorem d_S_foldsBack_89 : decode c_S_foldsBack 89 = .ok (.iload 4, 2) := by decide +kernel
theorem d_S_foldsBack_91 : decode c_S_foldsBack 91 = .ok (.ifCond .lt 7, 3) := by decide +kernel
theorem d_S_foldsBack_94 : decode c_S_foldsBack 94 = .ok (.iconst 1, 1) := by decide +kernel
theorem d_S_foldsBack_95 : decode c_S_foldsBack 95 = .ok (.goto 4, 3) := by decide +kernel
theorem d_S_foldsBack_98 : decode c_S_foldsBack 98 = .ok (.iconst 0, 1) := by decide +kernel
theorem d_S_foldsBack_99 : decode c_S_foldsBack 99 = .ok (.ireturn, 1) := by decide +kernel
theorem d_S_sidesMeet_0 : decode c_S_sidesMeet 0 = .ok (.aload_n 0, 1) := by decide +kernel
theorem d_S_sidesMeet_1 : decode c_S_sidesMeet 1 = .ok (.getfield 9, 3) := by decide +kernel
theorem d_S_sidesMeet_4 : decode c_S_sidesMeet 4 = .ok (.iload_n 1, 1) := by decide +kernel
theorem d_S_sidesMeet_5 : decode c_S_sidesMeet 5 = .ok (.iaload, 1) := by decide +kernel
theorem d_S_sidesMeet_6 : decode c_S_sidesMeet 6 = .ok (.aload_n 0, 1) := by decide +kernel
theorem d_S_sidesMeet_7 : decode c_S_sidesMeet 7 = .ok (.getfield 9, 3) := by decide +kernel
theorem d_S_sidesMeet_10 : decode c_S_sidesMeet 10 = .ok (.aload_n 0, 1) := by decide +kernel
theorem d_S_sidesMeet_11 : decode c_S_sidesMeet 11 = .ok (.iload_n 1, 1) := by decide +kernel
theorem d_S_sidesMeet_12 : decode c_S_sidesMeet 12 = .ok (.invokevirtual 58, 3) := by decide +kernel
theorem d_S_sidesMeet_15 : decode c_S_sidesMeet 15 = .ok (.iaload, 1) := by decide +kernel
theorem d_S_sidesMeet_16 : decode c_S_sidesMeet 16 = .ok (.aload_n 0, 1) := by decide +kernel
theorem d_S_sidesMeet_17 : decode c_S_sidesMeet 17 = .ok (.getfield 9, 3) := by decide +kernel
theorem d_S_sidesMeet_20 : decode c_S_sidesMeet 20 = .ok (.iload_n 2, 1) := by decide +kernel
theorem d_S_sidesMeet_21 : decode c_S_sidesMeet 21 = .ok (.iaload, 1) := by decide +kernel
theorem d_S_sidesMeet_22 : decode c_S_sidesMeet 22 = .ok (.aload_n 0, 1) := by decide +kernel
theorem d_S_sidesMeet_23 : decode c_S_sidesMeet 23 = .ok (.getfield 9, 3) := by decide +kernel
theorem d_S_sidesMeet_26 : decode c_S_sidesMeet 26 = .ok (.aload_n 0, 1) := by decide +kernel
theorem d_S_sidesMeet_27 : decode c_S_sidesMeet 27 = .ok (.iload_n 2, 1) := by decide +kernel
theorem d_S_sidesMeet_28 : decode c_S_sidesMeet 28 = .ok (.invokevirtual 58, 3) := by decide +kernel
theorem d_S_sidesMeet_31 : decode c_S_sidesMeet 31 = .ok (.iaload, 1) := by decide +kernel
theorem d_S_sidesMeet_32 : decode c_S_sidesMeet 32 = .ok (.invokestatic 74, 3) := by decide +kernel
theorem d_S_sidesMeet_35 : decode c_S_sidesMeet 35 = .ok (.ifCond .eq 63, 3) := by decide +kernel
theorem d_S_sidesMeet_38 : decode c_S_sidesMeet 38 = .ok (.aload_n 0, 1) := by decide +kernel
theorem d_S_sidesMeet_39 : decode c_S_sidesMeet 39 = .ok (.getfield 15, 3) := by decide +kernel
theorem d_S_sidesMeet_42 : decode c_S_sidesMeet 42 = .ok (.iload_n 1, 1) := by decide +kernel
theorem d_S_sidesMeet_43 : decode c_S_sidesMeet 43 = .ok (.iaload, 1) := by decide +kernel
theorem d_S_sidesMeet_44 : decode c_S_sidesMeet 44 = .ok (.aload_n 0, 1) := by decide +kernel
theorem d_S_sidesMeet_45 : decode c_S_sidesMeet 45 = .ok (.getfield 15, 3) := by decide +kernel
theorem d_S_sidesMeet_48 : decode c_S_sidesMeet 48 = .ok (.aload_n 0, 1) := by decide +kernel
theorem d_S_sidesMeet_49 : decode c_S_sidesMeet 49 = .ok (.iload_n 1, 1) := by decide +kernel
theorem d_S_sidesMeet_50 : decode c_S_sidesMeet 50 = .ok (.invokevirtual 58, 3) := by decide +kernel
theorem d_S_sidesMeet_53 : decode c_S_sidesMeet 53 = .ok (.iaload, 1) := by decide +kernel
theorem d_S_sidesMeet_54 : decode c_S_sidesMeet 54 = .ok (.aload_n 0, 1) := by decide +kernel
theorem d_S_sidesMeet_55 : decode c_S_sidesMeet 55 = .ok (.getfield 15, 3) := by decide +kernel
theorem d_S_sidesMeet_58 : decode c_S_sidesMeet 58 = .ok (.iload_n 2, 1) := by decide +kernel
theorem d_S_sidesMeet_59 : decode c_S_sidesMeet 59 = .ok (.iaload, 1) := by decide +kernel
theorem d_S_sidesMeet_60 : decode c_S_sidesMeet 60 = .ok (.aload_n 0, 1) := by decide +kernel
theorem d_S_sidesMeet_61 : decode c_S_sidesMeet 61 = .ok (.getfield 15, 3) := by decide +kernel
theorem d_S_sidesMeet_64 : decode c_S_sidesMeet 64 = .ok (.aload_n 0, 1) := by decide +kernel
theorem d_S_sidesMeet_65 : decode c_S_sidesMeet 65 = .ok (.iload_n 2, 1) := by decide +kernel
theorem d_S_sidesMeet_66 : decode c_S_sidesMeet 66 = .ok (.invokevirtual 58, 3) := by decide +kernel
theorem d_S_sidesMeet_69 : decode c_S_sidesMeet 69 = .ok (.iaload, 1) := by decide +kernel
theorem d_S_sidesMeet_70 : decode c_S_sidesMeet 70 = .ok (.invokestatic 74, 3) := by decide +kernel
theorem d_S_sidesMeet_73 : decode c_S_sidesMeet 73 = .ok (.ifCond .eq 25, 3) := by decide +kernel
theorem d_S_sidesMeet_76 : decode c_S_sidesMeet 76 = .ok (.aload_n 0, 1) := by decide +kernel
theorem d_S_sidesMeet_77 : decode c_S_sidesMeet 77 = .ok (.iload_n 1, 1) := by decide +kernel
theorem d_S_sidesMeet_78 : decode c_S_sidesMeet 78 = .ok (.iload_n 2, 1) := by decide +kernel
theorem d_S_sidesMeet_79 : decode c_S_sidesMeet 79 = .ok (.invokevirtual 78, 3) := by decide +kernel
theorem d_S_sidesMeet_82 : decode c_S_sidesMeet 82 = .ok (.ifCond .eq 16, 3) := by decide +kernel
theorem d_S_sidesMeet_85 : decode c_S_sidesMeet 85 = .ok (.aload_n 0, 1) := by decide +kernel
theorem d_S_sidesMeet_86 : decode c_S_sidesMeet 86 = .ok (.iload_n 2, 1) := by decide +kernel
theorem d_S_sidesMeet_87 : decode c_S_sidesMeet 87 = .ok (.iload_n 1, 1) := by decide +kernel
theorem d_S_sidesMeet_88 : decode c_S_sidesMeet 88 = .ok (.invokevirtual 78, 3) := by decide +kernel
theorem d_S_sidesMeet_91 : decode c_S_sidesMeet 91 = .ok (.ifCond .eq 7, 3) := by decide +kernel
theorem d_S_sidesMeet_94 : decode c_S_sidesMeet 94 = .ok (.iconst 1, 1) := by decide +kernel
theorem d_S_sidesMeet_95 : decode c_S_sidesMeet 95 = .ok (.goto 4, 3) := by decide +kernel
theorem d_S_sidesMeet_98 : decode c_S_sidesMeet 98 = .ok (.iconst 0, 1) := by decide +kernel
theorem d_S_sidesMeet_99 : decode c_S_sidesMeet 99 = .ok (.ireturn, 1) := by decide +kernel
theorem d_S_lineMeets_0 : decode c_S_lineMeets 0 = .ok (.aload_n 0, 1) := by decide +kernel
theorem d_S_lineMeets_1 : decode c_S_lineMeets 1 = .ok (.iload_n 2, 1) := by decide +kernel
theorem d_S_lineMeets_2 : decode c_S_lineMeets 2 = .ok (.invokevirtual 58, 3) := by decide +kernel
theorem d_S_lineMeets_5 : decode c_S_lineMeets 5 = .ok (.istore_n 3, 1) := by decide +kernel
theorem d_S_lineMeets_6 : decode c_S_lineMeets 6 = .ok (.aload_n 0, 1) := by decide +kernel
theorem d_S_lineMeets_7 : decode c_S_lineMeets 7 = .ok (.iload_n 1, 1) := by decide +kernel
theorem d_S_lineMeets_8 : decode c_S_lineMeets 8 = .ok (.aload_n 0, 1) := by decide +kernel
theorem d_S_lineMeets_9 : decode c_S_lineMeets 9 = .ok (.getfield 9, 3) := by decide +kernel
theorem d_S_lineMeets_12 : decode c_S_lineMeets 12 = .ok (.iload_n 2, 1) := by decide +kernel
theorem d_S_lineMeets_13 : decode c_S_lineMeets 13 = .ok (.iaload, 1) := by decide +kernel
theorem d_S_lineMeets_14 : decode c_S_lineMeets 14 = .ok (.aload_n 0, 1) := by decide +kernel
theorem d_S_lineMeets_15 : decode c_S_lineMeets 15 = .ok (.getfield 15, 3) := by decide +kernel
theorem d_S_lineMeets_18 : decode c_S_lineMeets 18 = .ok (.iload_n 2, 1) := by decide +kernel
theorem d_S_lineMeets_19 : decode c_S_lineMeets 19 = .ok (.iaload, 1) := by decide +kernel
theorem d_S_lineMeets_20 : decode c_S_lineMeets 20 = .ok (.invokevirtual 62, 3) := by decide +kernel
theorem d_S_lineMeets_23 : decode c_S_lineMeets 23 = .ok (.invokestatic 81, 3) := by decide +kernel
theorem d_S_lineMeets_26 : decode c_S_lineMeets 26 = .ok (.istore 4, 2) := by decide +kernel
theorem d_S_lineMeets_28 : decode c_S_lineMeets 28 = .ok (.aload_n 0, 1) := by decide +kernel
theorem d_S_lineMeets_29 : decode c_S_lineMeets 29 = .ok (.iload_n 1, 1) := by decide +kernel
theorem d_S_lineMeets_30 : decode c_S_lineMeets 30 = .ok (.aload_n 0, 1) := by decide +kernel
theorem d_S_lineMeets_31 : decode c_S_lineMeets 31 = .ok (.getfield 9, 3) := by decide +kernel
theorem d_S_lineMeets_34 : decode c_S_lineMeets 34 = .ok (.iload_n 3, 1) := by decide +kernel
theorem d_S_lineMeets_35 : decode c_S_lineMeets 35 = .ok (.iaload, 1) := by decide +kernel
theorem d_S_lineMeets_36 : decode c_S_lineMeets 36 = .ok (.aload_n 0, 1) := by decide +kernel
theorem d_S_lineMeets_37 : decode c_S_lineMeets 37 = .ok (.getfield 15, 3) := by decide +kernel
theorem d_S_lineMeets_40 : decode c_S_lineMeets 40 = .ok (.iload_n 3, 1) := by decide +kernel
theorem d_S_lineMeets_41 : decode c_S_lineMeets 41 = .ok (.iaload, 1) := by decide +kernel
theorem d_S_lineMeets_42 : decode c_S_lineMeets 42 = .ok (.invokevirtual 62, 3) := by decide +kernel
theorem d_S_lineMeets_45 : decode c_S_lineMeets 45 = .ok (.invokestatic 81, 3) := by decide +kernel
theorem d_S_lineMeets_48 : decode c_S_lineMeets 48 = .ok (.istore 5, 2) := by decide +kernel
theorem d_S_lineMeets_50 : decode c_S_lineMeets 50 = .ok (.iload 4, 2) := by decide +kernel
theorem d_S_lineMeets_52 : decode c_S_lineMeets 52 = .ok (.iload 5, 2) := by decide +kernel
theorem d_S_lineMeets_54 : decode c_S_lineMeets 54 = .ok (.imul, 1) := by decide +kernel
theorem d_S_lineMeets_55 : decode c_S_lineMeets 55 = .ok (.ifCond .gt 7, 3) := by decide +kernel
theorem d_S_lineMeets_58 : decode c_S_lineMeets 58 = .ok (.iconst 1, 1) := by decide +kernel
theorem d_S_lineMeets_59 : decode c_S_lineMeets 59 = .ok (.goto 4, 3) := by decide +kernel
theorem d_S_lineMeets_62 : decode c_S_lineMeets 62 = .ok (.iconst 0, 1) := by decide +kernel
theorem d_S_lineMeets_63 : decode c_S_lineMeets 63 = .ok (.ireturn, 1) := by decide +kernel
theorem d_S_rangesMeet_0 : decode c_S_rangesMeet 0 = .ok (.iload_n 0, 1) := by decide +kernel
theorem d_S_rangesMeet_1 : decode c_S_rangesMeet 1 = .ok (.iload_n 1, 1) := by decide +kernel
theorem d_S_rangesMeet_2 : decode c_S_rangesMeet 2 = .ok (.invokestatic 34, 3) := by decide +kernel
theorem d_S_rangesMeet_5 : decode c_S_rangesMeet 5 = .ok (.iload_n 2, 1) := by decide +kernel
theorem d_S_rangesMeet_6 : decode c_S_rangesMeet 6 = .ok (.iload_n 3, 1) := by decide +kernel
theorem d_S_rangesMeet_7 : decode c_S_rangesMeet 7 = .ok (.invokestatic 25, 3) := by decide +kernel
theorem d_S_rangesMeet_10 : decode c_S_rangesMeet 10 = .ok (.if_icmp .lt 20, 3) := by decide +kernel
theorem d_S_rangesMeet_13 : decode c_S_rangesMeet 13 = .ok (.iload_n 2, 1) := by decide +kernel
theorem d_S_rangesMeet_14 : decode c_S_rangesMeet 14 = .ok (.iload_n 3, 1) := by decide +kernel
theorem d_S_rangesMeet_15 : decode c_S_rangesMeet 15 = .ok (.invokestatic 34, 3) := by decide +kernel
theorem d_S_rangesMeet_18 : decode c_S_rangesMeet 18 = .ok (.iload_n 0, 1) := by decide +kernel
theorem d_S_rangesMeet_19 : decode c_S_rangesMeet 19 = .ok (.iload_n 1, 1) := by decide +kernel
theorem d_S_rangesMeet_20 : decode c_S_rangesMeet 20 = .ok (.invokestatic 25, 3) := by decide +kernel
theorem d_S_rangesMeet_23 : decode c_S_rangesMeet 23 = .ok (.if_icmp .lt 7, 3) := by decide +kernel
theorem d_S_rangesMeet_26 : decode c_S_rangesMeet 26 = .ok (.iconst 1, 1) := by decide +kernel
theorem d_S_rangesMeet_27 : decode c_S_rangesMeet 27 = .ok (.goto 4, 3) := by decide +kernel
theorem d_S_rangesMeet_30 : decode c_S_rangesMeet 30 = .ok (.iconst 0, 1) := by decide +kernel
theorem d_S_rangesMeet_31 : decode c_S_rangesMeet 31 = .ok (.ireturn, 1) := by decide +kernel
theorem d_S_boxHolds_0 : decode c_S_boxHolds 0 = .ok (.aload_n 1, 1) := by decide +kernel
theorem d_S_boxHolds_1 : decode c_S_boxHolds 1 = .ok (.getfield 22, 3) := by decide +kernel
theorem d_S_boxHolds_4 : decode c_S_boxHolds 4 = .ok (.iload_n 2, 1) := by decide +kernel
theorem d_S_boxHolds_5 : decode c_S_boxHolds 5 = .ok (.iadd, 1) := by decide +kernel
theorem d_S_boxHolds_6 : decode c_S_boxHolds 6 = .ok (.aload_n 0, 1) := by decide +kernel
theorem d_S_boxHolds_7 : decode c_S_boxHolds 7 = .ok (.getfield 22, 3) := by decide +kernel
theorem d_S_boxHolds_10 : decode c_S_boxHolds 10 = .ok (.if_icmp .lt 46, 3) := by decide +kernel
theorem d_S_boxHolds_13 : decode c_S_boxHolds 13 = .ok (.aload_n 1, 1) := by decide +kernel
theorem d_S_boxHolds_14 : decode c_S_boxHolds 14 = .ok (.getfield 31, 3) := by decide +kernel
theorem d_S_boxHolds_17 : decode c_S_boxHolds 17 = .ok (.iload_n 2, 1) := by decide +kernel
theorem d_S_boxHolds_18 : decode c_S_boxHolds 18 = .ok (.iadd, 1) := by decide +kernel
theorem d_S_boxHolds_19 : decode c_S_boxHolds 19 = .ok (.aload_n 0, 1) := by decide +kernel
theorem d_S_boxHolds_20 : decode c_S_boxHolds 20 = .ok (.getfield 31, 3) := by decide +kernel
theorem d_S_boxHolds_23 : decode c_S_boxHolds 23 = .ok (.if_icmp .gt 33, 3) := by decide +kernel
theorem d_S_boxHolds_26 : decode c_S_boxHolds 26 = .ok (.aload_n 1, 1) := by decide +kernel
theorem d_S_boxHolds_27 : decode c_S_boxHolds 27 = .ok (.getfield 37, 3) := by decide +kernel
theorem d_S_boxHolds_30 : decode c_S_boxHolds 30 = .ok (.iload_n 3, 1) := by decide +kernel
theorem d_S_boxHolds_31 : decode c_S_boxHolds 31 = .ok (.iadd, 1) := by decide +kernel
theorem d_S_boxHolds_32 : decode c_S_boxHolds 32 = .ok (.aload_n 0, 1) := by decide +kernel
theorem d_S_boxHolds_33 : decode c_S_boxHolds 33 = .ok (.getfield 37, 3) := by decide +kernel
theorem d_S_boxHolds_36 : decode c_S_boxHolds 36 = .ok (.if_icmp .lt 20, 3) := by decide +kernel
theorem d_S_boxHolds_39 : decode c_S_boxHolds 39 = .ok (.aload_n 1, 1) := by decide +kernel
theorem d_S_boxHolds_40 : decode c_S_boxHolds 40 = .ok (.getfield 40, 3) := by decide +kernel
theorem d_S_boxHolds_43 : decode c_S_boxHolds 43 = .ok (.iload_n 3, 1) := by decide +kernel
theorem d_S_boxHolds_44 : decode c_S_boxHolds 44 = .ok (.iadd, 1) := by decide +kernel
theorem d_S_boxHolds_45 : decode c_S_boxHolds 45 = .ok (.aload_n 0, 1) := by decide +kernel
theorem d_S_boxHolds_46 : decode c_S_boxHolds 46 = .ok (.getfield 40, 3) := by decide +kernel
theorem d_S_boxHolds_49 : decode c_S_boxHolds 49 = .ok (.if_icmp .gt 7, 3) := by decide +kernel
theorem d_S_boxHolds_52 : decode c_S_boxHolds 52 = .ok (.iconst 1, 1) := by decide +kernel
theorem d_S_boxHolds_53 : decode c_S_boxHolds 53 = .ok (.goto 4, 3) := by decide +kernel
end
section
theorem d_S_boxHolds_56 : decode c_S_boxHolds 56 = .ok (.iconst 0, 1) := by decide +kernel
theorem d_S_boxHolds_57 : decode c_S_boxHolds 57 = .ok (.ireturn, 1) := by decide +kernel
theorem d_S_overlaps_0 : decode c_S_overlaps 0 = .ok (.aload_n 1, 1) := by decide +kernel
theorem d_S_overlaps_1 : decode c_S_overlaps 1 = .ok (.getfield 31, 3) := by decide +kernel
theorem d_S_overlaps_4 : decode c_S_overlaps 4 = .ok (.iload_n 2, 1) := by decide +kernel
theorem d_S_overlaps_5 : decode c_S_overlaps 5 = .ok (.iadd, 1) := by decide +kernel
theorem d_S_overlaps_6 : decode c_S_overlaps 6 = .ok (.aload_n 0, 1) := by decide +kernel
theorem d_S_overlaps_7 : decode c_S_overlaps 7 = .ok (.getfield 22, 3) := by decide +kernel
theorem d_S_overlaps_10 : decode c_S_overlaps 10 = .ok (.if_icmp .le 42, 3) := by decide +kernel
theorem d_S_overlaps_13 : decode c_S_overlaps 13 = .ok (.aload_n 1, 1) := by decide +kernel
theorem d_S_overlaps_14 : decode c_S_overlaps 14 = .ok (.getfield 22, 3) := by decide +kernel
theorem d_S_overlaps_17 : decode c_S_overlaps 17 = .ok (.iload_n 2, 1) := by decide +kernel
theorem d_S_overlaps_18 : decode c_S_overlaps 18 = .ok (.iadd, 1) := by decide +kernel
theorem d_S_overlaps_19 : decode c_S_overlaps 19 = .ok (.aload_n 0, 1) := by decide +kernel
theorem d_S_overlaps_20 : decode c_S_overlaps 20 = .ok (.getfield 31, 3) := by decide +kernel
theorem d_S_overlaps_23 : decode c_S_overlaps 23 = .ok (.if_icmp .ge 29, 3) := by decide +kernel
theorem d_S_overlaps_26 : decode c_S_overlaps 26 = .ok (.aload_n 1, 1) := by decide +kernel
theorem d_S_overlaps_27 : decode c_S_overlaps 27 = .ok (.getfield 40, 3) := by decide +kernel
theorem d_S_overlaps_30 : decode c_S_overlaps 30 = .ok (.iload_n 3, 1) := by decide +kernel
theorem d_S_overlaps_31 : decode c_S_overlaps 31 = .ok (.iadd, 1) := by decide +kernel
theorem d_S_overlaps_32 : decode c_S_overlaps 32 = .ok (.aload_n 0, 1) := by decide +kernel
theorem d_S_overlaps_33 : decode c_S_overlaps 33 = .ok (.getfield 37, 3) := by decide +kernel
theorem d_S_overlaps_36 : decode c_S_overlaps 36 = .ok (.if_icmp .le 16, 3) := by decide +kernel
theorem d_S_overlaps_39 : decode c_S_overlaps 39 = .ok (.aload_n 1, 1) := by decide +kernel
theorem d_S_overlaps_40 : decode c_S_overlaps 40 = .ok (.getfield 37, 3) := by decide +kernel
theorem d_S_overlaps_43 : decode c_S_overlaps 43 = .ok (.iload_n 3, 1) := by decide +kernel
theorem d_S_overlaps_44 : decode c_S_overlaps 44 = .ok (.iadd, 1) := by decide +kernel
theorem d_S_overlaps_45 : decode c_S_overlaps 45 = .ok (.aload_n 0, 1) := by decide +kernel
theorem d_S_overlaps_46 : decode c_S_overlaps 46 = .ok (.getfield 40, 3) := by decide +kernel
theorem d_S_overlaps_49 : decode c_S_overlaps 49 = .ok (.if_icmp .lt 7, 3) := by decide +kernel
theorem d_S_overlaps_52 : decode c_S_overlaps 52 = .ok (.iconst 1, 1) := by decide +kernel
theorem d_S_overlaps_53 : decode c_S_overlaps 53 = .ok (.goto 4, 3) := by decide +kernel
theorem d_S_overlaps_56 : decode c_S_overlaps 56 = .ok (.iconst 0, 1) := by decide +kernel
theorem d_S_overlaps_57 : decode c_S_overlaps 57 = .ok (.istore 4, 2) := by decide +kernel
theorem d_S_overlaps_59 : decode c_S_overlaps 59 = .ok (.iload 4, 2) := by decide +kernel
theorem d_S_overlaps_61 : decode c_S_overlaps 61 = .ok (.ifCond .ne 29, 3) := by decide +kernel
theorem d_S_overlaps_64 : decode c_S_overlaps 64 = .ok (.aload_n 0, 1) := by decide +kernel
theorem d_S_overlaps_65 : decode c_S_overlaps 65 = .ok (.aload_n 1, 1) := by decide +kernel
theorem d_S_overlaps_66 : decode c_S_overlaps 66 = .ok (.iload_n 2, 1) := by decide +kernel
theorem d_S_overlaps_67 : decode c_S_overlaps 67 = .ok (.iload_n 3, 1) := by decide +kernel
theorem d_S_overlaps_68 : decode c_S_overlaps 68 = .ok (.invokevirtual 86, 3) := by decide +kernel
theorem d_S_overlaps_71 : decode c_S_overlaps 71 = .ok (.ifCond .ne 19, 3) := by decide +kernel
theorem d_S_overlaps_74 : decode c_S_overlaps 74 = .ok (.aload_n 1, 1) := by decide +kernel
theorem d_S_overlaps_75 : decode c_S_overlaps 75 = .ok (.aload_n 0, 1) := by decide +kernel
theorem d_S_overlaps_76 : decode c_S_overlaps 76 = .ok (.iload_n 2, 1) := by decide +kernel
theorem d_S_overlaps_77 : decode c_S_overlaps 77 = .ok (.ineg, 1) := by decide +kernel
theorem d_S_overlaps_78 : decode c_S_overlaps 78 = .ok (.iload_n 3, 1) := by decide +kernel
theorem d_S_overlaps_79 : decode c_S_overlaps 79 = .ok (.ineg, 1) := by decide +kernel
theorem d_S_overlaps_80 : decode c_S_overlaps 80 = .ok (.invokevirtual 86, 3) := by decide +kernel
theorem d_S_overlaps_83 : decode c_S_overlaps 83 = .ok (.ifCond .ne 7, 3) := by decide +kernel
theorem d_S_overlaps_86 : decode c_S_overlaps 86 = .ok (.iconst 1, 1) := by decide +kernel
theorem d_S_overlaps_87 : decode c_S_overlaps 87 = .ok (.goto 4, 3) := by decide +kernel
theorem d_S_overlaps_90 : decode c_S_overlaps 90 = .ok (.iconst 0, 1) := by decide +kernel
theorem d_S_overlaps_91 : decode c_S_overlaps 91 = .ok (.ireturn, 1) := by decide +kernel
theorem d_S_sideParts_0 : decode c_S_sideParts 0 = .ok (.iconst 0, 1) := by decide +kernel
theorem d_S_sideParts_1 : decode c_S_sideParts 1 = .ok (.istore 4, 2) := by decide +kernel
theorem d_S_sideParts_3 : decode c_S_sideParts 3 = .ok (.iload 4, 2) := by decide +kernel
theorem d_S_sideParts_5 : decode c_S_sideParts 5 = .ok (.aload_n 0, 1) := by decide +kernel
theorem d_S_sideParts_6 : decode c_S_sideParts 6 = .ok (.getfield 18, 3) := by decide +kernel
theorem d_S_sideParts_9 : decode c_S_sideParts 9 = .ok (.if_icmp .ge 76, 3) := by decide +kernel
theorem d_S_sideParts_12 : decode c_S_sideParts 12 = .ok (.iconst 1, 1) := by decide +kernel
theorem d_S_sideParts_13 : decode c_S_sideParts 13 = .ok (.istore 5, 2) := by decide +kernel
theorem d_S_sideParts_15 : decode c_S_sideParts 15 = .ok (.iconst 0, 1) := by decide +kernel
theorem d_S_sideParts_16 : decode c_S_sideParts 16 = .ok (.istore 6, 2) := by decide +kernel
theorem d_S_sideParts_18 : decode c_S_sideParts 18 = .ok (.iload 6, 2) := by decide +kernel
theorem d_S_sideParts_20 : decode c_S_sideParts 20 = .ok (.aload_n 1, 1) := by decide +kernel
theorem d_S_sideParts_21 : decode c_S_sideParts 21 = .ok (.getfield 18, 3) := by decide +kernel
theorem d_S_sideParts_24 : decode c_S_sideParts 24 = .ok (.if_icmp .ge 48, 3) := by decide +kernel
theorem d_S_sideParts_27 : decode c_S_sideParts 27 = .ok (.iload 5, 2) := by decide +kernel
theorem d_S_sideParts_29 : decode c_S_sideParts 29 = .ok (.ifCond .eq 43, 3) := by decide +kernel
theorem d_S_sideParts_32 : decode c_S_sideParts 32 = .ok (.aload_n 0, 1) := by decide +kernel
theorem d_S_sideParts_33 : decode c_S_sideParts 33 = .ok (.iload 4, 2) := by decide +kernel
theorem d_S_sideParts_35 : decode c_S_sideParts 35 = .ok (.aload_n 1, 1) := by decide +kernel
theorem d_S_sideParts_36 : decode c_S_sideParts 36 = .ok (.getfield 9, 3) := by decide +kernel
theorem d_S_sideParts_39 : decode c_S_sideParts 39 = .ok (.iload 6, 2) := by decide +kernel
theorem d_S_sideParts_41 : decode c_S_sideParts 41 = .ok (.iaload, 1) := by decide +kernel
theorem d_S_sideParts_42 : decode c_S_sideParts 42 = .ok (.iload_n 2, 1) := by decide +kernel
theorem d_S_sideParts_43 : decode c_S_sideParts 43 = .ok (.iadd, 1) := by decide +kernel
theorem d_S_sideParts_44 : decode c_S_sideParts 44 = .ok (.aload_n 1, 1) := by decide +kernel
theorem d_S_sideParts_45 : decode c_S_sideParts 45 = .ok (.getfield 15, 3) := by decide +kernel
theorem d_S_sideParts_48 : decode c_S_sideParts 48 = .ok (.iload 6, 2) := by decide +kernel
theorem d_S_sideParts_50 : decode c_S_sideParts 50 = .ok (.iaload, 1) := by decide +kernel
theorem d_S_sideParts_51 : decode c_S_sideParts 51 = .ok (.iload_n 3, 1) := by decide +kernel
theorem d_S_sideParts_52 : decode c_S_sideParts 52 = .ok (.iadd, 1) := by decide +kernel
theorem d_S_sideParts_53 : decode c_S_sideParts 53 = .ok (.invokevirtual 62, 3) := by decide +kernel
theorem d_S_sideParts_56 : decode c_S_sideParts 56 = .ok (.ifCond .gt 7, 3) := by decide +kernel
theorem d_S_sideParts_59 : decode c_S_sideParts 59 = .ok (.iconst 1, 1) := by decide +kernel
theorem d_S_sideParts_60 : decode c_S_sideParts 60 = .ok (.goto 4, 3) := by decide +kernel
theorem d_S_sideParts_63 : decode c_S_sideParts 63 = .ok (.iconst 0, 1) := by decide +kernel
theorem d_S_sideParts_64 : decode c_S_sideParts 64 = .ok (.istore 5, 2) := by decide +kernel
theorem d_S_sideParts_66 : decode c_S_sideParts 66 = .ok (.iinc 6 1, 3) := by decide +kernel
theorem d_S_sideParts_69 : decode c_S_sideParts 69 = .ok (.goto (-51), 3) := by decide +kernel
theorem d_S_sideParts_72 : decode c_S_sideParts 72 = .ok (.iload 5, 2) := by decide +kernel
theorem d_S_sideParts_74 : decode c_S_sideParts 74 = .ok (.ifCond .eq 5, 3) := by decide +kernel
theorem d_S_sideParts_77 : decode c_S_sideParts 77 = .ok (.iconst 1, 1) := by decide +kernel
theorem d_S_sideParts_78 : decode c_S_sideParts 78 = .ok (.ireturn, 1) := by decide +kernel
theorem d_S_sideParts_79 : decode c_S_sideParts 79 = .ok (.iinc 4 1, 3) := by decide +kernel
theorem d_S_sideParts_82 : decode c_S_sideParts 82 = .ok (.goto (-79), 3) := by decide +kernel
theorem d_S_sideParts_85 : decode c_S_sideParts 85 = .ok (.iconst 0, 1) := by decide +kernel
theorem d_S_sideParts_86 : decode c_S_sideParts 86 = .ok (.ireturn, 1) := by decide +kernel
theorem d_S_holds_0 : decode c_S_holds 0 = .ok (.iconst 0, 1) := by decide +kernel
theorem d_S_holds_1 : decode c_S_holds 1 = .ok (.istore 4, 2) := by decide +kernel
theorem d_S_holds_3 : decode c_S_holds 3 = .ok (.iload 4, 2) := by decide +kernel
theorem d_S_holds_5 : decode c_S_holds 5 = .ok (.aload_n 0, 1) := by decide +kernel
theorem d_S_holds_6 : decode c_S_holds 6 = .ok (.getfield 18, 3) := by decide +kernel
theorem d_S_holds_9 : decode c_S_holds 9 = .ok (.if_icmp .ge 23, 3) := by decide +kernel
theorem d_S_holds_12 : decode c_S_holds 12 = .ok (.aload_n 0, 1) := by decide +kernel
theorem d_S_holds_13 : decode c_S_holds 13 = .ok (.iload 4, 2) := by decide +kernel
theorem d_S_holds_15 : decode c_S_holds 15 = .ok (.aload_n 1, 1) := by decide +kernel
theorem d_S_holds_16 : decode c_S_holds 16 = .ok (.iload_n 2, 1) := by decide +kernel
theorem d_S_holds_17 : decode c_S_holds 17 = .ok (.iload_n 3, 1) := by decide +kernel
theorem d_S_holds_18 : decode c_S_holds 18 = .ok (.invokevirtual 90, 3) := by decide +kernel
theorem d_S_holds_21 : decode c_S_holds 21 = .ok (.ifCond .eq 5, 3) := by decide +kernel
theorem d_S_holds_24 : decode c_S_holds 24 = .ok (.iconst 0, 1) := by decide +kernel
theorem d_S_holds_25 : decode c_S_holds 25 = .ok (.ireturn, 1) := by decide +kernel
theorem d_S_holds_26 : decode c_S_holds 26 = .ok (.iinc 4 1, 3) := by decide +kernel
theorem d_S_holds_29 : decode c_S_holds 29 = .ok (.goto (-26), 3) := by decide +kernel
theorem d_S_holds_32 : decode c_S_holds 32 = .ok (.aload_n 1, 1) := by decide +kernel
theorem d_S_holds_33 : decode c_S_holds 33 = .ok (.getfield 9, 3) := by decide +kernel
theorem d_S_holds_36 : decode c_S_holds 36 = .ok (.iconst 0, 1) := by decide +kernel
theorem d_S_holds_37 : decode c_S_holds 37 = .ok (.iaload, 1) := by decide +kernel
theorem d_S_holds_38 : decode c_S_holds 38 = .ok (.aload_n 1, 1) := by decide +kernel
theorem d_S_holds_39 : decode c_S_holds 39 = .ok (.getfield 9, 3) := by decide +kernel
theorem d_S_holds_42 : decode c_S_holds 42 = .ok (.iconst 1, 1) := by decide +kernel
theorem d_S_holds_43 : decode c_S_holds 43 = .ok (.iaload, 1) := by decide +kernel
theorem d_S_holds_44 : decode c_S_holds 44 = .ok (.iadd, 1) := by decide +kernel
theorem d_S_holds_45 : decode c_S_holds 45 = .ok (.aload_n 1, 1) := by decide +kernel
theorem d_S_holds_46 : decode c_S_holds 46 = .ok (.getfield 9, 3) := by decide +kernel
theorem d_S_holds_49 : decode c_S_holds 49 = .ok (.iconst 2, 1) := by decide +kernel
theorem d_S_holds_50 : decode c_S_holds 50 = .ok (.iaload, 1) := by decide +kernel
theorem d_S_holds_51 : decode c_S_holds 51 = .ok (.iadd, 1) := by decide +kernel
theorem d_S_holds_52 : decode c_S_holds 52 = .ok (.istore 4, 2) := by decide +kernel
theorem d_S_holds_54 : decode c_S_holds 54 = .ok (.aload_n 1, 1) := by decide +kernel
theorem d_S_holds_55 : decode c_S_holds 55 = .ok (.getfield 15, 3) := by decide +kernel
theorem d_S_holds_58 : decode c_S_holds 58 = .ok (.iconst 0, 1) := by decide +kernel
theorem d_S_holds_59 : decode c_S_holds 59 = .ok (.iaload, 1) := by decide +kernel
theorem d_S_holds_60 : decode c_S_holds 60 = .ok (.aload_n 1, 1) := by decide +kernel
theorem d_S_holds_61 : decode c_S_holds 61 = .ok (.getfield 15, 3) := by decide +kernel
theorem d_S_holds_64 : decode c_S_holds 64 = .ok (.iconst 1, 1) := by decide +kernel
theorem d_S_holds_65 : decode c_S_holds 65 = .ok (.iaload, 1) := by decide +kernel
theorem d_S_holds_66 : decode c_S_holds 66 = .ok (.iadd, 1) := by decide +kernel
theorem d_S_holds_67 : decode c_S_holds 67 = .ok (.aload_n 1, 1) := by decide +kernel
theorem d_S_holds_68 : decode c_S_holds 68 = .ok (.getfield 15, 3) := by decide +kernel
theorem d_S_holds_71 : decode c_S_holds 71 = .ok (.iconst 2, 1) := by decide +kernel
theorem d_S_holds_72 : decode c_S_holds 72 = .ok (.iaload, 1) := by decide +kernel
theorem d_S_holds_73 : decode c_S_holds 73 = .ok (.iadd, 1) := by decide +kernel
theorem d_S_holds_74 : decode c_S_holds 74 = .ok (.istore 5, 2) := by decide +kernel
theorem d_S_holds_76 : decode c_S_holds 76 = .ok (.aload_n 0, 1) := by decide +kernel
theorem d_S_holds_77 : decode c_S_holds 77 = .ok (.iload 4, 2) := by decide +kernel
theorem d_S_holds_79 : decode c_S_holds 79 = .ok (.iconst 3, 1) := by decide +kernel
theorem d_S_holds_80 : decode c_S_holds 80 = .ok (.iload_n 2, 1) := by decide +kernel
theorem d_S_holds_81 : decode c_S_holds 81 = .ok (.imul, 1) := by decide +kernel
theorem d_S_holds_82 : decode c_S_holds 82 = .ok (.iadd, 1) := by decide +kernel
theorem d_S_holds_83 : decode c_S_holds 83 = .ok (.iload 5, 2) := by decide +kernel
theorem d_S_holds_85 : decode c_S_holds 85 = .ok (.iconst 3, 1) := by decide +kernel
theorem d_S_holds_86 : decode c_S_holds 86 = .ok (.iload_n 3, 1) := by decide +kernel
theorem d_S_holds_87 : decode c_S_holds 87 = .ok (.imul, 1) := by decide +kernel
theorem d_S_holds_88 : decode c_S_holds 88 = .ok (.iadd, 1) := by decide +kernel
theorem d_S_holds_89 : decode c_S_holds 89 = .ok (.invokevirtual 94, 3) := by decide +kernel
theorem d_S_holds_92 : decode c_S_holds 92 = .ok (.ireturn, 1) := by decide +kernel
theorem d_S_sideCuts_0 : decode c_S_sideCuts 0 = .ok (.aload_n 0, 1) := by decide +kernel
theorem d_S_sideCuts_1 : decode c_S_sideCuts 1 = .ok (.iload_n 1, 1) := by decide +kernel
theorem d_S_sideCuts_2 : decode c_S_sideCuts 2 = .ok (.invokevirtual 58, 3) := by decide +kernel
theorem d_S_sideCuts_5 : decode c_S_sideCuts 5 = .ok (.istore 5, 2) := by decide +kernel
theorem d_S_sideCuts_7 : decode c_S_sideCuts 7 = .ok (.aload_n 0, 1) := by decide +kernel
theorem d_S_sideCuts_8 : decode c_S_sideCuts 8 = .ok (.getfield 9, 3) := by decide +kernel
theorem d_S_sideCuts_11 : decode c_S_sideCuts 11 = .ok (.iload_n 1, 1) := by decide +kernel
theorem d_S_sideCuts_12 : decode c_S_sideCuts 12 = .ok (.iaload, 1) := by decide +kernel
theorem d_S_sideCuts_13 : decode c_S_sideCuts 13 = .ok (.iload_n 3, 1) := by decide +kernel
theorem d_S_sideCuts_14 : decode c_S_sideCuts 14 = .ok (.isub, 1) := by decide +kernel
theorem d_S_sideCuts_15 : decode c_S_sideCuts 15 = .ok (.istore 6, 2) := by decide +kernel
theorem d_S_sideCuts_17 : decode c_S_sideCuts 17 = .ok (.aload_n 0, 1) := by decide +kernel
theorem d_S_sideCuts_18 : decode c_S_sideCuts 18 = .ok (.getfield 15, 3) := by decide +kernel
theorem d_S_sideCuts_21 : decode c_S_sideCuts 21 = .ok (.iload_n 1, 1) := by decide +kernel
theorem d_S_sideCuts_22 : decode c_S_sideCuts 22 = .ok (.iaload, 1) := by decide +kernel
theorem d_S_sideCuts_23 : decode c_S_sideCuts 23 = .ok (.iload 4, 2) := by decide +kernel
theorem d_S_sideCuts_25 : decode c_S_sideCuts 25 = .ok (.isub, 1) := by decide +kernel
theorem d_S_sideCuts_26 : decode c_S_sideCuts 26 = .ok (.istore 7, 2) := by decide +kernel
theorem d_S_sideCuts_28 : decode c_S_sideCuts 28 = .ok (.aload_n 0, 1) := by decide +kernel
theorem d_S_sideCuts_29 : decode c_S_sideCuts 29 = .ok (.getfield 9, 3) := by decide +kernel
theorem d_S_sideCuts_32 : decode c_S_sideCuts 32 = .ok (.iload 5, 2) := by decide +kernel
theorem d_S_sideCuts_34 : decode c_S_sideCuts 34 = .ok (.iaload, 1) := by decide +kernel
theorem d_S_sideCuts_35 : decode c_S_sideCuts 35 = .ok (.iload_n 3, 1) := by decide +kernel
theorem d_S_sideCuts_36 : decode c_S_sideCuts 36 = .ok (.isub, 1) := by decide +kernel
theorem d_S_sideCuts_37 : decode c_S_sideCuts 37 = .ok (.istore 8, 2) := by decide +kernel
theorem d_S_sideCuts_39 : decode c_S_sideCuts 39 = .ok (.aload_n 0, 1) := by decide +kernel
theorem d_S_sideCuts_40 : decode c_S_sideCuts 40 = .ok (.getfield 15, 3) := by decide +kernel
theorem d_S_sideCuts_43 : decode c_S_sideCuts 43 = .ok (.iload 5, 2) := by decide +kernel
theorem d_S_sideCuts_45 : decode c_S_sideCuts 45 = .ok (.iaload, 1) := by decide +kernel
theorem d_S_sideCuts_46 : decode c_S_sideCuts 46 = .ok (.iload 4, 2) := by decide +kernel
theorem d_S_sideCuts_48 : decode c_S_sideCuts 48 = .ok (.isub, 1) := by decide +kernel
theorem d_S_sideCuts_49 : decode c_S_sideCuts 49 = .ok (.istore 9, 2) := by decide +kernel
theorem d_S_sideCuts_51 : decode c_S_sideCuts 51 = .ok (.iload 6, 2) := by decide +kernel
theorem d_S_sideCuts_53 : decode c_S_sideCuts 53 = .ok (.iload 8, 2) := by decide +kernel
theorem d_S_sideCuts_55 : decode c_S_sideCuts 55 = .ok (.invokestatic 34, 3) := by decide +kernel
theorem d_S_sideCuts_58 : decode c_S_sideCuts 58 = .ok (.aload_n 2, 1) := by decide +kernel
theorem d_S_sideCuts_59 : decode c_S_sideCuts 59 = .ok (.getfield 22, 3) := by decide +kernel
theorem d_S_sideCuts_62 : decode c_S_sideCuts 62 = .ok (.if_icmp .le 45, 3) := by decide +kernel
theorem d_S_sideCuts_65 : decode c_S_sideCuts 65 = .ok (.iload 6, 2) := by decide +kernel
theorem d_S_sideCuts_67 : decode c_S_sideCuts 67 = .ok (.iload 8, 2) := by decide +kernel
theorem d_S_sideCuts_69 : decode c_S_sideCuts 69 = .ok (.invokestatic 25, 3) := by decide +kernel
theorem d_S_sideCuts_72 : decode c_S_sideCuts 72 = .ok (.aload_n 2, 1) := by decide +kernel
theorem d_S_sideCuts_73 : decode c_S_sideCuts 73 = .ok (.getfield 31, 3) := by decide +kernel
theorem d_S_sideCuts_76 : decode c_S_sideCuts 76 = .ok (.if_icmp .ge 31, 3) := by decide +kernel
theorem d_S_sideCuts_79 : decode c_S_sideCuts 79 = .ok (.iload 7, 2) := by decide +kernel
theorem d_S_sideCuts_81 : decode c_S_sideCuts 81 = .ok (.iload 9, 2) := by decide +kernel
theorem d_S_sideCuts_83 : decode c_S_sideCuts 83 = .ok (.invokestatic 34, 3) := by decide +kernel
theorem d_S_sideCuts_86 : decode c_S_sideCuts 86 = .ok (.aload_n 2, 1) := by decide +kernel
theorem d_S_sideCuts_87 : decode c_S_sideCuts 87 = .ok (.getfield 37, 3) := by decide +kernel
theorem d_S_sideCuts_90 : decode c_S_sideCuts 90 = .ok (.if_icmp .le 17, 3) := by decide +kernel
theorem d_S_sideCuts_93 : decode c_S_sideCuts 93 = .ok (.iload 7, 2) := by decide +kernel
theorem d_S_sideCuts_95 : decode c_S_sideCuts 95 = .ok (.iload 9, 2) := by decide +kernel
theorem d_S_sideCuts_97 : decode c_S_sideCuts 97 = .ok (.invokestatic 25, 3) := by decide +kernel
theorem d_S_sideCuts_100 : decode c_S_sideCuts 100 = .ok (.aload_n 2, 1) := by decide +kernel
theorem d_S_sideCuts_101 : decode c_S_sideCuts 101 = .ok (.getfield 40, 3) := by decide +kernel
theorem d_S_sideCuts_104 : decode c_S_sideCuts 104 = .ok (.if_icmp .lt 7, 3) := by decide +kernel
theorem d_S_sideCuts_107 : decode c_S_sideCuts 107 = .ok (.iconst 1, 1) := by decide +kernel
theorem d_S_sideCuts_108 : decode c_S_sideCuts 108 = .ok (.goto 4, 3) := by decide +kernel
theorem d_S_sideCuts_111 : decode c_S_sideCuts 111 = .ok (.iconst 0, 1) := by decide +kernel
theorem d_S_sideCuts_112 : decode c_S_sideCuts 112 = .ok (.istore 10, 2) := by decide +kernel
theorem d_S_sideCuts_114 : decode c_S_sideCuts 114 = .ok (.iload 10, 2) := by decide +kernel
theorem d_S_sideCuts_116 : decode c_S_sideCuts 116 = .ok (.ifCond .ne 34, 3) := by decide +kernel
theorem d_S_sideCuts_119 : decode c_S_sideCuts 119 = .ok (.aload_n 0, 1) := by decide +kernel
theorem d_S_sideCuts_120 : decode c_S_sideCuts 120 = .ok (.iload_n 1, 1) := by decide +kernel
theorem d_S_sideCuts_121 : decode c_S_sideCuts 121 = .ok (.aload_n 2, 1) := by decide +kernel
theorem d_S_sideCuts_122 : decode c_S_sideCuts 122 = .ok (.iload_n 3, 1) := by decide +kernel
theorem d_S_sideCuts_123 : decode c_S_sideCuts 123 = .ok (.iload 4, 2) := by decide +kernel
theorem d_S_sideCuts_125 : decode c_S_sideCuts 125 = .ok (.invokevirtual 97, 3) := by decide +kernel
theorem d_S_sideCuts_128 : decode c_S_sideCuts 128 = .ok (.ifCond .eq 22, 3) := by decide +kernel
theorem d_S_sideCuts_131 : decode c_S_sideCuts 131 = .ok (.aload_n 2, 1) := by decide +kernel
theorem d_S_sideCuts_132 : decode c_S_sideCuts 132 = .ok (.iload 6, 2) := by decide +kernel
theorem d_S_sideCuts_134 : decode c_S_sideCuts 134 = .ok (.iload 7, 2) := by decide +kernel
theorem d_S_sideCuts_136 : decode c_S_sideCuts 136 = .ok (.iload 8, 2) := by decide +kernel
theorem d_S_sideCuts_138 : decode c_S_sideCuts 138 = .ok (.iload 9, 2) := by decide +kernel
theorem d_S_sideCuts_140 : decode c_S_sideCuts 140 = .ok (.invokevirtual 100, 3) := by decide +kernel
theorem d_S_sideCuts_143 : decode c_S_sideCuts 143 = .ok (.ifCond .ne 7, 3) := by decide +kernel
theorem d_S_sideCuts_146 : decode c_S_sideCuts 146 = .ok (.iconst 1, 1) := by decide +kernel
theorem d_S_sideCuts_147 : decode c_S_sideCuts 147 = .ok (.goto 4, 3) := by decide +kernel
theorem d_S_sideCuts_150 : decode c_S_sideCuts 150 = .ok (.iconst 0, 1) := by decide +kernel
theorem d_S_sideCuts_151 : decode c_S_sideCuts 151 = .ok (.ireturn, 1) := by decide +kernel
theorem d_S_lineCuts_0 : decode c_S_lineCuts 0 = .ok (.iconst 0, 1) := by decide +kernel
theorem d_S_lineCuts_1 : decode c_S_lineCuts 1 = .ok (.istore 5, 2) := by decide +kernel
theorem d_S_lineCuts_3 : decode c_S_lineCuts 3 = .ok (.iconst 0, 1) := by decide +kernel
theorem d_S_lineCuts_4 : decode c_S_lineCuts 4 = .ok (.istore 6, 2) := by decide +kernel
theorem d_S_lineCuts_6 : decode c_S_lineCuts 6 = .ok (.iconst 0, 1) := by decide +kernel
theorem d_S_lineCuts_7 : decode c_S_lineCuts 7 = .ok (.istore 7, 2) := by decide +kernel
theorem d_S_lineCuts_9 : decode c_S_lineCuts 9 = .ok (.iload 7, 2) := by decide +kernel
theorem d_S_lineCuts_11 : decode c_S_lineCuts 11 = .ok (.aload_n 2, 1) := by decide +kernel
theorem d_S_lineCuts_12 : decode c_S_lineCuts 12 = .ok (.getfield 18, 3) := by decide +kernel
theorem d_S_lineCuts_15 : decode c_S_lineCuts 15 = .ok (.if_icmp .ge 69, 3) := by decide +kernel
theorem d_S_lineCuts_18 : decode c_S_lineCuts 18 = .ok (.aload_n 0, 1) := by decide +kernel
theorem d_S_lineCuts_19 : decode c_S_lineCuts 19 = .ok (.iload_n 1, 1) := by decide +kernel
theorem d_S_lineCuts_20 : decode c_S_lineCuts 20 = .ok (.aload_n 2, 1) := by decide +kernel
theorem d_S_lineCuts_21 : decode c_S_lineCuts 21 = .ok (.getfield 9, 3) := by decide +kernel
theorem d_S_lineCuts_24 : decode c_S_lineCuts 24 = .ok (.iload 7, 2) := by decide +kernel
theorem d_S_lineCuts_26 : decode c_S_lineCuts 26 = .ok (.iaload, 1) := by decide +kernel
theorem d_S_lineCuts_27 : decode c_S_lineCuts 27 = .ok (.iload_n 3, 1) := by decide +kernel
theorem d_S_lineCuts_28 : decode c_S_lineCuts 28 = .ok (.iadd, 1) := by decide +kernel
theorem d_S_lineCuts_29 : decode c_S_lineCuts 29 = .ok (.aload_n 2, 1) := by decide +kernel
theorem d_S_lineCuts_30 : decode c_S_lineCuts 30 = .ok (.getfield 15, 3) := by decide +kernel
theorem d_S_lineCuts_33 : decode c_S_lineCuts 33 = .ok (.iload 7, 2) := by decide +kernel
theorem d_S_lineCuts_35 : decode c_S_lineCuts 35 = .ok (.iaload, 1) := by decide +kernel
theorem d_S_lineCuts_36 : decode c_S_lineCuts 36 = .ok (.iload 4, 2) := by decide +kernel
theorem d_S_lineCuts_38 : decode c_S_lineCuts 38 = .ok (.iadd, 1) := by decide +kernel
theorem d_S_lineCuts_39 : decode c_S_lineCuts 39 = .ok (.invokevirtual 62, 3) := by decide +kernel
theorem d_S_lineCuts_42 : decode c_S_lineCuts 42 = .ok (.istore 8, 2) := by decide +kernel
theorem d_S_lineCuts_44 : decode c_S_lineCuts 44 = .ok (.iload 5, 2) := by decide +kernel
theorem d_S_lineCuts_46 : decode c_S_lineCuts 46 = .ok (.ifCond .ne 8, 3) := by decide +kernel
theorem d_S_lineCuts_49 : decode c_S_lineCuts 49 = .ok (.iload 8, 2) := by decide +kernel
theorem d_S_lineCuts_51 : decode c_S_lineCuts 51 = .ok (.ifCond .le 7, 3) := by decide +kernel
theorem d_S_lineCuts_54 : decode c_S_lineCuts 54 = .ok (.iconst 1, 1) := by decide +kernel
theorem d_S_lineCuts_55 : decode c_S_lineCuts 55 = .ok (.goto 4, 3) := by decide +kernel
theorem d_S_lineCuts_58 : decode c_S_lineCuts 58 = .ok (.iconst 0, 1) := by decide +kernel
theorem d_S_lineCuts_59 : decode c_S_lineCuts 59 = .ok (.istore 5, 2) := by decide +kernel
theorem d_S_lineCuts_61 : decode c_S_lineCuts 61 = .ok (.iload 6, 2) := by decide +kernel
theorem d_S_lineCuts_63 : decode c_S_lineCuts 63 = .ok (.ifCond .ne 8, 3) := by decide +kernel
theorem d_S_lineCuts_66 : decode c_S_lineCuts 66 = .ok (.iload 8, 2) := by decide +kernel
theorem d_S_lineCuts_68 : decode c_S_lineCuts 68 = .ok (.ifCond .ge 7, 3) := by decide +kernel
theorem d_S_lineCuts_71 : decode c_S_lineCuts 71 = .ok (.iconst 1, 1) := by decide +kernel
theorem d_S_lineCuts_72 : decode c_S_lineCuts 72 = .ok (.goto 4, 3) := by decide +kernel
theorem d_S_lineCuts_75 : decode c_S_lineCuts 75 = .ok (.iconst 0, 1) := by decide +kernel
theorem d_S_lineCuts_76 : decode c_S_lineCuts 76 = .ok (.istore 6, 2) := by decide +kernel
theorem d_S_lineCuts_78 : decode c_S_lineCuts 78 = .ok (.iinc 7 1, 3) := by decide +kernel
theorem d_S_lineCuts_81 : decode c_S_lineCuts 81 = .ok (.goto (-72), 3) := by decide +kernel
theorem d_S_lineCuts_84 : decode c_S_lineCuts 84 = .ok (.iload 5, 2) := by decide +kernel
theorem d_S_lineCuts_86 : decode c_S_lineCuts 86 = .ok (.ifCond .eq 12, 3) := by decide +kernel
theorem d_S_lineCuts_89 : decode c_S_lineCuts 89 = .ok (.iload 6, 2) := by decide +kernel
theorem d_S_lineCuts_91 : decode c_S_lineCuts 91 = .ok (.ifCond .eq 7, 3) := by decide +kernel
theorem d_S_lineCuts_94 : decode c_S_lineCuts 94 = .ok (.iconst 1, 1) := by decide +kernel
theorem d_S_lineCuts_95 : decode c_S_lineCuts 95 = .ok (.goto 4, 3) := by decide +kernel
theorem d_S_lineCuts_98 : decode c_S_lineCuts 98 = .ok (.iconst 0, 1) := by decide +kernel
theorem d_S_lineCuts_99 : decode c_S_lineCuts 99 = .ok (.ireturn, 1) := by decide +kernel
theorem d_S_isBeyond_0 : decode c_S_isBeyond 0 = .ok (.iconst 0, 1) := by decide +kernel
theorem d_S_isBeyond_1 : decode c_S_isBeyond 1 = .ok (.istore 5, 2) := by decide +kernel
theorem d_S_isBeyond_3 : decode c_S_isBeyond 3 = .ok (.iload 5, 2) := by decide +kernel
theorem d_S_isBeyond_5 : decode c_S_isBeyond 5 = .ok (.aload_n 0, 1) := by decide +kernel
theorem d_S_isBeyond_6 : decode c_S_isBeyond 6 = .ok (.getfield 18, 3) := by decide +kernel
theorem d_S_isBeyond_9 : decode c_S_isBeyond 9 = .ok (.if_icmp .ge 34, 3) := by decide +kernel
theorem d_S_isBeyond_12 : decode c_S_isBeyond 12 = .ok (.aload_n 0, 1) := by decide +kernel
theorem d_S_isBeyond_13 : decode c_S_isBeyond 13 = .ok (.iload 5, 2) := by decide +kernel
theorem d_S_isBeyond_15 : decode c_S_isBeyond 15 = .ok (.iload_n 1, 1) := by decide +kernel
theorem d_S_isBeyond_16 : decode c_S_isBeyond 16 = .ok (.iload_n 2, 1) := by decide +kernel
theorem d_S_isBeyond_17 : decode c_S_isBeyond 17 = .ok (.invokevirtual 62, 3) := by decide +kernel
theorem d_S_isBeyond_20 : decode c_S_isBeyond 20 = .ok (.ifCond .gt 17, 3) := by decide +kernel
theorem d_S_isBeyond_23 : decode c_S_isBeyond 23 = .ok (.aload_n 0, 1) := by decide +kernel
theorem d_S_isBeyond_24 : decode c_S_isBeyond 24 = .ok (.iload 5, 2) := by decide +kernel
theorem d_S_isBeyond_26 : decode c_S_isBeyond 26 = .ok (.iload_n 3, 1) := by decide +kernel
theorem d_S_isBeyond_27 : decode c_S_isBeyond 27 = .ok (.iload 4, 2) := by decide +kernel
theorem d_S_isBeyond_29 : decode c_S_isBeyond 29 = .ok (.invokevirtual 62, 3) := by decide +kernel
theorem d_S_isBeyond_32 : decode c_S_isBeyond 32 = .ok (.ifCond .gt 5, 3) := by decide +kernel
theorem d_S_isBeyond_35 : decode c_S_isBeyond 35 = .ok (.iconst 1, 1) := by decide +kernel
theorem d_S_isBeyond_36 : decode c_S_isBeyond 36 = .ok (.ireturn, 1) := by decide +kernel
theorem d_S_isBeyond_37 : decode c_S_isBeyond 37 = .ok (.iinc 5 1, 3) := by decide +kernel
theorem d_S_isBeyond_40 : decode c_S_isBeyond 40 = .ok (.goto (-37), 3) := by decide +kernel
theorem d_S_isBeyond_43 : decode c_S_isBeyond 43 = .ok (.iconst 0, 1) := by decide +kernel
theorem d_S_isBeyond_44 : decode c_S_isBeyond 44 = .ok (.ireturn, 1) := by decide +kernel
theorem d_S_surrounds_0 : decode c_S_surrounds 0 = .ok (.iconst 0, 1) := by decide +kernel
theorem d_S_surrounds_1 : decode c_S_surrounds 1 = .ok (.istore_n 3, 1) := by decide +kernel
theorem d_S_surrounds_2 : decode c_S_surrounds 2 = .ok (.iconst 0, 1) := by decide +kernel
theorem d_S_surrounds_3 : decode c_S_surrounds 3 = .ok (.istore 4, 2) := by decide +kernel
theorem d_S_surrounds_5 : decode c_S_surrounds 5 = .ok (.iload 4, 2) := by decide +kernel
theorem d_S_surrounds_7 : decode c_S_surrounds 7 = .ok (.aload_n 0, 1) := by decide +kernel
theorem d_S_surrounds_8 : decode c_S_surrounds 8 = .ok (.getfield 18, 3) := by decide +kernel
theorem d_S_surrounds_11 : decode c_S_surrounds 11 = .ok (.if_icmp .ge 149, 3) := by decide +kernel
theorem d_S_surrounds_14 : decode c_S_surrounds 14 = .ok (.aload_n 0, 1) := by decide +kernel
theorem d_S_surrounds_15 : decode c_S_surrounds 15 = .ok (.iload 4, 2) := by decide +kernel
theorem d_S_surrounds_17 : decode c_S_surrounds 17 = .ok (.invokevirtual 58, 3) := by decide +kernel
theorem d_S_surrounds_20 : decode c_S_surrounds 20 = .ok (.istore 5, 2) := by decide +kernel
theorem d_S_surrounds_22 : decode c_S_surrounds 22 = .ok (.iconst 3, 1) := by decide +kernel
theorem d_S_surrounds_23 : decode c_S_surrounds 23 = .ok (.aload_n 0, 1) := by decide +kernel
theorem d_S_surrounds_24 : decode c_S_surrounds 24 = .ok (.getfield 15, 3) := by decide +kernel
theorem d_S_surrounds_27 : decode c_S_surrounds 27 = .ok (.iload 4, 2) := by decide +kernel
theorem d_S_surrounds_29 : decode c_S_surrounds 29 = .ok (.iaload, 1) := by decide +kernel
theorem d_S_surrounds_30 : decode c_S_surrounds 30 = .ok (.imul, 1) := by decide +kernel
theorem d_S_surrounds_31 : decode c_S_surrounds 31 = .ok (.iload_n 2, 1) := by decide +kernel
theorem d_S_surrounds_32 : decode c_S_surrounds 32 = .ok (.if_icmp .le 7, 3) := by decide +kernel
theorem d_S_surrounds_35 : decode c_S_surrounds 35 = .ok (.iconst 1, 1) := by decide +kernel
theorem d_S_surrounds_36 : decode c_S_surrounds 36 = .ok (.goto 4, 3) := by decide +kernel
theorem d_S_surrounds_39 : decode c_S_surrounds 39 = .ok (.iconst 0, 1) := by decide +kernel
theorem d_S_surrounds_40 : decode c_S_surrounds 40 = .ok (.istore 6, 2) := by decide +kernel
theorem d_S_surrounds_42 : decode c_S_surrounds 42 = .ok (.iconst 3, 1) := by decide +kernel
theorem d_S_surrounds_43 : decode c_S_surrounds 43 = .ok (.aload_n 0, 1) := by decide +kernel
theorem d_S_surrounds_44 : decode c_S_surrounds 44 = .ok (.getfield 15, 3) := by decide +kernel
theorem d_S_surrounds_47 : decode c_S_surrounds 47 = .ok (.iload 5, 2) := by decide +kernel
theorem d_S_surrounds_49 : decode c_S_surrounds 49 = .ok (.iaload, 1) := by decide +kernel
theorem d_S_surrounds_50 : decode c_S_surrounds 50 = .ok (.imul, 1) := by decide +kernel
theorem d_S_surrounds_51 : decode c_S_surrounds 51 = .ok (.iload_n 2, 1) := by decide +kernel
theorem d_S_surrounds_52 : decode c_S_surrounds 52 = .ok (.if_icmp .le 7, 3) := by decide +kernel
theorem d_S_surrounds_55 : decode c_S_surrounds 55 = .ok (.iconst 1, 1) := by decide +kernel
theorem d_S_surrounds_56 : decode c_S_surrounds 56 = .ok (.goto 4, 3) := by decide +kernel
theorem d_S_surrounds_59 : decode c_S_surrounds 59 = .ok (.iconst 0, 1) := by decide +kernel
theorem d_S_surrounds_60 : decode c_S_surrounds 60 = .ok (.istore 7, 2) := by decide +kernel
theorem d_S_surrounds_62 : decode c_S_surrounds 62 = .ok (.aload_n 0, 1) := by decide +kernel
theorem d_S_surrounds_63 : decode c_S_surrounds 63 = .ok (.getfield 9, 3) := by decide +kernel
theorem d_S_surrounds_66 : decode c_S_surrounds 66 = .ok (.iload 5, 2) := by decide +kernel
theorem d_S_surrounds_68 : decode c_S_surrounds 68 = .ok (.iaload, 1) := by decide +kernel
theorem d_S_surrounds_69 : decode c_S_surrounds 69 = .ok (.aload_n 0, 1) := by decide +kernel
theorem d_S_surrounds_70 : decode c_S_surrounds 70 = .ok (.getfield 9, 3) := by decide +kernel
theorem d_S_surrounds_73 : decode c_S_surrounds 73 = .ok (.iload 4, 2) := by decide +kernel
theorem d_S_surrounds_75 : decode c_S_surrounds 75 = .ok (.iaload, 1) := by decide +kernel
theorem d_S_surrounds_76 : decode c_S_surrounds 76 = .ok (.isub, 1) := by decide +kernel
theorem d_S_surrounds_77 : decode c_S_surrounds 77 = .ok (.iload_n 2, 1) := by decide +kernel
theorem d_S_surrounds_78 : decode c_S_surrounds 78 = .ok (.iconst 3, 1) := by decide +kernel
theorem d_S_surrounds_79 : decode c_S_surrounds 79 = .ok (.aload_n 0, 1) := by decide +kernel
theorem d_S_surrounds_80 : decode c_S_surrounds 80 = .ok (.getfield 15, 3) := by decide +kernel
theorem d_S_surrounds_83 : decode c_S_surrounds 83 = .ok (.iload 4, 2) := by decide +kernel
theorem d_S_surrounds_85 : decode c_S_surrounds 85 = .ok (.iaload, 1) := by decide +kernel
theorem d_S_surrounds_86 : decode c_S_surrounds 86 = .ok (.imul, 1) := by decide +kernel
theorem d_S_surrounds_87 : decode c_S_surrounds 87 = .ok (.isub, 1) := by decide +kernel
theorem d_S_surrounds_88 : decode c_S_surrounds 88 = .ok (.imul, 1) := by decide +kernel
theorem d_S_surrounds_89 : decode c_S_surrounds 89 = .ok (.aload_n 0, 1) := by decide +kernel
theorem d_S_surrounds_90 : decode c_S_surrounds 90 = .ok (.getfield 15, 3) := by decide +kernel
theorem d_S_surrounds_93 : decode c_S_surrounds 93 = .ok (.iload 5, 2) := by decide +kernel
theorem d_S_surrounds_95 : decode c_S_surrounds 95 = .ok (.iaload, 1) := by decide +kernel
theorem d_S_surrounds_96 : decode c_S_surrounds 96 = .ok (.aload_n 0, 1) := by decide +kernel
theorem d_S_surrounds_97 : decode c_S_surrounds 97 = .ok (.getfield 15, 3) := by decide +kernel
theorem d_S_surrounds_100 : decode c_S_surrounds 100 = .ok (.iload 4, 2) := by decide +kernel
theorem d_S_surrounds_102 : decode c_S_surrounds 102 = .ok (.iaload, 1) := by decide +kernel
theorem d_S_surrounds_103 : decode c_S_surrounds 103 = .ok (.isub, 1) := by decide +kernel
theorem d_S_surrounds_104 : decode c_S_surrounds 104 = .ok (.iload_n 1, 1) := by decide +kernel
theorem d_S_surrounds_105 : decode c_S_surrounds 105 = .ok (.iconst 3, 1) := by decide +kernel
theorem d_S_surrounds_106 : decode c_S_surrounds 106 = .ok (.aload_n 0, 1) := by decide +kernel
theorem d_S_surrounds_107 : decode c_S_surrounds 107 = .ok (.getfield 9, 3) := by decide +kernel
theorem d_S_surrounds_110 : decode c_S_surrounds 110 = .ok (.iload 4, 2) := by decide +kernel
theorem d_S_surrounds_112 : decode c_S_surrounds 112 = .ok (.iaload, 1) := by decide +kernel
theorem d_S_surrounds_113 : decode c_S_surrounds 113 = .ok (.imul, 1) := by decide +kernel
theorem d_S_surrounds_114 : decode c_S_surrounds 114 = .ok (.isub, 1) := by decide +kernel
theorem d_S_surrounds_115 : decode c_S_surrounds 115 = .ok (.imul, 1) := by decide +kernel
theorem d_S_surrounds_116 : decode c_S_surrounds 116 = .ok (.isub, 1) := by decide +kernel
theorem d_S_surrounds_117 : decode c_S_surrounds 117 = .ok (.istore 8, 2) := by decide +kernel
theorem d_S_surrounds_119 : decode c_S_surrounds 119 = .ok (.iload 6, 2) := by decide +kernel
theorem d_S_surrounds_121 : decode c_S_surrounds 121 = .ok (.iload 7, 2) := by decide +kernel
theorem d_S_surrounds_123 : decode c_S_surrounds 123 = .ok (.if_icmp .eq 31, 3) := by decide +kernel
theorem d_S_surrounds_126 : decode c_S_surrounds 126 = .ok (.iload 7, 2) := by decide +kernel
theorem d_S_surrounds_128 : decode c_S_surrounds 128 = .ok (.ifCond .eq 11, 3) := by decide +kernel
theorem d_S_surrounds_131 : decode c_S_surrounds 131 = .ok (.iload 8, 2) := by decide +kernel
theorem d_S_surrounds_133 : decode c_S_surrounds 133 = .ok (.ifCond .le 21, 3) := by decide +kernel
theorem d_S_surrounds_136 : decode c_S_surrounds 136 = .ok (.goto 8, 3) := by decide +kernel
theorem d_S_surrounds_139 : decode c_S_surrounds 139 = .ok (.iload 8, 2) := by decide +kernel
theorem d_S_surrounds_141 : decode c_S_surrounds 141 = .ok (.ifCond .ge 13, 3) := by decide +kernel
theorem d_S_surrounds_144 : decode c_S_surrounds 144 = .ok (.iload_n 3, 1) := by decide +kernel
theorem d_S_surrounds_145 : decode c_S_surrounds 145 = .ok (.ifCond .ne 7, 3) := by decide +kernel
theorem d_S_surrounds_148 : decode c_S_surrounds 148 = .ok (.iconst 1, 1) := by decide +kernel
theorem d_S_surrounds_149 : decode c_S_surrounds 149 = .ok (.goto 4, 3) := by decide +kernel
theorem d_S_surrounds_152 : decode c_S_surrounds 152 = .ok (.iconst 0, 1) := by decide +kernel
theorem d_S_surrounds_153 : decode c_S_surrounds 153 = .ok (.istore_n 3, 1) := by decide +kernel
theorem d_S_surrounds_154 : decode c_S_surrounds 154 = .ok (.iinc 4 1, 3) := by decide +kernel
theorem d_S_surrounds_157 : decode c_S_surrounds 157 = .ok (.goto (-152), 3) := by decide +kernel
theorem d_S_surrounds_160 : decode c_S_surrounds 160 = .ok (.iload_n 3, 1) := by decide +kernel
theorem d_S_surrounds_161 : decode c_S_surrounds 161 = .ok (.ireturn, 1) := by decide +kernel
end
section
-- SHAPE: queries
set_option maxRecDepth 100000 in
set_option maxHeartbeats 4000000 in
/-- the corner behind i -/
theorem m_S_next (l : Launch) (D : va_G) (G : Nat → ClassId) {L : List Nat} {f : Nat → va_E} {a ax ay n : Nat} {X Y : Int → Int} {lx hx ly hy : Int} (hS : zS G L f a ax ay n X Y lx hx ly hy) (hn : n ≤ 12) (i : Nat) (hi : i < 100) : zM l D G y_S_next (.code y_S_next c_S_next 2 (some .int) :: BG) (zR0 0 0) [.ref a, .int (zI (i : Int))] L f (zA L f (fun r => r = ((ge_nx n i : Nat) : Int))) := by
  refine zM.of (by decide) (Nat.le_of_ble_eq_true rfl) rfl (fun p e s m args below meth c A Xc hr hnm => ?_)
  refine k_iload_n Xc d_S_next_0 rfl rfl (n := 1) rfl ?_
  refine k_iconst Xc d_S_next_1 (n := 2) rfl ?_
  refine k_iadd Xc d_S_next_2 (n := 3) rfl ?_
  refine k_aload_n Xc d_S_next_3 rfl rfl (n := 4) rfl ?_
  refine k_get Xc u_S rfl 2 (by decide) wd_32 rfl d_S_next_4 (n := 7) rfl hS.1 hS.2.2.2.1 rfl ?_
  refine k_icmp_ge Xc d_S_next_7 (t := 16) (n := 10) rfl rfl (by omega) (by omega) (fun h_7 => ?_) (fun h_7 => ?_)
  · refine k_iconst Xc d_S_next_16 (n := 17) rfl ?_
    refine k_iret Xc d_S_next_17 hr rfl (Nat.le_refl _) (Nat.le_refl _) ⟨_, rfl, ?_, rfl, rfl⟩
    unfold ge_nx
    split <;> omega
  · refine k_iload_n Xc d_S_next_10 rfl rfl (n := 11) rfl ?_
    refine k_iconst Xc d_S_next_11 (n := 12) rfl ?_
    refine k_iadd Xc d_S_next_12 (n := 13) rfl ?_
    refine k_goto Xc d_S_next_13 (t := 17) rfl ?_
    refine k_iret Xc d_S_next_17 hr rfl (Nat.le_refl _) (Nat.le_refl _) ⟨_, rfl, ?_, rfl, rfl⟩
    unfold ge_nx
    split <;> omega
set_option maxRecDepth 100000 in
set_option maxHeartbeats 4000000 in
/-- on which side of a side a point is -/
theorem m_S_beside (l : Launch) (D : va_G) (G : Nat → ClassId) {L : List Nat} {f : Nat → va_E} {a ax ay n : Nat} {X Y : Int → Int} {lx hx ly hy : Int} (hS : zS G L f a ax ay n X Y lx hx ly hy) (hB : sB n X Y) (i : Nat) (hi : i < n) (px py : Int) (h1 : -200 ≤ px) (h2 : px ≤ 200) (h3 : -200 ≤ py) (h4 : py ≤ 200) : zM l D G y_S_beside (.code y_S_beside c_S_beside 5 (some .int) :: BG) (zR0 0 0) [.ref a, .int (zI (i : Int)), .int (zI px), .int (zI py)] L f (zA L f (fun r => r = ge_bs (sP X Y) n i (px, py))) := by
  refine zM.of (by decide) (Nat.le_of_ble_eq_true rfl) rfl (fun p e s m args below meth c A Xc hr hnm => ?_)
  have hn := hB.1
  refine k_iload_n Xc d_S_beside_0 rfl rfl (n := 1) rfl ?_
  refine k_iconst Xc d_S_beside_1 (n := 2) rfl ?_
  refine k_iadd Xc d_S_beside_2 (n := 3) rfl ?_
  refine k_aload_n Xc d_S_beside_3 rfl rfl (n := 4) rfl ?_
  refine k_get Xc u_S rfl 2 (by decide) wd_32 rfl d_S_beside_4 (n := 7) rfl hS.1 hS.2.2.2.1 rfl ?_
  refine k_icmp_ge Xc d_S_beside_7 (t := 16) (n := 10) rfl rfl (by omega) (by omega) (fun h_7 => ?_) (fun h_7 => ?_)
  · refine k_iconst Xc d_S_beside_16 (n := 17) rfl ?_
    refine k_istore Xc d_S_beside_17 (by decide) (n := 19) rfl ?_
    refine k_aload_n Xc d_S_beside_19 rfl rfl (n := 20) rfl ?_
    refine k_get Xc u_S rfl 0 (by decide) wd_30 rfl d_S_beside_20 (n := 23) rfl hS.1 hS.2.2.2.1 rfl ?_
    refine k_iload Xc d_S_beside_23 rfl (n := 25) rfl ?_
    refine k_iald Xc d_S_beside_25 (n := 26) rfl hS.2.1 hS.2.2.2.2.1 (by omega) (by omega) (by decide) ?_
    refine k_aload_n Xc d_S_beside_26 rfl rfl (n := 27) rfl ?_
    refine k_get Xc u_S rfl 0 (by decide) wd_30 rfl d_S_beside_27 (n := 30) rfl hS.1 hS.2.2.2.1 rfl ?_
    refine k_iload_n Xc d_S_beside_30 rfl rfl (n := 31) rfl ?_
    refine k_iald Xc d_S_beside_31 (n := 32) rfl hS.2.1 hS.2.2.2.2.1 (by omega) (by omega) (by decide) ?_
    refine k_isub Xc d_S_beside_32 (n := 33) rfl ?_
    refine k_iload_n Xc d_S_beside_33 rfl rfl (n := 34) rfl ?_
    refine k_aload_n Xc d_S_beside_34 rfl rfl (n := 35) rfl ?_
    refine k_get Xc u_S rfl 1 (by decide) wd_31 rfl d_S_beside_35 (n := 38) rfl hS.1 hS.2.2.2.1 rfl ?_
    refine k_iload_n Xc d_S_beside_38 rfl rfl (n := 39) rfl ?_
    refine k_iald Xc d_S_beside_39 (n := 40) rfl hS.2.2.1 hS.2.2.2.2.2 (by omega) (by omega) (by decide) ?_
    refine k_isub Xc d_S_beside_40 (n := 41) rfl ?_
    refine k_imul Xc d_S_beside_41 (n := 42) rfl ?_
    refine k_aload_n Xc d_S_beside_42 rfl rfl (n := 43) rfl ?_
    refine k_get Xc u_S rfl 1 (by decide) wd_31 rfl d_S_beside_43 (n := 46) rfl hS.1 hS.2.2.2.1 rfl ?_
    refine k_iload Xc d_S_beside_46 rfl (n := 48) rfl ?_
    refine k_iald Xc d_S_beside_48 (n := 49) rfl hS.2.2.1 hS.2.2.2.2.2 (by omega) (by omega) (by decide) ?_
    refine k_aload_n Xc d_S_beside_49 rfl rfl (n := 50) rfl ?_
    refine k_get Xc u_S rfl 1 (by decide) wd_31 rfl d_S_beside_50 (n := 53) rfl hS.1 hS.2.2.2.1 rfl ?_
    refine k_iload_n Xc d_S_beside_53 rfl rfl (n := 54) rfl ?_
    refine k_iald Xc d_S_beside_54 (n := 55) rfl hS.2.2.1 hS.2.2.2.2.2 (by omega) (by omega) (by decide) ?_
    refine k_isub Xc d_S_beside_55 (n := 56) rfl ?_
    refine k_iload_n Xc d_S_beside_56 rfl rfl (n := 57) rfl ?_
    refine k_aload_n Xc d_S_beside_57 rfl rfl (n := 58) rfl ?_
    refine k_get Xc u_S rfl 0 (by decide) wd_30 rfl d_S_beside_58 (n := 61) rfl hS.1 hS.2.2.2.1 rfl ?_
    refine k_iload_n Xc d_S_beside_61 rfl rfl (n := 62) rfl ?_
    refine k_iald Xc d_S_beside_62 (n := 63) rfl hS.2.1 hS.2.2.2.2.1 (by omega) (by omega) (by decide) ?_
    refine k_isub Xc d_S_beside_63 (n := 64) rfl ?_
    refine k_imul Xc d_S_beside_64 (n := 65) rfl ?_
    refine k_isub Xc d_S_beside_65 (n := 66) rfl ?_
    refine k_iret Xc d_S_beside_66 hr rfl (Nat.le_refl _) (Nat.le_refl _) ⟨_, rfl, ?_, rfl, rfl⟩
    unfold ge_bs ge_nx sP
    first | (rw [if_pos (by omega)]; rfl) | (rw [if_neg (by omega)]; rfl)
  · refine k_iload_n Xc d_S_beside_10 rfl rfl (n := 11) rfl ?_
    refine k_iconst Xc d_S_beside_11 (n := 12) rfl ?_
    refine k_iadd Xc d_S_beside_12 (n := 13) rfl ?_
    refine k_goto Xc d_S_beside_13 (t := 17) rfl ?_
    refine k_istore Xc d_S_beside_17 (by decide) (n := 19) rfl ?_
    refine k_aload_n Xc d_S_beside_19 rfl rfl (n := 20) rfl ?_
    refine k_get Xc u_S rfl 0 (by decide) wd_30 rfl d_S_beside_20 (n := 23) rfl hS.1 hS.2.2.2.1 rfl ?_
    refine k_iload Xc d_S_beside_23 rfl (n := 25) rfl ?_
    refine k_iald Xc d_S_beside_25 (n := 26) rfl hS.2.1 hS.2.2.2.2.1 (by omega) (by omega) (by decide) ?_
    refine k_aload_n Xc d_S_beside_26 rfl rfl (n := 27) rfl ?_
    refine k_get Xc u_S rfl 0 (by decide) wd_30 rfl d_S_beside_27 (n := 30) rfl hS.1 hS.2.2.2.1 rfl ?_
    refine k_iload_n Xc d_S_beside_30 rfl rfl (n := 31) rfl ?_
    refine k_iald Xc d_S_beside_31 (n := 32) rfl hS.2.1 hS.2.2.2.2.1 (by omega) (by omega) (by decide) ?_
    refine k_isub Xc d_S_beside_32 (n := 33) rfl ?_
    refine k_iload_n Xc d_S_beside_33 rfl rfl (n := 34) rfl ?_
    refine k_aload_n Xc d_S_beside_34 rfl rfl (n := 35) rfl ?_
    refine k_get Xc u_S rfl 1 (by decide) wd_31 rfl d_S_beside_35 (n := 38) rfl hS.1 hS.2.2.2.1 rfl ?_
    refine k_iload_n Xc d_S_beside_38 rfl rfl (n := 39) rfl ?_
    refine k_iald Xc d_S_beside_39 (n := 40) rfl hS.2.2.1 hS.2.2.2.2.2 (by omega) (by omega) (by decide) ?_
    refine k_isub Xc d_S_beside_40 (n := 41) rfl ?_
    refine k_imul Xc d_S_beside_41 (n := 42) rfl ?_
    refine k_aload_n Xc d_S_beside_42 rfl rfl (n := 43) rfl ?_
    refine k_get Xc u_S rfl 1 (by decide) wd_31 rfl d_S_beside_43 (n := 46) rfl hS.1 hS.2.2.2.1 rfl ?_
    refine k_iload Xc d_S_beside_46 rfl (n := 48) rfl ?_
    refine k_iald Xc d_S_beside_48 (n := 49) rfl hS.2.2.1 hS.2.2.2.2.2 (by omega) (by omega) (by decide) ?_
    refine k_aload_n Xc d_S_beside_49 rfl rfl (n := 50) rfl ?_
    refine k_get Xc u_S rfl 1 (by decide) wd_31 rfl d_S_beside_50 (n := 53) rfl hS.1 hS.2.2.2.1 rfl ?_
    refine k_iload_n Xc d_S_beside_53 rfl rfl (n := 54) rfl ?_
    refine k_iald Xc d_S_beside_54 (n := 55) rfl hS.2.2.1 hS.2.2.2.2.2 (by omega) (by omega) (by decide) ?_
    refine k_isub Xc d_S_beside_55 (n := 56) rfl ?_
    refine k_iload_n Xc d_S_beside_56 rfl rfl (n := 57) rfl ?_
    refine k_aload_n Xc d_S_beside_57 rfl rfl (n := 58) rfl ?_
    refine k_get Xc u_S rfl 0 (by decide) wd_30 rfl d_S_beside_58 (n := 61) rfl hS.1 hS.2.2.2.1 rfl ?_
    refine k_iload_n Xc d_S_beside_61 rfl rfl (n := 62) rfl ?_
    refine k_iald Xc d_S_beside_62 (n := 63) rfl hS.2.1 hS.2.2.2.2.1 (by omega) (by omega) (by decide) ?_
    refine k_isub Xc d_S_beside_63 (n := 64) rfl ?_
    refine k_imul Xc d_S_beside_64 (n := 65) rfl ?_
    refine k_isub Xc d_S_beside_65 (n := 66) rfl ?_
    refine k_iret Xc d_S_beside_66 hr rfl (Nat.le_refl _) (Nat.le_refl _) ⟨_, rfl, ?_, rfl, rfl⟩
    unfold ge_bs ge_nx sP
    first | (rw [if_pos (by omega)]; rfl) | (rw [if_neg (by omega)]; rfl)
set_option maxRecDepth 100000 in
set_option maxHeartbeats 4000000 in
/-- twice the area -/
theorem m_S_doubleArea (l : Launch) (D : va_G) (G : Nat → ClassId) {L : List Nat} {f : Nat → va_E} {a ax ay n : Nat} {X Y : Int → Int} {lx hx ly hy : Int} (hS : zS G L f a ax ay n X Y lx hx ly hy) (hn : n ≤ 12) : zM l D G y_S_doubleArea (.code y_S_doubleArea c_S_doubleArea 4 (some .int) :: BG) (zR0 1 21) [.ref a] L f (zA L f (fun r => r = ge_ar n (sP X Y) n)) := by
  refine zM.of (by decide) (Nat.le_of_ble_eq_true rfl) rfl (fun p e s m args below meth c A Xc hr hnm => ?_)
  have loop : ∀ (d i : Nat), n < i + d → i ≤ n → zG p l e (zR0 1 21) s m args below meth c D A 4 0 0 (MQ below (zE D A (zA L f (fun r => r = ge_ar n (sP X Y) n))) args s (zR0 1 21).cells (zR0 1 21).slots A) 4 [(0, .ref a), (1, .int (zI (ge_ar n (sP X Y) i))), (2, .int (zI (i : Int)))] [] L f := by
    intro d
    induction d with
    | zero => intro i h1 h2; omega
    | succ d ih =>
      intro i h1 h2
      refine k_iload_n Xc d_S_doubleArea_4 rfl rfl (n := 5) rfl ?_
      refine k_aload_n Xc d_S_doubleArea_5 rfl rfl (n := 6) rfl ?_
      refine k_get Xc u_S rfl 2 (by decide) wd_32 rfl d_S_doubleArea_6 (n := 9) rfl hS.1 hS.2.2.2.1 rfl ?_
      refine k_icmp_ge Xc d_S_doubleArea_9 (t := 54) (n := 12) rfl rfl (by omega) (by omega) (fun h_9 => ?_) (fun h_9 => ?_)
      · refine k_iload_n Xc d_S_doubleArea_54 rfl rfl (n := 55) rfl ?_
        refine k_iret Xc d_S_doubleArea_55 hr rfl (Nat.le_refl _) (Nat.le_refl _) ⟨_, rfl, ?_, rfl, rfl⟩
        rw [show i = n by omega]
      · refine k_aload_n Xc d_S_doubleArea_12 rfl rfl (n := 13) rfl ?_
        refine k_iload_n Xc d_S_doubleArea_13 rfl rfl (n := 14) rfl ?_
        have hx : ge_nx n i < n := nx_lt (by omega)
        refine k_qV (na := 1) Xc (m_S_next l D G hS hn _ (by omega)) hS.1 hS.2.2.2.1 rfl wd_181 wd_178 wd_179 wd_180 wd_2 (by decide +kernel) ⟨by decide, by decide⟩ rfl rfl (Nat.le_of_ble_eq_true rfl) d_S_doubleArea_14 (n := 17) rfl ⟨Nat.zero_le _, Nat.zero_le _⟩ (fun r_14 e_14 => ?_)
        subst e_14
        refine k_istore_n Xc d_S_doubleArea_17 rfl (by decide) (n := 18) rfl ?_
        refine k_iload_n Xc d_S_doubleArea_18 rfl rfl (n := 19) rfl ?_
        refine k_aload_n Xc d_S_doubleArea_19 rfl rfl (n := 20) rfl ?_
        refine k_get Xc u_S rfl 0 (by decide) wd_30 rfl d_S_doubleArea_20 (n := 23) rfl hS.1 hS.2.2.2.1 rfl ?_
        refine k_iload_n Xc d_S_doubleArea_23 rfl rfl (n := 24) rfl ?_
        refine k_iald Xc d_S_doubleArea_24 (n := 25) rfl hS.2.1 hS.2.2.2.2.1 (by omega) (by omega) (by decide) ?_
        refine k_aload_n Xc d_S_doubleArea_25 rfl rfl (n := 26) rfl ?_
        refine k_get Xc u_S rfl 1 (by decide) wd_31 rfl d_S_doubleArea_26 (n := 29) rfl hS.1 hS.2.2.2.1 rfl ?_
        refine k_iload_n Xc d_S_doubleArea_29 rfl rfl (n := 30) rfl ?_
        refine k_iald Xc d_S_doubleArea_30 (n := 31) rfl hS.2.2.1 hS.2.2.2.2.2 (by omega) (by omega) (by decide) ?_
        refine k_imul Xc d_S_doubleArea_31 (n := 32) rfl ?_
        refine k_aload_n Xc d_S_doubleArea_32 rfl rfl (n := 33) rfl ?_
        refine k_get Xc u_S rfl 0 (by decide) wd_30 rfl d_S_doubleArea_33 (n := 36) rfl hS.1 hS.2.2.2.1 rfl ?_
        refine k_iload_n Xc d_S_doubleArea_36 rfl rfl (n := 37) rfl ?_
        refine k_iald Xc d_S_doubleArea_37 (n := 38) rfl hS.2.1 hS.2.2.2.2.1 (by omega) (by omega) (by decide) ?_
        refine k_aload_n Xc d_S_doubleArea_38 rfl rfl (n := 39) rfl ?_
        refine k_get Xc u_S rfl 1 (by decide) wd_31 rfl d_S_doubleArea_39 (n := 42) rfl hS.1 hS.2.2.2.1 rfl ?_
        refine k_iload_n Xc d_S_doubleArea_42 rfl rfl (n := 43) rfl ?_
        refine k_iald Xc d_S_doubleArea_43 (n := 44) rfl hS.2.2.1 hS.2.2.2.2.2 (by omega) (by omega) (by decide) ?_
        refine k_imul Xc d_S_doubleArea_44 (n := 45) rfl ?_
        refine k_isub Xc d_S_doubleArea_45 (n := 46) rfl ?_
        refine k_iadd Xc d_S_doubleArea_46 (n := 47) rfl ?_
        refine k_istore_n Xc d_S_doubleArea_47 rfl (by decide) (n := 48) rfl ?_
        refine k_iinc Xc d_S_doubleArea_48 rfl (by decide) (n := 51) rfl ?_
        refine k_goto Xc d_S_doubleArea_51 (t := 4) rfl ?_
        exact k_loc (ih (i + 1) (by omega) (by omega)) (by rw [ge_ar_s]; rfl)
  refine k_iconst Xc d_S_doubleArea_0 (n := 1) rfl ?_
  refine k_istore_n Xc d_S_doubleArea_1 rfl (by decide) (n := 2) rfl ?_
  refine k_iconst Xc d_S_doubleArea_2 (n := 3) rfl ?_
  refine k_istore_n Xc d_S_doubleArea_3 rfl (by decide) (n := 4) rfl ?_
  exact k_loc (loop (n + 1) 0 (by omega) (by omega)) rfl
set_option maxRecDepth 100000 in
set_option maxHeartbeats 4000000 in
/-- two ranges have a number in common -/
theorem m_S_rangesMeet (l : Launch) (D : va_G) (G : Nat → ClassId) {L : List Nat} {f : Nat → va_E} (a b c2 d : Int) (h : -1000 ≤ a ∧ a ≤ 1000 ∧ -1000 ≤ b ∧ b ≤ 1000 ∧ -1000 ≤ c2 ∧ c2 ≤ 1000 ∧ -1000 ≤ d ∧ d ≤ 1000) : zM l D G y_S_rangesMeet (.code y_S_rangesMeet c_S_rangesMeet 4 (some .boolean) :: BG) (zR0 1 21) [.int (zI a), .int (zI b), .int (zI c2), .int (zI d)] L f (zA L f (fun r => zB (ge_rg a b c2 d) r)) := by
  refine zM.of (by decide) (Nat.le_of_ble_eq_true rfl) rfl (fun p e s m args below meth c A Xc hr hnm => ?_)
  refine k_iload_n Xc d_S_rangesMeet_0 rfl rfl (n := 1) rfl ?_
  refine k_iload_n Xc d_S_rangesMeet_1 rfl rfl (n := 2) rfl ?_
  refine k_max Xc d_S_rangesMeet_2 (n := 5) rfl wd_289 wd_290 wd_12 wd_291 ⟨by decide, Nat.le_of_ble_eq_true rfl⟩ ⟨Nat.zero_le _, Nat.zero_le _⟩ (by omega) (by omega) ?_
  refine k_iload_n Xc d_S_rangesMeet_5 rfl rfl (n := 6) rfl ?_
  refine k_iload_n Xc d_S_rangesMeet_6 rfl rfl (n := 7) rfl ?_
  refine k_min Xc d_S_rangesMeet_7 (n := 10) rfl wd_286 wd_287 wd_12 wd_288 ⟨by decide, Nat.le_of_ble_eq_true rfl⟩ ⟨Nat.zero_le _, Nat.zero_le _⟩ (by omega) (by omega) ?_
  refine k_icmp_lt Xc d_S_rangesMeet_10 (t := 30) (n := 13) rfl rfl (by omega) (by omega) (fun h_10 => ?_) (fun h_10 => ?_)
  · refine k_iconst Xc d_S_rangesMeet_30 (n := 31) rfl ?_
    refine k_iret Xc d_S_rangesMeet_31 hr rfl (Nat.le_refl _) (Nat.le_refl _) ⟨_, rfl, ?_, rfl, rfl⟩
    exact Or.inr ⟨by unfold ge_rg; omega, rfl⟩
  · refine k_iload_n Xc d_S_rangesMeet_13 rfl rfl (n := 14) rfl ?_
    refine k_iload_n Xc d_S_rangesMeet_14 rfl rfl (n := 15) rfl ?_
    refine k_max Xc d_S_rangesMeet_15 (n := 18) rfl wd_289 wd_290 wd_12 wd_291 ⟨by decide, Nat.le_of_ble_eq_true rfl⟩ ⟨Nat.zero_le _, Nat.zero_le _⟩ (by omega) (by omega) ?_
    refine k_iload_n Xc d_S_rangesMeet_18 rfl rfl (n := 19) rfl ?_
    refine k_iload_n Xc d_S_rangesMeet_19 rfl rfl (n := 20) rfl ?_
    refine k_min Xc d_S_rangesMeet_20 (n := 23) rfl wd_286 wd_287 wd_12 wd_288 ⟨by decide, Nat.le_of_ble_eq_true rfl⟩ ⟨Nat.zero_le _, Nat.zero_le _⟩ (by omega) (by omega) ?_
    refine k_icmp_lt Xc d_S_rangesMeet_23 (t := 30) (n := 26) rfl rfl (by omega) (by omega) (fun h_23 => ?_) (fun h_23 => ?_)
    · refine k_iconst Xc d_S_rangesMeet_30 (n := 31) rfl ?_
      refine k_iret Xc d_S_rangesMeet_31 hr rfl (Nat.le_refl _) (Nat.le_refl _) ⟨_, rfl, ?_, rfl, rfl⟩
      exact Or.inr ⟨by unfold ge_rg; omega, rfl⟩
    · refine k_iconst Xc d_S_rangesMeet_26 (n := 27) rfl ?_
      refine k_goto Xc d_S_rangesMeet_27 (t := 31) rfl ?_
      refine k_iret Xc d_S_rangesMeet_31 hr rfl (Nat.le_refl _) (Nat.le_refl _) ⟨_, rfl, ?_, rfl, rfl⟩
      exact Or.inl ⟨by unfold ge_rg; omega, rfl⟩
end
section
-- SHAPE: queries
set_option maxRecDepth 100000 in
set_option maxHeartbeats 4000000 in
theorem m_S_boxHolds (l : Launch) (D : va_G) (G : Nat → ClassId) {L : List Nat} {f : Nat → va_E} {a ax ay n : Nat} {X Y : Int → Int} {lx hx ly hy : Int} (hS : zS G L f a ax ay n X Y lx hx ly hy) {b bx b_y k2 : Nat} {U V : Int → Int} {lu hu lv hv : Int} (hT : zS G L f b bx b_y k2 U V lu hu lv hv) (q1 : -1000 ≤ lx ∧ lx ≤ 1000 ∧ -1000 ≤ hx ∧ hx ≤ 1000 ∧ -1000 ≤ ly ∧ ly ≤ 1000 ∧ -1000 ≤ hy ∧ hy ≤ 1000) (q2 : -1000 ≤ lu ∧ lu ≤ 1000 ∧ -1000 ≤ hu ∧ hu ≤ 1000 ∧ -1000 ≤ lv ∧ lv ≤ 1000 ∧ -1000 ≤ hv ∧ hv ≤ 1000) (dx dy : Int) (q3 : -1000 ≤ dx ∧ dx ≤ 1000 ∧ -1000 ≤ dy ∧ dy ≤ 1000) : zM l D G y_S_boxHolds (.code y_S_boxHolds c_S_boxHolds 4 (some .boolean) :: BG) (zR0 0 0) [.ref a, .ref b, .int (zI dx), .int (zI dy)] L f (zA L f (fun r => zB (lx ≤ lu + dx ∧ hu + dx ≤ hx ∧ ly ≤ lv + dy ∧ hv + dy ≤ hy) r)) := by
  refine zM.of (by decide) (Nat.le_of_ble_eq_true rfl) rfl (fun p e s m args below meth c A Xc hr hnm => ?_)
  refine k_aload_n Xc d_S_boxHolds_0 rfl rfl (n := 1) rfl ?_
  refine k_get Xc u_S rfl 3 (by decide) wd_35 rfl d_S_boxHolds_1 (n := 4) rfl hT.1 hT.2.2.2.1 rfl ?_
  refine k_iload_n Xc d_S_boxHolds_4 rfl rfl (n := 5) rfl ?_
  refine k_iadd Xc d_S_boxHolds_5 (n := 6) rfl ?_
  refine k_aload_n Xc d_S_boxHolds_6 rfl rfl (n := 7) rfl ?_
  refine k_get Xc u_S rfl 3 (by decide) wd_35 rfl d_S_boxHolds_7 (n := 10) rfl hS.1 hS.2.2.2.1 rfl ?_
  refine k_icmp_lt Xc d_S_boxHolds_10 (t := 56) (n := 13) rfl rfl (by omega) (by omega) (fun h_10 => ?_) (fun h_10 => ?_)
  · refine k_iconst Xc d_S_boxHolds_56 (n := 57) rfl ?_
    refine k_iret Xc d_S_boxHolds_57 hr rfl (Nat.le_refl _) (Nat.le_refl _) ⟨_, rfl, ?_, rfl, rfl⟩
    exact Or.inr ⟨by omega, rfl⟩
  · refine k_aload_n Xc d_S_boxHolds_13 rfl rfl (n := 14) rfl ?_
    refine k_get Xc u_S rfl 4 (by decide) wd_37 rfl d_S_boxHolds_14 (n := 17) rfl hT.1 hT.2.2.2.1 rfl ?_
    refine k_iload_n Xc d_S_boxHolds_17 rfl rfl (n := 18) rfl ?_
    refine k_iadd Xc d_S_boxHolds_18 (n := 19) rfl ?_
    refine k_aload_n Xc d_S_boxHolds_19 rfl rfl (n := 20) rfl ?_
    refine k_get Xc u_S rfl 4 (by decide) wd_37 rfl d_S_boxHolds_20 (n := 23) rfl hS.1 hS.2.2.2.1 rfl ?_
    refine k_icmp_gt Xc d_S_boxHolds_23 (t := 56) (n := 26) rfl rfl (by omega) (by omega) (fun h_23 => ?_) (fun h_23 => ?_)
    · refine k_iconst Xc d_S_boxHolds_56 (n := 57) rfl ?_
      refine k_iret Xc d_S_boxHolds_57 hr rfl (Nat.le_refl _) (Nat.le_refl _) ⟨_, rfl, ?_, rfl, rfl⟩
      exact Or.inr ⟨by omega, rfl⟩
    · refine k_aload_n Xc d_S_boxHolds_26 rfl rfl (n := 27) rfl ?_
      refine k_get Xc u_S rfl 5 (by decide) wd_40 rfl d_S_boxHolds_27 (n := 30) rfl hT.1 hT.2.2.2.1 rfl ?_
      refine k_iload_n Xc d_S_boxHolds_30 rfl rfl (n := 31) rfl ?_
      refine k_iadd Xc d_S_boxHolds_31 (n := 32) rfl ?_
      refine k_aload_n Xc d_S_boxHolds_32 rfl rfl (n := 33) rfl ?_
      refine k_get Xc u_S rfl 5 (by decide) wd_40 rfl d_S_boxHolds_33 (n := 36) rfl hS.1 hS.2.2.2.1 rfl ?_
      refine k_icmp_lt Xc d_S_boxHolds_36 (t := 56) (n := 39) rfl rfl (by omega) (by omega) (fun h_36 => ?_) (fun h_36 => ?_)
      · refine k_iconst Xc d_S_boxHolds_56 (n := 57) rfl ?_
        refine k_iret Xc d_S_boxHolds_57 hr rfl (Nat.le_refl _) (Nat.le_refl _) ⟨_, rfl, ?_, rfl, rfl⟩
        exact Or.inr ⟨by omega, rfl⟩
      · refine k_aload_n Xc d_S_boxHolds_39 rfl rfl (n := 40) rfl ?_
        refine k_get Xc u_S rfl 6 (by decide) wd_42 rfl d_S_boxHolds_40 (n := 43) rfl hT.1 hT.2.2.2.1 rfl ?_
        refine k_iload_n Xc d_S_boxHolds_43 rfl rfl (n := 44) rfl ?_
        refine k_iadd Xc d_S_boxHolds_44 (n := 45) rfl ?_
        refine k_aload_n Xc d_S_boxHolds_45 rfl rfl (n := 46) rfl ?_
        refine k_get Xc u_S rfl 6 (by decide) wd_42 rfl d_S_boxHolds_46 (n := 49) rfl hS.1 hS.2.2.2.1 rfl ?_
        refine k_icmp_gt Xc d_S_boxHolds_49 (t := 56) (n := 52) rfl rfl (by omega) (by omega) (fun h_49 => ?_) (fun h_49 => ?_)
        · refine k_iconst Xc d_S_boxHolds_56 (n := 57) rfl ?_
          refine k_iret Xc d_S_boxHolds_57 hr rfl (Nat.le_refl _) (Nat.le_refl _) ⟨_, rfl, ?_, rfl, rfl⟩
          exact Or.inr ⟨by omega, rfl⟩
        · refine k_iconst Xc d_S_boxHolds_52 (n := 53) rfl ?_
          refine k_goto Xc d_S_boxHolds_53 (t := 57) rfl ?_
          refine k_iret Xc d_S_boxHolds_57 hr rfl (Nat.le_refl _) (Nat.le_refl _) ⟨_, rfl, ?_, rfl, rfl⟩
          exact Or.inl ⟨by omega, rfl⟩
set_option maxRecDepth 100000 in
set_option maxHeartbeats 4000000 in
/-- a side and the next fold back -/
theorem m_S_foldsBack (l : Launch) (D : va_G) (G : Nat → ClassId) {L : List Nat} {f : Nat → va_E} {a ax ay n : Nat} {X Y : Int → Int} {lx hx ly hy : Int} (hS : zS G L f a ax ay n X Y lx hx ly hy) (hB : sB n X Y) (i : Nat) (hi : i < n) : zM l D G y_S_foldsBack (.code y_S_foldsBack c_S_foldsBack 5 (some .boolean) :: BG) (zR0 1 24) [.ref a, .int (zI (i : Int))] L f (zA L f (fun r => zB (ge_fd n (sP X Y) i) r)) := by
  refine zM.of (by decide) (Nat.le_of_ble_eq_true rfl) rfl (fun p e s m args below meth c A Xc hr hnm => ?_)
  have hn := hB.1
  have l1 : ge_nx n i < n := nx_lt (by omega)
  have l2 : ge_nx n (ge_nx n i) < n := nx_lt (by omega)
  have b0 := hB.2 i hi
  have b1 := hB.2 _ l1
  have b2 := hB.2 _ l2
  have u := mul_bd (a := X (i : Int) - X ((ge_nx n i : Nat) : Int)) (b := X ((ge_nx n (ge_nx n i) : Nat) : Int) - X ((ge_nx n i : Nat) : Int)) (A := 200) (B := 200) (by omega) (by omega) (by omega) (by omega)
  have v := mul_bd (a := Y (i : Int) - Y ((ge_nx n i : Nat) : Int)) (b := Y ((ge_nx n (ge_nx n i) : Nat) : Int) - Y ((ge_nx n i : Nat) : Int)) (A := 200) (B := 200) (by omega) (by omega) (by omega) (by omega)
  have t := bs_bd hB hi (px := X ((ge_nx n (ge_nx n i) : Nat) : Int)) (py := Y ((ge_nx n (ge_nx n i) : Nat) : Int)) (by omega) (by omega) (by omega) (by omega)
  refine k_aload_n Xc d_S_foldsBack_0 rfl rfl (n := 1) rfl ?_
  refine k_iload_n Xc d_S_foldsBack_1 rfl rfl (n := 2) rfl ?_
  refine k_qV (na := 1) Xc (m_S_next l D G hS hB.1 _ (by omega)) hS.1 hS.2.2.2.1 rfl wd_181 wd_178 wd_179 wd_180 wd_2 (by decide +kernel) ⟨by decide, by decide⟩ rfl rfl (Nat.le_of_ble_eq_true rfl) d_S_foldsBack_2 (n := 5) rfl ⟨Nat.zero_le _, Nat.zero_le _⟩ (fun r_2 e_2 => ?_)
  subst e_2
  refine k_istore_n Xc d_S_foldsBack_5 rfl (by decide) (n := 6) rfl ?_
  refine k_aload_n Xc d_S_foldsBack_6 rfl rfl (n := 7) rfl ?_
  refine k_iload_n Xc d_S_foldsBack_7 rfl rfl (n := 8) rfl ?_
  refine k_qV (na := 1) Xc (m_S_next l D G hS hB.1 _ (by omega)) hS.1 hS.2.2.2.1 rfl wd_181 wd_178 wd_179 wd_180 wd_2 (by decide +kernel) ⟨by decide, by decide⟩ rfl rfl (Nat.le_of_ble_eq_true rfl) d_S_foldsBack_8 (n := 11) rfl ⟨Nat.zero_le _, Nat.zero_le _⟩ (fun r_8 e_8 => ?_)
  subst e_8
  refine k_istore_n Xc d_S_foldsBack_11 rfl (by decide) (n := 12) rfl ?_
  refine k_aload_n Xc d_S_foldsBack_12 rfl rfl (n := 13) rfl ?_
  refine k_get Xc u_S rfl 0 (by decide) wd_30 rfl d_S_foldsBack_13 (n := 16) rfl hS.1 hS.2.2.2.1 rfl ?_
  refine k_iload_n Xc d_S_foldsBack_16 rfl rfl (n := 17) rfl ?_
  refine k_iald Xc d_S_foldsBack_17 (n := 18) rfl hS.2.1 hS.2.2.2.2.1 (by omega) (by omega) (by decide) ?_
  refine k_aload_n Xc d_S_foldsBack_18 rfl rfl (n := 19) rfl ?_
  refine k_get Xc u_S rfl 0 (by decide) wd_30 rfl d_S_foldsBack_19 (n := 22) rfl hS.1 hS.2.2.2.1 rfl ?_
  refine k_iload_n Xc d_S_foldsBack_22 rfl rfl (n := 23) rfl ?_
  refine k_iald Xc d_S_foldsBack_23 (n := 24) rfl hS.2.1 hS.2.2.2.2.1 (by omega) (by omega) (by decide) ?_
  refine k_isub Xc d_S_foldsBack_24 (n := 25) rfl ?_
  refine k_aload_n Xc d_S_foldsBack_25 rfl rfl (n := 26) rfl ?_
  refine k_get Xc u_S rfl 0 (by decide) wd_30 rfl d_S_foldsBack_26 (n := 29) rfl hS.1 hS.2.2.2.1 rfl ?_
  refine k_iload_n Xc d_S_foldsBack_29 rfl rfl (n := 30) rfl ?_
  refine k_iald Xc d_S_foldsBack_30 (n := 31) rfl hS.2.1 hS.2.2.2.2.1 (by omega) (by omega) (by decide) ?_
  refine k_aload_n Xc d_S_foldsBack_31 rfl rfl (n := 32) rfl ?_
  refine k_get Xc u_S rfl 0 (by decide) wd_30 rfl d_S_foldsBack_32 (n := 35) rfl hS.1 hS.2.2.2.1 rfl ?_
  refine k_iload_n Xc d_S_foldsBack_35 rfl rfl (n := 36) rfl ?_
  refine k_iald Xc d_S_foldsBack_36 (n := 37) rfl hS.2.1 hS.2.2.2.2.1 (by omega) (by omega) (by decide) ?_
  refine k_isub Xc d_S_foldsBack_37 (n := 38) rfl ?_
  refine k_imul Xc d_S_foldsBack_38 (n := 39) rfl ?_
  refine k_aload_n Xc d_S_foldsBack_39 rfl rfl (n := 40) rfl ?_
  refine k_get Xc u_S rfl 1 (by decide) wd_31 rfl d_S_foldsBack_40 (n := 43) rfl hS.1 hS.2.2.2.1 rfl ?_
  refine k_iload_n Xc d_S_foldsBack_43 rfl rfl (n := 44) rfl ?_
  refine k_iald Xc d_S_foldsBack_44 (n := 45) rfl hS.2.2.1 hS.2.2.2.2.2 (by omega) (by omega) (by decide) ?_
  refine k_aload_n Xc d_S_foldsBack_45 rfl rfl (n := 46) rfl ?_
  refine k_get Xc u_S rfl 1 (by decide) wd_31 rfl d_S_foldsBack_46 (n := 49) rfl hS.1 hS.2.2.2.1 rfl ?_
  refine k_iload_n Xc d_S_foldsBack_49 rfl rfl (n := 50) rfl ?_
  refine k_iald Xc d_S_foldsBack_50 (n := 51) rfl hS.2.2.1 hS.2.2.2.2.2 (by omega) (by omega) (by decide) ?_
  refine k_isub Xc d_S_foldsBack_51 (n := 52) rfl ?_
  refine k_aload_n Xc d_S_foldsBack_52 rfl rfl (n := 53) rfl ?_
  refine k_get Xc u_S rfl 1 (by decide) wd_31 rfl d_S_foldsBack_53 (n := 56) rfl hS.1 hS.2.2.2.1 rfl ?_
  refine k_iload_n Xc d_S_foldsBack_56 rfl rfl (n := 57) rfl ?_
  refine k_iald Xc d_S_foldsBack_57 (n := 58) rfl hS.2.2.1 hS.2.2.2.2.2 (by omega) (by omega) (by decide) ?_
  refine k_aload_n Xc d_S_foldsBack_58 rfl rfl (n := 59) rfl ?_
  refine k_get Xc u_S rfl 1 (by decide) wd_31 rfl d_S_foldsBack_59 (n := 62) rfl hS.1 hS.2.2.2.1 rfl ?_
  refine k_iload_n Xc d_S_foldsBack_62 rfl rfl (n := 63) rfl ?_
  refine k_iald Xc d_S_foldsBack_63 (n := 64) rfl hS.2.2.1 hS.2.2.2.2.2 (by omega) (by omega) (by decide) ?_
  refine k_isub Xc d_S_foldsBack_64 (n := 65) rfl ?_
  refine k_imul Xc d_S_foldsBack_65 (n := 66) rfl ?_
  refine k_iadd Xc d_S_foldsBack_66 (n := 67) rfl ?_
  refine k_istore Xc d_S_foldsBack_67 (by decide) (n := 69) rfl ?_
  refine k_aload_n Xc d_S_foldsBack_69 rfl rfl (n := 70) rfl ?_
  refine k_iload_n Xc d_S_foldsBack_70 rfl rfl (n := 71) rfl ?_
  refine k_aload_n Xc d_S_foldsBack_71 rfl rfl (n := 72) rfl ?_
  refine k_get Xc u_S rfl 0 (by decide) wd_30 rfl d_S_foldsBack_72 (n := 75) rfl hS.1 hS.2.2.2.1 rfl ?_
  refine k_iload_n Xc d_S_foldsBack_75 rfl rfl (n := 76) rfl ?_
  refine k_iald Xc d_S_foldsBack_76 (n := 77) rfl hS.2.1 hS.2.2.2.2.1 (by omega) (by omega) (by decide) ?_
  refine k_aload_n Xc d_S_foldsBack_77 rfl rfl (n := 78) rfl ?_
  refine k_get Xc u_S rfl 1 (by decide) wd_31 rfl d_S_foldsBack_78 (n := 81) rfl hS.1 hS.2.2.2.1 rfl ?_
  refine k_iload_n Xc d_S_foldsBack_81 rfl rfl (n := 82) rfl ?_
  refine k_iald Xc d_S_foldsBack_82 (n := 83) rfl hS.2.2.1 hS.2.2.2.2.2 (by omega) (by omega) (by decide) ?_
  refine k_qV (na := 3) Xc (m_S_beside l D G hS hB _ (by omega) _ _ (by omega) (by omega) (by omega) (by omega)) hS.1 hS.2.2.2.1 rfl wd_325 wd_322 wd_323 wd_324 wd_2 (by decide +kernel) ⟨by decide, by decide⟩ rfl rfl (Nat.le_of_ble_eq_true rfl) d_S_foldsBack_83 (n := 86) rfl ⟨Nat.zero_le _, Nat.zero_le _⟩ (fun r_83 e_83 => ?_)
  subst e_83
  refine k_if_ne Xc d_S_foldsBack_86 (t := 98) (n := 89) rfl rfl (by omega) (fun h_86 => ?_) (fun h_86 => ?_)
  · refine k_iconst Xc d_S_foldsBack_98 (n := 99) rfl ?_
    refine k_iret Xc d_S_foldsBack_99 hr rfl (Nat.le_refl _) (Nat.le_refl _) ⟨_, rfl, ?_, rfl, rfl⟩
    exact Or.inr ⟨fun q => by have q1 := q.1; have q2 := q.2; unfold sP at q1 q2; dsimp only at q1 q2; first | contradiction | omega, rfl⟩
  · refine k_iload Xc d_S_foldsBack_89 rfl (n := 91) rfl ?_
    refine k_if_lt Xc d_S_foldsBack_91 (t := 98) (n := 94) rfl rfl (by omega) (fun h_91 => ?_) (fun h_91 => ?_)
    · refine k_iconst Xc d_S_foldsBack_98 (n := 99) rfl ?_
      refine k_iret Xc d_S_foldsBack_99 hr rfl (Nat.le_refl _) (Nat.le_refl _) ⟨_, rfl, ?_, rfl, rfl⟩
      exact Or.inr ⟨fun q => by have q1 := q.1; have q2 := q.2; unfold sP at q1 q2; dsimp only at q1 q2; first | contradiction | omega, rfl⟩
    · refine k_iconst Xc d_S_foldsBack_94 (n := 95) rfl ?_
      refine k_goto Xc d_S_foldsBack_95 (t := 99) rfl ?_
      refine k_iret Xc d_S_foldsBack_99 hr rfl (Nat.le_refl _) (Nat.le_refl _) ⟨_, rfl, ?_, rfl, rfl⟩
      exact Or.inl ⟨⟨by assumption, by unfold sP; dsimp only; omega⟩, rfl⟩
set_option maxRecDepth 100000 in
set_option maxHeartbeats 4000000 in
theorem m_S_lineMeets (l : Launch) (D : va_G) (G : Nat → ClassId) {L : List Nat} {f : Nat → va_E} {a ax ay n : Nat} {X Y : Int → Int} {lx hx ly hy : Int} (hS : zS G L f a ax ay n X Y lx hx ly hy) (hB : sB n X Y) (i j : Nat) (hi : i < n) (hj : j < n) : zM l D G y_S_lineMeets (.code y_S_lineMeets c_S_lineMeets 6 (some .boolean) :: BG) (zR0 1 24) [.ref a, .int (zI (i : Int)), .int (zI (j : Int))] L f (zA L f (fun r => zB (ge_bs (sP X Y) n i (sP X Y j) * ge_bs (sP X Y) n i (sP X Y (ge_nx n j)) ≤ 0) r)) := by
  refine zM.of (by decide) (Nat.le_of_ble_eq_true rfl) rfl (fun p e s m args below meth c A Xc hr hnm => ?_)
  have hn := hB.1
  have l1 : ge_nx n j < n := nx_lt (by omega)
  have b0 := hB.2 j hj
  have b1 := hB.2 _ l1
  have t1 := bs_bd hB hi (px := X (j : Int)) (py := Y (j : Int)) (by omega) (by omega) (by omega) (by omega)
  have t2 := bs_bd hB hi (px := X ((ge_nx n j : Nat) : Int)) (py := Y ((ge_nx n j : Nat) : Int)) (by omega) (by omega) (by omega) (by omega)
  have t3 := sg_bd (ge_bs (sP X Y) n i (X (j : Int), Y (j : Int))) (ge_bs (sP X Y) n i (X ((ge_nx n j : Nat) : Int), Y ((ge_nx n j : Nat) : Int)))
  have t4 := sg_mul (ge_bs (sP X Y) n i (X (j : Int), Y (j : Int))) (ge_bs (sP X Y) n i (X ((ge_nx n j : Nat) : Int), Y ((ge_nx n j : Nat) : Int)))
  refine k_aload_n Xc d_S_lineMeets_0 rfl rfl (n := 1) rfl ?_
  refine k_iload_n Xc d_S_lineMeets_1 rfl rfl (n := 2) rfl ?_
  refine k_qV (na := 1) Xc (m_S_next l D G hS hB.1 _ (by omega)) hS.1 hS.2.2.2.1 rfl wd_181 wd_178 wd_179 wd_180 wd_2 (by decide +kernel) ⟨by decide, by decide⟩ rfl rfl (Nat.le_of_ble_eq_true rfl) d_S_lineMeets_2 (n := 5) rfl ⟨Nat.zero_le _, Nat.zero_le _⟩ (fun r_2 e_2 => ?_)
  subst e_2
  refine k_istore_n Xc d_S_lineMeets_5 rfl (by decide) (n := 6) rfl ?_
  refine k_aload_n Xc d_S_lineMeets_6 rfl rfl (n := 7) rfl ?_
  refine k_iload_n Xc d_S_lineMeets_7 rfl rfl (n := 8) rfl ?_
  refine k_aload_n Xc d_S_lineMeets_8 rfl rfl (n := 9) rfl ?_
  refine k_get Xc u_S rfl 0 (by decide) wd_30 rfl d_S_lineMeets_9 (n := 12) rfl hS.1 hS.2.2.2.1 rfl ?_
  refine k_iload_n Xc d_S_lineMeets_12 rfl rfl (n := 13) rfl ?_
  refine k_iald Xc d_S_lineMeets_13 (n := 14) rfl hS.2.1 hS.2.2.2.2.1 (by omega) (by omega) (by decide) ?_
  refine k_aload_n Xc d_S_lineMeets_14 rfl rfl (n := 15) rfl ?_
  refine k_get Xc u_S rfl 1 (by decide) wd_31 rfl d_S_lineMeets_15 (n := 18) rfl hS.1 hS.2.2.2.1 rfl ?_
  refine k_iload_n Xc d_S_lineMeets_18 rfl rfl (n := 19) rfl ?_
  refine k_iald Xc d_S_lineMeets_19 (n := 20) rfl hS.2.2.1 hS.2.2.2.2.2 (by omega) (by omega) (by decide) ?_
  refine k_qV (na := 3) Xc (m_S_beside l D G hS hB _ (by omega) _ _ (by omega) (by omega) (by omega) (by omega)) hS.1 hS.2.2.2.1 rfl wd_325 wd_322 wd_323 wd_324 wd_2 (by decide +kernel) ⟨by decide, by decide⟩ rfl rfl (Nat.le_of_ble_eq_true rfl) d_S_lineMeets_20 (n := 23) rfl ⟨Nat.zero_le _, Nat.zero_le _⟩ (fun r_20 e_20 => ?_)
  subst e_20
  refine k_qS (na := 1) Xc (m_signum l D G _ (by omega) (by omega)) wd_339 wd_337 wd_338 wd_13 (by decide +kernel) ⟨by decide, by decide⟩ rfl rfl (Nat.le_of_ble_eq_true rfl) d_S_lineMeets_23 (n := 26) rfl ⟨Nat.zero_le _, Nat.zero_le _⟩ (fun r_23 e_23 => ?_)
  subst e_23
  refine k_istore Xc d_S_lineMeets_26 (by decide) (n := 28) rfl ?_
  refine k_aload_n Xc d_S_lineMeets_28 rfl rfl (n := 29) rfl ?_
  refine k_iload_n Xc d_S_lineMeets_29 rfl rfl (n := 30) rfl ?_
  refine k_aload_n Xc d_S_lineMeets_30 rfl rfl (n := 31) rfl ?_
  refine k_get Xc u_S rfl 0 (by decide) wd_30 rfl d_S_lineMeets_31 (n := 34) rfl hS.1 hS.2.2.2.1 rfl ?_
  refine k_iload_n Xc d_S_lineMeets_34 rfl rfl (n := 35) rfl ?_
  refine k_iald Xc d_S_lineMeets_35 (n := 36) rfl hS.2.1 hS.2.2.2.2.1 (by omega) (by omega) (by decide) ?_
  refine k_aload_n Xc d_S_lineMeets_36 rfl rfl (n := 37) rfl ?_
  refine k_get Xc u_S rfl 1 (by decide) wd_31 rfl d_S_lineMeets_37 (n := 40) rfl hS.1 hS.2.2.2.1 rfl ?_
  refine k_iload_n Xc d_S_lineMeets_40 rfl rfl (n := 41) rfl ?_
  refine k_iald Xc d_S_lineMeets_41 (n := 42) rfl hS.2.2.1 hS.2.2.2.2.2 (by omega) (by omega) (by decide) ?_
  refine k_qV (na := 3) Xc (m_S_beside l D G hS hB _ (by omega) _ _ (by omega) (by omega) (by omega) (by omega)) hS.1 hS.2.2.2.1 rfl wd_325 wd_322 wd_323 wd_324 wd_2 (by decide +kernel) ⟨by decide, by decide⟩ rfl rfl (Nat.le_of_ble_eq_true rfl) d_S_lineMeets_42 (n := 45) rfl ⟨Nat.zero_le _, Nat.zero_le _⟩ (fun r_42 e_42 => ?_)
  subst e_42
  refine k_qS (na := 1) Xc (m_signum l D G _ (by omega) (by omega)) wd_339 wd_337 wd_338 wd_13 (by decide +kernel) ⟨by decide, by decide⟩ rfl rfl (Nat.le_of_ble_eq_true rfl) d_S_lineMeets_45 (n := 48) rfl ⟨Nat.zero_le _, Nat.zero_le _⟩ (fun r_45 e_45 => ?_)
  subst e_45
  refine k_istore Xc d_S_lineMeets_48 (by decide) (n := 50) rfl ?_
  refine k_iload Xc d_S_lineMeets_50 rfl (n := 52) rfl ?_
  refine k_iload Xc d_S_lineMeets_52 rfl (n := 54) rfl ?_
  refine k_imul Xc d_S_lineMeets_54 (n := 55) rfl ?_
  refine k_if_gt Xc d_S_lineMeets_55 (t := 62) (n := 58) rfl rfl (by omega) (fun h_55 => ?_) (fun h_55 => ?_)
  · refine k_iconst Xc d_S_lineMeets_62 (n := 63) rfl ?_
    refine k_iret Xc d_S_lineMeets_63 hr rfl (Nat.le_refl _) (Nat.le_refl _) ⟨_, rfl, ?_, rfl, rfl⟩
    exact Or.inr ⟨fun q => by have := t4.mpr q; omega, rfl⟩
  · refine k_iconst Xc d_S_lineMeets_58 (n := 59) rfl ?_
    refine k_goto Xc d_S_lineMeets_59 (t := 63) rfl ?_
    refine k_iret Xc d_S_lineMeets_63 hr rfl (Nat.le_refl _) (Nat.le_refl _) ⟨_, rfl, ?_, rfl, rfl⟩
    exact Or.inl ⟨t4.mp (by omega), rfl⟩
set_option maxRecDepth 100000 in
set_option maxHeartbeats 4000000 in
/-- two sides meet -/
theorem m_S_sidesMeet (l : Launch) (D : va_G) (G : Nat → ClassId) {L : List Nat} {f : Nat → va_E} {a ax ay n : Nat} {X Y : Int → Int} {lx hx ly hy : Int} (hS : zS G L f a ax ay n X Y lx hx ly hy) (hB : sB n X Y) (i j : Nat) (hi : i < n) (hj : j < n) : zM l D G y_S_sidesMeet (.code y_S_sidesMeet c_S_sidesMeet 3 (some .boolean) :: BG) (zR0 2 49) [.ref a, .int (zI (i : Int)), .int (zI (j : Int))] L f (zA L f (fun r => zB (ge_mtC n (sP X Y) i j) r)) := by
  refine zM.of (by decide) (Nat.le_of_ble_eq_true rfl) rfl (fun p e s m args below meth c A Xc hr hnm => ?_)
  have hn := hB.1
  have l1 : ge_nx n i < n := nx_lt (by omega)
  have l2 : ge_nx n j < n := nx_lt (by omega)
  have b0 := hB.2 i hi
  have b1 := hB.2 j hj
  have b2 := hB.2 _ l1
  have b3 := hB.2 _ l2
  refine k_aload_n Xc d_S_sidesMeet_0 rfl rfl (n := 1) rfl ?_
  refine k_get Xc u_S rfl 0 (by decide) wd_30 rfl d_S_sidesMeet_1 (n := 4) rfl hS.1 hS.2.2.2.1 rfl ?_
  refine k_iload_n Xc d_S_sidesMeet_4 rfl rfl (n := 5) rfl ?_
  refine k_iald Xc d_S_sidesMeet_5 (n := 6) rfl hS.2.1 hS.2.2.2.2.1 (by omega) (by omega) (by decide) ?_
  refine k_aload_n Xc d_S_sidesMeet_6 rfl rfl (n := 7) rfl ?_
  refine k_get Xc u_S rfl 0 (by decide) wd_30 rfl d_S_sidesMeet_7 (n := 10) rfl hS.1 hS.2.2.2.1 rfl ?_
  refine k_aload_n Xc d_S_sidesMeet_10 rfl rfl (n := 11) rfl ?_
  refine k_iload_n Xc d_S_sidesMeet_11 rfl rfl (n := 12) rfl ?_
  refine k_qV (na := 1) Xc (m_S_next l D G hS hB.1 _ (by omega)) hS.1 hS.2.2.2.1 rfl wd_181 wd_178 wd_179 wd_180 wd_2 (by decide +kernel) ⟨by decide, by decide⟩ rfl rfl (Nat.le_of_ble_eq_true rfl) d_S_sidesMeet_12 (n := 15) rfl ⟨Nat.zero_le _, Nat.zero_le _⟩ (fun r_12 e_12 => ?_)
  subst e_12
  refine k_iald Xc d_S_sidesMeet_15 (n := 16) rfl hS.2.1 hS.2.2.2.2.1 (by omega) (by omega) (by decide) ?_
  refine k_aload_n Xc d_S_sidesMeet_16 rfl rfl (n := 17) rfl ?_
  refine k_get Xc u_S rfl 0 (by decide) wd_30 rfl d_S_sidesMeet_17 (n := 20) rfl hS.1 hS.2.2.2.1 rfl ?_
  refine k_iload_n Xc d_S_sidesMeet_20 rfl rfl (n := 21) rfl ?_
  refine k_iald Xc d_S_sidesMeet_21 (n := 22) rfl hS.2.1 hS.2.2.2.2.1 (by omega) (by omega) (by decide) ?_
  refine k_aload_n Xc d_S_sidesMeet_22 rfl rfl (n := 23) rfl ?_
  refine k_get Xc u_S rfl 0 (by decide) wd_30 rfl d_S_sidesMeet_23 (n := 26) rfl hS.1 hS.2.2.2.1 rfl ?_
  refine k_aload_n Xc d_S_sidesMeet_26 rfl rfl (n := 27) rfl ?_
  refine k_iload_n Xc d_S_sidesMeet_27 rfl rfl (n := 28) rfl ?_
  refine k_qV (na := 1) Xc (m_S_next l D G hS hB.1 _ (by omega)) hS.1 hS.2.2.2.1 rfl wd_181 wd_178 wd_179 wd_180 wd_2 (by decide +kernel) ⟨by decide, by decide⟩ rfl rfl (Nat.le_of_ble_eq_true rfl) d_S_sidesMeet_28 (n := 31) rfl ⟨Nat.zero_le _, Nat.zero_le _⟩ (fun r_28 e_28 => ?_)
  subst e_28
  refine k_iald Xc d_S_sidesMeet_31 (n := 32) rfl hS.2.1 hS.2.2.2.2.1 (by omega) (by omega) (by decide) ?_
  refine k_qS (na := 4) Xc (m_S_rangesMeet l D G _ _ _ _ (by omega)) wd_332 wd_330 wd_331 wd_2 (by decide +kernel) ⟨by decide, by decide⟩ rfl rfl (Nat.le_of_ble_eq_true rfl) d_S_sidesMeet_32 (n := 35) rfl ⟨Nat.zero_le _, Nat.zero_le _⟩ (fun r_32 e_32 => ?_)
  rcases e_32 with ⟨e_32, rfl⟩ | ⟨e_32, rfl⟩
  · refine k_if_eq Xc d_S_sidesMeet_35 (t := 98) (n := 38) rfl rfl (by omega) (fun h_35 => absurd h_35 (by omega)) (fun _ => ?_)
    refine k_aload_n Xc d_S_sidesMeet_38 rfl rfl (n := 39) rfl ?_
    refine k_get Xc u_S rfl 1 (by decide) wd_31 rfl d_S_sidesMeet_39 (n := 42) rfl hS.1 hS.2.2.2.1 rfl ?_
    refine k_iload_n Xc d_S_sidesMeet_42 rfl rfl (n := 43) rfl ?_
    refine k_iald Xc d_S_sidesMeet_43 (n := 44) rfl hS.2.2.1 hS.2.2.2.2.2 (by omega) (by omega) (by decide) ?_
    refine k_aload_n Xc d_S_sidesMeet_44 rfl rfl (n := 45) rfl ?_
    refine k_get Xc u_S rfl 1 (by decide) wd_31 rfl d_S_sidesMeet_45 (n := 48) rfl hS.1 hS.2.2.2.1 rfl ?_
    refine k_aload_n Xc d_S_sidesMeet_48 rfl rfl (n := 49) rfl ?_
    refine k_iload_n Xc d_S_sidesMeet_49 rfl rfl (n := 50) rfl ?_
    refine k_qV (na := 1) Xc (m_S_next l D G hS hB.1 _ (by omega)) hS.1 hS.2.2.2.1 rfl wd_181 wd_178 wd_179 wd_180 wd_2 (by decide +kernel) ⟨by decide, by decide⟩ rfl rfl (Nat.le_of_ble_eq_true rfl) d_S_sidesMeet_50 (n := 53) rfl ⟨Nat.zero_le _, Nat.zero_le _⟩ (fun r_50 e_50 => ?_)
    subst e_50
    refine k_iald Xc d_S_sidesMeet_53 (n := 54) rfl hS.2.2.1 hS.2.2.2.2.2 (by omega) (by omega) (by decide) ?_
    refine k_aload_n Xc d_S_sidesMeet_54 rfl rfl (n := 55) rfl ?_
    refine k_get Xc u_S rfl 1 (by decide) wd_31 rfl d_S_sidesMeet_55 (n := 58) rfl hS.1 hS.2.2.2.1 rfl ?_
    refine k_iload_n Xc d_S_sidesMeet_58 rfl rfl (n := 59) rfl ?_
    refine k_iald Xc d_S_sidesMeet_59 (n := 60) rfl hS.2.2.1 hS.2.2.2.2.2 (by omega) (by omega) (by decide) ?_
    refine k_aload_n Xc d_S_sidesMeet_60 rfl rfl (n := 61) rfl ?_
    refine k_get Xc u_S rfl 1 (by decide) wd_31 rfl d_S_sidesMeet_61 (n := 64) rfl hS.1 hS.2.2.2.1 rfl ?_
    refine k_aload_n Xc d_S_sidesMeet_64 rfl rfl (n := 65) rfl ?_
    refine k_iload_n Xc d_S_sidesMeet_65 rfl rfl (n := 66) rfl ?_
    refine k_qV (na := 1) Xc (m_S_next l D G hS hB.1 _ (by omega)) hS.1 hS.2.2.2.1 rfl wd_181 wd_178 wd_179 wd_180 wd_2 (by decide +kernel) ⟨by decide, by decide⟩ rfl rfl (Nat.le_of_ble_eq_true rfl) d_S_sidesMeet_66 (n := 69) rfl ⟨Nat.zero_le _, Nat.zero_le _⟩ (fun r_66 e_66 => ?_)
    subst e_66
    refine k_iald Xc d_S_sidesMeet_69 (n := 70) rfl hS.2.2.1 hS.2.2.2.2.2 (by omega) (by omega) (by decide) ?_
    refine k_qS (na := 4) Xc (m_S_rangesMeet l D G _ _ _ _ (by omega)) wd_332 wd_330 wd_331 wd_2 (by decide +kernel) ⟨by decide, by decide⟩ rfl rfl (Nat.le_of_ble_eq_true rfl) d_S_sidesMeet_70 (n := 73) rfl ⟨Nat.zero_le _, Nat.zero_le _⟩ (fun r_70 e_70 => ?_)
    rcases e_70 with ⟨e_70, rfl⟩ | ⟨e_70, rfl⟩
    · refine k_if_eq Xc d_S_sidesMeet_73 (t := 98) (n := 76) rfl rfl (by omega) (fun h_73 => absurd h_73 (by omega)) (fun _ => ?_)
      refine k_aload_n Xc d_S_sidesMeet_76 rfl rfl (n := 77) rfl ?_
      refine k_iload_n Xc d_S_sidesMeet_77 rfl rfl (n := 78) rfl ?_
      refine k_iload_n Xc d_S_sidesMeet_78 rfl rfl (n := 79) rfl ?_
      refine k_qV (na := 2) Xc (m_S_lineMeets l D G hS hB _ _ (by omega) (by omega)) hS.1 hS.2.2.2.1 rfl wd_336 wd_333 wd_334 wd_335 wd_2 (by decide +kernel) ⟨by decide, by decide⟩ rfl rfl (Nat.le_of_ble_eq_true rfl) d_S_sidesMeet_79 (n := 82) rfl ⟨Nat.zero_le _, Nat.zero_le _⟩ (fun r_79 e_79 => ?_)
      rcases e_79 with ⟨e_79, rfl⟩ | ⟨e_79, rfl⟩
      · refine k_if_eq Xc d_S_sidesMeet_82 (t := 98) (n := 85) rfl rfl (by omega) (fun h_82 => absurd h_82 (by omega)) (fun _ => ?_)
        refine k_aload_n Xc d_S_sidesMeet_85 rfl rfl (n := 86) rfl ?_
        refine k_iload_n Xc d_S_sidesMeet_86 rfl rfl (n := 87) rfl ?_
        refine k_iload_n Xc d_S_sidesMeet_87 rfl rfl (n := 88) rfl ?_
        refine k_qV (na := 2) Xc (m_S_lineMeets l D G hS hB _ _ (by omega) (by omega)) hS.1 hS.2.2.2.1 rfl wd_336 wd_333 wd_334 wd_335 wd_2 (by decide +kernel) ⟨by decide, by decide⟩ rfl rfl (Nat.le_of_ble_eq_true rfl) d_S_sidesMeet_88 (n := 91) rfl ⟨Nat.zero_le _, Nat.zero_le _⟩ (fun r_88 e_88 => ?_)
        rcases e_88 with ⟨e_88, rfl⟩ | ⟨e_88, rfl⟩
        · refine k_if_eq Xc d_S_sidesMeet_91 (t := 98) (n := 94) rfl rfl (by omega) (fun h_91 => absurd h_91 (by omega)) (fun _ => ?_)
          refine k_iconst Xc d_S_sidesMeet_94 (n := 95) rfl ?_
          refine k_goto Xc d_S_sidesMeet_95 (t := 99) rfl ?_
          refine k_iret Xc d_S_sidesMeet_99 hr rfl (Nat.le_refl _) (Nat.le_refl _) ⟨_, rfl, ?_, rfl, rfl⟩
          exact Or.inl ⟨⟨e_32, e_70, e_79, e_88⟩, rfl⟩
        · refine k_if_eq Xc d_S_sidesMeet_91 (t := 98) (n := 94) rfl rfl (by omega) (fun _ => ?_) (fun h_91 => absurd h_91 (by omega))
          refine k_iconst Xc d_S_sidesMeet_98 (n := 99) rfl ?_
          refine k_iret Xc d_S_sidesMeet_99 hr rfl (Nat.le_refl _) (Nat.le_refl _) ⟨_, rfl, ?_, rfl, rfl⟩
          exact Or.inr ⟨fun q => by obtain ⟨z1, z2, z3, z4⟩ := q; contradiction, rfl⟩
      · refine k_if_eq Xc d_S_sidesMeet_82 (t := 98) (n := 85) rfl rfl (by omega) (fun _ => ?_) (fun h_82 => absurd h_82 (by omega))
        refine k_iconst Xc d_S_sidesMeet_98 (n := 99) rfl ?_
        refine k_iret Xc d_S_sidesMeet_99 hr rfl (Nat.le_refl _) (Nat.le_refl _) ⟨_, rfl, ?_, rfl, rfl⟩
        exact Or.inr ⟨fun q => by obtain ⟨z1, z2, z3, z4⟩ := q; contradiction, rfl⟩
    · refine k_if_eq Xc d_S_sidesMeet_73 (t := 98) (n := 76) rfl rfl (by omega) (fun _ => ?_) (fun h_73 => absurd h_73 (by omega))
      refine k_iconst Xc d_S_sidesMeet_98 (n := 99) rfl ?_
      refine k_iret Xc d_S_sidesMeet_99 hr rfl (Nat.le_refl _) (Nat.le_refl _) ⟨_, rfl, ?_, rfl, rfl⟩
      exact Or.inr ⟨fun q => by obtain ⟨z1, z2, z3, z4⟩ := q; contradiction, rfl⟩
  · refine k_if_eq Xc d_S_sidesMeet_35 (t := 98) (n := 38) rfl rfl (by omega) (fun _ => ?_) (fun h_35 => absurd h_35 (by omega))
    refine k_iconst Xc d_S_sidesMeet_98 (n := 99) rfl ?_
    refine k_iret Xc d_S_sidesMeet_99 hr rfl (Nat.le_refl _) (Nat.le_refl _) ⟨_, rfl, ?_, rfl, rfl⟩
    exact Or.inr ⟨fun q => by obtain ⟨z1, z2, z3, z4⟩ := q; contradiction, rfl⟩
end
section
-- SHAPE: queries
set_option maxRecDepth 100000 in
set_option maxHeartbeats 4000000 in
/-- round, with 3 to 6 corners -/
theorem m_S_isRound (l : Launch) (D : va_G) (G : Nat → ClassId) {L : List Nat} {f : Nat → va_E} {a ax ay n : Nat} {X Y : Int → Int} {lx hx ly hy : Int} (hS : zS G L f a ax ay n X Y lx hx ly hy) (hB : sB n X Y) : zM l D G y_S_isRound (.code y_S_isRound c_S_isRound 5 (some .boolean) :: BG) (zR0 1 24) [.ref a] L f (zA L f (fun r => zB (3 ≤ n ∧ n ≤ 6 ∧ ge_rd n (sP X Y)) r)) := by
  refine zM.of (by decide) (Nat.le_of_ble_eq_true rfl) rfl (fun p e s m args below meth c A Xc hr hnm => ?_)
  have hn := hB.1
  obtain ⟨w, hw⟩ : ∃ w : Int, w = (if 0 < ge_bs (sP X Y) n 0 (sP X Y 2) then 1 else -1) := ⟨_, rfl⟩
  have hw1 : w = 1 ∨ w = -1 := by rw [hw]; split <;> omega
  have loop : 3 ≤ n → n ≤ 6 → ∀ (d i : Nat), n < i + d → i ≤ n → (∀ i2 k2, i2 < i → k2 < n → k2 ≠ i2 → k2 ≠ ge_nx n i2 → 0 < w * ge_bs (sP X Y) n i2 (sP X Y k2)) → zG p l e (zR0 1 24) s m args below meth c D A 5 0 0 (MQ below (zE D A (zA L f (fun r => zB (3 ≤ n ∧ n ≤ 6 ∧ ge_rd n (sP X Y)) r))) args s (zR0 1 24).cells (zR0 1 24).slots A) 47 [(0, .ref a), (1, .int (zI w)), (2, .int (zI (i : Int)))] [] L f := by
    intro h3 h6 d
    induction d with
    | zero => intro i h1 h2; omega
    | succ d ih =>
      intro i h1 h2 hI
      have inner : i < n → ∀ (d2 k : Nat), n < k + d2 → k ≤ n → (∀ k2, k2 < k → k2 ≠ i → k2 ≠ ge_nx n i → 0 < w * ge_bs (sP X Y) n i (sP X Y k2)) → zG p l e (zR0 1 24) s m args below meth c D A 5 0 0 (MQ below (zE D A (zA L f (fun r => zB (3 ≤ n ∧ n ≤ 6 ∧ ge_rd n (sP X Y)) r))) args s (zR0 1 24).cells (zR0 1 24).slots A) 57 [(0, .ref a), (1, .int (zI w)), (2, .int (zI (i : Int))), (3, .int (zI (k : Int)))] [] L f := by
        intro hi d2
        induction d2 with
        | zero => intro k g1 g2; omega
        | succ d2 ih2 =>
          intro k g1 g2 hJ
          have l1 : ge_nx n i < n := nx_lt (by omega)
          refine k_iload_n Xc d_S_isRound_57 rfl rfl (n := 58) rfl ?_
          refine k_aload_n Xc d_S_isRound_58 rfl rfl (n := 59) rfl ?_
          refine k_get Xc u_S rfl 2 (by decide) wd_32 rfl d_S_isRound_59 (n := 62) rfl hS.1 hS.2.2.2.1 rfl ?_
          refine k_icmp_ge Xc d_S_isRound_62 (t := 121) (n := 65) rfl rfl (by omega) (by omega) (fun h_62 => ?_) (fun h_62 => ?_)
          · refine k_iinc Xc d_S_isRound_121 rfl (by decide) (n := 124) rfl ?_
            refine k_goto Xc d_S_isRound_124 (t := 47) rfl ?_
            exact k_loc (ih (i + 1) (by omega) (by omega) (fun i2 k2 q1 q2 q3 q4 => by
              rcases Nat.lt_or_ge i2 i with q | q
              · exact hI i2 k2 q q2 q3 q4
              · have e : i2 = i := by omega
                subst e
                exact hJ k2 (by omega) q3 q4)) rfl
          · refine k_iload_n Xc d_S_isRound_65 rfl rfl (n := 66) rfl ?_
            refine k_iload_n Xc d_S_isRound_66 rfl rfl (n := 67) rfl ?_
            refine k_icmp_eq Xc d_S_isRound_67 (t := 79) (n := 70) rfl rfl (by omega) (by omega) (fun h_67 => ?_) (fun h_67 => ?_)
            · refine k_iconst Xc d_S_isRound_79 (n := 80) rfl ?_
              refine k_goto Xc d_S_isRound_80 (t := 84) rfl ?_
              refine k_istore Xc d_S_isRound_84 (by decide) (n := 86) rfl ?_
              refine k_iload Xc d_S_isRound_86 rfl (n := 88) rfl ?_
              refine k_if_ne Xc d_S_isRound_88 (t := 115) (n := 91) rfl rfl (by omega) (fun _ => ?_) (fun h_88 => absurd h_88 (by omega))
              refine k_iinc Xc d_S_isRound_115 rfl (by decide) (n := 118) rfl ?_
              refine k_goto Xc d_S_isRound_118 (t := 57) rfl ?_
              exact k_loc (ih2 (k + 1) (by omega) (by omega) (fun k2 q q1 q2 => by
                rcases Nat.lt_or_ge k2 k with q3 | q3
                · exact hJ k2 q3 q1 q2
                · have e : k2 = k := by omega
                  subst e
                  first | exact absurd rfl q1 | omega | (exact absurd (by omega) q2) | (have z1 : w * ge_bs (sP X Y) n i (sP X Y k2) = w * ge_bs (sP X Y) n i (X (k2 : Int), Y (k2 : Int)) := rfl; omega))) rfl
            · refine k_iload_n Xc d_S_isRound_70 rfl rfl (n := 71) rfl ?_
              refine k_aload_n Xc d_S_isRound_71 rfl rfl (n := 72) rfl ?_
              refine k_iload_n Xc d_S_isRound_72 rfl rfl (n := 73) rfl ?_
              refine k_qV (na := 1) Xc (m_S_next l D G hS hB.1 _ (by omega)) hS.1 hS.2.2.2.1 rfl wd_181 wd_178 wd_179 wd_180 wd_2 (by decide +kernel) ⟨by decide, by decide⟩ rfl rfl (Nat.le_of_ble_eq_true rfl) d_S_isRound_73 (n := 76) rfl ⟨Nat.zero_le _, Nat.zero_le _⟩ (fun r_73 e_73 => ?_)
              subst e_73
              refine k_icmp_ne Xc d_S_isRound_76 (t := 83) (n := 79) rfl rfl (by omega) (by omega) (fun h_76 => ?_) (fun h_76 => ?_)
              · refine k_iconst Xc d_S_isRound_83 (n := 84) rfl ?_
                refine k_istore Xc d_S_isRound_84 (by decide) (n := 86) rfl ?_
                refine k_iload Xc d_S_isRound_86 rfl (n := 88) rfl ?_
                refine k_if_ne Xc d_S_isRound_88 (t := 115) (n := 91) rfl rfl (by omega) (fun h_88 => absurd h_88 (by omega)) (fun _ => ?_)
                refine k_iload_n Xc d_S_isRound_91 rfl rfl (n := 92) rfl ?_
                refine k_aload_n Xc d_S_isRound_92 rfl rfl (n := 93) rfl ?_
                refine k_iload_n Xc d_S_isRound_93 rfl rfl (n := 94) rfl ?_
                refine k_aload_n Xc d_S_isRound_94 rfl rfl (n := 95) rfl ?_
                refine k_get Xc u_S rfl 0 (by decide) wd_30 rfl d_S_isRound_95 (n := 98) rfl hS.1 hS.2.2.2.1 rfl ?_
                refine k_iload_n Xc d_S_isRound_98 rfl rfl (n := 99) rfl ?_
                refine k_iald Xc d_S_isRound_99 (n := 100) rfl hS.2.1 hS.2.2.2.2.1 (by omega) (by omega) (by decide) ?_
                refine k_aload_n Xc d_S_isRound_100 rfl rfl (n := 101) rfl ?_
                refine k_get Xc u_S rfl 1 (by decide) wd_31 rfl d_S_isRound_101 (n := 104) rfl hS.1 hS.2.2.2.1 rfl ?_
                refine k_iload_n Xc d_S_isRound_104 rfl rfl (n := 105) rfl ?_
                refine k_iald Xc d_S_isRound_105 (n := 106) rfl hS.2.2.1 hS.2.2.2.2.2 (by omega) (by omega) (by decide) ?_
                have c1 := hB.2 k (by omega)
                refine k_qV (na := 3) Xc (m_S_beside l D G hS hB _ (by omega) _ _ (by omega) (by omega) (by omega) (by omega)) hS.1 hS.2.2.2.1 rfl wd_325 wd_322 wd_323 wd_324 wd_2 (by decide +kernel) ⟨by decide, by decide⟩ rfl rfl (Nat.le_of_ble_eq_true rfl) d_S_isRound_106 (n := 109) rfl ⟨Nat.zero_le _, Nat.zero_le _⟩ (fun r_106 e_106 => ?_)
                subst e_106
                have c2 := bs_bd hB hi (px := X (k : Int)) (py := Y (k : Int)) (by omega) (by omega) (by omega) (by omega)
                have c3 : w * ge_bs (sP X Y) n i (X (k : Int), Y (k : Int)) = ge_bs (sP X Y) n i (X (k : Int), Y (k : Int)) ∨ w * ge_bs (sP X Y) n i (X (k : Int), Y (k : Int)) = - ge_bs (sP X Y) n i (X (k : Int), Y (k : Int)) := by rcases hw1 with q | q <;> rw [q] <;> omega
                refine k_imul Xc d_S_isRound_109 (n := 110) rfl ?_
                refine k_if_gt Xc d_S_isRound_110 (t := 115) (n := 113) rfl rfl (by omega) (fun h_110 => ?_) (fun h_110 => ?_)
                · refine k_iinc Xc d_S_isRound_115 rfl (by decide) (n := 118) rfl ?_
                  refine k_goto Xc d_S_isRound_118 (t := 57) rfl ?_
                  exact k_loc (ih2 (k + 1) (by omega) (by omega) (fun k2 q q1 q2 => by
                    rcases Nat.lt_or_ge k2 k with q3 | q3
                    · exact hJ k2 q3 q1 q2
                    · have e : k2 = k := by omega
                      subst e
                      first | exact absurd rfl q1 | omega | (exact absurd (by omega) q2) | (have z1 : w * ge_bs (sP X Y) n i (sP X Y k2) = w * ge_bs (sP X Y) n i (X (k2 : Int), Y (k2 : Int)) := rfl; omega))) rfl
                · refine k_iconst Xc d_S_isRound_113 (n := 114) rfl ?_
                  refine k_iret Xc d_S_isRound_114 hr rfl (Nat.le_refl _) (Nat.le_refl _) ⟨_, rfl, ?_, rfl, rfl⟩
                  exact Or.inr ⟨fun q => by
                    have z := q.2.2 i k hi (by omega) (by omega) (by omega)
                    rw [← hw] at z
                    have z1 : w * ge_bs (sP X Y) n i (sP X Y k) = w * ge_bs (sP X Y) n i (X (k : Int), Y (k : Int)) := rfl
                    omega, rfl⟩
              · refine k_iconst Xc d_S_isRound_79 (n := 80) rfl ?_
                refine k_goto Xc d_S_isRound_80 (t := 84) rfl ?_
                refine k_istore Xc d_S_isRound_84 (by decide) (n := 86) rfl ?_
                refine k_iload Xc d_S_isRound_86 rfl (n := 88) rfl ?_
                refine k_if_ne Xc d_S_isRound_88 (t := 115) (n := 91) rfl rfl (by omega) (fun _ => ?_) (fun h_88 => absurd h_88 (by omega))
                refine k_iinc Xc d_S_isRound_115 rfl (by decide) (n := 118) rfl ?_
                refine k_goto Xc d_S_isRound_118 (t := 57) rfl ?_
                exact k_loc (ih2 (k + 1) (by omega) (by omega) (fun k2 q q1 q2 => by
                  rcases Nat.lt_or_ge k2 k with q3 | q3
                  · exact hJ k2 q3 q1 q2
                  · have e : k2 = k := by omega
                    subst e
                    first | exact absurd rfl q1 | omega | (exact absurd (by omega) q2) | (have z1 : w * ge_bs (sP X Y) n i (sP X Y k2) = w * ge_bs (sP X Y) n i (X (k2 : Int), Y (k2 : Int)) := rfl; omega))) rfl
      refine k_iload_n Xc d_S_isRound_47 rfl rfl (n := 48) rfl ?_
      refine k_aload_n Xc d_S_isRound_48 rfl rfl (n := 49) rfl ?_
      refine k_get Xc u_S rfl 2 (by decide) wd_32 rfl d_S_isRound_49 (n := 52) rfl hS.1 hS.2.2.2.1 rfl ?_
      refine k_icmp_ge Xc d_S_isRound_52 (t := 127) (n := 55) rfl rfl (by omega) (by omega) (fun h_52 => ?_) (fun h_52 => ?_)
      · refine k_iconst Xc d_S_isRound_127 (n := 128) rfl ?_
        refine k_iret Xc d_S_isRound_128 hr rfl (Nat.le_refl _) (Nat.le_refl _) ⟨_, rfl, ?_, rfl, rfl⟩
        exact Or.inl ⟨⟨h3, h6, fun i2 k2 q1 q2 q3 q4 => by rw [← hw]; exact hI i2 k2 (by omega) q2 q3 q4⟩, rfl⟩
      · refine k_iconst Xc d_S_isRound_55 (n := 56) rfl ?_
        refine k_istore_n Xc d_S_isRound_56 rfl (by decide) (n := 57) rfl ?_
        exact k_loc (inner (by omega) (n + 1) 0 (by omega) (by omega) (fun k2 q => absurd q (by omega))) rfl
  refine k_aload_n Xc d_S_isRound_0 rfl rfl (n := 1) rfl ?_
  refine k_get Xc u_S rfl 2 (by decide) wd_32 rfl d_S_isRound_1 (n := 4) rfl hS.1 hS.2.2.2.1 rfl ?_
  refine k_iconst Xc d_S_isRound_4 (n := 5) rfl ?_
  refine k_icmp_lt Xc d_S_isRound_5 (t := 17) (n := 8) rfl rfl (by omega) (by omega) (fun h_5 => ?_) (fun h_5 => ?_)
  · refine k_iconst Xc d_S_isRound_17 (n := 18) rfl ?_
    refine k_iret Xc d_S_isRound_18 hr rfl (Nat.le_refl _) (Nat.le_refl _) ⟨_, rfl, ?_, rfl, rfl⟩
    exact Or.inr ⟨fun q => by omega, rfl⟩
  · refine k_aload_n Xc d_S_isRound_8 rfl rfl (n := 9) rfl ?_
    refine k_get Xc u_S rfl 2 (by decide) wd_32 rfl d_S_isRound_9 (n := 12) rfl hS.1 hS.2.2.2.1 rfl ?_
    refine k_bipush Xc d_S_isRound_12 rfl (n := 14) rfl ?_
    refine k_icmp_le Xc d_S_isRound_14 (t := 19) (n := 17) rfl rfl (by omega) (by omega) (fun h_14 => ?_) (fun h_14 => ?_)
    · refine k_aload_n Xc d_S_isRound_19 rfl rfl (n := 20) rfl ?_
      refine k_iconst Xc d_S_isRound_20 (n := 21) rfl ?_
      refine k_aload_n Xc d_S_isRound_21 rfl rfl (n := 22) rfl ?_
      refine k_get Xc u_S rfl 0 (by decide) wd_30 rfl d_S_isRound_22 (n := 25) rfl hS.1 hS.2.2.2.1 rfl ?_
      refine k_iconst Xc d_S_isRound_25 (n := 26) rfl ?_
      refine k_iald Xc d_S_isRound_26 (n := 27) rfl hS.2.1 hS.2.2.2.2.1 (by omega) (by omega) (by decide) ?_
      refine k_aload_n Xc d_S_isRound_27 rfl rfl (n := 28) rfl ?_
      refine k_get Xc u_S rfl 1 (by decide) wd_31 rfl d_S_isRound_28 (n := 31) rfl hS.1 hS.2.2.2.1 rfl ?_
      refine k_iconst Xc d_S_isRound_31 (n := 32) rfl ?_
      refine k_iald Xc d_S_isRound_32 (n := 33) rfl hS.2.2.1 hS.2.2.2.2.2 (by omega) (by omega) (by decide) ?_
      have c1 := hB.2 2 (by omega)
      have c0 := bs_bd hB (i := 0) (by omega) (px := X 2) (py := Y 2) (by have : X 2 = X ((2 : Nat) : Int) := rfl; omega) (by have : X 2 = X ((2 : Nat) : Int) := rfl; omega) (by have : Y 2 = Y ((2 : Nat) : Int) := rfl; omega) (by have : Y 2 = Y ((2 : Nat) : Int) := rfl; omega)
      have c4 : X 2 = X ((2 : Nat) : Int) := rfl
      have c5 : Y 2 = Y ((2 : Nat) : Int) := rfl
      refine k_qV (na := 3) Xc (m_S_beside l D G hS hB 0 (by omega) _ _ (by omega) (by omega) (by omega) (by omega)) hS.1 hS.2.2.2.1 rfl wd_325 wd_322 wd_323 wd_324 wd_2 (by decide +kernel) ⟨by decide, by decide⟩ rfl rfl (Nat.le_of_ble_eq_true rfl) d_S_isRound_33 (n := 36) rfl ⟨Nat.zero_le _, Nat.zero_le _⟩ (fun r_33 e_33 => ?_)
      subst e_33
      refine k_if_le Xc d_S_isRound_36 (t := 43) (n := 39) rfl rfl (by omega) (fun h_36 => ?_) (fun h_36 => ?_)
      · refine k_iconst Xc d_S_isRound_43 (n := 44) rfl ?_
        refine k_istore_n Xc d_S_isRound_44 rfl (by decide) (n := 45) rfl ?_
        refine k_iconst Xc d_S_isRound_45 (n := 46) rfl ?_
        refine k_istore_n Xc d_S_isRound_46 rfl (by decide) (n := 47) rfl ?_
        exact k_loc (loop (by omega) (by omega) (n + 1) 0 (by omega) (by omega) (fun i2 k2 q => absurd q (by omega))) (by rw [hw, if_neg (by have z : ge_bs (sP X Y) n 0 (sP X Y 2) = ge_bs (sP X Y) n 0 (X 2, Y 2) := rfl; omega)]; rfl)
      · refine k_iconst Xc d_S_isRound_39 (n := 40) rfl ?_
        refine k_goto Xc d_S_isRound_40 (t := 44) rfl ?_
        refine k_istore_n Xc d_S_isRound_44 rfl (by decide) (n := 45) rfl ?_
        refine k_iconst Xc d_S_isRound_45 (n := 46) rfl ?_
        refine k_istore_n Xc d_S_isRound_46 rfl (by decide) (n := 47) rfl ?_
        exact k_loc (loop (by omega) (by omega) (n + 1) 0 (by omega) (by omega) (fun i2 k2 q => absurd q (by omega))) (by rw [hw, if_pos (by have z : ge_bs (sP X Y) n 0 (sP X Y 2) = ge_bs (sP X Y) n 0 (X 2, Y 2) := rfl; omega)]; rfl)
    · refine k_iconst Xc d_S_isRound_17 (n := 18) rfl ?_
      refine k_iret Xc d_S_isRound_18 hr rfl (Nat.le_refl _) (Nat.le_refl _) ⟨_, rfl, ?_, rfl, rfl⟩
      exact Or.inr ⟨fun q => by omega, rfl⟩
set_option maxRecDepth 100000 in
set_option maxHeartbeats 4000000 in
/-- plain, with 3 corners or more -/
theorem m_S_isPlain (l : Launch) (D : va_G) (G : Nat → ClassId) {L : List Nat} {f : Nat → va_E} {a ax ay n : Nat} {X Y : Int → Int} {lx hx ly hy : Int} (hS : zS G L f a ax ay n X Y lx hx ly hy) (hB : sB n X Y) : zM l D G y_S_isPlain (.code y_S_isPlain c_S_isPlain 4 (some .boolean) :: BG) (zR0 3 71) [.ref a] L f (zA L f (fun r => zB (3 ≤ n ∧ ge_plC n (sP X Y)) r)) := by
  refine zM.of (by decide) (Nat.le_of_ble_eq_true rfl) rfl (fun p e s m args below meth c A Xc hr hnm => ?_)
  have hn := hB.1
  have loop : 3 ≤ n → ∀ (d i : Nat), n < i + d → i ≤ n → (∀ i2, i2 < i → ¬ ge_fd n (sP X Y) i2 ∧ ∀ j, i2 + 2 ≤ j → j < n → ge_nx n j ≠ i2 → ¬ ge_mtC n (sP X Y) i2 j) → zG p l e (zR0 3 71) s m args below meth c D A 4 0 0 (MQ below (zE D A (zA L f (fun r => zB (3 ≤ n ∧ ge_plC n (sP X Y)) r))) args s (zR0 3 71).cells (zR0 3 71).slots A) 12 [(0, .ref a), (1, .int (zI (i : Int)))] [] L f := by
    intro h3 d
    induction d with
    | zero => intro i h1 h2; omega
    | succ d ih =>
      intro i h1 h2 hI
      have inner : i < n → ¬ ge_fd n (sP X Y) i → ∀ (d2 j : Nat), n + 2 < j + d2 → i + 2 ≤ j → j ≤ n + 1 → (∀ j2, i + 2 ≤ j2 → j2 < j → ge_nx n j2 ≠ i → ¬ ge_mtC n (sP X Y) i j2) → zG p l e (zR0 3 71) s m args below meth c D A 4 0 0 (MQ below (zE D A (zA L f (fun r => zB (3 ≤ n ∧ ge_plC n (sP X Y)) r))) args s (zR0 3 71).cells (zR0 3 71).slots A) 34 [(0, .ref a), (1, .int (zI (i : Int))), (2, .int (zI (j : Int)))] [] L f := by
        intro hi hfd d2
        induction d2 with
        | zero => intro j g1 g0 g2; omega
        | succ d2 ih2 =>
          intro j g1 g0 g2 hJ
          have l9 : ge_nx n j < n := nx_lt (by omega)
          refine k_iload_n Xc d_S_isPlain_34 rfl rfl (n := 35) rfl ?_
          refine k_aload_n Xc d_S_isPlain_35 rfl rfl (n := 36) rfl ?_
          refine k_get Xc u_S rfl 2 (by decide) wd_32 rfl d_S_isPlain_36 (n := 39) rfl hS.1 hS.2.2.2.1 rfl ?_
          refine k_icmp_ge Xc d_S_isPlain_39 (t := 78) (n := 42) rfl rfl (by omega) (by omega) (fun h_39 => ?_) (fun h_39 => ?_)
          · refine k_iinc Xc d_S_isPlain_78 rfl (by decide) (n := 81) rfl ?_
            refine k_goto Xc d_S_isPlain_81 (t := 12) rfl ?_
            exact k_loc (ih (i + 1) (by omega) (by omega) (fun i2 q => by
              rcases Nat.lt_or_ge i2 i with q1 | q1
              · exact hI i2 q1
              · have e : i2 = i := by omega
                subst e
                exact ⟨hfd, fun j2 z1 z2 z3 => hJ j2 z1 (by omega) z3⟩)) rfl
          · refine k_aload_n Xc d_S_isPlain_42 rfl rfl (n := 43) rfl ?_
            refine k_iload_n Xc d_S_isPlain_43 rfl rfl (n := 44) rfl ?_
            refine k_qV (na := 1) Xc (m_S_next l D G hS hB.1 _ (by omega)) hS.1 hS.2.2.2.1 rfl wd_181 wd_178 wd_179 wd_180 wd_2 (by decide +kernel) ⟨by decide, by decide⟩ rfl rfl (Nat.le_of_ble_eq_true rfl) d_S_isPlain_44 (n := 47) rfl ⟨Nat.zero_le _, Nat.zero_le _⟩ (fun r_44 e_44 => ?_)
            subst e_44
            refine k_iload_n Xc d_S_isPlain_47 rfl rfl (n := 48) rfl ?_
            refine k_icmp_ne Xc d_S_isPlain_48 (t := 55) (n := 51) rfl rfl (by omega) (by omega) (fun h_48 => ?_) (fun h_48 => ?_)
            · refine k_iconst Xc d_S_isPlain_55 (n := 56) rfl ?_
              refine k_istore_n Xc d_S_isPlain_56 rfl (by decide) (n := 57) rfl ?_
              refine k_iload_n Xc d_S_isPlain_57 rfl rfl (n := 58) rfl ?_
              refine k_if_ne Xc d_S_isPlain_58 (t := 72) (n := 61) rfl rfl (by omega) (fun h_58 => absurd h_58 (by omega)) (fun _ => ?_)
              refine k_aload_n Xc d_S_isPlain_61 rfl rfl (n := 62) rfl ?_
              refine k_iload_n Xc d_S_isPlain_62 rfl rfl (n := 63) rfl ?_
              refine k_iload_n Xc d_S_isPlain_63 rfl rfl (n := 64) rfl ?_
              refine k_qV (na := 2) Xc (m_S_sidesMeet l D G hS hB _ _ (by omega) (by omega)) hS.1 hS.2.2.2.1 rfl wd_329 wd_326 wd_327 wd_328 wd_2 (by decide +kernel) ⟨by decide, by decide⟩ rfl rfl (Nat.le_of_ble_eq_true rfl) d_S_isPlain_64 (n := 67) rfl ⟨Nat.zero_le _, Nat.zero_le _⟩ (fun r_64 e_64 => ?_)
              rcases e_64 with ⟨e_64, rfl⟩ | ⟨e_64, rfl⟩
              · refine k_if_eq Xc d_S_isPlain_67 (t := 72) (n := 70) rfl rfl (by omega) (fun h_67 => absurd h_67 (by omega)) (fun _ => ?_)
                refine k_iconst Xc d_S_isPlain_70 (n := 71) rfl ?_
                refine k_iret Xc d_S_isPlain_71 hr rfl (Nat.le_refl _) (Nat.le_refl _) ⟨_, rfl, ?_, rfl, rfl⟩
                exact Or.inr ⟨fun q => (q.2 i hi).2 j (by omega) (by omega) (by omega) e_64, rfl⟩
              · refine k_if_eq Xc d_S_isPlain_67 (t := 72) (n := 70) rfl rfl (by omega) (fun _ => ?_) (fun h_67 => absurd h_67 (by omega))
                refine k_iinc Xc d_S_isPlain_72 rfl (by decide) (n := 75) rfl ?_
                refine k_goto Xc d_S_isPlain_75 (t := 34) rfl ?_
                exact k_loc (ih2 (j + 1) (by omega) (by omega) (by omega) (fun j2 q0 q1 q2 => by
                  rcases Nat.lt_or_ge j2 j with q3 | q3
                  · exact hJ j2 q0 q3 q2
                  · have e : j2 = j := by omega
                    subst e
                    first | assumption | (exact absurd (by omega) q2))) rfl
            · refine k_iconst Xc d_S_isPlain_51 (n := 52) rfl ?_
              refine k_goto Xc d_S_isPlain_52 (t := 56) rfl ?_
              refine k_istore_n Xc d_S_isPlain_56 rfl (by decide) (n := 57) rfl ?_
              refine k_iload_n Xc d_S_isPlain_57 rfl rfl (n := 58) rfl ?_
              refine k_if_ne Xc d_S_isPlain_58 (t := 72) (n := 61) rfl rfl (by omega) (fun _ => ?_) (fun h_58 => absurd h_58 (by omega))
              refine k_iinc Xc d_S_isPlain_72 rfl (by decide) (n := 75) rfl ?_
              refine k_goto Xc d_S_isPlain_75 (t := 34) rfl ?_
              exact k_loc (ih2 (j + 1) (by omega) (by omega) (by omega) (fun j2 q0 q1 q2 => by
                rcases Nat.lt_or_ge j2 j with q3 | q3
                · exact hJ j2 q0 q3 q2
                · have e : j2 = j := by omega
                  subst e
                  first | assumption | (exact absurd (by omega) q2))) rfl
      refine k_iload_n Xc d_S_isPlain_12 rfl rfl (n := 13) rfl ?_
      refine k_aload_n Xc d_S_isPlain_13 rfl rfl (n := 14) rfl ?_
      refine k_get Xc u_S rfl 2 (by decide) wd_32 rfl d_S_isPlain_14 (n := 17) rfl hS.1 hS.2.2.2.1 rfl ?_
      refine k_icmp_ge Xc d_S_isPlain_17 (t := 84) (n := 20) rfl rfl (by omega) (by omega) (fun h_17 => ?_) (fun h_17 => ?_)
      · refine k_iconst Xc d_S_isPlain_84 (n := 85) rfl ?_
        refine k_iret Xc d_S_isPlain_85 hr rfl (Nat.le_refl _) (Nat.le_refl _) ⟨_, rfl, ?_, rfl, rfl⟩
        exact Or.inl ⟨⟨h3, fun i2 q => hI i2 (by omega)⟩, rfl⟩
      · refine k_aload_n Xc d_S_isPlain_20 rfl rfl (n := 21) rfl ?_
        refine k_iload_n Xc d_S_isPlain_21 rfl rfl (n := 22) rfl ?_
        refine k_qV (na := 1) Xc (m_S_foldsBack l D G hS hB _ (by omega)) hS.1 hS.2.2.2.1 rfl wd_321 wd_318 wd_319 wd_320 wd_2 (by decide +kernel) ⟨by decide, by decide⟩ rfl rfl (Nat.le_of_ble_eq_true rfl) d_S_isPlain_22 (n := 25) rfl ⟨Nat.zero_le _, Nat.zero_le _⟩ (fun r_22 e_22 => ?_)
        rcases e_22 with ⟨e_22, rfl⟩ | ⟨e_22, rfl⟩
        · refine k_if_eq Xc d_S_isPlain_25 (t := 30) (n := 28) rfl rfl (by omega) (fun h_25 => absurd h_25 (by omega)) (fun _ => ?_)
          refine k_iconst Xc d_S_isPlain_28 (n := 29) rfl ?_
          refine k_iret Xc d_S_isPlain_29 hr rfl (Nat.le_refl _) (Nat.le_refl _) ⟨_, rfl, ?_, rfl, rfl⟩
          exact Or.inr ⟨fun q => (q.2 i (by omega)).1 e_22, rfl⟩
        · refine k_if_eq Xc d_S_isPlain_25 (t := 30) (n := 28) rfl rfl (by omega) (fun _ => ?_) (fun h_25 => absurd h_25 (by omega))
          refine k_iload_n Xc d_S_isPlain_30 rfl rfl (n := 31) rfl ?_
          refine k_iconst Xc d_S_isPlain_31 (n := 32) rfl ?_
          refine k_iadd Xc d_S_isPlain_32 (n := 33) rfl ?_
          refine k_istore_n Xc d_S_isPlain_33 rfl (by decide) (n := 34) rfl ?_
          exact k_loc (inner (by omega) (by assumption) (n + 3) (i + 2) (by omega) (by omega) (by omega) (fun j2 q0 q1 => absurd q1 (by omega))) rfl
  refine k_aload_n Xc d_S_isPlain_0 rfl rfl (n := 1) rfl ?_
  refine k_get Xc u_S rfl 2 (by decide) wd_32 rfl d_S_isPlain_1 (n := 4) rfl hS.1 hS.2.2.2.1 rfl ?_
  refine k_iconst Xc d_S_isPlain_4 (n := 5) rfl ?_
  refine k_icmp_ge Xc d_S_isPlain_5 (t := 10) (n := 8) rfl rfl (by omega) (by omega) (fun h_5 => ?_) (fun h_5 => ?_)
  · refine k_iconst Xc d_S_isPlain_10 (n := 11) rfl ?_
    refine k_istore_n Xc d_S_isPlain_11 rfl (by decide) (n := 12) rfl ?_
    exact k_loc (loop (by omega) (n + 1) 0 (by omega) (by omega) (fun i2 q => absurd q (by omega))) rfl
  · refine k_iconst Xc d_S_isPlain_8 (n := 9) rfl ?_
    refine k_iret Xc d_S_isPlain_9 hr rfl (Nat.le_refl _) (Nat.le_refl _) ⟨_, rfl, ?_, rfl, rfl⟩
    exact Or.inr ⟨fun q => by omega, rfl⟩
end
section
-- SHAPE: queries
set_option maxRecDepth 100000 in
set_option maxHeartbeats 4000000 in
/-- some side has no corner of the other on its inner side -/
theorem m_S_sideParts (l : Launch) (D : va_G) (G : Nat → ClassId) {L : List Nat} {f : Nat → va_E} {a ax ay n : Nat} {X Y : Int → Int} {lx hx ly hy : Int} (hS : zS G L f a ax ay n X Y lx hx ly hy) (hB : sB n X Y) {b bx b_y k2 : Nat} {U V : Int → Int} {lu hu lv hv : Int} (hT : zS G L f b bx b_y k2 U V lu hu lv hv) (hC : sB k2 U V) (dx dy : Int) (q3 : -100 ≤ dx ∧ dx ≤ 100 ∧ -100 ≤ dy ∧ dy ≤ 100) : zM l D G y_S_sideParts (.code y_S_sideParts c_S_sideParts 7 (some .boolean) :: BG) (zR0 1 24) [.ref a, .ref b, .int (zI dx), .int (zI dy)] L f (zA L f (fun r => zB (ge_sp n (sP X Y) k2 (sP (fun q => U q + dx) (fun q => V q + dy))) r)) := by
  refine zM.of (by decide) (Nat.le_of_ble_eq_true rfl) rfl (fun p e s m args below meth c A Xc hr hnm => ?_)
  have hn := hB.1
  have hm := hC.1
  have loop : ∀ (d i : Nat), n < i + d → i ≤ n → (∀ i2, i2 < i → ∃ k, k < k2 ∧ 0 < ge_bs (sP X Y) n i2 (U (k : Int) + dx, V (k : Int) + dy)) → zG p l e (zR0 1 24) s m args below meth c D A 7 0 0 (MQ below (zE D A (zA L f (fun r => zB (ge_sp n (sP X Y) k2 (sP (fun q => U q + dx) (fun q => V q + dy))) r))) args s (zR0 1 24).cells (zR0 1 24).slots A) 3 [(0, .ref a), (1, .ref b), (2, .int (zI dx)), (3, .int (zI dy)), (4, .int (zI (i : Int)))] [] L f := by
    intro d
    induction d with
    | zero => intro i h1 h2; omega
    | succ d ih =>
      intro i h1 h2 hI
      have inner : i < n → ∀ (d2 k : Nat) (o : Int), k2 < k + d2 → k ≤ k2 → ((o = 1 ∧ ∀ k3, k3 < k → ge_bs (sP X Y) n i (U (k3 : Int) + dx, V (k3 : Int) + dy) ≤ 0) ∨ (o = 0 ∧ ∃ k3, k3 < k2 ∧ 0 < ge_bs (sP X Y) n i (U (k3 : Int) + dx, V (k3 : Int) + dy))) → zG p l e (zR0 1 24) s m args below meth c D A 7 0 0 (MQ below (zE D A (zA L f (fun r => zB (ge_sp n (sP X Y) k2 (sP (fun q => U q + dx) (fun q => V q + dy))) r))) args s (zR0 1 24).cells (zR0 1 24).slots A) 18 [(0, .ref a), (1, .ref b), (2, .int (zI dx)), (3, .int (zI dy)), (4, .int (zI (i : Int))), (5, .int (zI o)), (6, .int (zI (k : Int)))] [] L f := by
        intro hi d2
        induction d2 with
        | zero => intro k o g1 g2; omega
        | succ d2 ih2 =>
          intro k o g1 g2 hJ
          have ho : o = 1 ∨ o = 0 := by rcases hJ with z | z; exact Or.inl z.1; exact Or.inr z.1
          refine k_iload Xc d_S_sideParts_18 rfl (n := 20) rfl ?_
          refine k_aload_n Xc d_S_sideParts_20 rfl rfl (n := 21) rfl ?_
          refine k_get Xc u_S rfl 2 (by decide) wd_32 rfl d_S_sideParts_21 (n := 24) rfl hT.1 hT.2.2.2.1 rfl ?_
          refine k_icmp_ge Xc d_S_sideParts_24 (t := 72) (n := 27) rfl rfl (by omega) (by omega) (fun h_24 => ?_) (fun h_24 => ?_)
          · refine k_iload Xc d_S_sideParts_72 rfl (n := 74) rfl ?_
            refine k_if_eq Xc d_S_sideParts_74 (t := 79) (n := 77) rfl rfl (by omega) (fun h_74 => ?_) (fun h_74 => ?_)
            · refine k_iinc Xc d_S_sideParts_79 rfl (by decide) (n := 82) rfl ?_
              refine k_goto Xc d_S_sideParts_82 (t := 3) rfl ?_
              exact k_loc (ih (i + 1) (by omega) (by omega) (fun i2 q => by
                rcases Nat.lt_or_ge i2 i with q1 | q1
                · exact hI i2 q1
                · have e : i2 = i := by omega
                  subst e
                  rcases hJ with z | z
                  · exact absurd z.1 (by omega)
                  · exact z.2)) rfl
            · refine k_iconst Xc d_S_sideParts_77 (n := 78) rfl ?_
              refine k_iret Xc d_S_sideParts_78 hr rfl (Nat.le_refl _) (Nat.le_refl _) ⟨_, rfl, ?_, rfl, rfl⟩
              exact Or.inl ⟨⟨i, hi, fun k3 q => by
                rcases hJ with z | z
                · exact z.2 k3 (by omega)
                · exact absurd z.1 (by omega)⟩, rfl⟩
          · refine k_iload Xc d_S_sideParts_27 rfl (n := 29) rfl ?_
            refine k_if_eq Xc d_S_sideParts_29 (t := 72) (n := 32) rfl rfl (by omega) (fun h_29 => ?_) (fun h_29 => ?_)
            · refine k_iload Xc d_S_sideParts_72 rfl (n := 74) rfl ?_
              refine k_if_eq Xc d_S_sideParts_74 (t := 79) (n := 77) rfl rfl (by omega) (fun h_74 => ?_) (fun h_74 => ?_)
              · refine k_iinc Xc d_S_sideParts_79 rfl (by decide) (n := 82) rfl ?_
                refine k_goto Xc d_S_sideParts_82 (t := 3) rfl ?_
                exact k_loc (ih (i + 1) (by omega) (by omega) (fun i2 q => by
                  rcases Nat.lt_or_ge i2 i with q1 | q1
                  · exact hI i2 q1
                  · have e : i2 = i := by omega
                    subst e
                    rcases hJ with z | z
                    · exact absurd z.1 (by omega)
                    · exact z.2)) rfl
              · refine k_iconst Xc d_S_sideParts_77 (n := 78) rfl ?_
                refine k_iret Xc d_S_sideParts_78 hr rfl (Nat.le_refl _) (Nat.le_refl _) ⟨_, rfl, ?_, rfl, rfl⟩
                exact Or.inl ⟨⟨i, hi, fun k3 q => by
                  rcases hJ with z | z
                  · exact z.2 k3 (by omega)
                  · exact absurd z.1 (by omega)⟩, rfl⟩
            · refine k_aload_n Xc d_S_sideParts_32 rfl rfl (n := 33) rfl ?_
              refine k_iload Xc d_S_sideParts_33 rfl (n := 35) rfl ?_
              refine k_aload_n Xc d_S_sideParts_35 rfl rfl (n := 36) rfl ?_
              refine k_get Xc u_S rfl 0 (by decide) wd_30 rfl d_S_sideParts_36 (n := 39) rfl hT.1 hT.2.2.2.1 rfl ?_
              refine k_iload Xc d_S_sideParts_39 rfl (n := 41) rfl ?_
              refine k_iald Xc d_S_sideParts_41 (n := 42) rfl hT.2.1 hT.2.2.2.2.1 (by omega) (by omega) (by decide) ?_
              refine k_iload_n Xc d_S_sideParts_42 rfl rfl (n := 43) rfl ?_
              refine k_iadd Xc d_S_sideParts_43 (n := 44) rfl ?_
              refine k_aload_n Xc d_S_sideParts_44 rfl rfl (n := 45) rfl ?_
              refine k_get Xc u_S rfl 1 (by decide) wd_31 rfl d_S_sideParts_45 (n := 48) rfl hT.1 hT.2.2.2.1 rfl ?_
              refine k_iload Xc d_S_sideParts_48 rfl (n := 50) rfl ?_
              refine k_iald Xc d_S_sideParts_50 (n := 51) rfl hT.2.2.1 hT.2.2.2.2.2 (by omega) (by omega) (by decide) ?_
              refine k_iload_n Xc d_S_sideParts_51 rfl rfl (n := 52) rfl ?_
              refine k_iadd Xc d_S_sideParts_52 (n := 53) rfl ?_
              have c1 := hC.2 k (by omega)
              have c2 := bs_bd hB hi (px := U (k : Int) + dx) (py := V (k : Int) + dy) (by omega) (by omega) (by omega) (by omega)
              refine k_qV (na := 3) Xc (m_S_beside l D G hS hB _ (by omega) _ _ (by omega) (by omega) (by omega) (by omega)) hS.1 hS.2.2.2.1 rfl wd_325 wd_322 wd_323 wd_324 wd_2 (by decide +kernel) ⟨by decide, by decide⟩ rfl rfl (Nat.le_of_ble_eq_true rfl) d_S_sideParts_53 (n := 56) rfl ⟨Nat.zero_le _, Nat.zero_le _⟩ (fun r_53 e_53 => ?_)
              subst e_53
              refine k_if_gt Xc d_S_sideParts_56 (t := 63) (n := 59) rfl rfl (by omega) (fun h_56 => ?_) (fun h_56 => ?_)
              · refine k_iconst Xc d_S_sideParts_63 (n := 64) rfl ?_
                refine k_istore Xc d_S_sideParts_64 (by decide) (n := 66) rfl ?_
                refine k_iinc Xc d_S_sideParts_66 rfl (by decide) (n := 69) rfl ?_
                refine k_goto Xc d_S_sideParts_69 (t := 18) rfl ?_
                exact k_loc (ih2 (k + 1) 0 (by omega) (by omega) (Or.inr ⟨rfl, k, by omega, by omega⟩)) rfl
              · refine k_iconst Xc d_S_sideParts_59 (n := 60) rfl ?_
                refine k_goto Xc d_S_sideParts_60 (t := 64) rfl ?_
                refine k_istore Xc d_S_sideParts_64 (by decide) (n := 66) rfl ?_
                refine k_iinc Xc d_S_sideParts_66 rfl (by decide) (n := 69) rfl ?_
                refine k_goto Xc d_S_sideParts_69 (t := 18) rfl ?_
                exact k_loc (ih2 (k + 1) 1 (by omega) (by omega) (Or.inl ⟨rfl, fun k3 q => by
                  rcases Nat.lt_or_ge k3 k with q3 | q3
                  · rcases hJ with z | z
                    · exact z.2 k3 q3
                    · exact absurd z.1 (by omega)
                  · have e : k3 = k := by omega
                    subst e
                    omega⟩)) rfl
      refine k_iload Xc d_S_sideParts_3 rfl (n := 5) rfl ?_
      refine k_aload_n Xc d_S_sideParts_5 rfl rfl (n := 6) rfl ?_
      refine k_get Xc u_S rfl 2 (by decide) wd_32 rfl d_S_sideParts_6 (n := 9) rfl hS.1 hS.2.2.2.1 rfl ?_
      refine k_icmp_ge Xc d_S_sideParts_9 (t := 85) (n := 12) rfl rfl (by omega) (by omega) (fun h_9 => ?_) (fun h_9 => ?_)
      · refine k_iconst Xc d_S_sideParts_85 (n := 86) rfl ?_
        refine k_iret Xc d_S_sideParts_86 hr rfl (Nat.le_refl _) (Nat.le_refl _) ⟨_, rfl, ?_, rfl, rfl⟩
        exact Or.inr ⟨fun q => by
          obtain ⟨i2, z1, z2⟩ := q
          obtain ⟨k, z3, z4⟩ := hI i2 (by omega)
          have z5 : ge_bs (sP X Y) n i2 (U (k : Int) + dx, V (k : Int) + dy) ≤ 0 := z2 k z3
          omega, rfl⟩
      · refine k_iconst Xc d_S_sideParts_12 (n := 13) rfl ?_
        refine k_istore Xc d_S_sideParts_13 (by decide) (n := 15) rfl ?_
        refine k_iconst Xc d_S_sideParts_15 (n := 16) rfl ?_
        refine k_istore Xc d_S_sideParts_16 (by decide) (n := 18) rfl ?_
        exact k_loc (inner (by omega) (k2 + 1) 0 1 (by omega) (by omega) (Or.inl ⟨rfl, fun k3 q => absurd q (by omega)⟩)) rfl
  refine k_iconst Xc d_S_sideParts_0 (n := 1) rfl ?_
  refine k_istore Xc d_S_sideParts_1 (by decide) (n := 3) rfl ?_
  exact k_loc (loop (n + 1) 0 (by omega) (by omega) (fun i2 q => absurd q (by omega))) rfl
set_option maxRecDepth 100000 in
set_option maxHeartbeats 4000000 in
/-- points are inside both -/
theorem m_S_overlaps (l : Launch) (D : va_G) (G : Nat → ClassId) {L : List Nat} {f : Nat → va_E} {a ax ay n : Nat} {X Y : Int → Int} {lx hx ly hy : Int} (hS : zS G L f a ax ay n X Y lx hx ly hy) (hB : sB n X Y) {b bx b_y k2 : Nat} {U V : Int → Int} {lu hu lv hv : Int} (hT : zS G L f b bx b_y k2 U V lu hu lv hv) (hC : sB k2 U V) (q1 : -1000 ≤ lx ∧ lx ≤ 1000 ∧ -1000 ≤ hx ∧ hx ≤ 1000 ∧ -1000 ≤ ly ∧ ly ≤ 1000 ∧ -1000 ≤ hy ∧ hy ≤ 1000) (q2 : -1000 ≤ lu ∧ lu ≤ 1000 ∧ -1000 ≤ hu ∧ hu ≤ 1000 ∧ -1000 ≤ lv ∧ lv ≤ 1000 ∧ -1000 ≤ hv ∧ hv ≤ 1000) (dx dy : Int) (q3 : -100 ≤ dx ∧ dx ≤ 100 ∧ -100 ≤ dy ∧ dy ≤ 100) : zM l D G y_S_overlaps (.code y_S_overlaps c_S_overlaps 5 (some .boolean) :: BG) (zR0 2 50) [.ref a, .ref b, .int (zI dx), .int (zI dy)] L f (zA L f (fun r => zB (¬ (hu + dx ≤ lx ∨ hx ≤ lu + dx ∨ hv + dy ≤ ly ∨ hy ≤ lv + dy) ∧ ¬ ge_sp n (sP X Y) k2 (sP (fun q => U q + dx) (fun q => V q + dy)) ∧ ¬ ge_sp k2 (sP U V) n (sP (fun q => X q + -dx) (fun q => Y q + -dy))) r)) := by
  refine zM.of (by decide) (Nat.le_of_ble_eq_true rfl) rfl (fun p e s m args below meth c A Xc hr hnm => ?_)
  refine k_aload_n Xc d_S_overlaps_0 rfl rfl (n := 1) rfl ?_
  refine k_get Xc u_S rfl 4 (by decide) wd_37 rfl d_S_overlaps_1 (n := 4) rfl hT.1 hT.2.2.2.1 rfl ?_
  refine k_iload_n Xc d_S_overlaps_4 rfl rfl (n := 5) rfl ?_
  refine k_iadd Xc d_S_overlaps_5 (n := 6) rfl ?_
  refine k_aload_n Xc d_S_overlaps_6 rfl rfl (n := 7) rfl ?_
  refine k_get Xc u_S rfl 3 (by decide) wd_35 rfl d_S_overlaps_7 (n := 10) rfl hS.1 hS.2.2.2.1 rfl ?_
  refine k_icmp_le Xc d_S_overlaps_10 (t := 52) (n := 13) rfl rfl (by omega) (by omega) (fun h_10 => ?_) (fun h_10 => ?_)
  · refine k_iconst Xc d_S_overlaps_52 (n := 53) rfl ?_
    refine k_goto Xc d_S_overlaps_53 (t := 57) rfl ?_
    refine k_istore Xc d_S_overlaps_57 (by decide) (n := 59) rfl ?_
    refine k_iload Xc d_S_overlaps_59 rfl (n := 61) rfl ?_
    refine k_if_ne Xc d_S_overlaps_61 (t := 90) (n := 64) rfl rfl (by omega) (fun _ => ?_) (fun h_61 => absurd h_61 (by omega))
    refine k_iconst Xc d_S_overlaps_90 (n := 91) rfl ?_
    refine k_iret Xc d_S_overlaps_91 hr rfl (Nat.le_refl _) (Nat.le_refl _) ⟨_, rfl, ?_, rfl, rfl⟩
    exact Or.inr ⟨fun q => by first | exact q.2.1 e_68 | exact q.2.2 e_80 | (have z := q.1; omega), rfl⟩
  · refine k_aload_n Xc d_S_overlaps_13 rfl rfl (n := 14) rfl ?_
    refine k_get Xc u_S rfl 3 (by decide) wd_35 rfl d_S_overlaps_14 (n := 17) rfl hT.1 hT.2.2.2.1 rfl ?_
    refine k_iload_n Xc d_S_overlaps_17 rfl rfl (n := 18) rfl ?_
    refine k_iadd Xc d_S_overlaps_18 (n := 19) rfl ?_
    refine k_aload_n Xc d_S_overlaps_19 rfl rfl (n := 20) rfl ?_
    refine k_get Xc u_S rfl 4 (by decide) wd_37 rfl d_S_overlaps_20 (n := 23) rfl hS.1 hS.2.2.2.1 rfl ?_
    refine k_icmp_ge Xc d_S_overlaps_23 (t := 52) (n := 26) rfl rfl (by omega) (by omega) (fun h_23 => ?_) (fun h_23 => ?_)
    · refine k_iconst Xc d_S_overlaps_52 (n := 53) rfl ?_
      refine k_goto Xc d_S_overlaps_53 (t := 57) rfl ?_
      refine k_istore Xc d_S_overlaps_57 (by decide) (n := 59) rfl ?_
      refine k_iload Xc d_S_overlaps_59 rfl (n := 61) rfl ?_
      refine k_if_ne Xc d_S_overlaps_61 (t := 90) (n := 64) rfl rfl (by omega) (fun _ => ?_) (fun h_61 => absurd h_61 (by omega))
      refine k_iconst Xc d_S_overlaps_90 (n := 91) rfl ?_
      refine k_iret Xc d_S_overlaps_91 hr rfl (Nat.le_refl _) (Nat.le_refl _) ⟨_, rfl, ?_, rfl, rfl⟩
      exact Or.inr ⟨fun q => by first | exact q.2.1 e_68 | exact q.2.2 e_80 | (have z := q.1; omega), rfl⟩
    · refine k_aload_n Xc d_S_overlaps_26 rfl rfl (n := 27) rfl ?_
      refine k_get Xc u_S rfl 6 (by decide) wd_42 rfl d_S_overlaps_27 (n := 30) rfl hT.1 hT.2.2.2.1 rfl ?_
      refine k_iload_n Xc d_S_overlaps_30 rfl rfl (n := 31) rfl ?_
      refine k_iadd Xc d_S_overlaps_31 (n := 32) rfl ?_
      refine k_aload_n Xc d_S_overlaps_32 rfl rfl (n := 33) rfl ?_
      refine k_get Xc u_S rfl 5 (by decide) wd_40 rfl d_S_overlaps_33 (n := 36) rfl hS.1 hS.2.2.2.1 rfl ?_
      refine k_icmp_le Xc d_S_overlaps_36 (t := 52) (n := 39) rfl rfl (by omega) (by omega) (fun h_36 => ?_) (fun h_36 => ?_)
      · refine k_iconst Xc d_S_overlaps_52 (n := 53) rfl ?_
        refine k_goto Xc d_S_overlaps_53 (t := 57) rfl ?_
        refine k_istore Xc d_S_overlaps_57 (by decide) (n := 59) rfl ?_
        refine k_iload Xc d_S_overlaps_59 rfl (n := 61) rfl ?_
        refine k_if_ne Xc d_S_overlaps_61 (t := 90) (n := 64) rfl rfl (by omega) (fun _ => ?_) (fun h_61 => absurd h_61 (by omega))
        refine k_iconst Xc d_S_overlaps_90 (n := 91) rfl ?_
        refine k_iret Xc d_S_overlaps_91 hr rfl (Nat.le_refl _) (Nat.le_refl _) ⟨_, rfl, ?_, rfl, rfl⟩
        exact Or.inr ⟨fun q => by first | exact q.2.1 e_68 | exact q.2.2 e_80 | (have z := q.1; omega), rfl⟩
      · refine k_aload_n Xc d_S_overlaps_39 rfl rfl (n := 40) rfl ?_
        refine k_get Xc u_S rfl 5 (by decide) wd_40 rfl d_S_overlaps_40 (n := 43) rfl hT.1 hT.2.2.2.1 rfl ?_
        refine k_iload_n Xc d_S_overlaps_43 rfl rfl (n := 44) rfl ?_
        refine k_iadd Xc d_S_overlaps_44 (n := 45) rfl ?_
        refine k_aload_n Xc d_S_overlaps_45 rfl rfl (n := 46) rfl ?_
        refine k_get Xc u_S rfl 6 (by decide) wd_42 rfl d_S_overlaps_46 (n := 49) rfl hS.1 hS.2.2.2.1 rfl ?_
        refine k_icmp_lt Xc d_S_overlaps_49 (t := 56) (n := 52) rfl rfl (by omega) (by omega) (fun h_49 => ?_) (fun h_49 => ?_)
        · refine k_iconst Xc d_S_overlaps_56 (n := 57) rfl ?_
          refine k_istore Xc d_S_overlaps_57 (by decide) (n := 59) rfl ?_
          refine k_iload Xc d_S_overlaps_59 rfl (n := 61) rfl ?_
          refine k_if_ne Xc d_S_overlaps_61 (t := 90) (n := 64) rfl rfl (by omega) (fun h_61 => absurd h_61 (by omega)) (fun _ => ?_)
          refine k_aload_n Xc d_S_overlaps_64 rfl rfl (n := 65) rfl ?_
          refine k_aload_n Xc d_S_overlaps_65 rfl rfl (n := 66) rfl ?_
          refine k_iload_n Xc d_S_overlaps_66 rfl rfl (n := 67) rfl ?_
          refine k_iload_n Xc d_S_overlaps_67 rfl rfl (n := 68) rfl ?_
          refine k_qV (na := 3) Xc (m_S_sideParts l D G hS hB hT hC _ _ (by omega)) hS.1 hS.2.2.2.1 rfl wd_430 wd_427 wd_428 wd_429 wd_2 (by decide +kernel) ⟨by decide, by decide⟩ rfl rfl (Nat.le_of_ble_eq_true rfl) d_S_overlaps_68 (n := 71) rfl ⟨Nat.zero_le _, Nat.zero_le _⟩ (fun r_68 e_68 => ?_)
          rcases e_68 with ⟨e_68, rfl⟩ | ⟨e_68, rfl⟩
          · refine k_if_ne Xc d_S_overlaps_71 (t := 90) (n := 74) rfl rfl (by omega) (fun _ => ?_) (fun h_71 => absurd h_71 (by omega))
            refine k_iconst Xc d_S_overlaps_90 (n := 91) rfl ?_
            refine k_iret Xc d_S_overlaps_91 hr rfl (Nat.le_refl _) (Nat.le_refl _) ⟨_, rfl, ?_, rfl, rfl⟩
            exact Or.inr ⟨fun q => by first | exact q.2.1 e_68 | exact q.2.2 e_80 | (have z := q.1; omega), rfl⟩
          · refine k_if_ne Xc d_S_overlaps_71 (t := 90) (n := 74) rfl rfl (by omega) (fun h_71 => absurd h_71 (by omega)) (fun _ => ?_)
            refine k_aload_n Xc d_S_overlaps_74 rfl rfl (n := 75) rfl ?_
            refine k_aload_n Xc d_S_overlaps_75 rfl rfl (n := 76) rfl ?_
            refine k_iload_n Xc d_S_overlaps_76 rfl rfl (n := 77) rfl ?_
            refine k_ineg Xc d_S_overlaps_77 (n := 78) rfl ?_
            refine k_iload_n Xc d_S_overlaps_78 rfl rfl (n := 79) rfl ?_
            refine k_ineg Xc d_S_overlaps_79 (n := 80) rfl ?_
            refine k_qV (na := 3) Xc (m_S_sideParts l D G hT hC hS hB _ _ (by omega)) hT.1 hT.2.2.2.1 rfl wd_430 wd_427 wd_428 wd_429 wd_2 (by decide +kernel) ⟨by decide, by decide⟩ rfl rfl (Nat.le_of_ble_eq_true rfl) d_S_overlaps_80 (n := 83) rfl ⟨Nat.zero_le _, Nat.zero_le _⟩ (fun r_80 e_80 => ?_)
            rcases e_80 with ⟨e_80, rfl⟩ | ⟨e_80, rfl⟩
            · refine k_if_ne Xc d_S_overlaps_83 (t := 90) (n := 86) rfl rfl (by omega) (fun _ => ?_) (fun h_83 => absurd h_83 (by omega))
              refine k_iconst Xc d_S_overlaps_90 (n := 91) rfl ?_
              refine k_iret Xc d_S_overlaps_91 hr rfl (Nat.le_refl _) (Nat.le_refl _) ⟨_, rfl, ?_, rfl, rfl⟩
              exact Or.inr ⟨fun q => by first | exact q.2.1 e_68 | exact q.2.2 e_80 | (have z := q.1; omega), rfl⟩
            · refine k_if_ne Xc d_S_overlaps_83 (t := 90) (n := 86) rfl rfl (by omega) (fun h_83 => absurd h_83 (by omega)) (fun _ => ?_)
              refine k_iconst Xc d_S_overlaps_86 (n := 87) rfl ?_
              refine k_goto Xc d_S_overlaps_87 (t := 91) rfl ?_
              refine k_iret Xc d_S_overlaps_91 hr rfl (Nat.le_refl _) (Nat.le_refl _) ⟨_, rfl, ?_, rfl, rfl⟩
              exact Or.inl ⟨⟨by omega, e_68, e_80⟩, rfl⟩
        · refine k_iconst Xc d_S_overlaps_52 (n := 53) rfl ?_
          refine k_goto Xc d_S_overlaps_53 (t := 57) rfl ?_
          refine k_istore Xc d_S_overlaps_57 (by decide) (n := 59) rfl ?_
          refine k_iload Xc d_S_overlaps_59 rfl (n := 61) rfl ?_
          refine k_if_ne Xc d_S_overlaps_61 (t := 90) (n := 64) rfl rfl (by omega) (fun _ => ?_) (fun h_61 => absurd h_61 (by omega))
          refine k_iconst Xc d_S_overlaps_90 (n := 91) rfl ?_
          refine k_iret Xc d_S_overlaps_91 hr rfl (Nat.le_refl _) (Nat.le_refl _) ⟨_, rfl, ?_, rfl, rfl⟩
          exact Or.inr ⟨fun q => by first | exact q.2.1 e_68 | exact q.2.2 e_80 | (have z := q.1; omega), rfl⟩
set_option maxRecDepth 100000 in
set_option maxHeartbeats 4000000 in
/-- corners on both sides of a line -/
theorem m_S_lineCuts (l : Launch) (D : va_G) (G : Nat → ClassId) {L : List Nat} {f : Nat → va_E} {a ax ay n : Nat} {X Y : Int → Int} {lx hx ly hy : Int} (hS : zS G L f a ax ay n X Y lx hx ly hy) (hB : sB n X Y) {b bx b_y k2 : Nat} {U V : Int → Int} {lu hu lv hv : Int} (hT : zS G L f b bx b_y k2 U V lu hu lv hv) (hC : sB k2 U V) (i : Nat) (hi : i < n) (dx dy : Int) (q3 : -100 ≤ dx ∧ dx ≤ 100 ∧ -100 ≤ dy ∧ dy ≤ 100) : zM l D G y_S_lineCuts (.code y_S_lineCuts c_S_lineCuts 9 (some .boolean) :: BG) (zR0 1 24) [.ref a, .int (zI (i : Int)), .ref b, .int (zI dx), .int (zI dy)] L f (zA L f (fun r => zB ((∃ k3 : Nat, k3 < k2 ∧ 0 < ge_bs (sP X Y) n i (U (k3 : Int) + dx, V (k3 : Int) + dy)) ∧ ∃ k3 : Nat, k3 < k2 ∧ ge_bs (sP X Y) n i (U (k3 : Int) + dx, V (k3 : Int) + dy) < 0) r)) := by
  refine zM.of (by decide) (Nat.le_of_ble_eq_true rfl) rfl (fun p e s m args below meth c A Xc hr hnm => ?_)
  have hn := hB.1
  have hm := hC.1
  have loop : ∀ (d k : Nat) (lf rg : Int), k2 < k + d → k ≤ k2 → zB (∃ k3 : Nat, k3 < k ∧ 0 < ge_bs (sP X Y) n i (U (k3 : Int) + dx, V (k3 : Int) + dy)) lf → zB (∃ k3 : Nat, k3 < k ∧ ge_bs (sP X Y) n i (U (k3 : Int) + dx, V (k3 : Int) + dy) < 0) rg → zG p l e (zR0 1 24) s m args below meth c D A 9 0 0 (MQ below (zE D A (zA L f (fun r => zB ((∃ k3 : Nat, k3 < k2 ∧ 0 < ge_bs (sP X Y) n i (U (k3 : Int) + dx, V (k3 : Int) + dy)) ∧ ∃ k3 : Nat, k3 < k2 ∧ ge_bs (sP X Y) n i (U (k3 : Int) + dx, V (k3 : Int) + dy) < 0) r))) args s (zR0 1 24).cells (zR0 1 24).slots A) 9 [(0, .ref a), (1, .int (zI (i : Int))), (2, .ref b), (3, .int (zI dx)), (4, .int (zI dy)), (5, .int (zI lf)), (6, .int (zI rg)), (7, .int (zI (k : Int)))] [] L f := by
    intro d
    induction d with
    | zero => intro k lf rg h1 h2; omega
    | succ d ih =>
      intro k lf rg h1 h2 hl hg
      have o1 := zB_01 hl
      have o2 := zB_01 hg
      refine k_iload Xc d_S_lineCuts_9 rfl (n := 11) rfl ?_
      refine k_aload_n Xc d_S_lineCuts_11 rfl rfl (n := 12) rfl ?_
      refine k_get Xc u_S rfl 2 (by decide) wd_32 rfl d_S_lineCuts_12 (n := 15) rfl hT.1 hT.2.2.2.1 rfl ?_
      refine k_icmp_ge Xc d_S_lineCuts_15 (t := 84) (n := 18) rfl rfl (by omega) (by omega) (fun h_15 => ?_) (fun h_15 => ?_)
      · refine k_iload Xc d_S_lineCuts_84 rfl (n := 86) rfl ?_
        refine k_if_eq Xc d_S_lineCuts_86 (t := 98) (n := 89) rfl rfl (by omega) (fun h_86 => ?_) (fun h_86 => ?_)
        · refine k_iconst Xc d_S_lineCuts_98 (n := 99) rfl ?_
          refine k_iret Xc d_S_lineCuts_99 hr rfl (Nat.le_refl _) (Nat.le_refl _) ⟨_, rfl, ?_, rfl, rfl⟩
          have ek : k = k2 := by omega
          subst ek
          exact Or.inr ⟨fun q => by first | exact zB_f hl (by omega) q.1 | exact zB_f hg (by omega) q.2, rfl⟩
        · refine k_iload Xc d_S_lineCuts_89 rfl (n := 91) rfl ?_
          refine k_if_eq Xc d_S_lineCuts_91 (t := 98) (n := 94) rfl rfl (by omega) (fun h_91 => ?_) (fun h_91 => ?_)
          · refine k_iconst Xc d_S_lineCuts_98 (n := 99) rfl ?_
            refine k_iret Xc d_S_lineCuts_99 hr rfl (Nat.le_refl _) (Nat.le_refl _) ⟨_, rfl, ?_, rfl, rfl⟩
            have ek : k = k2 := by omega
            subst ek
            exact Or.inr ⟨fun q => by first | exact zB_f hl (by omega) q.1 | exact zB_f hg (by omega) q.2, rfl⟩
          · refine k_iconst Xc d_S_lineCuts_94 (n := 95) rfl ?_
            refine k_goto Xc d_S_lineCuts_95 (t := 99) rfl ?_
            refine k_iret Xc d_S_lineCuts_99 hr rfl (Nat.le_refl _) (Nat.le_refl _) ⟨_, rfl, ?_, rfl, rfl⟩
            have ek : k = k2 := by omega
            subst ek
            exact Or.inl ⟨⟨zB_t hl (by omega), zB_t hg (by omega)⟩, rfl⟩
      · refine k_aload_n Xc d_S_lineCuts_18 rfl rfl (n := 19) rfl ?_
        refine k_iload_n Xc d_S_lineCuts_19 rfl rfl (n := 20) rfl ?_
        refine k_aload_n Xc d_S_lineCuts_20 rfl rfl (n := 21) rfl ?_
        refine k_get Xc u_S rfl 0 (by decide) wd_30 rfl d_S_lineCuts_21 (n := 24) rfl hT.1 hT.2.2.2.1 rfl ?_
        refine k_iload Xc d_S_lineCuts_24 rfl (n := 26) rfl ?_
        refine k_iald Xc d_S_lineCuts_26 (n := 27) rfl hT.2.1 hT.2.2.2.2.1 (by omega) (by omega) (by decide) ?_
        refine k_iload_n Xc d_S_lineCuts_27 rfl rfl (n := 28) rfl ?_
        refine k_iadd Xc d_S_lineCuts_28 (n := 29) rfl ?_
        refine k_aload_n Xc d_S_lineCuts_29 rfl rfl (n := 30) rfl ?_
        refine k_get Xc u_S rfl 1 (by decide) wd_31 rfl d_S_lineCuts_30 (n := 33) rfl hT.1 hT.2.2.2.1 rfl ?_
        refine k_iload Xc d_S_lineCuts_33 rfl (n := 35) rfl ?_
        refine k_iald Xc d_S_lineCuts_35 (n := 36) rfl hT.2.2.1 hT.2.2.2.2.2 (by omega) (by omega) (by decide) ?_
        refine k_iload Xc d_S_lineCuts_36 rfl (n := 38) rfl ?_
        refine k_iadd Xc d_S_lineCuts_38 (n := 39) rfl ?_
        have c1 := hC.2 k (by omega)
        have c2 := bs_bd hB hi (px := U (k : Int) + dx) (py := V (k : Int) + dy) (by omega) (by omega) (by omega) (by omega)
        refine k_qV (na := 3) Xc (m_S_beside l D G hS hB _ (by omega) _ _ (by omega) (by omega) (by omega) (by omega)) hS.1 hS.2.2.2.1 rfl wd_325 wd_322 wd_323 wd_324 wd_2 (by decide +kernel) ⟨by decide, by decide⟩ rfl rfl (Nat.le_of_ble_eq_true rfl) d_S_lineCuts_39 (n := 42) rfl ⟨Nat.zero_le _, Nat.zero_le _⟩ (fun r_39 e_39 => ?_)
        subst e_39
        refine k_istore Xc d_S_lineCuts_42 (by decide) (n := 44) rfl ?_
        refine k_iload Xc d_S_lineCuts_44 rfl (n := 46) rfl ?_
        refine k_if_ne Xc d_S_lineCuts_46 (t := 54) (n := 49) rfl rfl (by omega) (fun h_46 => ?_) (fun h_46 => ?_)
        · refine k_iconst Xc d_S_lineCuts_54 (n := 55) rfl ?_
          refine k_goto Xc d_S_lineCuts_55 (t := 59) rfl ?_
          refine k_istore Xc d_S_lineCuts_59 (by decide) (n := 61) rfl ?_
          refine k_iload Xc d_S_lineCuts_61 rfl (n := 63) rfl ?_
          refine k_if_ne Xc d_S_lineCuts_63 (t := 71) (n := 66) rfl rfl (by omega) (fun h_63 => ?_) (fun h_63 => ?_)
          · refine k_iconst Xc d_S_lineCuts_71 (n := 72) rfl ?_
            refine k_goto Xc d_S_lineCuts_72 (t := 76) rfl ?_
            refine k_istore Xc d_S_lineCuts_76 (by decide) (n := 78) rfl ?_
            refine k_iinc Xc d_S_lineCuts_78 rfl (by decide) (n := 81) rfl ?_
            refine k_goto Xc d_S_lineCuts_81 (t := 9) rfl ?_
            exact k_loc (ih (k + 1) 1 1 (by omega) (by omega) (zB_yes hl (by first | exact Or.inl (by omega) | exact Or.inr (by omega))) (zB_yes hg (by first | exact Or.inl (by omega) | exact Or.inr (by omega)))) rfl
          · refine k_iload Xc d_S_lineCuts_66 rfl (n := 68) rfl ?_
            refine k_if_ge Xc d_S_lineCuts_68 (t := 75) (n := 71) rfl rfl (by omega) (fun h_68 => ?_) (fun h_68 => ?_)
            · refine k_iconst Xc d_S_lineCuts_75 (n := 76) rfl ?_
              refine k_istore Xc d_S_lineCuts_76 (by decide) (n := 78) rfl ?_
              refine k_iinc Xc d_S_lineCuts_78 rfl (by decide) (n := 81) rfl ?_
              refine k_goto Xc d_S_lineCuts_81 (t := 9) rfl ?_
              exact k_loc (ih (k + 1) 1 0 (by omega) (by omega) (zB_yes hl (by first | exact Or.inl (by omega) | exact Or.inr (by omega))) (zB_no hg (by omega) (by omega))) rfl
            · refine k_iconst Xc d_S_lineCuts_71 (n := 72) rfl ?_
              refine k_goto Xc d_S_lineCuts_72 (t := 76) rfl ?_
              refine k_istore Xc d_S_lineCuts_76 (by decide) (n := 78) rfl ?_
              refine k_iinc Xc d_S_lineCuts_78 rfl (by decide) (n := 81) rfl ?_
              refine k_goto Xc d_S_lineCuts_81 (t := 9) rfl ?_
              exact k_loc (ih (k + 1) 1 1 (by omega) (by omega) (zB_yes hl (by first | exact Or.inl (by omega) | exact Or.inr (by omega))) (zB_yes hg (by first | exact Or.inl (by omega) | exact Or.inr (by omega)))) rfl
        · refine k_iload Xc d_S_lineCuts_49 rfl (n := 51) rfl ?_
          refine k_if_le Xc d_S_lineCuts_51 (t := 58) (n := 54) rfl rfl (by omega) (fun h_51 => ?_) (fun h_51 => ?_)
          · refine k_iconst Xc d_S_lineCuts_58 (n := 59) rfl ?_
            refine k_istore Xc d_S_lineCuts_59 (by decide) (n := 61) rfl ?_
            refine k_iload Xc d_S_lineCuts_61 rfl (n := 63) rfl ?_
            refine k_if_ne Xc d_S_lineCuts_63 (t := 71) (n := 66) rfl rfl (by omega) (fun h_63 => ?_) (fun h_63 => ?_)
            · refine k_iconst Xc d_S_lineCuts_71 (n := 72) rfl ?_
              refine k_goto Xc d_S_lineCuts_72 (t := 76) rfl ?_
              refine k_istore Xc d_S_lineCuts_76 (by decide) (n := 78) rfl ?_
              refine k_iinc Xc d_S_lineCuts_78 rfl (by decide) (n := 81) rfl ?_
              refine k_goto Xc d_S_lineCuts_81 (t := 9) rfl ?_
              exact k_loc (ih (k + 1) 0 1 (by omega) (by omega) (zB_no hl (by omega) (by omega)) (zB_yes hg (by first | exact Or.inl (by omega) | exact Or.inr (by omega)))) rfl
            · refine k_iload Xc d_S_lineCuts_66 rfl (n := 68) rfl ?_
              refine k_if_ge Xc d_S_lineCuts_68 (t := 75) (n := 71) rfl rfl (by omega) (fun h_68 => ?_) (fun h_68 => ?_)
              · refine k_iconst Xc d_S_lineCuts_75 (n := 76) rfl ?_
                refine k_istore Xc d_S_lineCuts_76 (by decide) (n := 78) rfl ?_
                refine k_iinc Xc d_S_lineCuts_78 rfl (by decide) (n := 81) rfl ?_
                refine k_goto Xc d_S_lineCuts_81 (t := 9) rfl ?_
                exact k_loc (ih (k + 1) 0 0 (by omega) (by omega) (zB_no hl (by omega) (by omega)) (zB_no hg (by omega) (by omega))) rfl
              · refine k_iconst Xc d_S_lineCuts_71 (n := 72) rfl ?_
                refine k_goto Xc d_S_lineCuts_72 (t := 76) rfl ?_
                refine k_istore Xc d_S_lineCuts_76 (by decide) (n := 78) rfl ?_
                refine k_iinc Xc d_S_lineCuts_78 rfl (by decide) (n := 81) rfl ?_
                refine k_goto Xc d_S_lineCuts_81 (t := 9) rfl ?_
                exact k_loc (ih (k + 1) 0 1 (by omega) (by omega) (zB_no hl (by omega) (by omega)) (zB_yes hg (by first | exact Or.inl (by omega) | exact Or.inr (by omega)))) rfl
          · refine k_iconst Xc d_S_lineCuts_54 (n := 55) rfl ?_
            refine k_goto Xc d_S_lineCuts_55 (t := 59) rfl ?_
            refine k_istore Xc d_S_lineCuts_59 (by decide) (n := 61) rfl ?_
            refine k_iload Xc d_S_lineCuts_61 rfl (n := 63) rfl ?_
            refine k_if_ne Xc d_S_lineCuts_63 (t := 71) (n := 66) rfl rfl (by omega) (fun h_63 => ?_) (fun h_63 => ?_)
            · refine k_iconst Xc d_S_lineCuts_71 (n := 72) rfl ?_
              refine k_goto Xc d_S_lineCuts_72 (t := 76) rfl ?_
              refine k_istore Xc d_S_lineCuts_76 (by decide) (n := 78) rfl ?_
              refine k_iinc Xc d_S_lineCuts_78 rfl (by decide) (n := 81) rfl ?_
              refine k_goto Xc d_S_lineCuts_81 (t := 9) rfl ?_
              exact k_loc (ih (k + 1) 1 1 (by omega) (by omega) (zB_yes hl (by first | exact Or.inl (by omega) | exact Or.inr (by omega))) (zB_yes hg (by first | exact Or.inl (by omega) | exact Or.inr (by omega)))) rfl
            · refine k_iload Xc d_S_lineCuts_66 rfl (n := 68) rfl ?_
              refine k_if_ge Xc d_S_lineCuts_68 (t := 75) (n := 71) rfl rfl (by omega) (fun h_68 => ?_) (fun h_68 => ?_)
              · refine k_iconst Xc d_S_lineCuts_75 (n := 76) rfl ?_
                refine k_istore Xc d_S_lineCuts_76 (by decide) (n := 78) rfl ?_
                refine k_iinc Xc d_S_lineCuts_78 rfl (by decide) (n := 81) rfl ?_
                refine k_goto Xc d_S_lineCuts_81 (t := 9) rfl ?_
                exact k_loc (ih (k + 1) 1 0 (by omega) (by omega) (zB_yes hl (by first | exact Or.inl (by omega) | exact Or.inr (by omega))) (zB_no hg (by omega) (by omega))) rfl
              · refine k_iconst Xc d_S_lineCuts_71 (n := 72) rfl ?_
                refine k_goto Xc d_S_lineCuts_72 (t := 76) rfl ?_
                refine k_istore Xc d_S_lineCuts_76 (by decide) (n := 78) rfl ?_
                refine k_iinc Xc d_S_lineCuts_78 rfl (by decide) (n := 81) rfl ?_
                refine k_goto Xc d_S_lineCuts_81 (t := 9) rfl ?_
                exact k_loc (ih (k + 1) 1 1 (by omega) (by omega) (zB_yes hl (by first | exact Or.inl (by omega) | exact Or.inr (by omega))) (zB_yes hg (by first | exact Or.inl (by omega) | exact Or.inr (by omega)))) rfl
  refine k_iconst Xc d_S_lineCuts_0 (n := 1) rfl ?_
  refine k_istore Xc d_S_lineCuts_1 (by decide) (n := 3) rfl ?_
  refine k_iconst Xc d_S_lineCuts_3 (n := 4) rfl ?_
  refine k_istore Xc d_S_lineCuts_4 (by decide) (n := 6) rfl ?_
  refine k_iconst Xc d_S_lineCuts_6 (n := 7) rfl ?_
  refine k_istore Xc d_S_lineCuts_7 (by decide) (n := 9) rfl ?_
  exact k_loc (loop (k2 + 1) 0 0 0 (by omega) (by omega) (Or.inr ⟨fun ⟨_, q, _⟩ => absurd q (by omega), rfl⟩) (Or.inr ⟨fun ⟨_, q, _⟩ => absurd q (by omega), rfl⟩)) rfl
set_option maxRecDepth 100000 in
set_option maxHeartbeats 4000000 in
/-- some side has neither of two points on its inner side -/
theorem m_S_isBeyond (l : Launch) (D : va_G) (G : Nat → ClassId) {L : List Nat} {f : Nat → va_E} {a ax ay n : Nat} {X Y : Int → Int} {lx hx ly hy : Int} (hS : zS G L f a ax ay n X Y lx hx ly hy) (hB : sB n X Y) (px py qx qy : Int) (q3 : -200 ≤ px ∧ px ≤ 200 ∧ -200 ≤ py ∧ py ≤ 200 ∧ -200 ≤ qx ∧ qx ≤ 200 ∧ -200 ≤ qy ∧ qy ≤ 200) : zM l D G y_S_isBeyond (.code y_S_isBeyond c_S_isBeyond 6 (some .boolean) :: BG) (zR0 1 24) [.ref a, .int (zI px), .int (zI py), .int (zI qx), .int (zI qy)] L f (zA L f (fun r => zB (∃ i : Nat, i < n ∧ ge_bs (sP X Y) n i (px, py) ≤ 0 ∧ ge_bs (sP X Y) n i (qx, qy) ≤ 0) r)) := by
  refine zM.of (by decide) (Nat.le_of_ble_eq_true rfl) rfl (fun p e s m args below meth c A Xc hr hnm => ?_)
  have hn := hB.1
  have loop : ∀ (d i : Nat), n < i + d → i ≤ n → (∀ i2, i2 < i → ¬ (ge_bs (sP X Y) n i2 (px, py) ≤ 0 ∧ ge_bs (sP X Y) n i2 (qx, qy) ≤ 0)) → zG p l e (zR0 1 24) s m args below meth c D A 6 0 0 (MQ below (zE D A (zA L f (fun r => zB (∃ i : Nat, i < n ∧ ge_bs (sP X Y) n i (px, py) ≤ 0 ∧ ge_bs (sP X Y) n i (qx, qy) ≤ 0) r))) args s (zR0 1 24).cells (zR0 1 24).slots A) 3 [(0, .ref a), (1, .int (zI px)), (2, .int (zI py)), (3, .int (zI qx)), (4, .int (zI qy)), (5, .int (zI (i : Int)))] [] L f := by
    intro d
    induction d with
    | zero => intro i h1 h2; omega
    | succ d ih =>
      intro i h1 h2 hI
      refine k_iload Xc d_S_isBeyond_3 rfl (n := 5) rfl ?_
      refine k_aload_n Xc d_S_isBeyond_5 rfl rfl (n := 6) rfl ?_
      refine k_get Xc u_S rfl 2 (by decide) wd_32 rfl d_S_isBeyond_6 (n := 9) rfl hS.1 hS.2.2.2.1 rfl ?_
      refine k_icmp_ge Xc d_S_isBeyond_9 (t := 43) (n := 12) rfl rfl (by omega) (by omega) (fun h_9 => ?_) (fun h_9 => ?_)
      · refine k_iconst Xc d_S_isBeyond_43 (n := 44) rfl ?_
        refine k_iret Xc d_S_isBeyond_44 hr rfl (Nat.le_refl _) (Nat.le_refl _) ⟨_, rfl, ?_, rfl, rfl⟩
        exact Or.inr ⟨fun ⟨i2, z1, z2⟩ => hI i2 (by omega) z2, rfl⟩
      · refine k_aload_n Xc d_S_isBeyond_12 rfl rfl (n := 13) rfl ?_
        refine k_iload Xc d_S_isBeyond_13 rfl (n := 15) rfl ?_
        refine k_iload_n Xc d_S_isBeyond_15 rfl rfl (n := 16) rfl ?_
        refine k_iload_n Xc d_S_isBeyond_16 rfl rfl (n := 17) rfl ?_
        have c1 := bs_bd hB (i := i) (by omega) (px := px) (py := py) (by omega) (by omega) (by omega) (by omega)
        have c2 := bs_bd hB (i := i) (by omega) (px := qx) (py := qy) (by omega) (by omega) (by omega) (by omega)
        refine k_qV (na := 3) Xc (m_S_beside l D G hS hB _ (by omega) _ _ (by omega) (by omega) (by omega) (by omega)) hS.1 hS.2.2.2.1 rfl wd_325 wd_322 wd_323 wd_324 wd_2 (by decide +kernel) ⟨by decide, by decide⟩ rfl rfl (Nat.le_of_ble_eq_true rfl) d_S_isBeyond_17 (n := 20) rfl ⟨Nat.zero_le _, Nat.zero_le _⟩ (fun r_17 e_17 => ?_)
        subst e_17
        refine k_if_gt Xc d_S_isBeyond_20 (t := 37) (n := 23) rfl rfl (by omega) (fun h_20 => ?_) (fun h_20 => ?_)
        · refine k_iinc Xc d_S_isBeyond_37 rfl (by decide) (n := 40) rfl ?_
          refine k_goto Xc d_S_isBeyond_40 (t := 3) rfl ?_
          exact k_loc (ih (i + 1) (by omega) (by omega) (fun i2 q => by
            rcases Nat.lt_or_ge i2 i with q1 | q1
            · exact hI i2 q1
            · have e : i2 = i := by omega
              subst e
              omega)) rfl
        · refine k_aload_n Xc d_S_isBeyond_23 rfl rfl (n := 24) rfl ?_
          refine k_iload Xc d_S_isBeyond_24 rfl (n := 26) rfl ?_
          refine k_iload_n Xc d_S_isBeyond_26 rfl rfl (n := 27) rfl ?_
          refine k_iload Xc d_S_isBeyond_27 rfl (n := 29) rfl ?_
          refine k_qV (na := 3) Xc (m_S_beside l D G hS hB _ (by omega) _ _ (by omega) (by omega) (by omega) (by omega)) hS.1 hS.2.2.2.1 rfl wd_325 wd_322 wd_323 wd_324 wd_2 (by decide +kernel) ⟨by decide, by decide⟩ rfl rfl (Nat.le_of_ble_eq_true rfl) d_S_isBeyond_29 (n := 32) rfl ⟨Nat.zero_le _, Nat.zero_le _⟩ (fun r_29 e_29 => ?_)
          subst e_29
          refine k_if_gt Xc d_S_isBeyond_32 (t := 37) (n := 35) rfl rfl (by omega) (fun h_32 => ?_) (fun h_32 => ?_)
          · refine k_iinc Xc d_S_isBeyond_37 rfl (by decide) (n := 40) rfl ?_
            refine k_goto Xc d_S_isBeyond_40 (t := 3) rfl ?_
            exact k_loc (ih (i + 1) (by omega) (by omega) (fun i2 q => by
              rcases Nat.lt_or_ge i2 i with q1 | q1
              · exact hI i2 q1
              · have e : i2 = i := by omega
                subst e
                omega)) rfl
          · refine k_iconst Xc d_S_isBeyond_35 (n := 36) rfl ?_
            refine k_iret Xc d_S_isBeyond_36 hr rfl (Nat.le_refl _) (Nat.le_refl _) ⟨_, rfl, ?_, rfl, rfl⟩
            exact Or.inl ⟨⟨i, by omega, by omega, by omega⟩, rfl⟩
  refine k_iconst Xc d_S_isBeyond_0 (n := 1) rfl ?_
  refine k_istore Xc d_S_isBeyond_1 (by decide) (n := 3) rfl ?_
  exact k_loc (loop (n + 1) 0 (by omega) (by omega) (fun i2 q => absurd q (by omega))) rfl
end
section
-- SHAPE: queries
set_option maxRecDepth 100000 in
set_option maxHeartbeats 4000000 in
/-- a point, told in thirds, is inside -/
theorem m_S_surrounds (l : Launch) (D : va_G) (G : Nat → ClassId) {L : List Nat} {f : Nat → va_E} {a ax ay n : Nat} {X Y : Int → Int} {lx hx ly hy : Int} (hS : zS G L f a ax ay n X Y lx hx ly hy) (hB : sB n X Y) (tx ty : Int) (q3 : -1000 ≤ tx ∧ tx ≤ 1000 ∧ -1000 ≤ ty ∧ ty ≤ 1000) : zM l D G y_S_surrounds (.code y_S_surrounds c_S_surrounds 9 (some .boolean) :: BG) (zR0 1 21) [.ref a, .int (zI tx), .int (zI ty)] L f (zA L f (fun r => zB (ge_odd n (ge_3 (sP X Y)) (tx, ty) n) r)) := by
  refine zM.of (by decide) (Nat.le_of_ble_eq_true rfl) rfl (fun p e s m args below meth c A Xc hr hnm => ?_)
  have hn := hB.1
  have loop : ∀ (d i : Nat) (o : Int), n < i + d → i ≤ n → zB (ge_odd n (ge_3 (sP X Y)) (tx, ty) i) o → zG p l e (zR0 1 21) s m args below meth c D A 9 0 0 (MQ below (zE D A (zA L f (fun r => zB (ge_odd n (ge_3 (sP X Y)) (tx, ty) n) r))) args s (zR0 1 21).cells (zR0 1 21).slots A) 5 [(0, .ref a), (1, .int (zI tx)), (2, .int (zI ty)), (3, .int (zI o)), (4, .int (zI (i : Int)))] [] L f := by
    intro d
    induction d with
    | zero => intro i o h1 h2; omega
    | succ d ih =>
      intro i o h1 h2 ho
      have o1 := zB_01 ho
      refine k_iload Xc d_S_surrounds_5 rfl (n := 7) rfl ?_
      refine k_aload_n Xc d_S_surrounds_7 rfl rfl (n := 8) rfl ?_
      refine k_get Xc u_S rfl 2 (by decide) wd_32 rfl d_S_surrounds_8 (n := 11) rfl hS.1 hS.2.2.2.1 rfl ?_
      refine k_icmp_ge Xc d_S_surrounds_11 (t := 160) (n := 14) rfl rfl (by omega) (by omega) (fun h_11 => ?_) (fun h_11 => ?_)
      · refine k_iload_n Xc d_S_surrounds_160 rfl rfl (n := 161) rfl ?_
        refine k_iret Xc d_S_surrounds_161 hr (nar_b o1) (Nat.le_refl _) (Nat.le_refl _) ⟨_, rfl, ?_, rfl, rfl⟩
        rw [show i = n by omega] at ho
        exact ho
      · refine k_aload_n Xc d_S_surrounds_14 rfl rfl (n := 15) rfl ?_
        refine k_iload Xc d_S_surrounds_15 rfl (n := 17) rfl ?_
        have l1 : ge_nx n i < n := nx_lt (by omega)
        have b0 := hB.2 i (by omega)
        have b1 := hB.2 _ l1
        have u := mul_bd (a := X ((ge_nx n i : Nat) : Int) - X (i : Int)) (b := ty - 3 * Y (i : Int)) (A := 200) (B := 1300) (by omega) (by omega) (by omega) (by omega)
        have v := mul_bd (a := Y ((ge_nx n i : Nat) : Int) - Y (i : Int)) (b := tx - 3 * X (i : Int)) (A := 200) (B := 1300) (by omega) (by omega) (by omega) (by omega)
        refine k_qV (na := 1) Xc (m_S_next l D G hS hB.1 _ (by omega)) hS.1 hS.2.2.2.1 rfl wd_181 wd_178 wd_179 wd_180 wd_2 (by decide +kernel) ⟨by decide, by decide⟩ rfl rfl (Nat.le_of_ble_eq_true rfl) d_S_surrounds_17 (n := 20) rfl ⟨Nat.zero_le _, Nat.zero_le _⟩ (fun r_17 e_17 => ?_)
        subst e_17
        refine k_istore Xc d_S_surrounds_20 (by decide) (n := 22) rfl ?_
        refine k_iconst Xc d_S_surrounds_22 (n := 23) rfl ?_
        refine k_aload_n Xc d_S_surrounds_23 rfl rfl (n := 24) rfl ?_
        refine k_get Xc u_S rfl 1 (by decide) wd_31 rfl d_S_surrounds_24 (n := 27) rfl hS.1 hS.2.2.2.1 rfl ?_
        refine k_iload Xc d_S_surrounds_27 rfl (n := 29) rfl ?_
        refine k_iald Xc d_S_surrounds_29 (n := 30) rfl hS.2.2.1 hS.2.2.2.2.2 (by omega) (by omega) (by decide) ?_
        refine k_imul Xc d_S_surrounds_30 (n := 31) rfl ?_
        refine k_iload_n Xc d_S_surrounds_31 rfl rfl (n := 32) rfl ?_
        refine k_icmp_le Xc d_S_surrounds_32 (t := 39) (n := 35) rfl rfl (by omega) (by omega) (fun h_32 => ?_) (fun h_32 => ?_)
        · refine k_iconst Xc d_S_surrounds_39 (n := 40) rfl ?_
          refine k_istore Xc d_S_surrounds_40 (by decide) (n := 42) rfl ?_
          refine k_iconst Xc d_S_surrounds_42 (n := 43) rfl ?_
          refine k_aload_n Xc d_S_surrounds_43 rfl rfl (n := 44) rfl ?_
          refine k_get Xc u_S rfl 1 (by decide) wd_31 rfl d_S_surrounds_44 (n := 47) rfl hS.1 hS.2.2.2.1 rfl ?_
          refine k_iload Xc d_S_surrounds_47 rfl (n := 49) rfl ?_
          refine k_iald Xc d_S_surrounds_49 (n := 50) rfl hS.2.2.1 hS.2.2.2.2.2 (by omega) (by omega) (by decide) ?_
          refine k_imul Xc d_S_surrounds_50 (n := 51) rfl ?_
          refine k_iload_n Xc d_S_surrounds_51 rfl rfl (n := 52) rfl ?_
          refine k_icmp_le Xc d_S_surrounds_52 (t := 59) (n := 55) rfl rfl (by omega) (by omega) (fun h_52 => ?_) (fun h_52 => ?_)
          · refine k_iconst Xc d_S_surrounds_59 (n := 60) rfl ?_
            refine k_istore Xc d_S_surrounds_60 (by decide) (n := 62) rfl ?_
            refine k_aload_n Xc d_S_surrounds_62 rfl rfl (n := 63) rfl ?_
            refine k_get Xc u_S rfl 0 (by decide) wd_30 rfl d_S_surrounds_63 (n := 66) rfl hS.1 hS.2.2.2.1 rfl ?_
            refine k_iload Xc d_S_surrounds_66 rfl (n := 68) rfl ?_
            refine k_iald Xc d_S_surrounds_68 (n := 69) rfl hS.2.1 hS.2.2.2.2.1 (by omega) (by omega) (by decide) ?_
            refine k_aload_n Xc d_S_surrounds_69 rfl rfl (n := 70) rfl ?_
            refine k_get Xc u_S rfl 0 (by decide) wd_30 rfl d_S_surrounds_70 (n := 73) rfl hS.1 hS.2.2.2.1 rfl ?_
            refine k_iload Xc d_S_surrounds_73 rfl (n := 75) rfl ?_
            refine k_iald Xc d_S_surrounds_75 (n := 76) rfl hS.2.1 hS.2.2.2.2.1 (by omega) (by omega) (by decide) ?_
            refine k_isub Xc d_S_surrounds_76 (n := 77) rfl ?_
            refine k_iload_n Xc d_S_surrounds_77 rfl rfl (n := 78) rfl ?_
            refine k_iconst Xc d_S_surrounds_78 (n := 79) rfl ?_
            refine k_aload_n Xc d_S_surrounds_79 rfl rfl (n := 80) rfl ?_
            refine k_get Xc u_S rfl 1 (by decide) wd_31 rfl d_S_surrounds_80 (n := 83) rfl hS.1 hS.2.2.2.1 rfl ?_
            refine k_iload Xc d_S_surrounds_83 rfl (n := 85) rfl ?_
            refine k_iald Xc d_S_surrounds_85 (n := 86) rfl hS.2.2.1 hS.2.2.2.2.2 (by omega) (by omega) (by decide) ?_
            refine k_imul Xc d_S_surrounds_86 (n := 87) rfl ?_
            refine k_isub Xc d_S_surrounds_87 (n := 88) rfl ?_
            refine k_imul Xc d_S_surrounds_88 (n := 89) rfl ?_
            refine k_aload_n Xc d_S_surrounds_89 rfl rfl (n := 90) rfl ?_
            refine k_get Xc u_S rfl 1 (by decide) wd_31 rfl d_S_surrounds_90 (n := 93) rfl hS.1 hS.2.2.2.1 rfl ?_
            refine k_iload Xc d_S_surrounds_93 rfl (n := 95) rfl ?_
            refine k_iald Xc d_S_surrounds_95 (n := 96) rfl hS.2.2.1 hS.2.2.2.2.2 (by omega) (by omega) (by decide) ?_
            refine k_aload_n Xc d_S_surrounds_96 rfl rfl (n := 97) rfl ?_
            refine k_get Xc u_S rfl 1 (by decide) wd_31 rfl d_S_surrounds_97 (n := 100) rfl hS.1 hS.2.2.2.1 rfl ?_
            refine k_iload Xc d_S_surrounds_100 rfl (n := 102) rfl ?_
            refine k_iald Xc d_S_surrounds_102 (n := 103) rfl hS.2.2.1 hS.2.2.2.2.2 (by omega) (by omega) (by decide) ?_
            refine k_isub Xc d_S_surrounds_103 (n := 104) rfl ?_
            refine k_iload_n Xc d_S_surrounds_104 rfl rfl (n := 105) rfl ?_
            refine k_iconst Xc d_S_surrounds_105 (n := 106) rfl ?_
            refine k_aload_n Xc d_S_surrounds_106 rfl rfl (n := 107) rfl ?_
            refine k_get Xc u_S rfl 0 (by decide) wd_30 rfl d_S_surrounds_107 (n := 110) rfl hS.1 hS.2.2.2.1 rfl ?_
            refine k_iload Xc d_S_surrounds_110 rfl (n := 112) rfl ?_
            refine k_iald Xc d_S_surrounds_112 (n := 113) rfl hS.2.1 hS.2.2.2.2.1 (by omega) (by omega) (by decide) ?_
            refine k_imul Xc d_S_surrounds_113 (n := 114) rfl ?_
            refine k_isub Xc d_S_surrounds_114 (n := 115) rfl ?_
            refine k_imul Xc d_S_surrounds_115 (n := 116) rfl ?_
            refine k_isub Xc d_S_surrounds_116 (n := 117) rfl ?_
            refine k_top (fun w hat => ?_)
            have hh := hit3 hat
            refine k_istore Xc d_S_surrounds_117 (by decide) (n := 119) rfl ?_
            refine k_iload Xc d_S_surrounds_119 rfl (n := 121) rfl ?_
            refine k_iload Xc d_S_surrounds_121 rfl (n := 123) rfl ?_
            refine k_icmp_eq Xc d_S_surrounds_123 (t := 154) (n := 126) rfl rfl (by omega) (by omega) (fun _ => ?_) (fun h_123 => absurd h_123 (by omega))
            refine k_iinc Xc d_S_surrounds_154 rfl (by decide) (n := 157) rfl ?_
            refine k_goto Xc d_S_surrounds_157 (t := 5) rfl ?_
            exact k_loc (ih (i + 1) o (by omega) (by omega) (odd_keep ho (fun q => by have := hh.mp q; omega))) rfl
          · refine k_iconst Xc d_S_surrounds_55 (n := 56) rfl ?_
            refine k_goto Xc d_S_surrounds_56 (t := 60) rfl ?_
            refine k_istore Xc d_S_surrounds_60 (by decide) (n := 62) rfl ?_
            refine k_aload_n Xc d_S_surrounds_62 rfl rfl (n := 63) rfl ?_
            refine k_get Xc u_S rfl 0 (by decide) wd_30 rfl d_S_surrounds_63 (n := 66) rfl hS.1 hS.2.2.2.1 rfl ?_
            refine k_iload Xc d_S_surrounds_66 rfl (n := 68) rfl ?_
            refine k_iald Xc d_S_surrounds_68 (n := 69) rfl hS.2.1 hS.2.2.2.2.1 (by omega) (by omega) (by decide) ?_
            refine k_aload_n Xc d_S_surrounds_69 rfl rfl (n := 70) rfl ?_
            refine k_get Xc u_S rfl 0 (by decide) wd_30 rfl d_S_surrounds_70 (n := 73) rfl hS.1 hS.2.2.2.1 rfl ?_
            refine k_iload Xc d_S_surrounds_73 rfl (n := 75) rfl ?_
            refine k_iald Xc d_S_surrounds_75 (n := 76) rfl hS.2.1 hS.2.2.2.2.1 (by omega) (by omega) (by decide) ?_
            refine k_isub Xc d_S_surrounds_76 (n := 77) rfl ?_
            refine k_iload_n Xc d_S_surrounds_77 rfl rfl (n := 78) rfl ?_
            refine k_iconst Xc d_S_surrounds_78 (n := 79) rfl ?_
            refine k_aload_n Xc d_S_surrounds_79 rfl rfl (n := 80) rfl ?_
            refine k_get Xc u_S rfl 1 (by decide) wd_31 rfl d_S_surrounds_80 (n := 83) rfl hS.1 hS.2.2.2.1 rfl ?_
            refine k_iload Xc d_S_surrounds_83 rfl (n := 85) rfl ?_
            refine k_iald Xc d_S_surrounds_85 (n := 86) rfl hS.2.2.1 hS.2.2.2.2.2 (by omega) (by omega) (by decide) ?_
            refine k_imul Xc d_S_surrounds_86 (n := 87) rfl ?_
            refine k_isub Xc d_S_surrounds_87 (n := 88) rfl ?_
            refine k_imul Xc d_S_surrounds_88 (n := 89) rfl ?_
            refine k_aload_n Xc d_S_surrounds_89 rfl rfl (n := 90) rfl ?_
            refine k_get Xc u_S rfl 1 (by decide) wd_31 rfl d_S_surrounds_90 (n := 93) rfl hS.1 hS.2.2.2.1 rfl ?_
            refine k_iload Xc d_S_surrounds_93 rfl (n := 95) rfl ?_
            refine k_iald Xc d_S_surrounds_95 (n := 96) rfl hS.2.2.1 hS.2.2.2.2.2 (by omega) (by omega) (by decide) ?_
            refine k_aload_n Xc d_S_surrounds_96 rfl rfl (n := 97) rfl ?_
            refine k_get Xc u_S rfl 1 (by decide) wd_31 rfl d_S_surrounds_97 (n := 100) rfl hS.1 hS.2.2.2.1 rfl ?_
            refine k_iload Xc d_S_surrounds_100 rfl (n := 102) rfl ?_
            refine k_iald Xc d_S_surrounds_102 (n := 103) rfl hS.2.2.1 hS.2.2.2.2.2 (by omega) (by omega) (by decide) ?_
            refine k_isub Xc d_S_surrounds_103 (n := 104) rfl ?_
            refine k_iload_n Xc d_S_surrounds_104 rfl rfl (n := 105) rfl ?_
            refine k_iconst Xc d_S_surrounds_105 (n := 106) rfl ?_
            refine k_aload_n Xc d_S_surrounds_106 rfl rfl (n := 107) rfl ?_
            refine k_get Xc u_S rfl 0 (by decide) wd_30 rfl d_S_surrounds_107 (n := 110) rfl hS.1 hS.2.2.2.1 rfl ?_
            refine k_iload Xc d_S_surrounds_110 rfl (n := 112) rfl ?_
            refine k_iald Xc d_S_surrounds_112 (n := 113) rfl hS.2.1 hS.2.2.2.2.1 (by omega) (by omega) (by decide) ?_
            refine k_imul Xc d_S_surrounds_113 (n := 114) rfl ?_
            refine k_isub Xc d_S_surrounds_114 (n := 115) rfl ?_
            refine k_imul Xc d_S_surrounds_115 (n := 116) rfl ?_
            refine k_isub Xc d_S_surrounds_116 (n := 117) rfl ?_
            refine k_top (fun w hat => ?_)
            have hh := hit3 hat
            refine k_istore Xc d_S_surrounds_117 (by decide) (n := 119) rfl ?_
            refine k_iload Xc d_S_surrounds_119 rfl (n := 121) rfl ?_
            refine k_iload Xc d_S_surrounds_121 rfl (n := 123) rfl ?_
            refine k_icmp_eq Xc d_S_surrounds_123 (t := 154) (n := 126) rfl rfl (by omega) (by omega) (fun h_123 => absurd h_123 (by omega)) (fun _ => ?_)
            refine k_iload Xc d_S_surrounds_126 rfl (n := 128) rfl ?_
            refine k_if_eq Xc d_S_surrounds_128 (t := 139) (n := 131) rfl rfl (by omega) (fun h_128 => absurd h_128 (by omega)) (fun _ => ?_)
            refine k_iload Xc d_S_surrounds_131 rfl (n := 133) rfl ?_
            refine k_if_le Xc d_S_surrounds_133 (t := 154) (n := 136) rfl rfl (by omega) (fun h_133 => ?_) (fun h_133 => ?_)
            · refine k_iinc Xc d_S_surrounds_154 rfl (by decide) (n := 157) rfl ?_
              refine k_goto Xc d_S_surrounds_157 (t := 5) rfl ?_
              exact k_loc (ih (i + 1) o (by omega) (by omega) (odd_keep ho (fun q => by have := hh.mp q; omega))) rfl
            · refine k_goto Xc d_S_surrounds_136 (t := 144) rfl ?_
              refine k_iload_n Xc d_S_surrounds_144 rfl rfl (n := 145) rfl ?_
              refine k_if_ne Xc d_S_surrounds_145 (t := 152) (n := 148) rfl rfl (by omega) (fun h_145 => ?_) (fun h_145 => ?_)
              · refine k_iconst Xc d_S_surrounds_152 (n := 153) rfl ?_
                refine k_istore_n Xc d_S_surrounds_153 rfl (by decide) (n := 154) rfl ?_
                refine k_iinc Xc d_S_surrounds_154 rfl (by decide) (n := 157) rfl ?_
                refine k_goto Xc d_S_surrounds_157 (t := 5) rfl ?_
                exact k_loc (ih (i + 1) 0 (by omega) (by omega) (odd_flip ho (hh.mpr (by omega)) (by omega))) rfl
              · refine k_iconst Xc d_S_surrounds_148 (n := 149) rfl ?_
                refine k_goto Xc d_S_surrounds_149 (t := 153) rfl ?_
                refine k_istore_n Xc d_S_surrounds_153 rfl (by decide) (n := 154) rfl ?_
                refine k_iinc Xc d_S_surrounds_154 rfl (by decide) (n := 157) rfl ?_
                refine k_goto Xc d_S_surrounds_157 (t := 5) rfl ?_
                exact k_loc (ih (i + 1) 1 (by omega) (by omega) (odd_flip ho (hh.mpr (by omega)) (by omega))) rfl
        · refine k_iconst Xc d_S_surrounds_35 (n := 36) rfl ?_
          refine k_goto Xc d_S_surrounds_36 (t := 40) rfl ?_
          refine k_istore Xc d_S_surrounds_40 (by decide) (n := 42) rfl ?_
          refine k_iconst Xc d_S_surrounds_42 (n := 43) rfl ?_
          refine k_aload_n Xc d_S_surrounds_43 rfl rfl (n := 44) rfl ?_
          refine k_get Xc u_S rfl 1 (by decide) wd_31 rfl d_S_surrounds_44 (n := 47) rfl hS.1 hS.2.2.2.1 rfl ?_
          refine k_iload Xc d_S_surrounds_47 rfl (n := 49) rfl ?_
          refine k_iald Xc d_S_surrounds_49 (n := 50) rfl hS.2.2.1 hS.2.2.2.2.2 (by omega) (by omega) (by decide) ?_
          refine k_imul Xc d_S_surrounds_50 (n := 51) rfl ?_
          refine k_iload_n Xc d_S_surrounds_51 rfl rfl (n := 52) rfl ?_
          refine k_icmp_le Xc d_S_surrounds_52 (t := 59) (n := 55) rfl rfl (by omega) (by omega) (fun h_52 => ?_) (fun h_52 => ?_)
          · refine k_iconst Xc d_S_surrounds_59 (n := 60) rfl ?_
            refine k_istore Xc d_S_surrounds_60 (by decide) (n := 62) rfl ?_
            refine k_aload_n Xc d_S_surrounds_62 rfl rfl (n := 63) rfl ?_
            refine k_get Xc u_S rfl 0 (by decide) wd_30 rfl d_S_surrounds_63 (n := 66) rfl hS.1 hS.2.2.2.1 rfl ?_
            refine k_iload Xc d_S_surrounds_66 rfl (n := 68) rfl ?_
            refine k_iald Xc d_S_surrounds_68 (n := 69) rfl hS.2.1 hS.2.2.2.2.1 (by omega) (by omega) (by decide) ?_
            refine k_aload_n Xc d_S_surrounds_69 rfl rfl (n := 70) rfl ?_
            refine k_get Xc u_S rfl 0 (by decide) wd_30 rfl d_S_surrounds_70 (n := 73) rfl hS.1 hS.2.2.2.1 rfl ?_
            refine k_iload Xc d_S_surrounds_73 rfl (n := 75) rfl ?_
            refine k_iald Xc d_S_surrounds_75 (n := 76) rfl hS.2.1 hS.2.2.2.2.1 (by omega) (by omega) (by decide) ?_
            refine k_isub Xc d_S_surrounds_76 (n := 77) rfl ?_
            refine k_iload_n Xc d_S_surrounds_77 rfl rfl (n := 78) rfl ?_
            refine k_iconst Xc d_S_surrounds_78 (n := 79) rfl ?_
            refine k_aload_n Xc d_S_surrounds_79 rfl rfl (n := 80) rfl ?_
            refine k_get Xc u_S rfl 1 (by decide) wd_31 rfl d_S_surrounds_80 (n := 83) rfl hS.1 hS.2.2.2.1 rfl ?_
            refine k_iload Xc d_S_surrounds_83 rfl (n := 85) rfl ?_
            refine k_iald Xc d_S_surrounds_85 (n := 86) rfl hS.2.2.1 hS.2.2.2.2.2 (by omega) (by omega) (by decide) ?_
            refine k_imul Xc d_S_surrounds_86 (n := 87) rfl ?_
            refine k_isub Xc d_S_surrounds_87 (n := 88) rfl ?_
            refine k_imul Xc d_S_surrounds_88 (n := 89) rfl ?_
            refine k_aload_n Xc d_S_surrounds_89 rfl rfl (n := 90) rfl ?_
            refine k_get Xc u_S rfl 1 (by decide) wd_31 rfl d_S_surrounds_90 (n := 93) rfl hS.1 hS.2.2.2.1 rfl ?_
            refine k_iload Xc d_S_surrounds_93 rfl (n := 95) rfl ?_
            refine k_iald Xc d_S_surrounds_95 (n := 96) rfl hS.2.2.1 hS.2.2.2.2.2 (by omega) (by omega) (by decide) ?_
            refine k_aload_n Xc d_S_surrounds_96 rfl rfl (n := 97) rfl ?_
            refine k_get Xc u_S rfl 1 (by decide) wd_31 rfl d_S_surrounds_97 (n := 100) rfl hS.1 hS.2.2.2.1 rfl ?_
            refine k_iload Xc d_S_surrounds_100 rfl (n := 102) rfl ?_
            refine k_iald Xc d_S_surrounds_102 (n := 103) rfl hS.2.2.1 hS.2.2.2.2.2 (by omega) (by omega) (by decide) ?_
            refine k_isub Xc d_S_surrounds_103 (n := 104) rfl ?_
            refine k_iload_n Xc d_S_surrounds_104 rfl rfl (n := 105) rfl ?_
            refine k_iconst Xc d_S_surrounds_105 (n := 106) rfl ?_
            refine k_aload_n Xc d_S_surrounds_106 rfl rfl (n := 107) rfl ?_
            refine k_get Xc u_S rfl 0 (by decide) wd_30 rfl d_S_surrounds_107 (n := 110) rfl hS.1 hS.2.2.2.1 rfl ?_
            refine k_iload Xc d_S_surrounds_110 rfl (n := 112) rfl ?_
            refine k_iald Xc d_S_surrounds_112 (n := 113) rfl hS.2.1 hS.2.2.2.2.1 (by omega) (by omega) (by decide) ?_
            refine k_imul Xc d_S_surrounds_113 (n := 114) rfl ?_
            refine k_isub Xc d_S_surrounds_114 (n := 115) rfl ?_
            refine k_imul Xc d_S_surrounds_115 (n := 116) rfl ?_
            refine k_isub Xc d_S_surrounds_116 (n := 117) rfl ?_
            refine k_top (fun w hat => ?_)
            have hh := hit3 hat
            refine k_istore Xc d_S_surrounds_117 (by decide) (n := 119) rfl ?_
            refine k_iload Xc d_S_surrounds_119 rfl (n := 121) rfl ?_
            refine k_iload Xc d_S_surrounds_121 rfl (n := 123) rfl ?_
            refine k_icmp_eq Xc d_S_surrounds_123 (t := 154) (n := 126) rfl rfl (by omega) (by omega) (fun h_123 => absurd h_123 (by omega)) (fun _ => ?_)
            refine k_iload Xc d_S_surrounds_126 rfl (n := 128) rfl ?_
            refine k_if_eq Xc d_S_surrounds_128 (t := 139) (n := 131) rfl rfl (by omega) (fun _ => ?_) (fun h_128 => absurd h_128 (by omega))
            refine k_iload Xc d_S_surrounds_139 rfl (n := 141) rfl ?_
            refine k_if_ge Xc d_S_surrounds_141 (t := 154) (n := 144) rfl rfl (by omega) (fun h_141 => ?_) (fun h_141 => ?_)
            · refine k_iinc Xc d_S_surrounds_154 rfl (by decide) (n := 157) rfl ?_
              refine k_goto Xc d_S_surrounds_157 (t := 5) rfl ?_
              exact k_loc (ih (i + 1) o (by omega) (by omega) (odd_keep ho (fun q => by have := hh.mp q; omega))) rfl
            · refine k_iload_n Xc d_S_surrounds_144 rfl rfl (n := 145) rfl ?_
              refine k_if_ne Xc d_S_surrounds_145 (t := 152) (n := 148) rfl rfl (by omega) (fun h_145 => ?_) (fun h_145 => ?_)
              · refine k_iconst Xc d_S_surrounds_152 (n := 153) rfl ?_
                refine k_istore_n Xc d_S_surrounds_153 rfl (by decide) (n := 154) rfl ?_
                refine k_iinc Xc d_S_surrounds_154 rfl (by decide) (n := 157) rfl ?_
                refine k_goto Xc d_S_surrounds_157 (t := 5) rfl ?_
                exact k_loc (ih (i + 1) 0 (by omega) (by omega) (odd_flip ho (hh.mpr (by omega)) (by omega))) rfl
              · refine k_iconst Xc d_S_surrounds_148 (n := 149) rfl ?_
                refine k_goto Xc d_S_surrounds_149 (t := 153) rfl ?_
                refine k_istore_n Xc d_S_surrounds_153 rfl (by decide) (n := 154) rfl ?_
                refine k_iinc Xc d_S_surrounds_154 rfl (by decide) (n := 157) rfl ?_
                refine k_goto Xc d_S_surrounds_157 (t := 5) rfl ?_
                exact k_loc (ih (i + 1) 1 (by omega) (by omega) (odd_flip ho (hh.mpr (by omega)) (by omega))) rfl
          · refine k_iconst Xc d_S_surrounds_55 (n := 56) rfl ?_
            refine k_goto Xc d_S_surrounds_56 (t := 60) rfl ?_
            refine k_istore Xc d_S_surrounds_60 (by decide) (n := 62) rfl ?_
            refine k_aload_n Xc d_S_surrounds_62 rfl rfl (n := 63) rfl ?_
            refine k_get Xc u_S rfl 0 (by decide) wd_30 rfl d_S_surrounds_63 (n := 66) rfl hS.1 hS.2.2.2.1 rfl ?_
            refine k_iload Xc d_S_surrounds_66 rfl (n := 68) rfl ?_
            refine k_iald Xc d_S_surrounds_68 (n := 69) rfl hS.2.1 hS.2.2.2.2.1 (by omega) (by omega) (by decide) ?_
            refine k_aload_n Xc d_S_surrounds_69 rfl rfl (n := 70) rfl ?_
            refine k_get Xc u_S rfl 0 (by decide) wd_30 rfl d_S_surrounds_70 (n := 73) rfl hS.1 hS.2.2.2.1 rfl ?_
            refine k_iload Xc d_S_surrounds_73 rfl (n := 75) rfl ?_
            refine k_iald Xc d_S_surrounds_75 (n := 76) rfl hS.2.1 hS.2.2.2.2.1 (by omega) (by omega) (by decide) ?_
            refine k_isub Xc d_S_surrounds_76 (n := 77) rfl ?_
            refine k_iload_n Xc d_S_surrounds_77 rfl rfl (n := 78) rfl ?_
            refine k_iconst Xc d_S_surrounds_78 (n := 79) rfl ?_
            refine k_aload_n Xc d_S_surrounds_79 rfl rfl (n := 80) rfl ?_
            refine k_get Xc u_S rfl 1 (by decide) wd_31 rfl d_S_surrounds_80 (n := 83) rfl hS.1 hS.2.2.2.1 rfl ?_
            refine k_iload Xc d_S_surrounds_83 rfl (n := 85) rfl ?_
            refine k_iald Xc d_S_surrounds_85 (n := 86) rfl hS.2.2.1 hS.2.2.2.2.2 (by omega) (by omega) (by decide) ?_
            refine k_imul Xc d_S_surrounds_86 (n := 87) rfl ?_
            refine k_isub Xc d_S_surrounds_87 (n := 88) rfl ?_
            refine k_imul Xc d_S_surrounds_88 (n := 89) rfl ?_
            refine k_aload_n Xc d_S_surrounds_89 rfl rfl (n := 90) rfl ?_
            refine k_get Xc u_S rfl 1 (by decide) wd_31 rfl d_S_surrounds_90 (n := 93) rfl hS.1 hS.2.2.2.1 rfl ?_
            refine k_iload Xc d_S_surrounds_93 rfl (n := 95) rfl ?_
            refine k_iald Xc d_S_surrounds_95 (n := 96) rfl hS.2.2.1 hS.2.2.2.2.2 (by omega) (by omega) (by decide) ?_
            refine k_aload_n Xc d_S_surrounds_96 rfl rfl (n := 97) rfl ?_
            refine k_get Xc u_S rfl 1 (by decide) wd_31 rfl d_S_surrounds_97 (n := 100) rfl hS.1 hS.2.2.2.1 rfl ?_
            refine k_iload Xc d_S_surrounds_100 rfl (n := 102) rfl ?_
            refine k_iald Xc d_S_surrounds_102 (n := 103) rfl hS.2.2.1 hS.2.2.2.2.2 (by omega) (by omega) (by decide) ?_
            refine k_isub Xc d_S_surrounds_103 (n := 104) rfl ?_
            refine k_iload_n Xc d_S_surrounds_104 rfl rfl (n := 105) rfl ?_
            refine k_iconst Xc d_S_surrounds_105 (n := 106) rfl ?_
            refine k_aload_n Xc d_S_surrounds_106 rfl rfl (n := 107) rfl ?_
            refine k_get Xc u_S rfl 0 (by decide) wd_30 rfl d_S_surrounds_107 (n := 110) rfl hS.1 hS.2.2.2.1 rfl ?_
            refine k_iload Xc d_S_surrounds_110 rfl (n := 112) rfl ?_
            refine k_iald Xc d_S_surrounds_112 (n := 113) rfl hS.2.1 hS.2.2.2.2.1 (by omega) (by omega) (by decide) ?_
            refine k_imul Xc d_S_surrounds_113 (n := 114) rfl ?_
            refine k_isub Xc d_S_surrounds_114 (n := 115) rfl ?_
            refine k_imul Xc d_S_surrounds_115 (n := 116) rfl ?_
            refine k_isub Xc d_S_surrounds_116 (n := 117) rfl ?_
            refine k_top (fun w hat => ?_)
            have hh := hit3 hat
            refine k_istore Xc d_S_surrounds_117 (by decide) (n := 119) rfl ?_
            refine k_iload Xc d_S_surrounds_119 rfl (n := 121) rfl ?_
            refine k_iload Xc d_S_surrounds_121 rfl (n := 123) rfl ?_
            refine k_icmp_eq Xc d_S_surrounds_123 (t := 154) (n := 126) rfl rfl (by omega) (by omega) (fun _ => ?_) (fun h_123 => absurd h_123 (by omega))
            refine k_iinc Xc d_S_surrounds_154 rfl (by decide) (n := 157) rfl ?_
            refine k_goto Xc d_S_surrounds_157 (t := 5) rfl ?_
            exact k_loc (ih (i + 1) o (by omega) (by omega) (odd_keep ho (fun q => by have := hh.mp q; omega))) rfl
  refine k_iconst Xc d_S_surrounds_0 (n := 1) rfl ?_
  refine k_istore_n Xc d_S_surrounds_1 rfl (by decide) (n := 2) rfl ?_
  refine k_iconst Xc d_S_surrounds_2 (n := 3) rfl ?_
  refine k_istore Xc d_S_surrounds_3 (by decide) (n := 5) rfl ?_
  exact k_loc (loop (n + 1) 0 0 (by omega) (by omega) (Or.inr ⟨fun q => q, rfl⟩)) rfl
set_option maxRecDepth 100000 in
set_option maxHeartbeats 4000000 in
/-- a side has points inside the piece -/
theorem m_S_sideCuts (l : Launch) (D : va_G) (G : Nat → ClassId) {L : List Nat} {f : Nat → va_E} {a ax ay n : Nat} {X Y : Int → Int} {lx hx ly hy : Int} (hS : zS G L f a ax ay n X Y lx hx ly hy) (hB : sB n X Y) {b bx b_y k2 : Nat} {U V : Int → Int} {lu hu lv hv : Int} (hT : zS G L f b bx b_y k2 U V lu hu lv hv) (hC : sB k2 U V) (q2 : -1000 ≤ lu ∧ lu ≤ 1000 ∧ -1000 ≤ hu ∧ hu ≤ 1000 ∧ -1000 ≤ lv ∧ lv ≤ 1000 ∧ -1000 ≤ hv ∧ hv ≤ 1000) (i : Nat) (hi : i < n) (dx dy : Int) (q3 : -100 ≤ dx ∧ dx ≤ 100 ∧ -100 ≤ dy ∧ dy ≤ 100) : zM l D G y_S_sideCuts (.code y_S_sideCuts c_S_sideCuts 11 (some .boolean) :: BG) (zR0 2 52) [.ref a, .int (zI (i : Int)), .ref b, .int (zI dx), .int (zI dy)] L f (zA L f (fun r => zB (sCut n X Y k2 U V lu hu lv hv dx dy i) r)) := by
  refine zM.of (by decide) (Nat.le_of_ble_eq_true rfl) rfl (fun p e s m args below meth c A Xc hr hnm => ?_)
  have hn := hB.1
  have l1 : ge_nx n i < n := nx_lt (by omega)
  have b0 := hB.2 i hi
  have b1 := hB.2 _ l1
  refine k_aload_n Xc d_S_sideCuts_0 rfl rfl (n := 1) rfl ?_
  refine k_iload_n Xc d_S_sideCuts_1 rfl rfl (n := 2) rfl ?_
  refine k_qV (na := 1) Xc (m_S_next l D G hS hB.1 _ (by omega)) hS.1 hS.2.2.2.1 rfl wd_181 wd_178 wd_179 wd_180 wd_2 (by decide +kernel) ⟨by decide, by decide⟩ rfl rfl (Nat.le_of_ble_eq_true rfl) d_S_sideCuts_2 (n := 5) rfl ⟨Nat.zero_le _, Nat.zero_le _⟩ (fun r_2 e_2 => ?_)
  subst e_2
  refine k_istore Xc d_S_sideCuts_5 (by decide) (n := 7) rfl ?_
  refine k_aload_n Xc d_S_sideCuts_7 rfl rfl (n := 8) rfl ?_
  refine k_get Xc u_S rfl 0 (by decide) wd_30 rfl d_S_sideCuts_8 (n := 11) rfl hS.1 hS.2.2.2.1 rfl ?_
  refine k_iload_n Xc d_S_sideCuts_11 rfl rfl (n := 12) rfl ?_
  refine k_iald Xc d_S_sideCuts_12 (n := 13) rfl hS.2.1 hS.2.2.2.2.1 (by omega) (by omega) (by decide) ?_
  refine k_iload_n Xc d_S_sideCuts_13 rfl rfl (n := 14) rfl ?_
  refine k_isub Xc d_S_sideCuts_14 (n := 15) rfl ?_
  refine k_istore Xc d_S_sideCuts_15 (by decide) (n := 17) rfl ?_
  refine k_aload_n Xc d_S_sideCuts_17 rfl rfl (n := 18) rfl ?_
  refine k_get Xc u_S rfl 1 (by decide) wd_31 rfl d_S_sideCuts_18 (n := 21) rfl hS.1 hS.2.2.2.1 rfl ?_
  refine k_iload_n Xc d_S_sideCuts_21 rfl rfl (n := 22) rfl ?_
  refine k_iald Xc d_S_sideCuts_22 (n := 23) rfl hS.2.2.1 hS.2.2.2.2.2 (by omega) (by omega) (by decide) ?_
  refine k_iload Xc d_S_sideCuts_23 rfl (n := 25) rfl ?_
  refine k_isub Xc d_S_sideCuts_25 (n := 26) rfl ?_
  refine k_istore Xc d_S_sideCuts_26 (by decide) (n := 28) rfl ?_
  refine k_aload_n Xc d_S_sideCuts_28 rfl rfl (n := 29) rfl ?_
  refine k_get Xc u_S rfl 0 (by decide) wd_30 rfl d_S_sideCuts_29 (n := 32) rfl hS.1 hS.2.2.2.1 rfl ?_
  refine k_iload Xc d_S_sideCuts_32 rfl (n := 34) rfl ?_
  refine k_iald Xc d_S_sideCuts_34 (n := 35) rfl hS.2.1 hS.2.2.2.2.1 (by omega) (by omega) (by decide) ?_
  refine k_iload_n Xc d_S_sideCuts_35 rfl rfl (n := 36) rfl ?_
  refine k_isub Xc d_S_sideCuts_36 (n := 37) rfl ?_
  refine k_istore Xc d_S_sideCuts_37 (by decide) (n := 39) rfl ?_
  refine k_aload_n Xc d_S_sideCuts_39 rfl rfl (n := 40) rfl ?_
  refine k_get Xc u_S rfl 1 (by decide) wd_31 rfl d_S_sideCuts_40 (n := 43) rfl hS.1 hS.2.2.2.1 rfl ?_
  refine k_iload Xc d_S_sideCuts_43 rfl (n := 45) rfl ?_
  refine k_iald Xc d_S_sideCuts_45 (n := 46) rfl hS.2.2.1 hS.2.2.2.2.2 (by omega) (by omega) (by decide) ?_
  refine k_iload Xc d_S_sideCuts_46 rfl (n := 48) rfl ?_
  refine k_isub Xc d_S_sideCuts_48 (n := 49) rfl ?_
  refine k_istore Xc d_S_sideCuts_49 (by decide) (n := 51) rfl ?_
  refine k_iload Xc d_S_sideCuts_51 rfl (n := 53) rfl ?_
  refine k_iload Xc d_S_sideCuts_53 rfl (n := 55) rfl ?_
  refine k_max Xc d_S_sideCuts_55 (n := 58) rfl wd_289 wd_290 wd_12 wd_291 ⟨by decide, Nat.le_of_ble_eq_true rfl⟩ ⟨Nat.zero_le _, Nat.zero_le _⟩ (by omega) (by omega) ?_
  refine k_aload_n Xc d_S_sideCuts_58 rfl rfl (n := 59) rfl ?_
  refine k_get Xc u_S rfl 3 (by decide) wd_35 rfl d_S_sideCuts_59 (n := 62) rfl hT.1 hT.2.2.2.1 rfl ?_
  refine k_icmp_le Xc d_S_sideCuts_62 (t := 107) (n := 65) rfl rfl (by omega) (by omega) (fun h_62 => ?_) (fun h_62 => ?_)
  · refine k_iconst Xc d_S_sideCuts_107 (n := 108) rfl ?_
    refine k_goto Xc d_S_sideCuts_108 (t := 112) rfl ?_
    refine k_istore Xc d_S_sideCuts_112 (by decide) (n := 114) rfl ?_
    refine k_iload Xc d_S_sideCuts_114 rfl (n := 116) rfl ?_
    refine k_if_ne Xc d_S_sideCuts_116 (t := 150) (n := 119) rfl rfl (by omega) (fun _ => ?_) (fun h_116 => absurd h_116 (by omega))
    refine k_iconst Xc d_S_sideCuts_150 (n := 151) rfl ?_
    refine k_iret Xc d_S_sideCuts_151 hr rfl (Nat.le_refl _) (Nat.le_refl _) ⟨_, rfl, ?_, rfl, rfl⟩
    exact Or.inr ⟨fun q => by first | exact e_125 q.2.1 | exact q.2.2 e_140 | (have z := q.1; omega), rfl⟩
  · refine k_iload Xc d_S_sideCuts_65 rfl (n := 67) rfl ?_
    refine k_iload Xc d_S_sideCuts_67 rfl (n := 69) rfl ?_
    refine k_min Xc d_S_sideCuts_69 (n := 72) rfl wd_286 wd_287 wd_12 wd_288 ⟨by decide, Nat.le_of_ble_eq_true rfl⟩ ⟨Nat.zero_le _, Nat.zero_le _⟩ (by omega) (by omega) ?_
    refine k_aload_n Xc d_S_sideCuts_72 rfl rfl (n := 73) rfl ?_
    refine k_get Xc u_S rfl 4 (by decide) wd_37 rfl d_S_sideCuts_73 (n := 76) rfl hT.1 hT.2.2.2.1 rfl ?_
    refine k_icmp_ge Xc d_S_sideCuts_76 (t := 107) (n := 79) rfl rfl (by omega) (by omega) (fun h_76 => ?_) (fun h_76 => ?_)
    · refine k_iconst Xc d_S_sideCuts_107 (n := 108) rfl ?_
      refine k_goto Xc d_S_sideCuts_108 (t := 112) rfl ?_
      refine k_istore Xc d_S_sideCuts_112 (by decide) (n := 114) rfl ?_
      refine k_iload Xc d_S_sideCuts_114 rfl (n := 116) rfl ?_
      refine k_if_ne Xc d_S_sideCuts_116 (t := 150) (n := 119) rfl rfl (by omega) (fun _ => ?_) (fun h_116 => absurd h_116 (by omega))
      refine k_iconst Xc d_S_sideCuts_150 (n := 151) rfl ?_
      refine k_iret Xc d_S_sideCuts_151 hr rfl (Nat.le_refl _) (Nat.le_refl _) ⟨_, rfl, ?_, rfl, rfl⟩
      exact Or.inr ⟨fun q => by first | exact e_125 q.2.1 | exact q.2.2 e_140 | (have z := q.1; omega), rfl⟩
    · refine k_iload Xc d_S_sideCuts_79 rfl (n := 81) rfl ?_
      refine k_iload Xc d_S_sideCuts_81 rfl (n := 83) rfl ?_
      refine k_max Xc d_S_sideCuts_83 (n := 86) rfl wd_289 wd_290 wd_12 wd_291 ⟨by decide, Nat.le_of_ble_eq_true rfl⟩ ⟨Nat.zero_le _, Nat.zero_le _⟩ (by omega) (by omega) ?_
      refine k_aload_n Xc d_S_sideCuts_86 rfl rfl (n := 87) rfl ?_
      refine k_get Xc u_S rfl 5 (by decide) wd_40 rfl d_S_sideCuts_87 (n := 90) rfl hT.1 hT.2.2.2.1 rfl ?_
      refine k_icmp_le Xc d_S_sideCuts_90 (t := 107) (n := 93) rfl rfl (by omega) (by omega) (fun h_90 => ?_) (fun h_90 => ?_)
      · refine k_iconst Xc d_S_sideCuts_107 (n := 108) rfl ?_
        refine k_goto Xc d_S_sideCuts_108 (t := 112) rfl ?_
        refine k_istore Xc d_S_sideCuts_112 (by decide) (n := 114) rfl ?_
        refine k_iload Xc d_S_sideCuts_114 rfl (n := 116) rfl ?_
        refine k_if_ne Xc d_S_sideCuts_116 (t := 150) (n := 119) rfl rfl (by omega) (fun _ => ?_) (fun h_116 => absurd h_116 (by omega))
        refine k_iconst Xc d_S_sideCuts_150 (n := 151) rfl ?_
        refine k_iret Xc d_S_sideCuts_151 hr rfl (Nat.le_refl _) (Nat.le_refl _) ⟨_, rfl, ?_, rfl, rfl⟩
        exact Or.inr ⟨fun q => by first | exact e_125 q.2.1 | exact q.2.2 e_140 | (have z := q.1; omega), rfl⟩
      · refine k_iload Xc d_S_sideCuts_93 rfl (n := 95) rfl ?_
        refine k_iload Xc d_S_sideCuts_95 rfl (n := 97) rfl ?_
        refine k_min Xc d_S_sideCuts_97 (n := 100) rfl wd_286 wd_287 wd_12 wd_288 ⟨by decide, Nat.le_of_ble_eq_true rfl⟩ ⟨Nat.zero_le _, Nat.zero_le _⟩ (by omega) (by omega) ?_
        refine k_aload_n Xc d_S_sideCuts_100 rfl rfl (n := 101) rfl ?_
        refine k_get Xc u_S rfl 6 (by decide) wd_42 rfl d_S_sideCuts_101 (n := 104) rfl hT.1 hT.2.2.2.1 rfl ?_
        refine k_icmp_lt Xc d_S_sideCuts_104 (t := 111) (n := 107) rfl rfl (by omega) (by omega) (fun h_104 => ?_) (fun h_104 => ?_)
        · refine k_iconst Xc d_S_sideCuts_111 (n := 112) rfl ?_
          refine k_istore Xc d_S_sideCuts_112 (by decide) (n := 114) rfl ?_
          refine k_iload Xc d_S_sideCuts_114 rfl (n := 116) rfl ?_
          refine k_if_ne Xc d_S_sideCuts_116 (t := 150) (n := 119) rfl rfl (by omega) (fun h_116 => absurd h_116 (by omega)) (fun _ => ?_)
          refine k_aload_n Xc d_S_sideCuts_119 rfl rfl (n := 120) rfl ?_
          refine k_iload_n Xc d_S_sideCuts_120 rfl rfl (n := 121) rfl ?_
          refine k_aload_n Xc d_S_sideCuts_121 rfl rfl (n := 122) rfl ?_
          refine k_iload_n Xc d_S_sideCuts_122 rfl rfl (n := 123) rfl ?_
          refine k_iload Xc d_S_sideCuts_123 rfl (n := 125) rfl ?_
          refine k_qV (na := 4) Xc (m_S_lineCuts l D G hS hB hT hC _ hi _ _ (by omega)) hS.1 hS.2.2.2.1 rfl wd_446 wd_443 wd_444 wd_445 wd_2 (by decide +kernel) ⟨by decide, by decide⟩ rfl rfl (Nat.le_of_ble_eq_true rfl) d_S_sideCuts_125 (n := 128) rfl ⟨Nat.zero_le _, Nat.zero_le _⟩ (fun r_125 e_125 => ?_)
          rcases e_125 with ⟨e_125, rfl⟩ | ⟨e_125, rfl⟩
          · refine k_if_eq Xc d_S_sideCuts_128 (t := 150) (n := 131) rfl rfl (by omega) (fun h_128 => absurd h_128 (by omega)) (fun _ => ?_)
            refine k_aload_n Xc d_S_sideCuts_131 rfl rfl (n := 132) rfl ?_
            refine k_iload Xc d_S_sideCuts_132 rfl (n := 134) rfl ?_
            refine k_iload Xc d_S_sideCuts_134 rfl (n := 136) rfl ?_
            refine k_iload Xc d_S_sideCuts_136 rfl (n := 138) rfl ?_
            refine k_iload Xc d_S_sideCuts_138 rfl (n := 140) rfl ?_
            refine k_qV (na := 4) Xc (m_S_isBeyond l D G hT hC _ _ _ _ (by omega)) hT.1 hT.2.2.2.1 rfl wd_450 wd_447 wd_448 wd_449 wd_2 (by decide +kernel) ⟨by decide, by decide⟩ rfl rfl (Nat.le_of_ble_eq_true rfl) d_S_sideCuts_140 (n := 143) rfl ⟨Nat.zero_le _, Nat.zero_le _⟩ (fun r_140 e_140 => ?_)
            rcases e_140 with ⟨e_140, rfl⟩ | ⟨e_140, rfl⟩
            · refine k_if_ne Xc d_S_sideCuts_143 (t := 150) (n := 146) rfl rfl (by omega) (fun _ => ?_) (fun h_143 => absurd h_143 (by omega))
              refine k_iconst Xc d_S_sideCuts_150 (n := 151) rfl ?_
              refine k_iret Xc d_S_sideCuts_151 hr rfl (Nat.le_refl _) (Nat.le_refl _) ⟨_, rfl, ?_, rfl, rfl⟩
              exact Or.inr ⟨fun q => by first | exact e_125 q.2.1 | exact q.2.2 e_140 | (have z := q.1; omega), rfl⟩
            · refine k_if_ne Xc d_S_sideCuts_143 (t := 150) (n := 146) rfl rfl (by omega) (fun h_143 => absurd h_143 (by omega)) (fun _ => ?_)
              refine k_iconst Xc d_S_sideCuts_146 (n := 147) rfl ?_
              refine k_goto Xc d_S_sideCuts_147 (t := 151) rfl ?_
              refine k_iret Xc d_S_sideCuts_151 hr rfl (Nat.le_refl _) (Nat.le_refl _) ⟨_, rfl, ?_, rfl, rfl⟩
              exact Or.inl ⟨⟨by omega, e_125, e_140⟩, rfl⟩
          · refine k_if_eq Xc d_S_sideCuts_128 (t := 150) (n := 131) rfl rfl (by omega) (fun _ => ?_) (fun h_128 => absurd h_128 (by omega))
            refine k_iconst Xc d_S_sideCuts_150 (n := 151) rfl ?_
            refine k_iret Xc d_S_sideCuts_151 hr rfl (Nat.le_refl _) (Nat.le_refl _) ⟨_, rfl, ?_, rfl, rfl⟩
            exact Or.inr ⟨fun q => by first | exact e_125 q.2.1 | exact q.2.2 e_140 | (have z := q.1; omega), rfl⟩
        · refine k_iconst Xc d_S_sideCuts_107 (n := 108) rfl ?_
          refine k_goto Xc d_S_sideCuts_108 (t := 112) rfl ?_
          refine k_istore Xc d_S_sideCuts_112 (by decide) (n := 114) rfl ?_
          refine k_iload Xc d_S_sideCuts_114 rfl (n := 116) rfl ?_
          refine k_if_ne Xc d_S_sideCuts_116 (t := 150) (n := 119) rfl rfl (by omega) (fun _ => ?_) (fun h_116 => absurd h_116 (by omega))
          refine k_iconst Xc d_S_sideCuts_150 (n := 151) rfl ?_
          refine k_iret Xc d_S_sideCuts_151 hr rfl (Nat.le_refl _) (Nat.le_refl _) ⟨_, rfl, ?_, rfl, rfl⟩
          exact Or.inr ⟨fun q => by first | exact e_125 q.2.1 | exact q.2.2 e_140 | (have z := q.1; omega), rfl⟩
set_option maxRecDepth 100000 in
set_option maxHeartbeats 4000000 in
/-- a moved piece is inside -/
theorem m_S_holds (l : Launch) (D : va_G) (G : Nat → ClassId) {L : List Nat} {f : Nat → va_E} {a ax ay n : Nat} {X Y : Int → Int} {lx hx ly hy : Int} (hS : zS G L f a ax ay n X Y lx hx ly hy) (hB : sB n X Y) {b bx b_y k2 : Nat} {U V : Int → Int} {lu hu lv hv : Int} (hT : zS G L f b bx b_y k2 U V lu hu lv hv) (hC : sB k2 U V) (hk : 3 ≤ k2) (q2 : -1000 ≤ lu ∧ lu ≤ 1000 ∧ -1000 ≤ hu ∧ hu ≤ 1000 ∧ -1000 ≤ lv ∧ lv ≤ 1000 ∧ -1000 ≤ hv ∧ hv ≤ 1000) (dx dy : Int) (q3 : -100 ≤ dx ∧ dx ≤ 100 ∧ -100 ≤ dy ∧ dy ≤ 100) : zM l D G y_S_holds (.code y_S_holds c_S_holds 6 (some .boolean) :: BG) (zR0 3 82) [.ref a, .ref b, .int (zI dx), .int (zI dy)] L f (zA L f (fun r => zB ((∀ i : Nat, i < n → ¬ sCut n X Y k2 U V lu hu lv hv dx dy i) ∧ ge_odd n (ge_3 (sP X Y)) (U 0 + U 1 + U 2 + 3 * dx, V 0 + V 1 + V 2 + 3 * dy) n) r)) := by
  refine zM.of (by decide) (Nat.le_of_ble_eq_true rfl) rfl (fun p e s m args below meth c A Xc hr hnm => ?_)
  have hn := hB.1
  have b0 := hC.2 0 (by omega)
  have b1 := hC.2 1 (by omega)
  have b2 := hC.2 2 (by omega)
  have b0 : -100 ≤ U 0 ∧ U 0 ≤ 100 ∧ -100 ≤ V 0 ∧ V 0 ≤ 100 := b0
  have b1 : -100 ≤ U 1 ∧ U 1 ≤ 100 ∧ -100 ≤ V 1 ∧ V 1 ≤ 100 := b1
  have b2 : -100 ≤ U 2 ∧ U 2 ≤ 100 ∧ -100 ≤ V 2 ∧ V 2 ≤ 100 := b2
  have loop : ∀ (d i : Nat), n < i + d → i ≤ n → (∀ i2 : Nat, i2 < i → ¬ sCut n X Y k2 U V lu hu lv hv dx dy i2) → zG p l e (zR0 3 82) s m args below meth c D A 6 0 0 (MQ below (zE D A (zA L f (fun r => zB ((∀ i : Nat, i < n → ¬ sCut n X Y k2 U V lu hu lv hv dx dy i) ∧ ge_odd n (ge_3 (sP X Y)) (U 0 + U 1 + U 2 + 3 * dx, V 0 + V 1 + V 2 + 3 * dy) n) r))) args s (zR0 3 82).cells (zR0 3 82).slots A) 3 [(0, .ref a), (1, .ref b), (2, .int (zI dx)), (3, .int (zI dy)), (4, .int (zI (i : Int)))] [] L f := by
    intro d
    induction d with
    | zero => intro i h1 h2; omega
    | succ d ih =>
      intro i h1 h2 hI
      refine k_iload Xc d_S_holds_3 rfl (n := 5) rfl ?_
      refine k_aload_n Xc d_S_holds_5 rfl rfl (n := 6) rfl ?_
      refine k_get Xc u_S rfl 2 (by decide) wd_32 rfl d_S_holds_6 (n := 9) rfl hS.1 hS.2.2.2.1 rfl ?_
      refine k_icmp_ge Xc d_S_holds_9 (t := 32) (n := 12) rfl rfl (by omega) (by omega) (fun h_9 => ?_) (fun h_9 => ?_)
      · refine k_aload_n Xc d_S_holds_32 rfl rfl (n := 33) rfl ?_
        refine k_get Xc u_S rfl 0 (by decide) wd_30 rfl d_S_holds_33 (n := 36) rfl hT.1 hT.2.2.2.1 rfl ?_
        refine k_iconst Xc d_S_holds_36 (n := 37) rfl ?_
        refine k_iald Xc d_S_holds_37 (n := 38) rfl hT.2.1 hT.2.2.2.2.1 (by omega) (by omega) (by decide) ?_
        refine k_aload_n Xc d_S_holds_38 rfl rfl (n := 39) rfl ?_
        refine k_get Xc u_S rfl 0 (by decide) wd_30 rfl d_S_holds_39 (n := 42) rfl hT.1 hT.2.2.2.1 rfl ?_
        refine k_iconst Xc d_S_holds_42 (n := 43) rfl ?_
        refine k_iald Xc d_S_holds_43 (n := 44) rfl hT.2.1 hT.2.2.2.2.1 (by omega) (by omega) (by decide) ?_
        refine k_iadd Xc d_S_holds_44 (n := 45) rfl ?_
        refine k_aload_n Xc d_S_holds_45 rfl rfl (n := 46) rfl ?_
        refine k_get Xc u_S rfl 0 (by decide) wd_30 rfl d_S_holds_46 (n := 49) rfl hT.1 hT.2.2.2.1 rfl ?_
        refine k_iconst Xc d_S_holds_49 (n := 50) rfl ?_
        refine k_iald Xc d_S_holds_50 (n := 51) rfl hT.2.1 hT.2.2.2.2.1 (by omega) (by omega) (by decide) ?_
        refine k_iadd Xc d_S_holds_51 (n := 52) rfl ?_
        refine k_istore Xc d_S_holds_52 (by decide) (n := 54) rfl ?_
        refine k_aload_n Xc d_S_holds_54 rfl rfl (n := 55) rfl ?_
        refine k_get Xc u_S rfl 1 (by decide) wd_31 rfl d_S_holds_55 (n := 58) rfl hT.1 hT.2.2.2.1 rfl ?_
        refine k_iconst Xc d_S_holds_58 (n := 59) rfl ?_
        refine k_iald Xc d_S_holds_59 (n := 60) rfl hT.2.2.1 hT.2.2.2.2.2 (by omega) (by omega) (by decide) ?_
        refine k_aload_n Xc d_S_holds_60 rfl rfl (n := 61) rfl ?_
        refine k_get Xc u_S rfl 1 (by decide) wd_31 rfl d_S_holds_61 (n := 64) rfl hT.1 hT.2.2.2.1 rfl ?_
        refine k_iconst Xc d_S_holds_64 (n := 65) rfl ?_
        refine k_iald Xc d_S_holds_65 (n := 66) rfl hT.2.2.1 hT.2.2.2.2.2 (by omega) (by omega) (by decide) ?_
        refine k_iadd Xc d_S_holds_66 (n := 67) rfl ?_
        refine k_aload_n Xc d_S_holds_67 rfl rfl (n := 68) rfl ?_
        refine k_get Xc u_S rfl 1 (by decide) wd_31 rfl d_S_holds_68 (n := 71) rfl hT.1 hT.2.2.2.1 rfl ?_
        refine k_iconst Xc d_S_holds_71 (n := 72) rfl ?_
        refine k_iald Xc d_S_holds_72 (n := 73) rfl hT.2.2.1 hT.2.2.2.2.2 (by omega) (by omega) (by decide) ?_
        refine k_iadd Xc d_S_holds_73 (n := 74) rfl ?_
        refine k_istore Xc d_S_holds_74 (by decide) (n := 76) rfl ?_
        refine k_aload_n Xc d_S_holds_76 rfl rfl (n := 77) rfl ?_
        refine k_iload Xc d_S_holds_77 rfl (n := 79) rfl ?_
        refine k_iconst Xc d_S_holds_79 (n := 80) rfl ?_
        refine k_iload_n Xc d_S_holds_80 rfl rfl (n := 81) rfl ?_
        refine k_imul Xc d_S_holds_81 (n := 82) rfl ?_
        refine k_iadd Xc d_S_holds_82 (n := 83) rfl ?_
        refine k_iload Xc d_S_holds_83 rfl (n := 85) rfl ?_
        refine k_iconst Xc d_S_holds_85 (n := 86) rfl ?_
        refine k_iload_n Xc d_S_holds_86 rfl rfl (n := 87) rfl ?_
        refine k_imul Xc d_S_holds_87 (n := 88) rfl ?_
        refine k_iadd Xc d_S_holds_88 (n := 89) rfl ?_
        refine k_qV (na := 2) Xc (m_S_surrounds l D G hS hB _ _ (by omega)) hS.1 hS.2.2.2.1 rfl wd_454 wd_451 wd_452 wd_453 wd_2 (by decide +kernel) ⟨by decide, by decide⟩ rfl rfl (Nat.le_of_ble_eq_true rfl) d_S_holds_89 (n := 92) rfl ⟨Nat.zero_le _, Nat.zero_le _⟩ (fun r_89 e_89 => ?_)
        rcases e_89 with ⟨e_89, rfl⟩ | ⟨e_89, rfl⟩
        · refine k_iret Xc d_S_holds_92 hr rfl (Nat.le_refl _) (Nat.le_refl _) ⟨_, rfl, ?_, rfl, rfl⟩
          exact Or.inl ⟨⟨fun i2 q => hI i2 (by omega), e_89⟩, rfl⟩
        · refine k_iret Xc d_S_holds_92 hr rfl (Nat.le_refl _) (Nat.le_refl _) ⟨_, rfl, ?_, rfl, rfl⟩
          exact Or.inr ⟨fun q => e_89 q.2, rfl⟩
      · refine k_aload_n Xc d_S_holds_12 rfl rfl (n := 13) rfl ?_
        refine k_iload Xc d_S_holds_13 rfl (n := 15) rfl ?_
        refine k_aload_n Xc d_S_holds_15 rfl rfl (n := 16) rfl ?_
        refine k_iload_n Xc d_S_holds_16 rfl rfl (n := 17) rfl ?_
        refine k_iload_n Xc d_S_holds_17 rfl rfl (n := 18) rfl ?_
        refine k_qV (na := 4) Xc (m_S_sideCuts l D G hS hB hT hC q2 _ (by omega) _ _ (by omega)) hS.1 hS.2.2.2.1 rfl wd_442 wd_439 wd_440 wd_441 wd_2 (by decide +kernel) ⟨by decide, by decide⟩ rfl rfl (Nat.le_of_ble_eq_true rfl) d_S_holds_18 (n := 21) rfl ⟨Nat.zero_le _, Nat.zero_le _⟩ (fun r_18 e_18 => ?_)
        rcases e_18 with ⟨e_18, rfl⟩ | ⟨e_18, rfl⟩
        · refine k_if_eq Xc d_S_holds_21 (t := 26) (n := 24) rfl rfl (by omega) (fun h_21 => absurd h_21 (by omega)) (fun _ => ?_)
          refine k_iconst Xc d_S_holds_24 (n := 25) rfl ?_
          refine k_iret Xc d_S_holds_25 hr rfl (Nat.le_refl _) (Nat.le_refl _) ⟨_, rfl, ?_, rfl, rfl⟩
          exact Or.inr ⟨fun q => q.1 i (by omega) e_18, rfl⟩
        · refine k_if_eq Xc d_S_holds_21 (t := 26) (n := 24) rfl rfl (by omega) (fun _ => ?_) (fun h_21 => absurd h_21 (by omega))
          refine k_iinc Xc d_S_holds_26 rfl (by decide) (n := 29) rfl ?_
          refine k_goto Xc d_S_holds_29 (t := 3) rfl ?_
          exact k_loc (ih (i + 1) (by omega) (by omega) (fun i2 q => by
            rcases Nat.lt_or_ge i2 i with q1 | q1
            · exact hI i2 q1
            · have e : i2 = i := by omega
              subst e
              assumption)) rfl
  refine k_iconst Xc d_S_holds_0 (n := 1) rfl ?_
  refine k_istore Xc d_S_holds_1 (by decide) (n := 3) rfl ?_
  exact k_loc (loop (n + 1) 0 (by omega) (by omega) (fun i2 q => absurd q (by omega))) rfl
end
section
-- SHAPE: writers
set_option maxRecDepth 100000 in
set_option maxHeartbeats 4000000 in
/-- no corners -/
theorem m_S_empty (l : Launch) (D : va_G) (G : Nat → ClassId) {L : List Nat} {f : Nat → va_E} {a ax ay n : Nat} {X Y : Int → Int} {lx hx ly hy : Int} (hS : zS G L f a ax ay n X Y lx hx ly hy) : zM l D G y_S_empty (.code y_S_empty c_S_empty 1 none :: BG) (zR0 0 0) [.ref a] L f (fun v L1 f1 => v = none ∧ L = L1 ∧ zS G L f1 a ax ay 0 X Y lx hx ly hy ∧ sFr f f1 a ax ay) := by
  refine zM.of (by decide) (Nat.le_of_ble_eq_true rfl) rfl (fun p e s m args below meth c A Xc hr hnm => ?_)
  obtain ⟨n1, n2⟩ := zS_ne hS
  refine k_aload_n Xc d_S_empty_0 rfl rfl (n := 1) rfl ?_
  refine k_iconst Xc d_S_empty_1 (n := 2) rfl ?_
  refine k_put Xc u_S t_S_ok n_S rfl 2 (by decide) wd_32 rfl rfl rfl rfl d_S_empty_2 (n := 5) rfl hS.1 hS.2.2.2.1 (Nat.le_of_ble_eq_true rfl) ?_
  refine k_vret Xc d_S_empty_5 hr (Nat.le_refl _) (Nat.le_refl _) ?_
  exact ⟨rfl, rfl, ⟨hS.1, hS.2.1, hS.2.2.1, (va_up_self _ _ _), ((va_up_ne _ _ n1).trans hS.2.2.2.2.1), ((va_up_ne _ _ n2).trans hS.2.2.2.2.2)⟩, fun q h1 h2 h3 => (va_up_ne _ _ h1)⟩
set_option maxRecDepth 100000 in
set_option maxHeartbeats 4000000 in
/-- one corner more -/
theorem m_S_add (l : Launch) (D : va_G) (G : Nat → ClassId) {L : List Nat} {f : Nat → va_E} {a ax ay n : Nat} {X Y : Int → Int} {lx hx ly hy : Int} (hS : zS G L f a ax ay n X Y lx hx ly hy) (hxy : ax ≠ ay) (hn : n < 12) (hb : 0 < n → -1000 ≤ lx ∧ lx ≤ 1000 ∧ -1000 ≤ hx ∧ hx ≤ 1000 ∧ -1000 ≤ ly ∧ ly ≤ 1000 ∧ -1000 ≤ hy ∧ hy ≤ 1000) (x y : Int) (hx1 : -1000 ≤ x) (hx2 : x ≤ 1000) (hy1 : -1000 ≤ y) (hy2 : y ≤ 1000) : zM l D G y_S_add (.code y_S_add c_S_add 3 none :: BG) (zR0 1 21) [.ref a, .int (zI x), .int (zI y)] L f (fun v L1 f1 => v = none ∧ L = L1 ∧ zS G L f1 a ax ay (n + 1) (iu X (n : Int) x) (iu Y (n : Int) y) (bxl n lx x) (bxh n hx x) (bxl n ly y) (bxh n hy y) ∧ sFr f f1 a ax ay) := by
  refine zM.of (by decide) (Nat.le_of_ble_eq_true rfl) rfl (fun p e s m args below meth c A Xc hr hnm => ?_)
  obtain ⟨n1, n2⟩ := zS_ne hS
  by_cases hz : n = 0
  · refine k_aload_n Xc d_S_add_0 rfl rfl (n := 1) rfl ?_
    refine k_get Xc u_S rfl 2 (by decide) wd_32 rfl d_S_add_1 (n := 4) rfl hS.1 hS.2.2.2.1 rfl ?_
    refine k_bipush Xc d_S_add_4 rfl (n := 6) rfl ?_
    refine k_icmp_lt Xc d_S_add_6 (t := 10) (n := 9) rfl rfl (by omega) (by omega) (fun _ => ?_) (fun h_6 => absurd h_6 (by omega))
    refine k_aload_n Xc d_S_add_10 rfl rfl (n := 11) rfl ?_
    refine k_aload_n Xc d_S_add_11 rfl rfl (n := 12) rfl ?_
    refine k_get Xc u_S rfl 2 (by decide) wd_32 rfl d_S_add_12 (n := 15) rfl hS.1 hS.2.2.2.1 rfl ?_
    refine k_if_ne Xc d_S_add_15 (t := 22) (n := 18) rfl rfl (by omega) (fun h_15 => absurd h_15 (by omega)) (fun _ => ?_)
    refine k_iload_n Xc d_S_add_18 rfl rfl (n := 19) rfl ?_
    refine k_goto Xc d_S_add_19 (t := 30) rfl ?_
    refine k_put Xc u_S t_S_ok n_S rfl 3 (by decide) wd_35 rfl rfl rfl rfl d_S_add_30 (n := 33) rfl hS.1 hS.2.2.2.1 (Nat.le_of_ble_eq_true rfl) ?_
    refine k_aload_n Xc d_S_add_33 rfl rfl (n := 34) rfl ?_
    refine k_aload_n Xc d_S_add_34 rfl rfl (n := 35) rfl ?_
    refine k_get Xc u_S rfl 2 (by decide) wd_32 rfl d_S_add_35 (n := 38) rfl hS.1 (va_up_self _ _ _) rfl ?_
    refine k_if_ne Xc d_S_add_38 (t := 45) (n := 41) rfl rfl (by omega) (fun h_38 => absurd h_38 (by omega)) (fun _ => ?_)
    refine k_iload_n Xc d_S_add_41 rfl rfl (n := 42) rfl ?_
    refine k_goto Xc d_S_add_42 (t := 53) rfl ?_
    refine k_put Xc u_S t_S_ok n_S rfl 4 (by decide) wd_37 rfl rfl rfl rfl d_S_add_53 (n := 56) rfl hS.1 (va_up_self _ _ _) (Nat.le_of_ble_eq_true rfl) ?_
    refine k_aload_n Xc d_S_add_56 rfl rfl (n := 57) rfl ?_
    refine k_aload_n Xc d_S_add_57 rfl rfl (n := 58) rfl ?_
    refine k_get Xc u_S rfl 2 (by decide) wd_32 rfl d_S_add_58 (n := 61) rfl hS.1 (va_up_self _ _ _) rfl ?_
    refine k_if_ne Xc d_S_add_61 (t := 68) (n := 64) rfl rfl (by omega) (fun h_61 => absurd h_61 (by omega)) (fun _ => ?_)
    refine k_iload_n Xc d_S_add_64 rfl rfl (n := 65) rfl ?_
    refine k_goto Xc d_S_add_65 (t := 76) rfl ?_
    refine k_put Xc u_S t_S_ok n_S rfl 5 (by decide) wd_40 rfl rfl rfl rfl d_S_add_76 (n := 79) rfl hS.1 (va_up_self _ _ _) (Nat.le_of_ble_eq_true rfl) ?_
    refine k_aload_n Xc d_S_add_79 rfl rfl (n := 80) rfl ?_
    refine k_aload_n Xc d_S_add_80 rfl rfl (n := 81) rfl ?_
    refine k_get Xc u_S rfl 2 (by decide) wd_32 rfl d_S_add_81 (n := 84) rfl hS.1 (va_up_self _ _ _) rfl ?_
    refine k_if_ne Xc d_S_add_84 (t := 91) (n := 87) rfl rfl (by omega) (fun h_84 => absurd h_84 (by omega)) (fun _ => ?_)
    refine k_iload_n Xc d_S_add_87 rfl rfl (n := 88) rfl ?_
    refine k_goto Xc d_S_add_88 (t := 99) rfl ?_
    refine k_put Xc u_S t_S_ok n_S rfl 6 (by decide) wd_42 rfl rfl rfl rfl d_S_add_99 (n := 102) rfl hS.1 (va_up_self _ _ _) (Nat.le_of_ble_eq_true rfl) ?_
    refine k_aload_n Xc d_S_add_102 rfl rfl (n := 103) rfl ?_
    refine k_get Xc u_S rfl 0 (by decide) wd_30 rfl d_S_add_103 (n := 106) rfl hS.1 (va_up_self _ _ _) rfl ?_
    refine k_aload_n Xc d_S_add_106 rfl rfl (n := 107) rfl ?_
    refine k_get Xc u_S rfl 2 (by decide) wd_32 rfl d_S_add_107 (n := 110) rfl hS.1 (va_up_self _ _ _) rfl ?_
    refine k_iload_n Xc d_S_add_110 rfl rfl (n := 111) rfl ?_
    refine k_iast Xc d_S_add_111 (n := 112) rfl hS.2.1 ((va_up_ne _ _ n1).trans ((va_up_ne _ _ n1).trans ((va_up_ne _ _ n1).trans ((va_up_ne _ _ n1).trans hS.2.2.2.2.1)))) (by omega) (by omega) (by decide) ?_
    refine k_aload_n Xc d_S_add_112 rfl rfl (n := 113) rfl ?_
    refine k_get Xc u_S rfl 1 (by decide) wd_31 rfl d_S_add_113 (n := 116) rfl hS.1 ((va_up_ne _ _ (Ne.symm n1)).trans (va_up_self _ _ _)) rfl ?_
    refine k_aload_n Xc d_S_add_116 rfl rfl (n := 117) rfl ?_
    refine k_get Xc u_S rfl 2 (by decide) wd_32 rfl d_S_add_117 (n := 120) rfl hS.1 ((va_up_ne _ _ (Ne.symm n1)).trans (va_up_self _ _ _)) rfl ?_
    refine k_iload_n Xc d_S_add_120 rfl rfl (n := 121) rfl ?_
    refine k_iast Xc d_S_add_121 (n := 122) rfl hS.2.2.1 ((va_up_ne _ _ (Ne.symm hxy)).trans ((va_up_ne _ _ n2).trans ((va_up_ne _ _ n2).trans ((va_up_ne _ _ n2).trans ((va_up_ne _ _ n2).trans hS.2.2.2.2.2))))) (by omega) (by omega) (by decide) ?_
    refine k_aload_n Xc d_S_add_122 rfl rfl (n := 123) rfl ?_
    refine k_dup Xc d_S_add_123 rfl (n := 124) rfl ?_
    refine k_get Xc u_S rfl 2 (by decide) wd_32 rfl d_S_add_124 (n := 127) rfl hS.1 ((va_up_ne _ _ (Ne.symm n2)).trans ((va_up_ne _ _ (Ne.symm n1)).trans (va_up_self _ _ _))) rfl ?_
    refine k_iconst Xc d_S_add_127 (n := 128) rfl ?_
    refine k_iadd Xc d_S_add_128 (n := 129) rfl ?_
    refine k_put Xc u_S t_S_ok n_S rfl 2 (by decide) wd_32 rfl rfl rfl rfl d_S_add_129 (n := 132) rfl hS.1 ((va_up_ne _ _ (Ne.symm n2)).trans ((va_up_ne _ _ (Ne.symm n1)).trans (va_up_self _ _ _))) (Nat.le_of_ble_eq_true rfl) ?_
    refine k_vret Xc d_S_add_132 hr (Nat.le_refl _) (Nat.le_refl _) ?_
    refine ⟨rfl, rfl, ?_, fun q h1 h2 h3 => ((va_up_ne _ _ h1).trans ((va_up_ne _ _ h3).trans ((va_up_ne _ _ h2).trans ((va_up_ne _ _ h1).trans ((va_up_ne _ _ h1).trans ((va_up_ne _ _ h1).trans (va_up_ne _ _ h1)))))))⟩
    unfold bxl bxh
    simp only [if_pos hz]
    exact ⟨hS.1, hS.2.1, hS.2.2.1, (va_up_self _ _ _), ((va_up_ne _ _ n1).trans ((va_up_ne _ _ hxy).trans (va_up_self _ _ _))), ((va_up_ne _ _ n2).trans (va_up_self _ _ _))⟩
  · have hb := hb (by omega)
    refine k_aload_n Xc d_S_add_0 rfl rfl (n := 1) rfl ?_
    refine k_get Xc u_S rfl 2 (by decide) wd_32 rfl d_S_add_1 (n := 4) rfl hS.1 hS.2.2.2.1 rfl ?_
    refine k_bipush Xc d_S_add_4 rfl (n := 6) rfl ?_
    refine k_icmp_lt Xc d_S_add_6 (t := 10) (n := 9) rfl rfl (by omega) (by omega) (fun _ => ?_) (fun h_6 => absurd h_6 (by omega))
    refine k_aload_n Xc d_S_add_10 rfl rfl (n := 11) rfl ?_
    refine k_aload_n Xc d_S_add_11 rfl rfl (n := 12) rfl ?_
    refine k_get Xc u_S rfl 2 (by decide) wd_32 rfl d_S_add_12 (n := 15) rfl hS.1 hS.2.2.2.1 rfl ?_
    refine k_if_ne Xc d_S_add_15 (t := 22) (n := 18) rfl rfl (by omega) (fun _ => ?_) (fun h_15 => absurd h_15 (by omega))
    refine k_aload_n Xc d_S_add_22 rfl rfl (n := 23) rfl ?_
    refine k_get Xc u_S rfl 3 (by decide) wd_35 rfl d_S_add_23 (n := 26) rfl hS.1 hS.2.2.2.1 rfl ?_
    refine k_iload_n Xc d_S_add_26 rfl rfl (n := 27) rfl ?_
    refine k_min Xc d_S_add_27 (n := 30) rfl wd_286 wd_287 wd_12 wd_288 ⟨by decide, Nat.le_of_ble_eq_true rfl⟩ ⟨Nat.zero_le _, Nat.zero_le _⟩ (by omega) (by omega) ?_
    refine k_put Xc u_S t_S_ok n_S rfl 3 (by decide) wd_35 rfl rfl rfl rfl d_S_add_30 (n := 33) rfl hS.1 hS.2.2.2.1 (Nat.le_of_ble_eq_true rfl) ?_
    refine k_aload_n Xc d_S_add_33 rfl rfl (n := 34) rfl ?_
    refine k_aload_n Xc d_S_add_34 rfl rfl (n := 35) rfl ?_
    refine k_get Xc u_S rfl 2 (by decide) wd_32 rfl d_S_add_35 (n := 38) rfl hS.1 (va_up_self _ _ _) rfl ?_
    refine k_if_ne Xc d_S_add_38 (t := 45) (n := 41) rfl rfl (by omega) (fun _ => ?_) (fun h_38 => absurd h_38 (by omega))
    refine k_aload_n Xc d_S_add_45 rfl rfl (n := 46) rfl ?_
    refine k_get Xc u_S rfl 4 (by decide) wd_37 rfl d_S_add_46 (n := 49) rfl hS.1 (va_up_self _ _ _) rfl ?_
    refine k_iload_n Xc d_S_add_49 rfl rfl (n := 50) rfl ?_
    refine k_max Xc d_S_add_50 (n := 53) rfl wd_289 wd_290 wd_12 wd_291 ⟨by decide, Nat.le_of_ble_eq_true rfl⟩ ⟨Nat.zero_le _, Nat.zero_le _⟩ (by omega) (by omega) ?_
    refine k_put Xc u_S t_S_ok n_S rfl 4 (by decide) wd_37 rfl rfl rfl rfl d_S_add_53 (n := 56) rfl hS.1 (va_up_self _ _ _) (Nat.le_of_ble_eq_true rfl) ?_
    refine k_aload_n Xc d_S_add_56 rfl rfl (n := 57) rfl ?_
    refine k_aload_n Xc d_S_add_57 rfl rfl (n := 58) rfl ?_
    refine k_get Xc u_S rfl 2 (by decide) wd_32 rfl d_S_add_58 (n := 61) rfl hS.1 (va_up_self _ _ _) rfl ?_
    refine k_if_ne Xc d_S_add_61 (t := 68) (n := 64) rfl rfl (by omega) (fun _ => ?_) (fun h_61 => absurd h_61 (by omega))
    refine k_aload_n Xc d_S_add_68 rfl rfl (n := 69) rfl ?_
    refine k_get Xc u_S rfl 5 (by decide) wd_40 rfl d_S_add_69 (n := 72) rfl hS.1 (va_up_self _ _ _) rfl ?_
    refine k_iload_n Xc d_S_add_72 rfl rfl (n := 73) rfl ?_
    refine k_min Xc d_S_add_73 (n := 76) rfl wd_286 wd_287 wd_12 wd_288 ⟨by decide, Nat.le_of_ble_eq_true rfl⟩ ⟨Nat.zero_le _, Nat.zero_le _⟩ (by omega) (by omega) ?_
    refine k_put Xc u_S t_S_ok n_S rfl 5 (by decide) wd_40 rfl rfl rfl rfl d_S_add_76 (n := 79) rfl hS.1 (va_up_self _ _ _) (Nat.le_of_ble_eq_true rfl) ?_
    refine k_aload_n Xc d_S_add_79 rfl rfl (n := 80) rfl ?_
    refine k_aload_n Xc d_S_add_80 rfl rfl (n := 81) rfl ?_
    refine k_get Xc u_S rfl 2 (by decide) wd_32 rfl d_S_add_81 (n := 84) rfl hS.1 (va_up_self _ _ _) rfl ?_
    refine k_if_ne Xc d_S_add_84 (t := 91) (n := 87) rfl rfl (by omega) (fun _ => ?_) (fun h_84 => absurd h_84 (by omega))
    refine k_aload_n Xc d_S_add_91 rfl rfl (n := 92) rfl ?_
    refine k_get Xc u_S rfl 6 (by decide) wd_42 rfl d_S_add_92 (n := 95) rfl hS.1 (va_up_self _ _ _) rfl ?_
    refine k_iload_n Xc d_S_add_95 rfl rfl (n := 96) rfl ?_
    refine k_max Xc d_S_add_96 (n := 99) rfl wd_289 wd_290 wd_12 wd_291 ⟨by decide, Nat.le_of_ble_eq_true rfl⟩ ⟨Nat.zero_le _, Nat.zero_le _⟩ (by omega) (by omega) ?_
    refine k_put Xc u_S t_S_ok n_S rfl 6 (by decide) wd_42 rfl rfl rfl rfl d_S_add_99 (n := 102) rfl hS.1 (va_up_self _ _ _) (Nat.le_of_ble_eq_true rfl) ?_
    refine k_aload_n Xc d_S_add_102 rfl rfl (n := 103) rfl ?_
    refine k_get Xc u_S rfl 0 (by decide) wd_30 rfl d_S_add_103 (n := 106) rfl hS.1 (va_up_self _ _ _) rfl ?_
    refine k_aload_n Xc d_S_add_106 rfl rfl (n := 107) rfl ?_
    refine k_get Xc u_S rfl 2 (by decide) wd_32 rfl d_S_add_107 (n := 110) rfl hS.1 (va_up_self _ _ _) rfl ?_
    refine k_iload_n Xc d_S_add_110 rfl rfl (n := 111) rfl ?_
    refine k_iast Xc d_S_add_111 (n := 112) rfl hS.2.1 ((va_up_ne _ _ n1).trans ((va_up_ne _ _ n1).trans ((va_up_ne _ _ n1).trans ((va_up_ne _ _ n1).trans hS.2.2.2.2.1)))) (by omega) (by omega) (by decide) ?_
    refine k_aload_n Xc d_S_add_112 rfl rfl (n := 113) rfl ?_
    refine k_get Xc u_S rfl 1 (by decide) wd_31 rfl d_S_add_113 (n := 116) rfl hS.1 ((va_up_ne _ _ (Ne.symm n1)).trans (va_up_self _ _ _)) rfl ?_
    refine k_aload_n Xc d_S_add_116 rfl rfl (n := 117) rfl ?_
    refine k_get Xc u_S rfl 2 (by decide) wd_32 rfl d_S_add_117 (n := 120) rfl hS.1 ((va_up_ne _ _ (Ne.symm n1)).trans (va_up_self _ _ _)) rfl ?_
    refine k_iload_n Xc d_S_add_120 rfl rfl (n := 121) rfl ?_
    refine k_iast Xc d_S_add_121 (n := 122) rfl hS.2.2.1 ((va_up_ne _ _ (Ne.symm hxy)).trans ((va_up_ne _ _ n2).trans ((va_up_ne _ _ n2).trans ((va_up_ne _ _ n2).trans ((va_up_ne _ _ n2).trans hS.2.2.2.2.2))))) (by omega) (by omega) (by decide) ?_
    refine k_aload_n Xc d_S_add_122 rfl rfl (n := 123) rfl ?_
    refine k_dup Xc d_S_add_123 rfl (n := 124) rfl ?_
    refine k_get Xc u_S rfl 2 (by decide) wd_32 rfl d_S_add_124 (n := 127) rfl hS.1 ((va_up_ne _ _ (Ne.symm n2)).trans ((va_up_ne _ _ (Ne.symm n1)).trans (va_up_self _ _ _))) rfl ?_
    refine k_iconst Xc d_S_add_127 (n := 128) rfl ?_
    refine k_iadd Xc d_S_add_128 (n := 129) rfl ?_
    refine k_put Xc u_S t_S_ok n_S rfl 2 (by decide) wd_32 rfl rfl rfl rfl d_S_add_129 (n := 132) rfl hS.1 ((va_up_ne _ _ (Ne.symm n2)).trans ((va_up_ne _ _ (Ne.symm n1)).trans (va_up_self _ _ _))) (Nat.le_of_ble_eq_true rfl) ?_
    refine k_vret Xc d_S_add_132 hr (Nat.le_refl _) (Nat.le_refl _) ?_
    refine ⟨rfl, rfl, ?_, fun q h1 h2 h3 => ((va_up_ne _ _ h1).trans ((va_up_ne _ _ h3).trans ((va_up_ne _ _ h2).trans ((va_up_ne _ _ h1).trans ((va_up_ne _ _ h1).trans ((va_up_ne _ _ h1).trans (va_up_ne _ _ h1)))))))⟩
    unfold bxl bxh
    simp only [if_neg hz]
    exact ⟨hS.1, hS.2.1, hS.2.2.1, (va_up_self _ _ _), ((va_up_ne _ _ n1).trans ((va_up_ne _ _ hxy).trans (va_up_self _ _ _))), ((va_up_ne _ _ n2).trans (va_up_self _ _ _))⟩
set_option maxRecDepth 100000 in
set_option maxHeartbeats 4000000 in
/-- a copy, moved -/
theorem m_S_copy (l : Launch) (D : va_G) (G : Nat → ClassId) {L : List Nat} {f : Nat → va_E} {a ax ay n : Nat} {X Y : Int → Int} {lx hx ly hy : Int} (hS : zS G L f a ax ay n X Y lx hx ly hy) {b bx b_y k2 : Nat} {U V : Int → Int} {lu hu lv hv : Int} (hT : zS G L f b bx b_y k2 U V lu hu lv hv) (hxy : ax ≠ ay) (hap : sAp a ax ay b bx b_y) (hC : sB k2 U V) (dx dy : Int) (q3 : -100 ≤ dx ∧ dx ≤ 100 ∧ -100 ≤ dy ∧ dy ≤ 100) : zM l D G y_S_copy (.code y_S_copy c_S_copy 5 none :: BG) (zR0 2 43) [.ref a, .ref b, .int (zI dx), .int (zI dy)] L f (fun v L1 f1 => v = none ∧ L = L1 ∧ zN G L f f1 a ax ay k2 (fun j : Nat => U (j : Int) + dx) (fun j : Nat => V (j : Int) + dy)) := by
  refine zM.of (by decide) (Nat.le_of_ble_eq_true rfl) rfl (fun p e s m args below meth c A Xc hr hnm => ?_)
  have hm := hC.1
  have hg : ∀ j : Nat, j < k2 → -1000 ≤ (fun j : Nat => U (j : Int) + dx) j ∧ (fun j : Nat => U (j : Int) + dx) j ≤ 1000 ∧ -1000 ≤ (fun j : Nat => V (j : Int) + dy) j ∧ (fun j : Nat => V (j : Int) + dy) j ≤ 1000 := fun j hj => by
    have := hC.2 j hj
    dsimp only
    omega
  have loop : ∀ (d i : Nat) (g : Nat → va_E) (X1 Y1 : Int → Int) (l1 r1 l2 r2 : Int), k2 < i + d → i ≤ k2 → zS G L g a ax ay i X1 Y1 l1 r1 l2 r2 → sFr f g a ax ay → sIs i X1 Y1 (fun j : Nat => U (j : Int) + dx) (fun j : Nat => V (j : Int) + dy) → sBx i X1 Y1 l1 r1 l2 r2 → zG p l e (zR0 2 43) s m args below meth c D A 5 0 0 (MQ below (zE D A (fun v L1 f1 => v = none ∧ L = L1 ∧ zN G L f f1 a ax ay k2 (fun j : Nat => U (j : Int) + dx) (fun j : Nat => V (j : Int) + dy))) args s (zR0 2 43).cells (zR0 2 43).slots A) 7 [(0, .ref a), (1, .ref b), (2, .int (zI dx)), (3, .int (zI dy)), (4, .int (zI (i : Int)))] [] L g := by
    intro d
    induction d with
    | zero => intro i g X1 Y1 l1 r1 l2 r2 h1 h2; omega
    | succ d ih =>
      intro i g X1 Y1 l1 r1 l2 r2 h1 h2 hG hF hI hX
      have hH := zS_keep hS hT hF hap
      refine k_iload Xc d_S_copy_7 rfl (n := 9) rfl ?_
      refine k_aload_n Xc d_S_copy_9 rfl rfl (n := 10) rfl ?_
      refine k_get Xc u_S rfl 2 (by decide) wd_32 rfl d_S_copy_10 (n := 13) rfl hH.1 hH.2.2.2.1 rfl ?_
      refine k_icmp_ge Xc d_S_copy_13 (t := 44) (n := 16) rfl rfl (by omega) (by omega) (fun h_13 => ?_) (fun h_13 => ?_)
      · refine k_vret Xc d_S_copy_44 hr (Nat.le_refl _) (Nat.le_refl _) ?_
        have ek : i = k2 := by omega
        subst ek
        exact ⟨rfl, rfl, X1, Y1, l1, r1, l2, r2, hG, hF, hI, hX⟩
      · refine k_aload_n Xc d_S_copy_16 rfl rfl (n := 17) rfl ?_
        refine k_aload_n Xc d_S_copy_17 rfl rfl (n := 18) rfl ?_
        refine k_get Xc u_S rfl 0 (by decide) wd_30 rfl d_S_copy_18 (n := 21) rfl hH.1 hH.2.2.2.1 rfl ?_
        refine k_iload Xc d_S_copy_21 rfl (n := 23) rfl ?_
        refine k_iald Xc d_S_copy_23 (n := 24) rfl hH.2.1 hH.2.2.2.2.1 (by omega) (by omega) (by decide) ?_
        refine k_iload_n Xc d_S_copy_24 rfl rfl (n := 25) rfl ?_
        refine k_iadd Xc d_S_copy_25 (n := 26) rfl ?_
        refine k_aload_n Xc d_S_copy_26 rfl rfl (n := 27) rfl ?_
        refine k_get Xc u_S rfl 1 (by decide) wd_31 rfl d_S_copy_27 (n := 30) rfl hH.1 hH.2.2.2.1 rfl ?_
        refine k_iload Xc d_S_copy_30 rfl (n := 32) rfl ?_
        refine k_iald Xc d_S_copy_32 (n := 33) rfl hH.2.2.1 hH.2.2.2.2.2 (by omega) (by omega) (by decide) ?_
        refine k_iload_n Xc d_S_copy_33 rfl rfl (n := 34) rfl ?_
        refine k_iadd Xc d_S_copy_34 (n := 35) rfl ?_
        have c1 := hC.2 i (by omega)
        refine k_wV (na := 2) Xc (m_S_add l D G hG hxy (by omega) (fun q => sBx_bd hX hI (fun j hj => hg j (by omega)) q) _ _ (by omega) (by omega) (by omega) (by omega)) hG.1 hG.2.2.2.1 rfl wd_285 wd_312 wd_283 wd_284 wd_2 (by decide +kernel) ⟨by decide, by decide⟩ rfl rfl (Nat.le_of_ble_eq_true rfl) d_S_copy_35 (n := 38) rfl ⟨Nat.zero_le _, Nat.zero_le _⟩ (fun v_35 L_35 f_35 e_35 => ?_)
        obtain ⟨rfl, rfl, hS2, hF2⟩ := e_35
        refine k_iinc Xc d_S_copy_38 rfl (by decide) (n := 41) rfl ?_
        refine k_goto Xc d_S_copy_41 (t := 7) rfl ?_
        exact k_loc (ih (i + 1) _ _ _ _ _ _ _ (by omega) (by omega) hS2 (sFr_tr hF hF2) (sIs_add hI rfl rfl) (sBx_add hX _ _)) rfl
  refine k_aload_n Xc d_S_copy_0 rfl rfl (n := 1) rfl ?_
  refine k_wV (na := 0) Xc (m_S_empty l D G hS) hS.1 hS.2.2.2.1 rfl wd_311 wd_308 wd_309 wd_310 wd_2 (by decide +kernel) ⟨by decide, by decide⟩ rfl rfl (Nat.le_of_ble_eq_true rfl) d_S_copy_1 (n := 4) rfl ⟨Nat.zero_le _, Nat.zero_le _⟩ (fun v_1 L_1 f_1 e_1 => ?_)
  obtain ⟨rfl, rfl, hS1, hF1⟩ := e_1
  have hT1 := zS_keep hS hT hF1 hap
  refine k_iconst Xc d_S_copy_4 (n := 5) rfl ?_
  refine k_istore Xc d_S_copy_5 (by decide) (n := 7) rfl ?_
  exact k_loc (loop (k2 + 1) 0 _ X Y lx hx ly hy (by omega) (by omega) hS1 hF1 (fun j q => absurd q (by omega)) (fun q => absurd q (by omega))) rfl
set_option maxRecDepth 100000 in
set_option maxHeartbeats 4000000 in
/-- a copy after one turn, its least coordinates 0 -/
theorem m_S_copyTurned (l : Launch) (D : va_G) (G : Nat → ClassId) {L : List Nat} {f : Nat → va_E} {a ax ay n : Nat} {X Y : Int → Int} {lx hx ly hy : Int} (hS : zS G L f a ax ay n X Y lx hx ly hy) {b bx b_y k2 : Nat} {U V : Int → Int} {lu hu lv hv : Int} (hT : zS G L f b bx b_y k2 U V lu hu lv hv) (hxy : ax ≠ ay) (hap : sAp a ax ay b bx b_y) (hC : sB k2 U V) (q2 : -500 ≤ lu ∧ lu ≤ 500 ∧ -500 ≤ hv ∧ hv ≤ 500) : zM l D G y_S_copyTurned (.code y_S_copyTurned c_S_copyTurned 3 none :: BG) (zR0 2 43) [.ref a, .ref b] L f (fun v L1 f1 => v = none ∧ L = L1 ∧ zN G L f f1 a ax ay k2 (fun j : Nat => hv - V (j : Int)) (fun j : Nat => U (j : Int) - lu)) := by
  refine zM.of (by decide) (Nat.le_of_ble_eq_true rfl) rfl (fun p e s m args below meth c A Xc hr hnm => ?_)
  have hm := hC.1
  have hg : ∀ j : Nat, j < k2 → -1000 ≤ (fun j : Nat => hv - V (j : Int)) j ∧ (fun j : Nat => hv - V (j : Int)) j ≤ 1000 ∧ -1000 ≤ (fun j : Nat => U (j : Int) - lu) j ∧ (fun j : Nat => U (j : Int) - lu) j ≤ 1000 := fun j hj => by
    have := hC.2 j hj
    dsimp only
    omega
  have loop : ∀ (d i : Nat) (g : Nat → va_E) (X1 Y1 : Int → Int) (l1 r1 l2 r2 : Int), k2 < i + d → i ≤ k2 → zS G L g a ax ay i X1 Y1 l1 r1 l2 r2 → sFr f g a ax ay → sIs i X1 Y1 (fun j : Nat => hv - V (j : Int)) (fun j : Nat => U (j : Int) - lu) → sBx i X1 Y1 l1 r1 l2 r2 → zG p l e (zR0 2 43) s m args below meth c D A 3 0 0 (MQ below (zE D A (fun v L1 f1 => v = none ∧ L = L1 ∧ zN G L f f1 a ax ay k2 (fun j : Nat => hv - V (j : Int)) (fun j : Nat => U (j : Int) - lu))) args s (zR0 2 43).cells (zR0 2 43).slots A) 6 [(0, .ref a), (1, .ref b), (2, .int (zI (i : Int)))] [] L g := by
    intro d
    induction d with
    | zero => intro i g X1 Y1 l1 r1 l2 r2 h1 h2; omega
    | succ d ih =>
      intro i g X1 Y1 l1 r1 l2 r2 h1 h2 hG hF hI hX
      have hH := zS_keep hS hT hF hap
      refine k_iload_n Xc d_S_copyTurned_6 rfl rfl (n := 7) rfl ?_
      refine k_aload_n Xc d_S_copyTurned_7 rfl rfl (n := 8) rfl ?_
      refine k_get Xc u_S rfl 2 (by decide) wd_32 rfl d_S_copyTurned_8 (n := 11) rfl hH.1 hH.2.2.2.1 rfl ?_
      refine k_icmp_ge Xc d_S_copyTurned_11 (t := 46) (n := 14) rfl rfl (by omega) (by omega) (fun h_11 => ?_) (fun h_11 => ?_)
      · refine k_vret Xc d_S_copyTurned_46 hr (Nat.le_refl _) (Nat.le_refl _) ?_
        have ek : i = k2 := by omega
        subst ek
        exact ⟨rfl, rfl, X1, Y1, l1, r1, l2, r2, hG, hF, hI, hX⟩
      · refine k_aload_n Xc d_S_copyTurned_14 rfl rfl (n := 15) rfl ?_
        refine k_aload_n Xc d_S_copyTurned_15 rfl rfl (n := 16) rfl ?_
        refine k_get Xc u_S rfl 6 (by decide) wd_42 rfl d_S_copyTurned_16 (n := 19) rfl hH.1 hH.2.2.2.1 rfl ?_
        refine k_aload_n Xc d_S_copyTurned_19 rfl rfl (n := 20) rfl ?_
        refine k_get Xc u_S rfl 1 (by decide) wd_31 rfl d_S_copyTurned_20 (n := 23) rfl hH.1 hH.2.2.2.1 rfl ?_
        refine k_iload_n Xc d_S_copyTurned_23 rfl rfl (n := 24) rfl ?_
        refine k_iald Xc d_S_copyTurned_24 (n := 25) rfl hH.2.2.1 hH.2.2.2.2.2 (by omega) (by omega) (by decide) ?_
        refine k_isub Xc d_S_copyTurned_25 (n := 26) rfl ?_
        refine k_aload_n Xc d_S_copyTurned_26 rfl rfl (n := 27) rfl ?_
        refine k_get Xc u_S rfl 0 (by decide) wd_30 rfl d_S_copyTurned_27 (n := 30) rfl hH.1 hH.2.2.2.1 rfl ?_
        refine k_iload_n Xc d_S_copyTurned_30 rfl rfl (n := 31) rfl ?_
        refine k_iald Xc d_S_copyTurned_31 (n := 32) rfl hH.2.1 hH.2.2.2.2.1 (by omega) (by omega) (by decide) ?_
        refine k_aload_n Xc d_S_copyTurned_32 rfl rfl (n := 33) rfl ?_
        refine k_get Xc u_S rfl 3 (by decide) wd_35 rfl d_S_copyTurned_33 (n := 36) rfl hH.1 hH.2.2.2.1 rfl ?_
        refine k_isub Xc d_S_copyTurned_36 (n := 37) rfl ?_
        have c1 := hC.2 i (by omega)
        refine k_wV (na := 2) Xc (m_S_add l D G hG hxy (by omega) (fun q => sBx_bd hX hI (fun j hj => hg j (by omega)) q) _ _ (by omega) (by omega) (by omega) (by omega)) hG.1 hG.2.2.2.1 rfl wd_285 wd_312 wd_283 wd_284 wd_2 (by decide +kernel) ⟨by decide, by decide⟩ rfl rfl (Nat.le_of_ble_eq_true rfl) d_S_copyTurned_37 (n := 40) rfl ⟨Nat.zero_le _, Nat.zero_le _⟩ (fun v_37 L_37 f_37 e_37 => ?_)
        obtain ⟨rfl, rfl, hS2, hF2⟩ := e_37
        refine k_iinc Xc d_S_copyTurned_40 rfl (by decide) (n := 43) rfl ?_
        refine k_goto Xc d_S_copyTurned_43 (t := 6) rfl ?_
        exact k_loc (ih (i + 1) _ _ _ _ _ _ _ (by omega) (by omega) hS2 (sFr_tr hF hF2) (sIs_add hI rfl rfl) (sBx_add hX _ _)) rfl
  refine k_aload_n Xc d_S_copyTurned_0 rfl rfl (n := 1) rfl ?_
  refine k_wV (na := 0) Xc (m_S_empty l D G hS) hS.1 hS.2.2.2.1 rfl wd_311 wd_308 wd_309 wd_310 wd_2 (by decide +kernel) ⟨by decide, by decide⟩ rfl rfl (Nat.le_of_ble_eq_true rfl) d_S_copyTurned_1 (n := 4) rfl ⟨Nat.zero_le _, Nat.zero_le _⟩ (fun v_1 L_1 f_1 e_1 => ?_)
  obtain ⟨rfl, rfl, hS1, hF1⟩ := e_1
  have hT1 := zS_keep hS hT hF1 hap
  refine k_iconst Xc d_S_copyTurned_4 (n := 5) rfl ?_
  refine k_istore_n Xc d_S_copyTurned_5 rfl (by decide) (n := 6) rfl ?_
  exact k_loc (loop (k2 + 1) 0 _ X Y lx hx ly hy (by omega) (by omega) hS1 hF1 (fun j q => absurd q (by omega)) (fun q => absurd q (by omega))) rfl
end
