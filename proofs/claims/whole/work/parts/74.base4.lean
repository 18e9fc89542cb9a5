-- THROWING: what a start gives beside the words; contracts of methods that throw
def tSt : List (Nat × String) := [(49, "a coordinate is not 0 .. 30"), (60, "12 corners wait"), (70, "some part lies there"), (80, "the corners are not a plain shape of 3 .. 12"), (86, "grade is not 1 .. 3"), (91, "the corners are not a round shape of 3 .. 6"), (96, "there are 5 zones"), (102, "grade is not 1 .. 4"), (104, "turns is not 1 .. 15"), (112, "a coordinate is above 12"), (117, "there are 6 kinds"), (129, "there is no such kind, point or turn"), (135, "there is no such kind"), (143, "it fits nowhere"), (146, "there are 12 parts"), (154, "it does not fit"), (160, "there is no such part"), (169, "what is not 0 .. 3")]
def tNW : List Cond := [.castable "java/lang/IllegalArgumentException" "java/lang/IllegalArgumentException", .declares ⟨"java/lang/RuntimeException", "<init>", "()V"⟩, .declares ⟨"java/lang/RuntimeException", "<init>", "(Ljava/lang/String;)V"⟩, .declares ⟨"java/lang/Exception", "<init>", "()V"⟩, .declares ⟨"java/lang/Exception", "<init>", "(Ljava/lang/String;)V"⟩, .declares ⟨"java/lang/Throwable", "<init>", "()V"⟩, .declares ⟨"java/lang/Throwable", "<init>", "(Ljava/lang/String;)V"⟩, .castable "java/lang/IllegalStateException" "java/lang/IllegalStateException", .castable "java/util/NoSuchElementException" "java/util/NoSuchElementException", .castable "java/lang/UnsupportedOperationException" "java/lang/UnsupportedOperationException"]
def tNC : List (String × String) := [("java/lang/IllegalArgumentException", "java/lang/IllegalStateException"), ("java/lang/IllegalArgumentException", "java/util/NoSuchElementException"), ("java/lang/IllegalArgumentException", "java/lang/UnsupportedOperationException"), ("java/lang/IllegalStateException", "java/lang/IllegalArgumentException"), ("java/lang/IllegalStateException", "java/util/NoSuchElementException"), ("java/lang/IllegalStateException", "java/lang/UnsupportedOperationException"), ("java/util/NoSuchElementException", "java/lang/IllegalArgumentException"), ("java/util/NoSuchElementException", "java/lang/IllegalStateException"), ("java/util/NoSuchElementException", "java/lang/UnsupportedOperationException"), ("java/lang/UnsupportedOperationException", "java/lang/IllegalArgumentException"), ("java/lang/UnsupportedOperationException", "java/lang/IllegalStateException"), ("java/lang/UnsupportedOperationException", "java/util/NoSuchElementException")]
theorem tNW_warm {w : Cond} (hw : w ∈ tNW) {s U : State} (hW : s.WarmedH U.vm) (h : va_Nw w s) : va_Nw w U := by
  simp only [tNW, List.mem_cons, List.not_mem_nil, or_false] at hw
  rcases hw with rfl | rfl | rfl | rfl | rfl | rfl | rfl | rfl | rfl | rfl <;> first | exact va_Nw.warmC hW h | exact va_Nw.warmD hW h
theorem tNW_on {w : Cond} (hw : w ∈ tNW) : w.onTables = true := by
  simp only [tNW, List.mem_cons, List.not_mem_nil, or_false] at hw
  rcases hw with rfl | rfl | rfl | rfl | rfl | rfl | rfl | rfl | rfl | rfl <;> rfl
def zTh (A : Nat → Prop) (U : State) (H : Heap) : Prop := (∀ w ∈ tNW, va_Nw w U) ∧ (∀ q ∈ tSt, ∃ sa : Nat, vk_R "LeatherRoom" q.1 q.2 sa U) ∧ (∀ q ∈ tNC, va_Nc q.1 q.2 U) ∧ vx_Zq Bundle.tN "UNASSIGNED_STACK" Bundle.steD A U H ∧ vx_Zq Bundle.tN "SUPPRESSED_SENTINEL" Bundle.listD A U H
theorem zTh_at {A B : Nat → Prop} {s U : State} {H : Heap} {locs : List Loc} (h : zTh A s s.heap) (hS : va_S A s.heap H locs) (hB : ∀ q, B q → A q) (hU : U.heap = H) (hW : s.WarmedH U.vm) : zTh B U U.heap := by
  obtain ⟨h1, h2, h3, h4, h5⟩ := h
  rw [hU]
  refine ⟨fun w hw => tNW_warm hw hW (h1 w hw), fun q hq => ?_, fun q hq => va_Nc.moved hW.alike (h3 q hq), ?_, ?_⟩
  · obtain ⟨sa, z⟩ := h2 q hq
    exact ⟨sa, vk_R.warm hW z⟩
  · exact vx_Zq.narrow (vx_Zq.kept (vx_Zq.moved hW.alike h4) (fun a ha hna => hS.2.1 a ha hna)) hB
  · exact vx_Zq.narrow (vx_Zq.kept (vx_Zq.moved hW.alike h5) (fun a ha hna => hS.2.1 a ha hna)) hB
theorem zTh_call {A : Nat → Prop} {U : State} {g : JFrame} {mk : MethodId} {a : Array Value} (h : zTh A U U.heap) : zTh A (U.calling g mk a) (U.calling g mk a).heap := by
  obtain ⟨h1, h2, h3, h4, h5⟩ := h
  refine ⟨fun w hw => va_Nw.same (u := U) (U := U.calling g mk a) (tNW_on hw) rfl (h1 w hw), fun q hq => ?_, fun q hq => va_Nc.moved (Vm.Alike.refl U.vm) (h3 q hq), vx_Zq.moved (Vm.Alike.refl U.vm) h4, vx_Zq.moved (Vm.Alike.refl U.vm) h5⟩
  obtain ⟨sa, z⟩ := h2 q hq
  exact ⟨sa, vk_R.same (u := U) (U := U.calling g mk a) rfl z⟩
abbrev zWt (D : va_G) (G : Nat → ClassId) (L : List Nat) (f : Nat → va_E) (sz : Nat) (U : State) : Prop := zW D G L f sz U ∧ zTh (va_A (va_pl L f) sz) U U.heap
/-- a contract of a method with handlers -/
def zMt (l : Launch) (D : va_G) (G : Nat → ClassId) (y : MethodName) (ws : List Cond) (rm : Room) (av : List Value) (L : List Nat) (f : Nat → va_E) (Q : Option Value → List Nat → (Nat → va_E) → Prop) : Prop :=
  ∀ sz : Nat, Met l y ws rm (va_Pc av (zWt D G L f sz)) (zE D (va_A (va_pl L f) sz) Q) rm.cells rm.slots (va_A (va_pl L f) sz)
def zEx (D : va_G) (A : Nat → Prop) (QX : String → List Nat → (Nat → va_E) → Prop) : String → State → State → Prop := fun E st t => (∃ (L : List Nat) (f : Nat → va_E), QX E L f ∧ va_P D zc (va_pl L f) t.heap ∧ va_D A (va_pl L f)) ∧ va_F A st t
/-- a contract of a method that may throw -/
def zMx (l : Launch) (D : va_G) (G : Nat → ClassId) (y : MethodName) (ws : List Cond) (rm : Room) (av : List Value) (L : List Nat) (f : Nat → va_E) (Q : Option Value → List Nat → (Nat → va_E) → Prop) (QX : String → List Nat → (Nat → va_E) → Prop) : Prop :=
  ∀ sz : Nat, vx_Met l y ws rm (va_Pc av (zWt D G L f sz)) (zE D (va_A (va_pl L f) sz) Q) (zEx D (va_A (va_pl L f) sz) QX) rm.cells rm.slots (va_A (va_pl L f) sz)
theorem zMt_blind {D : va_G} {G : Nat → ClassId} {L : List Nat} {f : Nat → va_E} {av : List Value} {sz : Nat} : FrameBlind (va_Pc av (zWt D G L f sz)) := fun a U g mk q => by
  obtain ⟨q0, ⟨q1, qP, qK, qD⟩, qT⟩ := q
  exact ⟨q0, ⟨q1, qP, va_K.moved (u := U) (U := U.calling g mk a) (Vm.Alike.refl U.vm) qK, qD⟩, zTh_call qT⟩
theorem zMx.of {l : Launch} {D : va_G} {G : Nat → ClassId} {y : MethodName} {cc : ByteArray} {maxL : Nat} {ret : Option FieldType} {rm : Room} {av : List Value} {L : List Nat} {f : Nat → va_E} {Qc : Option Value → List Nat → (Nat → va_E) → Prop} {QX : String → List Nat → (Nat → va_E) → Prop} (hy : plainName y.cls = true) (hlen : (lg_sl av).length ≤ maxL) (hcat : (lv_args 0 av).all (fun q => q.2.category == 1) = true)
    (body : ∀ (p : Program) (e : Env) (s : State) (m : MethodId) (args : Array Value) (below : List Frame) (meth : Method) (c : Code) (A : Nat → Prop), zX p s m args meth c D G A cc y.cls maxL → zTh A s s.heap → (∀ x ∈ c.exceptionTable.toList, False) → meth.sig.returnType = ret → zG p l e rm s m args below meth c D A maxL 0 0 (vx_MQ below (zE D A Qc) (zEx D A QX) args s rm.cells rm.slots A) 0 (lv_args 0 av) [] L f) :
    zMx l D G y (.code y cc maxL ret :: BG) rm av L f Qc QX := by
  intro sz
  refine vx_ofW (cc := cc) (maxL := maxL) (ret := ret) hy rfl ?_
  intro p e s m args below meth c s₁ B hml htab hv
  obtain ⟨rfl, ⟨hsz, hP, hK, hD0⟩, hT⟩ := hv
  have hts := atoms_spec (ws := .code y cc maxL ret :: BG) B.pre
  subst hsz
  have hD := hD0.self (sz := s.heap.size)
  have hA : ∀ q : Nat, s.heap.size ≤ q → va_A (va_pl L f) s.heap.size q := fun q h => Or.inr h
  rw [lg_entry_eq]
  exact body p e s m av.toArray below meth c _ ⟨B.exec, B.bytes, hml, findClass_of_methodNamed B.named, fun w h => hts w (List.mem_cons_of_mem _ h), hK, hA, B.notSynchronized⟩ hT htab B.returns s.heap [] _ (zL_entry hlen hcat) hP hD va_S.rf
theorem zMt.of {l : Launch} {D : va_G} {G : Nat → ClassId} {y : MethodName} {cc : ByteArray} {maxL : Nat} {ret : Option FieldType} {hh : List (Nat × Nat × Nat × Nat)} {rm : Room} {av : List Value} {L : List Nat} {f : Nat → va_E} {Qc : Option Value → List Nat → (Nat → va_E) → Prop} (hy : plainName y.cls = true) (hlen : (lg_sl av).length ≤ maxL) (hcat : (lv_args 0 av).all (fun q => q.2.category == 1) = true)
    (body : ∀ (p : Program) (e : Env) (s : State) (m : MethodId) (args : Array Value) (below : List Frame) (meth : Method) (c : Code) (A : Nat → Prop), zX p s m args meth c D G A cc y.cls maxL → zTh A s s.heap → c.exceptionTable.toList = tableOf hh → meth.sig.returnType = ret → zG p l e rm s m args below meth c D A maxL 0 0 (MQ below (zE D A Qc) args s rm.cells rm.slots A) 0 (lv_args 0 av) [] L f) :
    zMt l D G y (.codeWith y cc maxL ret hh :: BG) rm av L f Qc := by
  intro sz
  refine va_MetW (cc := cc) (maxL := maxL) (ret := ret) (hh := hh) hy rfl ?_
  intro p e s m args below meth c s₁ B hml hv
  obtain ⟨rfl, ⟨hsz, hP, hK, hD0⟩, hT⟩ := hv
  have hts := atoms_spec (ws := .codeWith y cc maxL ret hh :: BG) B.pre
  have htab := vx_table (x := y) B (hts _ List.mem_cons_self)
  subst hsz
  have hD := hD0.self (sz := s.heap.size)
  have hA : ∀ q : Nat, s.heap.size ≤ q → va_A (va_pl L f) s.heap.size q := fun q h => Or.inr h
  rw [lg_entry_eq]
  exact body p e s m av.toArray below meth c _ ⟨B.exec, B.bytes, hml, findClass_of_methodNamed B.named, fun w h => hts w (List.mem_cons_of_mem _ h), hK, hA, B.notSynchronized⟩ hT htab B.returns s.heap [] _ (zL_entry hlen hcat) hP hD va_S.rf
section ZT
variable {p : Program} {l : Launch} {e : Env} {R : Room} {s : State} {m : MethodId} {args : Array Value} {below : List Frame} {meth : Method} {c : Code} {D : va_G} {G : Nat → ClassId} {A : Nat → Prop} {nL cells slots : Nat} {Q : State → Prop} {cc : ByteArray} {own : String}
variable {pc n t : Nat} {lv lv' : List (Nat × Value)} {st : List Value} {L : List Nat} {f : Nat → va_E}
theorem k_iretX (X : zX p s m args meth c D G A cc own nL) {Qc : Option Value → List Nat → (Nat → va_E) → Prop} {XC : String → State → State → Prop} {mc ms : Nat} {ty : FieldType} {v : Int32} (hd : decode cc pc = .ok (.ireturn, 1)) (hr : meth.sig.returnType = some ty) (hnar : narrow ty (.int v) = .int v) (h1 : cells ≤ mc) (h2 : slots ≤ ms) (hq : Qc (some (.int v)) L f) : zG p l e R s m args below meth c D A nL cells slots (vx_MQ below (zE D A Qc) XC args s mc ms A) pc lv [.int v] L f :=
  fun H locs ls hl hP hD hS => vx_ret (k_iret X hd hr hnar h1 h2 hq H locs ls hl hP hD hS)
theorem k_vretX (X : zX p s m args meth c D G A cc own nL) {Qc : Option Value → List Nat → (Nat → va_E) → Prop} {XC : String → State → State → Prop} {mc ms : Nat} (hd : decode cc pc = .ok (.return_, 1)) (hr : meth.sig.returnType = none) (h1 : cells ≤ mc) (h2 : slots ≤ ms) (hq : Qc none L f) : zG p l e R s m args below meth c D A nL cells slots (vx_MQ below (zE D A Qc) XC args s mc ms A) pc lv [] L f :=
  fun H locs ls hl hP hD hS => vx_ret (k_vret X hd hr h1 h2 hq H locs ls hl hP hD hS)
/-- a new exception with a text, thrown -/
theorem k_throw (X : zX p s m args meth c D G A cc "LeatherRoom" nL) (hl : l.stackTraces = false) (hT : zTh A s s.heap) (htab : ∀ x ∈ c.exceptionTable.toList, False) {Qc : Option Value → List Nat → (Nat → va_E) → Prop} {QX : String → List Nat → (Nat → va_E) → Prop} {cls text : String} {ik is ic mc ms : Nat}
    (hk : Cond.classLink "LeatherRoom" ik cls ∈ BG) (hini : Cond.initialized cls ∈ BG) (hstr : (is, text) ∈ tSt) (hat : ∀ w ∈ vx_atS "LeatherRoom" ic cls ["java/lang/RuntimeException", "java/lang/Exception"], w ∈ BG ∨ w ∈ tNW)
    (hgood : ∀ w ∈ Cond.classLink "LeatherRoom" ik cls :: Cond.initialized cls :: vx_atS "LeatherRoom" ic cls ["java/lang/RuntimeException", "java/lang/Exception"], vx_ot w = true) (hfit : Bundle.fit cls = true)
    (d0 : decode cc pc = .ok (.new ik, 3)) (d3 : decode cc (pc + 3) = .ok (.dup, 1)) (d4 : decode cc (pc + 4) = .ok (.ldc is, 2)) (d6 : decode cc (pc + 6) = .ok (.invokespecial ic, 3)) (d9 : decode cc (pc + 9) = .ok (.athrow, 1))
    (hR : 5 < R.frames ∧ (st.map fun v => v.category).sum + 82 ≤ R.locals) (hc : cells + 1 ≤ R.cells ∧ slots + 6 ≤ R.slots) (hm : cells + 1 ≤ mc ∧ slots + 6 ≤ ms) (hq : QX cls L f) : zG p l e R s m args below meth c D A nL cells slots (vx_MQ below (zE D A Qc) (zEx D A QX) args s mc ms A) pc lv st L f := by
  intro H locs ls hls hP hD hS
  have hts := X.2.2.2.2.1
  obtain ⟨sa, hsa⟩ := hT.2.1 _ hstr
  refine vx_throwS X.1 X.2.1 hl (text := text) (sa := sa) (names := ["java/lang/RuntimeException", "java/lang/Exception"]) X.2.2.2.1 hfit (fun n hn => ?_) (hts _ hk) (hts _ hini) hsa (fun w hw => ?_) hgood hT.2.2.2.1 hT.2.2.2.2 hS (hls.1.trans X.2.2.1.symm) d0 d3 d4 d6 d9 (fun x hx => (htab x hx).elim) hR.1 hR.2 hc.1 hc.2 X.2.2.2.2.2.2.2 (fun t hv hz hk => ⟨⟨L, f, hq, ?_, hD⟩, ?_, ?_⟩) hS.2.2 hm.1 hm.2
  · simp only [List.mem_cons, List.not_mem_nil, or_false] at hn
    rcases hn with rfl | rfl <;> decide
  · rcases hat w hw with h | h
    · exact hts w h
    · exact va_Nw.use (tNW_on h) (hT.1 w h)
  · exact hP.kept (fun k q hq => hk q.1 (hP k q hq).lt)
  · exact Nat.le_trans hS.1 hz
  · intro q h1 h2
    rw [hk q (Nat.lt_of_lt_of_le h1 hS.1)]
    exact hS.2.1 q h1 h2
/-- the same where its own constructor links its super by another entry -/
theorem k_throwG (X : zX p s m args meth c D G A cc "LeatherRoom" nL) (hl : l.stackTraces = false) (hT : zTh A s s.heap) (htab : ∀ x ∈ c.exceptionTable.toList, False) {Qc : Option Value → List Nat → (Nat → va_E) → Prop} {QX : String → List Nat → (Nat → va_E) → Prop} {cls text : String} {ik is ic ix mc ms : Nat} {bx : ByteArray} (b0 : decode bx 0 = .ok (.aload_n 0, 1)) (b1 : decode bx 1 = .ok (.aload_n 1, 1)) (b2 : decode bx 2 = .ok (.invokespecial ix, 3)) (b5 : decode bx 5 = .ok (.return_, 1))
    (hk : Cond.classLink "LeatherRoom" ik cls ∈ BG) (hini : Cond.initialized cls ∈ BG) (hstr : (is, text) ∈ tSt) (hat : ∀ w ∈ vx_atG "LeatherRoom" ic cls "java/lang/RuntimeException" ["java/lang/Exception"] ix bx, w ∈ BG ∨ w ∈ tNW)
    (hgood : ∀ w ∈ Cond.classLink "LeatherRoom" ik cls :: Cond.initialized cls :: vx_atG "LeatherRoom" ic cls "java/lang/RuntimeException" ["java/lang/Exception"] ix bx, vx_ot w = true) (hfit : Bundle.fit cls = true)
    (d0 : decode cc pc = .ok (.new ik, 3)) (d3 : decode cc (pc + 3) = .ok (.dup, 1)) (d4 : decode cc (pc + 4) = .ok (.ldc is, 2)) (d6 : decode cc (pc + 6) = .ok (.invokespecial ic, 3)) (d9 : decode cc (pc + 9) = .ok (.athrow, 1))
    (hR : 5 < R.frames ∧ (st.map fun v => v.category).sum + 82 ≤ R.locals) (hc : cells + 1 ≤ R.cells ∧ slots + 6 ≤ R.slots) (hm : cells + 1 ≤ mc ∧ slots + 6 ≤ ms) (hq : QX cls L f) : zG p l e R s m args below meth c D A nL cells slots (vx_MQ below (zE D A Qc) (zEx D A QX) args s mc ms A) pc lv st L f := by
  intro H locs ls hls hP hD hS
  have hts := X.2.2.2.2.1
  obtain ⟨sa, hsa⟩ := hT.2.1 _ hstr
  refine vx_throwG X.1 X.2.1 hl (text := text) (sa := sa) (Y9 := "java/lang/RuntimeException") (r9 := ["java/lang/Exception"]) b0 b1 b2 b5 X.2.2.2.1 hfit (by decide) (fun n hn => ?_) (hts _ hk) (hts _ hini) hsa (fun w hw => ?_) hgood hT.2.2.2.1 hT.2.2.2.2 hS (hls.1.trans X.2.2.1.symm) d0 d3 d4 d6 d9 (fun x hx => (htab x hx).elim) hR.1 hR.2 hc.1 hc.2 X.2.2.2.2.2.2.2 (fun t hv hz hk => ⟨⟨L, f, hq, ?_, hD⟩, ?_, ?_⟩) hS.2.2 hm.1 hm.2
  · simp only [List.mem_cons, List.not_mem_nil, or_false] at hn
    subst hn; decide
  · rcases hat w hw with h | h
    · exact hts w h
    · exact va_Nw.use (tNW_on h) (hT.1 w h)
  · exact hP.kept (fun k q hq => hk q.1 (hP k q hq).lt)
  · exact Nat.le_trans hS.1 hz
  · intro q h1 h2
    rw [hk q (Nat.lt_of_lt_of_le h1 hS.1)]
    exact hS.2.1 q h1 h2
/-- a call of a method that may throw, with a handler here -/
theorem k_callX (X : zX p s m args meth c D G A cc own nL) (hT : zTh A s s.heap) {Qc : Option Value → List Nat → (Nat → va_E) → Prop} {QX : String → List Nat → (Nat → va_E) → Prop} {C : String} {T : u_T} {N ci index maxL na b : Nat} {y : MethodName} {bytes : ByteArray} {ret : Option FieldType} {rm : Room} {As st0 : List Value} {fs : List Value}
    (hM : zMx l D G y (.code y bytes maxL ret :: BG) rm (.ref b :: As) L f Qc QX) (hb : b ∈ L) (hfb : f b = .inr (ci, fs)) (hc : zc[ci]? = some (C, T, N)) (w1 : Cond.code y bytes maxL ret ∈ BG) (w2 : Cond.methodLink own index y ∈ BG) (w3 : Cond.instanceMethod y ∈ BG) (w4 : Cond.selects C y y ∈ BG) (w5 : Cond.initialized C ∈ BG)
    (hy : y.cls = C ∧ y.cls ≠ "java/lang/invoke/MethodHandle" ∧ y.cls ≠ "java/lang/invoke/VarHandle" ∧ (parseMethodDescriptor y.desc).map (fun d => d.parameters.length) = some na) (hR : rm.frames + 1 ≤ R.frames ∧ 8 + (maxL + 11) + rm.locals ≤ R.locals) (hna : As.length = na) (hst : st0 = As.reverse ++ .ref b :: st) (hcat : (st.map fun v => v.category).sum ≤ 8) (hd : decode cc pc = .ok (.invokevirtual index, 3)) (hn : pc + 3 = n) (hf : cells + rm.cells ≤ R.cells ∧ slots + rm.slots ≤ R.slots)
    (kx : ∀ (E : String) (L1 : List Nat) (f1 : Nat → va_E), QX E L1 f1 → ∃ (pre : List ExceptionTableEntry) (x : ExceptionTableEntry) (suf : List ExceptionTableEntry) (name : String), c.exceptionTable.toList = pre ++ x :: suf ∧ (∀ z ∈ pre, covers z pc = false ∨ (z.catchType ≠ 0 ∧ ∃ nm : String, Cond.classLink own z.catchType nm ∈ BG ∧ (E, nm) ∈ tNC)) ∧ covers x pc = true ∧ x.catchType ≠ 0 ∧ Cond.classLink own x.catchType name ∈ BG ∧ Cond.castable E name ∈ tNW ∧ ∀ q : Nat, zG p l e R s m args below meth c D A nL (cells + rm.cells) (slots + rm.slots) Q x.handlerPc lv [.ref q] L1 f1)
    (kk : ∀ (v : Option Value) (L1 : List Nat) (f1 : Nat → va_E), Qc v L1 f1 → zG p l e R s m args below meth c D A nL (cells + rm.cells) (slots + rm.slots) Q n lv (v.toList ++ st) L1 f1) : zG p l e R s m args below meth c D A nL cells slots Q pc lv st0 L f := by
  subst hn
  intro H locs ls hl hP hD hS T0 hT0 X0
  have hF := zA_sub hD hS X.2.2.2.2.2.2.1
  obtain ⟨q, hq⟩ := pl_at hb hfb
  have hts := X.2.2.2.2.1
  have hg : GoodIn BG (wsV own index C y (.code y bytes maxL ret :: BG)) := fun w hw => by
    rcases List.mem_append.mp hw with hw | hw
    · simp only [List.mem_cons, List.not_mem_nil, or_false] at hw
      rcases hw with rfl | rfl | rfl | rfl
      · exact ⟨w2, bg_good w2⟩
      · exact ⟨w3, bg_good w3⟩
      · exact ⟨w4, bg_good w4⟩
      · exact ⟨w5, bg_good w5⟩
    · rcases List.mem_cons.mp hw with rfl | hw
      · exact ⟨w1, bg_good w1⟩
      · exact ⟨hw, bg_good hw⟩
  have run := vx_runV (As := As) (rest := st) (g := F0 m pc ls st0) (locs := locs) (cells := cells) (slots := slots) (e := e) (below := below) (meth := meth) (p := p) ⟨X.1, X.2.1, X.2.2.1, X.2.2.2.1, hts⟩ (hM H.size) (cwV na hts hg rfl rfl rfl hy hR)
    ⟨zMt_blind, va_recv X.2.2.2.2.2.1 hP hc hq, fun U hU hW => ⟨rfl, ⟨by rw [hU], by rw [hU]; exact hP, va_K.moved hW.alike X.2.2.2.2.2.1, hD.weaken (fun _ _ _ _ => trivial)⟩, zTh_at hT hS hF hU hW⟩⟩ rfl hna hl.1 hst (lv_room hcat) hd hf
  rcases run T0 hT0 X0 with ⟨v, st₀, t, T', Lc, h0, X2, hL, e1, e2, ⟨⟨v', L1, f1, hv, hq1, hP1, hD1⟩, hz, hk⟩, hst2⟩ | ⟨q9, st₀, t, T', Lc, E, ce, h0, X2, hL, e1, e2, ⟨⟨L1, f1, hq1, hP1, hD1⟩, hz, hk⟩, hce, hcv, hcl, hst2⟩
  · cases hv
    have hS1 : va_S A s.heap t.heap (locs ++ Lc) := by
      refine ⟨Nat.le_trans hS.1 (by rw [← h0]; exact hz), fun q hq1 hq2 => ?_, fun q hq1 => ?_⟩
      · rw [hk q (by rw [h0]; exact Nat.lt_of_lt_of_le hq1 hS.1) (fun h => hq2 (hF q h)), h0]
        exact hS.2.1 q hq1 hq2
      · rcases List.mem_append.mp hq1 with h | h
        · exact hS.2.2 q h
        · exact hF _ (hL q h)
    obtain ⟨t2, a1, b1⟩ := kk v L1 f1 hq1 t.heap (locs ++ Lc) ls hl hP1 (hD1.weaken (fun _ q _ h => hF q.1 h)) hS1 T' e1 X2
    exact ⟨t2, hst2 t2 a1, b1⟩
  · have hS1 : va_S A s.heap t.heap (locs ++ Lc) := by
      refine ⟨Nat.le_trans hS.1 (by rw [← h0]; exact hz), fun q hq1 hq2 => ?_, fun q hq1 => ?_⟩
      · rw [hk q (by rw [h0]; exact Nat.lt_of_lt_of_le hq1 hS.1) (fun h => hq2 (hF q h)), h0]
        exact hS.2.1 q hq1 hq2
      · rcases List.mem_append.mp hq1 with h | h
        · exact hS.2.2 q h
        · exact hF _ (hL q h)
    obtain ⟨pre, x, suf, name, k1, k2, k3, k4, k5, k6, k7⟩ := kx E L1 f1 hq1
    have cat := vx_catch (l := l) (e := e) (p := p) (R := R) (below := below) (meth := meth) (locs := locs ++ Lc) (cells := cells + rm.cells) (slots := slots + rm.slots) (Q := Q) (pc := pc) (ls := ls) (rest := st) X.2.2.2.1 pre x suf k1
      (fun z hz => by
        rcases k2 z hz with h | ⟨h1, nm, h2, h3⟩
        · exact Or.inl h
        · exact Or.inr ⟨h1, nm, hts _ h2, hT.2.2.1 _ h3⟩) k3 k4 (hts _ k5) (va_Nw.use (tNW_on k6) (hT.1 _ k6)) hce hcv hcl
      (k7 q9 t.heap (locs ++ Lc) ls hl hP1 (hD1.weaken (fun _ q _ h => hF q.1 h)) hS1)
    obtain ⟨t2, a1, b1⟩ := cat T' e1 X2
    exact ⟨t2, hst2.trans a1, b1⟩
/-- a static call of a method with handlers -/
theorem k_callSW (X : zX p s m args meth c D G A cc own nL) (hT : zTh A s s.heap) {Qc : Option Value → List Nat → (Nat → va_E) → Prop} {index maxL na : Nat} {y : MethodName} {bytes : ByteArray} {ret : Option FieldType} {hh : List (Nat × Nat × Nat × Nat)} {rm : Room} {As st0 : List Value}
    (hM : zMt l D G y (.codeWith y bytes maxL ret hh :: BG) rm As L f Qc) (w1 : Cond.codeWith y bytes maxL ret hh ∈ BG) (w2 : Cond.methodLink own index y ∈ BG) (w3 : Cond.static y ∈ BG) (w5 : Cond.initialized y.cls ∈ BG)
    (hy : y.cls ≠ "java/lang/invoke/MethodHandle" ∧ y.cls ≠ "java/lang/invoke/VarHandle" ∧ (parseMethodDescriptor y.desc).map (fun d => d.parameters.length) = some na) (hR : rm.frames + 1 ≤ R.frames ∧ 8 + (maxL + 11) + rm.locals ≤ R.locals) (hna : As.length = na) (hst : st0 = As.reverse ++ st) (hcat : (st.map fun v => v.category).sum ≤ 8) (hd : decode cc pc = .ok (.invokestatic index, 3)) (hn : pc + 3 = n) (hf : cells + rm.cells ≤ R.cells ∧ slots + rm.slots ≤ R.slots)
    (kk : ∀ (v : Option Value) (L1 : List Nat) (f1 : Nat → va_E), Qc v L1 f1 → zG p l e R s m args below meth c D A nL (cells + rm.cells) (slots + rm.slots) Q n lv (v.toList ++ st) L1 f1) : zG p l e R s m args below meth c D A nL cells slots Q pc lv st0 L f := by
  subst hn
  intro H locs ls hl hP hD hS T0 hT0 X0
  have hF := zA_sub hD hS X.2.2.2.2.2.2.1
  have hts := X.2.2.2.2.1
  have hg : GoodIn BG (va_wsS own index y (.codeWith y bytes maxL ret hh :: BG)) := fun w hw => by
    rcases List.mem_append.mp hw with hw | hw
    · simp only [List.mem_cons, List.not_mem_nil, or_false] at hw
      rcases hw with rfl | rfl | rfl
      · exact ⟨w2, bg_good w2⟩
      · exact ⟨w3, bg_good w3⟩
      · exact ⟨w5, bg_good w5⟩
    · rcases List.mem_cons.mp hw with rfl | hw
      · exact ⟨w1, bg_good w1⟩
      · exact ⟨hw, bg_good hw⟩
  have run := vx_runSW (As := As) (rest := st) (g := F0 m pc ls st0) (locs := locs) (cells := cells) (slots := slots) (e := e) (below := below) (meth := meth) (p := p) ⟨X.1, X.2.1, X.2.2.1, X.2.2.2.1, hts⟩ (hM H.size) (vx_cwSW na hts hg rfl rfl rfl hy hR)
    ⟨zMt_blind, fun U hU hW => ⟨rfl, ⟨by rw [hU], by rw [hU]; exact hP, va_K.moved hW.alike X.2.2.2.2.2.1, hD.weaken (fun _ _ _ _ => trivial)⟩, zTh_at hT hS hF hU hW⟩⟩ rfl hna hl.1 hst (lv_room hcat) hd hf
  obtain ⟨v, st₀, t, T', Lc, h0, X2, hL, e1, e2, ⟨⟨v', L1, f1, hv, hq1, hP1, hD1⟩, hz, hk⟩, hst2⟩ := run T0 hT0 X0
  cases hv
  have hS1 : va_S A s.heap t.heap (locs ++ Lc) := by
    refine ⟨Nat.le_trans hS.1 (by rw [← h0]; exact hz), fun q hq1 hq2 => ?_, fun q hq1 => ?_⟩
    · rw [hk q (by rw [h0]; exact Nat.lt_of_lt_of_le hq1 hS.1) (fun h => hq2 (hF q h)), h0]
      exact hS.2.1 q hq1 hq2
    · rcases List.mem_append.mp hq1 with h | h
      · exact hS.2.2 q h
      · exact hF _ (hL q h)
  obtain ⟨t2, a1, b1⟩ := kk v L1 f1 hq1 t.heap (locs ++ Lc) ls hl hP1 (hD1.weaken (fun _ q _ h => hF q.1 h)) hS1 T' e1 X2
  exact ⟨t2, hst2 t2 a1, b1⟩
-- longs
def zlo (G : Nat → ClassId) (g : Nat → Int64) : va_E := .inl (G 1, 1, .inr (.inl g))
theorem k_i2l (X : zX p s m args meth c D G A cc own nL) {x : Int32} (hd : decode cc pc = .ok (.i2l, 1)) (hn : pc + 1 = n) (k : zG p l e R s m args below meth c D A nL cells slots Q n lv (.long x.toInt64 :: st) L f) : zG p l e R s m args below meth c D A nL cells slots Q pc lv (.int x :: st) L f := by
  subst hn; exact fun H locs ls hl hP hD hS => lv_i2l X.1 X.2.1 hd rfl (k H locs ls hl hP hD hS)
theorem k_last (X : zX p s m args meth c D G A cc own nL) {a : Nat} {g : Nat → Int64} {x : Int64} (hd : decode cc pc = .ok (.lastore, 1)) (hn : pc + 1 = n) (ha : a ∈ L) (hf : f a = zlo G g) (kk : zG p l e R s m args below meth c D A nL cells slots Q n lv st L (va_up f a (zlo G (vp_updL g 0 x)))) : zG p l e R s m args below meth c D A nL cells slots Q pc lv (.long x :: .int (zI 0) :: .ref a :: st) L f := by
  subst hn
  intro H locs ls hl hP hD hS
  obtain ⟨q, hq⟩ := pl_at ha hf
  refine va_last X.1 X.2.1 X.2.2.2.2.2.1 hP hD hS q 1 hq rfl (zI_in (n := 1) (by omega) (by omega) (by decide)) hd (fun H1 locs1 hP1 hD1 hS1 => ?_)
  exact kk H1 locs1 ls hl (by rw [← pl_set hD ha hf hq]; exact hP1) (by rw [← pl_set hD ha hf hq]; exact hD1) hS1
theorem k_lald (X : zX p s m args meth c D G A cc own nL) {a : Nat} {g : Nat → Int64} (hd : decode cc pc = .ok (.laload, 1)) (hn : pc + 1 = n) (ha : a ∈ L) (hf : f a = zlo G g) (kk : zG p l e R s m args below meth c D A nL cells slots Q n lv (.long (g 0) :: st) L f) : zG p l e R s m args below meth c D A nL cells slots Q pc lv (.int (zI 0) :: .ref a :: st) L f := by
  subst hn
  intro H locs ls hl hP hD hS
  obtain ⟨q, hq⟩ := pl_at ha hf
  exact va_lald X.1 X.2.1 X.2.2.2.2.2.1 hP q 1 hq rfl (zI_in (n := 1) (by omega) (by omega) (by decide)) hd (kk H locs ls hl hP hD hS)
end ZT
theorem th_of {ws : List Cond} (h : ∀ w ∈ ws, w ∈ lw_tbl ∧ (goodWord w = true ∨ w ∈ tNW)) : ∀ w ∈ ws, w ∈ BG ∨ w ∈ tNW := fun w hw => by
  obtain ⟨a, b⟩ := h w hw
  rcases b with b | b
  · exact Or.inl (List.mem_filter.mpr ⟨a, b⟩)
  · exact Or.inr b
theorem tg_of {c : Cond} {w2 : Cond} {ws : List Cond} (h0 : vx_ot c = true) (h : ∀ w ∈ w2 :: ws, vx_ot w = true) : ∀ w ∈ c :: w2 :: ws, vx_ot w = true := fun w hw => by
  rcases List.mem_cons.mp hw with rfl | hw
  · exact h0
  · exact h w hw

abbrev nse_code : ByteArray := prog_17_method_4_code
theorem nse_0 : decode nse_code 0 = .ok (.aload_n 0, 1) := by decide +kernel
theorem nse_1 : decode nse_code 1 = .ok (.aload_n 1, 1) := by decide +kernel
theorem nse_2 : decode nse_code 2 = .ok (.invokespecial 13, 3) := by decide +kernel
theorem nse_5 : decode nse_code 5 = .ok (.return_, 1) := by decide +kernel
theorem th_0 : ∀ w ∈ vx_atS "LeatherRoom" 51 "java/lang/IllegalArgumentException" ["java/lang/RuntimeException", "java/lang/Exception"], w ∈ BG ∨ w ∈ tNW := th_of (by decide +kernel)
theorem tg_0 {ik : Nat} : ∀ w ∈ Cond.classLink "LeatherRoom" ik "java/lang/IllegalArgumentException" :: Cond.initialized "java/lang/IllegalArgumentException" :: vx_atS "LeatherRoom" 51 "java/lang/IllegalArgumentException" ["java/lang/RuntimeException", "java/lang/Exception"], vx_ot w = true := tg_of rfl (by decide +kernel)
theorem th_1 : ∀ w ∈ vx_atS "LeatherRoom" 62 "java/lang/IllegalStateException" ["java/lang/RuntimeException", "java/lang/Exception"], w ∈ BG ∨ w ∈ tNW := th_of (by decide +kernel)
theorem tg_1 {ik : Nat} : ∀ w ∈ Cond.classLink "LeatherRoom" ik "java/lang/IllegalStateException" :: Cond.initialized "java/lang/IllegalStateException" :: vx_atS "LeatherRoom" 62 "java/lang/IllegalStateException" ["java/lang/RuntimeException", "java/lang/Exception"], vx_ot w = true := tg_of rfl (by decide +kernel)
theorem th_2 : ∀ w ∈ vx_atG "LeatherRoom" 145 "java/util/NoSuchElementException" "java/lang/RuntimeException" ["java/lang/Exception"] 13 nse_code, w ∈ BG ∨ w ∈ tNW := th_of (by decide +kernel)
theorem tg_2 {ik : Nat} : ∀ w ∈ Cond.classLink "LeatherRoom" ik "java/util/NoSuchElementException" :: Cond.initialized "java/util/NoSuchElementException" :: vx_atG "LeatherRoom" 145 "java/util/NoSuchElementException" "java/lang/RuntimeException" ["java/lang/Exception"] 13 nse_code, vx_ot w = true := tg_of rfl (by decide +kernel)
theorem th_3 : ∀ w ∈ vx_atS "LeatherRoom" 156 "java/lang/UnsupportedOperationException" ["java/lang/RuntimeException", "java/lang/Exception"], w ∈ BG ∨ w ∈ tNW := th_of (by decide +kernel)
theorem tg_3 {ik : Nat} : ∀ w ∈ Cond.classLink "LeatherRoom" ik "java/lang/UnsupportedOperationException" :: Cond.initialized "java/lang/UnsupportedOperationException" :: vx_atS "LeatherRoom" 156 "java/lang/UnsupportedOperationException" ["java/lang/RuntimeException", "java/lang/Exception"], vx_ot w = true := tg_of rfl (by decide +kernel)
