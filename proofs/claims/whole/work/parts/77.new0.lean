-- NEW: rows that make cells; contracts of constructors
def nNW : List Cond := [.methodLinkNest "LeatherRoom" 9 ⟨"LeatherRoom$Shape", "<init>", "()V"⟩ "LeatherRoom", .methodLinkNest "LeatherRoom" 40 ⟨"LeatherRoom$Zone", "<init>", "()V"⟩ "LeatherRoom", .methodLinkNest "LeatherRoom$Zone" 9 ⟨"LeatherRoom$Shape", "<init>", "()V"⟩ "LeatherRoom", .methodLinkNest "LeatherRoom$Kind" 17 ⟨"LeatherRoom$Shape", "<init>", "()V"⟩ "LeatherRoom", .methodLinkNest "LeatherRoom" 42 ⟨"LeatherRoom$Part", "<init>", "()V"⟩ "LeatherRoom", .methodLinkNest "LeatherRoom$Part" 9 ⟨"LeatherRoom$Shape", "<init>", "()V"⟩ "LeatherRoom"]
def nAO : List String := ["LeatherRoom$Shape", "LeatherRoom$Zone", "LeatherRoom$Kind", "LeatherRoom$Part"]
def zNe (U : State) : Prop := (∀ w ∈ nNW, va_Nw w U) ∧ ∀ C ∈ nAO, va_AO C U
theorem nNW_on {w : Cond} (hw : w ∈ nNW) : w.onTables = true := by
  simp only [nNW, List.mem_cons, List.not_mem_nil, or_false] at hw
  rcases hw with rfl | rfl | rfl | rfl | rfl | rfl <;> rfl
theorem zNe.warm {s U : State} (hW : s.WarmedH U.vm) (h : zNe s) : zNe U := by
  refine ⟨fun w hw => ?_, fun C hC => va_AO.moved hW.alike (h.2 C hC)⟩
  have h1 := h.1 w hw
  simp only [nNW, List.mem_cons, List.not_mem_nil, or_false] at hw
  rcases hw with rfl | rfl | rfl | rfl | rfl | rfl <;> exact va_Nw.warmM hW h1
theorem zNe.call {U : State} {g : JFrame} {mk : MethodId} {a : Array Value} (h : zNe U) : zNe (U.calling g mk a) :=
  ⟨fun w hw => va_Nw.same (u := U) (U := U.calling g mk a) (nNW_on hw) rfl (h.1 w hw), fun C hC => va_AO.moved (u := U) (U := U.calling g mk a) (Vm.Alike.refl U.vm) (h.2 C hC)⟩
abbrev zWn (D : va_G) (G : Nat → ClassId) (L : List Nat) (f : Nat → va_E) (sz : Nat) (U : State) : Prop := zW D G L f sz U ∧ zNe U
/-- a contract of a constructor -/
def zMn (l : Launch) (D : va_G) (G : Nat → ClassId) (y : MethodName) (ws : List Cond) (rm : Room) (av : List Value) (L : List Nat) (f : Nat → va_E) (Q : Option Value → List Nat → (Nat → va_E) → Prop) : Prop :=
  ∀ sz : Nat, Met l y ws rm (va_Pc av (zWn D G L f sz)) (zE D (va_A (va_pl L f) sz) Q) rm.cells rm.slots (va_A (va_pl L f) sz)
theorem zMn_blind {D : va_G} {G : Nat → ClassId} {L : List Nat} {f : Nat → va_E} {av : List Value} {sz : Nat} : FrameBlind (va_Pc av (zWn D G L f sz)) := fun a U g mk q => by
  obtain ⟨q0, ⟨q1, qP, qK, qD⟩, qN⟩ := q
  exact ⟨q0, ⟨q1, qP, va_K.moved (u := U) (U := U.calling g mk a) (Vm.Alike.refl U.vm) qK, qD⟩, zNe.call qN⟩
theorem zMn.of {l : Launch} {D : va_G} {G : Nat → ClassId} {y : MethodName} {cc : ByteArray} {maxL : Nat} {ret : Option FieldType} {rm : Room} {av : List Value} {L : List Nat} {f : Nat → va_E} {Qc : Option Value → List Nat → (Nat → va_E) → Prop} (hy : plainName y.cls = true) (hlen : (lg_sl av).length ≤ maxL) (hcat : (lv_args 0 av).all (fun q => q.2.category == 1) = true)
    (body : ∀ (p : Program) (e : Env) (s : State) (m : MethodId) (args : Array Value) (below : List Frame) (meth : Method) (c : Code) (A : Nat → Prop), zX p s m args meth c D G A cc y.cls maxL → zNe s → meth.sig.returnType = ret → meth.name = y.name → zG p l e rm s m args below meth c D A maxL 0 0 (MQ below (zE D A Qc) args s rm.cells rm.slots A) 0 (lv_args 0 av) [] L f) :
    zMn l D G y (.code y cc maxL ret :: BG) rm av L f Qc := by
  intro sz
  refine Met.ofW (cc := cc) (maxL := maxL) (ret := ret) hy rfl ?_
  intro p e s m args below meth c s₁ B hml hv
  obtain ⟨rfl, ⟨hsz, hP, hK, hD0⟩, hN⟩ := hv
  have hts := atoms_spec (ws := .code y cc maxL ret :: BG) B.pre
  subst hsz
  have hD := hD0.self (sz := s.heap.size)
  have hA : ∀ q : Nat, s.heap.size ≤ q → va_A (va_pl L f) s.heap.size q := fun q h => Or.inr h
  rw [lg_entry_eq]
  exact body p e s m av.toArray below meth c _ ⟨B.exec, B.bytes, hml, findClass_of_methodNamed B.named, fun w h => hts w (List.mem_cons_of_mem _ h), hK, hA, B.notSynchronized⟩ hN B.returns (name_of_methodNamed B.named B.method).1 s.heap [] _ (zL_entry hlen hcat) hP hD va_S.rf
/-- a row of references that isn't full -/
def zwo (G : Nat → ClassId) (k N : Nat) (h : Nat → Option Nat) : va_E := .inl (G k, N, .inr (.inr (.inr (.inr h))))
section ZN
variable {p : Program} {l : Launch} {e : Env} {R : Room} {s : State} {m : MethodId} {args : Array Value} {below : List Frame} {meth : Method} {c : Code} {D : va_G} {G : Nat → ClassId} {A : Nat → Prop} {nL cells slots : Nat} {Q : State → Prop} {cc : ByteArray} {own : String}
variable {pc n t : Nat} {lv lv' : List (Nat × Value)} {st : List Value} {L : List Nat} {f : Nat → va_E}
theorem nd_push {A : Nat → Prop} {L : List Nat} {f : Nat → va_E} {q : Nat} {E : va_E} (hD : va_D A (va_pl L f ++ [(q, E)])) : q ∉ L := va_pl_fresh2 (X := []) (f := f) (e := E) hD
theorem k_objInit (X : zX p s m args meth c D G A cc own nL) {idx a : Nat} (hlink : Cond.methodLink own idx Lib.objectInit ∈ BG) (hd : decode cc pc = .ok (.invokespecial idx, 3)) (hn : pc + 3 = n) (hR : 1 ≤ R.frames ∧ (st.map fun v => v.category).sum + 12 ≤ R.locals) (k : zG p l e R s m args below meth c D A nL cells slots Q n lv st L f) : zG p l e R s m args below meth c D A nL cells slots Q pc lv (.ref a :: st) L f := by
  subst hn
  intro H locs ls hl hP hD hS
  have hts := X.2.2.2.2.1
  refine W.objInit X.1 X.2.1 X.2.2.2.1 (hts _ hlink) (hts _ wd_22) (hts _ wd_23) rfl (hl.1.trans X.2.2.1.symm) rfl hd hR.1 (by have := hR.2; show 2 * 0 + _ + 12 ≤ _; omega) ?_
  exact k H locs ls hl hP hD hS
theorem k_newI (X : zX p s m args meth c D G A cc own nL) {N : Nat} (hd : decode cc pc = .ok (.newarray .int, 2)) (hn : pc + 2 = n) (hN : N < 1000) (hc : cells + 1 ≤ R.cells ∧ slots + N ≤ R.slots)
    (kk : ∀ q : Nat, q ∉ L → zG p l e R s m args below meth c D A nL (cells + 1) (slots + N) Q n lv (.ref q :: st) (L ++ [q]) (va_up f q (zr G N (fun _ => 0)))) : zG p l e R s m args below meth c D A nL cells slots Q pc lv (.int (zI (N : Int)) :: st) L f := by
  subst hn
  intro H locs ls hl hP hD hS
  refine va_newa (atype := .int) (ty := .int) (a0 := (N, .inl (fun _ => zI 0))) (N' := N) X.1 X.2.1 (X.2.2.2.2.1 _ wd_59) rfl X.2.2.2.2.2.1 hP hD hS X.2.2.2.2.2.2.1 (fun cA => rfl) (by rw [← zI_0, zI_lt (by omega) (by omega)]; omega) (by rw [zI_nat, nI_clamp (by omega)]) (by show N * 4 ≤ _; omega) hc.1 hc.2 hd (fun q cA H1 hK1 hP1 hD1 hS1 => ?_)
  have e1 := (hK1.2 6 (cA, .int) rfl).2
  have e2 := (X.2.2.2.2.2.1.2 0 (G 0, .int) rfl).2
  have e3 : cA = G 0 := Option.some.inj (e1.symm.trans e2)
  subst e3
  have hq := nd_push hD1
  rw [va_pl_push hq] at hP1 hD1
  exact kk q hq H1 locs ls hl hP1 hD1 hS1
theorem k_newL (X : zX p s m args meth c D G A cc own nL) (hd : decode cc pc = .ok (.newarray .long, 2)) (hn : pc + 2 = n) (hc : cells + 1 ≤ R.cells ∧ slots + 1 ≤ R.slots)
    (kk : ∀ q : Nat, q ∉ L → zG p l e R s m args below meth c D A nL (cells + 1) (slots + 1) Q n lv (.ref q :: st) (L ++ [q]) (va_up f q (zlo G (fun _ => 0)))) : zG p l e R s m args below meth c D A nL cells slots Q pc lv (.int (zI 1) :: st) L f := by
  subst hn
  intro H locs ls hl hP hD hS
  refine va_newa (atype := .long) (ty := .long) (a0 := (1, .inr (.inl (fun _ => 0)))) (N' := 1) X.1 X.2.1 (X.2.2.2.2.1 _ wd_789) rfl X.2.2.2.2.2.1 hP hD hS X.2.2.2.2.2.2.1 (fun cA => rfl) (by decide) (by decide) (by decide) hc.1 hc.2 hd (fun q cA H1 hK1 hP1 hD1 hS1 => ?_)
  have e1 := (hK1.2 6 (cA, .long) rfl).2
  have e2 := (X.2.2.2.2.2.1.2 1 (G 1, .long) rfl).2
  have e3 : cA = G 1 := Option.some.inj (e1.symm.trans e2)
  subst e3
  have hq := nd_push hD1
  rw [va_pl_push hq] at hP1 hD1
  exact kk q hq H1 locs ls hl hP1 hD1 hS1
theorem k_newO (X : zX p s m args meth c D G A cc own nL) {C : String} {T : u_T} {N ci index : Nat} (hin : ∀ w ∈ u_ws C T N, w ∈ BG) {ty : Nat → FieldType} (hty : ∀ k, k < N → parseFieldDescriptor (T k).2.2.1 = some (ty k)) (hcl : Cond.classLink own index C ∈ BG) (hinst : Cond.instantiable C N ∈ BG) (hini : Cond.initialized C ∈ BG) (hc : zc[ci]? = some (C, T, N)) (fs : List Value) (hfs : ∀ j, j < N → defaultValue (ty j) = vp_V fs j) (hcs : cells + 1 ≤ R.cells ∧ slots + N ≤ R.slots) (hd : decode cc pc = .ok (.new index, 3)) (hn : pc + 3 = n)
    (kk : ∀ q : Nat, q ∉ L → zG p l e R s m args below meth c D A nL (cells + 1) (slots + N) Q n lv (.ref q :: st) (L ++ [q]) (va_up f q (.inr (ci, fs)))) : zG p l e R s m args below meth c D A nL cells slots Q pc lv st L f := by
  subst hn
  intro H locs ls hl hP hD hS
  have hts := X.2.2.2.2.1
  refine va_new (D := D) (ci := ci) (fs := fs) (C := C) (T := T) (N := N) X.1 X.2.1 hts hin ty hty X.2.2.2.1 (hts _ hcl) (hts _ hinst) (hts _ hini) X.2.2.2.2.2.1 hP hD hS X.2.2.2.2.2.2.1 hc hfs hcs.1 hcs.2 hd (fun q H1 hP1 hD1 hS1 => ?_)
  have hq := nd_push hD1
  rw [va_pl_push hq] at hP1 hD1
  exact kk q hq H1 locs ls hl hP1 hD1 hS1
theorem k_newR (X : zX p s m args meth c D G A cc own nL) (hNe : zNe s) {C : String} {N k index : Nat} (hcl : Cond.classLink own index C ∈ BG) (hao : C ∈ nAO) (hk : (zt G)[k]? = some (G k, .object C)) (hN : N < 1000) (hcs : cells + 1 ≤ R.cells ∧ slots + N ≤ R.slots) (hd : decode cc pc = .ok (.anewarray index, 3)) (hn : pc + 3 = n)
    (kk : ∀ q : Nat, q ∉ L → zG p l e R s m args below meth c D A nL (cells + 1) (slots + N) Q n lv (.ref q :: st) (L ++ [q]) (va_up f q (zwo G k N (fun _ => none)))) : zG p l e R s m args below meth c D A nL cells slots Q pc lv (.int (zI (N : Int)) :: st) L f := by
  subst hn
  intro H locs ls hl hP hD hS
  have hts := X.2.2.2.2.1
  refine va_newq (N' := N) (C := C) X.1 X.2.1 X.2.2.2.1 (hts _ hcl) (hNe.2 C hao) X.2.2.2.2.2.1 hP hD hS X.2.2.2.2.2.2.1 (by rw [← zI_0, zI_lt (by omega) (by omega)]; omega) (by rw [zI_nat, nI_clamp (by omega)]) (by omega) hcs.1 hcs.2 hd (fun q cA H1 hK1 hP1 hD1 hS1 => ?_)
  obtain ⟨-, -, -, -, -, e1⟩ := (hK1.2 6 (cA, .object C) rfl).2
  obtain ⟨-, -, -, -, -, e2⟩ := (X.2.2.2.2.2.1.2 k (G k, .object C) hk).2
  have e3 : cA = G k := Option.some.inj (e1.symm.trans e2)
  subst e3
  have hq := nd_push hD1
  rw [va_pl_push hq] at hP1 hD1
  exact kk q hq H1 locs ls hl hP1 hD1 hS1
theorem k_aast (X : zX p s m args meth c D G A cc own nL) {a N k i v ci : Nat} {r : vw_C} {vs : List Value} {h : Nat → Option Nat} (ha : a ∈ L) (hf : f a = zwo G k N h) (hk : (zt G)[k]? = some (G k, .object r.1)) (hv : v ∈ L) (hfv : f v = .inr (ci, vs)) (hc : zc[ci]? = some r) (hi : i < N) (hN : N < 1000) (hd : decode cc pc = .ok (.aastore, 1)) (hn : pc + 1 = n)
    (kk : zG p l e R s m args below meth c D A nL cells slots Q n lv st L (va_up f a (zwo G k N (va_up h i (some v))))) : zG p l e R s m args below meth c D A nL cells slots Q pc lv (.ref v :: .int (zI (i : Int)) :: .ref a :: st) L f := by
  subst hn
  intro H locs ls hl hP hD hS
  obtain ⟨q, hq⟩ := pl_at ha hf
  obtain ⟨qv, hqv⟩ := pl_at hv hfv
  have hz : (zI (i : Int)).toNatClampNeg = i := zI_cl (n := N) (by omega) (by omega) (by omega)
  refine va_astq X.1 X.2.1 X.2.2.2.2.2.1 hP hD hS q k qv ci hq hk hqv hc (zI_in (n := N) (by omega) (by omega) (by omega)) hd (fun H1 locs1 hP1 hD1 hS1 => ?_)
  rw [hz] at hP1 hD1
  exact kk H1 locs1 ls hl (by rw [← pl_set hD ha hf hq]; exact hP1) (by rw [← pl_set hD ha hf hq]; exact hD1) hS1
theorem arrV_congr {cI : ClassId} {N : Nat} {g h : Nat → Value} (e : ∀ j, j < N → g j = h j) : arrV cI N g = arrV cI N h := by
  unfold arrV
  congr 1
  congr 1
  funext j
  exact e j.1 j.2
/-- a full row -/
theorem k_full {e0 : Env} {a k N : Nat} {h : Nat → Option Nat} (Y : Nat → Nat) (hf : f a = zwo G k N h) (e : ∀ j, j < N → h j = some (Y j)) (kk : zG p l e0 R s m args below meth c D A nL cells slots Q pc lv st L (va_up f a (zw G k N Y))) : zG p l e0 R s m args below meth c D A nL cells slots Q pc lv st L f := by
  intro H locs ls hl hP hD hS
  refine kk H locs ls hl (fun q x hx => ?_) ⟨fun i j x y hx hy => ?_, fun q x hx => ?_⟩ hS
  · unfold va_pl at hx
    rw [List.getElem?_map] at hx
    obtain ⟨z, hz, rfl⟩ := Option.map_eq_some_iff.mp hx
    have old := hP q (z, f z) (by unfold va_pl; rw [List.getElem?_map, hz]; rfl)
    by_cases c : z = a
    · subst c
      show va_at D zc (z, va_up f z (zw G k N Y) z) H
      rw [va_up_self]
      rw [hf] at old
      show H[z]? = some (vp_cell _ _)
      have o2 : H[z]? = some (vp_cell (G k) (N, .inr (.inr (.inr (.inr h))))) := old
      rw [o2, vp_cell_q, vp_cell_q]
      exact congrArg some (arrV_congr (fun j hj => by rw [e j hj]))
    · show va_at D zc (z, va_up f a (zw G k N Y) z) H
      rw [va_up_ne _ _ c]; exact old
  · unfold va_pl at hx hy
    rw [List.getElem?_map] at hx hy
    obtain ⟨z, hz, rfl⟩ := Option.map_eq_some_iff.mp hx
    obtain ⟨w, hw, rfl⟩ := Option.map_eq_some_iff.mp hy
    exact hD.1 i j (z, f z) (w, f w) (by unfold va_pl; rw [List.getElem?_map, hz]; rfl) (by unfold va_pl; rw [List.getElem?_map, hw]; rfl)
  · unfold va_pl at hx
    rw [List.getElem?_map] at hx
    obtain ⟨z, hz, rfl⟩ := Option.map_eq_some_iff.mp hx
    exact hD.2 q (z, f z) (by unfold va_pl; rw [List.getElem?_map, hz]; rfl)
theorem k_putF (X : zX p s m args meth c D G A cc own nL) {C : String} {T : u_T} {N ci index : Nat} (hin : ∀ w ∈ u_ws C T N, w ∈ BG) {ty0 : Nat → FieldType} (hty : ∀ k, k < N → parseFieldDescriptor (T k).2.2.1 = some (ty0 k)) (hnm : ∀ a, a < N → ∀ b, b < N → a ≠ b → (T a).2.1 ≠ (T b).2.1) (hc : zc[ci]? = some (C, T, N)) {a : Nat} {fs : List Value} {v : Value} (k : Nat) (hk : k < N) (hw : Cond.fieldLink own index C (T k).2.1 (T k).2.2.1 ∈ BG) (hsame : (T k).1 = C) (hfin : (T k).2.2.2 = true) (hin2 : meth.name = "<init>") (hdecl : (T k).1 = own) (hnar : narrow (ty0 k) v = v) (hfit : fits (ty0 k) v = true) (hd : decode cc pc = .ok (.putfield index, 3)) (hn : pc + 3 = n) (ha : a ∈ L) (hf : f a = .inr (ci, fs)) (hl : k < fs.length) (kk : zG p l e R s m args below meth c D A nL cells slots Q n lv st L (va_up f a (.inr (ci, fs.set k v)))) : zG p l e R s m args below meth c D A nL cells slots Q pc lv (v :: .ref a :: st) L f := by
  subst hn
  intro H locs ls hl' hP hD hS
  obtain ⟨q, hq⟩ := pl_at ha hf
  exact va_putF (D := D) (ci := ci) (v := v) (ty := ty0 k) (C := C) (T := T) (N := N) X.1 X.2.1 X.2.2.2.2.1 hin ty0 hty hnm X.2.2.2.1 X.2.2.2.2.2.1 hP hD hS q hq hc k hk (X.2.2.2.2.1 _ hw) (fun x h => by rw [hsame] at h; exact h) hfin hin2 hdecl (hty k hk) hnar hfit hl hd (fun H1 locs1 hP1 hD1 hS1 => kk H1 locs1 ls hl' (by rw [← pl_set hD ha hf hq]; exact hP1) (by rw [← pl_set hD ha hf hq]; exact hD1) hS1)
theorem bg_code {y : MethodName} {bytes : ByteArray} {maxL : Nat} {ret : Option FieldType} (w1 : Cond.code y bytes maxL ret ∈ BG) : GoodIn BG (.code y bytes maxL ret :: BG) := fun w hw => by
  rcases List.mem_cons.mp hw with rfl | hw
  · exact ⟨w1, bg_good w1⟩
  · exact ⟨hw, bg_good hw⟩
/-- a nest mate's constructor -/
theorem k_callN (X : zX p s m args meth c D G A cc own nL) (hNe : zNe s) {Qc : Option Value → List Nat → (Nat → va_E) → Prop} {index maxL b : Nat} {y : MethodName} {bytes : ByteArray} {rm : Room} (hM : zMn l D G y (.code y bytes maxL none :: BG) rm [.ref b] L f Qc) (w1 : Cond.code y bytes maxL none ∈ BG) (w2 : Cond.methodLinkNest own index y "LeatherRoom" ∈ nNW) (w3 : Cond.instanceMethod y ∈ BG) (w5 : Cond.initialized y.cls ∈ BG) (hy1 : y.name = "<init>")
    (hy : y.cls ≠ "java/lang/invoke/MethodHandle" ∧ y.cls ≠ "java/lang/invoke/VarHandle" ∧ (parseMethodDescriptor y.desc).map (fun d => d.parameters.length) = some 0) (hR : rm.frames + 1 ≤ R.frames ∧ 8 + (maxL + 11) + rm.locals ≤ R.locals) (hcat : (st.map fun v => v.category).sum ≤ 8) (hd : decode cc pc = .ok (.invokespecial index, 3)) (hn : pc + 3 = n) (hf : cells + rm.cells ≤ R.cells ∧ slots + rm.slots ≤ R.slots)
    (kk : ∀ (v : Option Value) (L1 : List Nat) (f1 : Nat → va_E), Qc v L1 f1 → zG p l e R s m args below meth c D A nL (cells + rm.cells) (slots + rm.slots) Q n lv (v.toList ++ st) L1 f1) : zG p l e R s m args below meth c D A nL cells slots Q pc lv (.ref b :: st) L f := by
  refine k_ran X (mc := rm.cells) (ms := rm.slots) (av := [Value.ref b].toArray) hn (fun H locs ls hls hP hD => ?_) kk
  have hts := X.2.2.2.2.1
  exact va_runIN (As := []) (rest := st) ⟨X.1, X.2.1, X.2.2.1, X.2.2.2.1, hts⟩ (hM H.size) ⟨va_cnB 0 hts (bg_code w1) rfl rfl rfl (hNe.1 _ w2) (hts _ w5) hy hR, hy1, hts _ w3⟩
    ⟨zMn_blind, fun U hU hW => ⟨rfl, ⟨by rw [hU], by rw [hU]; exact hP, va_K.moved hW.alike X.2.2.2.2.2.1, hD.weaken (fun _ _ _ _ => trivial)⟩, zNe.warm hW hNe⟩⟩ rfl rfl hls rfl (lv_room hcat) hd hf
/-- a constructor -/
theorem k_callI (X : zX p s m args meth c D G A cc own nL) (hNe : zNe s) {Qc : Option Value → List Nat → (Nat → va_E) → Prop} {index maxL b : Nat} {y : MethodName} {bytes : ByteArray} {rm : Room} (hM : zMn l D G y (.code y bytes maxL none :: BG) rm [.ref b] L f Qc) (w1 : Cond.code y bytes maxL none ∈ BG) (w2 : Cond.methodLink own index y ∈ BG) (w3 : Cond.instanceMethod y ∈ BG) (w5 : Cond.initialized y.cls ∈ BG) (hy1 : y.name = "<init>")
    (hy : y.cls ≠ "java/lang/invoke/MethodHandle" ∧ y.cls ≠ "java/lang/invoke/VarHandle" ∧ (parseMethodDescriptor y.desc).map (fun d => d.parameters.length) = some 0) (hR : rm.frames + 1 ≤ R.frames ∧ 8 + (maxL + 11) + rm.locals ≤ R.locals) (hcat : (st.map fun v => v.category).sum ≤ 8) (hd : decode cc pc = .ok (.invokespecial index, 3)) (hn : pc + 3 = n) (hf : cells + rm.cells ≤ R.cells ∧ slots + rm.slots ≤ R.slots)
    (kk : ∀ (v : Option Value) (L1 : List Nat) (f1 : Nat → va_E), Qc v L1 f1 → zG p l e R s m args below meth c D A nL (cells + rm.cells) (slots + rm.slots) Q n lv (v.toList ++ st) L1 f1) : zG p l e R s m args below meth c D A nL cells slots Q pc lv (.ref b :: st) L f := by
  refine k_ran X (mc := rm.cells) (ms := rm.slots) (av := [Value.ref b].toArray) hn (fun H locs ls hls hP hD => ?_) kk
  have hts := X.2.2.2.2.1
  exact va_runI (As := []) (rest := st) ⟨X.1, X.2.1, X.2.2.1, X.2.2.2.1, hts⟩ (hM H.size) (cwI 0 hts (bg_code w1) rfl rfl rfl (hts _ w5) (hts _ w2) (hts _ w3) hy1 hy hR)
    ⟨zMn_blind, fun U hU hW => ⟨rfl, ⟨by rw [hU], by rw [hU]; exact hP, va_K.moved hW.alike X.2.2.2.2.2.1, hD.weaken (fun _ _ _ _ => trivial)⟩, zNe.warm hW hNe⟩⟩ rfl rfl hls rfl (lv_room hcat) hd hf
theorem k_cs {cells' slots' : Nat} (h1 : cells = cells') (h2 : slots = slots') (k : zG p l e R s m args below meth c D A nL cells' slots' Q pc lv st L f) : zG p l e R s m args below meth c D A nL cells slots Q pc lv st L f := by rw [h1, h2]; exact k
end ZN
/-- k new addresses -/
def nw (k : Nat) (b : Nat → Nat) (L L1 : List Nat) : Prop := (∀ z, z ∈ L → z ∈ L1) ∧ (∀ i, i < k → b i ∈ L1 ∧ b i ∉ L) ∧ ∀ i j, i < k → j < k → b i = b j → i = j
theorem nw_0 (b : Nat → Nat) (L : List Nat) : nw 0 b L L := ⟨fun _ h => h, fun i h => absurd h (by omega), fun i j h => absurd h (by omega)⟩
theorem nw_1 {q : Nat} {L : List Nat} (h : q ∉ L) : nw 1 (fun _ => q) L (L ++ [q]) := ⟨fun _ h => List.mem_append_left _ h, fun i _ => ⟨List.mem_append_right _ (List.mem_singleton.mpr rfl), h⟩, fun i j h1 h2 _ => by omega⟩
def nwb (k : Nat) (b b' : Nat → Nat) : Nat → Nat := fun i => if i < k then b i else b' (i - k)
theorem nwb_l {k i : Nat} {b b' : Nat → Nat} (h : i < k) : nwb k b b' i = b i := if_pos h
theorem nwb_r {k i : Nat} {b b' : Nat → Nat} (h : k ≤ i) : nwb k b b' i = b' (i - k) := if_neg (by omega)
theorem nw_tr {k k' : Nat} {b b' : Nat → Nat} {L L1 L2 : List Nat} (h1 : nw k b L L1) (h2 : nw k' b' L1 L2) : nw (k + k') (nwb k b b') L L2 := by
  refine ⟨fun z h => h2.1 z (h1.1 z h), fun i hi => ?_, fun i j hi hj => ?_⟩
  · rcases Nat.lt_or_ge i k with c | c
    · rw [nwb_l c]; exact ⟨h2.1 _ (h1.2.1 i c).1, (h1.2.1 i c).2⟩
    · rw [nwb_r c]; exact ⟨(h2.2.1 _ (by omega)).1, fun h => (h2.2.1 (i - k) (by omega)).2 (h1.1 _ h)⟩
  · rcases Nat.lt_or_ge i k with c | c <;> rcases Nat.lt_or_ge j k with d | d
    · rw [nwb_l c, nwb_l d]; exact h1.2.2 i j c d
    · rw [nwb_l c, nwb_r d]; intro h; exact absurd (h ▸ (h1.2.1 i c).1) (h2.2.1 (j - k) (by omega)).2
    · rw [nwb_r c, nwb_l d]; intro h; exact absurd (h ▸ (h1.2.1 j d).1) (h2.2.1 (i - k) (by omega)).2
    · rw [nwb_r c, nwb_r d]; intro h; have := h2.2.2 (i - k) (j - k) (by omega) (by omega) h; omega
