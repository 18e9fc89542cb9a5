-- NEW: the constructors of the small ones
section ZV
variable {p : Program} {l : Launch} {e : Env} {R : Room} {s : State} {m : MethodId} {args : Array Value} {below : List Frame} {meth : Method} {c : Code} {D : va_G} {G : Nat → ClassId} {A : Nat → Prop} {nL cells slots : Nat} {Q : State → Prop} {cc : ByteArray} {own : String}
variable {pc n t : Nat} {lv lv' : List (Nat × Value)} {st : List Value} {L : List Nat} {f : Nat → va_E}
theorem up_fr {f : Nat → va_E} {a : Nat} {E : va_E} : ∀ z, z ≠ a → va_up f a E z = f z := fun _ h => va_up_ne _ _ h
theorem v_newI (X : zX p s m args meth c D G A cc own nL) {N : Nat} (hd : decode cc pc = .ok (.newarray .int, 2)) (hn : pc + 2 = n) (hN : N < 1000) (hc : cells + 1 ≤ R.cells ∧ slots + N ≤ R.slots)
    (kk : ∀ (q : Nat) (f1 : Nat → va_E), q ∉ L → f1 q = zr G N (fun _ => 0) → (∀ z, z ≠ q → f1 z = f z) → zG p l e R s m args below meth c D A nL (cells + 1) (slots + N) Q n lv (.ref q :: st) (L ++ [q]) f1) : zG p l e R s m args below meth c D A nL cells slots Q pc lv (.int (zI (N : Int)) :: st) L f :=
  k_newI X hd hn hN hc (fun q h => kk q _ h (va_up_self _ _ _) up_fr)
theorem v_newO (X : zX p s m args meth c D G A cc own nL) {C : String} {T : u_T} {N ci index : Nat} (hin : ∀ w ∈ u_ws C T N, w ∈ BG) {ty : Nat → FieldType} (hty : ∀ k, k < N → parseFieldDescriptor (T k).2.2.1 = some (ty k)) (hcl : Cond.classLink own index C ∈ BG) (hinst : Cond.instantiable C N ∈ BG) (hini : Cond.initialized C ∈ BG) (hc : zc[ci]? = some (C, T, N)) (fs : List Value) (hfs : ∀ j, j < N → defaultValue (ty j) = vp_V fs j) (hcs : cells + 1 ≤ R.cells ∧ slots + N ≤ R.slots) (hd : decode cc pc = .ok (.new index, 3)) (hn : pc + 3 = n)
    (kk : ∀ (q : Nat) (f1 : Nat → va_E), q ∉ L → f1 q = .inr (ci, fs) → (∀ z, z ≠ q → f1 z = f z) → zG p l e R s m args below meth c D A nL (cells + 1) (slots + N) Q n lv (.ref q :: st) (L ++ [q]) f1) : zG p l e R s m args below meth c D A nL cells slots Q pc lv st L f :=
  k_newO X hin hty hcl hinst hini hc fs hfs hcs hd hn (fun q h => kk q _ h (va_up_self _ _ _) up_fr)
theorem v_newR (X : zX p s m args meth c D G A cc own nL) (hNe : zNe s) {C : String} {N k index : Nat} (hcl : Cond.classLink own index C ∈ BG) (hao : C ∈ nAO) (hk : (zt G)[k]? = some (G k, .object C)) (hN : N < 1000) (hcs : cells + 1 ≤ R.cells ∧ slots + N ≤ R.slots) (hd : decode cc pc = .ok (.anewarray index, 3)) (hn : pc + 3 = n)
    (kk : ∀ (q : Nat) (f1 : Nat → va_E), q ∉ L → f1 q = zwo G k N (fun _ => none) → (∀ z, z ≠ q → f1 z = f z) → zG p l e R s m args below meth c D A nL (cells + 1) (slots + N) Q n lv (.ref q :: st) (L ++ [q]) f1) : zG p l e R s m args below meth c D A nL cells slots Q pc lv (.int (zI (N : Int)) :: st) L f :=
  k_newR X hNe hcl hao hk hN hcs hd hn (fun q h => kk q _ h (va_up_self _ _ _) up_fr)
theorem v_aast (X : zX p s m args meth c D G A cc own nL) {a N k i v ci : Nat} {r : vw_C} {vs : List Value} {h : Nat → Option Nat} (ha : a ∈ L) (hf : f a = zwo G k N h) (hk : (zt G)[k]? = some (G k, .object r.1)) (hv : v ∈ L) (hfv : f v = .inr (ci, vs)) (hc : zc[ci]? = some r) (hi : i < N) (hN : N < 1000) (hd : decode cc pc = .ok (.aastore, 1)) (hn : pc + 1 = n)
    (kk : ∀ f1 : Nat → va_E, f1 a = zwo G k N (va_up h i (some v)) → (∀ z, z ≠ a → f1 z = f z) → zG p l e R s m args below meth c D A nL cells slots Q n lv st L f1) : zG p l e R s m args below meth c D A nL cells slots Q pc lv (.ref v :: .int (zI (i : Int)) :: .ref a :: st) L f :=
  k_aast X ha hf hk hv hfv hc hi hN hd hn (kk _ (va_up_self _ _ _) up_fr)
theorem v_full {a k N : Nat} {h : Nat → Option Nat} (Y : Nat → Nat) (hf : f a = zwo G k N h) (e1 : ∀ j, j < N → h j = some (Y j)) (kk : ∀ f1 : Nat → va_E, f1 a = zw G k N Y → (∀ z, z ≠ a → f1 z = f z) → zG p l e R s m args below meth c D A nL cells slots Q pc lv st L f1) : zG p l e R s m args below meth c D A nL cells slots Q pc lv st L f :=
  k_full Y hf e1 (kk _ (va_up_self _ _ _) up_fr)
theorem v_putF (X : zX p s m args meth c D G A cc own nL) {C : String} {T : u_T} {N ci index : Nat} (hin : ∀ w ∈ u_ws C T N, w ∈ BG) {ty0 : Nat → FieldType} (hty : ∀ k, k < N → parseFieldDescriptor (T k).2.2.1 = some (ty0 k)) (hnm : ∀ a, a < N → ∀ b, b < N → a ≠ b → (T a).2.1 ≠ (T b).2.1) (hc : zc[ci]? = some (C, T, N)) {a : Nat} {fs : List Value} {v : Value} (k : Nat) (hk : k < N) (hw : Cond.fieldLink own index C (T k).2.1 (T k).2.2.1 ∈ BG) (hsame : (T k).1 = C) (hfin : (T k).2.2.2 = true) (hin2 : meth.name = "<init>") (hdecl : (T k).1 = own) (hnar : narrow (ty0 k) v = v) (hfit : fits (ty0 k) v = true) (hd : decode cc pc = .ok (.putfield index, 3)) (hn : pc + 3 = n) (ha : a ∈ L) (hf : f a = .inr (ci, fs)) (hl : k < fs.length)
    (kk : ∀ f1 : Nat → va_E, f1 a = .inr (ci, fs.set k v) → (∀ z, z ≠ a → f1 z = f z) → zG p l e R s m args below meth c D A nL cells slots Q n lv st L f1) : zG p l e R s m args below meth c D A nL cells slots Q pc lv (v :: .ref a :: st) L f :=
  k_putF X hin hty hnm hc k hk hw hsame hfin hin2 hdecl hnar hfit hd hn ha hf hl (kk _ (va_up_self _ _ _) up_fr)
end ZV
theorem ne_of {a q : Nat} {L : List Nat} (h : a ∈ L) (hq : q ∉ L) : a ≠ q := fun e => hq (e ▸ h)
theorem in_l {a q : Nat} {L : List Nat} (h : a ∈ L) : a ∈ L ++ [q] := List.mem_append_left _ h
theorem in_r {q : Nat} {L : List Nat} : q ∈ L ++ [q] := List.mem_append_right _ (List.mem_singleton.mpr rfl)
/-- a new shape: its object, its rows -/
def shp (G : Nat → ClassId) (f : Nat → va_E) (o x y : Nat) : Prop := f o = .inr (2, [.ref x, .ref y, .int (zI 0), .int (zI 0), .int (zI 0), .int (zI 0), .int (zI 0)]) ∧ f x = zr G 12 (fun _ => 0) ∧ f y = zr G 12 (fun _ => 0)
theorem shp_keep {G : Nat → ClassId} {f f1 : Nat → va_E} {o x y : Nat} (h : shp G f o x y) (h1 : f1 o = f o) (h2 : f1 x = f x) (h3 : f1 y = f y) : shp G f1 o x y := ⟨h1.trans h.1, h2.trans h.2.1, h3.trans h.2.2⟩
abbrev fsS : List Value := [.null, .null, .int (zI 0), .int (zI 0), .int (zI 0), .int (zI 0), .int (zI 0)]
abbrev rmS : Room := { frames := 1, cells := 2, slots := 24, locals := 12 }
abbrev rmZ : Room := { frames := 2, cells := 3, slots := 31, locals := 32 }
abbrev rmK : Room := { frames := 2, cells := 13, slots := 128, locals := 32 }
set_option maxRecDepth 100000 in
set_option maxHeartbeats 4000000 in
theorem m_S_init (l : Launch) (D : va_G) (G : Nat → ClassId) {L : List Nat} {f : Nat → va_E} {a : Nat} (ha : a ∈ L) (hf : f a = .inr (2, fsS)) : zMn l D G y_S_init (.code y_S_init c_S_init 1 none :: BG) rmS [.ref a] L f (fun v L1 f1 => v = none ∧ ∃ b : Nat → Nat, nw 2 b L L1 ∧ shp G f1 a (b 0) (b 1) ∧ ∀ z, z ∈ L → z ≠ a → f1 z = f z) := by
  refine zMn.of (by decide) (Nat.le_of_ble_eq_true rfl) rfl (fun p e s m args below meth c A Xc hNe hr hnm => ?_)
  refine k_aload_n Xc d_S_init_0 rfl rfl (n := 1) rfl ?_
  refine k_objInit Xc wd_29 d_S_init_1 (n := 4) rfl ⟨by decide, Nat.le_of_ble_eq_true rfl⟩ ?_
  refine k_aload_n Xc d_S_init_4 rfl rfl (n := 5) rfl ?_
  refine k_bipush Xc d_S_init_5 rfl (n := 7) rfl ?_
  refine k_val (show (12 : Int) = ((12 : Nat) : Int) from rfl) ?_
  refine v_newI Xc d_S_init_7 (n := 9) rfl (by decide) ⟨by decide, by decide⟩ (fun q1 f1 h1 g1 r1 => ?_)
  refine v_putF Xc u_S t_S_ok n_S rfl 0 (by decide) wd_30 rfl rfl hnm rfl rfl rfl d_S_init_9 (n := 12) rfl (in_l ha) ((r1 a (ne_of ha h1)).trans hf) (Nat.le_of_ble_eq_true rfl) (fun f2 g2 r2 => ?_)
  refine k_aload_n Xc d_S_init_12 rfl rfl (n := 13) rfl ?_
  refine k_bipush Xc d_S_init_13 rfl (n := 15) rfl ?_
  refine k_val (show (12 : Int) = ((12 : Nat) : Int) from rfl) ?_
  refine v_newI Xc d_S_init_15 (n := 17) rfl (by decide) ⟨by decide, by decide⟩ (fun q2 f3 h3 g3 r3 => ?_)
  refine v_putF Xc u_S t_S_ok n_S rfl 1 (by decide) wd_31 rfl rfl hnm rfl rfl rfl d_S_init_17 (n := 20) rfl (in_l (in_l ha)) ((r3 a (ne_of (in_l ha) h3)).trans g2) (Nat.le_of_ble_eq_true rfl) (fun f4 g4 r4 => ?_)
  have n1 : q1 ≠ a := Ne.symm (ne_of ha h1)
  have n2 : q2 ≠ a := Ne.symm (ne_of (in_l ha) h3)
  refine k_vret Xc d_S_init_20 hr (Nat.le_refl _) (Nat.le_refl _) ⟨rfl, _, nw_tr (nw_1 h1) (nw_1 h3), ⟨g4, ?_, ?_⟩, fun z hz hza => ?_⟩
  · exact (r4 q1 n1).trans ((r3 q1 (ne_of in_r h3)).trans ((r2 q1 n1).trans g1))
  · exact (r4 q2 n2).trans g3
  · exact (r4 z hza).trans ((r3 z (ne_of (in_l hz) h3)).trans ((r2 z hza).trans (r1 z (ne_of hz h1))))
section ZV2
variable {p : Program} {l : Launch} {e : Env} {R : Room} {s : State} {m : MethodId} {args : Array Value} {below : List Frame} {meth : Method} {c : Code} {D : va_G} {G : Nat → ClassId} {A : Nat → Prop} {nL cells slots : Nat} {Q : State → Prop} {cc : ByteArray} {own : String}
variable {pc n t : Nat} {lv lv' : List (Nat × Value)} {st : List Value} {L : List Nat} {f : Nat → va_E}
theorem v_newS (X : zX p s m args meth c D G A cc own nL) (hNe : zNe s) {ix iy : Nat} (hcl : Cond.classLink own ix "LeatherRoom$Shape" ∈ BG) (w2 : Cond.methodLinkNest own iy y_S_init "LeatherRoom" ∈ nNW) (d0 : decode cc pc = .ok (.new ix, 3)) (d1 : decode cc (pc + 3) = .ok (.dup, 1)) (d2 : decode cc (pc + 4) = .ok (.invokespecial iy, 3)) (hn : pc + 7 = n) (hR : 2 ≤ R.frames ∧ 32 ≤ R.locals) (hcat : (st.map fun v => v.category).sum + 1 ≤ 8) (hcs : cells + 3 ≤ R.cells ∧ slots + 31 ≤ R.slots)
    (kk : ∀ (b : Nat → Nat) (L1 : List Nat) (f1 : Nat → va_E), nw 3 b L L1 → shp G f1 (b 0) (b 1) (b 2) → (∀ z, z ∈ L → f1 z = f z) → zG p l e R s m args below meth c D A nL (cells + 3) (slots + 31) Q n lv (.ref (b 0) :: st) L1 f1) : zG p l e R s m args below meth c D A nL cells slots Q pc lv st L f := by
  subst hn
  refine v_newO X u_S t_S_ok hcl wd_25 wd_2 (ci := 2) rfl fsS (fun j hj => ?_) ⟨by omega, by omega⟩ d0 rfl (fun q f1 h1 g1 r1 => ?_)
  · rcases (show j = 0 ∨ j = 1 ∨ j = 2 ∨ j = 3 ∨ j = 4 ∨ j = 5 ∨ j = 6 by omega) with rfl | rfl | rfl | rfl | rfl | rfl | rfl <;> rfl
  refine k_dup X d1 rfl rfl ?_
  refine k_callN X hNe (m_S_init l D G in_r g1) wd_28 w2 wd_27 wd_2 rfl (by decide +kernel) ⟨hR.1, hR.2⟩ (by show (Value.category _ + _) ≤ 8; exact (Nat.add_comm _ _) ▸ hcat) d2 (n := pc + 7) rfl ⟨by show cells + 1 + 2 ≤ _; omega, by show slots + 7 + 24 ≤ _; omega⟩ (fun v L1 f2 hv => ?_)
  obtain ⟨rfl, b, hb, hs, hk⟩ := hv
  refine kk (nwb 1 (fun _ => q) b) L1 f2 (nw_tr (nw_1 h1) hb) hs (fun z hz => ?_)
  exact (hk z (in_l hz) (ne_of hz h1)).trans (r1 z (ne_of hz h1))
end ZV2
abbrev fsZ : List Value := [.null, .int (zI 0)]
set_option maxRecDepth 100000 in
set_option maxHeartbeats 4000000 in
theorem m_Z_init (l : Launch) (D : va_G) (G : Nat → ClassId) {L : List Nat} {f : Nat → va_E} {a : Nat} (ha : a ∈ L) (hf : f a = .inr (3, fsZ)) : zMn l D G y_Z_init (.code y_Z_init c_Z_init 1 none :: BG) rmZ [.ref a] L f (fun v L1 f1 => v = none ∧ ∃ b : Nat → Nat, nw 3 b L L1 ∧ f1 a = .inr (3, [.ref (b 0), .int (zI 0)]) ∧ shp G f1 (b 0) (b 1) (b 2) ∧ ∀ z, z ∈ L → z ≠ a → f1 z = f z) := by
  refine zMn.of (by decide) (Nat.le_of_ble_eq_true rfl) rfl (fun p e s m args below meth c A Xc hNe hr hnm => ?_)
  refine k_aload_n Xc d_Z_init_0 rfl rfl (n := 1) rfl ?_
  refine k_objInit Xc wd_70 d_Z_init_1 (n := 4) rfl ⟨by decide, Nat.le_of_ble_eq_true rfl⟩ ?_
  refine k_aload_n Xc d_Z_init_4 rfl rfl (n := 5) rfl ?_
  refine v_newS Xc hNe wd_71 (List.mem_of_getElem? (i := 2) rfl) d_Z_init_5 d_Z_init_8 d_Z_init_9 (n := 12) rfl ⟨by decide, Nat.le_of_ble_eq_true rfl⟩ (Nat.le_of_ble_eq_true rfl) ⟨by decide, by decide⟩ (fun b L1 f1 hb hs r1 => ?_)
  refine v_putF Xc u_Z t_Z_ok n_Z rfl 0 (by decide) wd_73 rfl rfl hnm rfl rfl rfl d_Z_init_12 (n := 15) rfl (hb.1 a ha) ((r1 a ha).trans hf) (Nat.le_of_ble_eq_true rfl) (fun f2 g2 r2 => ?_)
  have na : ∀ i, i < 3 → b i ≠ a := fun i hi => Ne.symm (ne_of ha (hb.2.1 i hi).2)
  exact k_vret Xc d_Z_init_15 hr (Nat.le_refl _) (Nat.le_refl _) ⟨rfl, b, hb, g2, shp_keep hs (r2 _ (na 0 (by omega))) (r2 _ (na 1 (by omega))) (r2 _ (na 2 (by omega))), fun z hz hza => (r2 z hza).trans (r1 z hz)⟩
abbrev fsP : List Value := [.null, .int (zI 0), .int (zI 0), .int (zI 0), .int (zI 0), .int (zI 0)]
set_option maxRecDepth 100000 in
set_option maxHeartbeats 4000000 in
theorem m_P_init (l : Launch) (D : va_G) (G : Nat → ClassId) {L : List Nat} {f : Nat → va_E} {a : Nat} (ha : a ∈ L) (hf : f a = .inr (1, fsP)) : zMn l D G y_P_init (.code y_P_init c_P_init 1 none :: BG) rmZ [.ref a] L f (fun v L1 f1 => v = none ∧ ∃ b : Nat → Nat, nw 3 b L L1 ∧ f1 a = .inr (1, [.ref (b 0), .int (zI 0), .int (zI 0), .int (zI 0), .int (zI 0), .int (zI 0)]) ∧ shp G f1 (b 0) (b 1) (b 2) ∧ ∀ z, z ∈ L → z ≠ a → f1 z = f z) := by
  refine zMn.of (by decide) (Nat.le_of_ble_eq_true rfl) rfl (fun p e s m args below meth c A Xc hNe hr hnm => ?_)
  refine k_aload_n Xc d_P_init_0 rfl rfl (n := 1) rfl ?_
  refine k_objInit Xc wd_106 d_P_init_1 (n := 4) rfl ⟨by decide, Nat.le_of_ble_eq_true rfl⟩ ?_
  refine k_aload_n Xc d_P_init_4 rfl rfl (n := 5) rfl ?_
  refine v_newS Xc hNe wd_107 (List.mem_of_getElem? (i := 5) rfl) d_P_init_5 d_P_init_8 d_P_init_9 (n := 12) rfl ⟨by decide, Nat.le_of_ble_eq_true rfl⟩ (Nat.le_of_ble_eq_true rfl) ⟨by decide, by decide⟩ (fun b L1 f1 hb hs r1 => ?_)
  refine v_putF Xc u_P t_P_ok n_P rfl 0 (by decide) wd_109 rfl rfl hnm rfl rfl rfl d_P_init_12 (n := 15) rfl (hb.1 a ha) ((r1 a ha).trans hf) (Nat.le_of_ble_eq_true rfl) (fun f2 g2 r2 => ?_)
  have na : ∀ i, i < 3 → b i ≠ a := fun i hi => Ne.symm (ne_of ha (hb.2.1 i hi).2)
  exact k_vret Xc d_P_init_15 hr (Nat.le_refl _) (Nat.le_refl _) ⟨rfl, b, hb, g2, shp_keep hs (r2 _ (na 0 (by omega))) (r2 _ (na 1 (by omega))) (r2 _ (na 2 (by omega))), fun z hz hza => (r2 z hza).trans (r1 z hz)⟩
abbrev fsK : List Value := [.null, .int (zI 0), .int (zI 0)]
def ptn (n : Nat) (X : Nat → Nat) : Nat → Option Nat := fun j => if j < n then some (X j) else none
theorem ptn_lt {n j : Nat} {X : Nat → Nat} (h : j < n) : ptn n X j = some (X j) := if_pos h
theorem ptn_0 (X : Nat → Nat) : ptn 0 X = fun _ => none := funext fun j => if_neg (by omega)
theorem ptn_s {n v : Nat} {X Y : Nat → Nat} (h : ∀ j, j < n → Y j = X j) (hv : Y n = v) : va_up (ptn n X) n (some v) = ptn (n + 1) Y := by
  funext j
  unfold va_up ptn
  rcases Nat.lt_trichotomy j n with c | c | c
  · rw [if_neg (by omega), if_pos c, if_pos (by omega), h j c]
  · subst c; rw [if_pos rfl, if_pos (by omega), hv]
  · rw [if_neg (by omega), if_neg (by omega), if_neg (by omega)]
set_option maxRecDepth 100000 in
set_option maxHeartbeats 4000000 in
theorem m_K_init (l : Launch) (D : va_G) (G : Nat → ClassId) {L : List Nat} {f : Nat → va_E} {a : Nat} (ha : a ∈ L) (hf : f a = .inr (0, fsK)) : zMn l D G y_K_init (.code y_K_init c_K_init 2 none :: BG) rmK [.ref a] L f (fun v L1 f1 => v = none ∧ ∃ b : Nat → Nat, nw 13 b L L1 ∧ f1 a = .inr (0, [.ref (b 0), .int (zI 0), .int (zI 0)]) ∧ f1 (b 0) = zwo G 2 4 (ptn 4 (fun t => b (1 + 3 * t))) ∧ (∀ t, t < 4 → shp G f1 (b (1 + 3 * t)) (b (2 + 3 * t)) (b (3 + 3 * t))) ∧ ∀ z, z ∈ L → z ≠ a → f1 z = f z) := by
  refine zMn.of (by decide) (Nat.le_of_ble_eq_true rfl) rfl (fun p e s m args below meth c A Xc hNe hr hnm => ?_)
  have loop : ∀ (d t : Nat) (b : Nat → Nat) (L1 : List Nat) (f1 : Nat → va_E), 4 < t + d → t ≤ 4 → nw (1 + 3 * t) b L L1 → f1 a = .inr (0, [.ref (b 0), .int (zI 0), .int (zI 0)]) → f1 (b 0) = zwo G 2 4 (ptn t (fun j => b (1 + 3 * j))) → (∀ j, j < t → shp G f1 (b (1 + 3 * j)) (b (2 + 3 * j)) (b (3 + 3 * j))) → (∀ z, z ∈ L → z ≠ a → f1 z = f z) →
      zG p l e rmK s m args below meth c D A 2 (1 + 3 * t) (4 + 31 * t) (MQ below (zE D A (fun v L1 f1 => v = none ∧ ∃ b : Nat → Nat, nw 13 b L L1 ∧ f1 a = .inr (0, [.ref (b 0), .int (zI 0), .int (zI 0)]) ∧ f1 (b 0) = zwo G 2 4 (ptn 4 (fun t => b (1 + 3 * t))) ∧ (∀ t, t < 4 → shp G f1 (b (1 + 3 * t)) (b (2 + 3 * t)) (b (3 + 3 * t))) ∧ ∀ z, z ∈ L → z ≠ a → f1 z = f z)) args s rmK.cells rmK.slots A) 14 [(0, .ref a), (1, .int (zI (t : Int)))] [] L1 f1 := by
    intro d
    induction d with
    | zero => intro t b L1 f1 h1 h2; omega
    | succ d ih =>
      intro t b L1 f1 h1 h2 hb ga gr gs hk
      have nb : ∀ i, i < 1 + 3 * t → b i ≠ a := fun i hi => Ne.symm (ne_of ha (hb.2.1 i hi).2)
      refine k_iload_n Xc d_K_init_14 rfl rfl (n := 15) rfl ?_
      refine k_iconst Xc d_K_init_15 (n := 16) rfl ?_
      refine k_icmp_ge Xc d_K_init_16 (t := 38) (n := 19) rfl rfl (by omega) (by omega) (fun q => ?_) (fun q => ?_)
      · have et : t = 4 := by omega
        subst et
        exact k_vret Xc d_K_init_38 hr (Nat.le_of_ble_eq_true rfl) (Nat.le_of_ble_eq_true rfl) ⟨rfl, b, hb, ga, gr, gs, hk⟩
      · refine k_aload_n Xc d_K_init_19 rfl rfl (n := 20) rfl ?_
        refine k_get Xc u_K rfl 0 (by decide) wd_90 rfl d_K_init_20 (n := 23) rfl (hb.1 a ha) ga rfl ?_
        refine k_iload_n Xc d_K_init_23 rfl rfl (n := 24) rfl ?_
        refine v_newS Xc hNe wd_87 (List.mem_of_getElem? (i := 3) rfl) d_K_init_24 d_K_init_27 d_K_init_28 (n := 31) rfl ⟨by decide, Nat.le_of_ble_eq_true rfl⟩ (Nat.le_of_ble_eq_true rfl) ⟨by show 1 + 3 * t + 3 ≤ 13; omega, by show 4 + 31 * t + 31 ≤ 128; omega⟩ (fun b2 L2 f2 hb2 hs2 r2 => ?_)
        have hb3 := nw_tr hb hb2
        have m0 := (hb.2.1 0 (by omega)).1
        refine v_aast Xc (hb2.1 _ m0) ((r2 _ m0).trans gr) (r := ("LeatherRoom$Shape", F_S, 7)) rfl (hb2.2.1 0 (by omega)).1 hs2.1 rfl (by omega) (by decide) d_K_init_31 (n := 32) rfl (fun f3 g3 r3 => ?_)
        refine k_iinc Xc d_K_init_32 rfl (by decide) (n := 35) rfl ?_
        refine k_goto Xc d_K_init_35 (t := 14) rfl ?_
        have e0 : nwb (1 + 3 * t) b b2 0 = b 0 := nwb_l (by omega)
        have eo : ∀ i, i < 1 + 3 * t → nwb (1 + 3 * t) b b2 i = b i := fun i hi => nwb_l hi
        have en : ∀ i, nwb (1 + 3 * t) b b2 (1 + 3 * t + i) = b2 i := fun i => by rw [nwb_r (by omega), show 1 + 3 * t + i - (1 + 3 * t) = i by omega]
        have n2 : ∀ i, i < 3 → b2 i ≠ b 0 := fun i hi => Ne.symm (ne_of m0 (hb2.2.1 i hi).2)
        refine k_cs (cells' := 1 + 3 * (t + 1)) (slots' := 4 + 31 * (t + 1)) (by omega) (by omega) (k_loc (ih (t + 1) (nwb (1 + 3 * t) b b2) L2 f3 (by omega) (by omega) hb3 ?_ ?_ ?_ ?_) rfl)
        · rw [e0, r3 a (Ne.symm (nb 0 (by omega))), r2 a (hb.1 a ha)]; exact ga
        · rw [e0, g3, ptn_s (fun j hj => eo _ (by omega))]
          have := en 0
          exact this
        · intro j hj
          rcases Nat.lt_or_ge j t with c1 | c1
          · rw [eo _ (by omega), eo _ (by omega), eo _ (by omega)]
            have ni : ∀ i, 0 < i → i < 1 + 3 * t → b i ≠ b 0 := fun i h0 hi h => by have := hb.2.2 i 0 (by omega) (by omega) h; omega
            have o : ∀ i, 0 < i → i < 1 + 3 * t → f3 (b i) = f1 (b i) := fun i h0 hi => (r3 _ (ni i h0 hi)).trans (r2 _ (hb.2.1 i hi).1)
            exact shp_keep (gs j c1) (o _ (by omega) (by omega)) (o _ (by omega) (by omega)) (o _ (by omega) (by omega))
          · have ej : j = t := by omega
            subst ej
            rw [show 1 + 3 * j = 1 + 3 * j + 0 by omega, show 2 + 3 * j = 1 + 3 * j + 1 by omega, show 3 + 3 * j = 1 + 3 * j + 2 by omega]
            have x0 : nwb (1 + 3 * j) b b2 (1 + 3 * j + 0) = b2 0 := en 0
            have x1 : nwb (1 + 3 * j) b b2 (1 + 3 * j + 1) = b2 1 := en 1
            have x2 : nwb (1 + 3 * j) b b2 (1 + 3 * j + 2) = b2 2 := en 2
            simp only [Nat.add_zero] at x0 ⊢
            rw [x0, x1, x2]
            exact shp_keep hs2 (r3 _ (n2 0 (by omega))) (r3 _ (n2 1 (by omega))) (r3 _ (n2 2 (by omega)))
        · intro z hz hza
          exact (r3 z (ne_of hz (hb.2.1 0 (by omega)).2)).trans ((r2 z (hb.1 z hz)).trans (hk z hz hza))
  refine k_aload_n Xc d_K_init_0 rfl rfl (n := 1) rfl ?_
  refine k_objInit Xc wd_86 d_K_init_1 (n := 4) rfl ⟨by decide, Nat.le_of_ble_eq_true rfl⟩ ?_
  refine k_aload_n Xc d_K_init_4 rfl rfl (n := 5) rfl ?_
  refine k_iconst Xc d_K_init_5 (n := 6) rfl ?_
  refine k_val (show (4 : Int) = ((4 : Nat) : Int) from rfl) ?_
  refine v_newR Xc hNe wd_87 (List.mem_of_getElem? (i := 0) rfl) (k := 2) rfl (by decide) ⟨by decide, by decide⟩ d_K_init_6 (n := 9) rfl (fun q1 f1 h1 g1 r1 => ?_)
  refine v_putF Xc u_K t_K_ok n_K rfl 0 (by decide) wd_90 rfl rfl hnm rfl rfl rfl d_K_init_9 (n := 12) rfl (in_l ha) ((r1 a (ne_of ha h1)).trans hf) (Nat.le_of_ble_eq_true rfl) (fun f2 g2 r2 => ?_)
  refine k_iconst Xc d_K_init_12 (n := 13) rfl ?_
  refine k_istore_n Xc d_K_init_13 rfl (by decide) (n := 14) rfl ?_
  exact k_loc (loop 5 0 (fun _ => q1) _ _ (by omega) (by omega) (nw_1 h1) g2 (by rw [ptn_0]; exact (r2 q1 (Ne.symm (ne_of ha h1))).trans g1) (fun j hj => absurd hj (by omega)) (fun z hz hza => (r2 z hza).trans (r1 z (ne_of hz h1)))) rfl
