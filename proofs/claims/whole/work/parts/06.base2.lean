-- BASE 2: Math.max, min, abs; bounds of products; a shape's cells
section ZM
variable {p : Program} {l : Launch} {e : Env} {R : Room} {s : State} {m : MethodId} {args : Array Value} {below : List Frame} {meth : Method} {c : Code} {D : va_G} {G : Nat → ClassId} {A : Nat → Prop} {nL cells slots : Nat} {Q : State → Prop} {cc : ByteArray} {own : String}
variable {pc n t : Nat} {lv lv' : List (Nat × Value)} {st : List Value} {L : List Nat} {f : Nat → va_E}
theorem k_max (X : zX p s m args meth c D G A cc own nL) {index : Nat} {a b : Int} (hd : decode cc pc = .ok (.invokestatic index, 3)) (hn : pc + 3 = n) (w2 : Cond.methodLink own index Lib.Math.max.name ∈ BG) (w3 : Cond.static Lib.Math.max.name ∈ BG) (w5 : Cond.initialized "java/lang/Math" ∈ BG) (w1 : Cond.code Lib.Math.max.name Lib.Math.max.code 2 (some .int) ∈ BG) (hR : 1 ≤ R.frames ∧ (st.map fun v => v.category).sum + 13 ≤ R.locals) (hc : cells ≤ R.cells ∧ slots ≤ R.slots) (ha : zO a) (hb : zO b)
    (kk : zG p l e R s m args below meth c D A nL cells slots Q n lv (.int (zI (max a b)) :: st) L f) : zG p l e R s m args below meth c D A nL cells slots Q pc lv (.int (zI b) :: .int (zI a) :: st) L f := by
  subst hn
  intro H locs ls hl hP hD hS
  have hts := X.2.2.2.2.1
  refine va_mmax X.1 X.2.1 (X.2.2.1.trans hl.1.symm) X.2.2.2.1 (hts _ w2) (hts _ w3) (hts _ w5) (hts _ w1) hR.1 hR.2 hc.1 hc.2 hd ?_
  have e : (if zI a < zI b then zI b else zI a) = zI (max a b) := by
    by_cases h : a < b
    · rw [if_pos ((zI_lt ha hb).mpr h), show max a b = b by omega]
    · rw [if_neg (fun q => h ((zI_lt ha hb).mp q)), show max a b = a by omega]
  rw [e]
  exact kk H locs ls hl hP hD hS
theorem k_min (X : zX p s m args meth c D G A cc own nL) {index : Nat} {a b : Int} (hd : decode cc pc = .ok (.invokestatic index, 3)) (hn : pc + 3 = n) (w2 : Cond.methodLink own index Lib.Math.min.name ∈ BG) (w3 : Cond.static Lib.Math.min.name ∈ BG) (w5 : Cond.initialized "java/lang/Math" ∈ BG) (w1 : Cond.code Lib.Math.min.name Lib.Math.min.code 2 (some .int) ∈ BG) (hR : 1 ≤ R.frames ∧ (st.map fun v => v.category).sum + 13 ≤ R.locals) (hc : cells ≤ R.cells ∧ slots ≤ R.slots) (ha : zO a) (hb : zO b)
    (kk : zG p l e R s m args below meth c D A nL cells slots Q n lv (.int (zI (min a b)) :: st) L f) : zG p l e R s m args below meth c D A nL cells slots Q pc lv (.int (zI b) :: .int (zI a) :: st) L f := by
  subst hn
  intro H locs ls hl hP hD hS
  have hts := X.2.2.2.2.1
  refine va_mmin X.1 X.2.1 (X.2.2.1.trans hl.1.symm) X.2.2.2.1 (hts _ w2) (hts _ w3) (hts _ w5) (hts _ w1) hR.1 hR.2 hc.1 hc.2 hd ?_
  have e : (if zI b < zI a then zI b else zI a) = zI (min a b) := by
    by_cases h : b < a
    · rw [if_pos ((zI_lt hb ha).mpr h), show min a b = b by omega]
    · rw [if_neg (fun q => h ((zI_lt hb ha).mp q)), show min a b = a by omega]
  rw [e]
  exact kk H locs ls hl hP hD hS
theorem k_abs (X : zX p s m args meth c D G A cc own nL) {index : Nat} {a : Int} (hd : decode cc pc = .ok (.invokestatic index, 3)) (hn : pc + 3 = n) (w2 : Cond.methodLink own index Lib.Math.abs.name ∈ BG) (w3 : Cond.static Lib.Math.abs.name ∈ BG) (w5 : Cond.initialized "java/lang/Math" ∈ BG) (w1 : Cond.code Lib.Math.abs.name Lib.Math.abs.code 1 (some .int) ∈ BG) (hR : 1 ≤ R.frames ∧ (st.map fun v => v.category).sum + 13 ≤ R.locals) (hc : cells ≤ R.cells ∧ slots ≤ R.slots) (ha : zO a)
    (kk : zG p l e R s m args below meth c D A nL cells slots Q n lv (.int (zI (if 0 ≤ a then a else -a)) :: st) L f) : zG p l e R s m args below meth c D A nL cells slots Q pc lv (.int (zI a) :: st) L f := by
  subst hn
  intro H locs ls hl hP hD hS
  have hts := X.2.2.2.2.1
  refine va_mabs X.1 X.2.1 (X.2.2.1.trans hl.1.symm) X.2.2.2.1 (hts _ w2) (hts _ w3) (hts _ w5) (hts _ w1) hR.1 hR.2 hc.1 hc.2 hd ?_
  have e : (if 0 ≤ zI a then zI a else 0 - zI a) = zI (if 0 ≤ a then a else -a) := by
    have i0 : (0 : Int32) ≤ zI a ↔ 0 ≤ a := zI_le zO_0 ha
    by_cases h : 0 ≤ a
    · rw [if_pos (i0.mpr h), if_pos h]
    · rw [if_neg (fun q => h (i0.mp q)), if_neg h, ← zI_0, zI_sub, show (0 : Int) - a = -a by omega]
  rw [e]
  exact kk H locs ls hl hP hD hS
theorem k_ishr (X : zX p s m args meth c D G A cc own nL) {x y : Int32} (hd : decode cc pc = .ok (.ishr, 1)) (hn : pc + 1 = n) (k : zG p l e R s m args below meth c D A nL cells slots Q n lv (.int (x >>> (y &&& 31)) :: st) L f) : zG p l e R s m args below meth c D A nL cells slots Q pc lv (.int y :: .int x :: st) L f := by
  subst hn; exact fun H locs ls hl hP hD hS => lv_ishr X.1 X.2.1 hd (k H locs ls hl hP hD hS)
theorem k_iand (X : zX p s m args meth c D G A cc own nL) {x y : Int32} (hd : decode cc pc = .ok (.iand, 1)) (hn : pc + 1 = n) (k : zG p l e R s m args below meth c D A nL cells slots Q n lv (.int (x &&& y) :: st) L f) : zG p l e R s m args below meth c D A nL cells slots Q pc lv (.int y :: .int x :: st) L f := by
  subst hn; exact fun H locs ls hl hP hD hS => lv_iand X.1 X.2.1 hd (k H locs ls hl hP hD hS)
theorem k_ior (X : zX p s m args meth c D G A cc own nL) {x y : Int32} (hd : decode cc pc = .ok (.ior, 1)) (hn : pc + 1 = n) (k : zG p l e R s m args below meth c D A nL cells slots Q n lv (.int (x ||| y) :: st) L f) : zG p l e R s m args below meth c D A nL cells slots Q pc lv (.int y :: .int x :: st) L f := by
  subst hn; exact fun H locs ls hl hP hD hS => lv_ior X.1 X.2.1 hd (k H locs ls hl hP hD hS)
theorem k_iushr (X : zX p s m args meth c D G A cc own nL) {x y : Int32} (hd : decode cc pc = .ok (.iushr, 1)) (hn : pc + 1 = n) (k : zG p l e R s m args below meth c D A nL cells slots Q n lv (.int (x.toUInt32 >>> (y.toUInt32 &&& Int32.toUInt32 31)).toInt32 :: st) L f) : zG p l e R s m args below meth c D A nL cells slots Q pc lv (.int y :: .int x :: st) L f := by
  subst hn; exact fun H locs ls hl hP hD hS => lv_iushr X.1 X.2.1 hd rfl (k H locs ls hl hP hD hS)
theorem k_ldc (X : zX p s m args meth c D G A cc own nL) {index : Nat} {v : Int32} (hw : Cond.constant own index v ∈ BG) {z : Int} (hz : v = zI z) (hd : decode cc pc = .ok (.ldc index, 2)) (hn : pc + 2 = n) (k : zG p l e R s m args below meth c D A nL cells slots Q n lv (.int (zI z) :: st) L f) : zG p l e R s m args below meth c D A nL cells slots Q pc lv st L f := by
  subst hn; subst hz
  exact fun H locs ls hl hP hD hS => lv_ldc X.1 X.2.1 X.2.2.2.1 (X.2.2.2.2.1 _ hw) hd (k H locs ls hl hP hD hS)
/-- a number of the machine in other words -/
theorem k_va32 {x y : Int32} (h : x = y) (k : zG p l e R s m args below meth c D A nL cells slots Q pc lv (.int y :: st) L f) : zG p l e R s m args below meth c D A nL cells slots Q pc lv (.int x :: st) L f := by rw [h]; exact k
/-- remainder and quotient of numbers that aren't below 0 -/
theorem zI_div {a b : Int} (ha0 : 0 ≤ a) (ha : a ≤ 2147483647) (hb0 : 0 < b) (hb : b ≤ 2147483647) : zI a / zI b = zI (a / b) := by
  obtain ⟨k, rfl⟩ : ∃ k : Nat, a = k := ⟨a.toNat, by omega⟩
  obtain ⟨j, rfl⟩ : ∃ j : Nat, b = j := ⟨b.toNat, by omega⟩
  rw [zI_nat, zI_nat, pk_div (by omega) (by omega) (by omega), ← Int.natCast_ediv, zI_nat]
theorem k_idiv (X : zX p s m args meth c D G A cc own nL) {a b : Int} (hd : decode cc pc = .ok (.idiv, 1)) (hn : pc + 1 = n) (ha0 : 0 ≤ a) (ha : a ≤ 2147483647) (hb0 : 0 < b) (hb : b ≤ 2147483647) (k : zG p l e R s m args below meth c D A nL cells slots Q n lv (.int (zI (a / b)) :: st) L f) : zG p l e R s m args below meth c D A nL cells slots Q pc lv (.int (zI b) :: .int (zI a) :: st) L f := by
  subst hn
  have hne : ¬ zI b = 0 := fun q => by
    rw [← zI_0] at q
    have := (zI_eq (by omega) zO_0).mp q
    omega
  exact fun H locs ls hl hP hD hS => lv_idiv X.1 X.2.1 hd hne (by rw [zI_div ha0 ha hb0 hb]; exact k H locs ls hl hP hD hS)
theorem k_irem (X : zX p s m args meth c D G A cc own nL) {a b : Int} (hd : decode cc pc = .ok (.irem, 1)) (hn : pc + 1 = n) (ha0 : 0 ≤ a) (ha : a ≤ 2147483647) (hb0 : 0 < b) (hb : b ≤ 2147483647) (k : zG p l e R s m args below meth c D A nL cells slots Q n lv (.int (zI (a % b)) :: st) L f) : zG p l e R s m args below meth c D A nL cells slots Q pc lv (.int (zI b) :: .int (zI a) :: st) L f := by
  subst hn
  have hne : ¬ zI b = 0 := fun q => by
    rw [← zI_0] at q
    have := (zI_eq (by omega) zO_0).mp q
    omega
  refine fun H locs ls hl hP hD hS => lv_irem X.1 X.2.1 hd hne ?_
  rw [zI_div ha0 ha hb0 hb, zI_mul, zI_sub, show a - a / b * b = a % b by rw [Int.emod_def, Int.mul_comm]]
  exact k H locs ls hl hP hD hS
end ZM
theorem mul_bd {a b A B : Int} (h1 : -A ≤ a) (h2 : a ≤ A) (h3 : -B ≤ b) (h4 : b ≤ B) : -(A * B) ≤ a * b ∧ a * b ≤ A * B := by
  have x1 := Int.mul_nonneg (a := A - a) (b := B - b) (by omega) (by omega)
  have x2 := Int.mul_nonneg (a := A + a) (b := B + b) (by omega) (by omega)
  have x3 := Int.mul_nonneg (a := A - a) (b := B + b) (by omega) (by omega)
  have x4 := Int.mul_nonneg (a := A + a) (b := B - b) (by omega) (by omega)
  have y1 : (A - a) * (B - b) = A * B - A * b - a * B + a * b := by grind
  have y2 : (A + a) * (B + b) = A * B + A * b + a * B + a * b := by grind
  have y3 : (A - a) * (B + b) = A * B + A * b - a * B - a * b := by grind
  have y4 : (A + a) * (B - b) = A * B - A * b + a * B - a * b := by grind
  omega
-- a shape: its object at a, its rows at ax and ay; n corners; its box
def sP (X Y : Int → Int) : Nat → Int × Int := fun k => (X (k : Int), Y (k : Int))
def zS (G : Nat → ClassId) (L : List Nat) (f : Nat → va_E) (a ax ay n : Nat) (X Y : Int → Int) (lx hx ly hy : Int) : Prop :=
  a ∈ L ∧ ax ∈ L ∧ ay ∈ L ∧ f a = .inr (2, [.ref ax, .ref ay, .int (zI (n : Int)), .int (zI lx), .int (zI hx), .int (zI ly), .int (zI hy)]) ∧ f ax = zr G 12 X ∧ f ay = zr G 12 Y
/-- corners of moderate size -/
def sB (n : Nat) (X Y : Int → Int) : Prop := n ≤ 12 ∧ ∀ j : Nat, j < n → -100 ≤ X (j : Int) ∧ X (j : Int) ≤ 100 ∧ -100 ≤ Y (j : Int) ∧ Y (j : Int) ≤ 100
theorem bs_bd {n : Nat} {X Y : Int → Int} (h : sB n X Y) {i : Nat} (hi : i < n) {px py : Int} (h1 : -200 ≤ px) (h2 : px ≤ 200) (h3 : -200 ≤ py) (h4 : py ≤ 200) : -120000 ≤ ge_bs (sP X Y) n i (px, py) ∧ ge_bs (sP X Y) n i (px, py) ≤ 120000 := by
  have a := h.2 i hi
  have b := h.2 (ge_nx n i) (by unfold ge_nx; split <;> omega)
  have u := mul_bd (a := X (ge_nx n i : Nat) - X i) (b := py - Y i) (A := 200) (B := 300) (by omega) (by omega) (by omega) (by omega)
  have v := mul_bd (a := Y (ge_nx n i : Nat) - Y i) (b := px - X i) (A := 200) (B := 300) (by omega) (by omega) (by omega) (by omega)
  unfold ge_bs sP
  dsimp only
  omega
-- the sign
def sg (z : Int) : Int := if z < 0 then -1 else if z = 0 then 0 else 1
theorem sg_bd (u v : Int) : -1 ≤ sg u * sg v ∧ sg u * sg v ≤ 1 := by
  unfold sg
  repeat' split
  all_goals omega
theorem sg_mul (u v : Int) : sg u * sg v ≤ 0 ↔ u * v ≤ 0 := by
  have a1 : u < 0 → v < 0 → 0 < u * v := Int.mul_pos_of_neg_of_neg
  have a2 : 0 < u → 0 < v → 0 < u * v := Int.mul_pos
  have a3 : u < 0 → 0 < v → u * v < 0 := Int.mul_neg_of_neg_of_pos
  have a4 : 0 < u → v < 0 → u * v < 0 := Int.mul_neg_of_pos_of_neg
  have a5 : u = 0 → u * v = 0 := fun h => by rw [h, Int.zero_mul]
  have a6 : v = 0 → u * v = 0 := fun h => by rw [h, Int.mul_zero]
  generalize u * v = w at *
  unfold sg
  repeat' split
  all_goals omega
theorem sg_lem {z : Int} (h1 : -1000000 ≤ z) (h2 : z ≤ 1000000) : (zI z >>> (zI 31 &&& 31)) ||| ((zI (-z)).toUInt32 >>> ((zI 31).toUInt32 &&& Int32.toUInt32 31)).toInt32 = zI (sg z) := by
  have e1 : zI z >>> (zI 31 &&& 31) = zI (if z < 0 then -1 else 0) := by
    rw [← Int32.toInt_inj, pk_shr _ _ 31 (by decide), zI_toInt (by omega), zI_toInt (by split <;> omega), Int.shiftRight_eq_div_pow]
    split <;> omega
  have e2 : ((zI (-z)).toUInt32 >>> ((zI 31).toUInt32 &&& Int32.toUInt32 31)).toInt32 = zI (if 0 < z then 1 else 0) := by
    rw [← Int32.toBitVec_inj]
    apply BitVec.eq_of_toNat_eq
    rw [pk_ushr _ _ 31 (by decide)]
    have t : (zI (-z)).toBitVec.toInt = -z := zI_toInt (by omega)
    rw [BitVec.toInt_eq_toNat_cond] at t
    have b := (zI (-z)).toBitVec.isLt
    by_cases hz : 0 < z
    · rw [if_pos hz, show (zI 1).toBitVec.toNat = 1 by decide]
      split at t <;> omega
    · rw [if_neg hz, show (zI 0).toBitVec.toNat = 0 by decide]
      split at t <;> omega
  rw [e1, e2]
  unfold sg
  by_cases c1 : z < 0
  · rw [if_pos c1, if_pos c1, if_neg (by omega)]; decide
  · by_cases c2 : z = 0
    · rw [if_neg c1, if_neg c1, if_pos c2, if_neg (by omega)]; decide
    · rw [if_neg c1, if_neg c1, if_neg c2, if_pos (by omega)]; decide
theorem d_JInteger_signum_0 : decode c_JInteger_signum 0 = .ok (.iload_n 0, 1) := by decide +kernel
theorem d_JInteger_signum_1 : decode c_JInteger_signum 1 = .ok (.bipush 31, 2) := by decide +kernel
theorem d_JInteger_signum_3 : decode c_JInteger_signum 3 = .ok (.ishr, 1) := by decide +kernel
theorem d_JInteger_signum_4 : decode c_JInteger_signum 4 = .ok (.iload_n 0, 1) := by decide +kernel
theorem d_JInteger_signum_5 : decode c_JInteger_signum 5 = .ok (.ineg, 1) := by decide +kernel
theorem d_JInteger_signum_6 : decode c_JInteger_signum 6 = .ok (.bipush 31, 2) := by decide +kernel
theorem d_JInteger_signum_8 : decode c_JInteger_signum 8 = .ok (.iushr, 1) := by decide +kernel
theorem d_JInteger_signum_9 : decode c_JInteger_signum 9 = .ok (.ior, 1) := by decide +kernel
theorem d_JInteger_signum_10 : decode c_JInteger_signum 10 = .ok (.ireturn, 1) := by decide +kernel
/-- the sign of a number -/
theorem m_signum (l : Launch) (D : va_G) (G : Nat → ClassId) {L : List Nat} {f : Nat → va_E} (z : Int) (h1 : -1000000 ≤ z) (h2 : z ≤ 1000000) : zM l D G y_JInteger_signum (.code y_JInteger_signum c_JInteger_signum 1 (some .int) :: BG) (zR0 0 0) [.int (zI z)] L f (zA L f (fun r => r = sg z)) := by
  refine zM.of (by decide) (Nat.le_of_ble_eq_true rfl) rfl (fun p e s m args below meth c A Xc hr hnm => ?_)
  refine k_iload_n Xc d_JInteger_signum_0 rfl rfl (n := 1) rfl ?_
  refine k_bipush Xc d_JInteger_signum_1 rfl (n := 3) rfl ?_
  refine k_ishr Xc d_JInteger_signum_3 (n := 4) rfl ?_
  refine k_iload_n Xc d_JInteger_signum_4 rfl rfl (n := 5) rfl ?_
  refine k_ineg Xc d_JInteger_signum_5 (n := 6) rfl ?_
  refine k_bipush Xc d_JInteger_signum_6 rfl (n := 8) rfl ?_
  refine k_iushr Xc d_JInteger_signum_8 (n := 9) rfl ?_
  refine k_ior Xc d_JInteger_signum_9 (n := 10) rfl ?_
  refine k_va32 (sg_lem h1 h2) ?_
  exact k_iret Xc d_JInteger_signum_10 hr rfl (Nat.le_refl _) (Nat.le_refl _) ⟨_, rfl, rfl, rfl, rfl⟩
theorem zB_t {P : Prop} {o : Int} (h : zB P o) (ho : ¬ o = 0) : P := by
  rcases h with h | h
  · exact h.1
  · exact absurd h.2 ho
theorem zB_f {P : Prop} {o : Int} (h : zB P o) (ho : o = 0) : ¬ P := by
  rcases h with h | h
  · have := h.2; omega
  · exact h.1
theorem zB_01 {P : Prop} {o : Int} (h : zB P o) : o = 0 ∨ o = 1 := by
  rcases h with h | h
  · exact Or.inr h.2
  · exact Or.inl h.2
theorem zB_yes {P : Nat → Prop} {k : Nat} {o : Int} (h : zB (∃ j, j < k ∧ P j) o) (hh : ¬ o = 0 ∨ P k) : zB (∃ j, j < k + 1 ∧ P j) 1 := by
  refine Or.inl ⟨?_, rfl⟩
  rcases hh with hh | hh
  · obtain ⟨j, a, b⟩ := zB_t h hh
    exact ⟨j, by omega, b⟩
  · exact ⟨k, by omega, hh⟩
theorem zB_no {P : Nat → Prop} {k : Nat} {o : Int} (h : zB (∃ j, j < k ∧ P j) o) (ho : o = 0) (hp : ¬ P k) : zB (∃ j, j < k + 1 ∧ P j) 0 := by
  refine Or.inr ⟨fun ⟨j, a, b⟩ => ?_, rfl⟩
  rcases Nat.lt_or_ge j k with q | q
  · exact zB_f h ho ⟨j, q, b⟩
  · have e : j = k := by omega
    subst e
    exact hp b
theorem odd_flip {n : Nat} {V : Nat → Int × Int} {m : Int × Int} {i : Nat} {o o2 : Int} (h : zB (ge_odd n V m i) o) (hh : ge_hit m (V i) (V (ge_nx n i))) (e : o2 = 1 - o) : zB (ge_odd n V m (i + 1)) o2 := by
  unfold zB at *
  simp only [ge_odd]
  rcases h with ⟨h, q⟩ | ⟨h, q⟩
  · exact Or.inr ⟨fun z => z ⟨fun _ => hh, fun _ => h⟩, by omega⟩
  · exact Or.inl ⟨fun z => h (z.mpr hh), by omega⟩
theorem odd_keep {n : Nat} {V : Nat → Int × Int} {m : Int × Int} {i : Nat} {o : Int} (h : zB (ge_odd n V m i) o) (hh : ¬ ge_hit m (V i) (V (ge_nx n i))) : zB (ge_odd n V m (i + 1)) o := by
  unfold zB at *
  simp only [ge_odd]
  rcases h with ⟨h, q⟩ | ⟨h, q⟩
  · exact Or.inl ⟨fun z => hh (z.mp h), q⟩
  · exact Or.inr ⟨fun z => z ⟨fun w => absurd w h, fun w => absurd w hh⟩, q⟩
theorem hit3 {X Y : Int → Int} {i j : Nat} {tx ty w : Int} (h : w = (X (j : Int) - X (i : Int)) * (ty - 3 * Y (i : Int)) - (Y (j : Int) - Y (i : Int)) * (tx - 3 * X (i : Int))) :
    ge_hit (tx, ty) (ge_3 (sP X Y) i) (ge_3 (sP X Y) j) ↔ (3 * Y (i : Int) ≤ ty ∧ ty < 3 * Y (j : Int) ∧ 0 < w) ∨ (3 * Y (j : Int) ≤ ty ∧ ty < 3 * Y (i : Int) ∧ w < 0) := by
  unfold ge_hit ge_3 sP ge_cr
  dsimp only
  have e : (3 * X (j : Int) - 3 * X (i : Int)) * (ty - 3 * Y (i : Int)) - (3 * Y (j : Int) - 3 * Y (i : Int)) * (tx - 3 * X (i : Int)) = 3 * w := by rw [h]; grind
  rw [e]
  constructor
  · rintro (⟨a, b, c⟩ | ⟨a, b, c⟩)
    · exact Or.inl ⟨a, b, by omega⟩
    · exact Or.inr ⟨a, b, by omega⟩
  · rintro (⟨a, b, c⟩ | ⟨a, b, c⟩)
    · exact Or.inl ⟨a, b, by omega⟩
    · exact Or.inr ⟨a, b, by omega⟩
/-- the class: side i, as it lies to the piece moved by dx, dy, has points inside the piece -/
def sCut (n : Nat) (X Y : Int → Int) (k2 : Nat) (U V : Int → Int) (lu hu lv hv dx dy : Int) (i : Nat) : Prop :=
  ¬ (max (X (i : Int) - dx) (X ((ge_nx n i : Nat) : Int) - dx) ≤ lu ∨ hu ≤ min (X (i : Int) - dx) (X ((ge_nx n i : Nat) : Int) - dx) ∨ max (Y (i : Int) - dy) (Y ((ge_nx n i : Nat) : Int) - dy) ≤ lv ∨ hv ≤ min (Y (i : Int) - dy) (Y ((ge_nx n i : Nat) : Int) - dy)) ∧
  ((∃ k : Nat, k < k2 ∧ 0 < ge_bs (sP X Y) n i (U (k : Int) + dx, V (k : Int) + dy)) ∧ ∃ k : Nat, k < k2 ∧ ge_bs (sP X Y) n i (U (k : Int) + dx, V (k : Int) + dy) < 0) ∧
  ¬ ∃ k : Nat, k < k2 ∧ ge_bs (sP U V) k2 k (X (i : Int) - dx, Y (i : Int) - dy) ≤ 0 ∧ ge_bs (sP U V) k2 k (X ((ge_nx n i : Nat) : Int) - dx, Y ((ge_nx n i : Nat) : Int) - dy) ≤ 0
theorem nar_b {o : Int} (h : o = 0 ∨ o = 1) : narrow .boolean (.int (zI o)) = .int (zI o) := by
  rcases h with rfl | rfl <;> rfl
