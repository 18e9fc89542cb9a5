-- ROOM: the methods that throw
abbrev zRx (fr lo : Nat) : Room := { frames := fr, cells := 1, slots := 6, locals := lo }
/-- the corners that wait are as they should be -/
def rW (T : Nat → TT) : Prop := (T 0).1 ≤ 12 ∧ (∀ j : Nat, j < (T 0).1 → 0 ≤ (T 0).2.1 (j : Int) ∧ (T 0).2.1 (j : Int) ≤ 30 ∧ 0 ≤ (T 0).2.2.1 (j : Int) ∧ (T 0).2.2.1 (j : Int) ≤ 30) ∧ sBx (T 0).1 (T 0).2.1 (T 0).2.2.1 (T 0).2.2.2.1 (T 0).2.2.2.2.1 (T 0).2.2.2.2.2.1 (T 0).2.2.2.2.2.2
def rAll (T : Nat → TT) (V : Nat → Int) (z9 k9 : Nat) : Prop := rW T ∧ rOk T V z9 k9 ∧ V 1 = (k9 : Int) ∧ (0 ≤ V 2 ∧ V 2 ≤ 12) ∧ (V 2 < 12 → ∃ p0 : Nat, p0 < 12 ∧ V (40 + p0) = 0)
theorem bx_bd {n : Nat} {X Y : Int → Int} {lx hx ly hy B : Int} (h : sBx n X Y lx hx ly hy) (h0 : 0 < n) (hb : ∀ j : Nat, j < n → 0 ≤ X (j : Int) ∧ X (j : Int) ≤ B ∧ 0 ≤ Y (j : Int) ∧ Y (j : Int) ≤ B) : 0 ≤ lx ∧ lx ≤ B ∧ 0 ≤ hx ∧ hx ≤ B ∧ 0 ≤ ly ∧ ly ≤ B ∧ 0 ≤ hy ∧ hy ≤ B := by
  obtain ⟨-, ⟨j1, a1, b1⟩, ⟨j2, a2, b2⟩, ⟨j3, a3, b3⟩, ⟨j4, a4, b4⟩⟩ := h h0
  have c1 := hb j1 a1
  have c2 := hb j2 a2
  have c3 := hb j3 a3
  have c4 := hb j4 a4
  omega
theorem rW_sB {T : Nat → TT} (h : rW T) : sB (T 0).1 (T 0).2.1 (T 0).2.2.1 := ⟨h.1, fun j hj => by have := h.2.1 j hj; omega⟩
def cEnd (T T0 : Nat → TT) : Prop := (∀ t, t ≠ 0 → t ≠ 1 → T0 t = T t) ∧ (T0 0).1 = 0 ∧ (T0 1).1 = (T 0).1 ∧ sIs (T 0).1 (T0 1).2.1 (T0 1).2.2.1 (fun j => (T 0).2.1 (j : Int)) (fun j => (T 0).2.2.1 (j : Int)) ∧ sBx (T 0).1 (T0 1).2.1 (T0 1).2.2.1 (T0 1).2.2.2.1 (T0 1).2.2.2.2.1 (T0 1).2.2.2.2.2.1 (T0 1).2.2.2.2.2.2
theorem cEnd_in {T T0 : Nat → TT} (h : rW T) (e : cEnd T T0) : (T0 1).1 ≤ 12 ∧ ∀ j : Nat, j < (T0 1).1 → 0 ≤ (T0 1).2.1 (j : Int) ∧ (T0 1).2.1 (j : Int) ≤ 30 ∧ 0 ≤ (T0 1).2.2.1 (j : Int) ∧ (T0 1).2.2.1 (j : Int) ≤ 30 := by
  obtain ⟨-, -, e1, e2, -⟩ := e
  refine ⟨by rw [e1]; exact h.1, fun j hj => ?_⟩
  rw [e1] at hj
  rw [(e2 j hj).1, (e2 j hj).2]
  exact h.2.1 j hj
theorem cEnd_sB {T T0 : Nat → TT} (h : rW T) (e : cEnd T T0) : sB (T0 1).1 (T0 1).2.1 (T0 1).2.2.1 := ⟨(cEnd_in h e).1, fun j hj => by have := (cEnd_in h e).2 j hj; omega⟩
theorem cEnd_bx {T T0 : Nat → TT} (e : cEnd T T0) : sBx (T0 1).1 (T0 1).2.1 (T0 1).2.2.1 (T0 1).2.2.2.1 (T0 1).2.2.2.2.1 (T0 1).2.2.2.2.2.1 (T0 1).2.2.2.2.2.2 := by rw [e.2.2.1]; exact e.2.2.2.2
theorem cEnd_bd {T T0 : Nat → TT} (h : rW T) (e : cEnd T T0) (h0 : 0 < (T0 1).1) : 0 ≤ (T0 1).2.2.2.1 ∧ (T0 1).2.2.2.1 ≤ 30 ∧ 0 ≤ (T0 1).2.2.2.2.1 ∧ (T0 1).2.2.2.2.1 ≤ 30 ∧ 0 ≤ (T0 1).2.2.2.2.2.1 ∧ (T0 1).2.2.2.2.2.1 ≤ 30 ∧ 0 ≤ (T0 1).2.2.2.2.2.2 ∧ (T0 1).2.2.2.2.2.2 ≤ 30 := bx_bd (cEnd_bx e) h0 (cEnd_in h e).2
theorem cEnd_rT {T T0 : Nat → TT} (h : rW T) (e : cEnd T T0) (h3 : 3 ≤ (T0 1).1) (hx : (T0 1).2.2.2.2.1 ≤ 12) (hy : (T0 1).2.2.2.2.2.2 ≤ 12) : rT (T0 1) := by
  have a := cEnd_in h e
  have b := cEnd_bx e
  obtain ⟨c, -⟩ := b (by omega)
  refine ⟨h3, a.1, fun j hj => ?_, b⟩
  have x := a.2 j hj
  have y := c j hj
  omega
abbrev cT : Type := Nat → Int → (Nat → TT) → (Nat → Int) → Prop
def xQ (G : Nat → ClassId) (L : List Nat) (f : Nat → va_E) (ad : Nat → Nat) (C : cT) : Option Value → List Nat → (Nat → va_E) → Prop := fun v L1 f1 => L = L1 ∧ rFr f f1 ad ∧ ∃ (r : Int) (T1 : Nat → TT) (V1 : Nat → Int), v = some (.int (zI r)) ∧ C 0 r T1 V1 ∧ zRm G L f1 ad T1 V1
def xV (G : Nat → ClassId) (L : List Nat) (f : Nat → va_E) (ad : Nat → Nat) (C : cT) : Option Value → List Nat → (Nat → va_E) → Prop := fun v L1 f1 => L = L1 ∧ rFr f f1 ad ∧ ∃ (T1 : Nat → TT) (V1 : Nat → Int), v = none ∧ C 0 0 T1 V1 ∧ zRm G L f1 ad T1 V1
def xX (ex : List String) (G : Nat → ClassId) (L : List Nat) (f : Nat → va_E) (ad : Nat → Nat) (C : cT) : String → List Nat → (Nat → va_E) → Prop := fun E L1 f1 => L = L1 ∧ rFr f f1 ad ∧ ∃ (k : Nat) (T1 : Nat → TT) (V1 : Nat → Int), 0 < k ∧ ex[k]? = some E ∧ C k 0 T1 V1 ∧ zRm G L f1 ad T1 V1
def cCor (T : Nat → TT) (V : Nat → Int) (a b : Int) : cT := fun k r T1 V1 => V1 = V ∧ ((¬ (0 ≤ a ∧ a ≤ 30 ∧ 0 ≤ b ∧ b ≤ 30) ∧ k = 1 ∧ T1 = T) ∨ ((0 ≤ a ∧ a ≤ 30 ∧ 0 ≤ b ∧ b ≤ 30) ∧ 12 ≤ (T 0).1 ∧ k = 2 ∧ T1 = T) ∨ ((0 ≤ a ∧ a ≤ 30 ∧ 0 ≤ b ∧ b ≤ 30) ∧ (T 0).1 < 12 ∧ k = 0 ∧ r = ((T 0).1 : Int) + 1 ∧ (∀ t, t ≠ 0 → T1 t = T t) ∧
  T1 0 = ((T 0).1 + 1, iu (T 0).2.1 ((T 0).1 : Int) a, iu (T 0).2.2.1 ((T 0).1 : Int) b, bxl (T 0).1 (T 0).2.2.2.1 a, bxh (T 0).1 (T 0).2.2.2.2.1 a, bxl (T 0).1 (T 0).2.2.2.2.2.1 b, bxh (T 0).1 (T 0).2.2.2.2.2.2 b)))
def cPl (T : Nat → TT) : Prop := 3 ≤ (T 1).1 ∧ ge_plC (T 1).1 (sP (T 1).2.1 (T 1).2.2.1)
def cRd (T : Nat → TT) : Prop := 3 ≤ (T 1).1 ∧ (T 1).1 ≤ 6 ∧ ge_rd (T 1).1 (sP (T 1).2.1 (T 1).2.2.1)
def cHid (T : Nat → TT) (V : Nat → Int) : cT := fun k _ T1 V1 => V1 = V ∧ ((0 < V 2 ∧ k = 1 ∧ T1 = T) ∨ (¬ 0 < V 2 ∧ ∃ T0, cEnd T T0 ∧ ((¬ cPl T0 ∧ k = 2 ∧ T1 = T0) ∨ (cPl T0 ∧ k = 0 ∧ (∀ t, t ≠ 2 → T1 t = T0 t) ∧ zCp (T0 1) (T1 2) 0 0))))
def cZon (T : Nat → TT) (V : Nat → Int) (g : Int) : cT := fun k r T1 V1 => (¬ (1 ≤ g ∧ g ≤ 3) ∧ k = 1 ∧ T1 = T ∧ V1 = V) ∨ ((1 ≤ g ∧ g ≤ 3) ∧ ∃ T0, cEnd T T0 ∧ ((¬ cRd T0 ∧ k = 1 ∧ T1 = T0 ∧ V1 = V) ∨ (cRd T0 ∧ (5 ≤ V 0 ∨ 0 < V 2) ∧ k = 2 ∧ T1 = T0 ∧ V1 = V) ∨
  (cRd T0 ∧ ¬ (5 ≤ V 0 ∨ 0 < V 2) ∧ k = 0 ∧ r = V 0 + 1 ∧ ∃ z : Nat, V 0 = (z : Int) ∧ V1 0 = V 0 + 1 ∧ V1 (10 + z) = g ∧ (∀ c, c ≠ 0 → c ≠ 10 + z → V1 c = V c) ∧ (∀ t, t ≠ 3 + z → T1 t = T0 t) ∧ zLw (T0 1) (T1 (3 + z)) 0 0)))
def cClr (T : Nat → TT) (V : Nat → Int) : cT := fun k _ T1 V1 => T1 = T ∧ ((0 < V 2 ∧ k = 1 ∧ V1 = V) ∨ (¬ 0 < V 2 ∧ k = 0 ∧ V1 0 = 0 ∧ ∀ c, c ≠ 0 → V1 c = V c))
def cKok (T : Nat → TT) : Prop := cRd T ∧ (T 1).2.2.2.2.1 ≤ 12 ∧ (T 1).2.2.2.2.2.2 ≤ 12
def cKin (T : Nat → TT) (V : Nat → Int) (g tt : Int) : cT := fun k r T1 V1 => (¬ ((1 ≤ g ∧ g ≤ 4) ∧ 1 ≤ tt ∧ tt ≤ 15) ∧ k = 1 ∧ T1 = T ∧ V1 = V) ∨ (((1 ≤ g ∧ g ≤ 4) ∧ 1 ≤ tt ∧ tt ≤ 15) ∧ ∃ T0, cEnd T T0 ∧ ((¬ cKok T0 ∧ k = 1 ∧ T1 = T0 ∧ V1 = V) ∨ (cKok T0 ∧ 6 ≤ V 1 ∧ k = 2 ∧ T1 = T0 ∧ V1 = V) ∨
  (cKok T0 ∧ ¬ 6 ≤ V 1 ∧ k = 0 ∧ r = V 1 ∧ ∃ q : Nat, V 1 = (q : Int) ∧ V1 1 = V 1 + 1 ∧ V1 (20 + q) = g ∧ V1 (30 + q) = tt ∧ (∀ c, c ≠ 1 → c ≠ 20 + q → c ≠ 30 + q → V1 c = V c) ∧ (∀ t, t < 8 + 4 * q ∨ 8 + 4 * q + 4 ≤ t → T1 t = T0 t) ∧ zLw (T0 1) (T1 (8 + 4 * q)) (-(T0 1).2.2.2.1) (-(T0 1).2.2.2.2.2.1) ∧ (∀ t, t < 3 → zTu (T1 (8 + 4 * q + t)) (T1 (8 + 4 * q + (t + 1)))))))
def cPlc (k9 : Nat) (kd x y t : Int) : Prop := (0 ≤ kd ∧ kd < (k9 : Int)) ∧ (0 ≤ x ∧ x ≤ 30 ∧ 0 ≤ y ∧ y ≤ 30) ∧ 0 ≤ t ∧ t ≤ 3
def cFit (T : Nat → TT) (V : Nat → Int) (z9 k9 : Nat) (kd x y t : Int) : cT := fun k r T1 V1 => T1 = T ∧ V1 = V ∧ ((¬ cPlc k9 kd x y t ∧ k = 1) ∨ (cPlc k9 kd x y t ∧ k = 0 ∧ zB (cLie T V z9 kd.toNat t.toNat x y) r))
def cBes (T : Nat → TT) (V : Nat → Int) (z9 k9 : Nat) (kd : Int) : cT := fun k r T1 V1 => T1 = T ∧ V1 = V ∧ ((¬ (0 ≤ kd ∧ kd < (k9 : Int)) ∧ k = 1) ∨ ((0 ≤ kd ∧ kd < (k9 : Int)) ∧ ∃ q : Int, ge_first (cF T V z9 kd.toNat) q ∧ ((q < 0 ∧ k = 2) ∨ (0 ≤ q ∧ k = 0 ∧ r = q))))
def cAdd (T : Nat → TT) (V : Nat → Int) (kd t : Nat) (x y : Int) (p : Nat) (T1 : Nat → TT) (V1 : Nat → Int) : Prop := p < 12 ∧ V (40 + p) = 0 ∧ (∀ q : Nat, q < p → V (40 + q) ≠ 0) ∧ (∀ s, s ≠ 32 + p → T1 s = T s) ∧ zCp (T (8 + 4 * kd + t)) (T1 (32 + p)) x y ∧ V1 (40 + p) = 1 ∧ V1 (60 + p) = (kd : Int) ∧ V1 (80 + p) = x ∧ V1 (100 + p) = y ∧ V1 (120 + p) = (t : Int) ∧ V1 2 = V 2 + 1 ∧ (∀ q, q ≠ 40 + p → q ≠ 60 + p → q ≠ 80 + p → q ≠ 100 + p → q ≠ 120 + p → q ≠ 2 → V1 q = V q)
def cLay (T : Nat → TT) (V : Nat → Int) (z9 k9 : Nat) (kd : Int) : cT := fun k r T1 V1 => (¬ (0 ≤ kd ∧ kd < (k9 : Int)) ∧ k = 1 ∧ T1 = T ∧ V1 = V) ∨ ((0 ≤ kd ∧ kd < (k9 : Int)) ∧ 12 ≤ V 2 ∧ k = 2 ∧ T1 = T ∧ V1 = V) ∨ ((0 ≤ kd ∧ kd < (k9 : Int)) ∧ ¬ 12 ≤ V 2 ∧ ∃ q : Int, ge_first (cF T V z9 kd.toNat) q ∧ ((q < 0 ∧ k = 3 ∧ T1 = T ∧ V1 = V) ∨
  (∃ x y t : Nat, q = (x : Int) + 32 * (y : Int) + 1024 * (t : Int) ∧ x ≤ 30 ∧ y ≤ 30 ∧ t ≤ 3 ∧ k = 0 ∧ ∃ p : Nat, r = (p : Int) ∧ cAdd T V kd.toNat t (x : Int) (y : Int) p T1 V1)))
def cPut (T : Nat → TT) (V : Nat → Int) (z9 k9 : Nat) (kd x y t : Int) : cT := fun k r T1 V1 => (¬ cPlc k9 kd x y t ∧ k = 1 ∧ T1 = T ∧ V1 = V) ∨ (cPlc k9 kd x y t ∧ 12 ≤ V 2 ∧ k = 2 ∧ T1 = T ∧ V1 = V) ∨ (cPlc k9 kd x y t ∧ ¬ 12 ≤ V 2 ∧ ¬ cLie T V z9 kd.toNat t.toNat x y ∧ k = 3 ∧ T1 = T ∧ V1 = V) ∨ (cPlc k9 kd x y t ∧ ¬ 12 ≤ V 2 ∧ cLie T V z9 kd.toNat t.toNat x y ∧ k = 0 ∧ ∃ p : Nat, r = (p : Int) ∧ cAdd T V kd.toNat t.toNat x y p T1 V1)
def cLies (V : Nat → Int) (q : Int) : Prop := 0 ≤ q ∧ q < 12 ∧ V (40 + q.toNat) ≠ 0
def cTak (T : Nat → TT) (V : Nat → Int) (q : Int) : cT := fun k r T1 V1 => T1 = T ∧ ((¬ cLies V q ∧ k = 1 ∧ V1 = V) ∨ (cLies V q ∧ k = 0 ∧ r = V (60 + q.toNat) ∧ V1 (40 + q.toNat) = 0 ∧ V1 2 = V 2 - 1 ∧ ∀ c, c ≠ 40 + q.toNat → c ≠ 2 → V1 c = V c))
def cPrt (T : Nat → TT) (V : Nat → Int) (q w : Int) : cT := fun k r T1 V1 => T1 = T ∧ V1 = V ∧ ((¬ (0 ≤ w ∧ w ≤ 3) ∧ k = 1) ∨ ((0 ≤ w ∧ w ≤ 3) ∧ ¬ cLies V q ∧ k = 2) ∨ ((0 ≤ w ∧ w ≤ 3) ∧ cLies V q ∧ k = 0 ∧ r = (if w = 0 then V (60 + q.toNat) else if w = 1 then V (80 + q.toNat) else if w = 2 then V (100 + q.toNat) else V (120 + q.toNat))))
section ZSW
variable {p : Program} {l : Launch} {e : Env} {R : Room} {s : State} {m : MethodId} {args : Array Value} {below : List Frame} {meth : Method} {c : Code} {D : va_G} {G : Nat → ClassId} {A : Nat → Prop} {nL cells slots : Nat} {Q : State → Prop} {cc : ByteArray} {own : String}
variable {pc n t : Nat} {lv lv' : List (Nat × Value)} {st : List Value} {L : List Nat} {f : Nat → va_E}
theorem k_tin (X : zX p s m args meth c D G A cc own nL) {dflt lo hi off z : Int} {offs : Array Int} {len tgt : Nat} (hd : decode cc pc = .ok (.tableswitch dflt lo hi offs, len)) (hz : zO z) (h1 : ¬ z < lo) (h2 : ¬ hi < z) (ho : offs[(z - lo).toNat]? = some off) (ht : (pc : Int) + off = (tgt : Int)) (k : zG p l e R s m args below meth c D A nL cells slots Q tgt lv st L f) : zG p l e R s m args below meth c D A nL cells slots Q pc lv (.int (zI z) :: st) L f :=
  fun H locs ls hl hP hD hS => lv_tableIn X.1 X.2.1 hd (by rw [zI_toInt hz]; exact h1) (by rw [zI_toInt hz]; exact h2) (by rw [zI_toInt hz]; exact ho) ht (k H locs ls hl hP hD hS)
theorem k_tout (X : zX p s m args meth c D G A cc own nL) {dflt lo hi z : Int} {offs : Array Int} {len tgt : Nat} (hd : decode cc pc = .ok (.tableswitch dflt lo hi offs, len)) (hz : zO z) (h : z < lo ∨ hi < z) (ht : (pc : Int) + dflt = (tgt : Int)) (k : zG p l e R s m args below meth c D A nL cells slots Q tgt lv st L f) : zG p l e R s m args below meth c D A nL cells slots Q pc lv (.int (zI z) :: st) L f :=
  fun H locs ls hl hP hD hS => lv_tableOut X.1 X.2.1 hd (by rw [zI_toInt hz]; exact h) ht (k H locs ls hl hP hD hS)
end ZSW
theorem cfirst_bd {T : Nat → TT} {V : Nat → Int} {z9 k9 kd : Nat} {r : Int} (o2 : k9 ≤ 6 ∧ 0 ≤ (T 2).2.2.2.1 ∧ (T 2).2.2.2.2.1 ≤ 30 ∧ 0 ≤ (T 2).2.2.2.2.2.1 ∧ (T 2).2.2.2.2.2.2 ≤ 30 ∧ (T 2).2.2.2.1 ≤ 30 ∧ 0 ≤ (T 2).2.2.2.2.1 ∧ (T 2).2.2.2.2.2.1 ≤ 30 ∧ 0 ≤ (T 2).2.2.2.2.2.2) (h : ge_first (cF T V z9 kd) r) : (-1 ≤ r ∧ r ≤ 10000) ∧ (0 ≤ r → ∃ x y t : Nat, r = (x : Int) + 32 * (y : Int) + 1024 * (t : Int) ∧ x ≤ 30 ∧ y ≤ 30 ∧ t ≤ 3) := by
  rcases h with ⟨rfl, -⟩ | ⟨y, x, t, ⟨h1, -⟩, rfl, -⟩
  · exact ⟨by omega, fun q => absurd q (by omega)⟩
  · exact ⟨by omega, fun _ => ⟨x.toNat, y.toNat, t.toNat, by omega, by omega, by omega, by omega⟩⟩
set_option maxRecDepth 100000 in
set_option maxHeartbeats 4000000 in
theorem m_R_corner (l : Launch) (hlt : l.stackTraces = false) (D : va_G) (G : Nat → ClassId) {L : List Nat} {f : Nat → va_E} {ad : Nat → Nat} {T : Nat → TT} {V : Nat → Int} (hR : zRm G L f ad T V) (z9 k9 : Nat) (hA : rAll T V z9 k9) (a b : Int) (ha : zO a) (hb : zO b) : zMx l D G y_R_corner (.code y_R_corner c_R_corner 3 (some .int) :: BG) (zRx 6 82) [.ref (ad 0), .int (zI a), .int (zI b)] L f (xQ G L f ad (cCor T V a b)) (xX ["", "java/lang/IllegalArgumentException", "java/lang/IllegalStateException"] G L f ad (cCor T V a b)) := by
  refine zMx.of (by decide) (Nat.le_of_ble_eq_true rfl) rfl (fun p e s m args below meth c A Xc hTh htab hr => ?_)
  obtain ⟨hW, hO, hk9, h2, hc⟩ := hA
  have hO2 := hO
  obtain ⟨o1, o2, o3, o4, o5, o6, o7, o8, o9⟩ := hO2
  have w1 := hW.1
  refine k_iload_n Xc d_R_corner_0 rfl rfl (n := 1) rfl ?_
  refine k_iload_n Xc d_R_corner_1 rfl rfl (n := 2) rfl ?_
  refine k_qS (na := 2) Xc (m_R_isPoint l D G _ _ ha hb) wd_196 wd_194 wd_195 wd_1 (by decide +kernel) ⟨by decide, by decide⟩ rfl rfl (Nat.le_of_ble_eq_true rfl) d_R_corner_2 (n := 5) rfl ⟨Nat.zero_le _, Nat.zero_le _⟩ (fun r_2 e_2 => ?_)
  rcases e_2 with ⟨e_2, rfl⟩ | ⟨e_2, rfl⟩
  · refine k_if_ne Xc d_R_corner_5 (t := 18) (n := 8) rfl rfl (by omega) (fun _ => ?_) (fun h_5 => absurd h_5 (by omega))
    refine k_aload_n Xc d_R_corner_18 rfl rfl (n := 19) rfl ?_
    refine k_get Xc u_R rfl 0 (by decide) wd_134 rfl d_R_corner_19 (n := 22) rfl hR.2.2.2.2.2.1.1 hR.2.2.2.2.2.1.2 rfl ?_
    refine k_get Xc u_S rfl 2 (by decide) wd_33 rfl d_R_corner_22 (n := 25) rfl (hR.2.1 0 (by omega)).1 (hR.2.1 0 (by omega)).2.2.2.1 rfl ?_
    refine k_bipush Xc d_R_corner_25 rfl (n := 27) rfl ?_
    refine k_icmp_lt Xc d_R_corner_27 (t := 40) (n := 30) rfl rfl (by omega) (by omega) (fun h_27 => ?_) (fun h_27 => ?_)
    · refine k_aload_n Xc d_R_corner_40 rfl rfl (n := 41) rfl ?_
      refine k_get Xc u_R rfl 0 (by decide) wd_134 rfl d_R_corner_41 (n := 44) rfl hR.2.2.2.2.2.1.1 hR.2.2.2.2.2.1.2 rfl ?_
      refine k_iload_n Xc d_R_corner_44 rfl rfl (n := 45) rfl ?_
      refine k_iload_n Xc d_R_corner_45 rfl rfl (n := 46) rfl ?_
      refine k_wV (na := 2) Xc (m_S_add l D G (hR.2.1 0 (by omega)) (zRi_xy hR.1 (by omega)) (by omega) (fun q => by have := bx_bd hW.2.2 q hW.2.1; omega) _ _ (by omega) (by omega) (by omega) (by omega)) (hR.2.1 0 (by omega)).1 (hR.2.1 0 (by omega)).2.2.2.1 rfl wd_285 wd_282 wd_283 wd_284 wd_2 (by decide +kernel) ⟨by decide, by decide⟩ rfl rfl (Nat.le_of_ble_eq_true rfl) d_R_corner_46 (n := 49) rfl ⟨Nat.zero_le _, Nat.zero_le _⟩ (fun v_46 L_46 f_46 e_46 => ?_)
      obtain ⟨rfl, rfl, hz, hs⟩ := e_46
      obtain ⟨⟨T1, te, tn, hR1⟩, hQ⟩ := zRm_sh hR (s := 0) (by omega) hs (q := (_, _, _, _, _, _, _)) hz
      refine k_aload_n Xc d_R_corner_49 rfl rfl (n := 50) rfl ?_
      refine k_get Xc u_R rfl 0 (by decide) wd_134 rfl d_R_corner_50 (n := 53) rfl hR1.2.2.2.2.2.1.1 hR1.2.2.2.2.2.1.2 rfl ?_
      refine k_get Xc u_S rfl 2 (by decide) wd_33 rfl d_R_corner_53 (n := 56) rfl (hR1.2.1 0 (by omega)).1 (hR1.2.1 0 (by omega)).2.2.2.1 rfl ?_
      refine k_iretX Xc d_R_corner_56 hr rfl (Nat.zero_le _) (Nat.zero_le _) ?_
      refine ⟨rfl, hQ, ((T 0).1 : Int) + 1, T1, V, ?_, ⟨rfl, Or.inr (Or.inr ⟨e_2, by omega, rfl, rfl, tn, te⟩)⟩, hR1⟩
      rw [te]; rfl
    · refine k_throw Xc hlt hTh htab wd_266 wd_11 (List.mem_of_getElem? (i := 1) rfl) th_1 tg_1 (by decide) d_R_corner_30 d_R_corner_33 d_R_corner_34 d_R_corner_36 d_R_corner_39 ⟨by decide, Nat.le_of_ble_eq_true rfl⟩ ⟨by decide, by decide⟩ ⟨by decide, by decide⟩ ?_
      exact ⟨rfl, rFr_rf, 2, T, V, by decide, rfl, ⟨rfl, Or.inr (Or.inl ⟨e_2, by omega, rfl, rfl⟩)⟩, hR⟩
  · refine k_if_ne Xc d_R_corner_5 (t := 18) (n := 8) rfl rfl (by omega) (fun h_5 => absurd h_5 (by omega)) (fun _ => ?_)
    refine k_throw Xc hlt hTh htab wd_197 wd_10 (List.mem_of_getElem? (i := 0) rfl) th_0 tg_0 (by decide) d_R_corner_8 d_R_corner_11 d_R_corner_12 d_R_corner_14 d_R_corner_17 ⟨by decide, Nat.le_of_ble_eq_true rfl⟩ ⟨by decide, by decide⟩ ⟨by decide, by decide⟩ ?_
    exact ⟨rfl, rFr_rf, 1, T, V, by decide, rfl, ⟨rfl, Or.inl ⟨e_2, rfl, rfl⟩⟩, hR⟩
set_option maxRecDepth 100000 in
set_option maxHeartbeats 4000000 in
theorem m_R_hide (l : Launch) (hlt : l.stackTraces = false) (D : va_G) (G : Nat → ClassId) {L : List Nat} {f : Nat → va_E} {ad : Nat → Nat} {T : Nat → TT} {V : Nat → Int} (hR : zRm G L f ad T V) (z9 k9 : Nat) (hA : rAll T V z9 k9) : zMx l D G y_R_hide (.code y_R_hide c_R_hide 2 none :: BG) (zRx 6 94) [.ref (ad 0)] L f (xV G L f ad (cHid T V)) (xX ["", "java/lang/IllegalStateException", "java/lang/IllegalArgumentException"] G L f ad (cHid T V)) := by
  refine zMx.of (by decide) (Nat.le_of_ble_eq_true rfl) rfl (fun p e s m args below meth c A Xc hTh htab hr => ?_)
  obtain ⟨hW, hO, hk9, h2, hc⟩ := hA
  have hO2 := hO
  obtain ⟨o1, o2, o3, o4, o5, o6, o7, o8, o9⟩ := hO2
  refine k_aload_n Xc d_R_hide_0 rfl rfl (n := 1) rfl ?_
  refine k_get Xc u_R rfl 8 (by decide) wd_142 rfl d_R_hide_1 (n := 4) rfl hR.2.2.2.2.2.1.1 hR.2.2.2.2.2.1.2 rfl ?_
  refine k_if_le Xc d_R_hide_4 (t := 17) (n := 7) rfl rfl (by omega) (fun h_4 => ?_) (fun h_4 => ?_)
  · refine k_aload_n Xc d_R_hide_17 rfl rfl (n := 18) rfl ?_
    refine k_wV (na := 0) Xc (m_R_endWait l D G hR (rW_sB hW)) hR.2.2.2.2.2.1.1 hR.2.2.2.2.2.1.2 rfl wd_303 wd_300 wd_302 ws_1 wd_1 (by decide +kernel) ⟨by decide, by decide⟩ rfl rfl (Nat.le_of_ble_eq_true rfl) d_R_hide_18 (n := 21) rfl ⟨Nat.zero_le _, Nat.zero_le _⟩ (fun v_18 L_18 f_18 e_18 => ?_)
    obtain ⟨rfl, rfl, hF0, T0, q1, q2, q3, q4, q5, hR0⟩ := e_18
    have hE : cEnd T T0 := ⟨q1, q2, q3, q4, q5⟩
    have hI := cEnd_in hW hE
    have hB0 := cEnd_sB hW hE
    refine k_astore_n Xc d_R_hide_21 rfl (by decide) (n := 22) rfl ?_
    refine k_aload_n Xc d_R_hide_22 rfl rfl (n := 23) rfl ?_
    refine k_qV (na := 0) Xc (m_S_isPlain l D G (hR0.2.1 1 (by omega)) hB0) (hR0.2.1 1 (by omega)).1 (hR0.2.1 1 (by omega)).2.2.2.1 rfl wd_317 wd_314 wd_315 wd_316 wd_2 (by decide +kernel) ⟨by decide, by decide⟩ rfl rfl (Nat.le_of_ble_eq_true rfl) d_R_hide_23 (n := 26) rfl ⟨Nat.zero_le _, Nat.zero_le _⟩ (fun r_23 e_23 => ?_)
    rcases e_23 with ⟨e_23, rfl⟩ | ⟨e_23, rfl⟩
    · refine k_if_ne Xc d_R_hide_26 (t := 39) (n := 29) rfl rfl (by omega) (fun _ => ?_) (fun h_26 => absurd h_26 (by omega))
      refine k_aload_n Xc d_R_hide_39 rfl rfl (n := 40) rfl ?_
      refine k_get Xc u_R rfl 2 (by decide) wd_136 rfl d_R_hide_40 (n := 43) rfl hR0.2.2.2.2.2.1.1 hR0.2.2.2.2.2.1.2 rfl ?_
      refine k_aload_n Xc d_R_hide_43 rfl rfl (n := 44) rfl ?_
      refine k_iconst Xc d_R_hide_44 (n := 45) rfl ?_
      refine k_iconst Xc d_R_hide_45 (n := 46) rfl ?_
      refine k_wV (na := 3) Xc (m_S_copy l D G (hR0.2.1 2 (by omega)) (hR0.2.1 1 (by omega)) (zRi_xy hR0.1 (s := 2) (by omega)) (zRi_ap hR0.1 (s := 2) (t := 1) (by omega) (by omega) (by omega)) hB0 _ _ (by omega)) (hR0.2.1 2 (by omega)).1 (hR0.2.1 2 (by omega)).2.2.2.1 rfl wd_307 wd_304 wd_305 wd_306 wd_2 (by decide +kernel) ⟨by decide, by decide⟩ rfl rfl (Nat.le_of_ble_eq_true rfl) d_R_hide_46 (n := 49) rfl ⟨Nat.zero_le _, Nat.zero_le _⟩ (fun v_46 L_46 f_46 e_46 => ?_)
      obtain ⟨rfl, rfl, hN⟩ := e_46
      obtain ⟨X_9, Y_9, a_9, b_9, c_9, d_9, hz_9, hs_9, hi_9, hb_9⟩ := hN
      obtain ⟨⟨T_9, te_9, tn_9, hR_9⟩, hQ_9⟩ := zRm_sh hR0 (s := 2) (by omega) hs_9 (q := (_, X_9, Y_9, a_9, b_9, c_9, d_9)) hz_9
      refine k_vretX Xc d_R_hide_49 hr (Nat.zero_le _) (Nat.zero_le _) ?_
      exact ⟨rfl, rFr_tr hF0 hQ_9, T_9, V, rfl, ⟨rfl, Or.inr ⟨by omega, T0, hE, Or.inr ⟨e_23, rfl, tn_9, by rw [te_9]; exact ⟨rfl, hi_9, hb_9⟩⟩⟩⟩, hR_9⟩
    · refine k_if_ne Xc d_R_hide_26 (t := 39) (n := 29) rfl rfl (by omega) (fun h_26 => absurd h_26 (by omega)) (fun _ => ?_)
      refine k_throw Xc hlt hTh htab wd_197 wd_10 (List.mem_of_getElem? (i := 3) rfl) th_0 tg_0 (by decide) d_R_hide_29 d_R_hide_32 d_R_hide_33 d_R_hide_35 d_R_hide_38 ⟨by decide, Nat.le_of_ble_eq_true rfl⟩ ⟨by decide, by decide⟩ ⟨by decide, by decide⟩ ?_
      exact ⟨rfl, hF0, 2, T0, V, by decide, rfl, ⟨rfl, Or.inr ⟨by omega, T0, hE, Or.inl ⟨e_23, rfl, rfl⟩⟩⟩, hR0⟩
  · refine k_throw Xc hlt hTh htab wd_266 wd_11 (List.mem_of_getElem? (i := 2) rfl) th_1 tg_1 (by decide) d_R_hide_7 d_R_hide_10 d_R_hide_11 d_R_hide_13 d_R_hide_16 ⟨by decide, Nat.le_of_ble_eq_true rfl⟩ ⟨by decide, by decide⟩ ⟨by decide, by decide⟩ ?_
    exact ⟨rfl, rFr_rf, 1, T, V, by decide, rfl, ⟨rfl, Or.inl ⟨by omega, rfl, rfl⟩⟩, hR⟩
set_option maxRecDepth 100000 in
set_option maxHeartbeats 4000000 in
theorem m_R_zone (l : Launch) (hlt : l.stackTraces = false) (D : va_G) (G : Nat → ClassId) {L : List Nat} {f : Nat → va_E} {ad : Nat → Nat} {T : Nat → TT} {V : Nat → Int} (hR : zRm G L f ad T V) (z9 k9 : Nat) (hA : rAll T V z9 k9) (g : Int) (hg : zO g) : zMx l D G y_R_zone (.code y_R_zone c_R_zone 3 (some .int) :: BG) (zRx 6 113) [.ref (ad 0), .int (zI g)] L f (xQ G L f ad (cZon T V g)) (xX ["", "java/lang/IllegalArgumentException", "java/lang/IllegalStateException"] G L f ad (cZon T V g)) := by
  refine zMx.of (by decide) (Nat.le_of_ble_eq_true rfl) rfl (fun p e s m args below meth c A Xc hTh htab hr => ?_)
  obtain ⟨hW, hO, hk9, h2, hc⟩ := hA
  have hO2 := hO
  obtain ⟨o1, o2, o3, o4, o5, o6, o7, o8, o9⟩ := hO2
  refine k_iload_n Xc d_R_zone_0 rfl rfl (n := 1) rfl ?_
  refine k_iconst Xc d_R_zone_1 (n := 2) rfl ?_
  refine k_icmp_lt Xc d_R_zone_2 (t := 10) (n := 5) rfl rfl (by omega) (by omega) (fun h_2 => ?_) (fun h_2 => ?_)
  · refine k_throw Xc hlt hTh htab wd_197 wd_10 (List.mem_of_getElem? (i := 4) rfl) th_0 tg_0 (by decide) d_R_zone_10 d_R_zone_13 d_R_zone_14 d_R_zone_16 d_R_zone_19 ⟨by decide, Nat.le_of_ble_eq_true rfl⟩ ⟨by decide, by decide⟩ ⟨by decide, by decide⟩ ?_
    exact ⟨rfl, rFr_rf, 1, T, V, by decide, rfl, Or.inl ⟨by omega, rfl, rfl, rfl⟩, hR⟩
  · refine k_iload_n Xc d_R_zone_5 rfl rfl (n := 6) rfl ?_
    refine k_iconst Xc d_R_zone_6 (n := 7) rfl ?_
    refine k_icmp_le Xc d_R_zone_7 (t := 20) (n := 10) rfl rfl (by omega) (by omega) (fun h_7 => ?_) (fun h_7 => ?_)
    · refine k_aload_n Xc d_R_zone_20 rfl rfl (n := 21) rfl ?_
      refine k_wV (na := 0) Xc (m_R_endWait l D G hR (rW_sB hW)) hR.2.2.2.2.2.1.1 hR.2.2.2.2.2.1.2 rfl wd_303 wd_300 wd_302 ws_1 wd_1 (by decide +kernel) ⟨by decide, by decide⟩ rfl rfl (Nat.le_of_ble_eq_true rfl) d_R_zone_21 (n := 24) rfl ⟨Nat.zero_le _, Nat.zero_le _⟩ (fun v_21 L_21 f_21 e_21 => ?_)
      obtain ⟨rfl, rfl, hF0, T0, q1, q2, q3, q4, q5, hR0⟩ := e_21
      have hE : cEnd T T0 := ⟨q1, q2, q3, q4, q5⟩
      have hI := cEnd_in hW hE
      have hB0 := cEnd_sB hW hE
      refine k_astore_n Xc d_R_zone_24 rfl (by decide) (n := 25) rfl ?_
      refine k_aload_n Xc d_R_zone_25 rfl rfl (n := 26) rfl ?_
      refine k_qV (na := 0) Xc (m_S_isRound l D G (hR0.2.1 1 (by omega)) hB0) (hR0.2.1 1 (by omega)).1 (hR0.2.1 1 (by omega)).2.2.2.1 rfl wd_352 wd_349 wd_350 wd_351 wd_2 (by decide +kernel) ⟨by decide, by decide⟩ rfl rfl (Nat.le_of_ble_eq_true rfl) d_R_zone_26 (n := 29) rfl ⟨Nat.zero_le _, Nat.zero_le _⟩ (fun r_26 e_26 => ?_)
      rcases e_26 with ⟨e_26, rfl⟩ | ⟨e_26, rfl⟩
      · refine k_if_ne Xc d_R_zone_29 (t := 42) (n := 32) rfl rfl (by omega) (fun _ => ?_) (fun h_29 => absurd h_29 (by omega))
        refine k_aload_n Xc d_R_zone_42 rfl rfl (n := 43) rfl ?_
        refine k_get Xc u_R rfl 6 (by decide) wd_140 rfl d_R_zone_43 (n := 46) rfl hR0.2.2.2.2.2.1.1 hR0.2.2.2.2.2.1.2 rfl ?_
        refine k_iconst Xc d_R_zone_46 (n := 47) rfl ?_
        refine k_icmp_lt Xc d_R_zone_47 (t := 60) (n := 50) rfl rfl (by omega) (by omega) (fun h_47 => ?_) (fun h_47 => ?_)
        · refine k_aload_n Xc d_R_zone_60 rfl rfl (n := 61) rfl ?_
          refine k_get Xc u_R rfl 8 (by decide) wd_142 rfl d_R_zone_61 (n := 64) rfl hR0.2.2.2.2.2.1.1 hR0.2.2.2.2.2.1.2 rfl ?_
          refine k_if_le Xc d_R_zone_64 (t := 77) (n := 67) rfl rfl (by omega) (fun h_64 => ?_) (fun h_64 => ?_)
          · refine k_aload_n Xc d_R_zone_77 rfl rfl (n := 78) rfl ?_
            have z5 : z9 < 5 := by omega
            refine k_get Xc u_R rfl 3 (by decide) wd_137 rfl d_R_zone_78 (n := 81) rfl hR0.2.2.2.2.2.1.1 hR0.2.2.2.2.2.1.2 rfl ?_
            refine k_aload_n Xc d_R_zone_81 rfl rfl (n := 82) rfl ?_
            refine k_get Xc u_R rfl 6 (by decide) wd_140 rfl d_R_zone_82 (n := 85) rfl hR0.2.2.2.2.2.1.1 hR0.2.2.2.2.2.1.2 rfl ?_
            refine k_val (show V 0 = (z9 : Int) from o4) ?_
            refine k_aaldN Xc d_R_zone_85 (n := 86) rfl hR0.2.2.2.2.2.2.1.1 hR0.2.2.2.2.2.2.1.2 rfl (by omega) (by decide) ?_
            refine k_iload_n Xc d_R_zone_86 rfl rfl (n := 87) rfl ?_
            refine k_aload_n Xc d_R_zone_87 rfl rfl (n := 88) rfl ?_
            refine k_wV (na := 2) Xc (m_Z_become l D G hR0 z9 z5 hB0 _) (hR0.2.2.1 z9 (by omega)).1 (hR0.2.2.1 z9 (by omega)).2 rfl wd_358 wd_355 wd_356 wd_357 wd_3 (by decide +kernel) ⟨by decide, by decide⟩ rfl rfl (Nat.le_of_ble_eq_true rfl) d_R_zone_88 (n := 91) rfl ⟨Nat.zero_le _, Nat.zero_le _⟩ (fun v_88 L_88 f_88 e_88 => ?_)
            obtain ⟨rfl, rfl, hF1, T1, V1, v1, v2, v3, v4, hR1⟩ := e_88
            have v0 : V1 0 = V 0 := v2 0 (by omega)
            refine k_aload_n Xc d_R_zone_91 rfl rfl (n := 92) rfl ?_
            refine k_dup Xc d_R_zone_92 rfl (n := 93) rfl ?_
            refine k_get Xc u_R rfl 6 (by decide) wd_140 rfl d_R_zone_93 (n := 96) rfl hR1.2.2.2.2.2.1.1 hR1.2.2.2.2.2.1.2 rfl ?_
            refine k_iconst Xc d_R_zone_96 (n := 97) rfl ?_
            refine k_iadd Xc d_R_zone_97 (n := 98) rfl ?_
            refine k_put Xc u_R t_R_ok n_R rfl 6 (by decide) wd_140 rfl rfl rfl rfl d_R_zone_98 (n := 101) rfl hR1.2.2.2.2.2.1.1 hR1.2.2.2.2.2.1.2 (Nat.le_of_ble_eq_true rfl) ?_
            obtain ⟨⟨V2, w0, w1, w2, w3, hR2⟩, hF2⟩ := zRm_cnt hR1 (V1 0 + 1) (V1 1) (V1 2)
            generalize hf2 : va_up f_88 (ad 0) (Sum.inr (4, [Value.ref (ad (100 + 0)), Value.ref (ad (100 + 1)), Value.ref (ad (100 + 2)), Value.ref (ad 1), Value.ref (ad 2), Value.ref (ad 3), Value.int (zI (V1 0 + 1)), Value.int (zI (V1 1)), Value.int (zI (V1 2))])) = f2 at hR2 hF2
            refine k_heap (g := f2) (by rw [← hf2]; rfl) ?_
            refine k_aload_n Xc d_R_zone_101 rfl rfl (n := 102) rfl ?_
            refine k_get Xc u_R rfl 6 (by decide) wd_140 rfl d_R_zone_102 (n := 105) rfl hR2.2.2.2.2.2.1.1 hR2.2.2.2.2.2.1.2 rfl ?_
            refine k_iretX Xc d_R_zone_105 hr rfl (Nat.zero_le _) (Nat.zero_le _) ?_
            refine ⟨rfl, rFr_tr hF0 (rFr_tr hF1 hF2), V 0 + 1, T1, V2, ?_, Or.inr ⟨by omega, T0, hE, Or.inr (Or.inr ⟨e_26, by omega, rfl, rfl, z9, o4, ?_, ?_, ?_, v3, v4⟩)⟩, hR2⟩
            · rw [w0, v0]
            · rw [w0, v0]
            · rw [w3 _ (by omega)]; exact v1
            · intro q q0 qz
              rcases (show q = 1 ∨ q = 2 ∨ 3 ≤ q by omega) with y | y | y
              · subst y; rw [w1]; exact v2 1 (by omega)
              · subst y; rw [w2]; exact v2 2 (by omega)
              · rw [w3 q y]; exact v2 q qz
          · refine k_throw Xc hlt hTh htab wd_266 wd_11 (List.mem_of_getElem? (i := 2) rfl) th_1 tg_1 (by decide) d_R_zone_67 d_R_zone_70 d_R_zone_71 d_R_zone_73 d_R_zone_76 ⟨by decide, Nat.le_of_ble_eq_true rfl⟩ ⟨by decide, by decide⟩ ⟨by decide, by decide⟩ ?_
            exact ⟨rfl, hF0, 2, T0, V, by decide, rfl, Or.inr ⟨by omega, T0, hE, Or.inr (Or.inl ⟨e_26, by omega, rfl, rfl, rfl⟩)⟩, hR0⟩
        · refine k_throw Xc hlt hTh htab wd_266 wd_11 (List.mem_of_getElem? (i := 6) rfl) th_1 tg_1 (by decide) d_R_zone_50 d_R_zone_53 d_R_zone_54 d_R_zone_56 d_R_zone_59 ⟨by decide, Nat.le_of_ble_eq_true rfl⟩ ⟨by decide, by decide⟩ ⟨by decide, by decide⟩ ?_
          exact ⟨rfl, hF0, 2, T0, V, by decide, rfl, Or.inr ⟨by omega, T0, hE, Or.inr (Or.inl ⟨e_26, by omega, rfl, rfl, rfl⟩)⟩, hR0⟩
      · refine k_if_ne Xc d_R_zone_29 (t := 42) (n := 32) rfl rfl (by omega) (fun h_29 => absurd h_29 (by omega)) (fun _ => ?_)
        refine k_throw Xc hlt hTh htab wd_197 wd_10 (List.mem_of_getElem? (i := 5) rfl) th_0 tg_0 (by decide) d_R_zone_32 d_R_zone_35 d_R_zone_36 d_R_zone_38 d_R_zone_41 ⟨by decide, Nat.le_of_ble_eq_true rfl⟩ ⟨by decide, by decide⟩ ⟨by decide, by decide⟩ ?_
        exact ⟨rfl, hF0, 1, T0, V, by decide, rfl, Or.inr ⟨by omega, T0, hE, Or.inl ⟨e_26, rfl, rfl, rfl⟩⟩, hR0⟩
    · refine k_throw Xc hlt hTh htab wd_197 wd_10 (List.mem_of_getElem? (i := 4) rfl) th_0 tg_0 (by decide) d_R_zone_10 d_R_zone_13 d_R_zone_14 d_R_zone_16 d_R_zone_19 ⟨by decide, Nat.le_of_ble_eq_true rfl⟩ ⟨by decide, by decide⟩ ⟨by decide, by decide⟩ ?_
      exact ⟨rfl, rFr_rf, 1, T, V, by decide, rfl, Or.inl ⟨by omega, rfl, rfl, rfl⟩, hR⟩
set_option maxRecDepth 100000 in
set_option maxHeartbeats 4000000 in
theorem m_R_clear (l : Launch) (hlt : l.stackTraces = false) (D : va_G) (G : Nat → ClassId) {L : List Nat} {f : Nat → va_E} {ad : Nat → Nat} {T : Nat → TT} {V : Nat → Int} (hR : zRm G L f ad T V) (z9 k9 : Nat) (hA : rAll T V z9 k9) : zMx l D G y_R_clear (.code y_R_clear c_R_clear 1 none :: BG) (zRx 6 82) [.ref (ad 0)] L f (xV G L f ad (cClr T V)) (xX ["", "java/lang/IllegalStateException"] G L f ad (cClr T V)) := by
  refine zMx.of (by decide) (Nat.le_of_ble_eq_true rfl) rfl (fun p e s m args below meth c A Xc hTh htab hr => ?_)
  obtain ⟨hW, hO, hk9, h2, hc⟩ := hA
  have hO2 := hO
  obtain ⟨o1, o2, o3, o4, o5, o6, o7, o8, o9⟩ := hO2
  refine k_aload_n Xc d_R_clear_0 rfl rfl (n := 1) rfl ?_
  refine k_get Xc u_R rfl 8 (by decide) wd_142 rfl d_R_clear_1 (n := 4) rfl hR.2.2.2.2.2.1.1 hR.2.2.2.2.2.1.2 rfl ?_
  refine k_if_le Xc d_R_clear_4 (t := 17) (n := 7) rfl rfl (by omega) (fun h_4 => ?_) (fun h_4 => ?_)
  · refine k_aload_n Xc d_R_clear_17 rfl rfl (n := 18) rfl ?_
    refine k_iconst Xc d_R_clear_18 (n := 19) rfl ?_
    refine k_put Xc u_R t_R_ok n_R rfl 6 (by decide) wd_140 rfl rfl rfl rfl d_R_clear_19 (n := 22) rfl hR.2.2.2.2.2.1.1 hR.2.2.2.2.2.1.2 (Nat.le_of_ble_eq_true rfl) ?_
    obtain ⟨⟨V2, w0, w1, w2, w3, hR2⟩, hF2⟩ := zRm_cnt hR (0) (V 1) (V 2)
    generalize hf2 : va_up f (ad 0) (Sum.inr (4, [Value.ref (ad (100 + 0)), Value.ref (ad (100 + 1)), Value.ref (ad (100 + 2)), Value.ref (ad 1), Value.ref (ad 2), Value.ref (ad 3), Value.int (zI (0)), Value.int (zI (V 1)), Value.int (zI (V 2))])) = f2 at hR2 hF2
    refine k_heap (g := f2) (by rw [← hf2]; rfl) ?_
    refine k_vretX Xc d_R_clear_22 hr (Nat.zero_le _) (Nat.zero_le _) ?_
    refine ⟨rfl, hF2, T, V2, rfl, ⟨rfl, Or.inr ⟨by omega, rfl, w0, ?_⟩⟩, hR2⟩
    intro q q0
    rcases (show q = 1 ∨ q = 2 ∨ 3 ≤ q by omega) with y | y | y
    · subst y; exact w1
    · subst y; exact w2
    · exact w3 q y
  · refine k_throw Xc hlt hTh htab wd_266 wd_11 (List.mem_of_getElem? (i := 2) rfl) th_1 tg_1 (by decide) d_R_clear_7 d_R_clear_10 d_R_clear_11 d_R_clear_13 d_R_clear_16 ⟨by decide, Nat.le_of_ble_eq_true rfl⟩ ⟨by decide, by decide⟩ ⟨by decide, by decide⟩ ?_
    exact ⟨rfl, rFr_rf, 1, T, V, by decide, rfl, ⟨rfl, Or.inl ⟨by omega, rfl, rfl⟩⟩, hR⟩
set_option maxRecDepth 100000 in
set_option maxHeartbeats 4000000 in
theorem m_R_kind (l : Launch) (hlt : l.stackTraces = false) (D : va_G) (G : Nat → ClassId) {L : List Nat} {f : Nat → va_E} {ad : Nat → Nat} {T : Nat → TT} {V : Nat → Int} (hR : zRm G L f ad T V) (z9 k9 : Nat) (hA : rAll T V z9 k9) (g tt : Int) (hg : zO g) (ht : zO tt) : zMx l D G y_R_kind (.code y_R_kind c_R_kind 4 (some .int) :: BG) (zRx 6 115) [.ref (ad 0), .int (zI g), .int (zI tt)] L f (xQ G L f ad (cKin T V g tt)) (xX ["", "java/lang/IllegalArgumentException", "java/lang/IllegalStateException"] G L f ad (cKin T V g tt)) := by
  refine zMx.of (by decide) (Nat.le_of_ble_eq_true rfl) rfl (fun p e s m args below meth c A Xc hTh htab hr => ?_)
  obtain ⟨hW, hO, hk9, h2, hc⟩ := hA
  have hO2 := hO
  obtain ⟨o1, o2, o3, o4, o5, o6, o7, o8, o9⟩ := hO2
  refine k_iload_n Xc d_R_kind_0 rfl rfl (n := 1) rfl ?_
  refine k_iconst Xc d_R_kind_1 (n := 2) rfl ?_
  refine k_icmp_lt Xc d_R_kind_2 (t := 10) (n := 5) rfl rfl (by omega) (by omega) (fun h_2 => ?_) (fun h_2 => ?_)
  · refine k_throw Xc hlt hTh htab wd_197 wd_10 (List.mem_of_getElem? (i := 7) rfl) th_0 tg_0 (by decide) d_R_kind_10 d_R_kind_13 d_R_kind_14 d_R_kind_16 d_R_kind_19 ⟨by decide, Nat.le_of_ble_eq_true rfl⟩ ⟨by decide, by decide⟩ ⟨by decide, by decide⟩ ?_
    exact ⟨rfl, rFr_rf, 1, T, V, by decide, rfl, Or.inl ⟨by omega, rfl, rfl, rfl⟩, hR⟩
  · refine k_iload_n Xc d_R_kind_5 rfl rfl (n := 6) rfl ?_
    refine k_iconst Xc d_R_kind_6 (n := 7) rfl ?_
    refine k_icmp_le Xc d_R_kind_7 (t := 20) (n := 10) rfl rfl (by omega) (by omega) (fun h_7 => ?_) (fun h_7 => ?_)
    · refine k_iload_n Xc d_R_kind_20 rfl rfl (n := 21) rfl ?_
      refine k_iconst Xc d_R_kind_21 (n := 22) rfl ?_
      refine k_icmp_lt Xc d_R_kind_22 (t := 31) (n := 25) rfl rfl (by omega) (by omega) (fun h_22 => ?_) (fun h_22 => ?_)
      · refine k_throw Xc hlt hTh htab wd_197 wd_10 (List.mem_of_getElem? (i := 8) rfl) th_0 tg_0 (by decide) d_R_kind_31 d_R_kind_34 d_R_kind_35 d_R_kind_37 d_R_kind_40 ⟨by decide, Nat.le_of_ble_eq_true rfl⟩ ⟨by decide, by decide⟩ ⟨by decide, by decide⟩ ?_
        exact ⟨rfl, rFr_rf, 1, T, V, by decide, rfl, Or.inl ⟨by omega, rfl, rfl, rfl⟩, hR⟩
      · refine k_iload_n Xc d_R_kind_25 rfl rfl (n := 26) rfl ?_
        refine k_bipush Xc d_R_kind_26 rfl (n := 28) rfl ?_
        refine k_icmp_le Xc d_R_kind_28 (t := 41) (n := 31) rfl rfl (by omega) (by omega) (fun h_28 => ?_) (fun h_28 => ?_)
        · refine k_aload_n Xc d_R_kind_41 rfl rfl (n := 42) rfl ?_
          refine k_wV (na := 0) Xc (m_R_endWait l D G hR (rW_sB hW)) hR.2.2.2.2.2.1.1 hR.2.2.2.2.2.1.2 rfl wd_303 wd_300 wd_302 ws_1 wd_1 (by decide +kernel) ⟨by decide, by decide⟩ rfl rfl (Nat.le_of_ble_eq_true rfl) d_R_kind_42 (n := 45) rfl ⟨Nat.zero_le _, Nat.zero_le _⟩ (fun v_42 L_42 f_42 e_42 => ?_)
          obtain ⟨rfl, rfl, hF0, T0, q1, q2, q3, q4, q5, hR0⟩ := e_42
          have hE : cEnd T T0 := ⟨q1, q2, q3, q4, q5⟩
          have hI := cEnd_in hW hE
          have hB0 := cEnd_sB hW hE
          refine k_astore_n Xc d_R_kind_45 rfl (by decide) (n := 46) rfl ?_
          refine k_aload_n Xc d_R_kind_46 rfl rfl (n := 47) rfl ?_
          refine k_qV (na := 0) Xc (m_S_isRound l D G (hR0.2.1 1 (by omega)) hB0) (hR0.2.1 1 (by omega)).1 (hR0.2.1 1 (by omega)).2.2.2.1 rfl wd_352 wd_349 wd_350 wd_351 wd_2 (by decide +kernel) ⟨by decide, by decide⟩ rfl rfl (Nat.le_of_ble_eq_true rfl) d_R_kind_47 (n := 50) rfl ⟨Nat.zero_le _, Nat.zero_le _⟩ (fun r_47 e_47 => ?_)
          rcases e_47 with ⟨e_47, rfl⟩ | ⟨e_47, rfl⟩
          · refine k_if_ne Xc d_R_kind_50 (t := 63) (n := 53) rfl rfl (by omega) (fun _ => ?_) (fun h_50 => absurd h_50 (by omega))
            have bd := cEnd_bd hW hE (by have := (e_47).1; omega)
            refine k_aload_n Xc d_R_kind_63 rfl rfl (n := 64) rfl ?_
            refine k_get Xc u_S rfl 4 (by decide) wd_38 rfl d_R_kind_64 (n := 67) rfl (hR0.2.1 1 (by omega)).1 (hR0.2.1 1 (by omega)).2.2.2.1 rfl ?_
            refine k_bipush Xc d_R_kind_67 rfl (n := 69) rfl ?_
            refine k_icmp_gt Xc d_R_kind_69 (t := 81) (n := 72) rfl rfl (by omega) (by omega) (fun h_69 => ?_) (fun h_69 => ?_)
            · refine k_throw Xc hlt hTh htab wd_197 wd_10 (List.mem_of_getElem? (i := 9) rfl) th_0 tg_0 (by decide) d_R_kind_81 d_R_kind_84 d_R_kind_85 d_R_kind_87 d_R_kind_90 ⟨by decide, Nat.le_of_ble_eq_true rfl⟩ ⟨by decide, by decide⟩ ⟨by decide, by decide⟩ ?_
              exact ⟨rfl, hF0, 1, T0, V, by decide, rfl, Or.inr ⟨by omega, T0, hE, Or.inl ⟨fun q => by have := q.2; omega, rfl, rfl, rfl⟩⟩, hR0⟩
            · refine k_aload_n Xc d_R_kind_72 rfl rfl (n := 73) rfl ?_
              refine k_get Xc u_S rfl 6 (by decide) wd_43 rfl d_R_kind_73 (n := 76) rfl (hR0.2.1 1 (by omega)).1 (hR0.2.1 1 (by omega)).2.2.2.1 rfl ?_
              refine k_bipush Xc d_R_kind_76 rfl (n := 78) rfl ?_
              refine k_icmp_le Xc d_R_kind_78 (t := 91) (n := 81) rfl rfl (by omega) (by omega) (fun h_78 => ?_) (fun h_78 => ?_)
              · refine k_aload_n Xc d_R_kind_91 rfl rfl (n := 92) rfl ?_
                refine k_get Xc u_R rfl 7 (by decide) wd_141 rfl d_R_kind_92 (n := 95) rfl hR0.2.2.2.2.2.1.1 hR0.2.2.2.2.2.1.2 rfl ?_
                refine k_bipush Xc d_R_kind_95 rfl (n := 97) rfl ?_
                refine k_icmp_lt Xc d_R_kind_97 (t := 110) (n := 100) rfl rfl (by omega) (by omega) (fun h_97 => ?_) (fun h_97 => ?_)
                · refine k_aload_n Xc d_R_kind_110 rfl rfl (n := 111) rfl ?_
                  have z5 : k9 < 6 := by omega
                  refine k_get Xc u_R rfl 4 (by decide) wd_138 rfl d_R_kind_111 (n := 114) rfl hR0.2.2.2.2.2.1.1 hR0.2.2.2.2.2.1.2 rfl ?_
                  refine k_aload_n Xc d_R_kind_114 rfl rfl (n := 115) rfl ?_
                  refine k_get Xc u_R rfl 7 (by decide) wd_141 rfl d_R_kind_115 (n := 118) rfl hR0.2.2.2.2.2.1.1 hR0.2.2.2.2.2.1.2 rfl ?_
                  refine k_val hk9 ?_
                  refine k_aaldN Xc d_R_kind_118 (n := 119) rfl hR0.2.2.2.2.2.2.2.1.1 hR0.2.2.2.2.2.2.2.1.2 rfl (by omega) (by decide) ?_
                  refine k_iload_n Xc d_R_kind_119 rfl rfl (n := 120) rfl ?_
                  refine k_iload_n Xc d_R_kind_120 rfl rfl (n := 121) rfl ?_
                  refine k_aload_n Xc d_R_kind_121 rfl rfl (n := 122) rfl ?_
                  refine k_wV (na := 3) Xc (m_K_become l D G hR0 k9 z5 hB0 (cEnd_rT hW hE (e_47).1 (by omega) (by omega)) _ _) (hR0.2.2.2.1 k9 (by omega)).1 (hR0.2.2.2.1 k9 (by omega)).2.1 rfl wd_386 wd_383 wd_384 wd_385 wd_4 (by decide +kernel) ⟨by decide, by decide⟩ rfl rfl (Nat.le_of_ble_eq_true rfl) d_R_kind_122 (n := 125) rfl ⟨Nat.zero_le _, Nat.zero_le _⟩ (fun v_122 L_122 f_122 e_122 => ?_)
                  obtain ⟨rfl, rfl, hF1, T1, V1, v1, v2, v3, v4, v5, v6, hR1⟩ := e_122
                  have v0 : V1 1 = V 1 := v3 1 (by omega) (by omega)
                  refine k_aload_n Xc d_R_kind_125 rfl rfl (n := 126) rfl ?_
                  refine k_dup Xc d_R_kind_126 rfl (n := 127) rfl ?_
                  refine k_get Xc u_R rfl 7 (by decide) wd_141 rfl d_R_kind_127 (n := 130) rfl hR1.2.2.2.2.2.1.1 hR1.2.2.2.2.2.1.2 rfl ?_
                  refine k_iconst Xc d_R_kind_130 (n := 131) rfl ?_
                  refine k_iadd Xc d_R_kind_131 (n := 132) rfl ?_
                  refine k_put Xc u_R t_R_ok n_R rfl 7 (by decide) wd_141 rfl rfl rfl rfl d_R_kind_132 (n := 135) rfl hR1.2.2.2.2.2.1.1 hR1.2.2.2.2.2.1.2 (Nat.le_of_ble_eq_true rfl) ?_
                  obtain ⟨⟨V2, w0, w1, w2, w3, hR2⟩, hF2⟩ := zRm_cnt hR1 (V1 0) (V1 1 + 1) (V1 2)
                  generalize hf2 : va_up f_122 (ad 0) (Sum.inr (4, [Value.ref (ad (100 + 0)), Value.ref (ad (100 + 1)), Value.ref (ad (100 + 2)), Value.ref (ad 1), Value.ref (ad 2), Value.ref (ad 3), Value.int (zI (V1 0)), Value.int (zI (V1 1 + 1)), Value.int (zI (V1 2))])) = f2 at hR2 hF2
                  refine k_heap (g := f2) (by rw [← hf2]; rfl) ?_
                  refine k_aload_n Xc d_R_kind_135 rfl rfl (n := 136) rfl ?_
                  refine k_get Xc u_R rfl 7 (by decide) wd_141 rfl d_R_kind_136 (n := 139) rfl hR2.2.2.2.2.2.1.1 hR2.2.2.2.2.2.1.2 rfl ?_
                  refine k_iconst Xc d_R_kind_139 (n := 140) rfl ?_
                  refine k_isub Xc d_R_kind_140 (n := 141) rfl ?_
                  refine k_iretX Xc d_R_kind_141 hr rfl (Nat.zero_le _) (Nat.zero_le _) ?_
                  refine ⟨rfl, rFr_tr hF0 (rFr_tr hF1 hF2), V 1, T1, V2, ?_, Or.inr ⟨by omega, T0, hE, Or.inr (Or.inr ⟨⟨e_47, by omega, by omega⟩, by omega, rfl, rfl, k9, hk9, ?_, ?_, ?_, ?_, v4, v5, v6⟩)⟩, hR2⟩
                  · rw [w1, v0, show V 1 + 1 - 1 = V 1 by omega]
                  · rw [w1, v0]
                  · rw [w3 _ (by omega)]; exact v1
                  · rw [w3 _ (by omega)]; exact v2
                  · intro q q0 qz q3
                    rcases (show q = 0 ∨ q = 2 ∨ 3 ≤ q by omega) with y | y | y
                    · subst y; rw [w0]; exact v3 0 (by omega) (by omega)
                    · subst y; rw [w2]; exact v3 2 (by omega) (by omega)
                    · rw [w3 q y]; exact v3 q qz q3
                · refine k_throw Xc hlt hTh htab wd_266 wd_11 (List.mem_of_getElem? (i := 10) rfl) th_1 tg_1 (by decide) d_R_kind_100 d_R_kind_103 d_R_kind_104 d_R_kind_106 d_R_kind_109 ⟨by decide, Nat.le_of_ble_eq_true rfl⟩ ⟨by decide, by decide⟩ ⟨by decide, by decide⟩ ?_
                  exact ⟨rfl, hF0, 2, T0, V, by decide, rfl, Or.inr ⟨by omega, T0, hE, Or.inr (Or.inl ⟨⟨e_47, by omega, by omega⟩, by omega, rfl, rfl, rfl⟩)⟩, hR0⟩
              · refine k_throw Xc hlt hTh htab wd_197 wd_10 (List.mem_of_getElem? (i := 9) rfl) th_0 tg_0 (by decide) d_R_kind_81 d_R_kind_84 d_R_kind_85 d_R_kind_87 d_R_kind_90 ⟨by decide, Nat.le_of_ble_eq_true rfl⟩ ⟨by decide, by decide⟩ ⟨by decide, by decide⟩ ?_
                exact ⟨rfl, hF0, 1, T0, V, by decide, rfl, Or.inr ⟨by omega, T0, hE, Or.inl ⟨fun q => by have := q.2; omega, rfl, rfl, rfl⟩⟩, hR0⟩
          · refine k_if_ne Xc d_R_kind_50 (t := 63) (n := 53) rfl rfl (by omega) (fun h_50 => absurd h_50 (by omega)) (fun _ => ?_)
            refine k_throw Xc hlt hTh htab wd_197 wd_10 (List.mem_of_getElem? (i := 5) rfl) th_0 tg_0 (by decide) d_R_kind_53 d_R_kind_56 d_R_kind_57 d_R_kind_59 d_R_kind_62 ⟨by decide, Nat.le_of_ble_eq_true rfl⟩ ⟨by decide, by decide⟩ ⟨by decide, by decide⟩ ?_
            exact ⟨rfl, hF0, 1, T0, V, by decide, rfl, Or.inr ⟨by omega, T0, hE, Or.inl ⟨fun q => e_47 q.1, rfl, rfl, rfl⟩⟩, hR0⟩
        · refine k_throw Xc hlt hTh htab wd_197 wd_10 (List.mem_of_getElem? (i := 8) rfl) th_0 tg_0 (by decide) d_R_kind_31 d_R_kind_34 d_R_kind_35 d_R_kind_37 d_R_kind_40 ⟨by decide, Nat.le_of_ble_eq_true rfl⟩ ⟨by decide, by decide⟩ ⟨by decide, by decide⟩ ?_
          exact ⟨rfl, rFr_rf, 1, T, V, by decide, rfl, Or.inl ⟨by omega, rfl, rfl, rfl⟩, hR⟩
    · refine k_throw Xc hlt hTh htab wd_197 wd_10 (List.mem_of_getElem? (i := 7) rfl) th_0 tg_0 (by decide) d_R_kind_10 d_R_kind_13 d_R_kind_14 d_R_kind_16 d_R_kind_19 ⟨by decide, Nat.le_of_ble_eq_true rfl⟩ ⟨by decide, by decide⟩ ⟨by decide, by decide⟩ ?_
      exact ⟨rfl, rFr_rf, 1, T, V, by decide, rfl, Or.inl ⟨by omega, rfl, rfl, rfl⟩, hR⟩
set_option maxRecDepth 100000 in
set_option maxHeartbeats 4000000 in
theorem m_R_fits (l : Launch) (hlt : l.stackTraces = false) (D : va_G) (G : Nat → ClassId) {L : List Nat} {f : Nat → va_E} {ad : Nat → Nat} {T : Nat → TT} {V : Nat → Int} (hR : zRm G L f ad T V) (z9 k9 : Nat) (hA : rAll T V z9 k9) (kd x y t : Int) (hkd : zO kd) (hx : zO x) (hy : zO y) (ht : zO t) : zMx l D G y_R_fits (.code y_R_fits c_R_fits 5 (some .boolean) :: BG) (zRx 6 132) [.ref (ad 0), .int (zI kd), .int (zI x), .int (zI y), .int (zI t)] L f (xQ G L f ad (cFit T V z9 k9 kd x y t)) (xX ["", "java/lang/IllegalArgumentException"] G L f ad (cFit T V z9 k9 kd x y t)) := by
  refine zMx.of (by decide) (Nat.le_of_ble_eq_true rfl) rfl (fun p e s m args below meth c A Xc hTh htab hr => ?_)
  obtain ⟨hW, hO, hk9, h2, hc⟩ := hA
  have hO2 := hO
  obtain ⟨o1, o2, o3, o4, o5, o6, o7, o8, o9⟩ := hO2
  refine k_aload_n Xc d_R_fits_0 rfl rfl (n := 1) rfl ?_
  refine k_iload_n Xc d_R_fits_1 rfl rfl (n := 2) rfl ?_
  refine k_qV (na := 1) Xc (m_R_isKind l D G hR _ hkd (by omega)) hR.2.2.2.2.2.1.1 hR.2.2.2.2.2.1.2 rfl wd_402 wd_399 wd_401 ws_2 wd_1 (by decide +kernel) ⟨by decide, by decide⟩ rfl rfl (Nat.le_of_ble_eq_true rfl) d_R_fits_2 (n := 5) rfl ⟨Nat.zero_le _, Nat.zero_le _⟩ (fun r_2 e_2 => ?_)
  rcases e_2 with ⟨e_2, rfl⟩ | ⟨e_2, rfl⟩
  · refine k_if_eq Xc d_R_fits_5 (t := 24) (n := 8) rfl rfl (by omega) (fun h_5 => absurd h_5 (by omega)) (fun _ => ?_)
    refine k_iload_n Xc d_R_fits_8 rfl rfl (n := 9) rfl ?_
    refine k_iload_n Xc d_R_fits_9 rfl rfl (n := 10) rfl ?_
    refine k_qS (na := 2) Xc (m_R_isPoint l D G _ _ hx hy) wd_196 wd_194 wd_195 wd_1 (by decide +kernel) ⟨by decide, by decide⟩ rfl rfl (Nat.le_of_ble_eq_true rfl) d_R_fits_10 (n := 13) rfl ⟨Nat.zero_le _, Nat.zero_le _⟩ (fun r_10 e_10 => ?_)
    rcases e_10 with ⟨e_10, rfl⟩ | ⟨e_10, rfl⟩
    · refine k_if_eq Xc d_R_fits_13 (t := 24) (n := 16) rfl rfl (by omega) (fun h_13 => absurd h_13 (by omega)) (fun _ => ?_)
      refine k_iload Xc d_R_fits_16 rfl (n := 18) rfl ?_
      refine k_qS (na := 1) Xc (m_R_isTurn l D G _ ht) wd_405 wd_403 wd_404 wd_1 (by decide +kernel) ⟨by decide, by decide⟩ rfl rfl (Nat.le_of_ble_eq_true rfl) d_R_fits_18 (n := 21) rfl ⟨Nat.zero_le _, Nat.zero_le _⟩ (fun r_18 e_18 => ?_)
      rcases e_18 with ⟨e_18, rfl⟩ | ⟨e_18, rfl⟩
      · refine k_if_ne Xc d_R_fits_21 (t := 34) (n := 24) rfl rfl (by omega) (fun _ => ?_) (fun h_21 => absurd h_21 (by omega))
        have k6 := o2.1
        obtain ⟨kn, rfl⟩ : ∃ q : Nat, kd = (q : Int) := ⟨kd.toNat, by omega⟩
        obtain ⟨tn, rfl⟩ : ∃ q : Nat, t = (q : Int) := ⟨t.toNat, by omega⟩
        have hP : cPlc k9 (kn : Int) x y (tn : Int) := ⟨by omega, by omega, by omega⟩
        refine k_aload_n Xc d_R_fits_34 rfl rfl (n := 35) rfl ?_
        refine k_aload_n Xc d_R_fits_35 rfl rfl (n := 36) rfl ?_
        refine k_get Xc u_R rfl 4 (by decide) wd_138 rfl d_R_fits_36 (n := 39) rfl hR.2.2.2.2.2.1.1 hR.2.2.2.2.2.1.2 rfl ?_
        refine k_iload_n Xc d_R_fits_39 rfl rfl (n := 40) rfl ?_
        refine k_aaldN Xc d_R_fits_40 (n := 41) rfl hR.2.2.2.2.2.2.2.1.1 hR.2.2.2.2.2.2.2.1.2 rfl (by omega) (by decide) ?_
        refine k_iload_n Xc d_R_fits_41 rfl rfl (n := 42) rfl ?_
        refine k_iload_n Xc d_R_fits_42 rfl rfl (n := 43) rfl ?_
        refine k_iload Xc d_R_fits_43 rfl (n := 45) rfl ?_
        refine k_qV (na := 4) Xc (m_R_canLie l D G hR z9 k9 hO kn (by omega) _ _ (by omega) (by omega) tn (by omega)) hR.2.2.2.2.2.1.1 hR.2.2.2.2.2.1.2 rfl wd_410 wd_407 wd_409 ws_3 wd_1 (by decide +kernel) ⟨by decide, by decide⟩ rfl rfl (Nat.le_of_ble_eq_true rfl) d_R_fits_45 (n := 48) rfl ⟨Nat.zero_le _, Nat.zero_le _⟩ (fun r_45 e_45 => ?_)
        rcases e_45 with ⟨e_45, rfl⟩ | ⟨e_45, rfl⟩
        · refine k_iretX Xc d_R_fits_48 hr rfl (Nat.zero_le _) (Nat.zero_le _) ?_
          exact ⟨rfl, rFr_rf, _, T, V, rfl, ⟨rfl, rfl, Or.inr ⟨hP, rfl, Or.inl ⟨e_45, rfl⟩⟩⟩, hR⟩
        · refine k_iretX Xc d_R_fits_48 hr rfl (Nat.zero_le _) (Nat.zero_le _) ?_
          exact ⟨rfl, rFr_rf, _, T, V, rfl, ⟨rfl, rfl, Or.inr ⟨hP, rfl, Or.inr ⟨e_45, rfl⟩⟩⟩, hR⟩
      · refine k_if_ne Xc d_R_fits_21 (t := 34) (n := 24) rfl rfl (by omega) (fun h_21 => absurd h_21 (by omega)) (fun _ => ?_)
        refine k_throw Xc hlt hTh htab wd_197 wd_10 (List.mem_of_getElem? (i := 11) rfl) th_0 tg_0 (by decide) d_R_fits_24 d_R_fits_27 d_R_fits_28 d_R_fits_30 d_R_fits_33 ⟨by decide, Nat.le_of_ble_eq_true rfl⟩ ⟨by decide, by decide⟩ ⟨by decide, by decide⟩ ?_
        exact ⟨rfl, rFr_rf, 1, T, V, by decide, rfl, ⟨rfl, rfl, Or.inl ⟨fun q => by obtain ⟨q1, q2, q3⟩ := q; omega, rfl⟩⟩, hR⟩
    · refine k_if_eq Xc d_R_fits_13 (t := 24) (n := 16) rfl rfl (by omega) (fun _ => ?_) (fun h_13 => absurd h_13 (by omega))
      refine k_throw Xc hlt hTh htab wd_197 wd_10 (List.mem_of_getElem? (i := 11) rfl) th_0 tg_0 (by decide) d_R_fits_24 d_R_fits_27 d_R_fits_28 d_R_fits_30 d_R_fits_33 ⟨by decide, Nat.le_of_ble_eq_true rfl⟩ ⟨by decide, by decide⟩ ⟨by decide, by decide⟩ ?_
      exact ⟨rfl, rFr_rf, 1, T, V, by decide, rfl, ⟨rfl, rfl, Or.inl ⟨fun q => by obtain ⟨q1, q2, q3⟩ := q; omega, rfl⟩⟩, hR⟩
  · refine k_if_eq Xc d_R_fits_5 (t := 24) (n := 8) rfl rfl (by omega) (fun _ => ?_) (fun h_5 => absurd h_5 (by omega))
    refine k_throw Xc hlt hTh htab wd_197 wd_10 (List.mem_of_getElem? (i := 11) rfl) th_0 tg_0 (by decide) d_R_fits_24 d_R_fits_27 d_R_fits_28 d_R_fits_30 d_R_fits_33 ⟨by decide, Nat.le_of_ble_eq_true rfl⟩ ⟨by decide, by decide⟩ ⟨by decide, by decide⟩ ?_
    exact ⟨rfl, rFr_rf, 1, T, V, by decide, rfl, ⟨rfl, rfl, Or.inl ⟨fun q => by obtain ⟨q1, q2, q3⟩ := q; omega, rfl⟩⟩, hR⟩
set_option maxRecDepth 100000 in
set_option maxHeartbeats 4000000 in
theorem m_R_best (l : Launch) (hlt : l.stackTraces = false) (D : va_G) (G : Nat → ClassId) {L : List Nat} {f : Nat → va_E} {ad : Nat → Nat} {T : Nat → TT} {V : Nat → Int} (hR : zRm G L f ad T V) (z9 k9 : Nat) (hA : rAll T V z9 k9) (kd : Int) (hkd : zO kd) : zMx l D G y_R_best (.code y_R_best c_R_best 3 (some .int) :: BG) (zRx 6 156) [.ref (ad 0), .int (zI kd)] L f (xQ G L f ad (cBes T V z9 k9 kd)) (xX ["", "java/lang/IllegalArgumentException", "java/util/NoSuchElementException"] G L f ad (cBes T V z9 k9 kd)) := by
  refine zMx.of (by decide) (Nat.le_of_ble_eq_true rfl) rfl (fun p e s m args below meth c A Xc hTh htab hr => ?_)
  obtain ⟨hW, hO, hk9, h2, hc⟩ := hA
  have hO2 := hO
  obtain ⟨o1, o2, o3, o4, o5, o6, o7, o8, o9⟩ := hO2
  refine k_aload_n Xc d_R_best_0 rfl rfl (n := 1) rfl ?_
  refine k_iload_n Xc d_R_best_1 rfl rfl (n := 2) rfl ?_
  refine k_qV (na := 1) Xc (m_R_isKind l D G hR _ hkd (by omega)) hR.2.2.2.2.2.1.1 hR.2.2.2.2.2.1.2 rfl wd_402 wd_399 wd_401 ws_2 wd_1 (by decide +kernel) ⟨by decide, by decide⟩ rfl rfl (Nat.le_of_ble_eq_true rfl) d_R_best_2 (n := 5) rfl ⟨Nat.zero_le _, Nat.zero_le _⟩ (fun r_2 e_2 => ?_)
  rcases e_2 with ⟨e_2, rfl⟩ | ⟨e_2, rfl⟩
  · refine k_if_ne Xc d_R_best_5 (t := 18) (n := 8) rfl rfl (by omega) (fun _ => ?_) (fun h_5 => absurd h_5 (by omega))
    have k6 := o2.1
    obtain ⟨kn, rfl⟩ : ∃ q : Nat, kd = (q : Int) := ⟨kd.toNat, by omega⟩
    refine k_aload_n Xc d_R_best_18 rfl rfl (n := 19) rfl ?_
    refine k_aload_n Xc d_R_best_19 rfl rfl (n := 20) rfl ?_
    refine k_get Xc u_R rfl 4 (by decide) wd_138 rfl d_R_best_20 (n := 23) rfl hR.2.2.2.2.2.1.1 hR.2.2.2.2.2.1.2 rfl ?_
    refine k_iload_n Xc d_R_best_23 rfl rfl (n := 24) rfl ?_
    refine k_aaldN Xc d_R_best_24 (n := 25) rfl hR.2.2.2.2.2.2.2.1.1 hR.2.2.2.2.2.2.2.1.2 rfl (by omega) (by decide) ?_
    refine k_qV (na := 1) Xc (m_R_findPlace l D G hR z9 k9 hO kn (by omega)) hR.2.2.2.2.2.1.1 hR.2.2.2.2.2.1.2 rfl wd_467 wd_464 wd_466 ws_6 wd_1 (by decide +kernel) ⟨by decide, by decide⟩ rfl rfl (Nat.le_of_ble_eq_true rfl) d_R_best_25 (n := 28) rfl ⟨Nat.zero_le _, Nat.zero_le _⟩ (fun r_25 e_25 => ?_)
    have hr9 := cfirst_bd o2 e_25
    refine k_istore_n Xc d_R_best_28 rfl (by decide) (n := 29) rfl ?_
    refine k_iload_n Xc d_R_best_29 rfl rfl (n := 30) rfl ?_
    refine k_iconst Xc d_R_best_30 (n := 31) rfl ?_
    refine k_icmp_ne Xc d_R_best_31 (t := 44) (n := 34) rfl rfl (by omega) (by omega) (fun h_31 => ?_) (fun h_31 => ?_)
    · refine k_iload_n Xc d_R_best_44 rfl rfl (n := 45) rfl ?_
      refine k_iretX Xc d_R_best_45 hr rfl (Nat.zero_le _) (Nat.zero_le _) ?_
      exact ⟨rfl, rFr_rf, _, T, V, rfl, ⟨rfl, rfl, Or.inr ⟨by omega, r_25, e_25, Or.inr ⟨by omega, rfl, rfl⟩⟩⟩, hR⟩
    · refine k_throwG Xc hlt hTh htab nse_0 nse_1 nse_2 nse_5 wd_468 wd_14 (List.mem_of_getElem? (i := 13) rfl) th_2 tg_2 (by decide) d_R_best_34 d_R_best_37 d_R_best_38 d_R_best_40 d_R_best_43 ⟨by decide, Nat.le_of_ble_eq_true rfl⟩ ⟨by decide, by decide⟩ ⟨by decide, by decide⟩ ?_
      exact ⟨rfl, rFr_rf, 2, T, V, by decide, rfl, ⟨rfl, rfl, Or.inr ⟨by omega, r_25, e_25, Or.inl ⟨by omega, rfl⟩⟩⟩, hR⟩
  · refine k_if_ne Xc d_R_best_5 (t := 18) (n := 8) rfl rfl (by omega) (fun h_5 => absurd h_5 (by omega)) (fun _ => ?_)
    refine k_throw Xc hlt hTh htab wd_197 wd_10 (List.mem_of_getElem? (i := 12) rfl) th_0 tg_0 (by decide) d_R_best_8 d_R_best_11 d_R_best_12 d_R_best_14 d_R_best_17 ⟨by decide, Nat.le_of_ble_eq_true rfl⟩ ⟨by decide, by decide⟩ ⟨by decide, by decide⟩ ?_
    exact ⟨rfl, rFr_rf, 1, T, V, by decide, rfl, ⟨rfl, rfl, Or.inl ⟨by omega, rfl⟩⟩, hR⟩
set_option maxRecDepth 100000 in
set_option maxHeartbeats 4000000 in
theorem m_R_lay (l : Launch) (hlt : l.stackTraces = false) (D : va_G) (G : Nat → ClassId) {L : List Nat} {f : Nat → va_E} {ad : Nat → Nat} {T : Nat → TT} {V : Nat → Int} (hR : zRm G L f ad T V) (z9 k9 : Nat) (hA : rAll T V z9 k9) (kd : Int) (hkd : zO kd) : zMx l D G y_R_lay (.code y_R_lay c_R_lay 6 (some .int) :: BG) (zRx 6 156) [.ref (ad 0), .int (zI kd)] L f (xQ G L f ad (cLay T V z9 k9 kd)) (xX ["", "java/lang/IllegalArgumentException", "java/lang/IllegalStateException", "java/util/NoSuchElementException"] G L f ad (cLay T V z9 k9 kd)) := by
  refine zMx.of (by decide) (Nat.le_of_ble_eq_true rfl) rfl (fun p e s m args below meth c A Xc hTh htab hr => ?_)
  obtain ⟨hW, hO, hk9, h2, hc⟩ := hA
  have hO2 := hO
  obtain ⟨o1, o2, o3, o4, o5, o6, o7, o8, o9⟩ := hO2
  refine k_aload_n Xc d_R_lay_0 rfl rfl (n := 1) rfl ?_
  refine k_iload_n Xc d_R_lay_1 rfl rfl (n := 2) rfl ?_
  refine k_qV (na := 1) Xc (m_R_isKind l D G hR _ hkd (by omega)) hR.2.2.2.2.2.1.1 hR.2.2.2.2.2.1.2 rfl wd_402 wd_399 wd_401 ws_2 wd_1 (by decide +kernel) ⟨by decide, by decide⟩ rfl rfl (Nat.le_of_ble_eq_true rfl) d_R_lay_2 (n := 5) rfl ⟨Nat.zero_le _, Nat.zero_le _⟩ (fun r_2 e_2 => ?_)
  rcases e_2 with ⟨e_2, rfl⟩ | ⟨e_2, rfl⟩
  · refine k_if_ne Xc d_R_lay_5 (t := 18) (n := 8) rfl rfl (by omega) (fun _ => ?_) (fun h_5 => absurd h_5 (by omega))
    refine k_aload_n Xc d_R_lay_18 rfl rfl (n := 19) rfl ?_
    refine k_get Xc u_R rfl 8 (by decide) wd_142 rfl d_R_lay_19 (n := 22) rfl hR.2.2.2.2.2.1.1 hR.2.2.2.2.2.1.2 rfl ?_
    refine k_bipush Xc d_R_lay_22 rfl (n := 24) rfl ?_
    refine k_icmp_lt Xc d_R_lay_24 (t := 37) (n := 27) rfl rfl (by omega) (by omega) (fun h_24 => ?_) (fun h_24 => ?_)
    · have k6 := o2.1
      obtain ⟨kn, rfl⟩ : ∃ q : Nat, kd = (q : Int) := ⟨kd.toNat, by omega⟩
      obtain ⟨p0, hp0, hf0⟩ := hc (by omega)
      refine k_aload_n Xc d_R_lay_37 rfl rfl (n := 38) rfl ?_
      refine k_aload_n Xc d_R_lay_38 rfl rfl (n := 39) rfl ?_
      refine k_get Xc u_R rfl 4 (by decide) wd_138 rfl d_R_lay_39 (n := 42) rfl hR.2.2.2.2.2.1.1 hR.2.2.2.2.2.1.2 rfl ?_
      refine k_iload_n Xc d_R_lay_42 rfl rfl (n := 43) rfl ?_
      refine k_aaldN Xc d_R_lay_43 (n := 44) rfl hR.2.2.2.2.2.2.2.1.1 hR.2.2.2.2.2.2.2.1.2 rfl (by omega) (by decide) ?_
      refine k_qV (na := 1) Xc (m_R_findPlace l D G hR z9 k9 hO kn (by omega)) hR.2.2.2.2.2.1.1 hR.2.2.2.2.2.1.2 rfl wd_467 wd_464 wd_466 ws_6 wd_1 (by decide +kernel) ⟨by decide, by decide⟩ rfl rfl (Nat.le_of_ble_eq_true rfl) d_R_lay_44 (n := 47) rfl ⟨Nat.zero_le _, Nat.zero_le _⟩ (fun r_44 e_44 => ?_)
      have hr9 := cfirst_bd o2 e_44
      refine k_istore_n Xc d_R_lay_47 rfl (by decide) (n := 48) rfl ?_
      refine k_iload_n Xc d_R_lay_48 rfl rfl (n := 49) rfl ?_
      refine k_iconst Xc d_R_lay_49 (n := 50) rfl ?_
      refine k_icmp_ne Xc d_R_lay_50 (t := 63) (n := 53) rfl rfl (by omega) (by omega) (fun h_50 => ?_) (fun h_50 => ?_)
      · obtain ⟨xn, yn, tn, hq, b1, b2, b3⟩ := hr9.2 (by omega)
        refine k_iload_n Xc d_R_lay_63 rfl rfl (n := 64) rfl ?_
        refine k_sipush Xc d_R_lay_64 rfl (n := 67) rfl ?_
        refine k_idiv Xc d_R_lay_67 (n := 68) rfl (by omega) (by omega) (by omega) (by omega) ?_
        refine k_val (b := (tn : Int)) (by omega) ?_
        refine k_istore_n Xc d_R_lay_68 rfl (by decide) (n := 69) rfl ?_
        refine k_iload_n Xc d_R_lay_69 rfl rfl (n := 70) rfl ?_
        refine k_sipush Xc d_R_lay_70 rfl (n := 73) rfl ?_
        refine k_irem Xc d_R_lay_73 (n := 74) rfl (by omega) (by omega) (by omega) (by omega) ?_
        refine k_bipush Xc d_R_lay_74 rfl (n := 76) rfl ?_
        refine k_idiv Xc d_R_lay_76 (n := 77) rfl (by omega) (by omega) (by omega) (by omega) ?_
        refine k_val (b := (yn : Int)) (by omega) ?_
        refine k_istore Xc d_R_lay_77 (by decide) (n := 79) rfl ?_
        refine k_iload_n Xc d_R_lay_79 rfl rfl (n := 80) rfl ?_
        refine k_bipush Xc d_R_lay_80 rfl (n := 82) rfl ?_
        refine k_irem Xc d_R_lay_82 (n := 83) rfl (by omega) (by omega) (by omega) (by omega) ?_
        refine k_val (b := (xn : Int)) (by omega) ?_
        refine k_istore Xc d_R_lay_83 (by decide) (n := 85) rfl ?_
        refine k_aload_n Xc d_R_lay_85 rfl rfl (n := 86) rfl ?_
        refine k_iload_n Xc d_R_lay_86 rfl rfl (n := 87) rfl ?_
        refine k_iload Xc d_R_lay_87 rfl (n := 89) rfl ?_
        refine k_iload Xc d_R_lay_89 rfl (n := 91) rfl ?_
        refine k_iload_n Xc d_R_lay_91 rfl rfl (n := 92) rfl ?_
        refine k_wV (na := 4) Xc (m_R_addPart l D G hR o8 p0 hp0 hf0 kn (by omega) tn (by omega) ((o7 kn (by omega)).2.2.2.2 tn (by omega)).2.1 (xn : Int) (yn : Int) (by omega) (by omega)) hR.2.2.2.2.2.1.1 hR.2.2.2.2.2.1.2 rfl wd_495 wd_492 wd_494 ws_7 wd_1 (by decide +kernel) ⟨by decide, by decide⟩ rfl rfl (Nat.le_of_ble_eq_true rfl) d_R_lay_92 (n := 95) rfl ⟨Nat.zero_le _, Nat.zero_le _⟩ (fun v_92 L_92 f_92 e_92 => ?_)
        obtain ⟨rfl, hF1, p, T1, V1, a1, a2, a3, rfl, a4, a5, a6, a7, a8, a9, a10, a11, a12, hR1⟩ := e_92
        refine k_iretX Xc d_R_lay_95 hr rfl (Nat.zero_le _) (Nat.zero_le _) ?_
        exact ⟨rfl, hF1, _, T1, V1, rfl, Or.inr (Or.inr ⟨by omega, by omega, r_44, e_44, Or.inr ⟨xn, yn, tn, hq, b1, b2, b3, rfl, p, rfl, a1, a2, a3, a4, a5, a6, a7, a8, a9, a10, a11, a12⟩⟩), hR1⟩
      · refine k_throwG Xc hlt hTh htab nse_0 nse_1 nse_2 nse_5 wd_468 wd_14 (List.mem_of_getElem? (i := 13) rfl) th_2 tg_2 (by decide) d_R_lay_53 d_R_lay_56 d_R_lay_57 d_R_lay_59 d_R_lay_62 ⟨by decide, Nat.le_of_ble_eq_true rfl⟩ ⟨by decide, by decide⟩ ⟨by decide, by decide⟩ ?_
        exact ⟨rfl, rFr_rf, 3, T, V, by decide, rfl, Or.inr (Or.inr ⟨by omega, by omega, r_44, e_44, Or.inl ⟨by omega, rfl, rfl, rfl⟩⟩), hR⟩
    · refine k_throw Xc hlt hTh htab wd_266 wd_11 (List.mem_of_getElem? (i := 14) rfl) th_1 tg_1 (by decide) d_R_lay_27 d_R_lay_30 d_R_lay_31 d_R_lay_33 d_R_lay_36 ⟨by decide, Nat.le_of_ble_eq_true rfl⟩ ⟨by decide, by decide⟩ ⟨by decide, by decide⟩ ?_
      exact ⟨rfl, rFr_rf, 2, T, V, by decide, rfl, Or.inr (Or.inl ⟨by omega, by omega, rfl, rfl, rfl⟩), hR⟩
  · refine k_if_ne Xc d_R_lay_5 (t := 18) (n := 8) rfl rfl (by omega) (fun h_5 => absurd h_5 (by omega)) (fun _ => ?_)
    refine k_throw Xc hlt hTh htab wd_197 wd_10 (List.mem_of_getElem? (i := 12) rfl) th_0 tg_0 (by decide) d_R_lay_8 d_R_lay_11 d_R_lay_12 d_R_lay_14 d_R_lay_17 ⟨by decide, Nat.le_of_ble_eq_true rfl⟩ ⟨by decide, by decide⟩ ⟨by decide, by decide⟩ ?_
    exact ⟨rfl, rFr_rf, 1, T, V, by decide, rfl, Or.inl ⟨by omega, rfl, rfl, rfl⟩, hR⟩
set_option maxRecDepth 100000 in
set_option maxHeartbeats 4000000 in
theorem m_R_put (l : Launch) (hlt : l.stackTraces = false) (D : va_G) (G : Nat → ClassId) {L : List Nat} {f : Nat → va_E} {ad : Nat → Nat} {T : Nat → TT} {V : Nat → Int} (hR : zRm G L f ad T V) (z9 k9 : Nat) (hA : rAll T V z9 k9) (kd x y t : Int) (hkd : zO kd) (hx : zO x) (hy : zO y) (ht : zO t) : zMx l D G y_R_put (.code y_R_put c_R_put 5 (some .int) :: BG) (zRx 6 132) [.ref (ad 0), .int (zI kd), .int (zI x), .int (zI y), .int (zI t)] L f (xQ G L f ad (cPut T V z9 k9 kd x y t)) (xX ["", "java/lang/IllegalArgumentException", "java/lang/IllegalStateException", "java/lang/UnsupportedOperationException"] G L f ad (cPut T V z9 k9 kd x y t)) := by
  refine zMx.of (by decide) (Nat.le_of_ble_eq_true rfl) rfl (fun p e s m args below meth c A Xc hTh htab hr => ?_)
  obtain ⟨hW, hO, hk9, h2, hc⟩ := hA
  have hO2 := hO
  obtain ⟨o1, o2, o3, o4, o5, o6, o7, o8, o9⟩ := hO2
  refine k_aload_n Xc d_R_put_0 rfl rfl (n := 1) rfl ?_
  refine k_iload_n Xc d_R_put_1 rfl rfl (n := 2) rfl ?_
  refine k_qV (na := 1) Xc (m_R_isKind l D G hR _ hkd (by omega)) hR.2.2.2.2.2.1.1 hR.2.2.2.2.2.1.2 rfl wd_402 wd_399 wd_401 ws_2 wd_1 (by decide +kernel) ⟨by decide, by decide⟩ rfl rfl (Nat.le_of_ble_eq_true rfl) d_R_put_2 (n := 5) rfl ⟨Nat.zero_le _, Nat.zero_le _⟩ (fun r_2 e_2 => ?_)
  rcases e_2 with ⟨e_2, rfl⟩ | ⟨e_2, rfl⟩
  · refine k_if_eq Xc d_R_put_5 (t := 24) (n := 8) rfl rfl (by omega) (fun h_5 => absurd h_5 (by omega)) (fun _ => ?_)
    refine k_iload_n Xc d_R_put_8 rfl rfl (n := 9) rfl ?_
    refine k_iload_n Xc d_R_put_9 rfl rfl (n := 10) rfl ?_
    refine k_qS (na := 2) Xc (m_R_isPoint l D G _ _ hx hy) wd_196 wd_194 wd_195 wd_1 (by decide +kernel) ⟨by decide, by decide⟩ rfl rfl (Nat.le_of_ble_eq_true rfl) d_R_put_10 (n := 13) rfl ⟨Nat.zero_le _, Nat.zero_le _⟩ (fun r_10 e_10 => ?_)
    rcases e_10 with ⟨e_10, rfl⟩ | ⟨e_10, rfl⟩
    · refine k_if_eq Xc d_R_put_13 (t := 24) (n := 16) rfl rfl (by omega) (fun h_13 => absurd h_13 (by omega)) (fun _ => ?_)
      refine k_iload Xc d_R_put_16 rfl (n := 18) rfl ?_
      refine k_qS (na := 1) Xc (m_R_isTurn l D G _ ht) wd_405 wd_403 wd_404 wd_1 (by decide +kernel) ⟨by decide, by decide⟩ rfl rfl (Nat.le_of_ble_eq_true rfl) d_R_put_18 (n := 21) rfl ⟨Nat.zero_le _, Nat.zero_le _⟩ (fun r_18 e_18 => ?_)
      rcases e_18 with ⟨e_18, rfl⟩ | ⟨e_18, rfl⟩
      · refine k_if_ne Xc d_R_put_21 (t := 34) (n := 24) rfl rfl (by omega) (fun _ => ?_) (fun h_21 => absurd h_21 (by omega))
        have k6 := o2.1
        obtain ⟨kn, rfl⟩ : ∃ q : Nat, kd = (q : Int) := ⟨kd.toNat, by omega⟩
        obtain ⟨tn, rfl⟩ : ∃ q : Nat, t = (q : Int) := ⟨t.toNat, by omega⟩
        have hP : cPlc k9 (kn : Int) x y (tn : Int) := ⟨by omega, by omega, by omega⟩
        refine k_aload_n Xc d_R_put_34 rfl rfl (n := 35) rfl ?_
        refine k_get Xc u_R rfl 8 (by decide) wd_142 rfl d_R_put_35 (n := 38) rfl hR.2.2.2.2.2.1.1 hR.2.2.2.2.2.1.2 rfl ?_
        refine k_bipush Xc d_R_put_38 rfl (n := 40) rfl ?_
        refine k_icmp_lt Xc d_R_put_40 (t := 53) (n := 43) rfl rfl (by omega) (by omega) (fun h_40 => ?_) (fun h_40 => ?_)
        · obtain ⟨p0, hp0, hf0⟩ := hc (by omega)
          refine k_aload_n Xc d_R_put_53 rfl rfl (n := 54) rfl ?_
          refine k_aload_n Xc d_R_put_54 rfl rfl (n := 55) rfl ?_
          refine k_get Xc u_R rfl 4 (by decide) wd_138 rfl d_R_put_55 (n := 58) rfl hR.2.2.2.2.2.1.1 hR.2.2.2.2.2.1.2 rfl ?_
          refine k_iload_n Xc d_R_put_58 rfl rfl (n := 59) rfl ?_
          refine k_aaldN Xc d_R_put_59 (n := 60) rfl hR.2.2.2.2.2.2.2.1.1 hR.2.2.2.2.2.2.2.1.2 rfl (by omega) (by decide) ?_
          refine k_iload_n Xc d_R_put_60 rfl rfl (n := 61) rfl ?_
          refine k_iload_n Xc d_R_put_61 rfl rfl (n := 62) rfl ?_
          refine k_iload Xc d_R_put_62 rfl (n := 64) rfl ?_
          refine k_qV (na := 4) Xc (m_R_canLie l D G hR z9 k9 hO kn (by omega) _ _ (by omega) (by omega) tn (by omega)) hR.2.2.2.2.2.1.1 hR.2.2.2.2.2.1.2 rfl wd_410 wd_407 wd_409 ws_3 wd_1 (by decide +kernel) ⟨by decide, by decide⟩ rfl rfl (Nat.le_of_ble_eq_true rfl) d_R_put_64 (n := 67) rfl ⟨Nat.zero_le _, Nat.zero_le _⟩ (fun r_64 e_64 => ?_)
          rcases e_64 with ⟨e_64, rfl⟩ | ⟨e_64, rfl⟩
          · refine k_if_ne Xc d_R_put_67 (t := 80) (n := 70) rfl rfl (by omega) (fun _ => ?_) (fun h_67 => absurd h_67 (by omega))
            refine k_aload_n Xc d_R_put_80 rfl rfl (n := 81) rfl ?_
            refine k_iload_n Xc d_R_put_81 rfl rfl (n := 82) rfl ?_
            refine k_iload_n Xc d_R_put_82 rfl rfl (n := 83) rfl ?_
            refine k_iload_n Xc d_R_put_83 rfl rfl (n := 84) rfl ?_
            refine k_iload Xc d_R_put_84 rfl (n := 86) rfl ?_
            refine k_wV (na := 4) Xc (m_R_addPart l D G hR o8 p0 hp0 hf0 kn (by omega) tn (by omega) ((o7 kn (by omega)).2.2.2.2 tn (by omega)).2.1 _ _ (by omega) (by omega)) hR.2.2.2.2.2.1.1 hR.2.2.2.2.2.1.2 rfl wd_495 wd_492 wd_494 ws_7 wd_1 (by decide +kernel) ⟨by decide, by decide⟩ rfl rfl (Nat.le_of_ble_eq_true rfl) d_R_put_86 (n := 89) rfl ⟨Nat.zero_le _, Nat.zero_le _⟩ (fun v_86 L_86 f_86 e_86 => ?_)
            obtain ⟨rfl, hF1, p, T1, V1, a1, a2, a3, rfl, a4, a5, a6, a7, a8, a9, a10, a11, a12, hR1⟩ := e_86
            refine k_iretX Xc d_R_put_89 hr rfl (Nat.zero_le _) (Nat.zero_le _) ?_
            exact ⟨rfl, hF1, _, T1, V1, rfl, Or.inr (Or.inr (Or.inr ⟨hP, by omega, e_64, rfl, p, rfl, a1, a2, a3, a4, a5, a6, a7, a8, a9, a10, a11, a12⟩)), hR1⟩
          · refine k_if_ne Xc d_R_put_67 (t := 80) (n := 70) rfl rfl (by omega) (fun h_67 => absurd h_67 (by omega)) (fun _ => ?_)
            refine k_throw Xc hlt hTh htab wd_508 wd_15 (List.mem_of_getElem? (i := 15) rfl) th_3 tg_3 (by decide) d_R_put_70 d_R_put_73 d_R_put_74 d_R_put_76 d_R_put_79 ⟨by decide, Nat.le_of_ble_eq_true rfl⟩ ⟨by decide, by decide⟩ ⟨by decide, by decide⟩ ?_
            exact ⟨rfl, rFr_rf, 3, T, V, by decide, rfl, Or.inr (Or.inr (Or.inl ⟨hP, by omega, e_64, rfl, rfl, rfl⟩)), hR⟩
        · refine k_throw Xc hlt hTh htab wd_266 wd_11 (List.mem_of_getElem? (i := 14) rfl) th_1 tg_1 (by decide) d_R_put_43 d_R_put_46 d_R_put_47 d_R_put_49 d_R_put_52 ⟨by decide, Nat.le_of_ble_eq_true rfl⟩ ⟨by decide, by decide⟩ ⟨by decide, by decide⟩ ?_
          exact ⟨rfl, rFr_rf, 2, T, V, by decide, rfl, Or.inr (Or.inl ⟨hP, by omega, rfl, rfl, rfl⟩), hR⟩
      · refine k_if_ne Xc d_R_put_21 (t := 34) (n := 24) rfl rfl (by omega) (fun h_21 => absurd h_21 (by omega)) (fun _ => ?_)
        refine k_throw Xc hlt hTh htab wd_197 wd_10 (List.mem_of_getElem? (i := 11) rfl) th_0 tg_0 (by decide) d_R_put_24 d_R_put_27 d_R_put_28 d_R_put_30 d_R_put_33 ⟨by decide, Nat.le_of_ble_eq_true rfl⟩ ⟨by decide, by decide⟩ ⟨by decide, by decide⟩ ?_
        exact ⟨rfl, rFr_rf, 1, T, V, by decide, rfl, Or.inl ⟨fun q => by obtain ⟨q1, q2, q3⟩ := q; omega, rfl, rfl, rfl⟩, hR⟩
    · refine k_if_eq Xc d_R_put_13 (t := 24) (n := 16) rfl rfl (by omega) (fun _ => ?_) (fun h_13 => absurd h_13 (by omega))
      refine k_throw Xc hlt hTh htab wd_197 wd_10 (List.mem_of_getElem? (i := 11) rfl) th_0 tg_0 (by decide) d_R_put_24 d_R_put_27 d_R_put_28 d_R_put_30 d_R_put_33 ⟨by decide, Nat.le_of_ble_eq_true rfl⟩ ⟨by decide, by decide⟩ ⟨by decide, by decide⟩ ?_
      exact ⟨rfl, rFr_rf, 1, T, V, by decide, rfl, Or.inl ⟨fun q => by obtain ⟨q1, q2, q3⟩ := q; omega, rfl, rfl, rfl⟩, hR⟩
  · refine k_if_eq Xc d_R_put_5 (t := 24) (n := 8) rfl rfl (by omega) (fun _ => ?_) (fun h_5 => absurd h_5 (by omega))
    refine k_throw Xc hlt hTh htab wd_197 wd_10 (List.mem_of_getElem? (i := 11) rfl) th_0 tg_0 (by decide) d_R_put_24 d_R_put_27 d_R_put_28 d_R_put_30 d_R_put_33 ⟨by decide, Nat.le_of_ble_eq_true rfl⟩ ⟨by decide, by decide⟩ ⟨by decide, by decide⟩ ?_
    exact ⟨rfl, rFr_rf, 1, T, V, by decide, rfl, Or.inl ⟨fun q => by obtain ⟨q1, q2, q3⟩ := q; omega, rfl, rfl, rfl⟩, hR⟩
set_option maxRecDepth 100000 in
set_option maxHeartbeats 4000000 in
theorem m_R_take (l : Launch) (hlt : l.stackTraces = false) (D : va_G) (G : Nat → ClassId) {L : List Nat} {f : Nat → va_E} {ad : Nat → Nat} {T : Nat → TT} {V : Nat → Int} (hR : zRm G L f ad T V) (z9 k9 : Nat) (hA : rAll T V z9 k9) (q : Int) (hq : zO q) : zMx l D G y_R_take (.code y_R_take c_R_take 2 (some .int) :: BG) (zRx 6 82) [.ref (ad 0), .int (zI q)] L f (xQ G L f ad (cTak T V q)) (xX ["", "java/util/NoSuchElementException"] G L f ad (cTak T V q)) := by
  refine zMx.of (by decide) (Nat.le_of_ble_eq_true rfl) rfl (fun p e s m args below meth c A Xc hTh htab hr => ?_)
  obtain ⟨hW, hO, hk9, h2, hc⟩ := hA
  have hO2 := hO
  obtain ⟨o1, o2, o3, o4, o5, o6, o7, o8, o9⟩ := hO2
  refine k_aload_n Xc d_R_take_0 rfl rfl (n := 1) rfl ?_
  refine k_iload_n Xc d_R_take_1 rfl rfl (n := 2) rfl ?_
  refine k_qV (na := 1) Xc (m_R_isPart l D G hR o8 _ hq) hR.2.2.2.2.2.1.1 hR.2.2.2.2.2.1.2 rfl wd_534 wd_531 wd_533 ws_8 wd_1 (by decide +kernel) ⟨by decide, by decide⟩ rfl rfl (Nat.le_of_ble_eq_true rfl) d_R_take_2 (n := 5) rfl ⟨Nat.zero_le _, Nat.zero_le _⟩ (fun r_2 e_2 => ?_)
  rcases e_2 with ⟨e_2, rfl⟩ | ⟨e_2, rfl⟩
  · refine k_if_ne Xc d_R_take_5 (t := 18) (n := 8) rfl rfl (by omega) (fun _ => ?_) (fun h_5 => absurd h_5 (by omega))
    have hL : cLies V q := e_2
    obtain ⟨i, rfl⟩ : ∃ i : Nat, q = (i : Int) := ⟨q.toNat, by omega⟩
    have li := o8 i (by omega)
    refine k_aload_n Xc d_R_take_18 rfl rfl (n := 19) rfl ?_
    refine k_get Xc u_R rfl 5 (by decide) wd_139 rfl d_R_take_19 (n := 22) rfl hR.2.2.2.2.2.1.1 hR.2.2.2.2.2.1.2 rfl ?_
    refine k_iload_n Xc d_R_take_22 rfl rfl (n := 23) rfl ?_
    refine k_aaldN Xc d_R_take_23 (n := 24) rfl hR.2.2.2.2.2.2.2.2.1 hR.2.2.2.2.2.2.2.2.2 rfl (by omega) (by decide) ?_
    refine k_iconst Xc d_R_take_24 (n := 25) rfl ?_
    refine k_put Xc u_P t_P_ok n_P rfl 1 (by decide) wd_112 rfl rfl rfl rfl d_R_take_25 (n := 28) rfl (hR.2.2.2.2.1 i (by omega)).1 (hR.2.2.2.2.1 i (by omega)).2 (Nat.le_of_ble_eq_true rfl) ?_
    obtain ⟨⟨V1, v1, v2, v3, v4, v5, v6, hR1⟩, hF1⟩ := zRm_part hR (i := i) (by omega) 0 (V (60 + i)) (V (80 + i)) (V (100 + i)) (V (120 + i))
    generalize hf1 : va_up f (ad (40 + i)) (Sum.inr (1, [Value.ref (ad (100 + (32 + i))), Value.int (zI 0), Value.int (zI (V (60 + i))), Value.int (zI (V (80 + i))), Value.int (zI (V (100 + i))), Value.int (zI (V (120 + i)))])) = f1 at hR1 hF1
    refine k_heap (g := f1) (by rw [← hf1]; rfl) ?_
    have v7 : V1 2 = V 2 := v6 2 (by omega) (by omega) (by omega) (by omega) (by omega)
    refine k_aload_n Xc d_R_take_28 rfl rfl (n := 29) rfl ?_
    refine k_dup Xc d_R_take_29 rfl (n := 30) rfl ?_
    refine k_get Xc u_R rfl 8 (by decide) wd_142 rfl d_R_take_30 (n := 33) rfl hR1.2.2.2.2.2.1.1 hR1.2.2.2.2.2.1.2 rfl ?_
    refine k_iconst Xc d_R_take_33 (n := 34) rfl ?_
    refine k_isub Xc d_R_take_34 (n := 35) rfl ?_
    refine k_put Xc u_R t_R_ok n_R rfl 8 (by decide) wd_142 rfl rfl rfl rfl d_R_take_35 (n := 38) rfl hR1.2.2.2.2.2.1.1 hR1.2.2.2.2.2.1.2 (Nat.le_of_ble_eq_true rfl) ?_
    obtain ⟨⟨V2, w0, w1, w2, w3, hR2⟩, hF2⟩ := zRm_cnt hR1 (V1 0) (V1 1) (V1 2 - 1)
    generalize hf2 : va_up f1 (ad 0) (Sum.inr (4, [Value.ref (ad (100 + 0)), Value.ref (ad (100 + 1)), Value.ref (ad (100 + 2)), Value.ref (ad 1), Value.ref (ad 2), Value.ref (ad 3), Value.int (zI (V1 0)), Value.int (zI (V1 1)), Value.int (zI (V1 2 - 1))])) = f2 at hR2 hF2
    refine k_heap (g := f2) (by rw [← hf2]; rfl) ?_
    refine k_aload_n Xc d_R_take_38 rfl rfl (n := 39) rfl ?_
    refine k_get Xc u_R rfl 5 (by decide) wd_139 rfl d_R_take_39 (n := 42) rfl hR2.2.2.2.2.2.1.1 hR2.2.2.2.2.2.1.2 rfl ?_
    refine k_iload_n Xc d_R_take_42 rfl rfl (n := 43) rfl ?_
    refine k_aaldN Xc d_R_take_43 (n := 44) rfl hR2.2.2.2.2.2.2.2.2.1 hR2.2.2.2.2.2.2.2.2.2 rfl (by omega) (by decide) ?_
    refine k_get Xc u_P rfl 2 (by decide) wd_114 rfl d_R_take_44 (n := 47) rfl (hR2.2.2.2.2.1 i (by omega)).1 (hR2.2.2.2.2.1 i (by omega)).2 rfl ?_
    refine k_iretX Xc d_R_take_47 hr rfl (Nat.zero_le _) (Nat.zero_le _) ?_
    refine ⟨rfl, rFr_tr hF1 hF2, V (60 + i), T, V2, ?_, ⟨rfl, Or.inr ⟨hL, rfl, rfl, ?_, ?_, ?_⟩⟩, hR2⟩
    · rw [w3 _ (by omega), v2]
    · show V2 (40 + i) = 0
      rw [w3 _ (by omega)]; exact v1
    · rw [w2, v7]
    · intro c c1 c2
      have c1 : c ≠ 40 + i := c1
      have key : V1 c = V c := by
        by_cases e2 : c = 60 + i
        · subst e2; exact v2
        · by_cases e3 : c = 80 + i
          · subst e3; exact v3
          · by_cases e4 : c = 100 + i
            · subst e4; exact v4
            · by_cases e5 : c = 120 + i
              · subst e5; exact v5
              · exact v6 c c1 e2 e3 e4 e5
      rcases (show c = 0 ∨ c = 1 ∨ 3 ≤ c by omega) with y | y | y
      · subst y; rw [w0]; exact key
      · subst y; rw [w1]; exact key
      · rw [w3 c y]; exact key
  · refine k_if_ne Xc d_R_take_5 (t := 18) (n := 8) rfl rfl (by omega) (fun h_5 => absurd h_5 (by omega)) (fun _ => ?_)
    refine k_throwG Xc hlt hTh htab nse_0 nse_1 nse_2 nse_5 wd_468 wd_14 (List.mem_of_getElem? (i := 16) rfl) th_2 tg_2 (by decide) d_R_take_8 d_R_take_11 d_R_take_12 d_R_take_14 d_R_take_17 ⟨by decide, Nat.le_of_ble_eq_true rfl⟩ ⟨by decide, by decide⟩ ⟨by decide, by decide⟩ ?_
    exact ⟨rfl, rFr_rf, 1, T, V, by decide, rfl, ⟨rfl, Or.inl ⟨e_2, rfl, rfl⟩⟩, hR⟩
set_option maxRecDepth 100000 in
set_option maxHeartbeats 4000000 in
theorem m_R_part (l : Launch) (hlt : l.stackTraces = false) (D : va_G) (G : Nat → ClassId) {L : List Nat} {f : Nat → va_E} {ad : Nat → Nat} {T : Nat → TT} {V : Nat → Int} (hR : zRm G L f ad T V) (z9 k9 : Nat) (hA : rAll T V z9 k9) (q w : Int) (hq : zO q) (hw : zO w) : zMx l D G y_R_part (.code y_R_part c_R_part 3 (some .int) :: BG) (zRx 6 82) [.ref (ad 0), .int (zI q), .int (zI w)] L f (xQ G L f ad (cPrt T V q w)) (xX ["", "java/lang/IllegalArgumentException", "java/util/NoSuchElementException"] G L f ad (cPrt T V q w)) := by
  refine zMx.of (by decide) (Nat.le_of_ble_eq_true rfl) rfl (fun p e s m args below meth c A Xc hTh htab hr => ?_)
  obtain ⟨hW, hO, hk9, h2, hc⟩ := hA
  have hO2 := hO
  obtain ⟨o1, o2, o3, o4, o5, o6, o7, o8, o9⟩ := hO2
  refine k_iload_n Xc d_R_part_0 rfl rfl (n := 1) rfl ?_
  refine k_if_lt Xc d_R_part_1 (t := 9) (n := 4) rfl rfl (by omega) (fun h_1 => ?_) (fun h_1 => ?_)
  · refine k_throw Xc hlt hTh htab wd_197 wd_10 (List.mem_of_getElem? (i := 17) rfl) th_0 tg_0 (by decide) d_R_part_9 d_R_part_12 d_R_part_13 d_R_part_15 d_R_part_18 ⟨by decide, Nat.le_of_ble_eq_true rfl⟩ ⟨by decide, by decide⟩ ⟨by decide, by decide⟩ ?_
    exact ⟨rfl, rFr_rf, 1, T, V, by decide, rfl, ⟨rfl, rfl, Or.inl ⟨by omega, rfl⟩⟩, hR⟩
  · refine k_iload_n Xc d_R_part_4 rfl rfl (n := 5) rfl ?_
    refine k_iconst Xc d_R_part_5 (n := 6) rfl ?_
    refine k_icmp_le Xc d_R_part_6 (t := 19) (n := 9) rfl rfl (by omega) (by omega) (fun h_6 => ?_) (fun h_6 => ?_)
    · refine k_aload_n Xc d_R_part_19 rfl rfl (n := 20) rfl ?_
      refine k_iload_n Xc d_R_part_20 rfl rfl (n := 21) rfl ?_
      refine k_qV (na := 1) Xc (m_R_isPart l D G hR o8 _ hq) hR.2.2.2.2.2.1.1 hR.2.2.2.2.2.1.2 rfl wd_534 wd_531 wd_533 ws_8 wd_1 (by decide +kernel) ⟨by decide, by decide⟩ rfl rfl (Nat.le_of_ble_eq_true rfl) d_R_part_21 (n := 24) rfl ⟨Nat.zero_le _, Nat.zero_le _⟩ (fun r_21 e_21 => ?_)
      rcases e_21 with ⟨e_21, rfl⟩ | ⟨e_21, rfl⟩
      · refine k_if_ne Xc d_R_part_24 (t := 37) (n := 27) rfl rfl (by omega) (fun _ => ?_) (fun h_24 => absurd h_24 (by omega))
        have hL : cLies V q := e_21
        obtain ⟨i, rfl⟩ : ∃ i : Nat, q = (i : Int) := ⟨q.toNat, by omega⟩
        have li := o8 i (by omega)
        refine k_iload_n Xc d_R_part_37 rfl rfl (n := 38) rfl ?_
        rcases (show w = 0 ∨ w = 1 ∨ w = 2 ∨ w = 3 by omega) with y | y | y | y
        · subst y
          refine k_tin Xc d_R_part_38 (z := 0) (by omega) (by decide) (by decide) (off := 26) rfl (tgt := 64) rfl ?_
          refine k_aload_n Xc d_R_part_64 rfl rfl (n := 65) rfl ?_
          refine k_get Xc u_R rfl 5 (by decide) wd_139 rfl d_R_part_65 (n := 68) rfl hR.2.2.2.2.2.1.1 hR.2.2.2.2.2.1.2 rfl ?_
          refine k_iload_n Xc d_R_part_68 rfl rfl (n := 69) rfl ?_
          refine k_aaldN Xc d_R_part_69 (n := 70) rfl hR.2.2.2.2.2.2.2.2.1 hR.2.2.2.2.2.2.2.2.2 rfl (by omega) (by decide) ?_
          refine k_get Xc u_P rfl 2 (by decide) wd_114 rfl d_R_part_70 (n := 73) rfl (hR.2.2.2.2.1 i (by omega)).1 (hR.2.2.2.2.1 i (by omega)).2 rfl ?_
          refine k_iretX Xc d_R_part_73 hr rfl (Nat.zero_le _) (Nat.zero_le _) ?_
          exact ⟨rfl, rFr_rf, _, T, V, rfl, ⟨rfl, rfl, Or.inr (Or.inr ⟨by omega, hL, rfl, rfl⟩)⟩, hR⟩
        · subst y
          refine k_tin Xc d_R_part_38 (z := 1) (by omega) (by decide) (by decide) (off := 36) rfl (tgt := 74) rfl ?_
          refine k_aload_n Xc d_R_part_74 rfl rfl (n := 75) rfl ?_
          refine k_get Xc u_R rfl 5 (by decide) wd_139 rfl d_R_part_75 (n := 78) rfl hR.2.2.2.2.2.1.1 hR.2.2.2.2.2.1.2 rfl ?_
          refine k_iload_n Xc d_R_part_78 rfl rfl (n := 79) rfl ?_
          refine k_aaldN Xc d_R_part_79 (n := 80) rfl hR.2.2.2.2.2.2.2.2.1 hR.2.2.2.2.2.2.2.2.2 rfl (by omega) (by decide) ?_
          refine k_get Xc u_P rfl 3 (by decide) wd_116 rfl d_R_part_80 (n := 83) rfl (hR.2.2.2.2.1 i (by omega)).1 (hR.2.2.2.2.1 i (by omega)).2 rfl ?_
          refine k_iretX Xc d_R_part_83 hr rfl (Nat.zero_le _) (Nat.zero_le _) ?_
          exact ⟨rfl, rFr_rf, _, T, V, rfl, ⟨rfl, rfl, Or.inr (Or.inr ⟨by omega, hL, rfl, rfl⟩)⟩, hR⟩
        · subst y
          refine k_tin Xc d_R_part_38 (z := 2) (by omega) (by decide) (by decide) (off := 46) rfl (tgt := 84) rfl ?_
          refine k_aload_n Xc d_R_part_84 rfl rfl (n := 85) rfl ?_
          refine k_get Xc u_R rfl 5 (by decide) wd_139 rfl d_R_part_85 (n := 88) rfl hR.2.2.2.2.2.1.1 hR.2.2.2.2.2.1.2 rfl ?_
          refine k_iload_n Xc d_R_part_88 rfl rfl (n := 89) rfl ?_
          refine k_aaldN Xc d_R_part_89 (n := 90) rfl hR.2.2.2.2.2.2.2.2.1 hR.2.2.2.2.2.2.2.2.2 rfl (by omega) (by decide) ?_
          refine k_get Xc u_P rfl 4 (by decide) wd_118 rfl d_R_part_90 (n := 93) rfl (hR.2.2.2.2.1 i (by omega)).1 (hR.2.2.2.2.1 i (by omega)).2 rfl ?_
          refine k_iretX Xc d_R_part_93 hr rfl (Nat.zero_le _) (Nat.zero_le _) ?_
          exact ⟨rfl, rFr_rf, _, T, V, rfl, ⟨rfl, rfl, Or.inr (Or.inr ⟨by omega, hL, rfl, rfl⟩)⟩, hR⟩
        · subst y
          refine k_tout Xc d_R_part_38 (z := 3) (by omega) (by decide) (tgt := 94) rfl ?_
          refine k_aload_n Xc d_R_part_94 rfl rfl (n := 95) rfl ?_
          refine k_get Xc u_R rfl 5 (by decide) wd_139 rfl d_R_part_95 (n := 98) rfl hR.2.2.2.2.2.1.1 hR.2.2.2.2.2.1.2 rfl ?_
          refine k_iload_n Xc d_R_part_98 rfl rfl (n := 99) rfl ?_
          refine k_aaldN Xc d_R_part_99 (n := 100) rfl hR.2.2.2.2.2.2.2.2.1 hR.2.2.2.2.2.2.2.2.2 rfl (by omega) (by decide) ?_
          refine k_get Xc u_P rfl 5 (by decide) wd_120 rfl d_R_part_100 (n := 103) rfl (hR.2.2.2.2.1 i (by omega)).1 (hR.2.2.2.2.1 i (by omega)).2 rfl ?_
          refine k_iretX Xc d_R_part_103 hr rfl (Nat.zero_le _) (Nat.zero_le _) ?_
          exact ⟨rfl, rFr_rf, _, T, V, rfl, ⟨rfl, rfl, Or.inr (Or.inr ⟨by omega, hL, rfl, rfl⟩)⟩, hR⟩
      · refine k_if_ne Xc d_R_part_24 (t := 37) (n := 27) rfl rfl (by omega) (fun h_24 => absurd h_24 (by omega)) (fun _ => ?_)
        refine k_throwG Xc hlt hTh htab nse_0 nse_1 nse_2 nse_5 wd_468 wd_14 (List.mem_of_getElem? (i := 16) rfl) th_2 tg_2 (by decide) d_R_part_27 d_R_part_30 d_R_part_31 d_R_part_33 d_R_part_36 ⟨by decide, Nat.le_of_ble_eq_true rfl⟩ ⟨by decide, by decide⟩ ⟨by decide, by decide⟩ ?_
        exact ⟨rfl, rFr_rf, 2, T, V, by decide, rfl, ⟨rfl, rfl, Or.inr (Or.inl ⟨by omega, e_21, rfl⟩)⟩, hR⟩
    · refine k_throw Xc hlt hTh htab wd_197 wd_10 (List.mem_of_getElem? (i := 17) rfl) th_0 tg_0 (by decide) d_R_part_9 d_R_part_12 d_R_part_13 d_R_part_15 d_R_part_18 ⟨by decide, Nat.le_of_ble_eq_true rfl⟩ ⟨by decide, by decide⟩ ⟨by decide, by decide⟩ ?_
      exact ⟨rfl, rFr_rf, 1, T, V, by decide, rfl, ⟨rfl, rfl, Or.inl ⟨by omega, rfl⟩⟩, hR⟩
