-- BASE 3: words for what writers of shapes do
def sFr (f f1 : Nat → va_E) (a ax ay : Nat) : Prop := ∀ q, q ≠ a → q ≠ ax → q ≠ ay → f1 q = f q
def sAp (a ax ay b bx b_y : Nat) : Prop := b ≠ a ∧ bx ≠ ax ∧ bx ≠ ay ∧ b_y ≠ ax ∧ b_y ≠ ay
theorem zS_ne {G : Nat → ClassId} {L : List Nat} {f : Nat → va_E} {a ax ay n : Nat} {X Y : Int → Int} {lx hx ly hy : Int} (h : zS G L f a ax ay n X Y lx hx ly hy) : ax ≠ a ∧ ay ≠ a := by
  obtain ⟨-, -, -, h1, h2, h3⟩ := h
  refine ⟨fun e => ?_, fun e => ?_⟩
  · rw [e, h1] at h2; unfold zr at h2; cases h2
  · rw [e, h1] at h3; unfold zr at h3; cases h3
theorem zS_ne2 {G : Nat → ClassId} {L : List Nat} {f : Nat → va_E} {a ax ay n : Nat} {X Y : Int → Int} {lx hx ly hy : Int} (h : zS G L f a ax ay n X Y lx hx ly hy) {b bx b_y k2 : Nat} {U V : Int → Int} {lu hu lv hv : Int} (t : zS G L f b bx b_y k2 U V lu hu lv hv) : b ≠ ax ∧ b ≠ ay := by
  obtain ⟨-, -, -, -, h2, h3⟩ := h
  obtain ⟨-, -, -, h1, -, -⟩ := t
  refine ⟨fun e => ?_, fun e => ?_⟩
  · rw [← e, h1] at h2; unfold zr at h2; cases h2
  · rw [← e, h1] at h3; unfold zr at h3; cases h3
theorem zS_keep {G : Nat → ClassId} {L : List Nat} {f g : Nat → va_E} {a ax ay n : Nat} {X Y : Int → Int} {lx hx ly hy : Int} (h : zS G L f a ax ay n X Y lx hx ly hy) {b bx b_y k2 : Nat} {U V : Int → Int} {lu hu lv hv : Int} (t : zS G L f b bx b_y k2 U V lu hu lv hv) (hF : sFr f g a ax ay) (ap : sAp a ax ay b bx b_y) : zS G L g b bx b_y k2 U V lu hu lv hv := by
  obtain ⟨p1, p2⟩ := zS_ne2 h t
  obtain ⟨r1, r2⟩ := zS_ne2 t h
  obtain ⟨a1, a2, a3, a4, a5⟩ := ap
  obtain ⟨m1, m2, m3, t1, t2, t3⟩ := t
  exact ⟨m1, m2, m3, (hF b a1 p1 p2).trans t1, (hF bx (Ne.symm r1) a2 a3).trans t2, (hF b_y (Ne.symm r2) a4 a5).trans t3⟩
theorem sFr_tr {f g h : Nat → va_E} {a ax ay : Nat} (h1 : sFr f g a ax ay) (h2 : sFr g h a ax ay) : sFr f h a ax ay := fun q q1 q2 q3 => (h2 q q1 q2 q3).trans (h1 q q1 q2 q3)
theorem sFr_rf {f : Nat → va_E} {a ax ay : Nat} : sFr f f a ax ay := fun _ _ _ _ => rfl
def bxl (n : Nat) (l x : Int) : Int := if n = 0 then x else min l x
def bxh (n : Nat) (l x : Int) : Int := if n = 0 then x else max l x
/-- the least box -/
def sBx (n : Nat) (X Y : Int → Int) (lx hx ly hy : Int) : Prop := 0 < n →
  (∀ j : Nat, j < n → lx ≤ X (j : Int) ∧ X (j : Int) ≤ hx ∧ ly ≤ Y (j : Int) ∧ Y (j : Int) ≤ hy) ∧ (∃ j : Nat, j < n ∧ X (j : Int) = lx) ∧ (∃ j : Nat, j < n ∧ X (j : Int) = hx) ∧ (∃ j : Nat, j < n ∧ Y (j : Int) = ly) ∧ (∃ j : Nat, j < n ∧ Y (j : Int) = hy)
theorem iu_at (X : Int → Int) (z v : Int) : iu X z v z = v := if_pos rfl
theorem iu_ne {X : Int → Int} {z v q : Int} (h : q ≠ z) : iu X z v q = X q := if_neg h
theorem iu_nat {X : Int → Int} {n j : Nat} {v : Int} (h : j < n) : iu X (n : Int) v (j : Int) = X (j : Int) := if_neg (by omega)
theorem sBx_add {n : Nat} {X Y : Int → Int} {lx hx ly hy : Int} (h : sBx n X Y lx hx ly hy) (x y : Int) : sBx (n + 1) (iu X (n : Int) x) (iu Y (n : Int) y) (bxl n lx x) (bxh n hx x) (bxl n ly y) (bxh n hy y) := by
  intro _
  by_cases hn : n = 0
  · subst hn
    unfold bxl bxh
    simp only [if_true]
    refine ⟨fun j hj => ?_, ⟨0, by omega, iu_at _ _ _⟩, ⟨0, by omega, iu_at _ _ _⟩, ⟨0, by omega, iu_at _ _ _⟩, ⟨0, by omega, iu_at _ _ _⟩⟩
    have e : j = 0 := by omega
    subst e
    rw [iu_at, iu_at]
    omega
  · obtain ⟨h1, ⟨j1, a1, b1⟩, ⟨j2, a2, b2⟩, ⟨j3, a3, b3⟩, ⟨j4, a4, b4⟩⟩ := h (by omega)
    unfold bxl bxh
    simp only [if_neg hn]
    have old : ∀ j : Nat, j < n → iu X (n : Int) x (j : Int) = X (j : Int) ∧ iu Y (n : Int) y (j : Int) = Y (j : Int) := fun j hj => ⟨iu_nat hj, iu_nat hj⟩
    refine ⟨fun j hj => ?_, ?_, ?_, ?_, ?_⟩
    · rcases Nat.lt_or_ge j n with q | q
      · rw [(old j q).1, (old j q).2]
        have := h1 j q
        omega
      · have e : j = n := by omega
        subst e
        rw [iu_at, iu_at]
        omega
    · rcases Int.le_total lx x with q | q
      · exact ⟨j1, by omega, by rw [(old j1 a1).1, b1]; omega⟩
      · exact ⟨n, by omega, by rw [iu_at]; omega⟩
    · rcases Int.le_total hx x with q | q
      · exact ⟨n, by omega, by rw [iu_at]; omega⟩
      · exact ⟨j2, by omega, by rw [(old j2 a2).1, b2]; omega⟩
    · rcases Int.le_total ly y with q | q
      · exact ⟨j3, by omega, by rw [(old j3 a3).2, b3]; omega⟩
      · exact ⟨n, by omega, by rw [iu_at]; omega⟩
    · rcases Int.le_total hy y with q | q
      · exact ⟨n, by omega, by rw [iu_at]; omega⟩
      · exact ⟨j4, by omega, by rw [(old j4 a4).2, b4]; omega⟩
def sIs (n : Nat) (X Y : Int → Int) (gx gy : Nat → Int) : Prop := ∀ j : Nat, j < n → X (j : Int) = gx j ∧ Y (j : Int) = gy j
theorem sIs_add {n : Nat} {X Y : Int → Int} {gx gy : Nat → Int} (h : sIs n X Y gx gy) {x y : Int} (hx : x = gx n) (hy : y = gy n) : sIs (n + 1) (iu X (n : Int) x) (iu Y (n : Int) y) gx gy := by
  intro j hj
  rcases Nat.lt_or_ge j n with q | q
  · rw [iu_nat q, iu_nat q]; exact h j q
  · have e : j = n := by omega
    subst e
    rw [iu_at, iu_at]; exact ⟨hx, hy⟩
/-- a box of corners of moderate size is of moderate size -/
theorem sBx_bd {n : Nat} {X Y : Int → Int} {lx hx ly hy : Int} (h : sBx n X Y lx hx ly hy) {gx gy : Nat → Int} (hi : sIs n X Y gx gy) {B : Int} (hg : ∀ j, j < n → -B ≤ gx j ∧ gx j ≤ B ∧ -B ≤ gy j ∧ gy j ≤ B) (hn : 0 < n) : -B ≤ lx ∧ lx ≤ B ∧ -B ≤ hx ∧ hx ≤ B ∧ -B ≤ ly ∧ ly ≤ B ∧ -B ≤ hy ∧ hy ≤ B := by
  obtain ⟨-, ⟨j1, a1, b1⟩, ⟨j2, a2, b2⟩, ⟨j3, a3, b3⟩, ⟨j4, a4, b4⟩⟩ := h hn
  have c1 := hg j1 a1
  have c2 := hg j2 a2
  have c3 := hg j3 a3
  have c4 := hg j4 a4
  rw [← (hi j1 a1).1, b1] at c1
  rw [← (hi j2 a2).1, b2] at c2
  rw [← (hi j3 a3).2, b3] at c3
  rw [← (hi j4 a4).2, b4] at c4
  omega
/-- a new shape at a: its corners are gx, gy; nothing else has changed -/
def zN (G : Nat → ClassId) (L : List Nat) (f f1 : Nat → va_E) (a ax ay n : Nat) (gx gy : Nat → Int) : Prop :=
  ∃ (X Y : Int → Int) (lx hx ly hy : Int), zS G L f1 a ax ay n X Y lx hx ly hy ∧ sFr f f1 a ax ay ∧ sIs n X Y gx gy ∧ sBx n X Y lx hx ly hy
