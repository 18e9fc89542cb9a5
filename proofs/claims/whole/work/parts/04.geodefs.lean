-- GEOMETRY: words
/-- p lies between a and b -/
def ge_bt (a b p : Int) : Prop := (a ≤ p ∧ p ≤ b) ∨ (b ≤ p ∧ p ≤ a)
def ge_cr (ax ay bx b_y px py : Int) : Int := (bx - ax) * (py - ay) - (b_y - ay) * (px - ax)
def ge_on (ax ay bx b_y px py : Int) : Prop := ge_cr ax ay bx b_y px py = 0 ∧ ge_bt ax bx px ∧ ge_bt ay b_y py
/-- the ranges of a, b and of c, d have a number in common -/
def ge_rg (a b c d : Int) : Prop := (c ≤ a ∨ d ≤ a ∨ c ≤ b ∨ d ≤ b) ∧ (a ≤ c ∨ b ≤ c ∨ a ≤ d ∨ b ≤ d)
/-- boxes and sides of lines -/
def ge_bx (ax ay bx b_y cx cy dx dy : Int) : Prop := ge_rg ax bx cx dx ∧ ge_rg ay b_y cy dy ∧
  ge_cr ax ay bx b_y cx cy * ge_cr ax ay bx b_y dx dy ≤ 0 ∧ ge_cr cx cy dx dy ax ay * ge_cr cx cy dx dy bx b_y ≤ 0
def ge_any (ax ay bx b_y cx cy dx dy : Int) : Prop := ge_on ax ay bx b_y cx cy ∨ ge_on ax ay bx b_y dx dy ∨ ge_on cx cy dx dy ax ay ∨ ge_on cx cy dx dy bx b_y
/-- each stretch goes right through the other -/
def ge_thru (ax ay bx b_y cx cy dx dy : Int) : Prop :=
  ge_cr ax ay bx b_y cx cy * ge_cr ax ay bx b_y dx dy < 0 ∧ ge_cr cx cy dx dy ax ay * ge_cr cx cy dx dy bx b_y < 0
def ge_x (a b : Int × Int) : Int := a.1 * b.2 - a.2 * b.1
def ge_d (a b : Int × Int) : Int := a.1 * b.1 + a.2 * b.2
def ge_nx (n i : Nat) : Nat := if i + 1 < n then i + 1 else 0
def ge_pv (n i : Nat) : Nat := if i = 0 then n - 1 else i - 1
/-- the inner normal of a side, where the corners go round to the left -/
def ge_nv (P : Nat → Int × Int) (n i : Nat) : Int × Int := ((P i).2 - (P (ge_nx n i)).2, (P (ge_nx n i)).1 - (P i).1)
def ge_bs (P : Nat → Int × Int) (n i : Nat) (p : Int × Int) : Int := ((P (ge_nx n i)).1 - (P i).1) * (p.2 - (P i).2) - ((P (ge_nx n i)).2 - (P i).2) * (p.1 - (P i).1)
def ge_ccw (n : Nat) (P : Nat → Int × Int) : Prop := ∀ i k, i < n → k < n → k ≠ i → k ≠ ge_nx n i → 0 < ge_bs P n i (P k)
/-- the stretches v w and m n have no point in common -/
def ge_dj (v w m n : Int × Int) : Prop := ∀ a b c e : Int, 0 ≤ a → 0 ≤ b → 0 ≤ c → 0 ≤ e → 0 < a + b → a + b = c + e →
  a * v.1 + b * w.1 = c * m.1 + e * n.1 → a * v.2 + b * w.2 = c * m.2 + e * n.2 → False
/-- where the ray from m to the right meets the side v w -/
def ge_hit (m v w : Int × Int) : Prop := (v.2 ≤ m.2 ∧ m.2 < w.2 ∧ 0 < ge_cr v.1 v.2 w.1 w.2 m.1 m.2) ∨ (w.2 ≤ m.2 ∧ m.2 < v.2 ∧ ge_cr v.1 v.2 w.1 w.2 m.1 m.2 < 0)
/-- right of m n, and between their heights (m is the lower one) -/
def ge_in (m n v : Int × Int) : Prop := m.2 < v.2 ∧ v.2 ≤ n.2 ∧ ge_cr m.1 m.2 n.1 n.2 v.1 v.2 < 0
/-- the parity: whether the ray meets an odd number of the sides 0 .. k - 1 -/
noncomputable def ge_odd (n : Nat) (V : Nat → Int × Int) (m : Int × Int) : Nat → Prop
  | 0 => False
  | k + 1 => ¬ (ge_odd n V m k ↔ ge_hit m (V k) (V (ge_nx n k)))
/-- no point of one lies beyond all of the other in the direction d, or the other way -/
def ge_pt (n : Nat) (P : Nat → Int × Int) (m : Nat) (Q : Nat → Int × Int) (d : Int × Int) : Prop :=
  (∀ i k, i < n → k < m → ge_d d (P i) ≤ ge_d d (Q k)) ∨ (∀ i k, i < n → k < m → ge_d d (Q k) ≤ ge_d d (P i))
/-- the reference: no side's normal parts them -/
def ge_ov (n : Nat) (P : Nat → Int × Int) (m : Nat) (Q : Nat → Int × Int) : Prop :=
  (∀ i, i < n → ¬ ge_pt n P m Q (ge_nv P n i)) ∧ (∀ k, k < m → ¬ ge_pt n P m Q (ge_nv Q m k))
/-- the corners the other way round -/
def ge_rev (n : Nat) (P : Nat → Int × Int) : Nat → Int × Int := fun i => P (n - 1 - i)
/-- the class: boxes, then sides, each from within -/
def ge_apart (n : Nat) (P : Nat → Int × Int) (m : Nat) (Q : Nat → Int × Int) : Prop :=
  (∀ i k, i < n → k < m → (Q k).1 ≤ (P i).1) ∨ (∀ i k, i < n → k < m → (P i).1 ≤ (Q k).1) ∨ (∀ i k, i < n → k < m → (Q k).2 ≤ (P i).2) ∨ (∀ i k, i < n → k < m → (P i).2 ≤ (Q k).2)
def ge_sp (n : Nat) (P : Nat → Int × Int) (m : Nat) (Q : Nat → Int × Int) : Prop := ∃ i, i < n ∧ ∀ k, k < m → ge_bs P n i (Q k) ≤ 0
def ge_ov2 (n : Nat) (P : Nat → Int × Int) (m : Nat) (Q : Nat → Int × Int) : Prop := ¬ ge_apart n P m Q ∧ ¬ ge_sp n P m Q ∧ ¬ ge_sp m Q n P
def ge_two2 (A B : Int × Int) : Nat → Int × Int := fun i => if i = 0 then A else B
/-- the class: the side A B has points inside the piece Q -/
def ge_cut (A B : Int × Int) (m : Nat) (Q : Nat → Int × Int) : Prop :=
  ¬ ((∀ k, k < m → A.1 ≤ (Q k).1 ∧ B.1 ≤ (Q k).1) ∨ (∀ k, k < m → (Q k).1 ≤ A.1 ∧ (Q k).1 ≤ B.1) ∨ (∀ k, k < m → A.2 ≤ (Q k).2 ∧ B.2 ≤ (Q k).2) ∨ (∀ k, k < m → (Q k).2 ≤ A.2 ∧ (Q k).2 ≤ B.2)) ∧
  (∃ k, k < m ∧ 0 < ge_cr A.1 A.2 B.1 B.2 (Q k).1 (Q k).2) ∧ (∃ k, k < m ∧ ge_cr A.1 A.2 B.1 B.2 (Q k).1 (Q k).2 < 0) ∧
  ¬ ∃ k, k < m ∧ ge_bs Q m k A ≤ 0 ∧ ge_bs Q m k B ≤ 0
def ge_3 (V : Nat → Int × Int) : Nat → Int × Int := fun k => (3 * (V k).1, 3 * (V k).2)
def ge_mid3 (a b c : Int × Int) : Int × Int := (a.1 + b.1 + c.1, a.2 + b.2 + c.2)
/-- the reference's question of one side -/
def ge_hitM (m v w : Int × Int) : Prop := ¬ (m.2 < v.2 ↔ m.2 < w.2) ∧ (0 < ge_cr v.1 v.2 w.1 w.2 m.1 m.2 ↔ v.2 < w.2)
def ge_cw (n : Nat) (P : Nat → Int × Int) : Prop := ∀ i k, i < n → k < n → k ≠ i → k ≠ ge_nx n i → ge_bs P n i (P k) < 0
/-- the class: the sign of the first corner that tells -/
def ge_rd (n : Nat) (P : Nat → Int × Int) : Prop := ∀ i k, i < n → k < n → k ≠ i → k ≠ ge_nx n i → 0 < (if 0 < ge_bs P n 0 (P 2) then 1 else -1) * ge_bs P n i (P k)
def ge_sumN (f : Nat → Nat) : Nat → Nat
  | 0 => 0
  | k + 1 => ge_sumN f k + f k
def ge_sm (f : Nat → Int) : Nat → Int
  | 0 => 0
  | k + 1 => ge_sm f k + f k
def ge_sd (n : Nat) (P : Nat → Int × Int) (k : Nat) : Int := (P k).1 * (P (ge_nx n k)).2 - (P (ge_nx n k)).1 * (P k).2
def ge_ar (n : Nat) (P : Nat → Int × Int) (k : Nat) : Int := ge_sm (ge_sd n P) k
/-- the fan from corner 0 -/
def ge_fan (P : Nat → Int × Int) : Nat → Int
  | 0 => 0
  | k + 1 => ge_fan P k + ge_cr (P k).1 (P k).2 (P (k + 1)).1 (P (k + 1)).2 (P 0).1 (P 0).2
/-- x and y changed: the way turns too, and every index stays -/
def ge_mir (P : Nat → Int × Int) : Nat → Int × Int := fun i => ((P i).2, (P i).1)
def ge_onI (P : Nat → Int × Int) (i j k : Nat) : Prop := ge_on (P i).1 (P i).2 (P j).1 (P j).2 (P k).1 (P k).2
def ge_crI (P : Nat → Int × Int) (i j k : Nat) : Int := ge_cr (P i).1 (P i).2 (P j).1 (P j).2 (P k).1 (P k).2
/-- the reference: two sides meet -/
def ge_mtM (n : Nat) (P : Nat → Int × Int) (i k : Nat) : Prop :=
  (ge_onI P i (ge_nx n i) k ∨ ge_onI P i (ge_nx n i) (ge_nx n k) ∨ ge_onI P k (ge_nx n k) i ∨ ge_onI P k (ge_nx n k) (ge_nx n i)) ∨
  (¬ ((0 < ge_crI P i (ge_nx n i) k ↔ 0 < ge_crI P i (ge_nx n i) (ge_nx n k)) ∨ (0 < ge_crI P k (ge_nx n k) i ↔ 0 < ge_crI P k (ge_nx n k) (ge_nx n i))) ∧
   ¬ (ge_crI P i (ge_nx n i) k = 0 ∨ ge_crI P i (ge_nx n i) (ge_nx n k) = 0 ∨ ge_crI P k (ge_nx n k) i = 0 ∨ ge_crI P k (ge_nx n k) (ge_nx n i) = 0))
/-- the class: two sides meet -/
def ge_mtC (n : Nat) (P : Nat → Int × Int) (i k : Nat) : Prop :=
  ge_bx (P i).1 (P i).2 (P (ge_nx n i)).1 (P (ge_nx n i)).2 (P k).1 (P k).2 (P (ge_nx n k)).1 (P (ge_nx n k)).2
/-- the class: a side and the next fold back -/
def ge_fd (n : Nat) (P : Nat → Int × Int) (i : Nat) : Prop :=
  ge_bs P n i (P (ge_nx n (ge_nx n i))) = 0 ∧
  0 ≤ ((P i).1 - (P (ge_nx n i)).1) * ((P (ge_nx n (ge_nx n i))).1 - (P (ge_nx n i)).1) + ((P i).2 - (P (ge_nx n i)).2) * ((P (ge_nx n (ge_nx n i))).2 - (P (ge_nx n i)).2)
def ge_plC (n : Nat) (P : Nat → Int × Int) : Prop := ∀ i, i < n → ¬ ge_fd n P i ∧ ∀ j, i + 2 ≤ j → j < n → ge_nx n j ≠ i → ¬ ge_mtC n P i j
def ge_plM (n : Nat) (P : Nat → Int × Int) : Prop := ∀ i, i < n → (¬ ge_onI P i (ge_nx n i) (ge_nx n (ge_nx n i)) ∧ ¬ ge_onI P (ge_nx n i) (ge_nx n (ge_nx n i)) i) ∧
  ∀ k, k < n → ¬ ((k ≠ i ∧ k ≠ ge_nx n i ∧ ge_nx n k ≠ i) ∧ ge_mtM n P i k)
/-- (y, x, t) before (y', x', t') in the order in which places are tried -/
def ge_bf (y x t y' x' t' : Int) : Prop := y < y' ∨ (y = y' ∧ (x < x' ∨ (x = x' ∧ t < t')))
/-- r is the first place that fits, in the form that is answered, or -1 -/
def ge_first (F : Int → Int → Int → Prop) (r : Int) : Prop :=
  (r = -1 ∧ ∀ y x t, ¬ F y x t) ∨ (∃ y x t, F y x t ∧ r = x + 32 * y + 1024 * t ∧ ∀ y' x' t', ge_bf y' x' t' y x t → ¬ F y' x' t')
theorem ge_ar_s (n : Nat) (P : Nat → Int × Int) (k : Nat) : ge_ar n P (k + 1) = ge_ar n P k + ((P k).1 * (P (ge_nx n k)).2 - (P (ge_nx n k)).1 * (P k).2) := rfl
theorem nx_lt {n i : Nat} (h : 0 < n) : ge_nx n i < n := by unfold ge_nx; split <;> omega
