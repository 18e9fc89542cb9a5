-- DRAFT, never compiled yet. Round shapes: the two ways to ask; area; plain shapes.
theorem ge_rd_eq {n : Nat} {P : Nat → Int × Int} (hn : 3 ≤ n) : ge_rd n P ↔ ge_ccw n P ∨ ge_cw n P := by
  have h2 : (2 : Nat) ≠ ge_nx n 0 := by unfold ge_nx; split <;> omega
  constructor
  · intro h
    by_cases c : 0 < ge_bs P n 0 (P 2)
    · refine Or.inl fun i k hi hk a b => ?_
      have := h i k hi hk a b
      rw [if_pos c, Int.one_mul] at this; exact this
    · refine Or.inr fun i k hi hk a b => ?_
      have := h i k hi hk a b
      rw [if_neg c] at this; omega
  · rintro (h | h)
    · have c := h 0 2 (by omega) (by omega) (by omega) h2
      intro i k hi hk a b
      rw [if_pos c, Int.one_mul]; exact h i k hi hk a b
    · have c := h 0 2 (by omega) (by omega) (by omega) h2
      intro i k hi hk a b
      rw [if_neg (by omega)]
      have := h i k hi hk a b; omega
-- sums of marks
theorem ge_sumN_le {f g : Nat → Nat} : ∀ n, (∀ k, k < n → f k ≤ g k) → ge_sumN f n ≤ ge_sumN g n := by
  intro n
  induction n with
  | zero => intro _; exact Nat.le_refl _
  | succ n ih => intro h; have a := ih (fun k hk => h k (by omega)); have b := h n (by omega); simp only [ge_sumN]; omega
theorem ge_sumN_eq {f g : Nat → Nat} : ∀ n, (∀ k, k < n → f k ≤ g k) → ge_sumN f n = ge_sumN g n → ∀ k, k < n → f k = g k := by
  intro n
  induction n with
  | zero => intro _ _ k hk; omega
  | succ n ih =>
    intro h he k hk
    have a := ge_sumN_le n (fun k hk => h k (by omega))
    have b := h n (by omega)
    simp only [ge_sumN] at he
    by_cases c : k < n
    · exact ih (fun k hk => h k (by omega)) (by omega) k c
    · have : k = n := by omega
      subst this; omega
theorem ge_sumN_congr {f g : Nat → Nat} : ∀ n, (∀ k, k < n → f k = g k) → ge_sumN f n = ge_sumN g n := by
  intro n
  induction n with
  | zero => intro _; rfl
  | succ n ih => intro h; have a := ih (fun k hk => h k (by omega)); have b := h n (by omega); simp only [ge_sumN]; omega
theorem ge_sumN_one (c : Nat) : ∀ n, ge_sumN (fun _ => c) n = n * c := by
  intro n
  induction n with
  | zero => simp [ge_sumN]
  | succ n ih => simp only [ge_sumN, ih]; rw [Nat.add_mul, Nat.one_mul]
/-- how many k < n are neither i nor j -/
theorem ge_sumN_two {i j : Nat} (hij : i ≠ j) : ∀ n, i < n → j < n → ge_sumN (fun k => if k ≠ i ∧ k ≠ j then 1 else 0) n = n - 2 := by
  have gen : ∀ n, ge_sumN (fun k => if k ≠ i ∧ k ≠ j then 1 else 0) n + (if i < n then 1 else 0) + (if j < n then 1 else 0) = n := by
    intro n
    induction n with
    | zero => simp [ge_sumN]
    | succ n ih =>
      simp only [ge_sumN]
      generalize ge_sumN (fun k => if k ≠ i ∧ k ≠ j then 1 else 0) n = S at ih ⊢
      by_cases a : n = i <;> by_cases b : n = j
      · omega
      · subst a
        simp only [ne_eq, not_true_eq_false, false_and, if_false]
        split at ih <;> split at ih <;> split <;> split <;> omega
      · subst b
        simp only [ne_eq, not_true_eq_false, and_false, if_false]
        split at ih <;> split at ih <;> split <;> split <;> omega
      · simp only [ne_eq, a, b, not_false_eq_true, and_self, if_true]
        split at ih <;> split at ih <;> split <;> split <;> omega
  intro n hi hj
  have := gen n
  rw [if_pos hi, if_pos hj] at this
  omega
-- area
theorem ge_sm_congr {f g : Nat → Int} : ∀ n, (∀ k, k < n → f k = g k) → ge_sm f n = ge_sm g n := by
  intro n
  induction n with
  | zero => intro _; rfl
  | succ n ih => intro h; have a := ih (fun k hk => h k (by omega)); have b := h n (by omega); simp only [ge_sm]; omega
theorem ge_sm_neg (f : Nat → Int) : ∀ n, ge_sm (fun k => - f k) n = - ge_sm f n := by
  intro n
  induction n with
  | zero => rfl
  | succ n ih => simp only [ge_sm, ih]; omega
theorem ge_sm_left (f : Nat → Int) : ∀ n, ge_sm f (n + 1) = f 0 + ge_sm (fun j => f (j + 1)) n := by
  intro n
  induction n with
  | zero => simp [ge_sm]
  | succ n ih =>
    have e : ge_sm f (n + 1 + 1) = ge_sm f (n + 1) + f (n + 1) := rfl
    rw [e, ih]
    simp only [ge_sm]; omega
theorem ge_sm_rev : ∀ (n : Nat) (f : Nat → Int), ge_sm (fun k => f (n - 1 - k)) n = ge_sm f n := by
  intro n
  induction n with
  | zero => intro f; rfl
  | succ n ih =>
    intro f
    rw [ge_sm_left]
    have e : ge_sm (fun j => f (n + 1 - 1 - (j + 1))) n = ge_sm (fun k => f (n - 1 - k)) n := ge_sm_congr n (fun k hk => by
      have : n + 1 - 1 - (k + 1) = n - 1 - k := by omega
      rw [this])
    rw [e, ih f]
    have e2 : n + 1 - 1 - 0 = n := by omega
    rw [e2]
    simp only [ge_sm]; omega
theorem ge_ar_fan {n : Nat} {P : Nat → Int × Int} : ∀ k, k < n → ge_ar n P k = ge_fan P k + ((P 0).1 * (P k).2 - (P k).1 * (P 0).2) := by
  intro k
  induction k with
  | zero => intro _; simp only [ge_ar, ge_sm, ge_fan]; grind
  | succ k ih =>
    intro hk
    have a := ih (by omega)
    have e : ge_nx n k = k + 1 := by unfold ge_nx; split <;> omega
    rw [ge_ar_s, e, a]
    simp only [ge_fan]
    unfold ge_cr; grind
theorem ge_ar_full {n : Nat} {P : Nat → Int × Int} (hn : 0 < n) : ge_ar n P n = ge_fan P (n - 1) := by
  obtain ⟨k, rfl⟩ : ∃ k, n = k + 1 := ⟨n - 1, by omega⟩
  have a := ge_ar_fan (n := k + 1) (P := P) k (by omega)
  have e : ge_nx (k + 1) k = 0 := by unfold ge_nx; split <;> omega
  rw [ge_ar_s, e, a]
  have : k + 1 - 1 = k := by omega
  rw [this]; grind
theorem ge_fan_nn {n : Nat} {P : Nat → Int × Int} (h : ge_ccw n P) : ∀ k, k < n → 0 ≤ ge_fan P k := by
  intro k
  induction k with
  | zero => intro _; simp [ge_fan]
  | succ k ih =>
    intro hk
    have a := ih (by omega)
    have b := ge_ccw_nn h (i := k) (k := 0) (by omega) (by omega)
    rw [ge_bs_cr] at b
    have e : ge_nx n k = k + 1 := by unfold ge_nx; split <;> omega
    rw [e] at b
    simp only [ge_fan]; omega
theorem ge_fan_pos {n : Nat} {P : Nat → Int × Int} (hn : 3 ≤ n) (h : ge_ccw n P) : ∀ k, 2 ≤ k → k < n → 0 < ge_fan P k := by
  intro k
  induction k with
  | zero => intro a _; omega
  | succ k ih =>
    intro hk1 hk
    have e : ge_nx n k = k + 1 := by unfold ge_nx; split <;> omega
    have a := ge_fan_nn h k (by omega)
    have b := h k 0 (by omega) (by omega) (by omega) (by rw [e]; omega)
    rw [ge_bs_cr, e] at b
    simp only [ge_fan]; omega
theorem ge_ar_pos {n : Nat} {P : Nat → Int × Int} (hn : 3 ≤ n) (h : ge_ccw n P) : 0 < ge_ar n P n := by
  rw [ge_ar_full (by omega)]
  exact ge_fan_pos hn h (n - 1) (by omega) (by omega)
/-- turning the corners round turns the way -/
theorem ge_bs_rev {n : Nat} {P : Nat → Int × Int} {i : Nat} (hi : i < n) (p : Int × Int) : ge_bs (ge_rev n P) n i p = - ge_bs P n (ge_pv n (n - 1 - i)) p := by
  have e1 : ge_nx n (ge_pv n (n - 1 - i)) = n - 1 - i := ge_nx_pv (by omega)
  have e2 := ge_rev_nx hi
  unfold ge_bs ge_rev
  rw [e1, e2]; grind
theorem ge_cw_rev {n : Nat} {P : Nat → Int × Int} (h : ge_cw n P) : ge_ccw n (ge_rev n P) := by
  intro i k hi hk a b
  rw [ge_bs_rev hi]
  have e1 : ge_nx n (ge_pv n (n - 1 - i)) = n - 1 - i := ge_nx_pv (by omega)
  have e2 := ge_rev_nx hi
  have hnl : ge_nx n i < n := ge_nx_lt (by omega)
  have := h (ge_pv n (n - 1 - i)) (n - 1 - k) (ge_pv_lt (by omega)) (by omega) (by rw [← e2]; omega) (by rw [e1]; omega)
  show 0 < - ge_bs P n (ge_pv n (n - 1 - i)) (P (n - 1 - k))
  omega
theorem ge_ccw_rev {n : Nat} {P : Nat → Int × Int} (h : ge_ccw n P) : ge_cw n (ge_rev n P) := by
  intro i k hi hk a b
  rw [ge_bs_rev hi]
  have e1 : ge_nx n (ge_pv n (n - 1 - i)) = n - 1 - i := ge_nx_pv (by omega)
  have e2 := ge_rev_nx hi
  have hnl : ge_nx n i < n := ge_nx_lt (by omega)
  have := h (ge_pv n (n - 1 - i)) (n - 1 - k) (ge_pv_lt (by omega)) (by omega) (by rw [← e2]; omega) (by rw [e1]; omega)
  show - ge_bs P n (ge_pv n (n - 1 - i)) (P (n - 1 - k)) < 0
  omega
theorem ge_cw_mir {n : Nat} {P : Nat → Int × Int} (h : ge_cw n P) : ge_ccw n (ge_mir P) := by
  intro i k hi hk a b
  have := h i k hi hk a b
  have e : ge_bs (ge_mir P) n i (ge_mir P k) = - ge_bs P n i (P k) := by unfold ge_bs ge_mir; grind
  rw [e]; omega
theorem ge_ar_mir (n : Nat) (P : Nat → Int × Int) (k : Nat) : ge_ar n (ge_mir P) k = - ge_ar n P k := by
  unfold ge_ar
  rw [← ge_sm_neg]
  exact ge_sm_congr k (fun j _ => by unfold ge_sd ge_mir; grind)
theorem ge_ar_neg {n : Nat} {P : Nat → Int × Int} (hn : 3 ≤ n) (h : ge_cw n P) : ge_ar n P n < 0 := by
  have := ge_ar_pos hn (ge_cw_mir h)
  rw [ge_ar_mir] at this; omega
theorem ge_ar_rev {n : Nat} {P : Nat → Int × Int} (hn : 0 < n) : ge_ar n (ge_rev n P) n = - ge_ar n P n := by
  obtain ⟨m, rfl⟩ : ∃ m, n = m + 1 := ⟨n - 1, by omega⟩
  have e0 : ge_nx (m + 1) m = 0 := by unfold ge_nx; split <;> omega
  have eN : ∀ k, k < m → ge_nx (m + 1) k = k + 1 := fun k hk => by unfold ge_nx; split <;> omega
  have s1 : ge_sm (ge_sd (m + 1) (ge_rev (m + 1) P)) m = ge_sm (fun k => - ge_sd (m + 1) P (m - 1 - k)) m := ge_sm_congr m (fun k hk => by
    have a := eN k hk
    have b := eN (m - 1 - k) (by omega)
    have c : m - 1 - k + 1 = m - k := by omega
    have d1 : m + 1 - 1 - k = m - k := by omega
    have d2 : m + 1 - 1 - (k + 1) = m - 1 - k := by omega
    unfold ge_sd ge_rev
    rw [a, b, c, d1, d2]; grind)
  have s2 : ge_sm (fun k => - ge_sd (m + 1) P (m - 1 - k)) m = - ge_sm (ge_sd (m + 1) P) m := by
    rw [ge_sm_neg (fun k => ge_sd (m + 1) P (m - 1 - k)), ge_sm_rev m (ge_sd (m + 1) P)]
  have s3 : ge_sd (m + 1) (ge_rev (m + 1) P) m = - ge_sd (m + 1) P m := by
    have d1 : m + 1 - 1 - m = 0 := by omega
    have d2 : m + 1 - 1 - 0 = m := by omega
    unfold ge_sd ge_rev
    rw [e0, d1, d2]; grind
  show ge_sm (ge_sd (m + 1) (ge_rev (m + 1) P)) m + ge_sd (m + 1) (ge_rev (m + 1) P) m = - (ge_sm (ge_sd (m + 1) P) m + ge_sd (m + 1) P m)
  rw [s1, s2, s3]; omega
