-- DRAFT, never compiled yet. The parity of a ray to the right: the same at both ends of a stretch that meets no side.
theorem ge_dj_swap {v w m n : Int × Int} (h : ge_dj v w m n) : ge_dj w v m n := fun a b c e ha hb hc he h1 h2 h3 h4 =>
  h b a c e hb ha hc he (by omega) (by omega) (by omega) (by omega)
theorem ge_hit_swap (m v w : Int × Int) : ge_hit m w v ↔ ge_hit m v w := by
  unfold ge_hit
  rw [ge_cr_rev v.1 v.2 w.1 w.2 m.1 m.2]
  constructor
  · rintro (⟨a, b, c⟩ | ⟨a, b, c⟩)
    · exact Or.inr ⟨a, b, by omega⟩
    · exact Or.inl ⟨a, b, by omega⟩
  · rintro (⟨a, b, c⟩ | ⟨a, b, c⟩)
    · exact Or.inr ⟨a, b, by omega⟩
    · exact Or.inl ⟨a, b, by omega⟩
/-- v and w on two sides of the line m n, their meeting between the heights: then they do meet -/
theorem ge_dj_no {v w m n : Int × Int} (h : ge_dj v w m n) (hb : m.2 < n.2) {a b : Int} (ha : 0 ≤ a) (hb0 : 0 ≤ b) (hab : 0 < a + b)
    (he : a * ge_cr m.1 m.2 n.1 n.2 v.1 v.2 + b * ge_cr m.1 m.2 n.1 n.2 w.1 w.2 = 0)
    (hC : 0 ≤ a * (n.2 - v.2) + b * (n.2 - w.2)) (hE : 0 ≤ a * (v.2 - m.2) + b * (w.2 - m.2)) : False := by
  refine h (a * (n.2 - m.2)) (b * (n.2 - m.2)) (a * (n.2 - v.2) + b * (n.2 - w.2)) (a * (v.2 - m.2) + b * (w.2 - m.2)) (Int.mul_nonneg ha (by omega)) (Int.mul_nonneg hb0 (by omega)) hC hE ?_ ?_ ?_ ?_
  · have := Int.mul_pos hab (show 0 < n.2 - m.2 by omega)
    rw [Int.add_mul] at this; exact this
  · grind
  · unfold ge_cr at he; grind
  · grind
theorem ge_lift (v w m n : Int × Int) : ge_cr m.1 m.2 n.1 n.2 w.1 w.2 * (v.2 - m.2) - ge_cr m.1 m.2 n.1 n.2 v.1 v.2 * (w.2 - m.2) = (n.2 - m.2) * ge_cr v.1 v.2 w.1 w.2 m.1 m.2 := by unfold ge_cr; grind
theorem ge_lift' (v w m n : Int × Int) : ge_cr m.1 m.2 n.1 n.2 w.1 w.2 * (v.2 - n.2) - ge_cr m.1 m.2 n.1 n.2 v.1 v.2 * (w.2 - n.2) = (n.2 - m.2) * ge_cr v.1 v.2 w.1 w.2 n.1 n.2 := by unfold ge_cr; grind
theorem ge_pn {a b : Int} (ha : a ≤ 0) (hb : 0 ≤ b) : a * b ≤ 0 := by rw [Int.mul_comm]; exact ge_np hb ha
-- below and between
theorem ge_low {v w m n : Int × Int} (h : ge_dj v w m n) (hv : v.2 ≤ m.2) (hw : m.2 < w.2) (hw2 : w.2 ≤ n.2) :
    0 < ge_cr v.1 v.2 w.1 w.2 m.1 m.2 ↔ ge_cr m.1 m.2 n.1 n.2 w.1 w.2 < 0 := by
  have e := ge_lift v w m n
  have hb : m.2 < n.2 := by omega
  constructor
  · intro h1
    by_cases h2 : ge_cr m.1 m.2 n.1 n.2 w.1 w.2 < 0
    · exact h2
    · exfalso
      have k1 := Int.mul_pos (show 0 < n.2 - m.2 by omega) h1
      have k2 := ge_np (show 0 ≤ ge_cr m.1 m.2 n.1 n.2 w.1 w.2 by omega) (show v.2 - m.2 ≤ 0 by omega)
      have k3 : ge_cr m.1 m.2 n.1 n.2 v.1 v.2 < 0 := by
        by_cases h3 : 0 ≤ ge_cr m.1 m.2 n.1 n.2 v.1 v.2
        · have := Int.mul_nonneg h3 (show 0 ≤ w.2 - m.2 by omega); omega
        · omega
      have c1 := Int.mul_nonneg (show 0 ≤ ge_cr m.1 m.2 n.1 n.2 w.1 w.2 by omega) (show 0 ≤ n.2 - v.2 by omega)
      have c2 := Int.mul_nonneg (show 0 ≤ - ge_cr m.1 m.2 n.1 n.2 v.1 v.2 by omega) (show 0 ≤ n.2 - w.2 by omega)
      refine ge_dj_no h hb (a := ge_cr m.1 m.2 n.1 n.2 w.1 w.2) (b := - ge_cr m.1 m.2 n.1 n.2 v.1 v.2) (by omega) (by omega) (by omega) (by grind) (by omega) ?_
      rw [Int.neg_mul]; omega
  · intro h1
    by_cases h2 : 0 < ge_cr v.1 v.2 w.1 w.2 m.1 m.2
    · exact h2
    · exfalso
      have k1 := ge_np (show 0 ≤ n.2 - m.2 by omega) (show ge_cr v.1 v.2 w.1 w.2 m.1 m.2 ≤ 0 by omega)
      have k2 := Int.mul_nonneg_of_nonpos_of_nonpos (show ge_cr m.1 m.2 n.1 n.2 w.1 w.2 ≤ 0 by omega) (show v.2 - m.2 ≤ 0 by omega)
      have k3 : 0 ≤ ge_cr m.1 m.2 n.1 n.2 v.1 v.2 := by
        by_cases h3 : ge_cr m.1 m.2 n.1 n.2 v.1 v.2 < 0
        · have := Int.mul_neg_of_neg_of_pos h3 (show 0 < w.2 - m.2 by omega); omega
        · omega
      have c1 := Int.mul_nonneg (show 0 ≤ - ge_cr m.1 m.2 n.1 n.2 w.1 w.2 by omega) (show 0 ≤ n.2 - v.2 by omega)
      have c2 := Int.mul_nonneg k3 (show 0 ≤ n.2 - w.2 by omega)
      refine ge_dj_no h hb (a := - ge_cr m.1 m.2 n.1 n.2 w.1 w.2) (b := ge_cr m.1 m.2 n.1 n.2 v.1 v.2) (by omega) k3 (by omega) (by grind) (by omega) ?_
      rw [Int.neg_mul]; omega
-- between and above
theorem ge_high {v w m n : Int × Int} (h : ge_dj v w m n) (hv : m.2 < v.2) (hv2 : v.2 ≤ n.2) (hw : n.2 < w.2) :
    0 < ge_cr v.1 v.2 w.1 w.2 n.1 n.2 ↔ ge_cr m.1 m.2 n.1 n.2 v.1 v.2 < 0 := by
  have e := ge_lift' v w m n
  have hb : m.2 < n.2 := by omega
  constructor
  · intro h1
    by_cases h2 : ge_cr m.1 m.2 n.1 n.2 v.1 v.2 < 0
    · exact h2
    · exfalso
      have k1 := Int.mul_pos (show 0 < n.2 - m.2 by omega) h1
      have k2 := Int.mul_nonneg (show 0 ≤ ge_cr m.1 m.2 n.1 n.2 v.1 v.2 by omega) (show 0 ≤ w.2 - n.2 by omega)
      have k3 : ge_cr m.1 m.2 n.1 n.2 w.1 w.2 < 0 := by
        by_cases h3 : 0 ≤ ge_cr m.1 m.2 n.1 n.2 w.1 w.2
        · have := ge_np h3 (show v.2 - n.2 ≤ 0 by omega); omega
        · omega
      have c1 := Int.mul_nonneg (show 0 ≤ - ge_cr m.1 m.2 n.1 n.2 w.1 w.2 by omega) (show 0 ≤ v.2 - m.2 by omega)
      have c2 := Int.mul_nonneg (show 0 ≤ ge_cr m.1 m.2 n.1 n.2 v.1 v.2 by omega) (show 0 ≤ w.2 - m.2 by omega)
      refine ge_dj_no h hb (a := - ge_cr m.1 m.2 n.1 n.2 w.1 w.2) (b := ge_cr m.1 m.2 n.1 n.2 v.1 v.2) (by omega) (by omega) (by omega) (by grind) ?_ (by omega)
      grind
  · intro h1
    by_cases h2 : 0 < ge_cr v.1 v.2 w.1 w.2 n.1 n.2
    · exact h2
    · exfalso
      have k1 := ge_np (show 0 ≤ n.2 - m.2 by omega) (show ge_cr v.1 v.2 w.1 w.2 n.1 n.2 ≤ 0 by omega)
      have k2 := Int.mul_neg_of_neg_of_pos h1 (show 0 < w.2 - n.2 by omega)
      have k3 : 0 ≤ ge_cr m.1 m.2 n.1 n.2 w.1 w.2 := by
        by_cases h3 : ge_cr m.1 m.2 n.1 n.2 w.1 w.2 < 0
        · have := Int.mul_nonneg_of_nonpos_of_nonpos (show ge_cr m.1 m.2 n.1 n.2 w.1 w.2 ≤ 0 by omega) (show v.2 - n.2 ≤ 0 by omega); omega
        · omega
      have c1 := Int.mul_nonneg k3 (show 0 ≤ v.2 - m.2 by omega)
      have c2 := Int.mul_nonneg (show 0 ≤ - ge_cr m.1 m.2 n.1 n.2 v.1 v.2 by omega) (show 0 ≤ w.2 - m.2 by omega)
      refine ge_dj_no h hb (a := ge_cr m.1 m.2 n.1 n.2 w.1 w.2) (b := - ge_cr m.1 m.2 n.1 n.2 v.1 v.2) k3 (by omega) (by omega) (by grind) ?_ (by omega)
      grind
-- both between
theorem ge_both {v w m n : Int × Int} (h : ge_dj v w m n) (hv : m.2 < v.2) (hv2 : v.2 ≤ n.2) (hw : m.2 < w.2) (hw2 : w.2 ≤ n.2)
    (h1 : ge_cr m.1 m.2 n.1 n.2 v.1 v.2 < 0) : ge_cr m.1 m.2 n.1 n.2 w.1 w.2 < 0 := by
  by_cases h2 : ge_cr m.1 m.2 n.1 n.2 w.1 w.2 < 0
  · exact h2
  · exfalso
    have c1 := Int.mul_nonneg (show 0 ≤ ge_cr m.1 m.2 n.1 n.2 w.1 w.2 by omega) (show 0 ≤ n.2 - v.2 by omega)
    have c2 := Int.mul_nonneg (show 0 ≤ - ge_cr m.1 m.2 n.1 n.2 v.1 v.2 by omega) (show 0 ≤ n.2 - w.2 by omega)
    have c3 := Int.mul_nonneg (show 0 ≤ ge_cr m.1 m.2 n.1 n.2 w.1 w.2 by omega) (show 0 ≤ v.2 - m.2 by omega)
    have c4 := Int.mul_nonneg (show 0 ≤ - ge_cr m.1 m.2 n.1 n.2 v.1 v.2 by omega) (show 0 ≤ w.2 - m.2 by omega)
    exact ge_dj_no h (by omega) (a := ge_cr m.1 m.2 n.1 n.2 w.1 w.2) (b := - ge_cr m.1 m.2 n.1 n.2 v.1 v.2) (by omega) (by omega) (by omega) (by grind) (by omega) (by omega)
-- below and above
theorem ge_far {v w m n : Int × Int} (h : ge_dj v w m n) (hv : v.2 ≤ m.2) (hmn : m.2 ≤ n.2) (hw : n.2 < w.2) :
    0 < ge_cr v.1 v.2 w.1 w.2 m.1 m.2 ↔ 0 < ge_cr v.1 v.2 w.1 w.2 n.1 n.2 := by
  have key : ∀ c e : Int, 0 ≤ c → 0 ≤ e → 0 < c + e → c * ge_cr v.1 v.2 w.1 w.2 m.1 m.2 + e * ge_cr v.1 v.2 w.1 w.2 n.1 n.2 = 0 → False := by
    intro c e hc he hce h0
    refine h (c * (w.2 - m.2) + e * (w.2 - n.2)) (c * (m.2 - v.2) + e * (n.2 - v.2)) (c * (w.2 - v.2)) (e * (w.2 - v.2)) ?_ ?_ (Int.mul_nonneg hc (by omega)) (Int.mul_nonneg he (by omega)) ?_ ?_ ?_ ?_
    · have := Int.mul_nonneg hc (show 0 ≤ w.2 - m.2 by omega); have := Int.mul_nonneg he (show 0 ≤ w.2 - n.2 by omega); omega
    · have := Int.mul_nonneg hc (show 0 ≤ m.2 - v.2 by omega); have := Int.mul_nonneg he (show 0 ≤ n.2 - v.2 by omega); omega
    · have := Int.mul_pos hce (show 0 < w.2 - v.2 by omega); grind
    · grind
    · unfold ge_cr at h0; grind
    · grind
  constructor
  · intro h1
    by_cases h2 : 0 < ge_cr v.1 v.2 w.1 w.2 n.1 n.2
    · exact h2
    · exact (key (- ge_cr v.1 v.2 w.1 w.2 n.1 n.2) (ge_cr v.1 v.2 w.1 w.2 m.1 m.2) (by omega) (by omega) (by omega) (by grind)).elim
  · intro h1
    by_cases h2 : 0 < ge_cr v.1 v.2 w.1 w.2 m.1 m.2
    · exact h2
    · exact (key (ge_cr v.1 v.2 w.1 w.2 n.1 n.2) (- ge_cr v.1 v.2 w.1 w.2 m.1 m.2) (by omega) (by omega) (by omega) (by grind)).elim
/-- a side that rises -/
theorem ge_side1 {v w m n : Int × Int} (h : ge_dj v w m n) (hmn : m.2 ≤ n.2) (hvw : v.2 ≤ w.2) : (ge_hit m v w ↔ ge_hit n v w) ↔ (ge_in m n v ↔ ge_in m n w) := by
  by_cases a1 : w.2 ≤ m.2
  · have x1 : ¬ ge_hit m v w := by unfold ge_hit; omega
    have x2 : ¬ ge_hit n v w := by unfold ge_hit; omega
    have x3 : ¬ ge_in m n v := by unfold ge_in; omega
    have x4 : ¬ ge_in m n w := by unfold ge_in; omega
    simp [x1, x2, x3, x4]
  by_cases a2 : n.2 < v.2
  · have x1 : ¬ ge_hit m v w := by unfold ge_hit; omega
    have x2 : ¬ ge_hit n v w := by unfold ge_hit; omega
    have x3 : ¬ ge_in m n v := by unfold ge_in; omega
    have x4 : ¬ ge_in m n w := by unfold ge_in; omega
    simp [x1, x2, x3, x4]
  by_cases a3 : v.2 ≤ m.2
  · have y1 : ge_hit m v w ↔ 0 < ge_cr v.1 v.2 w.1 w.2 m.1 m.2 := by unfold ge_hit; omega
    have y3 : ¬ ge_in m n v := by unfold ge_in; omega
    by_cases a4 : w.2 ≤ n.2
    · have y2 : ¬ ge_hit n v w := by unfold ge_hit; omega
      have y4 : ge_in m n w ↔ ge_cr m.1 m.2 n.1 n.2 w.1 w.2 < 0 := by unfold ge_in; omega
      have k := ge_low h a3 (by omega) a4
      rw [y1, y4, k]; simp [y2, y3]
    · have y2 : ge_hit n v w ↔ 0 < ge_cr v.1 v.2 w.1 w.2 n.1 n.2 := by unfold ge_hit; omega
      have y4 : ¬ ge_in m n w := by unfold ge_in; omega
      have k := ge_far h a3 hmn (by omega)
      rw [y1, y2, k]; simp [y3, y4]
  · have y1 : ¬ ge_hit m v w := by unfold ge_hit; omega
    have y3 : ge_in m n v ↔ ge_cr m.1 m.2 n.1 n.2 v.1 v.2 < 0 := by unfold ge_in; omega
    by_cases a4 : w.2 ≤ n.2
    · have y2 : ¬ ge_hit n v w := by unfold ge_hit; omega
      have y4 : ge_in m n w ↔ ge_cr m.1 m.2 n.1 n.2 w.1 w.2 < 0 := by unfold ge_in; omega
      have k1 := ge_both h (by omega) (by omega) (by omega) a4
      have k2 := ge_both (ge_dj_swap h) (by omega) a4 (by omega) (by omega)
      have k : ge_in m n v ↔ ge_in m n w := by rw [y3, y4]; exact ⟨k1, k2⟩
      simp [y1, y2, k]
    · have y2 : ge_hit n v w ↔ 0 < ge_cr v.1 v.2 w.1 w.2 n.1 n.2 := by unfold ge_hit; omega
      have y4 : ¬ ge_in m n w := by unfold ge_in; omega
      have k := ge_high h (by omega) (by omega) (by omega)
      rw [y2, y3, k]; simp [y1, y4]
theorem ge_side {v w m n : Int × Int} (h : ge_dj v w m n) (hmn : m.2 ≤ n.2) : (ge_hit m v w ↔ ge_hit n v w) ↔ (ge_in m n v ↔ ge_in m n w) := by
  by_cases hvw : v.2 ≤ w.2
  · exact ge_side1 h hmn hvw
  · have k := ge_side1 (ge_dj_swap h) hmn (show w.2 ≤ v.2 by omega)
    have e1 : ge_hit m w v ↔ ge_hit m v w := ge_hit_swap ..
    have e2 : ge_hit n w v ↔ ge_hit n v w := ge_hit_swap ..
    rw [e1, e2] at k
    rw [k]; exact Iff.comm
theorem ge_odd_part {n : Nat} {V : Nat → Int × Int} {m m' : Int × Int} (hmn : m.2 ≤ m'.2) (h : ∀ k, k < n → ge_dj (V k) (V (ge_nx n k)) m m') :
    ∀ k, k < n → ((ge_odd n V m k ↔ ge_odd n V m' k) ↔ (ge_in m m' (V 0) ↔ ge_in m m' (V k))) := by
  intro k
  induction k with
  | zero => intro _; simp [ge_odd]
  | succ k ih =>
    intro hk
    have i1 := ih (by omega)
    have s := ge_side (h k (by omega)) hmn
    have e : ge_nx n k = k + 1 := by unfold ge_nx; split <;> omega
    simp only [ge_odd]
    rw [e] at s ⊢
    by_cases b1 : ge_odd n V m k <;> by_cases b2 : ge_odd n V m' k <;> by_cases b3 : ge_hit m (V k) (V (k + 1)) <;> by_cases b4 : ge_hit m' (V k) (V (k + 1)) <;>
      by_cases b5 : ge_in m m' (V 0) <;> by_cases b6 : ge_in m m' (V k) <;> by_cases b7 : ge_in m m' (V (k + 1)) <;> simp_all
theorem ge_odd_same1 {n : Nat} {V : Nat → Int × Int} {m m' : Int × Int} (hn : 0 < n) (hmn : m.2 ≤ m'.2) (h : ∀ k, k < n → ge_dj (V k) (V (ge_nx n k)) m m') : ge_odd n V m n ↔ ge_odd n V m' n := by
  obtain ⟨k, rfl⟩ : ∃ k, n = k + 1 := ⟨n - 1, by omega⟩
  have i1 := ge_odd_part hmn h k (by omega)
  have s := ge_side (h k (by omega)) hmn
  have e : ge_nx (k + 1) k = 0 := by unfold ge_nx; split <;> omega
  simp only [ge_odd]
  rw [e] at s ⊢
  by_cases b1 : ge_odd (k + 1) V m k <;> by_cases b2 : ge_odd (k + 1) V m' k <;> by_cases b3 : ge_hit m (V k) (V 0) <;> by_cases b4 : ge_hit m' (V k) (V 0) <;>
    by_cases b5 : ge_in m m' (V 0) <;> by_cases b6 : ge_in m m' (V k) <;> simp_all
theorem ge_dj_turn {v w m n : Int × Int} (h : ge_dj v w m n) : ge_dj v w n m := fun a b c e ha hb hc he h1 h2 h3 h4 =>
  h a b e c ha hb he hc h1 (by omega) (by omega) (by omega)
theorem ge_odd_same {n : Nat} {V : Nat → Int × Int} {m m' : Int × Int} (hn : 0 < n) (h : ∀ k, k < n → ge_dj (V k) (V (ge_nx n k)) m m') : ge_odd n V m n ↔ ge_odd n V m' n := by
  by_cases c : m.2 ≤ m'.2
  · exact ge_odd_same1 hn c h
  · exact (ge_odd_same1 hn (show m'.2 ≤ m.2 by omega) (fun k hk => ge_dj_turn (h k hk))).symm
-- a point beyond the box
theorem ge_odd_none {n : Nat} {V : Nat → Int × Int} {m : Int × Int} (h : ∀ k, k < n → ¬ ge_hit m (V k) (V (ge_nx n k))) : ∀ k, k ≤ n → ¬ ge_odd n V m k := by
  intro k
  induction k with
  | zero => intro _; simp [ge_odd]
  | succ k ih =>
    intro hk
    have a := ih (by omega)
    have b := h k (by omega)
    simp [ge_odd, a, b]
theorem ge_span (v w m : Int × Int) : - ge_cr v.1 v.2 w.1 w.2 m.1 m.2 = (w.2 - m.2) * (m.1 - v.1) + (m.2 - v.2) * (m.1 - w.1) := by unfold ge_cr; grind
theorem ge_hit_right {v w m : Int × Int} (hv : v.1 < m.1) (hw : w.1 < m.1) : ¬ ge_hit m v w := by
  have e := ge_span v w m
  rintro (⟨a, b, c⟩ | ⟨a, b, c⟩)
  · have k1 := Int.mul_pos (show 0 < w.2 - m.2 by omega) (show 0 < m.1 - v.1 by omega)
    have k2 := Int.mul_nonneg (show 0 ≤ m.2 - v.2 by omega) (show 0 ≤ m.1 - w.1 by omega)
    omega
  · have k1 := ge_pn (show w.2 - m.2 ≤ 0 by omega) (show 0 ≤ m.1 - v.1 by omega)
    have k2 := Int.mul_neg_of_neg_of_pos (show m.2 - v.2 < 0 by omega) (show 0 < m.1 - w.1 by omega)
    omega
theorem ge_hit_left {v w m : Int × Int} (hv : m.1 < v.1) (hw : m.1 < w.1) : ge_hit m v w ↔ ¬ (m.2 < v.2 ↔ m.2 < w.2) := by
  have e := ge_span v w m
  constructor
  · rintro (⟨a, b, c⟩ | ⟨a, b, c⟩) <;> omega
  · intro h
    by_cases a : v.2 ≤ m.2
    · have b : m.2 < w.2 := by omega
      refine Or.inl ⟨a, b, ?_⟩
      have k1 := Int.mul_neg_of_pos_of_neg (show 0 < w.2 - m.2 by omega) (show m.1 - v.1 < 0 by omega)
      have k2 := ge_np (show 0 ≤ m.2 - v.2 by omega) (show m.1 - w.1 ≤ 0 by omega)
      omega
    · have b : w.2 ≤ m.2 := by omega
      refine Or.inr ⟨b, by omega, ?_⟩
      have k1 := Int.mul_nonneg_of_nonpos_of_nonpos (show w.2 - m.2 ≤ 0 by omega) (show m.1 - v.1 ≤ 0 by omega)
      have k2 := Int.mul_pos (show 0 < v.2 - m.2 by omega) (show 0 < w.1 - m.1 by omega)
      grind
theorem ge_odd_left {n : Nat} {V : Nat → Int × Int} {m : Int × Int} (hn : 0 < n) (h : ∀ k, k < n → m.1 < (V k).1) : ¬ ge_odd n V m n := by
  have hp : ∀ k, k < n → (ge_odd n V m k ↔ ¬ (m.2 < (V 0).2 ↔ m.2 < (V k).2)) := by
    intro k
    induction k with
    | zero => intro _; simp [ge_odd]
    | succ k ih =>
      intro hk
      have i1 := ih (by omega)
      have e : ge_nx n k = k + 1 := by unfold ge_nx; split <;> omega
      have s := ge_hit_left (h k (by omega)) (h (k + 1) hk)
      simp only [ge_odd]
      rw [e, i1, s]
      by_cases b1 : m.2 < (V 0).2 <;> by_cases b2 : m.2 < (V k).2 <;> by_cases b3 : m.2 < (V (k + 1)).2 <;> simp [b1, b2, b3]
  obtain ⟨k, rfl⟩ : ∃ k, n = k + 1 := ⟨n - 1, by omega⟩
  have i1 := hp k (by omega)
  have e : ge_nx (k + 1) k = 0 := by unfold ge_nx; split <;> omega
  have s := ge_hit_left (h k (by omega)) (h 0 (by omega))
  simp only [ge_odd]
  rw [e, i1, s]
  by_cases b1 : m.2 < (V 0).2 <;> by_cases b2 : m.2 < (V k).2 <;> simp [b1, b2]
theorem ge_odd_box {n : Nat} {V : Nat → Int × Int} {m : Int × Int} (hn : 0 < n)
    (h : (∀ k, k < n → m.1 < (V k).1) ∨ (∀ k, k < n → (V k).1 < m.1) ∨ (∀ k, k < n → m.2 < (V k).2) ∨ (∀ k, k < n → (V k).2 < m.2)) : ¬ ge_odd n V m n := by
  have hl : ∀ k, ge_nx n k < n := fun k => ge_nx_lt hn
  rcases h with h | h | h | h
  · exact ge_odd_left hn h
  · exact ge_odd_none (fun k hk => ge_hit_right (h k hk) (h _ (hl k))) n (Nat.le_refl n)
  · refine ge_odd_none (fun k hk => ?_) n (Nat.le_refl n)
    have a := h k hk
    have b := h _ (hl k)
    unfold ge_hit; omega
  · refine ge_odd_none (fun k hk => ?_) n (Nat.le_refl n)
    have a := h k hk
    have b := h _ (hl k)
    unfold ge_hit; omega
-- parted by r, and m, n strictly on the inner side (n: or beyond the box)
theorem ge_dj_of {v w m n r : Int × Int} {c : Int} (hv : ge_d r v ≤ c) (hw : ge_d r w ≤ c) (hm : c < ge_d r m) (hn : c < ge_d r n) : ge_dj v w m n := by
  intro a b e f ha hb he hf hab hs hx hy
  have e1 : a * ge_d r v + b * ge_d r w = e * ge_d r m + f * ge_d r n := by unfold ge_d; grind
  have k1 := Int.mul_nonneg ha (show 0 ≤ c - ge_d r v by omega)
  have k2 := Int.mul_nonneg hb (show 0 ≤ c - ge_d r w by omega)
  have k3 := Int.mul_nonneg he (show 0 ≤ ge_d r m - c - 1 by omega)
  have k4 := Int.mul_nonneg hf (show 0 ≤ ge_d r n - c - 1 by omega)
  have k5 : (a + b) * c = (e + f) * c := by rw [hs]
  grind
theorem ge_dj_out {v w m n r : Int × Int} {c : Int} (hv : ge_d r v ≤ c) (hw : ge_d r w ≤ c) (hm : c < ge_d r m) (hn : c ≤ ge_d r n)
    (ho : (n.1 < v.1 ∧ n.1 < w.1) ∨ (v.1 < n.1 ∧ w.1 < n.1) ∨ (n.2 < v.2 ∧ n.2 < w.2) ∨ (v.2 < n.2 ∧ w.2 < n.2)) : ge_dj v w m n := by
  intro a b e f ha hb he hf hab hs hx hy
  by_cases h0 : e = 0
  · subst h0
    have hf2 : f = a + b := by omega
    subst hf2
    simp only [Int.zero_mul, Int.zero_add] at hx hy
    have key : ∀ p q s : Int, p < s → q < s → a * p + b * q = (a + b) * s → False := by
      intro p q s h1 h2 h3
      have k1 := Int.mul_nonneg ha (show 0 ≤ s - p - 1 by omega)
      have k2 := Int.mul_nonneg hb (show 0 ≤ s - q - 1 by omega)
      grind
    have key2 : ∀ p q s : Int, s < p → s < q → a * p + b * q = (a + b) * s → False := by
      intro p q s h1 h2 h3
      have k1 := Int.mul_nonneg ha (show 0 ≤ p - s - 1 by omega)
      have k2 := Int.mul_nonneg hb (show 0 ≤ q - s - 1 by omega)
      grind
    rcases ho with ⟨h1, h2⟩ | ⟨h1, h2⟩ | ⟨h1, h2⟩ | ⟨h1, h2⟩
    · exact key2 _ _ _ h1 h2 hx
    · exact key _ _ _ h1 h2 hx
    · exact key2 _ _ _ h1 h2 hy
    · exact key _ _ _ h1 h2 hy
  · have e1 : a * ge_d r v + b * ge_d r w = e * ge_d r m + f * ge_d r n := by unfold ge_d; grind
    have k1 := Int.mul_nonneg ha (show 0 ≤ c - ge_d r v by omega)
    have k2 := Int.mul_nonneg hb (show 0 ≤ c - ge_d r w by omega)
    have k3 := Int.mul_pos (show 0 < e by omega) (show 0 < ge_d r m - c by omega)
    have k4 := Int.mul_nonneg hf (show 0 ≤ ge_d r n - c by omega)
    have k5 : (a + b) * c = (e + f) * c := by rw [hs]
    grind
