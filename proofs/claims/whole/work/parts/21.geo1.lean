-- DRAFT, never compiled yet (third session, before the proving). Plain geometry over Int, no machine, no class.
-- signs
theorem ge_sq (a : Int) : 0 ≤ a * a := by
  rcases Int.le_total 0 a with h | h
  · exact Int.mul_nonneg h h
  · exact Int.mul_nonneg_of_nonpos_of_nonpos h h
theorem ge_sgn {a b : Int} (h : 0 ≤ a * b) : (0 ≤ a ∧ 0 ≤ b) ∨ (a ≤ 0 ∧ b ≤ 0) := by
  by_cases ha : 0 < a
  · by_cases hb : b < 0
    · have := Int.mul_neg_of_pos_of_neg ha hb; omega
    · exact Or.inl ⟨by omega, by omega⟩
  · by_cases ha2 : a < 0
    · by_cases hb : 0 < b
      · have := Int.mul_neg_of_neg_of_pos ha2 hb; omega
      · exact Or.inr ⟨by omega, by omega⟩
    · have : a = 0 := by omega
      subst this
      rcases Int.le_total 0 b with hb | hb
      · exact Or.inl ⟨by omega, hb⟩
      · exact Or.inr ⟨by omega, hb⟩
theorem ge_pos_of {a b : Int} (ha : 0 < a) (h : 0 ≤ a * b) : 0 ≤ b := by
  by_cases hb : b < 0
  · have := Int.mul_neg_of_pos_of_neg ha hb; omega
  · omega
theorem ge_np {a b : Int} (ha : 0 ≤ a) (hb : b ≤ 0) : a * b ≤ 0 := by
  have h := Int.mul_nonneg ha (show 0 ≤ -b by omega)
  rw [Int.mul_neg] at h; omega
-- the same line
theorem ge_same {ux uy vx vy : Int} (h : ux * vy = uy * vx) (hd : 0 ≤ ux * vx + uy * vy) : 0 ≤ ux * vx ∧ 0 ≤ uy * vy := by
  have h2 : (ux * vx) * (uy * vy) = (ux * vy) * (ux * vy) := by grind
  have h3 := ge_sq (ux * vy)
  rw [← h2] at h3
  rcases ge_sgn h3 with ⟨a, b⟩ | ⟨a, b⟩
  · exact ⟨a, b⟩
  · constructor <;> omega
theorem ge_opp {ux uy vx vy : Int} (h : ux * vy = uy * vx) (hd : ux * vx + uy * vy ≤ 0) : ux * vx ≤ 0 ∧ uy * vy ≤ 0 := by
  have h2 : (ux * vx) * (uy * vy) = (ux * vy) * (ux * vy) := by grind
  have h3 := ge_sq (ux * vy)
  rw [← h2] at h3
  rcases ge_sgn h3 with ⟨a, b⟩ | ⟨a, b⟩
  · constructor <;> omega
  · exact ⟨a, b⟩
theorem ge_fold0 {a b c d : Int} (ha : 0 ≤ a) (hb : 0 ≤ b) (hc : 0 ≤ c) (hd : 0 ≤ d) (h : a * d = c * b) : (b ≤ a ∧ d ≤ c) ∨ (a ≤ b ∧ c ≤ d) := by
  by_cases h1 : b < a
  · by_cases h2 : c < d
    · have k1 := Int.mul_pos (show 0 < a by omega) (show 0 < d - c by omega)
      have k2 := Int.mul_nonneg hc (show 0 ≤ a - b by omega)
      exfalso; grind
    · exact Or.inl ⟨by omega, by omega⟩
  · by_cases h2 : d < c
    · by_cases h3 : a < b
      · have k1 := Int.mul_pos (show 0 < c by omega) (show 0 < b - a by omega)
        have k2 := Int.mul_nonneg ha (show 0 ≤ c - d by omega)
        exfalso; grind
      · exact Or.inl ⟨by omega, by omega⟩
    · exact Or.inr ⟨by omega, by omega⟩
theorem ge_fold {ax ay bx b_y : Int} (h : ax * b_y = ay * bx) : 0 ≤ ax * bx + ay * b_y ↔ (ge_bt 0 ax bx ∧ ge_bt 0 ay b_y) ∨ (ge_bt 0 bx ax ∧ ge_bt 0 b_y ay) := by
  constructor
  · intro hd
    obtain ⟨h1, h2⟩ := ge_same h hd
    unfold ge_bt
    rcases ge_sgn h1 with ⟨p1, p2⟩ | ⟨p1, p2⟩ <;> rcases ge_sgn h2 with ⟨q1, q2⟩ | ⟨q1, q2⟩
    · rcases ge_fold0 p1 p2 q1 q2 h with ⟨a, b⟩ | ⟨a, b⟩ <;> omega
    · rcases ge_fold0 p1 p2 (show 0 ≤ -ay by omega) (show 0 ≤ -b_y by omega) (by grind) with ⟨a, b⟩ | ⟨a, b⟩ <;> omega
    · rcases ge_fold0 (show 0 ≤ -ax by omega) (show 0 ≤ -bx by omega) q1 q2 (by grind) with ⟨a, b⟩ | ⟨a, b⟩ <;> omega
    · rcases ge_fold0 (show 0 ≤ -ax by omega) (show 0 ≤ -bx by omega) (show 0 ≤ -ay by omega) (show 0 ≤ -b_y by omega) (by grind) with ⟨a, b⟩ | ⟨a, b⟩ <;> omega
  · have key : ∀ a b : Int, ge_bt 0 a b → 0 ≤ a * b := by
      intro a b hb
      rcases hb with ⟨p, q⟩ | ⟨p, q⟩
      · exact Int.mul_nonneg (by omega) p
      · exact Int.mul_nonneg_of_nonpos_of_nonpos (by omega) q
    rintro (⟨p, q⟩ | ⟨p, q⟩)
    · have := key _ _ p; have := key _ _ q; omega
    · have := key _ _ p; have := key _ _ q
      have e1 := Int.mul_comm ax bx
      have e2 := Int.mul_comm ay b_y
      omega
-- a point between two others: they lie on two sides of every line through it
theorem ge_two {ux uy vx vy wx wy : Int} (h : ux * vy = uy * vx) (hx : ux * vx ≤ 0) (hy : uy * vy ≤ 0) : (wx * uy - wy * ux) * (wx * vy - wy * vx) ≤ 0 := by
  have hq : (ux * vx) * (uy * vy) = (ux * vy) * (ux * vy) := by grind
  have hF : (wx * uy - wy * ux) * (wx * vy - wy * vx) = wx * wx * (uy * vy) - 2 * (wx * wy * (ux * vy)) + wy * wy * (ux * vx) := by grind
  rw [hF]
  generalize ux * vx = a at *
  generalize uy * vy = b at *
  generalize ux * vy = q at *
  -- a, b ≤ 0, a b = q q
  by_cases hb : b < 0
  · have e : (-b) * (-(wx * wx * b - 2 * (wx * wy * q) + wy * wy * a)) = (wx * b - wy * q) * (wx * b - wy * q) := by grind
    have := ge_pos_of (show 0 < -b by omega) (by rw [e]; exact ge_sq _)
    omega
  · have hb0 : b = 0 := by omega
    subst hb0
    have hq0 : q * q = 0 := by grind
    have hq1 : q = 0 := by
      rcases Int.mul_eq_zero.mp hq0 with h | h <;> exact h
    subst hq1
    have h1 := ge_sq wy
    have h2 := ge_np h1 hx
    grind
-- two points that lie on two sides of a line through a third one of their own line: that one is between
theorem ge_mid {ux uy vx vy wx wy : Int} (h : ux * vy = uy * vx) (hs : (wx * uy - wy * ux) * (wx * vy - wy * vx) ≤ 0)
    (hn : ¬ (wx * uy - wy * ux = 0 ∧ wx * vy - wy * vx = 0)) : ux * vx ≤ 0 ∧ uy * vy ≤ 0 := by
  by_cases hd : ux * vx + uy * vy ≤ 0
  · exact ge_opp h hd
  · exfalso
    obtain ⟨h1, h2⟩ := ge_same h (by omega)
    have hq : (ux * vx) * (uy * vy) = (ux * vy) * (ux * vy) := by grind
    have hF : (wx * uy - wy * ux) * (wx * vy - wy * vx) = wx * wx * (uy * vy) - 2 * (wx * wy * (ux * vy)) + wy * wy * (ux * vx) := by grind
    by_cases ha : 0 < ux * vx
    · have e : (ux * vx) * ((wx * uy - wy * ux) * (wx * vy - wy * vx)) = (wy * (ux * vx) - wx * (ux * vy)) * (wy * (ux * vx) - wx * (ux * vy)) := by grind
      have e1 := ge_sq (wy * (ux * vx) - wx * (ux * vy))
      have e2 : (ux * vx) * ((wx * uy - wy * ux) * (wx * vy - wy * vx)) ≤ 0 := ge_np (by omega) hs
      have e3 : wy * (ux * vx) - wx * (ux * vy) = 0 := by
        have : (wy * (ux * vx) - wx * (ux * vy)) * (wy * (ux * vx) - wx * (ux * vy)) = 0 := by omega
        rcases Int.mul_eq_zero.mp this with h | h <;> exact h
      have n1 : ux ≠ 0 := by intro h0; rw [h0] at ha; simp at ha
      have n2 : vx ≠ 0 := by intro h0; rw [h0] at ha; simp at ha
      apply hn
      constructor
      · have : vx * (wx * uy - wy * ux) = 0 := by grind
        rcases Int.mul_eq_zero.mp this with h | h
        · exact absurd h n2
        · exact h
      · have : ux * (wx * vy - wy * vx) = 0 := by grind
        rcases Int.mul_eq_zero.mp this with h | h
        · exact absurd h n1
        · exact h
    · have hb : 0 < uy * vy := by omega
      have e : (uy * vy) * ((wx * uy - wy * ux) * (wx * vy - wy * vx)) = (wx * (uy * vy) - wy * (ux * vy)) * (wx * (uy * vy) - wy * (ux * vy)) := by grind
      have e1 := ge_sq (wx * (uy * vy) - wy * (ux * vy))
      have e2 : (uy * vy) * ((wx * uy - wy * ux) * (wx * vy - wy * vx)) ≤ 0 := ge_np (by omega) hs
      have e3 : wx * (uy * vy) - wy * (ux * vy) = 0 := by
        have : (wx * (uy * vy) - wy * (ux * vy)) * (wx * (uy * vy) - wy * (ux * vy)) = 0 := by omega
        rcases Int.mul_eq_zero.mp this with h | h <;> exact h
      have n1 : uy ≠ 0 := by intro h0; rw [h0] at hb; simp at hb
      have n2 : vy ≠ 0 := by intro h0; rw [h0] at hb; simp at hb
      apply hn
      constructor
      · have : vy * (wx * uy - wy * ux) = 0 := by grind
        rcases Int.mul_eq_zero.mp this with h | h
        · exact absurd h n2
        · exact h
      · have : uy * (wx * vy - wy * vx) = 0 := by grind
        rcases Int.mul_eq_zero.mp this with h | h
        · exact absurd h n1
        · exact h
-- on a line that isn't upright, between in x is between in y
theorem ge_div {D q E t : Int} (hD : 0 < D) (h : D * q = E * t) (h0 : 0 ≤ t) (h1 : t ≤ D) : (0 ≤ q ∧ q ≤ E) ∨ (E ≤ q ∧ q ≤ 0) := by
  by_cases hE : 0 ≤ E
  · refine Or.inl ⟨?_, ?_⟩
    · apply ge_pos_of hD; rw [h]; exact Int.mul_nonneg hE h0
    · have k := Int.mul_nonneg hE (show 0 ≤ D - t by omega)
      have := ge_pos_of (b := E - q) hD (by grind)
      omega
  · refine Or.inr ⟨?_, ?_⟩
    · have k := Int.mul_nonneg (show 0 ≤ -E by omega) (show 0 ≤ D - t by omega)
      have := ge_pos_of (b := q - E) hD (by grind)
      omega
    · have k := Int.mul_nonneg (show 0 ≤ -E by omega) h0
      have := ge_pos_of (b := -q) hD (by grind)
      omega
theorem ge_line {ax ay bx b_y px py : Int} (hx : ax ≠ bx) (hc : ge_cr ax ay bx b_y px py = 0) (h : ge_bt ax bx px) : ge_bt ay b_y py := by
  unfold ge_cr at hc
  unfold ge_bt at h ⊢
  by_cases hl : ax < bx
  · have := ge_div (D := bx - ax) (q := py - ay) (E := b_y - ay) (t := px - ax) (by omega) (by grind) (by omega) (by omega)
    omega
  · have := ge_div (D := ax - bx) (q := py - ay) (E := b_y - ay) (t := ax - px) (by omega) (by grind) (by omega) (by omega)
    omega
theorem ge_sum (ax ay bx b_y cx cy dx dy : Int) : ge_cr ax ay bx b_y dx dy - ge_cr ax ay bx b_y cx cy = ge_cr cx cy dx dy ax ay - ge_cr cx cy dx dy bx b_y := by
  unfold ge_cr; grind
theorem ge_atx (ax ay bx b_y cx cy dx dy : Int) : ge_cr cx cy dx dy ax ay * bx - ge_cr cx cy dx dy bx b_y * ax = ge_cr ax ay bx b_y dx dy * cx - ge_cr ax ay bx b_y cx cy * dx := by
  unfold ge_cr; grind
theorem ge_aty (ax ay bx b_y cx cy dx dy : Int) : ge_cr cx cy dx dy ax ay * b_y - ge_cr cx cy dx dy bx b_y * ay = ge_cr ax ay bx b_y dx dy * cy - ge_cr ax ay bx b_y cx cy * dy := by
  unfold ge_cr; grind
theorem ge_neg {a b : Int} (h : a * b < 0) : (a < 0 ∧ 0 < b) ∨ (0 < a ∧ b < 0) := by
  by_cases ha : 0 < a
  · by_cases hb : b < 0
    · exact Or.inr ⟨ha, hb⟩
    · have := Int.mul_nonneg (show 0 ≤ a by omega) (show 0 ≤ b by omega); omega
  · by_cases hb : 0 < b
    · by_cases ha2 : a < 0
      · exact Or.inl ⟨ha2, hb⟩
      · have : a = 0 := by omega
        subst this; simp at h
    · have := Int.mul_nonneg_of_nonpos_of_nonpos (show a ≤ 0 by omega) (show b ≤ 0 by omega); omega
/-- weights p, q > 0 over a, b and r, s > 0 over c, d with the same sum and the same mean: the ranges meet -/
theorem ge_mean {p q r s a b c d : Int} (hp : 0 < p) (hq : 0 < q) (hr : 0 < r) (hs : 0 < s) (hw : p + q = r + s) (h : p * a + q * b = r * c + s * d) : ge_rg a b c d := by
  unfold ge_rg
  constructor
  · by_cases k : c ≤ a ∨ d ≤ a ∨ c ≤ b ∨ d ≤ b
    · exact k
    · exfalso
      have hm : ∃ m, a < m ∧ b < m ∧ m ≤ c ∧ m ≤ d := by
        by_cases c ≤ d
        · exact ⟨c, by omega, by omega, by omega, by omega⟩
        · exact ⟨d, by omega, by omega, by omega, by omega⟩
      obtain ⟨m, m1, m2, m3, m4⟩ := hm
      have k1 := Int.mul_pos hp (show 0 < m - a by omega)
      have k2 := Int.mul_pos hq (show 0 < m - b by omega)
      have k3 := Int.mul_nonneg (show 0 ≤ r by omega) (show 0 ≤ c - m by omega)
      have k4 := Int.mul_nonneg (show 0 ≤ s by omega) (show 0 ≤ d - m by omega)
      have k5 : (p + q) * m = (r + s) * m := by rw [hw]
      grind
  · by_cases k : a ≤ c ∨ b ≤ c ∨ a ≤ d ∨ b ≤ d
    · exact k
    · exfalso
      have hm : ∃ m, m < a ∧ m < b ∧ c ≤ m ∧ d ≤ m := by
        by_cases c ≤ d
        · exact ⟨d, by omega, by omega, by omega, by omega⟩
        · exact ⟨c, by omega, by omega, by omega, by omega⟩
      obtain ⟨m, m1, m2, m3, m4⟩ := hm
      have k1 := Int.mul_pos hp (show 0 < a - m by omega)
      have k2 := Int.mul_pos hq (show 0 < b - m by omega)
      have k3 := Int.mul_nonneg (show 0 ≤ r by omega) (show 0 ≤ m - c by omega)
      have k4 := Int.mul_nonneg (show 0 ≤ s by omega) (show 0 ≤ m - d by omega)
      have k5 : (p + q) * m = (r + s) * m := by rw [hw]
      grind
theorem ge_thru_bx {ax ay bx b_y cx cy dx dy : Int} (h : ge_thru ax ay bx b_y cx cy dx dy) : ge_bx ax ay bx b_y cx cy dx dy := by
  obtain ⟨h1, h2⟩ := h
  have e0 := ge_sum ax ay bx b_y cx cy dx dy
  have e1 := ge_atx ax ay bx b_y cx cy dx dy
  have e2 := ge_aty ax ay bx b_y cx cy dx dy
  have g1 := ge_neg h1
  have g2 := ge_neg h2
  refine ⟨?_, ?_, by omega, by omega⟩
  all_goals
    generalize ge_cr ax ay bx b_y cx cy = s1 at *
    generalize ge_cr ax ay bx b_y dx dy = s2 at *
    generalize ge_cr cx cy dx dy ax ay = s3 at *
    generalize ge_cr cx cy dx dy bx b_y = s4 at *
    rcases g1 with ⟨a1, a2⟩ | ⟨a1, a2⟩ <;> rcases g2 with ⟨a3, a4⟩ | ⟨a3, a4⟩
  -- s1 < 0 < s2 wants s3 > 0 > s4 (s2 - s1 = s3 - s4)
  · omega
  · exact ge_mean (p := -s4) (q := s3) (r := s2) (s := -s1) (by omega) (by omega) (by omega) (by omega) (by omega) (by grind)
  · exact ge_mean (p := s4) (q := -s3) (r := -s2) (s := s1) (by omega) (by omega) (by omega) (by omega) (by omega) (by grind)
  · omega
  · omega
  · exact ge_mean (p := -s4) (q := s3) (r := s2) (s := -s1) (by omega) (by omega) (by omega) (by omega) (by omega) (by grind)
  · exact ge_mean (p := s4) (q := -s3) (r := -s2) (s := s1) (by omega) (by omega) (by omega) (by omega) (by omega) (by grind)
  · omega
theorem ge_prod {a b p : Int} (h : ge_bt a b p) : (a - p) * (b - p) ≤ 0 := by
  rcases h with ⟨x, y⟩ | ⟨x, y⟩
  · have := ge_np (show 0 ≤ b - p by omega) (show a - p ≤ 0 by omega)
    rw [Int.mul_comm]; exact this
  · exact ge_np (by omega) (by omega)
theorem ge_prod' {a b p : Int} (h : (a - p) * (b - p) ≤ 0) : ge_bt a b p := by
  unfold ge_bt
  by_cases h1 : p < a
  · by_cases h2 : p < b
    · have := Int.mul_pos (show 0 < a - p by omega) (show 0 < b - p by omega); omega
    · exact Or.inr ⟨by omega, by omega⟩
  · by_cases h2 : a < p
    · by_cases h3 : b < p
      · have := Int.mul_nonneg_of_nonpos_of_nonpos (show a - p ≤ 0 by omega) (show b - p ≤ 0 by omega)
        have h4 : (a - p) * (b - p) = 0 := by omega
        rcases Int.mul_eq_zero.mp h4 with h | h <;> omega
      · exact Or.inl ⟨by omega, by omega⟩
    · rcases Int.le_total b p with h3 | h3
      · exact Or.inr ⟨h3, by omega⟩
      · exact Or.inl ⟨by omega, h3⟩
theorem ge_on_bx {ax ay bx b_y cx cy dx dy : Int} (h : ge_on ax ay bx b_y cx cy) : ge_bx ax ay bx b_y cx cy dx dy := by
  obtain ⟨h0, h1, h2⟩ := h
  refine ⟨?_, ?_, ?_, ?_⟩
  · unfold ge_rg ge_bt at *; omega
  · unfold ge_rg ge_bt at *; omega
  · rw [h0]; simp
  · have := ge_two (ux := ax - cx) (uy := ay - cy) (vx := bx - cx) (vy := b_y - cy) (wx := dx - cx) (wy := dy - cy) (by unfold ge_cr at h0; grind) (ge_prod h1) (ge_prod h2)
    unfold ge_cr
    exact this
theorem ge_bx_swap {ax ay bx b_y cx cy dx dy : Int} (h : ge_bx ax ay bx b_y cx cy dx dy) : ge_bx cx cy dx dy ax ay bx b_y := by
  obtain ⟨h1, h2, h3, h4⟩ := h
  exact ⟨by unfold ge_rg at *; omega, by unfold ge_rg at *; omega, h4, h3⟩
theorem ge_cr_rev (ax ay bx b_y px py : Int) : ge_cr bx b_y ax ay px py = - ge_cr ax ay bx b_y px py := by unfold ge_cr; grind
theorem ge_bx_rev {ax ay bx b_y cx cy dx dy : Int} (h : ge_bx ax ay bx b_y dx dy cx cy) : ge_bx ax ay bx b_y cx cy dx dy := by
  obtain ⟨h1, h2, h3, h4⟩ := h
  refine ⟨by unfold ge_rg at *; omega, by unfold ge_rg at *; omega, by rw [Int.mul_comm]; exact h3, ?_⟩
  rw [ge_cr_rev cx cy dx dy ax ay, ge_cr_rev cx cy dx dy bx b_y] at h4
  rw [Int.neg_mul_neg] at h4
  exact h4
theorem ge_any_bx {ax ay bx b_y cx cy dx dy : Int} (h : ge_any ax ay bx b_y cx cy dx dy) : ge_bx ax ay bx b_y cx cy dx dy := by
  rcases h with h | h | h | h
  · exact ge_on_bx h
  · exact ge_bx_rev (ge_on_bx h)
  · exact ge_bx_swap (ge_on_bx h)
  · exact ge_bx_swap (ge_bx_rev (ge_on_bx h))
/-- C on the line AB, D not: then C is between A and B -/
theorem ge_bx_on1 {ax ay bx b_y cx cy dx dy : Int} (h1 : ge_cr ax ay bx b_y cx cy = 0) (h2 : ge_cr ax ay bx b_y dx dy ≠ 0)
    (h3 : ge_cr cx cy dx dy ax ay * ge_cr cx cy dx dy bx b_y ≤ 0) : ge_on ax ay bx b_y cx cy := by
  have hn : ¬ (ge_cr cx cy dx dy ax ay = 0 ∧ ge_cr cx cy dx dy bx b_y = 0) := by
    rintro ⟨a, b⟩
    have := ge_sum ax ay bx b_y cx cy dx dy
    omega
  have := ge_mid (ux := ax - cx) (uy := ay - cy) (vx := bx - cx) (vy := b_y - cy) (wx := dx - cx) (wy := dy - cy) (by unfold ge_cr at h1; grind) (by unfold ge_cr at h3; exact h3) (by unfold ge_cr at hn; exact hn)
  exact ⟨h1, ge_prod' this.1, ge_prod' this.2⟩
theorem ge_flat {ax ay bx b_y cx cy dx dy : Int} (h1 : ge_cr ax ay bx b_y cx cy = 0) (h2 : ge_cr ax ay bx b_y dx dy = 0) (h3 : ge_cr cx cy dx dy ax ay = 0) (h4 : ge_cr cx cy dx dy bx b_y = 0)
    (hx : ge_rg ax bx cx dx) (hy : ge_rg ay b_y cy dy) : ge_any ax ay bx b_y cx cy dx dy := by
  unfold ge_any ge_on
  by_cases ab : ax = bx
  · by_cases cd : cx = dx
    · subst ab; subst cd
      have e : ax = cx := by unfold ge_rg at hx; omega
      subst e
      have k : ge_bt ay b_y cy ∨ ge_bt ay b_y dy ∨ ge_bt cy dy ay ∨ ge_bt cy dy b_y := by unfold ge_rg at hy; unfold ge_bt; omega
      have z : ge_bt ax ax ax := Or.inl ⟨by omega, by omega⟩
      rcases k with k | k | k | k
      · exact Or.inl ⟨h1, z, k⟩
      · exact Or.inr (Or.inl ⟨h2, z, k⟩)
      · exact Or.inr (Or.inr (Or.inl ⟨h3, z, k⟩))
      · exact Or.inr (Or.inr (Or.inr ⟨h4, z, k⟩))
    · by_cases k : ge_bt cx dx ax
      · exact Or.inr (Or.inr (Or.inl ⟨h3, k, ge_line cd h3 k⟩))
      · exfalso; unfold ge_bt at k; unfold ge_rg at hx; omega
  · by_cases k : ge_bt ax bx cx
    · exact Or.inl ⟨h1, k, ge_line ab h1 k⟩
    · by_cases k2 : ge_bt ax bx dx
      · exact Or.inr (Or.inl ⟨h2, k2, ge_line ab h2 k2⟩)
      · have k3 : ge_bt cx dx ax ∧ cx ≠ dx := by unfold ge_bt at *; unfold ge_rg at hx; omega
        exact Or.inr (Or.inr (Or.inl ⟨h3, k3.1, ge_line k3.2 h3 k3.1⟩))
/-- THE TWO WAYS to ask whether two stretches meet -/
theorem ge_meet {ax ay bx b_y cx cy dx dy : Int} : ge_bx ax ay bx b_y cx cy dx dy ↔ ge_any ax ay bx b_y cx cy dx dy ∨ ge_thru ax ay bx b_y cx cy dx dy := by
  constructor
  · rintro ⟨hx, hy, p1, p2⟩
    have e0 := ge_sum ax ay bx b_y cx cy dx dy
    by_cases z1 : ge_cr ax ay bx b_y cx cy = 0
    · by_cases z2 : ge_cr ax ay bx b_y dx dy = 0
      · have e1 : ge_cr cx cy dx dy ax ay = ge_cr cx cy dx dy bx b_y := by omega
        have e2 : ge_cr cx cy dx dy ax ay = 0 := by
          rw [← e1] at p2
          have := ge_sq (ge_cr cx cy dx dy ax ay)
          have h4 : ge_cr cx cy dx dy ax ay * ge_cr cx cy dx dy ax ay = 0 := by omega
          rcases Int.mul_eq_zero.mp h4 with h | h <;> exact h
        exact Or.inl (ge_flat z1 z2 e2 (by rw [← e1]; exact e2) hx hy)
      · exact Or.inl (Or.inl (ge_bx_on1 z1 z2 p2))
    · by_cases z2 : ge_cr ax ay bx b_y dx dy = 0
      · refine Or.inl (Or.inr (Or.inl (ge_bx_on1 (dx := cx) (dy := cy) z2 z1 ?_)))
        rw [ge_cr_rev cx cy dx dy, ge_cr_rev cx cy dx dy]; grind
      · by_cases z3 : ge_cr cx cy dx dy ax ay = 0
        · by_cases z4 : ge_cr cx cy dx dy bx b_y = 0
          · exfalso
            have e1 : ge_cr ax ay bx b_y dx dy = ge_cr ax ay bx b_y cx cy := by omega
            rw [e1] at p1
            have := ge_sq (ge_cr ax ay bx b_y cx cy)
            have h4 : ge_cr ax ay bx b_y cx cy * ge_cr ax ay bx b_y cx cy = 0 := by omega
            rcases Int.mul_eq_zero.mp h4 with h | h <;> exact z1 h
          · exact Or.inl (Or.inr (Or.inr (Or.inl (ge_bx_on1 z3 z4 p1))))
        · by_cases z4 : ge_cr cx cy dx dy bx b_y = 0
          · refine Or.inl (Or.inr (Or.inr (Or.inr (ge_bx_on1 (dx := ax) (dy := ay) z4 z3 ?_))))
            rw [ge_cr_rev ax ay bx b_y, ge_cr_rev ax ay bx b_y]; grind
          · right
            constructor
            · have : ge_cr ax ay bx b_y cx cy * ge_cr ax ay bx b_y dx dy ≠ 0 := fun h => by
                rcases Int.mul_eq_zero.mp h with h | h
                · exact z1 h
                · exact z2 h
              omega
            · have : ge_cr cx cy dx dy ax ay * ge_cr cx cy dx dy bx b_y ≠ 0 := fun h => by
                rcases Int.mul_eq_zero.mp h with h | h
                · exact z3 h
                · exact z4 h
              omega
  · rintro (h | h)
    · exact ge_any_bx h
    · exact ge_thru_bx h
