-- DRAFT, never compiled yet. Two round shapes that some line parts are parted by the line of a side of one of them.
theorem ge_pl (a b c e : Int × Int) : ge_x a b * ge_x c e = ge_x a e * ge_x c b + ge_x b e * ge_x a c := by unfold ge_x; grind
theorem ge_xx (a b : Int × Int) : ge_x b a = - ge_x a b := by unfold ge_x; grind
theorem ge_x0 (a : Int × Int) : ge_x a a = 0 := by unfold ge_x; grind
theorem ge_cmb (r1 r2 d z : Int × Int) : ge_x r1 r2 * ge_d d z = ge_x d r2 * ge_d r1 z + ge_x r1 d * ge_d r2 z := by unfold ge_x ge_d; grind
theorem ge_T {v1 v2 d r : Int × Int} (h12 : 0 ≤ ge_x v1 v2) (h1 : 0 < ge_x v1 d) (h2 : 0 ≤ ge_x d v2) (a : 0 ≤ ge_x r d) (b : 0 ≤ ge_x v1 r) : 0 ≤ ge_x r v2 := by
  apply ge_pos_of h1
  rw [ge_pl v1 d r v2]
  have k1 := Int.mul_nonneg h12 a
  have k2 := Int.mul_nonneg h2 b
  omega
theorem ge_T' {v1 v2 d r : Int × Int} (h12 : 0 ≤ ge_x v1 v2) (h1 : 0 ≤ ge_x v1 d) (h2 : 0 < ge_x d v2) (a : 0 ≤ ge_x d r) (b : 0 ≤ ge_x r v2) : 0 ≤ ge_x v1 r := by
  apply ge_pos_of h2
  have e := ge_pl v1 d r v2
  have k1 := Int.mul_nonneg h12 a
  have k2 := Int.mul_nonneg h1 b
  have e2 := ge_xx d r
  rw [e2] at e
  rw [Int.mul_neg] at e
  omega
/-- of the four rays round d one serves in d's place -/
theorem ge_core {v1 v2 a1 a2 d z : Int × Int} (h12 : 0 ≤ ge_x v1 v2) (g12 : 0 ≤ ge_x a1 a2) (h1 : 0 < ge_x v1 d) (h2 : 0 < ge_x d v2) (g1 : 0 < ge_x a1 d) (g2 : 0 < ge_x d a2) (hz : 0 ≤ ge_d d z) :
    ∃ r : Int × Int, (r = v1 ∨ r = v2 ∨ r = a1 ∨ r = a2) ∧ (0 ≤ ge_x v1 r ∧ 0 ≤ ge_x r v2) ∧ (0 ≤ ge_x a1 r ∧ 0 ≤ ge_x r a2) ∧ 0 ≤ ge_d r z := by
  have lower : ∃ r : Int × Int, (r = v1 ∨ r = a1) ∧ (0 ≤ ge_x v1 r ∧ 0 ≤ ge_x r v2) ∧ (0 ≤ ge_x a1 r ∧ 0 ≤ ge_x r a2) ∧ 0 < ge_x r d := by
    by_cases c : 0 ≤ ge_x v1 a1
    · exact ⟨a1, Or.inr rfl, ⟨c, ge_T h12 h1 (by omega) (by omega) c⟩, ⟨by rw [ge_x0]; omega, g12⟩, g1⟩
    · have c2 : 0 ≤ ge_x a1 v1 := by rw [ge_xx v1 a1]; omega
      exact ⟨v1, Or.inl rfl, ⟨by rw [ge_x0]; omega, h12⟩, ⟨c2, ge_T g12 g1 (by omega) (by omega) c2⟩, h1⟩
  have upper : ∃ r : Int × Int, (r = v2 ∨ r = a2) ∧ (0 ≤ ge_x v1 r ∧ 0 ≤ ge_x r v2) ∧ (0 ≤ ge_x a1 r ∧ 0 ≤ ge_x r a2) ∧ 0 < ge_x d r := by
    by_cases c : 0 ≤ ge_x v2 a2
    · exact ⟨v2, Or.inl rfl, ⟨h12, by rw [ge_x0]; omega⟩, ⟨ge_T' g12 (by omega) g2 (by omega) c, c⟩, h2⟩
    · have c2 : 0 ≤ ge_x a2 v2 := by rw [ge_xx v2 a2]; omega
      exact ⟨a2, Or.inr rfl, ⟨ge_T' h12 (by omega) h2 (by omega) c2, c2⟩, ⟨g12, by rw [ge_x0]; omega⟩, g2⟩
  obtain ⟨r1, e1, ⟨p1, p2⟩, ⟨p3, p4⟩, p5⟩ := lower
  obtain ⟨r2, e2, ⟨q1, q2⟩, ⟨q3, q4⟩, q5⟩ := upper
  have hr : 0 ≤ ge_x r1 r2 := by
    rcases e1 with rfl | rfl
    · exact q1
    · exact q3
  have hc := ge_cmb r1 r2 d z
  have hn := Int.mul_nonneg hr hz
  by_cases k1 : 0 ≤ ge_d r1 z
  · refine ⟨r1, ?_, ⟨p1, p2⟩, ⟨p3, p4⟩, k1⟩
    rcases e1 with h | h
    · exact Or.inl h
    · exact Or.inr (Or.inr (Or.inl h))
  · by_cases k2 : 0 ≤ ge_d r2 z
    · refine ⟨r2, ?_, ⟨q1, q2⟩, ⟨q3, q4⟩, k2⟩
      rcases e2 with h | h
      · exact Or.inr (Or.inl h)
      · exact Or.inr (Or.inr (Or.inr h))
    · exfalso
      have m1 := Int.mul_neg_of_pos_of_neg q5 (show ge_d r1 z < 0 by omega)
      have m2 := Int.mul_neg_of_pos_of_neg p5 (show ge_d r2 z < 0 by omega)
      omega
-- shapes
theorem ge_nx_lt {n i : Nat} (h : 0 < n) : ge_nx n i < n := by unfold ge_nx; split <;> omega
theorem ge_pv_lt {n i : Nat} (h : i < n) : ge_pv n i < n := by unfold ge_pv; split <;> omega
theorem ge_nx_pv {n i : Nat} (h : i < n) : ge_nx n (ge_pv n i) = i := by unfold ge_nx ge_pv; split <;> split <;> omega
theorem ge_nx_ne_pv {n i : Nat} (h : i < n) (hn : 3 ≤ n) : ge_nx n i ≠ ge_pv n i := by unfold ge_nx ge_pv; split <;> split <;> omega
theorem ge_nx_ne {n i : Nat} (h : i < n) (hn : 2 ≤ n) : ge_nx n i ≠ i := by unfold ge_nx; split <;> omega
theorem ge_bs_nv (P : Nat → Int × Int) (n i : Nat) (p : Int × Int) : ge_bs P n i p = ge_d (ge_nv P n i) p - ge_d (ge_nv P n i) (P i) := by unfold ge_bs ge_d ge_nv; grind
theorem ge_bs_nv' (P : Nat → Int × Int) (n i : Nat) (p : Int × Int) : ge_bs P n i p = ge_d (ge_nv P n i) p - ge_d (ge_nv P n i) (P (ge_nx n i)) := by unfold ge_bs ge_d ge_nv; grind
theorem ge_ccw_nn {n : Nat} {P : Nat → Int × Int} (h : ge_ccw n P) {i k : Nat} (hi : i < n) (hk : k < n) : 0 ≤ ge_bs P n i (P k) := by
  by_cases h1 : k = i
  · subst h1; rw [ge_bs_nv]; omega
  · by_cases h2 : k = ge_nx n i
    · subst h2; rw [ge_bs_nv']; omega
    · have := h i k hi hk h1 h2; omega
theorem ge_argmin (f : Nat → Int) : ∀ n : Nat, 0 < n → ∃ i, i < n ∧ ∀ k, k < n → f i ≤ f k := by
  intro n
  induction n with
  | zero => intro h; omega
  | succ n ih =>
    intro _
    by_cases h0 : n = 0
    · subst h0; exact ⟨0, by omega, fun k hk => by have : k = 0 := by omega
                                                   subst this; omega⟩
    · obtain ⟨i, hi, hm⟩ := ih (by omega)
      by_cases hc : f i ≤ f n
      · exact ⟨i, by omega, fun k hk => by
          by_cases h : k < n
          · exact hm k h
          · have : k = n := by omega
            subst this; exact hc⟩
      · exact ⟨n, by omega, fun k hk => by
          by_cases h : k < n
          · have := hm k h; omega
          · have : k = n := by omega
            subst this; omega⟩
/-- a corner that is least in the direction d, and its two sides -/
theorem ge_corner {n : Nat} {P : Nat → Int × Int} (hn : 3 ≤ n) (h : ge_ccw n P) (d : Int × Int) :
    ∃ i, i < n ∧ (∀ k, k < n → ge_d d (P i) ≤ ge_d d (P k)) ∧
      0 < ge_x (ge_nv P n (ge_pv n i)) (ge_nv P n i) ∧ 0 ≤ ge_x (ge_nv P n (ge_pv n i)) d ∧ 0 ≤ ge_x d (ge_nv P n i) ∧
      (∀ r : Int × Int, 0 ≤ ge_x (ge_nv P n (ge_pv n i)) r → 0 ≤ ge_x r (ge_nv P n i) → ∀ k, k < n → ge_d r (P i) ≤ ge_d r (P k)) := by
  obtain ⟨i, hi, hm⟩ := ge_argmin (fun k => ge_d d (P k)) n (by omega)
  have hp := ge_pv_lt hi
  have hnp := ge_nx_pv hi
  have hnl : ge_nx n i < n := ge_nx_lt (by omega)
  have hpos : 0 < ge_x (ge_nv P n (ge_pv n i)) (ge_nv P n i) := by
    have k := h (ge_pv n i) (ge_nx n i) hp hnl (ge_nx_ne_pv hi hn) (by rw [hnp]; exact ge_nx_ne hi (by omega))
    have e : ge_bs P n (ge_pv n i) (P (ge_nx n i)) = ge_x (ge_nv P n (ge_pv n i)) (ge_nv P n i) := by
      unfold ge_bs ge_x ge_nv; rw [hnp]; grind
    rw [e] at k; exact k
  refine ⟨i, hi, hm, hpos, ?_, ?_, ?_⟩
  · have k := hm (ge_pv n i) hp
    have e : ge_x (ge_nv P n (ge_pv n i)) d = ge_d d (P (ge_pv n i)) - ge_d d (P i) := by
      unfold ge_x ge_nv ge_d; rw [hnp]; grind
    rw [e]; omega
  · have k := hm (ge_nx n i) hnl
    have e : ge_x d (ge_nv P n i) = ge_d d (P (ge_nx n i)) - ge_d d (P i) := by
      unfold ge_x ge_nv ge_d; grind
    rw [e]; omega
  · intro r r1 r2 k hk
    have b1 := ge_ccw_nn h hp hk
    rw [ge_bs_nv', hnp] at b1
    have b2 := ge_ccw_nn h hi hk
    rw [ge_bs_nv] at b2
    have e : ge_x (ge_nv P n (ge_pv n i)) (ge_nv P n i) * (ge_d r (P k) - ge_d r (P i)) =
        ge_x r (ge_nv P n i) * (ge_d (ge_nv P n (ge_pv n i)) (P k) - ge_d (ge_nv P n (ge_pv n i)) (P i)) + ge_x (ge_nv P n (ge_pv n i)) r * (ge_d (ge_nv P n i) (P k) - ge_d (ge_nv P n i) (P i)) := by
      generalize ge_nv P n (ge_pv n i) = v1
      generalize ge_nv P n i = v2
      unfold ge_x ge_d; grind
    have m1 := Int.mul_nonneg r2 b1
    have m2 := Int.mul_nonneg r1 b2
    have := ge_pos_of hpos (by rw [e]; omega)
    omega
theorem ge_neg_d (r p : Int × Int) : ge_d (-r.1, -r.2) p = - ge_d r p := by unfold ge_d; grind
theorem ge_neg_x (r p : Int × Int) : ge_x (-r.1, -r.2) p = - ge_x r p := by unfold ge_x; grind
theorem ge_neg_x' (r p : Int × Int) : ge_x p (-r.1, -r.2) = - ge_x p r := by unfold ge_x; grind
/-- d parallel to v1, in the cone of v1 and v2: what d parts, v1 parts -/
theorem ge_par1 {v1 v2 d w : Int × Int} (h12 : 0 < ge_x v1 v2) (h1 : ge_x v1 d = 0) (h2 : 0 ≤ ge_x d v2) (hd : d ≠ (0, 0)) (hw : ge_d d w ≤ 0) : ge_d v1 w ≤ 0 := by
  have e1 : ge_x v1 v2 * d.1 = ge_x d v2 * v1.1 + ge_x v1 d * v2.1 := by unfold ge_x; grind
  have e2 : ge_x v1 v2 * d.2 = ge_x d v2 * v1.2 + ge_x v1 d * v2.2 := by unfold ge_x; grind
  rw [h1] at e1 e2
  have hpos : 0 < ge_x d v2 := by
    by_cases hz : ge_x d v2 = 0
    · exfalso
      rw [hz] at e1 e2
      have k1 : d.1 = 0 := by
        rcases Int.mul_eq_zero.mp (show ge_x v1 v2 * d.1 = 0 by omega) with h | h
        · omega
        · exact h
      have k2 : d.2 = 0 := by
        rcases Int.mul_eq_zero.mp (show ge_x v1 v2 * d.2 = 0 by omega) with h | h
        · omega
        · exact h
      exact hd (Prod.ext k1 k2)
    · omega
  have e3 : ge_x d v2 * ge_d v1 w = ge_x v1 v2 * ge_d d w := by unfold ge_d; grind
  have k := ge_np (show 0 ≤ ge_x v1 v2 by omega) hw
  have := ge_pos_of (b := - ge_d v1 w) hpos (by rw [Int.mul_neg, e3]; omega)
  omega
theorem ge_par2 {v1 v2 d w : Int × Int} (h12 : 0 < ge_x v1 v2) (h1 : 0 ≤ ge_x v1 d) (h2 : ge_x d v2 = 0) (hd : d ≠ (0, 0)) (hw : ge_d d w ≤ 0) : ge_d v2 w ≤ 0 := by
  have e1 : ge_x v1 v2 * d.1 = ge_x d v2 * v1.1 + ge_x v1 d * v2.1 := by unfold ge_x; grind
  have e2 : ge_x v1 v2 * d.2 = ge_x d v2 * v1.2 + ge_x v1 d * v2.2 := by unfold ge_x; grind
  rw [h2] at e1 e2
  have hpos : 0 < ge_x v1 d := by
    by_cases hz : ge_x v1 d = 0
    · exfalso
      rw [hz] at e1 e2
      have k1 : d.1 = 0 := by
        rcases Int.mul_eq_zero.mp (show ge_x v1 v2 * d.1 = 0 by omega) with h | h
        · omega
        · exact h
      have k2 : d.2 = 0 := by
        rcases Int.mul_eq_zero.mp (show ge_x v1 v2 * d.2 = 0 by omega) with h | h
        · omega
        · exact h
      exact hd (Prod.ext k1 k2)
    · omega
  have e3 : ge_x v1 d * ge_d v2 w = ge_x v1 v2 * ge_d d w := by unfold ge_d; grind
  have k := ge_np (show 0 ≤ ge_x v1 v2 by omega) hw
  have := ge_pos_of (b := - ge_d v2 w) hpos (by rw [Int.mul_neg, e3]; omega)
  omega
theorem ge_d_sub (r a b : Int × Int) : ge_d r (a.1 - b.1, a.2 - b.2) = ge_d r a - ge_d r b := by unfold ge_d; grind
/-- two round shapes parted by d: a side of one of them parts them -/
theorem ge_sat {n m : Nat} {P Q : Nat → Int × Int} (hn : 3 ≤ n) (hm : 3 ≤ m) (hP : ge_ccw n P) (hQ : ge_ccw m Q) {d : Int × Int} (hd : d ≠ (0, 0))
    (h : ∀ i k, i < n → k < m → ge_d d (Q k) ≤ ge_d d (P i)) :
    (∃ i, i < n ∧ ∀ k, k < m → ge_bs P n i (Q k) ≤ 0) ∨ (∃ k, k < m ∧ ∀ i, i < n → ge_bs Q m k (P i) ≤ 0) := by
  obtain ⟨i, hi, -, v12, v1d, dv2, hc⟩ := ge_corner hn hP d
  obtain ⟨j, hj, -, u12, u1d, du2, gc⟩ := ge_corner hm hQ (-d.1, -d.2)
  have hpi := ge_pv_lt hi
  have hpj := ge_pv_lt hj
  have hnpi := ge_nx_pv hi
  have hnpj := ge_nx_pv hj
  have hd' : ((-d.1, -d.2) : Int × Int) ≠ (0, 0) := by
    intro h0
    apply hd
    have a1 : -d.1 = 0 := congrArg Prod.fst h0
    have a2 : -d.2 = 0 := congrArg Prod.snd h0
    exact Prod.ext (by simp only; omega) (by simp only; omega)
  have low1 : (∀ k, k < m → ge_d (ge_nv P n (ge_pv n i)) (Q k) ≤ ge_d (ge_nv P n (ge_pv n i)) (P i)) → ∃ i, i < n ∧ ∀ k, k < m → ge_bs P n i (Q k) ≤ 0 := fun hh =>
    ⟨ge_pv n i, hpi, fun k hk => by rw [ge_bs_nv', hnpi]; have := hh k hk; omega⟩
  have low2 : (∀ k, k < m → ge_d (ge_nv P n i) (Q k) ≤ ge_d (ge_nv P n i) (P i)) → ∃ i, i < n ∧ ∀ k, k < m → ge_bs P n i (Q k) ≤ 0 := fun hh =>
    ⟨i, hi, fun k hk => by rw [ge_bs_nv]; have := hh k hk; omega⟩
  have up1 : (∀ k, k < n → ge_d (ge_nv Q m (ge_pv m j)) (P k) ≤ ge_d (ge_nv Q m (ge_pv m j)) (Q j)) → ∃ k, k < m ∧ ∀ i, i < n → ge_bs Q m k (P i) ≤ 0 := fun hh =>
    ⟨ge_pv m j, hpj, fun k hk => by rw [ge_bs_nv', hnpj]; have := hh k hk; omega⟩
  have up2 : (∀ k, k < n → ge_d (ge_nv Q m j) (P k) ≤ ge_d (ge_nv Q m j) (Q j)) → ∃ k, k < m ∧ ∀ i, i < n → ge_bs Q m k (P i) ≤ 0 := fun hh =>
    ⟨j, hj, fun k hk => by rw [ge_bs_nv]; have := hh k hk; omega⟩
  generalize ge_nv P n (ge_pv n i) = v1 at *
  generalize ge_nv P n i = v2 at *
  generalize ge_nv Q m (ge_pv m j) = u1 at *
  generalize ge_nv Q m j = u2 at *
  by_cases s1 : ge_x v1 d = 0
  · refine Or.inl (low1 fun k hk => ?_)
    have := ge_par1 (w := ((Q k).1 - (P i).1, (Q k).2 - (P i).2)) v12 s1 dv2 hd (by rw [ge_d_sub]; have := h i k hi hk; omega)
    rw [ge_d_sub] at this; omega
  by_cases s2 : ge_x d v2 = 0
  · refine Or.inl (low2 fun k hk => ?_)
    have := ge_par2 (w := ((Q k).1 - (P i).1, (Q k).2 - (P i).2)) v12 v1d s2 hd (by rw [ge_d_sub]; have := h i k hi hk; omega)
    rw [ge_d_sub] at this; omega
  by_cases s3 : ge_x u1 (-d.1, -d.2) = 0
  · refine Or.inr (up1 fun k hk => ?_)
    have := ge_par1 (w := ((P k).1 - (Q j).1, (P k).2 - (Q j).2)) u12 s3 du2 hd' (by rw [ge_d_sub, ge_neg_d, ge_neg_d]; have := h k j hk hj; omega)
    rw [ge_d_sub] at this; omega
  by_cases s4 : ge_x (-d.1, -d.2) u2 = 0
  · refine Or.inr (up2 fun k hk => ?_)
    have := ge_par2 (w := ((P k).1 - (Q j).1, (P k).2 - (Q j).2)) u12 u1d s4 hd' (by rw [ge_d_sub, ge_neg_d, ge_neg_d]; have := h k j hk hj; omega)
    rw [ge_d_sub] at this; omega
  rw [ge_neg_x'] at u1d s3
  rw [ge_neg_x] at du2 s4
  obtain ⟨r, hr, ⟨r1, r2⟩, ⟨r3, r4⟩, rz⟩ := ge_core (v1 := v1) (v2 := v2) (a1 := (-u1.1, -u1.2)) (a2 := (-u2.1, -u2.2)) (d := d) (z := ((P i).1 - (Q j).1, (P i).2 - (Q j).2))
    (by omega) (by rw [ge_neg_x, ge_neg_x']; omega) (by omega) (by omega) (by rw [ge_neg_x]; omega) (by rw [ge_neg_x']; omega) (by rw [ge_d_sub]; have := h i j hi hj; omega)
  rw [ge_d_sub] at rz
  have hPr : ∀ k, k < n → ge_d r (P i) ≤ ge_d r (P k) := hc r r1 r2
  have hQr : ∀ k, k < m → ge_d r (Q k) ≤ ge_d r (Q j) := by
    intro k hk
    have := gc (-r.1, -r.2) (by rw [ge_neg_x'] ; rw [ge_neg_x] at r3; omega) (by rw [ge_neg_x]; rw [ge_neg_x'] at r4; omega) k hk
    rw [ge_neg_d, ge_neg_d] at this; omega
  rcases hr with e | e | e | e
  · subst e
    exact Or.inl (low1 fun k hk => by have := hQr k hk; omega)
  · subst e
    exact Or.inl (low2 fun k hk => by have := hQr k hk; omega)
  · refine Or.inr (up1 fun k hk => ?_)
    have k1 := hPr k hk
    rw [e, ge_neg_d, ge_neg_d] at k1
    rw [e, ge_neg_d, ge_neg_d] at rz
    omega
  · refine Or.inr (up2 fun k hk => ?_)
    have k1 := hPr k hk
    rw [e, ge_neg_d, ge_neg_d] at k1
    rw [e, ge_neg_d, ge_neg_d] at rz
    omega
/-- the same for a stretch A B and a round shape: least at A -/
theorem ge_seg1 {m : Nat} {Q : Nat → Int × Int} {A B : Int × Int} (hm : 3 ≤ m) (hQ : ge_ccw m Q) (hAB : A ≠ B) {d : Int × Int} (hd : d ≠ (0, 0))
    (hl : ge_d d A ≤ ge_d d B) (h : ∀ k, k < m → ge_d d (Q k) ≤ ge_d d A) :
    (∃ k, k < m ∧ ge_bs Q m k A ≤ 0 ∧ ge_bs Q m k B ≤ 0) ∨ (∀ k, k < m → ge_cr A.1 A.2 B.1 B.2 (Q k).1 (Q k).2 ≤ 0) ∨ (∀ k, k < m → 0 ≤ ge_cr A.1 A.2 B.1 B.2 (Q k).1 (Q k).2) := by
  obtain ⟨j, hj, -, u12, u1d, du2, gc⟩ := ge_corner hm hQ (-d.1, -d.2)
  have hpj := ge_pv_lt hj
  have hnpj := ge_nx_pv hj
  have hd' : ((-d.1, -d.2) : Int × Int) ≠ (0, 0) := by
    intro h0
    apply hd
    have a1 : -d.1 = 0 := congrArg Prod.fst h0
    have a2 : -d.2 = 0 := congrArg Prod.snd h0
    exact Prod.ext (by simp only; omega) (by simp only; omega)
  have ecr : ∀ p : Int × Int, ge_cr A.1 A.2 B.1 B.2 p.1 p.2 = ge_d (A.2 - B.2, B.1 - A.1) p - ge_d (A.2 - B.2, B.1 - A.1) A := by
    intro p; unfold ge_cr ge_d; grind
  have up1 : ge_d (ge_nv Q m (ge_pv m j)) A ≤ ge_d (ge_nv Q m (ge_pv m j)) (Q j) → ge_d (ge_nv Q m (ge_pv m j)) B ≤ ge_d (ge_nv Q m (ge_pv m j)) (Q j) → ∃ k, k < m ∧ ge_bs Q m k A ≤ 0 ∧ ge_bs Q m k B ≤ 0 := fun a b =>
    ⟨ge_pv m j, hpj, by rw [ge_bs_nv', hnpj]; omega, by rw [ge_bs_nv', hnpj]; omega⟩
  have up2 : ge_d (ge_nv Q m j) A ≤ ge_d (ge_nv Q m j) (Q j) → ge_d (ge_nv Q m j) B ≤ ge_d (ge_nv Q m j) (Q j) → ∃ k, k < m ∧ ge_bs Q m k A ≤ 0 ∧ ge_bs Q m k B ≤ 0 := fun a b =>
    ⟨j, hj, by rw [ge_bs_nv]; omega, by rw [ge_bs_nv]; omega⟩
  generalize ge_nv Q m (ge_pv m j) = u1 at *
  generalize ge_nv Q m j = u2 at *
  by_cases s0 : ge_d d A = ge_d d B
  · -- d is upright on A B
    right
    have en : ∀ w : Int × Int, ((B.1 - A.1) * (B.1 - A.1) + (B.2 - A.2) * (B.2 - A.2)) * ge_d d w = ge_d d (A.2 - B.2, B.1 - A.1) * ge_d (A.2 - B.2, B.1 - A.1) w + (ge_d d B - ge_d d A) * ge_d (B.1 - A.1, B.2 - A.2) w := by
      intro w; unfold ge_d; grind
    have hL : 0 < (B.1 - A.1) * (B.1 - A.1) + (B.2 - A.2) * (B.2 - A.2) := by
      have k1 := ge_sq (B.1 - A.1)
      have k2 := ge_sq (B.2 - A.2)
      by_cases z : (B.1 - A.1) * (B.1 - A.1) + (B.2 - A.2) * (B.2 - A.2) = 0
      · exfalso
        apply hAB
        have z1 : (B.1 - A.1) * (B.1 - A.1) = 0 := by omega
        have z2 : (B.2 - A.2) * (B.2 - A.2) = 0 := by omega
        have y1 : B.1 - A.1 = 0 := by rcases Int.mul_eq_zero.mp z1 with h | h <;> exact h
        have y2 : B.2 - A.2 = 0 := by rcases Int.mul_eq_zero.mp z2 with h | h <;> exact h
        exact Prod.ext (by omega) (by omega)
      · omega
    have hw : ∀ k, k < m → ge_d d ((Q k).1 - A.1, (Q k).2 - A.2) ≤ 0 := fun k hk => by rw [ge_d_sub]; have := h k hk; omega
    by_cases c : 0 < ge_d d (A.2 - B.2, B.1 - A.1)
    · left
      intro k hk
      rw [ecr, ← ge_d_sub]
      have e := en ((Q k).1 - A.1, (Q k).2 - A.2)
      rw [s0, Int.sub_self, Int.zero_mul, Int.add_zero] at e
      have k1 := ge_np (show 0 ≤ (B.1 - A.1) * (B.1 - A.1) + (B.2 - A.2) * (B.2 - A.2) by omega) (hw k hk)
      have := ge_pos_of (b := - ge_d (A.2 - B.2, B.1 - A.1) ((Q k).1 - A.1, (Q k).2 - A.2)) c (by rw [Int.mul_neg]; omega)
      omega
    · by_cases c2 : ge_d d (A.2 - B.2, B.1 - A.1) < 0
      · right
        intro k hk
        rw [ecr, ← ge_d_sub]
        have e := en ((Q k).1 - A.1, (Q k).2 - A.2)
        rw [s0, Int.sub_self, Int.zero_mul, Int.add_zero] at e
        have k1 := ge_np (show 0 ≤ (B.1 - A.1) * (B.1 - A.1) + (B.2 - A.2) * (B.2 - A.2) by omega) (hw k hk)
        exact ge_pos_of (show 0 < - ge_d d (A.2 - B.2, B.1 - A.1) by omega) (by rw [Int.neg_mul]; omega)
      · exfalso
        have c3 : ge_d d (A.2 - B.2, B.1 - A.1) = 0 := by omega
        apply hd
        have e1 := en (1, 0)
        have e2 := en (0, 1)
        rw [s0, c3] at e1 e2
        have f1 : ge_d d (1, 0) = d.1 := by unfold ge_d; simp
        have f2 : ge_d d (0, 1) = d.2 := by unfold ge_d; simp
        rw [f1] at e1
        rw [f2] at e2
        have y1 : d.1 = 0 := by
          rcases Int.mul_eq_zero.mp (show ((B.1 - A.1) * (B.1 - A.1) + (B.2 - A.2) * (B.2 - A.2)) * d.1 = 0 by rw [e1]; simp) with h | h
          · omega
          · exact h
        have y2 : d.2 = 0 := by
          rcases Int.mul_eq_zero.mp (show ((B.1 - A.1) * (B.1 - A.1) + (B.2 - A.2) * (B.2 - A.2)) * d.2 = 0 by rw [e2]; simp) with h | h
          · omega
          · exact h
        exact Prod.ext y1 y2
  by_cases s3 : ge_x u1 (-d.1, -d.2) = 0
  · left
    have k1 := ge_par1 (w := (A.1 - (Q j).1, A.2 - (Q j).2)) u12 s3 du2 hd' (by rw [ge_d_sub, ge_neg_d, ge_neg_d]; have := h j hj; omega)
    have k2 := ge_par1 (w := (B.1 - (Q j).1, B.2 - (Q j).2)) u12 s3 du2 hd' (by rw [ge_d_sub, ge_neg_d, ge_neg_d]; have := h j hj; omega)
    rw [ge_d_sub] at k1 k2
    exact up1 (by omega) (by omega)
  by_cases s4 : ge_x (-d.1, -d.2) u2 = 0
  · left
    have k1 := ge_par2 (w := (A.1 - (Q j).1, A.2 - (Q j).2)) u12 u1d s4 hd' (by rw [ge_d_sub, ge_neg_d, ge_neg_d]; have := h j hj; omega)
    have k2 := ge_par2 (w := (B.1 - (Q j).1, B.2 - (Q j).2)) u12 u1d s4 hd' (by rw [ge_d_sub, ge_neg_d, ge_neg_d]; have := h j hj; omega)
    rw [ge_d_sub] at k1 k2
    exact up2 (by omega) (by omega)
  rw [ge_neg_x'] at u1d s3
  rw [ge_neg_x] at du2 s4
  -- v1 = -n, v2 = n, n = (A.2 - B.2, B.1 - A.1)
  have ev1 : ∀ r : Int × Int, ge_x (B.2 - A.2, A.1 - B.1) r = ge_d r B - ge_d r A := by intro r; unfold ge_x ge_d; grind
  have ev2 : ∀ r : Int × Int, ge_x r (A.2 - B.2, B.1 - A.1) = ge_d r B - ge_d r A := by intro r; unfold ge_x ge_d; grind
  have ev12 : ge_x (B.2 - A.2, A.1 - B.1) (A.2 - B.2, B.1 - A.1) = 0 := by unfold ge_x; grind
  obtain ⟨r, hr, ⟨r1, r2⟩, ⟨r3, r4⟩, rz⟩ := ge_core (v1 := (B.2 - A.2, A.1 - B.1)) (v2 := (A.2 - B.2, B.1 - A.1)) (a1 := (-u1.1, -u1.2)) (a2 := (-u2.1, -u2.2)) (d := d) (z := (A.1 - (Q j).1, A.2 - (Q j).2))
    (by omega) (by rw [ge_neg_x, ge_neg_x']; omega) (by rw [ev1]; omega) (by rw [ev2]; omega) (by rw [ge_neg_x]; omega) (by rw [ge_neg_x']; omega) (by rw [ge_d_sub]; have := h j hj; omega)
  rw [ge_d_sub] at rz
  rw [ev1] at r1
  have hQr : ∀ k, k < m → ge_d r (Q k) ≤ ge_d r (Q j) := by
    intro k hk
    have := gc (-r.1, -r.2) (by rw [ge_neg_x'] ; rw [ge_neg_x] at r3; omega) (by rw [ge_neg_x]; rw [ge_neg_x'] at r4; omega) k hk
    rw [ge_neg_d, ge_neg_d] at this; omega
  have eneg : ∀ p : Int × Int, ge_d (B.2 - A.2, A.1 - B.1) p = - ge_d (A.2 - B.2, B.1 - A.1) p := by intro p; unfold ge_d; grind
  rcases hr with e | e | e | e
  · subst e
    refine Or.inr (Or.inr fun k hk => ?_)
    have k1 := hQr k hk
    rw [ecr]
    rw [eneg, eneg] at k1 rz
    omega
  · subst e
    refine Or.inr (Or.inl fun k hk => ?_)
    have k1 := hQr k hk
    rw [ecr]; omega
  · left
    rw [e, ge_neg_d, ge_neg_d] at rz r1
    exact up1 (by omega) (by omega)
  · left
    rw [e, ge_neg_d, ge_neg_d] at rz r1
    exact up2 (by omega) (by omega)
theorem ge_cr_swap (A B p : Int × Int) : ge_cr B.1 B.2 A.1 A.2 p.1 p.2 = - ge_cr A.1 A.2 B.1 B.2 p.1 p.2 := by unfold ge_cr; grind
theorem ge_seg {m : Nat} {Q : Nat → Int × Int} {A B : Int × Int} (hm : 3 ≤ m) (hQ : ge_ccw m Q) (hAB : A ≠ B) {d : Int × Int} (hd : d ≠ (0, 0))
    (h : ∀ k, k < m → ge_d d (Q k) ≤ ge_d d A ∧ ge_d d (Q k) ≤ ge_d d B) :
    (∃ k, k < m ∧ ge_bs Q m k A ≤ 0 ∧ ge_bs Q m k B ≤ 0) ∨ (∀ k, k < m → ge_cr A.1 A.2 B.1 B.2 (Q k).1 (Q k).2 ≤ 0) ∨ (∀ k, k < m → 0 ≤ ge_cr A.1 A.2 B.1 B.2 (Q k).1 (Q k).2) := by
  by_cases c : ge_d d A ≤ ge_d d B
  · exact ge_seg1 hm hQ hAB hd c fun k hk => (h k hk).1
  · rcases ge_seg1 hm hQ (Ne.symm hAB) hd (show ge_d d B ≤ ge_d d A by omega) fun k hk => (h k hk).2 with ⟨k, a, b, e⟩ | a | a
    · exact Or.inl ⟨k, a, e, b⟩
    · refine Or.inr (Or.inr fun k hk => ?_)
      have := a k hk; rw [ge_cr_swap] at this; omega
    · refine Or.inr (Or.inl fun k hk => ?_)
      have := a k hk; rw [ge_cr_swap] at this; omega
