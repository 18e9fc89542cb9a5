-- DRAFT, never compiled yet. Overlapping: the class's question and the reference's, for round shapes that go to the left.
theorem ge_pt_neg {n m : Nat} {P Q : Nat → Int × Int} {d : Int × Int} : ge_pt n P m Q (-d.1, -d.2) ↔ ge_pt n P m Q d := by
  unfold ge_pt
  constructor
  · rintro (h | h)
    · exact Or.inr fun i k hi hk => by have := h i k hi hk; rw [ge_neg_d, ge_neg_d] at this; omega
    · exact Or.inl fun i k hi hk => by have := h i k hi hk; rw [ge_neg_d, ge_neg_d] at this; omega
  · rintro (h | h)
    · exact Or.inr fun i k hi hk => by have := h i k hi hk; rw [ge_neg_d, ge_neg_d]; omega
    · exact Or.inl fun i k hi hk => by have := h i k hi hk; rw [ge_neg_d, ge_neg_d]; omega
theorem ge_pt_swap {n m : Nat} {P Q : Nat → Int × Int} {d : Int × Int} : ge_pt n P m Q d ↔ ge_pt m Q n P d := by
  unfold ge_pt
  constructor
  · rintro (h | h)
    · exact Or.inr fun i k hi hk => h k i hk hi
    · exact Or.inl fun i k hi hk => h k i hk hi
  · rintro (h | h)
    · exact Or.inr fun i k hi hk => h k i hk hi
    · exact Or.inl fun i k hi hk => h k i hk hi
theorem ge_ov_swap {n m : Nat} {P Q : Nat → Int × Int} : ge_ov n P m Q ↔ ge_ov m Q n P := by
  unfold ge_ov
  constructor
  · rintro ⟨a, b⟩; exact ⟨fun k hk h => b k hk (ge_pt_swap.mp h), fun i hi h => a i hi (ge_pt_swap.mp h)⟩
  · rintro ⟨a, b⟩; exact ⟨fun k hk h => b k hk (ge_pt_swap.mp h), fun i hi h => a i hi (ge_pt_swap.mp h)⟩
theorem ge_rev_rev {n : Nat} {P : Nat → Int × Int} {i : Nat} (h : i < n) : ge_rev n (ge_rev n P) i = P i := by
  unfold ge_rev
  have e : n - 1 - (n - 1 - i) = i := by omega
  rw [e]
theorem ge_rev_nx {n i : Nat} (h : i < n) : n - 1 - ge_nx n i = ge_pv n (n - 1 - i) := by unfold ge_nx ge_pv; split <;> split <;> omega
theorem ge_nv_rev {n : Nat} {P : Nat → Int × Int} {i : Nat} (h : i < n) : ge_nv (ge_rev n P) n i = (-(ge_nv P n (ge_pv n (n - 1 - i))).1, -(ge_nv P n (ge_pv n (n - 1 - i))).2) := by
  have e1 : ge_nx n (ge_pv n (n - 1 - i)) = n - 1 - i := ge_nx_pv (by omega)
  have e2 := ge_rev_nx h
  unfold ge_nv ge_rev
  rw [e1, e2]
  exact Prod.ext (by simp only; omega) (by simp only; omega)
theorem ge_pt_rev {n m : Nat} {P Q : Nat → Int × Int} {d : Int × Int} : ge_pt n (ge_rev n P) m Q d ↔ ge_pt n P m Q d := by
  unfold ge_pt
  have key : ∀ i, i < n → ge_rev n P (n - 1 - i) = P i := fun i hi => by
    unfold ge_rev
    have e : n - 1 - (n - 1 - i) = i := by omega
    rw [e]
  constructor
  · rintro (h | h)
    · exact Or.inl fun i k hi hk => by have := h (n - 1 - i) k (by omega) hk; rw [key i hi] at this; exact this
    · exact Or.inr fun i k hi hk => by have := h (n - 1 - i) k (by omega) hk; rw [key i hi] at this; exact this
  · rintro (h | h)
    · exact Or.inl fun i k hi hk => h (n - 1 - i) k (by omega) hk
    · exact Or.inr fun i k hi hk => h (n - 1 - i) k (by omega) hk
theorem ge_ov_rev1 {n m : Nat} {P Q : Nat → Int × Int} (h : ge_ov n P m Q) : ge_ov n (ge_rev n P) m Q := by
  refine ⟨fun i hi hp => ?_, fun k hk hp => h.2 k hk (ge_pt_rev.mp hp)⟩
  rw [ge_nv_rev hi] at hp
  exact h.1 _ (ge_pv_lt (by omega)) (ge_pt_neg.mp (ge_pt_rev.mp hp))
theorem ge_ov_congr {n m : Nat} {P P' Q Q' : Nat → Int × Int} (hp : ∀ i, i < n → P' i = P i) (hq : ∀ k, k < m → Q' k = Q k) (h : ge_ov n P m Q) : ge_ov n P' m Q' := by
  have ep : ∀ d, ge_pt n P' m Q' d → ge_pt n P m Q d := by
    intro d hd
    rcases hd with h | h
    · exact Or.inl fun i k hi hk => by have := h i k hi hk; rw [hp i hi, hq k hk] at this; exact this
    · exact Or.inr fun i k hi hk => by have := h i k hi hk; rw [hp i hi, hq k hk] at this; exact this
  constructor
  · intro i hi hd
    have hn : ge_nx n i < n := ge_nx_lt (by omega)
    have e : ge_nv P' n i = ge_nv P n i := by unfold ge_nv; rw [hp i hi, hp _ hn]
    rw [e] at hd
    exact h.1 i hi (ep _ hd)
  · intro k hk hd
    have hn : ge_nx m k < m := ge_nx_lt (by omega)
    have e : ge_nv Q' m k = ge_nv Q m k := by unfold ge_nv; rw [hq k hk, hq _ hn]
    rw [e] at hd
    exact h.2 k hk (ep _ hd)
theorem ge_ov_rev {n m : Nat} {P Q : Nat → Int × Int} : ge_ov n (ge_rev n P) m Q ↔ ge_ov n P m Q :=
  ⟨fun h => ge_ov_congr (P := ge_rev n (ge_rev n P)) (fun i hi => (ge_rev_rev hi).symm) (fun _ _ => rfl) (ge_ov_rev1 h), ge_ov_rev1⟩
theorem ge_ov_rev' {n m : Nat} {P Q : Nat → Int × Int} : ge_ov n P m (ge_rev m Q) ↔ ge_ov n P m Q := by
  rw [ge_ov_swap, ge_ov_rev, ge_ov_swap]
theorem ge_sp_pt {n m : Nat} {P Q : Nat → Int × Int} (hP : ge_ccw n P) (h : ge_sp n P m Q) : ∃ i, i < n ∧ ge_pt n P m Q (ge_nv P n i) := by
  obtain ⟨i, hi, h⟩ := h
  refine ⟨i, hi, Or.inr fun j k hj hk => ?_⟩
  have a := ge_ccw_nn hP hi hj
  have b := h k hk
  rw [ge_bs_nv] at a b
  omega
theorem ge_nv_ne {n : Nat} {P : Nat → Int × Int} (hn : 3 ≤ n) (hP : ge_ccw n P) {i : Nat} (hi : i < n) : ge_nv P n i ≠ (0, 0) := by
  intro h0
  have hk := hP i (ge_pv n i) hi (ge_pv_lt hi) (by unfold ge_pv; split <;> omega) (Ne.symm (ge_nx_ne_pv hi hn))
  rw [ge_bs_nv, h0] at hk
  unfold ge_d at hk
  simp at hk
theorem ge_pt_sp {n m : Nat} {P Q : Nat → Int × Int} (hn : 3 ≤ n) (hm : 3 ≤ m) (hP : ge_ccw n P) (hQ : ge_ccw m Q) {d : Int × Int} (hd : d ≠ (0, 0)) (h : ge_pt n P m Q d) : ge_sp n P m Q ∨ ge_sp m Q n P := by
  rcases h with h | h
  · rcases ge_sat hm hn hQ hP hd (fun i k hi hk => h k i hk hi) with a | a
    · exact Or.inr a
    · exact Or.inl a
  · rcases ge_sat hn hm hP hQ hd h with a | a
    · exact Or.inl a
    · exact Or.inr a
theorem ge_d10 (p : Int × Int) : ge_d (1, 0) p = p.1 := by unfold ge_d; simp
theorem ge_d01 (p : Int × Int) : ge_d (0, 1) p = p.2 := by unfold ge_d; simp
theorem ge_ov_eq {n m : Nat} {P Q : Nat → Int × Int} (hn : 3 ≤ n) (hm : 3 ≤ m) (hP : ge_ccw n P) (hQ : ge_ccw m Q) : ge_ov2 n P m Q ↔ ge_ov n P m Q := by
  constructor
  · rintro ⟨-, h2, h3⟩
    constructor
    · intro i hi hp
      rcases ge_pt_sp hn hm hP hQ (ge_nv_ne hn hP hi) hp with a | a
      · exact h2 a
      · exact h3 a
    · intro k hk hp
      rcases ge_pt_sp hn hm hP hQ (ge_nv_ne hm hQ hk) hp with a | a
      · exact h2 a
      · exact h3 a
  · rintro ⟨h1, h2⟩
    have n1 : ¬ ge_sp n P m Q := fun h => by
      obtain ⟨i, hi, hp⟩ := ge_sp_pt hP h
      exact h1 i hi hp
    have n2 : ¬ ge_sp m Q n P := fun h => by
      obtain ⟨i, hi, hp⟩ := ge_sp_pt hQ h
      exact h2 i hi (ge_pt_swap.mp hp)
    refine ⟨fun h => ?_, n1, n2⟩
    have x1 : ((1, 0) : Int × Int) ≠ (0, 0) := by decide
    have y1 : ((0, 1) : Int × Int) ≠ (0, 0) := by decide
    have hp : ge_pt n P m Q (1, 0) ∨ ge_pt n P m Q (0, 1) := by
      rcases h with h | h | h | h
      · exact Or.inl (Or.inr fun i k hi hk => by rw [ge_d10, ge_d10]; exact h i k hi hk)
      · exact Or.inl (Or.inl fun i k hi hk => by rw [ge_d10, ge_d10]; exact h i k hi hk)
      · exact Or.inr (Or.inr fun i k hi hk => by rw [ge_d01, ge_d01]; exact h i k hi hk)
      · exact Or.inr (Or.inl fun i k hi hk => by rw [ge_d01, ge_d01]; exact h i k hi hk)
    rcases hp with hp | hp
    · rcases ge_pt_sp hn hm hP hQ x1 hp with a | a
      · exact n1 a
      · exact n2 a
    · rcases ge_pt_sp hn hm hP hQ y1 hp with a | a
      · exact n1 a
      · exact n2 a
-- a side of the hide against a piece
theorem ge_seg_pt {m : Nat} {Q : Nat → Int × Int} {A B : Int × Int} (hm : 3 ≤ m) (hQ : ge_ccw m Q) (hAB : A ≠ B) {d : Int × Int} (hd : d ≠ (0, 0))
    (h : ge_pt m Q 2 (ge_two2 A B) d) :
    (∃ k, k < m ∧ ge_bs Q m k A ≤ 0 ∧ ge_bs Q m k B ≤ 0) ∨ (∀ k, k < m → ge_cr A.1 A.2 B.1 B.2 (Q k).1 (Q k).2 ≤ 0) ∨ (∀ k, k < m → 0 ≤ ge_cr A.1 A.2 B.1 B.2 (Q k).1 (Q k).2) := by
  rcases h with h | h
  · exact ge_seg hm hQ hAB hd fun k hk => ⟨h k 0 hk (by omega), h k 1 hk (by omega)⟩
  · have hd' : ((-d.1, -d.2) : Int × Int) ≠ (0, 0) := by
      intro h0
      apply hd
      have a1 : -d.1 = 0 := congrArg Prod.fst h0
      have a2 : -d.2 = 0 := congrArg Prod.snd h0
      exact Prod.ext (by simp only; omega) (by simp only; omega)
    refine ge_seg hm hQ hAB hd' fun k hk => ?_
    have a : ge_d d A ≤ ge_d d (Q k) := h k 0 hk (by omega)
    have b : ge_d d B ≤ ge_d d (Q k) := h k 1 hk (by omega)
    rw [ge_neg_d, ge_neg_d, ge_neg_d]
    omega
theorem ge_two_nv0 (A B : Int × Int) : ge_nv (ge_two2 A B) 2 0 = (A.2 - B.2, B.1 - A.1) := rfl
theorem ge_two_nv1 (A B : Int × Int) : ge_nv (ge_two2 A B) 2 1 = (B.2 - A.2, A.1 - B.1) := rfl
theorem ge_cut_eq {m : Nat} {Q : Nat → Int × Int} {A B : Int × Int} (hm : 3 ≤ m) (hQ : ge_ccw m Q) (hAB : A ≠ B) : ge_cut A B m Q ↔ ge_ov m Q 2 (ge_two2 A B) := by
  have ecr : ∀ p : Int × Int, ge_cr A.1 A.2 B.1 B.2 p.1 p.2 = ge_d (A.2 - B.2, B.1 - A.1) p - ge_d (A.2 - B.2, B.1 - A.1) A := by
    intro p; unfold ge_cr ge_d; grind
  have eB : ge_d (A.2 - B.2, B.1 - A.1) B = ge_d (A.2 - B.2, B.1 - A.1) A := by unfold ge_d; grind
  have hn0 : ((A.2 - B.2, B.1 - A.1) : Int × Int) ≠ (0, 0) := by
    intro h0
    apply hAB
    have a1 : A.2 - B.2 = 0 := congrArg Prod.fst h0
    have a2 : B.1 - A.1 = 0 := congrArg Prod.snd h0
    exact Prod.ext (by omega) (by omega)
  constructor
  · rintro ⟨-, ⟨k1, hk1, p1⟩, ⟨k2, hk2, p2⟩, h4⟩
    have no : ∀ d : Int × Int, d ≠ (0, 0) → ¬ ge_pt m Q 2 (ge_two2 A B) d := fun d hd h => by
      rcases ge_seg_pt hm hQ hAB hd h with a | a | a
      · exact h4 a
      · have := a k1 hk1; omega
      · have := a k2 hk2; omega
    refine ⟨fun i hi => no _ (ge_nv_ne hm hQ hi), fun k hk => ?_⟩
    have hk' : k = 0 ∨ k = 1 := by omega
    rcases hk' with rfl | rfl
    · rw [ge_two_nv0]; exact no _ hn0
    · rw [ge_two_nv1]
      refine no _ ?_
      intro h0
      apply hn0
      have a1 : B.2 - A.2 = 0 := congrArg Prod.fst h0
      have a2 : A.1 - B.1 = 0 := congrArg Prod.snd h0
      exact Prod.ext (by simp only; omega) (by simp only; omega)
  · rintro ⟨h1, h2⟩
    have key : ∀ k, k < m → ∀ j, j < 2 → (ge_two2 A B j = A ∨ ge_two2 A B j = B) := fun k hk j hj => by
      have : j = 0 ∨ j = 1 := by omega
      rcases this with rfl | rfl
      · exact Or.inl rfl
      · exact Or.inr rfl
    have q4 : ¬ ∃ k, k < m ∧ ge_bs Q m k A ≤ 0 ∧ ge_bs Q m k B ≤ 0 := by
      rintro ⟨k, hk, a, b⟩
      refine h1 k hk (Or.inr fun i j hi hj => ?_)
      have c := ge_ccw_nn hQ hk hi
      rw [ge_bs_nv] at a b c
      rcases key i hi j hj with e | e <;> rw [e] <;> omega
    have q2 : ∃ k, k < m ∧ 0 < ge_cr A.1 A.2 B.1 B.2 (Q k).1 (Q k).2 := by
      apply Classical.byContradiction
      intro hno
      refine h2 0 (by omega) ?_
      rw [ge_two_nv0]
      refine Or.inl fun i j hi hj => ?_
      have c : ¬ 0 < ge_cr A.1 A.2 B.1 B.2 (Q i).1 (Q i).2 := fun h => hno ⟨i, hi, h⟩
      rw [ecr] at c
      rcases key i hi j hj with e | e <;> rw [e] <;> omega
    have q3 : ∃ k, k < m ∧ ge_cr A.1 A.2 B.1 B.2 (Q k).1 (Q k).2 < 0 := by
      apply Classical.byContradiction
      intro hno
      refine h2 0 (by omega) ?_
      rw [ge_two_nv0]
      refine Or.inr fun i j hi hj => ?_
      have c : ¬ ge_cr A.1 A.2 B.1 B.2 (Q i).1 (Q i).2 < 0 := fun h => hno ⟨i, hi, h⟩
      rw [ecr] at c
      rcases key i hi j hj with e | e <;> rw [e] <;> omega
    refine ⟨fun h => ?_, q2, q3, q4⟩
    have x1 : ((1, 0) : Int × Int) ≠ (0, 0) := by decide
    have y1 : ((0, 1) : Int × Int) ≠ (0, 0) := by decide
    have hp : ge_pt m Q 2 (ge_two2 A B) (1, 0) ∨ ge_pt m Q 2 (ge_two2 A B) (0, 1) := by
      rcases h with h | h | h | h
      · refine Or.inl (Or.inr fun i j hi hj => ?_)
        have c := h i hi
        rcases key i hi j hj with e | e <;> rw [e, ge_d10, ge_d10] <;> omega
      · refine Or.inl (Or.inl fun i j hi hj => ?_)
        have c := h i hi
        rcases key i hi j hj with e | e <;> rw [e, ge_d10, ge_d10] <;> omega
      · refine Or.inr (Or.inr fun i j hi hj => ?_)
        have c := h i hi
        rcases key i hi j hj with e | e <;> rw [e, ge_d01, ge_d01] <;> omega
      · refine Or.inr (Or.inl fun i j hi hj => ?_)
        have c := h i hi
        rcases key i hi j hj with e | e <;> rw [e, ge_d01, ge_d01] <;> omega
    obtain ⟨k1, hk1, p1⟩ := q2
    obtain ⟨k2, hk2, p2⟩ := q3
    rcases hp with hp | hp
    · rcases ge_seg_pt hm hQ hAB x1 hp with a | a | a
      · exact q4 a
      · have := a k1 hk1; omega
      · have := a k2 hk2; omega
    · rcases ge_seg_pt hm hQ hAB y1 hp with a | a | a
      · exact q4 a
      · have := a k1 hk1; omega
      · have := a k2 hk2; omega
