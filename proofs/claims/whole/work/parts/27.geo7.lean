-- DRAFT, never compiled yet. Plain shapes: the class's question and the reference's.
theorem ge_opp_iff {a b : Int} : a * b < 0 ↔ ¬ (0 < a ↔ 0 < b) ∧ a ≠ 0 ∧ b ≠ 0 := by
  constructor
  · intro h
    rcases ge_neg h with ⟨p, q⟩ | ⟨p, q⟩
    · exact ⟨fun k => by have := k.mpr q; omega, by omega, by omega⟩
    · exact ⟨fun k => by have := k.mp p; omega, by omega, by omega⟩
  · rintro ⟨h, a0, b0⟩
    by_cases p : 0 < a
    · have q : ¬ 0 < b := fun q => h ⟨fun _ => q, fun _ => p⟩
      exact Int.mul_neg_of_pos_of_neg p (by omega)
    · have q : 0 < b := by
        apply Classical.byContradiction
        intro q
        exact h ⟨fun k => absurd k p, fun k => absurd k q⟩
      exact Int.mul_neg_of_neg_of_pos (by omega) q
theorem ge_mt_eq {n : Nat} {P : Nat → Int × Int} {i k : Nat} : ge_mtC n P i k ↔ ge_mtM n P i k := by
  unfold ge_mtC
  rw [ge_meet]
  unfold ge_mtM ge_any ge_thru ge_onI ge_crI
  rw [ge_opp_iff, ge_opp_iff]
  constructor
  · rintro (h | ⟨⟨a, b, c⟩, d, e, f⟩)
    · exact Or.inl h
    · refine Or.inr ⟨?_, ?_⟩
      · rintro (x | x)
        · exact a x
        · exact d x
      · rintro (x | x | x | x)
        · exact b x
        · exact c x
        · exact e x
        · exact f x
  · rintro (h | ⟨a, b⟩)
    · exact Or.inl h
    · exact Or.inr ⟨⟨fun x => a (Or.inl x), fun x => b (Or.inl x), fun x => b (Or.inr (Or.inl x))⟩, fun x => a (Or.inr x), fun x => b (Or.inr (Or.inr (Or.inl x))), fun x => b (Or.inr (Or.inr (Or.inr x)))⟩
theorem ge_mt_swap {n : Nat} {P : Nat → Int × Int} {i k : Nat} (h : ge_mtC n P i k) : ge_mtC n P k i := ge_bx_swap h
theorem ge_fd_eq {n : Nat} {P : Nat → Int × Int} {i : Nat} :
    ge_fd n P i ↔ ge_onI P i (ge_nx n i) (ge_nx n (ge_nx n i)) ∨ ge_onI P (ge_nx n i) (ge_nx n (ge_nx n i)) i := by
  unfold ge_fd ge_onI ge_on
  rw [ge_bs_cr]
  generalize P i = A
  generalize P (ge_nx n (ge_nx n i)) = C
  generalize P (ge_nx n i) = B
  have e : ge_cr B.1 B.2 C.1 C.2 A.1 A.2 = ge_cr A.1 A.2 B.1 B.2 C.1 C.2 := by unfold ge_cr; grind
  rw [e]
  constructor
  · rintro ⟨h0, h1⟩
    have hc : (A.1 - B.1) * (C.2 - B.2) = (A.2 - B.2) * (C.1 - B.1) := by unfold ge_cr at h0; grind
    rcases (ge_fold hc).mp h1 with ⟨p, q⟩ | ⟨p, q⟩
    · exact Or.inl ⟨h0, by unfold ge_bt at *; omega, by unfold ge_bt at *; omega⟩
    · exact Or.inr ⟨h0, by unfold ge_bt at *; omega, by unfold ge_bt at *; omega⟩
  · have hc : ge_cr A.1 A.2 B.1 B.2 C.1 C.2 = 0 → (A.1 - B.1) * (C.2 - B.2) = (A.2 - B.2) * (C.1 - B.1) := by intro h0; unfold ge_cr at h0; grind
    rintro (⟨h0, p, q⟩ | ⟨h0, p, q⟩)
    · exact ⟨h0, (ge_fold (hc h0)).mpr (Or.inl ⟨by unfold ge_bt at *; omega, by unfold ge_bt at *; omega⟩)⟩
    · exact ⟨h0, (ge_fold (hc h0)).mpr (Or.inr ⟨by unfold ge_bt at *; omega, by unfold ge_bt at *; omega⟩)⟩
theorem ge_pl_eq {n : Nat} {P : Nat → Int × Int} : ge_plC n P ↔ ge_plM n P := by
  constructor
  · intro h i hi
    have hf := (h i hi).1
    rw [ge_fd_eq] at hf
    refine ⟨⟨fun x => hf (Or.inl x), fun x => hf (Or.inr x)⟩, fun k hk => ?_⟩
    rintro ⟨⟨a, b, c⟩, hm⟩
    rw [← ge_mt_eq] at hm
    by_cases hik : i < k
    · have : i + 2 ≤ k := by
        have e : ge_nx n i = i + 1 := by unfold ge_nx; split <;> omega
        omega
      exact (h i hi).2 k this hk c hm
    · have : k + 2 ≤ i := by
        have e : ge_nx n k = k + 1 := by unfold ge_nx; split <;> omega
        omega
      exact (h k hk).2 i this hi (fun x => b x.symm) (ge_mt_swap hm)
  · intro h i hi
    refine ⟨?_, fun j hj hjn hx hm => ?_⟩
    · rw [ge_fd_eq]
      rintro (x | x)
      · exact (h i hi).1.1 x
      · exact (h i hi).1.2 x
    · refine (h i hi).2 j hjn ⟨⟨by omega, ?_, hx⟩, ge_mt_eq.mp hm⟩
      have e : ge_nx n i = i + 1 := by unfold ge_nx; split <;> omega
      omega
/-- two corners of a plain shape that follow are never the same -/
theorem ge_pl_ne {n : Nat} {P : Nat → Int × Int} (h : ge_plC n P) {i : Nat} (hi : i < n) : P i ≠ P (ge_nx n i) := by
  intro he
  apply (h i hi).1
  unfold ge_fd ge_bs
  rw [← he]
  constructor
  · simp
  · simp
