-- DRAFT, never compiled yet. Counting all corners off all sides; the first place that fits.
theorem ge_cnt_all {n : Nat} (hn : 3 ≤ n) {b : Nat → Nat → Bool} :
    ge_sumN (fun i => ge_sumN (fun k => if k ≠ i ∧ k ≠ ge_nx n i then (if b i k = true then 1 else 0) else 0) n) n = n * (n - 2) ↔
    ∀ i k, i < n → k < n → k ≠ i → k ≠ ge_nx n i → b i k = true := by
  have inner : ∀ i, i < n → ge_sumN (fun k => if k ≠ i ∧ k ≠ ge_nx n i then 1 else 0) n = n - 2 := fun i hi =>
    ge_sumN_two (Ne.symm (ge_nx_ne hi (by omega))) n hi (ge_nx_lt (by omega))
  have le1 : ∀ i k : Nat, (if k ≠ i ∧ k ≠ ge_nx n i then (if b i k = true then 1 else 0) else 0) ≤ (if k ≠ i ∧ k ≠ ge_nx n i then 1 else 0) := by
    intro i k
    split
    · split <;> omega
    · omega
  constructor
  · intro h i k hi hk a c
    have o := ge_sumN_eq (f := fun i => ge_sumN (fun k => if k ≠ i ∧ k ≠ ge_nx n i then (if b i k = true then 1 else 0) else 0) n) (g := fun _ => n - 2) n
      (fun i hi => by
        have := ge_sumN_le (f := fun k => if k ≠ i ∧ k ≠ ge_nx n i then (if b i k = true then 1 else 0) else 0) (g := fun k => if k ≠ i ∧ k ≠ ge_nx n i then 1 else 0) n (fun k _ => le1 i k)
        rw [inner i hi] at this; exact this)
      (by rw [h, ge_sumN_one]) i hi
    have q := ge_sumN_eq (f := fun k => if k ≠ i ∧ k ≠ ge_nx n i then (if b i k = true then 1 else 0) else 0) (g := fun k => if k ≠ i ∧ k ≠ ge_nx n i then 1 else 0) n (fun k _ => le1 i k)
      (by rw [inner i hi]; exact o) k hk
    have ac : k ≠ i ∧ k ≠ ge_nx n i := ⟨a, c⟩
    rw [if_pos ac, if_pos ac] at q
    by_cases e : b i k = true
    · exact e
    · rw [if_neg e] at q; omega
  · intro h
    rw [← ge_sumN_one (n - 2) n]
    refine ge_sumN_congr n (fun i hi => ?_)
    rw [← inner i hi]
    refine ge_sumN_congr n (fun k hk => ?_)
    by_cases e : k ≠ i ∧ k ≠ ge_nx n i
    · rw [if_pos e, if_pos e, if_pos (h i k hi hk e.1 e.2)]
    · rw [if_neg e, if_neg e]
theorem ge_first_one {F G : Int → Int → Int → Prop} (h : ∀ y x t, F y x t ↔ G y x t) {r q : Int} (hr : ge_first F r) (hq : ge_first G q) : r = q := by
  rcases hr with ⟨rfl, hr⟩ | ⟨y, x, t, f, e, hb⟩
  · rcases hq with ⟨rfl, -⟩ | ⟨y, x, t, f, -, -⟩
    · rfl
    · exact absurd ((h y x t).mpr f) (hr y x t)
  · rcases hq with ⟨rfl, hq⟩ | ⟨y2, x2, t2, f2, e2, hb2⟩
    · exact absurd ((h y x t).mp f) (hq y x t)
    · have n1 : ¬ ge_bf y2 x2 t2 y x t := fun k => hb y2 x2 t2 k ((h _ _ _).mpr f2)
      have n2 : ¬ ge_bf y x t y2 x2 t2 := fun k => hb2 y x t k ((h _ _ _).mp f)
      unfold ge_bf at n1 n2
      have a : y = y2 := by omega
      have b : x = x2 := by omega
      have c : t = t2 := by omega
      subst a; subst b; subst c
      rw [e, e2]
