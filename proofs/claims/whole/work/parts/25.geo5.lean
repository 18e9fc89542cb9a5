-- DRAFT, never compiled yet. A round piece that no side of the hide cuts: its middle, its corners.
/-- a direction in which a side of the hide lies below c and the piece at c or above -/
theorem ge_free {m : Nat} {Q : Nat → Int × Int} {A B : Int × Int} (hm : 3 ≤ m) (hQ : ge_ccw m Q) (hAB : A ≠ B) (h : ¬ ge_ov m Q 2 (ge_two2 A B)) :
    ∃ (r : Int × Int) (c : Int), r ≠ (0, 0) ∧ ge_d r A ≤ c ∧ ge_d r B ≤ c ∧ ∀ j, j < m → c ≤ ge_d r (Q j) := by
  have hn0 : ((A.2 - B.2, B.1 - A.1) : Int × Int) ≠ (0, 0) := by
    intro h0
    apply hAB
    have a1 : A.2 - B.2 = 0 := congrArg Prod.fst h0
    have a2 : B.1 - A.1 = 0 := congrArg Prod.snd h0
    exact Prod.ext (by omega) (by omega)
  have hd : ∃ d : Int × Int, d ≠ (0, 0) ∧ ge_pt m Q 2 (ge_two2 A B) d := by
    apply Classical.byContradiction
    intro hno
    apply h
    constructor
    · intro i hi hp
      exact hno ⟨_, ge_nv_ne hm hQ hi, hp⟩
    · intro k hk hp
      have hk' : k = 0 ∨ k = 1 := by omega
      rcases hk' with rfl | rfl
      · exact hno ⟨_, by rw [ge_two_nv0]; exact hn0, hp⟩
      · refine hno ⟨_, ?_, hp⟩
        rw [ge_two_nv1]
        intro h0
        apply hn0
        have a1 : B.2 - A.2 = 0 := congrArg Prod.fst h0
        have a2 : A.1 - B.1 = 0 := congrArg Prod.snd h0
        exact Prod.ext (by simp only; omega) (by simp only; omega)
  obtain ⟨d, hd0, hp⟩ := hd
  have fin : ∀ r : Int × Int, r ≠ (0, 0) → (∀ j, j < m → ge_d r A ≤ ge_d r (Q j) ∧ ge_d r B ≤ ge_d r (Q j)) →
      ∃ (r : Int × Int) (c : Int), r ≠ (0, 0) ∧ ge_d r A ≤ c ∧ ge_d r B ≤ c ∧ ∀ j, j < m → c ≤ ge_d r (Q j) := by
    intro r hr hh
    by_cases c : ge_d r A ≤ ge_d r B
    · exact ⟨r, ge_d r B, hr, c, by omega, fun j hj => (hh j hj).2⟩
    · exact ⟨r, ge_d r A, hr, by omega, by omega, fun j hj => (hh j hj).1⟩
  rcases hp with hp | hp
  · refine fin (-d.1, -d.2) ?_ fun j hj => ?_
    · intro h0
      apply hd0
      have a1 : -d.1 = 0 := congrArg Prod.fst h0
      have a2 : -d.2 = 0 := congrArg Prod.snd h0
      exact Prod.ext (by simp only; omega) (by simp only; omega)
    · have a : ge_d d (Q j) ≤ ge_d d A := hp j 0 hj (by omega)
      have b : ge_d d (Q j) ≤ ge_d d B := hp j 1 hj (by omega)
      rw [ge_neg_d, ge_neg_d, ge_neg_d]
      omega
  · exact fin d hd0 fun j hj => ⟨hp j 0 hj (by omega), hp j 1 hj (by omega)⟩
theorem ge_tri {r A B C : Int × Int} {c : Int} (hr : r ≠ (0, 0)) (hn : ge_cr A.1 A.2 B.1 B.2 C.1 C.2 ≠ 0) (ha : c ≤ ge_d r A) (hb : c ≤ ge_d r B) (hc : c ≤ ge_d r C) : 3 * c < ge_d r (ge_mid3 A B C) := by
  have e : ge_d r (ge_mid3 A B C) = ge_d r A + ge_d r B + ge_d r C := by unfold ge_d ge_mid3; grind
  by_cases h : 3 * c < ge_d r (ge_mid3 A B C)
  · exact h
  · exfalso
    have a1 : ge_d r B - ge_d r A = 0 := by omega
    have a2 : ge_d r C - ge_d r A = 0 := by omega
    have e1 : ge_cr A.1 A.2 B.1 B.2 C.1 C.2 * r.1 = (ge_d r B - ge_d r A) * (C.2 - A.2) - (ge_d r C - ge_d r A) * (B.2 - A.2) := by unfold ge_cr ge_d; grind
    have e2 : ge_cr A.1 A.2 B.1 B.2 C.1 C.2 * r.2 = (ge_d r C - ge_d r A) * (B.1 - A.1) - (ge_d r B - ge_d r A) * (C.1 - A.1) := by unfold ge_cr ge_d; grind
    rw [a1, a2] at e1 e2
    rw [Int.zero_mul, Int.zero_mul, Int.sub_self] at e1 e2
    apply hr
    refine Prod.ext ?_ ?_
    · rcases Int.mul_eq_zero.mp e1 with h | h
      · exact absurd h hn
      · exact h
    · rcases Int.mul_eq_zero.mp e2 with h | h
      · exact absurd h hn
      · exact h
theorem ge_d3 (r : Int × Int) (V : Nat → Int × Int) (k : Nat) : ge_d r (ge_3 V k) = 3 * ge_d r (V k) := by unfold ge_d ge_3; grind
theorem ge_bs_cr (P : Nat → Int × Int) (n i : Nat) (p : Int × Int) : ge_bs P n i p = ge_cr (P i).1 (P i).2 (P (ge_nx n i)).1 (P (ge_nx n i)).2 p.1 p.2 := rfl
/-- all that a piece that isn't cut gives: h corners V of the hide, two that follow are never the same -/
theorem ge_inside {h m : Nat} {V Q : Nat → Int × Int} (hh : 0 < h) (hm : 3 ≤ m) (hQ : ge_ccw m Q) (hV : ∀ k, k < h → V k ≠ V (ge_nx h k))
    (hf : ∀ k, k < h → ¬ ge_ov m Q 2 (ge_two2 (V k) (V (ge_nx h k)))) :
    (∀ a b c a' b' c', a < m → b < m → c < m → a' < m → b' < m → c' < m → ge_cr (Q a).1 (Q a).2 (Q b).1 (Q b).2 (Q c).1 (Q c).2 ≠ 0 → ge_cr (Q a').1 (Q a').2 (Q b').1 (Q b').2 (Q c').1 (Q c').2 ≠ 0 →
      (∀ k, k < h → ge_dj (ge_3 V k) (ge_3 V (ge_nx h k)) (ge_mid3 (Q a) (Q b) (Q c)) (ge_mid3 (Q a') (Q b') (Q c')))) ∧
    (∀ a b c j, a < m → b < m → c < m → j < m → ge_cr (Q a).1 (Q a).2 (Q b).1 (Q b).2 (Q c).1 (Q c).2 ≠ 0 →
      ((∀ k, k < h → (Q j).1 < (V k).1) ∨ (∀ k, k < h → (V k).1 < (Q j).1) ∨ (∀ k, k < h → (Q j).2 < (V k).2) ∨ (∀ k, k < h → (V k).2 < (Q j).2)) →
      ¬ ge_odd h (ge_3 V) (ge_mid3 (Q a) (Q b) (Q c)) h) := by
  constructor
  · intro a b c a' b' c' ha hb hc ha' hb' hc' n1 n2 k hk
    obtain ⟨r, w, hr, r1, r2, r3⟩ := ge_free hm hQ (hV k hk) (hf k hk)
    exact ge_dj_of (r := r) (c := 3 * w) (by rw [ge_d3]; omega) (by rw [ge_d3]; omega) (ge_tri hr n1 (r3 a ha) (r3 b hb) (r3 c hc)) (ge_tri hr n2 (r3 a' ha') (r3 b' hb') (r3 c' hc'))
  · intro a b c j ha hb hc hj n1 hout
    have e3 : ∀ k, (ge_3 V k).1 = 3 * (V k).1 ∧ (ge_3 V k).2 = 3 * (V k).2 := fun k => ⟨rfl, rfl⟩
    have hnl : ∀ k, ge_nx h k < h := fun k => ge_nx_lt hh
    have hs : ge_odd h (ge_3 V) (ge_mid3 (Q a) (Q b) (Q c)) h ↔ ge_odd h (ge_3 V) (ge_3 Q j) h := by
      refine ge_odd_same hh fun k hk => ?_
      obtain ⟨r, w, hr, r1, r2, r3⟩ := ge_free hm hQ (hV k hk) (hf k hk)
      refine ge_dj_out (r := r) (c := 3 * w) (by rw [ge_d3]; omega) (by rw [ge_d3]; omega) (ge_tri hr n1 (r3 a ha) (r3 b hb) (r3 c hc)) (by rw [ge_d3]; have := r3 j hj; omega) ?_
      have q1 : (ge_3 Q j).1 = 3 * (Q j).1 := rfl
      have q2 : (ge_3 Q j).2 = 3 * (Q j).2 := rfl
      rw [q1, q2, (e3 k).1, (e3 k).2, (e3 (ge_nx h k)).1, (e3 (ge_nx h k)).2]
      rcases hout with o | o | o | o
      · have x1 := o k hk; have x2 := o _ (hnl k); omega
      · have x1 := o k hk; have x2 := o _ (hnl k); omega
      · have x1 := o k hk; have x2 := o _ (hnl k); omega
      · have x1 := o k hk; have x2 := o _ (hnl k); omega
    rw [hs]
    refine ge_odd_box hh ?_
    have q1 : (ge_3 Q j).1 = 3 * (Q j).1 := rfl
    have q2 : (ge_3 Q j).2 = 3 * (Q j).2 := rfl
    rw [q1, q2]
    rcases hout with o | o | o | o
    · exact Or.inl fun k hk => by have := o k hk; rw [(e3 k).1]; omega
    · exact Or.inr (Or.inl fun k hk => by have := o k hk; rw [(e3 k).1]; omega)
    · exact Or.inr (Or.inr (Or.inl fun k hk => by have := o k hk; rw [(e3 k).2]; omega))
    · exact Or.inr (Or.inr (Or.inr fun k hk => by have := o k hk; rw [(e3 k).2]; omega))
/-- off the rim: no ray starts on a side -/
theorem ge_off {v w m n : Int × Int} (h : ge_dj v w m n) : ¬ ((v.2 ≤ m.2 ∧ m.2 < w.2 ∨ w.2 ≤ m.2 ∧ m.2 < v.2) ∧ ge_cr v.1 v.2 w.1 w.2 m.1 m.2 = 0) := by
  rintro ⟨hs, h0⟩
  unfold ge_cr at h0
  rcases hs with ⟨a, b⟩ | ⟨a, b⟩
  · exact h (w.2 - m.2) (m.2 - v.2) (w.2 - v.2) 0 (by omega) (by omega) (by omega) (by omega) (by omega) (by omega) (by grind) (by grind)
  · exact h (m.2 - w.2) (v.2 - m.2) (v.2 - w.2) 0 (by omega) (by omega) (by omega) (by omega) (by omega) (by omega) (by grind) (by grind)
theorem ge_hitM_eq {v w m n : Int × Int} (h : ge_dj v w m n) : ge_hitM m v w ↔ ge_hit m v w := by
  have ho := ge_off h
  unfold ge_hitM ge_hit
  by_cases a : m.2 < v.2 <;> by_cases b : m.2 < w.2
  · constructor
    · rintro ⟨x, -⟩; exact absurd ⟨fun _ => b, fun _ => a⟩ x
    · rintro (⟨x, y, z⟩ | ⟨x, y, z⟩) <;> omega
  · constructor
    · rintro ⟨-, x⟩
      refine Or.inr ⟨by omega, a, ?_⟩
      have hc : ge_cr v.1 v.2 w.1 w.2 m.1 m.2 ≠ 0 := fun h0 => ho ⟨Or.inr ⟨by omega, a⟩, h0⟩
      have : ¬ 0 < ge_cr v.1 v.2 w.1 w.2 m.1 m.2 := fun h1 => by have := x.mp h1; omega
      omega
    · rintro (⟨x, y, z⟩ | ⟨x, y, z⟩)
      · omega
      · exact ⟨fun k => b (k.mp a), ⟨fun k => by omega, fun k => by omega⟩⟩
  · constructor
    · rintro ⟨-, x⟩
      exact Or.inl ⟨by omega, b, x.mpr (by omega)⟩
    · rintro (⟨x, y, z⟩ | ⟨x, y, z⟩)
      · exact ⟨fun k => a (k.mpr b), ⟨fun _ => by omega, fun _ => z⟩⟩
      · omega
  · constructor
    · rintro ⟨x, -⟩; exact absurd ⟨fun k => absurd k a, fun k => absurd k b⟩ x
    · rintro (⟨x, y, z⟩ | ⟨x, y, z⟩) <;> omega
