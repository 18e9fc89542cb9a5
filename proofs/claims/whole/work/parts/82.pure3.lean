-- PURE: what stays the same; shapes that are made
section CG
variable {T T1 : Nat → TT} {V V1 : Nat → Int} {w h z9 k9 : Nat} {R R1 : Nat → Int → Int}
theorem rS_cg {s : Nat} (e : T1 s = T s) (r : rS T s) : rS T1 s := by unfold rS at *; rw [e]; exact r
theorem wRel_cg (hT : T1 0 = T 0) (h0 : R1 0 = R 0) (h1 : R1 1 = R 1) (r : wRel T w R) : wRel T1 w R1 := by unfold wRel at *; rw [hT, h0, h1]; exact r
theorem hRel_cg (hT : T1 2 = T 2) (h2 : R1 2 = R 2) (h3 : R1 3 = R 3) (r : hRel T h R) : hRel T1 h R1 := by unfold hRel hRep at *; rw [hT, h2, h3]; exact r
theorem mZ_cg (h4 : R1 4 = R 4) (h5 : R1 5 = R 5) (h6 : R1 6 = R 6) (h7 : R1 7 = R 7) (r : mZ R z9) : mZ R1 z9 := mZ_congr h4 h5 h6 h7 r
theorem oRel_cg (hT : ∀ z, z < z9 → T1 (3 + z) = T (3 + z)) (v0 : V1 0 = V 0) (v1 : ∀ z, z < z9 → V1 (10 + z) = V (10 + z)) (h4 : R1 4 = R 4) (h5 : R1 5 = R 5) (h6 : R1 6 = R 6) (h7 : R1 7 = R 7) (r : oRel T V z9 R) : oRel T1 V1 z9 R1 := by
  refine ⟨v0.trans r.1, r.2.1, mZ_cg h4 h5 h6 h7 r.2.2.1, fun z hz => ?_⟩
  have a := r.2.2.2 z hz
  refine ⟨?_, rS_cg (hT z hz) a.2.1, ?_⟩
  · rw [v1 z hz, h7]; exact a.1
  · unfold zP
    rw [hT z hz, h4, h5, h6]; exact a.2.2
theorem kp_cg {k t a : Nat} {x y : Int} (e : ∀ j : Nat, j < a → R1 8 (6 * (k : Int) + (j : Int)) = R 8 (6 * (k : Int) + (j : Int)) ∧ R1 9 (6 * (k : Int) + (j : Int)) = R 9 (6 * (k : Int) + (j : Int))) : ∀ j, j < a → kp R1 k t x y a j = kp R k t x y a j := by
  have q : ∀ j, j < a → kq R1 k t j = kq R k t j := fun j hj => by unfold kq; rw [(e j hj).1, (e j hj).2]
  have ml : ∀ (g g1 : Nat → Int) (n : Nat), (∀ j, j < n → g1 j = g j) → mlo g1 n = mlo g n := by
    intro g g1 n
    induction n with
    | zero => intro _; rfl
    | succ n ih =>
      intro hg
      have a := ih (fun j hj => hg j (by omega))
      have b := hg n (by omega)
      unfold mlo
      rw [a, b]
  intro j hj
  unfold kp
  rw [q j hj, ml (fun j => (kq R k t j).1) (fun j => (kq R1 k t j).1) a (fun j hj => by rw [q j hj]), ml (fun j => (kq R k t j).2) (fun j => (kq R1 k t j).2) a (fun j hj => by rw [q j hj])]
theorem kRel_cg (hT : ∀ k t, k < k9 → t ≤ 3 → T1 (8 + 4 * k + t) = T (8 + 4 * k + t)) (v1 : V1 1 = V 1) (v2 : ∀ k, k < k9 → V1 (20 + k) = V (20 + k) ∧ V1 (30 + k) = V (30 + k)) (h8 : R1 8 = R 8) (h9 : R1 9 = R 9) (h10 : R1 10 = R 10) (h11 : R1 11 = R 11) (h12 : R1 12 = R 12) (r : kRel T V k9 R) : kRel T1 V1 k9 R1 := by
  refine ⟨v1.trans r.1, r.2.1, ?_, fun k hk => ?_⟩
  · unfold kOkR; rw [h8, h9, h10, h11, h12]; exact r.2.2.1
  · have a := r.2.2.2 k hk
    refine ⟨?_, ?_, fun t ht => ?_⟩
    · rw [(v2 k hk).1, h11]; exact a.1
    · rw [(v2 k hk).2, h12]; exact a.2.1
    · have b := a.2.2 t ht
      rw [hT k t hk ht, h10, kp_same h8 h9]; exact b
theorem pRel1_cg {p : Nat} (hT : T1 (32 + p) = T (32 + p)) (a1 : V1 (40 + p) = V (40 + p)) (a2 : V1 (60 + p) = V (60 + p)) (a3 : V1 (80 + p) = V (80 + p)) (a4 : V1 (100 + p) = V (100 + p)) (a5 : V1 (120 + p) = V (120 + p)) (h10 : ∀ k : Nat, k < k9 → R1 10 (k : Int) = R 10 (k : Int)) (h13 : R1 13 (p : Int) = R 13 (p : Int)) (h14 : R1 14 (p : Int) = R 14 (p : Int)) (h15 : R1 15 (p : Int) = R 15 (p : Int)) (h16 : R1 16 (p : Int) = R 16 (p : Int)) (hm : ∀ j, j < 6 → mPt R1 p j = mPt R p j) (hn : ∀ k : Nat, k < k9 → R 10 (k : Int) ≤ 6) {k10 : Nat} (hk : k9 ≤ k10) (r : pRel1 T V k9 R p) : pRel1 T1 V1 k10 R1 p := by
  rcases r with ⟨b1, b2⟩ | ⟨b1, kd, hkd, b2, b3, b4, b5, b6, rs, rp⟩
  · exact Or.inl ⟨a1.trans b1, h13.trans b2⟩
  · have n6 := hn kd hkd
    refine Or.inr ⟨a1.trans b1, kd, by omega, h13.trans b2, ?_, ?_, ?_, ?_, rS_cg hT rs, ?_⟩
    · rw [a2, h13]; exact b3
    · rw [a3, h14]; exact b4
    · rw [a4, h15]; exact b5
    · rw [a5, h16]; exact b6
    · rw [hT, h10 kd hkd]
      exact zRep_cg (fun j hj => (hm j (by omega)).symm) rp
theorem pRel_cg (hT : ∀ p, p < 12 → T1 (32 + p) = T (32 + p)) (v2 : V1 2 = V 2) (va : ∀ p, p < 12 → V1 (40 + p) = V (40 + p) ∧ V1 (60 + p) = V (60 + p) ∧ V1 (80 + p) = V (80 + p) ∧ V1 (100 + p) = V (100 + p) ∧ V1 (120 + p) = V (120 + p)) (h10 : ∀ k : Nat, k < k9 → R1 10 (k : Int) = R 10 (k : Int)) (h13 : R1 13 = R 13) (h14 : R1 14 = R 14) (h15 : R1 15 = R 15) (h16 : R1 16 = R 16) (h17 : R1 17 = R 17) (h18 : R1 18 = R 18) (hn : ∀ k : Nat, k < k9 → R 10 (k : Int) ≤ 6) {k10 : Nat} (hk : k9 ≤ k10) (r : pRel T V k9 R) : pRel T1 V1 k10 R1 := by
  refine ⟨fun p hp => ?_, by rw [v2, h13]; exact r.2⟩
  obtain ⟨b1, b2, b3, b4, b5⟩ := va p hp
  exact pRel1_cg (hT p hp) b1 b2 b3 b4 b5 h10 (by rw [h13]) (by rw [h14]) (by rw [h15]) (by rw [h16]) (fun j _ => by unfold mPt; rw [h17, h18]) hn hk (r.1 p hp)
theorem kRel_6 (r : kRel T V k9 R) : ∀ k : Nat, k < k9 → R 10 (k : Int) ≤ 6 := fun k hk => (r.2.2.1 k hk).2.1
/-- the reference's rows of work don't matter -/
theorem zRel_wk (s : ∀ k : Nat, k ≠ 19 → k ≠ 20 → k ≠ 21 → k ≠ 22 → R1 k = R k) (r : zRel T V w h z9 k9 R) : zRel T V w h z9 k9 R1 := by
  have e : ∀ k : Nat, k < 19 → R1 k = R k := fun k hk => s k (by omega) (by omega) (by omega) (by omega)
  obtain ⟨hw, hh, ho, hk, hp⟩ := r
  exact ⟨wRel_cg rfl (e 0 (by omega)) (e 1 (by omega)) hw, hRel_cg rfl (e 2 (by omega)) (e 3 (by omega)) hh, oRel_cg (fun _ _ => rfl) rfl (fun _ _ => rfl) (e 4 (by omega)) (e 5 (by omega)) (e 6 (by omega)) (e 7 (by omega)) ho, kRel_cg (fun _ _ _ _ => rfl) rfl (fun _ _ => ⟨rfl, rfl⟩) (e 8 (by omega)) (e 9 (by omega)) (e 10 (by omega)) (e 11 (by omega)) (e 12 (by omega)) hk,
    pRel_cg (fun _ _ => rfl) rfl (fun _ _ => ⟨rfl, rfl, rfl, rfl, rfl⟩) (fun k _ => by rw [e 10 (by omega)]) (e 13 (by omega)) (e 14 (by omega)) (e 15 (by omega)) (e 16 (by omega)) (e 17 (by omega)) (e 18 (by omega)) (kRel_6 hk) (Nat.le_refl _) hp⟩
/-- the corners no longer wait -/
theorem zRel_end {T0 : Nat → TT} (r : zRel T V w h z9 k9 R) (e : cEnd T T0) : zRel T0 V 0 h z9 k9 R := by
  obtain ⟨hw, hh, ho, hk, hp⟩ := r
  have z5 := ho.2.1
  have k6 := hk.2.1
  obtain ⟨e1, e2, -⟩ := e
  exact ⟨⟨by omega, e2, fun j hj => absurd hj (by omega), fun q => absurd q (by omega), hw.2.2.2.2⟩, hRel_cg (e1 2 (by omega) (by omega)) rfl rfl hh, oRel_cg (fun z _ => e1 _ (by omega) (by omega)) rfl (fun _ _ => rfl) rfl rfl rfl rfl ho, kRel_cg (fun k t _ _ => e1 _ (by omega) (by omega)) rfl (fun _ _ => ⟨rfl, rfl⟩) rfl rfl rfl rfl rfl hk,
    pRel_cg (fun p _ => e1 _ (by omega) (by omega)) rfl (fun _ _ => ⟨rfl, rfl, rfl, rfl, rfl⟩) (fun _ _ => rfl) rfl rfl rfl rfl rfl rfl (kRel_6 hk) (Nat.le_refl _) hp⟩
/-- the offered corners are those that waited -/
theorem end_is {T0 : Nat → TT} (r : wRel T w R) (e : cEnd T T0) : (T0 1).1 = w ∧ ∀ j, j < w → sP (T0 1).2.1 (T0 1).2.2.1 j = sP (R 0) (R 1) j := by
  obtain ⟨-, -, e3, e4, -⟩ := e
  refine ⟨e3.trans r.2.1, fun j hj => ?_⟩
  have a := e4 j (by rw [r.2.1]; exact hj)
  have b := r.2.2.1 j hj
  exact Prod.ext (a.1.trans b.1) (a.2.trans b.2)
end CG
theorem plM_cg {n : Nat} {P Q : Nat → Int × Int} (e : ∀ j, j < n → P j = Q j) (h : ge_plM n P) : ge_plM n Q := by
  intro i hi
  have n0 : 0 < n := by omega
  have x0 := e i hi
  have x1 := e _ (ge_nx_lt (i := i) n0)
  have x2 := e _ (ge_nx_lt (i := ge_nx n i) n0)
  obtain ⟨⟨a, b⟩, c⟩ := h i hi
  refine ⟨⟨?_, ?_⟩, fun k hk q => c k hk ⟨q.1, ?_⟩⟩
  · unfold ge_onI at *; rw [← x0, ← x1, ← x2]; exact a
  · unfold ge_onI at *; rw [← x0, ← x1, ← x2]; exact b
  · have y0 := e k hk
    have y1 := e _ (ge_nx_lt (i := k) n0)
    have z := q.2
    unfold ge_mtM ge_onI ge_crI at *
    rw [x0, x1, y0, y1]; exact z
theorem pl_iff {n : Nat} {P Q : Nat → Int × Int} (e : ∀ j, j < n → P j = Q j) : ge_plC n P ↔ ge_plM n Q := by
  rw [ge_pl_eq]
  exact ⟨plM_cg e, plM_cg (fun j hj => (e j hj).symm)⟩
theorem mRd_iff {n : Nat} (hn : 3 ≤ n) (P : Nat → Int × Int) : mRd n P ↔ ge_ccw n P ∨ ge_cw n P := by
  have one : ∀ b : Bool, mrs n P b n = n * (n - 2) ↔ ∀ i k, i < n → k < n → k ≠ i → k ≠ ge_nx n i → (if b = true then decide (0 < ge_crI P i (ge_nx n i) k) else decide (ge_crI P i (ge_nx n i) k < 0)) = true := fun b => ge_cnt_all (n := n) hn (b := fun i k => if b = true then decide (0 < ge_crI P i (ge_nx n i) k) else decide (ge_crI P i (ge_nx n i) k < 0))
  unfold mRd
  rw [one true, one false]
  refine or_congr ⟨fun h i k hi hk a b => ?_, fun h i k hi hk a b => ?_⟩ ⟨fun h i k hi hk a b => ?_, fun h i k hi hk a b => ?_⟩
  · have := h i k hi hk a b
    rw [if_pos rfl] at this
    exact of_decide_eq_true this
  · rw [if_pos rfl]
    exact decide_eq_true (h i k hi hk a b)
  · have := h i k hi hk a b
    rw [if_neg (by decide)] at this
    exact of_decide_eq_true this
  · rw [if_neg (by decide)]
    exact decide_eq_true (h i k hi hk a b)
theorem rd_iff {n : Nat} (hn : 3 ≤ n) {P Q : Nat → Int × Int} (e : ∀ j, j < n → P j = Q j) : ge_rd n P ↔ mRd n Q := by
  rw [ge_rd_eq hn, mRd_iff hn]
  exact or_congr ⟨ccw_cg e, ccw_cg (fun j hj => (e j hj).symm)⟩ ⟨cw_cg e, cw_cg (fun j hj => (e j hj).symm)⟩
/-- a copy that goes round to the left -/
theorem rep_lw {q q1 : TT} {n : Nat} {P : Nat → Int × Int} {dx dy : Int} (hq : q.1 = n) (h3 : 3 ≤ n) (h6 : n ≤ 6) (hr : ge_rd n (sP q.2.1 q.2.2.1)) (hl : zLw q q1 dx dy) (hP : ∀ j, j < n → mvP (sP q.2.1 q.2.2.1) dx dy j = P j) : zRep q1 n P := by
  obtain ⟨l1, l2, l3⟩ := hl
  rw [hq] at l1 l2 l3
  have cor : ∀ j, j < n → sP q1.2.1 q1.2.2.1 j = mvP (sP q.2.1 q.2.2.1) dx dy (lwi n (sP q.2.1 q.2.2.1) j) := fun j hj => by
    have := l2 j hj
    exact Prod.ext this.1 this.2
  rcases (ge_rd_eq h3).mp hr with c | c
  · have ap := ge_ar_pos h3 c
    have e : ∀ j, j < n → sP q1.2.1 q1.2.2.1 j = mvP (sP q.2.1 q.2.2.1) dx dy j := fun j hj => by
      rw [cor j hj]; unfold lwi; rw [if_pos ap]
    exact ⟨l1, ⟨h3, h6⟩, ccw_cg (fun j hj => (e j hj).symm) (ccw_mv dx dy c), Or.inl fun j hj => (e j hj).trans (hP j hj), l3⟩
  · have an := ge_ar_neg h3 c
    have e : ∀ j, j < n → sP q1.2.1 q1.2.2.1 j = ge_rev n (mvP (sP q.2.1 q.2.2.1) dx dy) j := fun j hj => by
      rw [cor j hj]; unfold lwi ge_rev; rw [if_neg (by omega)]
    refine ⟨l1, ⟨h3, h6⟩, ?_, Or.inr fun j hj => ?_, l3⟩
    · have d : ge_ccw n (mvP (ge_rev n (sP q.2.1 q.2.2.1)) dx dy) := ccw_mv dx dy (ge_cw_rev c)
      exact ccw_cg (fun j hj => (e j hj).symm) d
    · rw [e j hj]
      unfold ge_rev
      exact hP _ (by omega)
/-- a moved copy -/
theorem rep_cp {q q1 : TT} {n : Nat} {P : Nat → Int × Int} {x y : Int} (h : zRep q n P) (hc : zCp q q1 x y) : zRep q1 n (mvP P x y) := by
  obtain ⟨h1, h2, h3, h4, h5⟩ := h
  obtain ⟨l1, l2, l3⟩ := hc
  rw [h1] at l1 l2 l3
  have e : ∀ j, j < n → sP q1.2.1 q1.2.2.1 j = mvP (sP q.2.1 q.2.2.1) x y j := fun j hj => Prod.ext (l2 j hj).1 (l2 j hj).2
  refine ⟨l1, h2, ccw_cg (fun j hj => (e j hj).symm) (ccw_mv x y h3), ?_, l3⟩
  rcases eor_mv h4 x y with c | c
  · exact Or.inl fun j hj => (e j hj).trans (c j hj)
  · exact Or.inr fun j hj => (e j hj).trans (c j hj)
/-- one turn -/
theorem rep_tu {q q1 : TT} {n : Nat} {P Q : Nat → Int × Int} (h : zRep q n P) (hc : zTu q q1) (hQ : ∀ j, j < n → Q j = (q.2.2.2.2.2.2 - (P j).2, (P j).1 - q.2.2.2.1)) : zRep q1 n Q := by
  obtain ⟨h1, h2, h3, h4, h5⟩ := h
  obtain ⟨l1, l2, l3⟩ := hc
  rw [h1] at l1 l2 l3
  have e : ∀ j, j < n → sP q1.2.1 q1.2.2.1 j = (q.2.2.2.2.2.2 - (sP q.2.1 q.2.2.1 j).2, (sP q.2.1 q.2.2.1 j).1 - q.2.2.2.1) := fun j hj => Prod.ext (l2 j hj).1 (l2 j hj).2
  refine ⟨l1, h2, fun i k hi hk a b => ?_, ?_, l3⟩
  · have c := h3 i k hi hk a b
    have hn := ge_nx_lt (i := i) (show 0 < n by omega)
    unfold ge_bs at *
    rw [e i hi, e k hk, e _ hn]
    dsimp only
    have r1 : (q.2.2.2.2.2.2 - (sP q.2.1 q.2.2.1 (ge_nx n i)).2 - (q.2.2.2.2.2.2 - (sP q.2.1 q.2.2.1 i).2)) = - ((sP q.2.1 q.2.2.1 (ge_nx n i)).2 - (sP q.2.1 q.2.2.1 i).2) := by omega
    have r2 : (sP q.2.1 q.2.2.1 k).1 - q.2.2.2.1 - ((sP q.2.1 q.2.2.1 i).1 - q.2.2.2.1) = (sP q.2.1 q.2.2.1 k).1 - (sP q.2.1 q.2.2.1 i).1 := by omega
    have r3 : (sP q.2.1 q.2.2.1 (ge_nx n i)).1 - q.2.2.2.1 - ((sP q.2.1 q.2.2.1 i).1 - q.2.2.2.1) = (sP q.2.1 q.2.2.1 (ge_nx n i)).1 - (sP q.2.1 q.2.2.1 i).1 := by omega
    have r4 : (q.2.2.2.2.2.2 - (sP q.2.1 q.2.2.1 k).2 - (q.2.2.2.2.2.2 - (sP q.2.1 q.2.2.1 i).2)) = - ((sP q.2.1 q.2.2.1 k).2 - (sP q.2.1 q.2.2.1 i).2) := by omega
    rw [r1, r2, r3, r4, Int.neg_mul, Int.mul_neg]
    omega
  · rcases h4 with c | c
    · exact Or.inl fun j hj => by rw [e j hj, hQ j hj, c j hj]
    · refine Or.inr fun j hj => ?_
      rw [e j hj, c j hj]
      unfold ge_rev
      rw [hQ _ (by omega)]
/-- the greatest, as the other end of the least of the other way -/
theorem mlo_hi {v : Nat → Int} {n : Nat} {M : Int} (h0 : 0 < n) (hb : ∀ j, j < n → -100 ≤ v j) (h1 : ∀ j, j < n → v j ≤ M) (h2 : ∃ j, j < n ∧ v j = M) : mlo (fun j => - v j) n = - M := by
  obtain ⟨a, j, hj, e⟩ := mlo_is (v := fun j => - v j) (k := n) h0 (fun j hj => by have := hb j hj; omega)
  obtain ⟨i, hi, e2⟩ := h2
  have b := a i hi
  have c := h1 j hj
  omega
theorem mlo_lo {v : Nat → Int} {n : Nat} {M : Int} (h0 : 0 < n) (hb : ∀ j, j < n → v j ≤ 100) (h1 : ∀ j, j < n → M ≤ v j) (h2 : ∃ j, j < n ∧ v j = M) : mlo v n = M := by
  obtain ⟨a, j, hj, e⟩ := mlo_is (v := v) (k := n) h0 hb
  obtain ⟨i, hi, e2⟩ := h2
  have b := a i hi
  have c := h1 j hj
  omega
theorem eor_all {n : Nat} {A B : Nat → Int × Int} (h : eor n A B) {C : Int × Int → Prop} (hA : ∀ j, j < n → C (A j)) : ∀ j, j < n → C (B j) := fun j hj => by
  rcases h with e | e
  · rw [← e j hj]; exact hA j hj
  · have := hA (n - 1 - j) (by omega)
    rw [e _ (by omega)] at this
    unfold ge_rev at this
    rw [show n - 1 - (n - 1 - j) = j by omega] at this
    exact this
theorem eor_ex {n : Nat} {A B : Nat → Int × Int} (h : eor n A B) {C : Int × Int → Prop} (hA : ∃ j, j < n ∧ C (A j)) : ∃ j, j < n ∧ C (B j) := by
  obtain ⟨j, hj, c⟩ := hA
  rcases h with e | e
  · exact ⟨j, hj, by rw [← e j hj]; exact c⟩
  · rw [e j hj] at c
    exact ⟨n - 1 - j, by omega, c⟩
/-- a turned kind, turned once more -/
theorem kp_tu {R : Nat → Int → Int} {kd t n : Nat} {q : TT} (h : zRep q n (kp R kd t 0 0 n)) (hb : ∀ j : Nat, j < n → -12 ≤ (kq R kd t j).1 ∧ (kq R kd t j).1 ≤ 12 ∧ -12 ≤ (kq R kd t j).2 ∧ (kq R kd t j).2 ≤ 12) : ∀ j, j < n → kp R kd (t + 1) 0 0 n j = (q.2.2.2.2.2.2 - (kp R kd t 0 0 n j).2, (kp R kd t 0 0 n j).1 - q.2.2.2.1) := by
  obtain ⟨h1, h2, h3, h4, h5⟩ := h
  obtain ⟨ua, ⟨j1, c1, d1⟩, ⟨j2, c2, d2⟩, ⟨j3, c3, d3⟩, ⟨j4, c4, d4⟩⟩ := h5 (by omega)
  have hi : ∀ j, j < n → (kp R kd t 0 0 n j).2 ≤ q.2.2.2.2.2.2 := eor_all h4 (C := fun p => p.2 ≤ q.2.2.2.2.2.2) (fun j hj => (ua j hj).2.2.2)
  have hi2 : ∃ j, j < n ∧ (kp R kd t 0 0 n j).2 = q.2.2.2.2.2.2 := eor_ex h4 (C := fun p => p.2 = q.2.2.2.2.2.2) ⟨j4, c4, d4⟩
  have lo : ∀ j, j < n → q.2.2.2.1 ≤ (kp R kd t 0 0 n j).1 := eor_all h4 (C := fun p => q.2.2.2.1 ≤ p.1) (fun j hj => (ua j hj).1)
  have lo2 : ∃ j, j < n ∧ (kp R kd t 0 0 n j).1 = q.2.2.2.1 := eor_ex h4 (C := fun p => p.1 = q.2.2.2.1) ⟨j1, c1, d1⟩
  have k1 : ∀ j, (kp R kd t 0 0 n j).1 = (kq R kd t j).1 + (0 - mlo (fun j : Nat => (kq R kd t j).1) n) := fun _ => rfl
  have k2 : ∀ j, (kp R kd t 0 0 n j).2 = (kq R kd t j).2 + (0 - mlo (fun j : Nat => (kq R kd t j).2) n) := fun _ => rfl
  have m1 := mlo_is (v := fun j : Nat => (kq R kd t j).1) (k := n) (by omega) (fun j hj => by have := hb j hj; omega)
  have l0 : q.2.2.2.1 = 0 := by
    obtain ⟨a, i, hi9, e⟩ := m1
    obtain ⟨i2, hi8, e2⟩ := lo2
    have x := lo i hi9
    have y := a i2 hi8
    rw [k1] at x e2
    omega
  have mh : mlo (fun j : Nat => - (kq R kd t j).2) n = - (q.2.2.2.2.2.2 + mlo (fun j : Nat => (kq R kd t j).2) n) := by
    refine mlo_hi (by omega) (fun j hj => by have := hb j hj; omega) (fun j hj => ?_) ?_
    · have := hi j hj; rw [k2] at this; omega
    · obtain ⟨j, hj, e⟩ := hi2
      rw [k2] at e
      exact ⟨j, hj, by omega⟩
  intro j hj
  have s1 : (kp R kd (t + 1) 0 0 n j).1 = - (kq R kd t j).2 + (0 - mlo (fun j : Nat => - (kq R kd t j).2) n) := rfl
  have s2 : (kp R kd (t + 1) 0 0 n j).2 = (kq R kd t j).1 + (0 - mlo (fun j : Nat => (kq R kd t j).1) n) := rfl
  refine Prod.ext ?_ ?_
  · rw [s1, mh, k2]; dsimp only; omega
  · rw [s2, k1]; dsimp only; omega
