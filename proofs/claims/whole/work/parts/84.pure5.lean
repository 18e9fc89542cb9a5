-- PURE: the other steps
theorem mcnt_cg {K K1 : Int → Int} : ∀ n : Nat, (∀ j : Nat, j < n → K1 (j : Int) = K (j : Int)) → mcnt K1 n = mcnt K n
  | 0, _ => rfl
  | n + 1, h => by rw [mcnt_s, mcnt_s, mcnt_cg n (fun j hj => h j (by omega)), h n (by omega)]
theorem mcnt_iu {K : Int → Int} {p : Nat} {v : Int} : ∀ n : Nat, p < n → mcnt (iu K (p : Int) v) n = mcnt K n - (if 0 ≤ K (p : Int) then 1 else 0) + (if 0 ≤ v then 1 else 0)
  | 0, h => absurd h (by omega)
  | n + 1, h => by
    rw [mcnt_s, mcnt_s]
    rcases Nat.lt_or_ge p n with c | c
    · rw [mcnt_iu n c, iu_ne (by omega)]; omega
    · have e : p = n := by omega
      subst e
      rw [iu_at, mcnt_cg p (fun j hj => iu_nat hj)]; omega
theorem mcnt_no {K : Int → Int} : ∀ n : Nat, (∀ j : Nat, j < n → K (j : Int) < 0) → mcnt K n = 0
  | 0, _ => rfl
  | n + 1, h => by rw [mcnt_s, mcnt_no n (fun j hj => h j (by omega)), if_neg (by have := h n (by omega); omega)]; rfl
section SU
variable {G : Nat → ClassId} {L : List Nat} {f1 : Nat → va_E} {o : Nat} {ra : Nat → Nat} {T T1 : Nat → TT} {V V1 : Nat → Int} {w h z9 k9 : Nat} {R : Nat → Int → Int} {mn om r : Int} {k : Nat} {v : Option Value}
theorem zB_eq {P Q : Prop} {a b : Int} (h : P ↔ Q) (ha : zB P a) (hb : zB Q b) : b = a := by
  rcases ha with ⟨p, rfl⟩ | ⟨p, rfl⟩ <;> rcases hb with ⟨q, rfl⟩ | ⟨q, rfl⟩
  · rfl
  · exact absurd (h.mp p) q
  · exact absurd (h.mpr q) p
  · rfl
theorem p_fit (hr : zRel T V w h z9 k9 R) {kd x y t : Int} (hC : cFit T V z9 k9 kd x y t k r T1 V1)
    (hx : (¬ ((0 ≤ kd ∧ kd < (k9 : Int)) ∧ (0 ≤ x ∧ x ≤ 30 ∧ 0 ≤ y ∧ y ≤ 30 ∧ 0 ≤ t ∧ t ≤ 3)) ∧ v = some (.int (zI 0)) ∧ zMo G L f1 o ra 1 (w : Int) (h : Int) (z9 : Int) (k9 : Int) mn om R) ∨ (((0 ≤ kd ∧ kd < (k9 : Int)) ∧ (0 ≤ x ∧ x ≤ 30 ∧ 0 ≤ y ∧ y ≤ 30 ∧ 0 ≤ t ∧ t ≤ 3)) ∧ ∃ (R1 : Nat → Int → Int) (mn1 om1 r : Int), (∀ k : Nat, k ≠ 19 → k ≠ 20 → k ≠ 21 → k ≠ 22 → R1 k = R k) ∧ zMo G L f1 o ra 0 (w : Int) (h : Int) (z9 : Int) (k9 : Int) mn1 om1 R1 ∧ v = some (.int (zI r)) ∧ zB (fFit R h z9 kd.toNat (R 10 kd).toNat t.toNat x y) r)) : sPost G L f1 o ra k r T1 V1 v := by
  obtain ⟨rfl, rfl, c⟩ := hC
  rcases c with ⟨c1, rfl⟩ | ⟨c1, rfl, c2⟩
  · rcases hx with ⟨x1, x2, x3⟩ | ⟨x1, -⟩
    · exact ⟨0, w, h, z9, k9, mn, om, R, x2, x3, fun q => absurd q (by omega), by omega, hr⟩
    · exact absurd ⟨x1.1, ⟨by omega, by omega, by omega, by omega⟩, by omega, by omega⟩ c1
  · obtain ⟨d1, d2, d3⟩ := c1
    rcases hx with ⟨x1, -⟩ | ⟨x1, R1, mn1, om1, b, x2, x3, x4, x5⟩
    · exact absurd ⟨d1, by omega, by omega, by omega, by omega, by omega, by omega⟩ x1
    · have key := cLie_iff hr (kd := kd.toNat) (t := t.toNat) (by omega) (by omega) x y
      rw [show ((kd.toNat : Nat) : Int) = kd by omega] at key
      exact ⟨b, w, h, z9, k9, mn1, om1, R1, x4, x3, fun _ => zB_eq key c2 x5, by omega, zRel_wk x2 hr⟩
theorem p_bes (hr : zRel T V w h z9 k9 R) {kd : Int} (hC : cBes T V z9 k9 kd k r T1 V1)
    (hx : (¬ (0 ≤ kd ∧ kd < (k9 : Int)) ∧ v = some (.int (zI 0)) ∧ zMo G L f1 o ra 1 (w : Int) (h : Int) (z9 : Int) (k9 : Int) mn om R) ∨ ((0 ≤ kd ∧ kd < (k9 : Int)) ∧ ∃ (R1 : Nat → Int → Int) (mn1 om1 r : Int), (∀ k : Nat, k ≠ 19 → k ≠ 20 → k ≠ 21 → k ≠ 22 → R1 k = R k) ∧ ge_first (fF R h z9 kd.toNat (R 10 kd).toNat) r ∧ ((r < 0 ∧ v = some (.int (zI 0)) ∧ zMo G L f1 o ra 2 (w : Int) (h : Int) (z9 : Int) (k9 : Int) mn1 om1 R1) ∨ (0 ≤ r ∧ v = some (.int (zI r)) ∧ zMo G L f1 o ra 0 (w : Int) (h : Int) (z9 : Int) (k9 : Int) mn1 om1 R1)))) : sPost G L f1 o ra k r T1 V1 v := by
  obtain ⟨rfl, rfl, c⟩ := hC
  rcases c with ⟨c1, rfl⟩ | ⟨c1, q, c2, c3⟩
  · rcases hx with ⟨x1, x2, x3⟩ | ⟨x1, -⟩
    · exact ⟨0, w, h, z9, k9, mn, om, R, x2, x3, fun q => absurd q (by omega), by omega, hr⟩
    · exact absurd x1 c1
  · rcases hx with ⟨x1, -⟩ | ⟨x1, R1, mn1, om1, b, x2, x3, x4⟩
    · exact absurd c1 x1
    · have key : ∀ y x t, cF T1 V1 z9 kd.toNat y x t ↔ fF R h z9 kd.toNat (R 10 kd).toNat y x t := fun y x t => by
        have := cF_iff hr (kd := kd.toNat) (by omega) y x t
        rw [show ((kd.toNat : Nat) : Int) = kd by omega] at this
        exact this
      have e : q = b := ge_first_one key c2 x3
      subst e
      rcases c3 with ⟨c4, rfl⟩ | ⟨c4, rfl, rfl⟩
      · rcases x4 with ⟨x5, x6, x7⟩ | ⟨x5, -⟩
        · exact ⟨0, w, h, z9, k9, mn1, om1, R1, x6, x7, fun q => absurd q (by omega), by omega, zRel_wk x2 hr⟩
        · omega
      · rcases x4 with ⟨x5, -⟩ | ⟨x5, x6, x7⟩
        · omega
        · exact ⟨r, w, h, z9, k9, mn1, om1, R1, x6, x7, fun _ => rfl, by omega, zRel_wk x2 hr⟩
/-- a part is laid -/
theorem zRel_add {S R1 : Nat → Int → Int} {kd t p p2 : Nat} {x y : Int} (hr : zRel T V w h z9 k9 R) (hkd : kd < k9) (ht : t ≤ 3) (hx : 0 ≤ x ∧ x ≤ 30) (hy : 0 ≤ y ∧ y ≤ 30) (hC : cAdd T V kd t x y p T1 V1) (hs : ∀ k : Nat, k ≠ 19 → k ≠ 20 → k ≠ 21 → k ≠ 22 → S k = R k) (q1 : p2 < 12) (q2 : R 13 (p2 : Int) < 0) (q3 : ∀ q : Nat, q < p2 → 0 ≤ R 13 (q : Int)) (hl : plc S R1 kd (R 10 (kd : Int)).toNat t x y p2) : p2 = p ∧ zRel T1 V1 w h z9 k9 R1 := by
  obtain ⟨c1, c2, c3, c4, c5, c6, c7, c8, c9, c10, c11, c12⟩ := hC
  have ep : p2 = p := by
    rcases Nat.lt_trichotomy p2 p with d | d | d
    · have a := c3 p2 d
      rcases hr.2.2.2.2.1 p2 q1 with ⟨e, -⟩ | ⟨-, k, -, e, -⟩
      · exact absurd e a
      · omega
    · exact d
    · have a := q3 p d
      rcases hr.2.2.2.2.1 p c1 with ⟨-, e⟩ | ⟨e, -⟩
      · omega
      · omega
  subst ep
  refine ⟨rfl, ?_⟩
  obtain ⟨hw, hh, ho, hk, hp⟩ := hr
  have z5 := ho.2.1
  have k6 := hk.2.1
  obtain ⟨l1, l2, l3, l4, l5, l6, l7⟩ := hl
  have s : ∀ q : Nat, q < 19 → S q = R q := fun q hq => hs q (by omega) (by omega) (by omega) (by omega)
  have e : ∀ q : Nat, q < 13 → R1 q = R q := fun q hq => (l1 q (by omega) (by omega) (by omega) (by omega) (by omega) (by omega) (by omega) (by omega)).trans (s q (by omega))
  rw [s 13 (by omega)] at l2
  rw [s 14 (by omega)] at l3
  rw [s 15 (by omega)] at l4
  rw [s 16 (by omega)] at l5
  rw [s 17 (by omega), s 18 (by omega)] at l7
  rw [kp_same (s 8 (by omega)) (s 9 (by omega))] at l6
  have ok := hk.2.2.1 kd hkd
  have rk := (hk.2.2.2 kd hkd).2.2 t ht
  have rep : zRep (T1 (32 + p2)) (R 10 (kd : Int)).toNat (mPt R1 p2) := by
    refine zRep_cg (fun j hj => ?_) (rep_cp rk.2 c5)
    rw [← kp_mv]
    exact Prod.ext (l6 j hj).1.symm (l6 j hj).2.symm
  have rsn : rS T1 (32 + p2) := by
    obtain ⟨r1, r2, r3, r4, r5⟩ := rep
    obtain ⟨m1, m2, m3⟩ := c5
    have n1 := rk.2.1
    have tb := rk.1.2.2.1
    have cor : ∀ j : Nat, j < (R 10 (kd : Int)).toNat → 0 ≤ (T1 (32 + p2)).2.1 (j : Int) ∧ (T1 (32 + p2)).2.1 (j : Int) ≤ 42 ∧ 0 ≤ (T1 (32 + p2)).2.2.1 (j : Int) ∧ (T1 (32 + p2)).2.2.1 (j : Int) ≤ 42 := fun j hj => by
      have a := m2 j (by omega)
      have b := tb j (by omega)
      rw [a.1, a.2]
      dsimp only
      omega
    have bb := bx_bd r5 (by omega) cor
    exact ⟨by omega, ⟨by omega, fun j hj => by have := cor j (by omega); omega⟩, by omega⟩
  refine ⟨wRel_cg (c4 0 (by omega)) (e 0 (by omega)) (e 1 (by omega)) hw, hRel_cg (c4 2 (by omega)) (e 2 (by omega)) (e 3 (by omega)) hh, oRel_cg (fun z _ => c4 _ (by omega)) (c12 0 (by omega) (by omega) (by omega) (by omega) (by omega) (by omega)) (fun z _ => c12 _ (by omega) (by omega) (by omega) (by omega) (by omega) (by omega)) (e 4 (by omega)) (e 5 (by omega)) (e 6 (by omega)) (e 7 (by omega)) ho, kRel_cg (fun k t _ _ => c4 _ (by omega)) (c12 1 (by omega) (by omega) (by omega) (by omega) (by omega) (by omega)) (fun k _ => ⟨c12 _ (by omega) (by omega) (by omega) (by omega) (by omega) (by omega), c12 _ (by omega) (by omega) (by omega) (by omega) (by omega) (by omega)⟩) (e 8 (by omega)) (e 9 (by omega)) (e 10 (by omega)) (e 11 (by omega)) (e 12 (by omega)) hk, fun p' hp' => ?_, ?_⟩
  · by_cases d : p' = p2
    · subst d
      refine Or.inr ⟨c6, kd, hkd, ?_, ?_, ?_, ?_, ?_, rsn, ?_⟩
      · rw [l2, iu_at]
      · rw [l2, iu_at]; exact c7
      · rw [l3, iu_at]; exact c8
      · rw [l4, iu_at]; exact c9
      · rw [l5, iu_at]; exact c10
      · rw [e 10 (by omega)]; exact rep
    · refine pRel1_cg (c4 _ (by omega)) (c12 _ (by omega) (by omega) (by omega) (by omega) (by omega) (by omega)) (c12 _ (by omega) (by omega) (by omega) (by omega) (by omega) (by omega)) (c12 _ (by omega) (by omega) (by omega) (by omega) (by omega) (by omega)) (c12 _ (by omega) (by omega) (by omega) (by omega) (by omega) (by omega)) (c12 _ (by omega) (by omega) (by omega) (by omega) (by omega) (by omega)) (fun k _ => by rw [e 10 (by omega)]) ?_ ?_ ?_ ?_ (fun j hj => ?_) (kRel_6 hk) (Nat.le_refl _) (hp.1 p' hp')
      · rw [l2, iu_ne (by omega)]
      · rw [l3, iu_ne (by omega)]
      · rw [l4, iu_ne (by omega)]
      · rw [l5, iu_ne (by omega)]
      · have b := l7 (6 * (p' : Int) + (j : Int)) (by omega)
        exact Prod.ext b.1 b.2
  · rw [c11, l2, mcnt_iu 12 q1, if_neg (by omega), if_pos (by omega), hp.2]
    omega
theorem p_lay (hr : zRel T V w h z9 k9 R) {kd : Int} (hC : cLay T V z9 k9 kd k r T1 V1)
    (hx : (¬ (0 ≤ kd ∧ kd < (k9 : Int)) ∧ v = some (.int (zI 0)) ∧ zMo G L f1 o ra 1 (w : Int) (h : Int) (z9 : Int) (k9 : Int) mn om R) ∨ ((0 ≤ kd ∧ kd < (k9 : Int)) ∧ (mcnt (R 13) 12 = 12) ∧ v = some (.int (zI 0)) ∧ zMo G L f1 o ra 2 (w : Int) (h : Int) (z9 : Int) (k9 : Int) mn om R) ∨ ((0 ≤ kd ∧ kd < (k9 : Int)) ∧ ¬ (mcnt (R 13) 12 = 12) ∧ ∃ r : Int, ge_first (fF R h z9 kd.toNat (R 10 kd).toNat) r ∧ ((r < 0 ∧ v = some (.int (zI 0)) ∧ ∃ (R1 : Nat → Int → Int) (mn1 om1 : Int), (∀ k : Nat, k ≠ 19 → k ≠ 20 → k ≠ 21 → k ≠ 22 → R1 k = R k) ∧ zMo G L f1 o ra 3 (w : Int) (h : Int) (z9 : Int) (k9 : Int) mn1 om1 R1) ∨ (∃ y x t : Nat, r = (x : Int) + 32 * (y : Int) + 1024 * (t : Int) ∧ x ≤ 30 ∧ y ≤ 30 ∧ t ≤ 3 ∧ ∃ (p : Nat) (S R1 : Nat → Int → Int) (om1 : Int), p < 12 ∧ R 13 (p : Int) < 0 ∧ (∀ q : Nat, q < p → 0 ≤ R 13 (q : Int)) ∧ v = some (.int (zI (p : Int))) ∧ (∀ k : Nat, k ≠ 19 → k ≠ 20 → k ≠ 21 → k ≠ 22 → S k = R k) ∧ plc S R1 kd.toNat (R 10 kd).toNat t (x : Int) (y : Int) p ∧ zMo G L f1 o ra 0 (w : Int) (h : Int) (z9 : Int) (k9 : Int) (((R 10 kd).toNat : Nat) : Int) om1 R1)))) : sPost G L f1 o ra k r T1 V1 v := by
  have hp2 : V 2 = mcnt (R 13) 12 := hr.2.2.2.2.2
  have cb := rcnt_bd (R 13) 12
  rcases hC with ⟨c1, rfl, rfl, rfl⟩ | ⟨c1, c2, rfl, rfl, rfl⟩ | ⟨c1, c2, q, c3, c4⟩
  · rcases hx with ⟨x1, x2, x3⟩ | ⟨x1, -⟩ | ⟨x1, -⟩
    · exact ⟨0, w, h, z9, k9, mn, om, R, x2, x3, fun q => absurd q (by omega), by omega, hr⟩
    · exact absurd x1 c1
    · exact absurd x1 c1
  · rcases hx with ⟨x1, -⟩ | ⟨x1, x2, x3, x4⟩ | ⟨x1, x2, -⟩
    · exact absurd c1 x1
    · exact ⟨0, w, h, z9, k9, mn, om, R, x3, x4, fun q => absurd q (by omega), by omega, hr⟩
    · omega
  · rcases hx with ⟨x1, -⟩ | ⟨x1, x2, -⟩ | ⟨x1, x2, b, x3, x4⟩
    · exact absurd c1 x1
    · omega
    · have key : ∀ y x t, cF T V z9 kd.toNat y x t ↔ fF R h z9 kd.toNat (R 10 kd).toNat y x t := fun y x t => by
        have := cF_iff hr (kd := kd.toNat) (by omega) y x t
        rw [show ((kd.toNat : Nat) : Int) = kd by omega] at this
        exact this
      have e : q = b := ge_first_one key c3 x3
      subst e
      rcases c4 with ⟨c5, rfl, rfl, rfl⟩ | ⟨x, y, t, c5, c6, c7, c8, rfl, p, rfl, c9⟩
      · rcases x4 with ⟨x5, x6, R1, mn1, om1, x7, x8⟩ | ⟨y, x, t, x5, -⟩
        · exact ⟨0, w, h, z9, k9, mn1, om1, R1, x6, x8, fun q => absurd q (by omega), by omega, zRel_wk x7 hr⟩
        · omega
      · rcases x4 with ⟨x5, -⟩ | ⟨y', x', t', x5, x6, x7, x8, p2, S, R1, om1, y1, y2, y3, y4, y5, y6, y7⟩
        · omega
        · have e1 : t' = t := by omega
          have e2 : y' = y := by omega
          have e3 : x' = x := by omega
          subst e1; subst e2; subst e3
          have ek : ((kd.toNat : Nat) : Int) = kd := by omega
          obtain ⟨ep, zr9⟩ := zRel_add (p2 := p2) (S := S) (R1 := R1) hr (kd := kd.toNat) (by omega) c8 ⟨by omega, by omega⟩ ⟨by omega, by omega⟩ c9 y5 y1 y2 y3 (by rw [ek]; exact y6)
          subst ep
          exact ⟨(p2 : Int), w, h, z9, k9, _, om1, R1, y4, y7, fun _ => rfl, by omega, zr9⟩
theorem p_put (hr : zRel T V w h z9 k9 R) {kd x y t : Int} (hC : cPut T V z9 k9 kd x y t k r T1 V1)
    (hx : (¬ ((0 ≤ kd ∧ kd < (k9 : Int)) ∧ (0 ≤ x ∧ x ≤ 30 ∧ 0 ≤ y ∧ y ≤ 30 ∧ 0 ≤ t ∧ t ≤ 3)) ∧ v = some (.int (zI 0)) ∧ zMo G L f1 o ra 1 (w : Int) (h : Int) (z9 : Int) (k9 : Int) mn om R) ∨ (((0 ≤ kd ∧ kd < (k9 : Int)) ∧ (0 ≤ x ∧ x ≤ 30 ∧ 0 ≤ y ∧ y ≤ 30 ∧ 0 ≤ t ∧ t ≤ 3)) ∧ (mcnt (R 13) 12 = 12) ∧ v = some (.int (zI 0)) ∧ zMo G L f1 o ra 2 (w : Int) (h : Int) (z9 : Int) (k9 : Int) mn om R) ∨ (((0 ≤ kd ∧ kd < (k9 : Int)) ∧ (0 ≤ x ∧ x ≤ 30 ∧ 0 ≤ y ∧ y ≤ 30 ∧ 0 ≤ t ∧ t ≤ 3)) ∧ ¬ (mcnt (R 13) 12 = 12) ∧ ¬ fFit R h z9 kd.toNat (R 10 kd).toNat t.toNat x y ∧ v = some (.int (zI 0)) ∧ ∃ (R1 : Nat → Int → Int) (mn1 om1 : Int), (∀ k : Nat, k ≠ 19 → k ≠ 20 → k ≠ 21 → k ≠ 22 → R1 k = R k) ∧ zMo G L f1 o ra 3 (w : Int) (h : Int) (z9 : Int) (k9 : Int) mn1 om1 R1) ∨ (((0 ≤ kd ∧ kd < (k9 : Int)) ∧ (0 ≤ x ∧ x ≤ 30 ∧ 0 ≤ y ∧ y ≤ 30 ∧ 0 ≤ t ∧ t ≤ 3)) ∧ ¬ (mcnt (R 13) 12 = 12) ∧ fFit R h z9 kd.toNat (R 10 kd).toNat t.toNat x y ∧ ∃ (p : Nat) (S R1 : Nat → Int → Int) (om1 : Int), p < 12 ∧ R 13 (p : Int) < 0 ∧ (∀ q : Nat, q < p → 0 ≤ R 13 (q : Int)) ∧ v = some (.int (zI (p : Int))) ∧ (∀ k : Nat, k ≠ 19 → k ≠ 20 → k ≠ 21 → k ≠ 22 → S k = R k) ∧ plc S R1 kd.toNat (R 10 kd).toNat t.toNat x y p ∧ zMo G L f1 o ra 0 (w : Int) (h : Int) (z9 : Int) (k9 : Int) (((R 10 kd).toNat : Nat) : Int) om1 R1)) : sPost G L f1 o ra k r T1 V1 v := by
  have hp2 : V 2 = mcnt (R 13) 12 := hr.2.2.2.2.2
  have cb := rcnt_bd (R 13) 12
  have fw : cPlc k9 kd x y t ↔ ((0 ≤ kd ∧ kd < (k9 : Int)) ∧ (0 ≤ x ∧ x ≤ 30 ∧ 0 ≤ y ∧ y ≤ 30 ∧ 0 ≤ t ∧ t ≤ 3)) := by
    unfold cPlc
    constructor
    · rintro ⟨a, b, c⟩; exact ⟨a, by omega, by omega, by omega, by omega, by omega, by omega⟩
    · rintro ⟨a, b⟩; exact ⟨a, ⟨by omega, by omega, by omega, by omega⟩, by omega, by omega⟩
  rcases hC with ⟨c1, rfl, rfl, rfl⟩ | ⟨c1, c2, rfl, rfl, rfl⟩ | ⟨c1, c2, c3, rfl, rfl, rfl⟩ | ⟨c1, c2, c3, rfl, p, rfl, c9⟩
  · rcases hx with ⟨x1, x2, x3⟩ | ⟨x1, -⟩ | ⟨x1, -⟩ | ⟨x1, -⟩
    · exact ⟨0, w, h, z9, k9, mn, om, R, x2, x3, fun q => absurd q (by omega), by omega, hr⟩
    · exact absurd (fw.mpr x1) c1
    · exact absurd (fw.mpr x1) c1
    · exact absurd (fw.mpr x1) c1
  · rcases hx with ⟨x1, -⟩ | ⟨x1, x2, x3, x4⟩ | ⟨x1, x2, -⟩ | ⟨x1, x2, -⟩
    · exact absurd (fw.mp c1) x1
    · exact ⟨0, w, h, z9, k9, mn, om, R, x3, x4, fun q => absurd q (by omega), by omega, hr⟩
    · omega
    · omega
  · have z := fw.mp c1
    have key := cLie_iff hr (kd := kd.toNat) (t := t.toNat) (by omega) (by omega) x y
    rw [show ((kd.toNat : Nat) : Int) = kd by omega] at key
    rcases hx with ⟨x1, -⟩ | ⟨x1, x2, -⟩ | ⟨x1, x2, x3, x4, R1, mn1, om1, x5, x6⟩ | ⟨x1, x2, x3, -⟩
    · exact absurd z x1
    · omega
    · exact ⟨0, w, h, z9, k9, mn1, om1, R1, x4, x6, fun q => absurd q (by omega), by omega, zRel_wk x5 hr⟩
    · exact absurd (key.mpr x3) c3
  · have z := fw.mp c1
    have ek : ((kd.toNat : Nat) : Int) = kd := by omega
    have key := cLie_iff hr (kd := kd.toNat) (t := t.toNat) (by omega) (by omega) x y
    rw [ek] at key
    rcases hx with ⟨x1, -⟩ | ⟨x1, x2, -⟩ | ⟨x1, x2, x3, -⟩ | ⟨x1, x2, x3, p2, S, R1, om1, y1, y2, y3, y4, y5, y6, y7⟩
    · exact absurd z x1
    · omega
    · exact absurd (key.mp c3) x3
    · obtain ⟨ep, zr9⟩ := zRel_add (p2 := p2) (S := S) (R1 := R1) hr (kd := kd.toNat) (by omega) (by omega) ⟨by omega, by omega⟩ ⟨by omega, by omega⟩ c9 y5 y1 y2 y3 (by rw [ek]; exact y6)
      subst ep
      exact ⟨(p2 : Int), w, h, z9, k9, _, om1, R1, y4, y7, fun _ => rfl, by omega, zr9⟩
theorem lies_iff (hr : zRel T V w h z9 k9 R) (q : Int) : cLies V q ↔ (0 ≤ q ∧ q < 12 ∧ 0 ≤ R 13 q) := by
  unfold cLies
  constructor
  · rintro ⟨a, b, c⟩
    obtain ⟨i, rfl⟩ : ∃ i : Nat, q = (i : Int) := ⟨q.toNat, by omega⟩
    rw [Int.toNat_natCast] at c
    rcases hr.2.2.2.2.1 i (by omega) with ⟨e, -⟩ | ⟨-, kd, -, e, -⟩
    · exact absurd e c
    · exact ⟨a, b, by omega⟩
  · rintro ⟨a, b, c⟩
    obtain ⟨i, rfl⟩ : ∃ i : Nat, q = (i : Int) := ⟨q.toNat, by omega⟩
    rw [Int.toNat_natCast]
    rcases hr.2.2.2.2.1 i (by omega) with ⟨-, e⟩ | ⟨e, -⟩
    · omega
    · exact ⟨a, b, by omega⟩
theorem p_tak (hr : zRel T V w h z9 k9 R) {q : Int} (hC : cTak T V q k r T1 V1)
    (hx : (¬ (0 ≤ q ∧ q < 12 ∧ 0 ≤ R 13 q) ∧ v = some (.int (zI 0)) ∧ zMo G L f1 o ra 1 (w : Int) (h : Int) (z9 : Int) (k9 : Int) mn om R) ∨ ((0 ≤ q ∧ q < 12 ∧ 0 ≤ R 13 q) ∧ v = some (.int (zI (R 13 q))) ∧ zMo G L f1 o ra 0 (w : Int) (h : Int) (z9 : Int) (k9 : Int) mn om (va_up R 13 (iu (R 13) q (-1))))) : sPost G L f1 o ra k r T1 V1 v := by
  have li := lies_iff hr q
  obtain ⟨rfl, c⟩ := hC
  rcases c with ⟨c1, rfl, rfl⟩ | ⟨c1, rfl, rfl, c2, c3, c4⟩
  · rcases hx with ⟨x1, x2, x3⟩ | ⟨x1, -⟩
    · exact ⟨0, w, h, z9, k9, mn, om, R, x2, x3, fun q => absurd q (by omega), by omega, hr⟩
    · exact absurd (li.mpr x1) c1
  · rcases hx with ⟨x1, -⟩ | ⟨x1, x2, x3⟩
    · exact absurd (li.mp c1) x1
    · obtain ⟨i, rfl⟩ : ∃ i : Nat, q = (i : Int) := ⟨q.toNat, by omega⟩
      rw [Int.toNat_natCast] at *
      obtain ⟨hw, hh, ho, hk, hp⟩ := hr
      have z5 := ho.2.1
      have k6 := hk.2.1
      have e : ∀ y, y ≠ 13 → va_up R 13 (iu (R 13) (i : Int) (-1)) y = R y := fun y hy => va_up_ne _ _ hy
      have e13 : va_up R 13 (iu (R 13) (i : Int) (-1)) 13 = iu (R 13) (i : Int) (-1) := va_up_self _ _ _
      have vi : V (60 + i) = R 13 (i : Int) := by
        rcases hp.1 i (by omega) with ⟨-, e9⟩ | ⟨-, kd, -, -, e9, -⟩
        · omega
        · exact e9
      refine ⟨R 13 (i : Int), w, h, z9, k9, mn, om, _, x2, x3, fun _ => vi.symm, by omega, ?_⟩
      refine ⟨wRel_cg rfl (e 0 (by omega)) (e 1 (by omega)) hw, hRel_cg rfl (e 2 (by omega)) (e 3 (by omega)) hh, oRel_cg (fun _ _ => rfl) (c4 0 (by omega) (by omega)) (fun z _ => c4 _ (by omega) (by omega)) (e 4 (by omega)) (e 5 (by omega)) (e 6 (by omega)) (e 7 (by omega)) ho, kRel_cg (fun _ _ _ _ => rfl) (c4 1 (by omega) (by omega)) (fun k _ => ⟨c4 _ (by omega) (by omega), c4 _ (by omega) (by omega)⟩) (e 8 (by omega)) (e 9 (by omega)) (e 10 (by omega)) (e 11 (by omega)) (e 12 (by omega)) hk, fun p hp9 => ?_, ?_⟩
      · by_cases d : p = i
        · subst d
          exact Or.inl ⟨c2, by rw [e13, iu_at]⟩
        · refine pRel1_cg rfl (c4 _ (by omega) (by omega)) (c4 _ (by omega) (by omega)) (c4 _ (by omega) (by omega)) (c4 _ (by omega) (by omega)) (c4 _ (by omega) (by omega)) (fun k _ => by rw [e 10 (by omega)]) ?_ (by rw [e 14 (by omega)]) (by rw [e 15 (by omega)]) (by rw [e 16 (by omega)]) (fun j _ => by unfold mPt; rw [e 17 (by omega), e 18 (by omega)]) (kRel_6 hk) (Nat.le_refl _) (hp.1 p hp9)
          rw [e13, iu_ne (by omega)]
      · rw [c3, e13, mcnt_iu 12 (by omega), if_pos x1.2.2, if_neg (by omega), hp.2]
        omega
theorem p_prt (hr : zRel T V w h z9 k9 R) {q t : Int} (hC : cPrt T V q t k r T1 V1)
    (hx : (¬ (0 ≤ t ∧ t ≤ 3) ∧ v = some (.int (zI 0)) ∧ zMo G L f1 o ra 1 (w : Int) (h : Int) (z9 : Int) (k9 : Int) mn om R) ∨ ((0 ≤ t ∧ t ≤ 3) ∧ ¬ (0 ≤ q ∧ q < 12 ∧ 0 ≤ R 13 q) ∧ v = some (.int (zI 0)) ∧ zMo G L f1 o ra 2 (w : Int) (h : Int) (z9 : Int) (k9 : Int) mn om R) ∨ ((0 ≤ t ∧ t ≤ 3) ∧ (0 ≤ q ∧ q < 12 ∧ 0 ≤ R 13 q) ∧ v = some (.int (zI (if t = 0 then R 13 q else if t = 1 then R 14 q else if t = 2 then R 15 q else R 16 q))) ∧ zMo G L f1 o ra 0 (w : Int) (h : Int) (z9 : Int) (k9 : Int) mn om R)) : sPost G L f1 o ra k r T1 V1 v := by
  have li := lies_iff hr q
  obtain ⟨rfl, rfl, c⟩ := hC
  rcases c with ⟨c1, rfl⟩ | ⟨c1, c2, rfl⟩ | ⟨c1, c2, rfl, rfl⟩
  · rcases hx with ⟨x1, x2, x3⟩ | ⟨x1, -⟩ | ⟨x1, -⟩
    · exact ⟨0, w, h, z9, k9, mn, om, R, x2, x3, fun q => absurd q (by omega), by omega, hr⟩
    · exact absurd x1 c1
    · exact absurd x1 c1
  · rcases hx with ⟨x1, -⟩ | ⟨x1, x2, x3, x4⟩ | ⟨x1, x2, -⟩
    · exact absurd c1 x1
    · exact ⟨0, w, h, z9, k9, mn, om, R, x3, x4, fun q => absurd q (by omega), by omega, hr⟩
    · exact absurd (li.mpr x2) c2
  · rcases hx with ⟨x1, -⟩ | ⟨x1, x2, -⟩ | ⟨x1, x2, x3, x4⟩
    · exact absurd c1 x1
    · exact absurd (li.mp c2) x2
    · refine ⟨_, w, h, z9, k9, mn, om, R, x3, x4, fun _ => ?_, by omega, hr⟩
      obtain ⟨i, rfl⟩ : ∃ i : Nat, q = (i : Int) := ⟨q.toNat, by omega⟩
      rw [Int.toNat_natCast]
      rcases hr.2.2.2.2.1 i (by omega) with ⟨-, e⟩ | ⟨-, kd, -, -, e1, e2, e3, e4, -⟩
      · omega
      · rw [e1, e2, e3, e4]
theorem p_str (hr : zRel T V w h z9 k9 R) {R1 : Nat → Int → Int} (h1 : ∀ i : Nat, i < 12 → V1 (40 + i) = 0) (h2 : V1 2 = 0) (h3 : ∀ q, (q < 40 ∨ 52 ≤ q) → q ≠ 2 → V1 q = V q) (h4 : ∀ k, k ≠ 13 → R1 k = R k) (h5 : ∀ j : Nat, j < 12 → R1 13 (j : Int) = -1) : zRel T V1 w h z9 k9 R1 := by
  obtain ⟨hw, hh, ho, hk, hp⟩ := hr
  have z5 := ho.2.1
  have k6 := hk.2.1
  refine ⟨wRel_cg rfl (h4 0 (by omega)) (h4 1 (by omega)) hw, hRel_cg rfl (h4 2 (by omega)) (h4 3 (by omega)) hh, oRel_cg (fun _ _ => rfl) (h3 0 (by omega) (by omega)) (fun z _ => h3 _ (by omega) (by omega)) (h4 4 (by omega)) (h4 5 (by omega)) (h4 6 (by omega)) (h4 7 (by omega)) ho, kRel_cg (fun _ _ _ _ => rfl) (h3 1 (by omega) (by omega)) (fun k _ => ⟨h3 _ (by omega) (by omega), h3 _ (by omega) (by omega)⟩) (h4 8 (by omega)) (h4 9 (by omega)) (h4 10 (by omega)) (h4 11 (by omega)) (h4 12 (by omega)) hk, fun p hp9 => Or.inl ⟨h1 p hp9, h5 p hp9⟩, ?_⟩
  rw [h2, mcnt_no 12 (fun j hj => by rw [h5 j hj]; omega)]
theorem ar_cg {n : Nat} {P Q : Nat → Int × Int} (e : ∀ j, j < n → P j = Q j) : ge_ar n P n = ge_ar n Q n := by
  unfold ge_ar
  refine ge_sm_congr n (fun k hk => ?_)
  unfold ge_sd
  rw [e k hk, e _ (ge_nx_lt (by omega))]
theorem p_fre (hr : zRel T V w h z9 k9 R) : ∀ i : Nat, i ≤ 12 → cFree T V i = mFree R h i
  | 0, _ => by
    obtain ⟨hw, hh, ho, hk, hp⟩ := hr
    have ea : ge_ar (T 2).1 (sP (T 2).2.1 (T 2).2.2.1) (T 2).1 = ge_ar h (sP (R 2) (R 3)) h := by
      rcases hh.2 with ⟨e0, e1, -⟩ | q
      · rw [e0, e1]; rfl
      · rw [q.1]; exact ar_cg q.2.1
    show (if 0 ≤ ge_ar (T 2).1 (sP (T 2).2.1 (T 2).2.2.1) (T 2).1 then ge_ar (T 2).1 (sP (T 2).2.1 (T 2).2.2.1) (T 2).1 else - ge_ar (T 2).1 (sP (T 2).2.1 (T 2).2.2.1) (T 2).1) = zab (ge_ar h (sP (R 2) (R 3)) h)
    rw [ea]
    unfold zab
    split <;> split <;> omega
  | i + 1, hi => by
    have ih := p_fre hr i (by omega)
    obtain ⟨hw, hh, ho, hk, hp⟩ := hr
    rw [cFree_s, mFree_s, ih]
    rcases hp.1 i (by omega) with ⟨e, e2⟩ | ⟨e, kd, hkd, e2, -, -, -, -, -, rp⟩
    · rw [if_neg (by omega)]
      unfold mPn
      rw [if_pos (by omega)]
      show mFree R h i = mFree R h i - zab 0
      unfold zab
      rw [if_neg (by omega)]
      omega
    · rw [if_pos (by omega)]
      unfold mPn
      rw [if_neg (by omega), e2]
      have a := eor_ar rp.2.1.1 rp.2.2.1 rp.2.2.2.1
      rw [rp.1, a]
end SU
