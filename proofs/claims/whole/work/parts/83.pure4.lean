-- PURE: the steps
def sPost (G : Nat → ClassId) (L : List Nat) (f : Nat → va_E) (o : Nat) (ra : Nat → Nat) (k : Nat) (r : Int) (T1 : Nat → TT) (V1 : Nat → Int) (v : Option Value) : Prop := ∃ (b : Int) (w h z9 k9 : Nat) (mn om : Int) (R : Nat → Int → Int), v = some (.int (zI b)) ∧ zMo G L f o ra (k : Int) (w : Int) (h : Int) (z9 : Int) (k9 : Int) mn om R ∧ (k = 0 → b = r) ∧ k ≤ 3 ∧ zRel T1 V1 w h z9 k9 R
def sPosV (G : Nat → ClassId) (L : List Nat) (f : Nat → va_E) (o : Nat) (ra : Nat → Nat) (k : Nat) (T1 : Nat → TT) (V1 : Nat → Int) (v : Option Value) : Prop := ∃ (w h z9 k9 : Nat) (mn om : Int) (R : Nat → Int → Int), v = none ∧ zMo G L f o ra (k : Int) (w : Int) (h : Int) (z9 : Int) (k9 : Int) mn om R ∧ k ≤ 3 ∧ zRel T1 V1 w h z9 k9 R
section ST
variable {G : Nat → ClassId} {L : List Nat} {f1 : Nat → va_E} {o : Nat} {ra : Nat → Nat} {T T1 : Nat → TT} {V V1 : Nat → Int} {w h z9 k9 : Nat} {R : Nat → Int → Int} {mn om r : Int} {k : Nat} {v : Option Value}
theorem p_cor (hr : zRel T V w h z9 k9 R) {a b : Int} (hC : cCor T V a b k r T1 V1)
    (hx : (¬ (0 ≤ a ∧ a ≤ 30 ∧ 0 ≤ b ∧ b ≤ 30) ∧ v = some (.int (zI 0)) ∧ zMo G L f1 o ra 1 (w : Int) (h : Int) (z9 : Int) (k9 : Int) mn om R) ∨ ((0 ≤ a ∧ a ≤ 30 ∧ 0 ≤ b ∧ b ≤ 30) ∧ w = 12 ∧ v = some (.int (zI 0)) ∧ zMo G L f1 o ra 2 (w : Int) (h : Int) (z9 : Int) (k9 : Int) mn om R) ∨ ((0 ≤ a ∧ a ≤ 30 ∧ 0 ≤ b ∧ b ≤ 30) ∧ w < 12 ∧ v = some (.int (zI ((w : Int) + 1))) ∧ zMo G L f1 o ra 0 ((w : Int) + 1) (h : Int) (z9 : Int) (k9 : Int) mn om (va_up (va_up R 0 (iu (R 0) (w : Int) a)) 1 (iu (R 1) (w : Int) b)))) : sPost G L f1 o ra k r T1 V1 v := by
  have hw0 := hr.1.2.1
  obtain ⟨rfl, c⟩ := hC
  rcases c with ⟨c1, rfl, rfl⟩ | ⟨c1, c2, rfl, rfl⟩ | ⟨c1, c2, rfl, rfl, c3, c4⟩
  · rcases hx with ⟨x1, x2, x3⟩ | ⟨x1, -⟩ | ⟨x1, -⟩
    · exact ⟨0, w, h, z9, k9, mn, om, R, x2, x3, fun q => absurd q (by omega), by omega, hr⟩
    · exact absurd x1 c1
    · exact absurd x1 c1
  · rcases hx with ⟨x1, -⟩ | ⟨x1, x2, x3, x4⟩ | ⟨x1, x2, -⟩
    · exact absurd c1 x1
    · exact ⟨0, w, h, z9, k9, mn, om, R, x3, x4, fun q => absurd q (by omega), by omega, hr⟩
    · omega
  · rcases hx with ⟨x1, -⟩ | ⟨x1, x2, -⟩ | ⟨x1, x2, x3, x4⟩
    · exact absurd c1 x1
    · omega
    · refine ⟨(w : Int) + 1, w + 1, h, z9, k9, mn, om, _, x3, x4, fun _ => by omega, by omega, ?_⟩
      obtain ⟨hw, hh, ho, hk, hp⟩ := hr
      have e : ∀ q, q ≠ 0 → q ≠ 1 → va_up (va_up R 0 (iu (R 0) (w : Int) a)) 1 (iu (R 1) (w : Int) b) q = R q := fun q q0 q1 => by rw [va_up_ne _ _ q1, va_up_ne _ _ q0]
      have e0 : va_up (va_up R 0 (iu (R 0) (w : Int) a)) 1 (iu (R 1) (w : Int) b) 0 = iu (R 0) (w : Int) a := by rw [va_up_ne _ _ (by omega), va_up_self]
      have e1 : va_up (va_up R 0 (iu (R 0) (w : Int) a)) 1 (iu (R 1) (w : Int) b) 1 = iu (R 1) (w : Int) b := va_up_self _ _ _
      have z5 := ho.2.1
      have k6 := hk.2.1
      refine ⟨⟨by omega, by rw [c4, hw0], fun j hj => ?_, ?_, fun j hj => ?_⟩, hRel_cg (c3 2 (by omega)) (e 2 (by omega) (by omega)) (e 3 (by omega) (by omega)) hh, oRel_cg (fun z _ => c3 _ (by omega)) rfl (fun _ _ => rfl) (e 4 (by omega) (by omega)) (e 5 (by omega) (by omega)) (e 6 (by omega) (by omega)) (e 7 (by omega) (by omega)) ho, kRel_cg (fun k t _ _ => c3 _ (by omega)) rfl (fun _ _ => ⟨rfl, rfl⟩) (e 8 (by omega) (by omega)) (e 9 (by omega) (by omega)) (e 10 (by omega) (by omega)) (e 11 (by omega) (by omega)) (e 12 (by omega) (by omega)) hk,
        pRel_cg (fun p _ => c3 _ (by omega)) rfl (fun _ _ => ⟨rfl, rfl, rfl, rfl, rfl⟩) (fun k _ => by rw [e 10 (by omega) (by omega)]) (e 13 (by omega) (by omega)) (e 14 (by omega) (by omega)) (e 15 (by omega) (by omega)) (e 16 (by omega) (by omega)) (e 17 (by omega) (by omega)) (e 18 (by omega) (by omega)) (kRel_6 hk) (Nat.le_refl _) hp⟩
      · rw [c4, e0, e1, hw0]
        dsimp only
        rcases Nat.lt_or_ge j w with q | q
        · rw [iu_nat q, iu_nat q, iu_nat q, iu_nat q]; exact hw.2.2.1 j q
        · rw [show j = w by omega, iu_at, iu_at, iu_at, iu_at]; exact ⟨rfl, rfl⟩
      · rw [c4, hw0]
        exact sBx_add hw.2.2.2.1 a b
      · rw [e0, e1]
        have old := hw.2.2.2.2 j hj
        by_cases q : j = w
        · subst q; rw [iu_at, iu_at]; omega
        · rw [iu_ne (by omega), iu_ne (by omega)]; exact old
theorem p_hid (hr : zRel T V w h z9 k9 R) (hC : cHid T V k r T1 V1)
    (hx : (0 < mcnt (R 13) 12 ∧ zMo G L f1 o ra 1 (w : Int) (h : Int) (z9 : Int) (k9 : Int) mn om R) ∨ (¬ 0 < mcnt (R 13) 12 ∧ ¬ (3 ≤ w ∧ ge_plM w (sP (R 0) (R 1))) ∧ zMo G L f1 o ra 2 0 (h : Int) (z9 : Int) (k9 : Int) mn om R) ∨ (¬ 0 < mcnt (R 13) 12 ∧ (3 ≤ w ∧ ge_plM w (sP (R 0) (R 1))) ∧ ∃ R1 : Nat → Int → Int, (∀ k, k ≠ 2 → k ≠ 3 → R1 k = R k) ∧ (∀ j : Nat, j < w → R1 2 (j : Int) = R 0 (j : Int) ∧ R1 3 (j : Int) = R 1 (j : Int)) ∧ zMo G L f1 o ra 0 0 (w : Int) (z9 : Int) (k9 : Int) mn om R1)) (hv : v = none) : sPosV G L f1 o ra k T1 V1 v := by
  have hp2 : V 2 = mcnt (R 13) 12 := hr.2.2.2.2.2
  have hw12 := hr.1.1
  have wb := hr.1.2.2.2.2
  obtain ⟨rfl, c⟩ := hC
  rcases c with ⟨c1, rfl, rfl⟩ | ⟨c1, T0, hE, c⟩
  · rcases hx with ⟨x1, x2⟩ | ⟨x1, -⟩ | ⟨x1, -⟩
    · exact ⟨w, h, z9, k9, mn, om, R, hv, x2, by omega, hr⟩
    · omega
    · omega
  · have ei := end_is hr.1 hE
    have ze := zRel_end hr hE
    have key : cPl T0 ↔ 3 ≤ w ∧ ge_plM w (sP (R 0) (R 1)) := by unfold cPl; rw [ei.1, pl_iff ei.2]
    rcases hx with ⟨x1, -⟩ | ⟨x1, x2, x3⟩ | ⟨x1, x2, R1, y1, y2, x3⟩
    · omega
    · rcases c with ⟨c2, rfl, rfl⟩ | ⟨c2, -⟩
      · exact ⟨0, h, z9, k9, mn, om, R, hv, x3, by omega, ze⟩
      · exact absurd (key.mp c2) x2
    · rcases c with ⟨c2, -⟩ | ⟨c2, rfl, c3, c4⟩
      · exact absurd (key.mpr x2) c2
      · refine ⟨0, w, z9, k9, mn, om, R1, hv, x3, by omega, ?_⟩
        obtain ⟨hw, hh, ho, hk, hp⟩ := ze
        have z5 := ho.2.1
        have k6 := hk.2.1
        have e : ∀ q, q ≠ 2 → q ≠ 3 → R1 q = R q := y1
        obtain ⟨l1, l2, l3⟩ := c4
        rw [ei.1] at l1 l2 l3
        have eq : ∀ j, j < w → sP (R 0) (R 1) j = sP (R1 2) (R1 3) j := fun j hj => Prod.ext (y2 j hj).1.symm (y2 j hj).2.symm
        have cor : ∀ j, j < w → sP (T1 2).2.1 (T1 2).2.2.1 j = sP (R1 2) (R1 3) j := fun j hj => by
          rw [← eq j hj, ← ei.2 j hj]
          have := l2 j hj
          exact Prod.ext (this.1.trans (Int.add_zero _)) (this.2.trans (Int.add_zero _))
        refine ⟨wRel_cg (c3 0 (by omega)) (e 0 (by omega) (by omega)) (e 1 (by omega) (by omega)) hw, ⟨hw12, Or.inr ⟨l1, cor, fun j hj => ?_, x2.1, plM_cg eq x2.2, l3⟩⟩, oRel_cg (fun z _ => c3 _ (by omega)) rfl (fun _ _ => rfl) (e 4 (by omega) (by omega)) (e 5 (by omega) (by omega)) (e 6 (by omega) (by omega)) (e 7 (by omega) (by omega)) ho, kRel_cg (fun k t _ _ => c3 _ (by omega)) rfl (fun _ _ => ⟨rfl, rfl⟩) (e 8 (by omega) (by omega)) (e 9 (by omega) (by omega)) (e 10 (by omega) (by omega)) (e 11 (by omega) (by omega)) (e 12 (by omega) (by omega)) hk,
          pRel_cg (fun p _ => c3 _ (by omega)) rfl (fun _ _ => ⟨rfl, rfl, rfl, rfl, rfl⟩) (fun k _ => by rw [e 10 (by omega) (by omega)]) (e 13 (by omega) (by omega)) (e 14 (by omega) (by omega)) (e 15 (by omega) (by omega)) (e 16 (by omega) (by omega)) (e 17 (by omega) (by omega)) (e 18 (by omega) (by omega)) (kRel_6 hk) (Nat.le_refl _) hp⟩
        rw [← eq j hj]
        exact wb j (by omega)
theorem p_zon (hr : zRel T V w h z9 k9 R) {g : Int} (hC : cZon T V g k r T1 V1)
    (hx : (¬ (1 ≤ g ∧ g ≤ 3) ∧ v = some (.int (zI 0)) ∧ zMo G L f1 o ra 1 (w : Int) (h : Int) (z9 : Int) (k9 : Int) mn om R) ∨ ((1 ≤ g ∧ g ≤ 3) ∧ ¬ (3 ≤ w ∧ w ≤ 6 ∧ mRd w (sP (R 0) (R 1))) ∧ v = some (.int (zI 0)) ∧ zMo G L f1 o ra 1 0 (h : Int) (z9 : Int) (k9 : Int) mn om R) ∨ ((1 ≤ g ∧ g ≤ 3) ∧ (3 ≤ w ∧ w ≤ 6 ∧ mRd w (sP (R 0) (R 1))) ∧ (z9 = 5 ∨ 0 < mcnt (R 13) 12) ∧ v = some (.int (zI 0)) ∧ zMo G L f1 o ra 2 0 (h : Int) (z9 : Int) (k9 : Int) mn om R) ∨ ((1 ≤ g ∧ g ≤ 3) ∧ (3 ≤ w ∧ w ≤ 6 ∧ mRd w (sP (R 0) (R 1))) ∧ ¬ (z9 = 5 ∨ 0 < mcnt (R 13) 12) ∧ v = some (.int (zI ((z9 : Int) + 1))) ∧ ∃ R1 : Nat → Int → Int, zAdd R R1 w z9 g ∧ zMo G L f1 o ra 0 0 (h : Int) ((z9 : Int) + 1) (k9 : Int) mn om R1)) : sPost G L f1 o ra k r T1 V1 v := by
  have hp2 : V 2 = mcnt (R 13) 12 := hr.2.2.2.2.2
  have wb := hr.1.2.2.2.2
  have v0 : V 0 = (z9 : Int) := hr.2.2.1.1
  have z59 := hr.2.2.1.2.1
  rcases hC with ⟨c1, rfl, rfl, rfl⟩ | ⟨c1, T0, hE, c⟩
  · rcases hx with ⟨x1, x2, x3⟩ | ⟨x1, -⟩ | ⟨x1, -⟩ | ⟨x1, -⟩
    · exact ⟨0, w, h, z9, k9, mn, om, R, x2, x3, fun q => absurd q (by omega), by omega, hr⟩
    · exact absurd x1 c1
    · exact absurd x1 c1
    · exact absurd x1 c1
  · have ei := end_is hr.1 hE
    have ze := zRel_end hr hE
    have key : cRd T0 ↔ 3 ≤ w ∧ w ≤ 6 ∧ mRd w (sP (R 0) (R 1)) := by
      unfold cRd
      rw [ei.1]
      exact ⟨fun q => ⟨q.1, q.2.1, (rd_iff q.1 ei.2).mp q.2.2⟩, fun q => ⟨q.1, q.2.1, (rd_iff q.1 ei.2).mpr q.2.2⟩⟩
    rcases hx with ⟨x1, -⟩ | ⟨x1, x2, x3, x4⟩ | ⟨x1, x2, x3, x4, x5⟩ | ⟨x1, x2, x3, x4, R1, hA, x5⟩
    · exact absurd c1 x1
    · rcases c with ⟨c2, rfl, rfl, rfl⟩ | ⟨c2, -⟩ | ⟨c2, -⟩
      · exact ⟨0, 0, h, z9, k9, mn, om, R, x3, x4, fun q => absurd q (by omega), by omega, ze⟩
      · exact absurd (key.mp c2) x2
      · exact absurd (key.mp c2) x2
    · rcases c with ⟨c2, -⟩ | ⟨c2, c3, rfl, rfl, rfl⟩ | ⟨c2, c3, -⟩
      · exact absurd (key.mpr x2) c2
      · exact ⟨0, 0, h, z9, k9, mn, om, R, x4, x5, fun q => absurd q (by omega), by omega, ze⟩
      · omega
    · rcases c with ⟨c2, -⟩ | ⟨c2, c3, -⟩ | ⟨c2, c3, rfl, rfl, z, c4, c5, c6, c7, c8, c9⟩
      · exact absurd (key.mpr x2) c2
      · omega
      · have ez : z = z9 := by omega
        subst ez
        refine ⟨(z : Int) + 1, 0, h, z + 1, k9, mn, om, R1, x4, x5, fun _ => by omega, by omega, ?_⟩
        obtain ⟨hw, hh, ho, hk, hp⟩ := ze
        have k6 := hk.2.1
        obtain ⟨a1, a2, a3, a4, a5⟩ := hA
        have e : ∀ q, q ≠ 4 → q ≠ 5 → q ≠ 6 → q ≠ 7 → R1 q = R q := a1
        have r6 : ∀ y : Nat, y < z → R1 6 (y : Int) = R 6 (y : Int) := fun y hy => by rw [a2, iu_nat hy]
        have r7 : ∀ y : Nat, y < z → R1 7 (y : Int) = R 7 (y : Int) := fun y hy => by rw [a3, iu_nat hy]
        have n6 : R1 6 (z : Int) = (w : Int) := by rw [a2, iu_at]
        have n7 : R1 7 (z : Int) = g := by rw [a3, iu_at]
        have eq : ∀ j, j < w → sP (R 0) (R 1) j = zP R1 z j := fun j hj => Prod.ext (a4 j hj).1.symm (a4 j hj).2.symm
        have rep : zRep (T1 (3 + z)) w (zP R1 z) := rep_lw ei.1 x2.1 x2.2.1 ((rd_iff x2.1 ei.2).mpr x2.2.2) c9 (fun j hj => by
          rw [← eq j hj, ← ei.2 j hj]
          unfold mvP
          exact Prod.ext (Int.add_zero _) (Int.add_zero _))
        have bnd : ∀ j : Nat, j < w → 0 ≤ R1 4 (6 * (z : Int) + (j : Int)) ∧ R1 4 (6 * (z : Int) + (j : Int)) ≤ 30 ∧ 0 ≤ R1 5 (6 * (z : Int) + (j : Int)) ∧ R1 5 (6 * (z : Int) + (j : Int)) ≤ 30 := fun j hj => by
          rw [(a4 j hj).1, (a4 j hj).2]
          exact wb j (by omega)
        have rS1 : rS T1 (3 + z) := by
          obtain ⟨r1, r2, r3, r4, r5⟩ := rep
          have cor : ∀ j : Nat, j < w → 0 ≤ (T1 (3 + z)).2.1 (j : Int) ∧ (T1 (3 + z)).2.1 (j : Int) ≤ 30 ∧ 0 ≤ (T1 (3 + z)).2.2.1 (j : Int) ∧ (T1 (3 + z)).2.2.1 (j : Int) ≤ 30 := fun j hj => by
            rcases r4 with q | q
            · have p1 : (T1 (3 + z)).2.1 (j : Int) = (zP R1 z j).1 := congrArg Prod.fst (q j hj)
              have p2 : (T1 (3 + z)).2.2.1 (j : Int) = (zP R1 z j).2 := congrArg Prod.snd (q j hj)
              rw [p1, p2]; exact bnd j hj
            · have p1 : (T1 (3 + z)).2.1 (j : Int) = (zP R1 z (w - 1 - j)).1 := congrArg Prod.fst (q j hj)
              have p2 : (T1 (3 + z)).2.2.1 (j : Int) = (zP R1 z (w - 1 - j)).2 := congrArg Prod.snd (q j hj)
              rw [p1, p2]; exact bnd _ (by omega)
          have bb := bx_bd r5 (by omega) cor
          exact ⟨by omega, ⟨by omega, fun j hj => by have := cor j (by omega); omega⟩, by omega⟩
        refine ⟨wRel_cg (c8 0 (by omega)) (e 0 (by omega) (by omega) (by omega) (by omega)) (e 1 (by omega) (by omega) (by omega) (by omega)) hw, hRel_cg (c8 2 (by omega)) (e 2 (by omega) (by omega) (by omega) (by omega)) (e 3 (by omega) (by omega) (by omega) (by omega)) hh, ⟨by omega, by omega, fun y hy => ?_, fun y hy => ?_⟩, kRel_cg (fun k t _ _ => c8 _ (by omega)) (c7 1 (by omega) (by omega)) (fun k _ => ⟨c7 _ (by omega) (by omega), c7 _ (by omega) (by omega)⟩) (e 8 (by omega) (by omega) (by omega) (by omega)) (e 9 (by omega) (by omega) (by omega) (by omega)) (e 10 (by omega) (by omega) (by omega) (by omega)) (e 11 (by omega) (by omega) (by omega) (by omega)) (e 12 (by omega) (by omega) (by omega) (by omega)) hk,
          pRel_cg (fun p _ => c8 _ (by omega)) (c7 2 (by omega) (by omega)) (fun p _ => ⟨c7 _ (by omega) (by omega), c7 _ (by omega) (by omega), c7 _ (by omega) (by omega), c7 _ (by omega) (by omega), c7 _ (by omega) (by omega)⟩) (fun k _ => by rw [e 10 (by omega) (by omega) (by omega) (by omega)]) (e 13 (by omega) (by omega) (by omega) (by omega)) (e 14 (by omega) (by omega) (by omega) (by omega)) (e 15 (by omega) (by omega) (by omega) (by omega)) (e 16 (by omega) (by omega) (by omega) (by omega)) (e 17 (by omega) (by omega) (by omega) (by omega)) (e 18 (by omega) (by omega) (by omega) (by omega)) (kRel_6 hk) (Nat.le_refl _) hp⟩
        · rcases Nat.lt_or_ge y z with q | q
          · have od := ho.2.2.1 y q
            rw [r6 y q, r7 y q]
            refine ⟨od.1, od.2.1, od.2.2.1, od.2.2.2.1, fun j hj => ?_⟩
            have b := a5 (6 * (y : Int) + (j : Int)) (by omega)
            rw [b.1, b.2]
            exact od.2.2.2.2 j hj
          · have ey : y = z := by omega
            subst ey
            rw [n6, n7]
            exact ⟨by omega, by omega, by omega, by omega, fun j hj => bnd j (by omega)⟩
        · rcases Nat.lt_or_ge y z with q | q
          · have od := ho.2.2.2 y q
            have o6 := ho.2.2.1 y q
            refine ⟨?_, rS_cg (c8 _ (by omega)) od.2.1, ?_⟩
            · rw [c7 _ (by omega) (by omega), r7 y q]; exact od.1
            · rw [c8 _ (by omega), r6 y q]
              refine zRep_cg (fun j hj => ?_) od.2.2
              have b := a5 (6 * (y : Int) + (j : Int)) (by omega)
              exact Prod.ext b.1.symm b.2.symm
          · have ey : y = z := by omega
            subst ey
            rw [n6, n7]
            exact ⟨c6, rS1, rep⟩
theorem p_clr (hr : zRel T V w h z9 k9 R) (hC : cClr T V k r T1 V1)
    (hx : (0 < mcnt (R 13) 12 ∧ zMo G L f1 o ra 1 (w : Int) (h : Int) (z9 : Int) (k9 : Int) mn om R) ∨ (¬ 0 < mcnt (R 13) 12 ∧ zMo G L f1 o ra 0 (w : Int) (h : Int) 0 (k9 : Int) mn om R)) (hv : v = none) : sPosV G L f1 o ra k T1 V1 v := by
  have hp2 : V 2 = mcnt (R 13) 12 := hr.2.2.2.2.2
  obtain ⟨rfl, c⟩ := hC
  rcases c with ⟨c1, rfl, rfl⟩ | ⟨c1, rfl, c2, c3⟩
  · rcases hx with ⟨x1, x2⟩ | ⟨x1, -⟩
    · exact ⟨w, h, z9, k9, mn, om, R, hv, x2, by omega, hr⟩
    · omega
  · rcases hx with ⟨x1, -⟩ | ⟨x1, x2⟩
    · omega
    · obtain ⟨hw, hh, ho, hk, hp⟩ := hr
      exact ⟨w, h, 0, k9, mn, om, R, hv, x2, by omega, hw, hh, ⟨c2, by omega, fun y hy => absurd hy (by omega), fun y hy => absurd hy (by omega)⟩, kRel_cg (fun _ _ _ _ => rfl) (c3 1 (by omega)) (fun k _ => ⟨c3 _ (by omega), c3 _ (by omega)⟩) rfl rfl rfl rfl rfl hk,
        pRel_cg (fun _ _ => rfl) (c3 2 (by omega)) (fun p _ => ⟨c3 _ (by omega), c3 _ (by omega), c3 _ (by omega), c3 _ (by omega), c3 _ (by omega)⟩) (fun _ _ => rfl) rfl rfl rfl rfl rfl rfl (kRel_6 hk) (Nat.le_refl _) hp⟩
theorem p_kin (hr : zRel T V w h z9 k9 R) {g t : Int} (hC : cKin T V g t k r T1 V1)
    (hx : (¬ ((1 ≤ g ∧ g ≤ 4) ∧ 1 ≤ t ∧ t ≤ 15) ∧ v = some (.int (zI 0)) ∧ zMo G L f1 o ra 1 (w : Int) (h : Int) (z9 : Int) (k9 : Int) mn om R) ∨ (((1 ≤ g ∧ g ≤ 4) ∧ 1 ≤ t ∧ t ≤ 15) ∧ ¬ ((3 ≤ w ∧ w ≤ 6 ∧ mRd w (sP (R 0) (R 1))) ∧ (∀ j : Nat, j < w → R 0 (j : Int) ≤ 12 ∧ R 1 (j : Int) ≤ 12)) ∧ v = some (.int (zI 0)) ∧ zMo G L f1 o ra 1 0 (h : Int) (z9 : Int) (k9 : Int) mn om R) ∨ (((1 ≤ g ∧ g ≤ 4) ∧ 1 ≤ t ∧ t ≤ 15) ∧ ((3 ≤ w ∧ w ≤ 6 ∧ mRd w (sP (R 0) (R 1))) ∧ (∀ j : Nat, j < w → R 0 (j : Int) ≤ 12 ∧ R 1 (j : Int) ≤ 12)) ∧ (k9 = 6) ∧ v = some (.int (zI 0)) ∧ zMo G L f1 o ra 2 0 (h : Int) (z9 : Int) (k9 : Int) mn om R) ∨ (((1 ≤ g ∧ g ≤ 4) ∧ 1 ≤ t ∧ t ≤ 15) ∧ ((3 ≤ w ∧ w ≤ 6 ∧ mRd w (sP (R 0) (R 1))) ∧ (∀ j : Nat, j < w → R 0 (j : Int) ≤ 12 ∧ R 1 (j : Int) ≤ 12)) ∧ ¬ (k9 = 6) ∧ v = some (.int (zI (k9 : Int))) ∧ ∃ R1 : Nat → Int → Int, kAdd R R1 w k9 g t ∧ zMo G L f1 o ra 0 0 (h : Int) (z9 : Int) ((k9 : Int) + 1) mn om R1)) : sPost G L f1 o ra k r T1 V1 v := by
  have wb := hr.1.2.2.2.2
  have v1 : V 1 = (k9 : Int) := hr.2.2.2.1.1
  have k69 := hr.2.2.2.1.2.1
  have al := zRel_all hr
  rcases hC with ⟨c1, rfl, rfl, rfl⟩ | ⟨c1, T0, hE, c⟩
  · rcases hx with ⟨x1, x2, x3⟩ | ⟨x1, -⟩ | ⟨x1, -⟩ | ⟨x1, -⟩
    · exact ⟨0, w, h, z9, k9, mn, om, R, x2, x3, fun q => absurd q (by omega), by omega, hr⟩
    · exact absurd x1 c1
    · exact absurd x1 c1
    · exact absurd x1 c1
  · have ei := end_is hr.1 hE
    have ze := zRel_end hr hE
    have ebx := cEnd_bx hE
    have key : cKok T0 ↔ ((3 ≤ w ∧ w ≤ 6 ∧ mRd w (sP (R 0) (R 1))) ∧ (∀ j : Nat, j < w → R 0 (j : Int) ≤ 12 ∧ R 1 (j : Int) ≤ 12)) := by
      unfold cKok cRd
      rw [ei.1] at ebx ⊢
      have pt : ∀ j : Nat, j < w → (T0 1).2.1 (j : Int) = R 0 (j : Int) ∧ (T0 1).2.2.1 (j : Int) = R 1 (j : Int) := fun j hj => ⟨congrArg Prod.fst (ei.2 j hj), congrArg Prod.snd (ei.2 j hj)⟩
      constructor
      · rintro ⟨⟨q1, q2, q3⟩, q4, q5⟩
        obtain ⟨ba, -⟩ := ebx (by omega)
        exact ⟨⟨q1, q2, (rd_iff q1 ei.2).mp q3⟩, fun j hj => by have := ba j hj; have := pt j hj; omega⟩
      · rintro ⟨⟨q1, q2, q3⟩, q4⟩
        obtain ⟨-, -, ⟨i2, a2, b2⟩, -, ⟨i4, a4, b4⟩⟩ := ebx (by omega)
        have p2 := pt i2 a2
        have p4 := pt i4 a4
        have s2 := q4 i2 a2
        have s4 := q4 i4 a4
        exact ⟨⟨q1, q2, (rd_iff q1 ei.2).mpr q3⟩, by omega, by omega⟩
    rcases hx with ⟨x1, -⟩ | ⟨x1, x2, x3, x4⟩ | ⟨x1, x2, x3, x4, x5⟩ | ⟨x1, x2, x3, x4, R1, hA, x5⟩
    · exact absurd c1 x1
    · rcases c with ⟨c2, rfl, rfl, rfl⟩ | ⟨c2, -⟩ | ⟨c2, -⟩
      · exact ⟨0, 0, h, z9, k9, mn, om, R, x3, x4, fun q => absurd q (by omega), by omega, ze⟩
      · exact absurd (key.mp c2) x2
      · exact absurd (key.mp c2) x2
    · rcases c with ⟨c2, -⟩ | ⟨c2, c3, rfl, rfl, rfl⟩ | ⟨c2, c3, -⟩
      · exact absurd (key.mpr x2) c2
      · exact ⟨0, 0, h, z9, k9, mn, om, R, x4, x5, fun q => absurd q (by omega), by omega, ze⟩
      · omega
    · rcases c with ⟨c2, -⟩ | ⟨c2, c3, -⟩ | ⟨c2, c3, rfl, rfl, z, c4, c5, c6, c6b, c7, c8, c9, c10⟩
      · exact absurd (key.mpr x2) c2
      · omega
      · have ez : z = k9 := by omega
        subst ez
        refine ⟨(z : Int), 0, h, z9, z + 1, mn, om, R1, x4, x5, fun _ => by omega, by omega, ?_⟩
        have rT0 := cEnd_rT al.1 hE c2.1.1 c2.2.1 c2.2.2
        obtain ⟨hw, hh, ho, hk, hp⟩ := ze
        have z5 := ho.2.1
        obtain ⟨a1, a2, a3, a3b, a4, a5⟩ := hA
        have e : ∀ q, q ≠ 8 → q ≠ 9 → q ≠ 10 → q ≠ 11 → q ≠ 12 → R1 q = R q := a1
        have ee : ∀ q, q < 8 ∨ 12 < q → R1 q = R q := fun q hq => e q (by omega) (by omega) (by omega) (by omega) (by omega)
        have r10 : ∀ y : Nat, y < z → R1 10 (y : Int) = R 10 (y : Int) := fun y hy => by rw [a2, iu_nat hy]
        have r11 : ∀ y : Nat, y < z → R1 11 (y : Int) = R 11 (y : Int) := fun y hy => by rw [a3, iu_nat hy]
        have r12 : ∀ y : Nat, y < z → R1 12 (y : Int) = R 12 (y : Int) := fun y hy => by rw [a3b, iu_nat hy]
        have n10 : R1 10 (z : Int) = (w : Int) := by rw [a2, iu_at]
        have n11 : R1 11 (z : Int) = g := by rw [a3, iu_at]
        have n12 : R1 12 (z : Int) = t := by rw [a3b, iu_at]
        have bnd : ∀ j : Nat, j < w → 0 ≤ R1 8 (6 * (z : Int) + (j : Int)) ∧ R1 8 (6 * (z : Int) + (j : Int)) ≤ 12 ∧ 0 ≤ R1 9 (6 * (z : Int) + (j : Int)) ∧ R1 9 (6 * (z : Int) + (j : Int)) ≤ 12 := fun j hj => by
          rw [(a4 j hj).1, (a4 j hj).2]
          have p := wb j (by omega)
          have q := x2.2 j hj
          omega
        have bq : ∀ (u j : Nat), j < w → -12 ≤ (kq R1 z u j).1 ∧ (kq R1 z u j).1 ≤ 12 ∧ -12 ≤ (kq R1 z u j).2 ∧ (kq R1 z u j).2 ≤ 12 := fun u j hj => by
          have := bnd j hj
          exact rot_bd u _ ⟨by dsimp only; omega, by dsimp only; omega, by dsimp only; omega, by dsimp only; omega⟩
        have n1 := ei.1
        have pt : ∀ j : Nat, j < w → (T0 1).2.1 (j : Int) = R1 8 (6 * (z : Int) + (j : Int)) ∧ (T0 1).2.2.1 (j : Int) = R1 9 (6 * (z : Int) + (j : Int)) := fun j hj => by
          rw [(a4 j hj).1, (a4 j hj).2]
          exact ⟨congrArg Prod.fst (ei.2 j hj), congrArg Prod.snd (ei.2 j hj)⟩
        rw [n1] at ebx
        obtain ⟨ba, ⟨i1, b1, d1⟩, -, ⟨i3, b3, d3⟩, -⟩ := ebx (by omega)
        have m1 : mlo (fun j : Nat => (kq R1 z 0 j).1) w = (T0 1).2.2.2.1 := mlo_lo (by omega) (fun j hj => by have := bq 0 j hj; omega) (fun j hj => by show _ ≤ R1 8 (6 * (z : Int) + (j : Int)); rw [← (pt j hj).1]; exact (ba j hj).1) ⟨i1, b1, by show R1 8 (6 * (z : Int) + (i1 : Int)) = _; rw [← (pt i1 b1).1]; exact d1⟩
        have m2 : mlo (fun j : Nat => (kq R1 z 0 j).2) w = (T0 1).2.2.2.2.2.1 := mlo_lo (by omega) (fun j hj => by have := bq 0 j hj; omega) (fun j hj => by show _ ≤ R1 9 (6 * (z : Int) + (j : Int)); rw [← (pt j hj).2]; exact (ba j hj).2.2.1) ⟨i3, b3, by show R1 9 (6 * (z : Int) + (i3 : Int)) = _; rw [← (pt i3 b3).2]; exact d3⟩
        have rep0 : zRep (T1 (8 + 4 * z)) w (kp R1 z 0 0 0 w) := rep_lw n1 x2.1.1 x2.1.2.1 ((rd_iff x2.1.1 ei.2).mpr x2.1.2.2) c9 (fun j hj => by
          have p := pt j hj
          refine Prod.ext ?_ ?_
          · show (T0 1).2.1 (j : Int) + -(T0 1).2.2.2.1 = R1 8 (6 * (z : Int) + (j : Int)) + (0 - mlo (fun j : Nat => (kq R1 z 0 j).1) w)
            rw [m1, p.1]; omega
          · show (T0 1).2.2.1 (j : Int) + -(T0 1).2.2.2.2.2.1 = R1 9 (6 * (z : Int) + (j : Int)) + (0 - mlo (fun j : Nat => (kq R1 z 0 j).2) w)
            rw [m2, p.2]; omega)
        have turns : ∀ u : Nat, u ≤ 3 → rT (T1 (8 + 4 * z + u)) ∧ zRep (T1 (8 + 4 * z + u)) w (kp R1 z u 0 0 w) := by
          intro u
          induction u with
          | zero => intro _; exact ⟨rT_lw rT0 c9, rep0⟩
          | succ u ih =>
            intro hu
            obtain ⟨i1, i2⟩ := ih (by omega)
            have tu := c10 u (by omega)
            exact ⟨rT_tu i1 tu, rep_tu i2 tu (kp_tu i2 (bq u))⟩
        refine ⟨wRel_cg (c8 0 (by omega)) (ee 0 (by omega)) (ee 1 (by omega)) hw, hRel_cg (c8 2 (by omega)) (ee 2 (by omega)) (ee 3 (by omega)) hh, oRel_cg (fun y _ => c8 _ (by omega)) (c7 0 (by omega) (by omega) (by omega)) (fun y _ => c7 _ (by omega) (by omega) (by omega)) (ee 4 (by omega)) (ee 5 (by omega)) (ee 6 (by omega)) (ee 7 (by omega)) ho, ⟨by omega, by omega, fun y hy => ?_, fun y hy => ?_⟩,
          pRel_cg (fun p _ => c8 _ (by omega)) (c7 2 (by omega) (by omega) (by omega)) (fun p _ => ⟨c7 _ (by omega) (by omega) (by omega), c7 _ (by omega) (by omega) (by omega), c7 _ (by omega) (by omega) (by omega), c7 _ (by omega) (by omega) (by omega), c7 _ (by omega) (by omega) (by omega)⟩) r10 (ee 13 (by omega)) (ee 14 (by omega)) (ee 15 (by omega)) (ee 16 (by omega)) (ee 17 (by omega)) (ee 18 (by omega)) (kRel_6 hk) (by omega) hp⟩
        · rcases Nat.lt_or_ge y z with q | q
          · have od := hk.2.2.1 y q
            rw [r10 y q, r11 y q, r12 y q]
            refine ⟨od.1, od.2.1, od.2.2.1, od.2.2.2.1, od.2.2.2.2.1, od.2.2.2.2.2.1, fun j hj => ?_⟩
            have b := a5 (6 * (y : Int) + (j : Int)) (by omega)
            rw [b.1, b.2]
            exact od.2.2.2.2.2.2 j hj
          · have ey : y = z := by omega
            subst ey
            rw [n10, n11, n12]
            exact ⟨by omega, by omega, by omega, by omega, by omega, by omega, fun j hj => bnd j (by omega)⟩
        · rcases Nat.lt_or_ge y z with q | q
          · have od := hk.2.2.2 y q
            have o6 := hk.2.2.1 y q
            refine ⟨?_, ?_, fun u hu => ?_⟩
            · rw [c7 _ (by omega) (by omega) (by omega), r11 y q]; exact od.1
            · rw [c7 _ (by omega) (by omega) (by omega), r12 y q]; exact od.2.1
            · rw [c8 _ (by omega), r10 y q]
              refine ⟨(od.2.2 u hu).1, zRep_cg (fun j hj => (kp_cg (fun i hi => ?_) j hj).symm) (od.2.2 u hu).2⟩
              exact a5 (6 * (y : Int) + (i : Int)) (by omega)
          · have ey : y = z := by omega
            subst ey
            rw [n10, n11, n12]
            exact ⟨c6, c6b, turns⟩
end ST
