-- MODEL: off zones, beside parts, fits
/-- the reference's zones are as they should be -/
def mZ (R : Nat → Int → Int) (z9 : Nat) : Prop := ∀ z : Nat, z < z9 → 3 ≤ R 6 (z : Int) ∧ R 6 (z : Int) ≤ 6 ∧ 1 ≤ R 7 (z : Int) ∧ R 7 (z : Int) ≤ 3 ∧
  ∀ j : Nat, (j : Int) < R 6 (z : Int) → 0 ≤ R 4 (6 * (z : Int) + (j : Int)) ∧ R 4 (6 * (z : Int) + (j : Int)) ≤ 30 ∧ 0 ≤ R 5 (6 * (z : Int) + (j : Int)) ∧ R 5 (6 * (z : Int) + (j : Int)) ≤ 30
theorem mZ_congr {R S : Nat → Int → Int} {z9 : Nat} (h4 : S 4 = R 4) (h5 : S 5 = R 5) (h6 : S 6 = R 6) (h7 : S 7 = R 7) (h : mZ R z9) : mZ S z9 := by unfold mZ at *; rw [h4, h5, h6, h7]; exact h
def fZ1 (R : Nat → Int → Int) (g : Int) (a : Nat) (P : Nat → Int × Int) (z : Nat) : Prop := R 7 (z : Int) < g → ¬ ge_ov a P (R 6 (z : Int)).toNat (fun j : Nat => (R 4 (6 * (z : Int) + (j : Int)), R 5 (6 * (z : Int) + (j : Int))))
def fZone (R : Nat → Int → Int) (z9 : Nat) (g : Int) (a : Nat) (P : Nat → Int × Int) : Prop := ∀ z : Nat, z < z9 → fZ1 R g a P z
def mP (R : Nat → Int → Int) : Prop := ∀ p : Nat, p < 12 → -1 ≤ R 13 (p : Int) ∧ R 13 (p : Int) ≤ 5 ∧ (0 ≤ R 13 (p : Int) → 3 ≤ R 10 (R 13 (p : Int)) ∧ R 10 (R 13 (p : Int)) ≤ 6 ∧
  ∀ j : Nat, (j : Int) < R 10 (R 13 (p : Int)) → -100 ≤ R 17 (6 * (p : Int) + (j : Int)) ∧ R 17 (6 * (p : Int) + (j : Int)) ≤ 100 ∧ -100 ≤ R 18 (6 * (p : Int) + (j : Int)) ∧ R 18 (6 * (p : Int) + (j : Int)) ≤ 100)
theorem mP_congr {R S : Nat → Int → Int} (h10 : S 10 = R 10) (h13 : S 13 = R 13) (h17 : S 17 = R 17) (h18 : S 18 = R 18) (h : mP R) : mP S := by unfold mP at *; rw [h10, h13, h17, h18]; exact h
def fP1 (R : Nat → Int → Int) (a : Nat) (P : Nat → Int × Int) (p : Nat) : Prop := 0 ≤ R 13 (p : Int) → ¬ ge_ov a P (R 10 (R 13 (p : Int))).toNat (fun j : Nat => (R 17 (6 * (p : Int) + (j : Int)), R 18 (6 * (p : Int) + (j : Int))))
def fPart (R : Nat → Int → Int) (a : Nat) (P : Nat → Int × Int) : Prop := ∀ p : Nat, p < 12 → fP1 R a P p
/-- the reference's rows are as they should be -/
def mI (R : Nat → Int → Int) (h z9 k9 : Nat) : Prop := h ≤ 12 ∧ (∀ j : Nat, j < h → 0 ≤ R 2 (j : Int) ∧ R 2 (j : Int) ≤ 30 ∧ 0 ≤ R 3 (j : Int) ∧ R 3 (j : Int) ≤ 30) ∧ z9 ≤ 5 ∧ mZ R z9 ∧ k9 ≤ 6 ∧
  (∀ k : Nat, k < k9 → 3 ≤ R 10 (k : Int) ∧ R 10 (k : Int) ≤ 6 ∧ 1 ≤ R 11 (k : Int) ∧ R 11 (k : Int) ≤ 4 ∧ 1 ≤ R 12 (k : Int) ∧ R 12 (k : Int) ≤ 15 ∧
    ∀ j : Nat, (j : Int) < R 10 (k : Int) → 0 ≤ R 8 (6 * (k : Int) + (j : Int)) ∧ R 8 (6 * (k : Int) + (j : Int)) ≤ 12 ∧ 0 ≤ R 9 (6 * (k : Int) + (j : Int)) ∧ R 9 (6 * (k : Int) + (j : Int)) ≤ 12) ∧ mP R
def fFit (R : Nat → Int → Int) (h z9 kd a t : Nat) (ax ay : Int) : Prop := (∃ x : Nat, R 12 (kd : Int) = (x : Int) ∧ x / 2 ^ t % 2 = 1) ∧ (∀ j : Nat, j < a → (kp R kd t ax ay a j).1 ≤ 30 ∧ (kp R kd t ax ay a j).2 ≤ 30) ∧
  fHide h (sP (R 2) (R 3)) a (kp R kd t ax ay a) ∧ fZone R z9 (R 11 (kd : Int)) a (kp R kd t ax ay a) ∧ fPart R a (kp R kd t ax ay a)
theorem ge_ov_iff {n m : Nat} {P P' Q : Nat → Int × Int} (hp : ∀ i, i < n → P i = P' i) : ge_ov n P m Q ↔ ge_ov n P' m Q := ⟨ge_ov_congr (fun i hi => (hp i hi).symm) (fun _ _ => rfl), ge_ov_congr hp (fun _ _ => rfl)⟩
theorem fHide_congr {h a : Nat} {V P P' : Nat → Int × Int} (ha : 3 ≤ a) (e : ∀ j, j < a → P j = P' j) : fHide h V a P ↔ fHide h V a P' := by
  unfold fHide
  rw [e 0 (by omega), e 1 (by omega), e 2 (by omega)]
  constructor
  · rintro ⟨x, y⟩; exact ⟨fun k hk q => x k hk ((ge_ov_iff e).mpr q), y⟩
  · rintro ⟨x, y⟩; exact ⟨fun k hk q => x k hk ((ge_ov_iff e).mp q), y⟩
theorem fZone_congr {R S : Nat → Int → Int} {z9 a : Nat} {g : Int} {P P' : Nat → Int × Int} (h4 : S 4 = R 4) (h5 : S 5 = R 5) (h6 : S 6 = R 6) (h7 : S 7 = R 7) (e : ∀ j, j < a → P j = P' j) : fZone S z9 g a P ↔ fZone R z9 g a P' := by
  unfold fZone fZ1
  rw [h4, h5, h6, h7]
  constructor
  · intro x z hz hg q; exact x z hz hg ((ge_ov_iff e).mpr q)
  · intro x z hz hg q; exact x z hz hg ((ge_ov_iff e).mp q)
theorem fPart_congr {R S : Nat → Int → Int} {a : Nat} {P P' : Nat → Int × Int} (h10 : S 10 = R 10) (h13 : S 13 = R 13) (h17 : S 17 = R 17) (h18 : S 18 = R 18) (e : ∀ j, j < a → P j = P' j) : fPart S a P ↔ fPart R a P' := by
  unfold fPart fP1
  rw [h10, h13, h17, h18]
  constructor
  · intro x z hz hg q; exact x z hz hg ((ge_ov_iff e).mpr q)
  · intro x z hz hg q; exact x z hz hg ((ge_ov_iff e).mp q)
theorem bit_lem {r : Int} {x t : Nat} (hr : r = (x : Int)) (hx : x < 2147483648) (ht : t ≤ 3) : (zI r >>> (zI (t : Int) &&& 31)) &&& zI 1 = zI ((x / 2 ^ t % 2 : Nat) : Int) := by
  subst hr
  have hs : ((zI (t : Int) &&& 31).toBitVec.smod 32).toNat = t := by
    rcases (show t = 0 ∨ t = 1 ∨ t = 2 ∨ t = 3 by omega) with rfl | rfl | rfl | rfl <;> decide
  rw [zI_nat, zI_nat, pk_shrN (by omega) _ t (by rw [← zI_nat]; exact hs)]
  have hd : x / 2 ^ t ≤ x := Nat.div_le_self _ _
  exact pk_andN (m := zI 1) (by omega) 1 (by decide)
theorem mlo_le {v : Nat → Int} : ∀ {k j : Nat}, j < k → mlo v k ≤ v j
  | 0, _, h => by omega
  | k + 1, j, h => by
    by_cases c : v k < mlo v k
    · rw [mlo_t c]
      rcases Nat.lt_or_ge j k with q | q
      · have := mlo_le (v := v) q; omega
      · rw [show j = k by omega]; exact Int.le_refl _
    · rw [mlo_f c]
      rcases Nat.lt_or_ge j k with q | q
      · exact mlo_le q
      · rw [show j = k by omega]; omega
theorem mlo_at {v : Nat → Int} : ∀ {k : Nat}, 0 < k → (∀ j, j < k → v j < 100) → ∃ j, j < k ∧ mlo v k = v j
  | 0, h, _ => by omega
  | k + 1, _, hv => by
    by_cases c : v k < mlo v k
    · exact ⟨k, by omega, mlo_t c⟩
    · rcases Nat.eq_zero_or_pos k with q | q
      · subst q
        have := hv 0 (by omega)
        exact absurd this c
      · obtain ⟨j, a, b⟩ := mlo_at (v := v) q (fun j hj => hv j (by omega))
        exact ⟨j, by omega, by rw [mlo_f c]; exact b⟩
theorem kp_bd {R : Nat → Int → Int} {kd a t : Nat} (hq : kOk R kd a) (ha : 3 ≤ a) (ht : t ≤ 3) {ax ay : Int} (hx : 0 ≤ ax ∧ ax ≤ 30) (hy : 0 ≤ ay ∧ ay ≤ 30) : ∀ j, j < a → 0 ≤ (kp R kd t ax ay a j).1 ∧ (kp R kd t ax ay a j).1 ≤ 60 ∧ 0 ≤ (kp R kd t ax ay a j).2 ∧ (kp R kd t ax ay a j).2 ≤ 60 := by
  have bq : ∀ j : Nat, j < a → -12 ≤ (kq R kd t j).1 ∧ (kq R kd t j).1 ≤ 12 ∧ -12 ≤ (kq R kd t j).2 ∧ (kq R kd t j).2 ≤ 12 := fun j hj => by
    have := hq j hj
    exact rot_bd t _ (by dsimp only; omega)
  intro j hj
  have b := bq j hj
  have l1 := mlo_le (v := fun j : Nat => (kq R kd t j).1) hj
  have l2 := mlo_le (v := fun j : Nat => (kq R kd t j).2) hj
  obtain ⟨j1, a1, e1⟩ := mlo_at (v := fun j : Nat => (kq R kd t j).1) (show 0 < a by omega) (fun j hj => by have := bq j hj; omega)
  obtain ⟨j2, a2, e2⟩ := mlo_at (v := fun j : Nat => (kq R kd t j).2) (show 0 < a by omega) (fun j hj => by have := bq j hj; omega)
  have b1 := bq j1 a1
  have b2 := bq j2 a2
  unfold kp
  try dsimp only at *
  omega
set_option maxRecDepth 100000 in
set_option maxHeartbeats 4000000 in
theorem m_M_isOffZones (l : Launch) (D : va_G) (G : Nat → ClassId) {L : List Nat} {f : Nat → va_E} {o : Nat} {ra : Nat → Nat} {cd wt hc kn om : Int} {z9 a : Nat} {R : Nat → Int → Int} (hM : zMo G L f o ra cd wt hc (z9 : Int) kn (a : Int) om R) (hz9 : z9 ≤ 5) (hZ : mZ R z9) (g : Int) (hg : 1 ≤ g ∧ g ≤ 4) (hA : sB a (R 19) (R 20)) (ha : 3 ≤ a) (ha6 : a ≤ 6) : zM l D G y_M_isOffZones (.code y_M_isOffZones c_M_isOffZones 4 (some .boolean) :: BG) (zR0 2 50) [.ref o, .int (zI g)] L f (fun v L1 f1 => L = L1 ∧ mFr f f1 o ra ∧ ∃ (R1 : Nat → Int → Int) (om1 r : Int), (∀ k : Nat, k ≠ 21 → k ≠ 22 → R1 k = R k) ∧ zMo G L f1 o ra cd wt hc (z9 : Int) kn (a : Int) om1 R1 ∧ v = some (.int (zI r)) ∧ zB (fZone R z9 g a (sP (R 19) (R 20))) r) := by
  refine zM.of (by decide) (Nat.le_of_ble_eq_true rfl) rfl (fun p e s m args below meth c A Xc hr hnm => ?_)
  have loop : ∀ (d i : Nat) (g1 : Nat → va_E) (R1 : Nat → Int → Int) (om1 : Int), z9 < i + d → i ≤ z9 → zMo G L g1 o ra cd wt hc (z9 : Int) kn (a : Int) om1 R1 → mFr f g1 o ra → (∀ k : Nat, k ≠ 21 → k ≠ 22 → R1 k = R k) → (∀ k : Nat, k < i → fZ1 R g a (sP (R 19) (R 20)) k) → zG p l e (zR0 2 50) s m args below meth c D A 4 0 0 (MQ below (zE D A (fun v L1 f1 => L = L1 ∧ mFr f f1 o ra ∧ ∃ (R1 : Nat → Int → Int) (om1 r : Int), (∀ k : Nat, k ≠ 21 → k ≠ 22 → R1 k = R k) ∧ zMo G L f1 o ra cd wt hc (z9 : Int) kn (a : Int) om1 R1 ∧ v = some (.int (zI r)) ∧ zB (fZone R z9 g a (sP (R 19) (R 20))) r)) args s (zR0 2 50).cells (zR0 2 50).slots A) 2 [(0, .ref o), (1, .int (zI g)), (2, .int (zI (i : Int)))] [] L g1 := by
    intro d
    induction d with
    | zero => intro i g1 R1 om1 h1 h2; omega
    | succ d ih =>
      intro i g1 R1 om1 h1 h2 hG hF hK hJ
      have inner : ∀ (c2 : Nat), i < z9 → R 7 (i : Int) < g ∧ R 6 (i : Int) = (c2 : Int) → (∀ j : Nat, j < c2 → -100 ≤ R 4 (6 * (i : Int) + (j : Int)) ∧ R 4 (6 * (i : Int) + (j : Int)) ≤ 100 ∧ -100 ≤ R 5 (6 * (i : Int) + (j : Int)) ∧ R 5 (6 * (i : Int) + (j : Int)) ≤ 100) → 3 ≤ c2 → c2 ≤ 6 → ∀ (d2 k : Nat) (g2 : Nat → va_E) (R2 : Nat → Int → Int), c2 < k + d2 → k ≤ c2 → zMo G L g2 o ra cd wt hc (z9 : Int) kn (a : Int) (c2 : Int) R2 → mFr f g2 o ra → (∀ k : Nat, k ≠ 21 → k ≠ 22 → R2 k = R k) → (∀ j : Nat, j < k → R2 21 (j : Int) = R 4 (6 * (i : Int) + (j : Int)) ∧ R2 22 (j : Int) = R 5 (6 * (i : Int) + (j : Int))) → zG p l e (zR0 2 50) s m args below meth c D A 4 0 0 (MQ below (zE D A (fun v L1 f1 => L = L1 ∧ mFr f f1 o ra ∧ ∃ (R1 : Nat → Int → Int) (om1 r : Int), (∀ k : Nat, k ≠ 21 → k ≠ 22 → R1 k = R k) ∧ zMo G L f1 o ra cd wt hc (z9 : Int) kn (a : Int) om1 R1 ∧ v = some (.int (zI r)) ∧ zB (fZone R z9 g a (sP (R 19) (R 20))) r)) args s (zR0 2 50).cells (zR0 2 50).slots A) 32 [(0, .ref o), (1, .int (zI g)), (2, .int (zI (i : Int))), (3, .int (zI (k : Int)))] [] L g2 := by
        intro c2 hi hc hb h3 h6 d2
        induction d2 with
        | zero => intro k g2 R2 q1 q2; omega
        | succ d2 ih2 =>
          intro k g2 R2 q1 q2 hG2 hF2 hK2 hJ2
          refine k_iload_n Xc d_M_isOffZones_32 rfl rfl (n := 33) rfl ?_
          refine k_aload_n Xc d_M_isOffZones_33 rfl rfl (n := 34) rfl ?_
          refine k_get Xc u_M rfl 27 (by decide) wd_577 rfl d_M_isOffZones_34 (n := 37) rfl hG2.1 hG2.2.2.1 rfl ?_
          refine k_icmp_ge Xc d_M_isOffZones_37 (t := 80) (n := 40) rfl rfl (by omega) (by omega) (fun h_37 => ?_) (fun h_37 => ?_)
          · refine k_aload_n Xc d_M_isOffZones_80 rfl rfl (n := 81) rfl ?_
            have ek : k = c2 := by omega
            subst ek
            have hA2 : sB a (R2 19) (R2 20) := by rw [hK2 19 (by decide) (by decide), hK2 20 (by decide) (by decide)]; exact hA
            have hB2 : sB k (R2 21) (R2 22) := ⟨by omega, fun j hj => by rw [(hJ2 j hj).1, (hJ2 j hj).2]; exact hb j hj⟩
            have cg : ge_ov a (sP (R2 19) (R2 20)) k (sP (R2 21) (R2 22)) ↔ ge_ov a (sP (R 19) (R 20)) k (fun j : Nat => (R 4 (6 * (i : Int) + (j : Int)), R 5 (6 * (i : Int) + (j : Int)))) := by
              have z1 : ∀ j, j < a → sP (R2 19) (R2 20) j = (sP (R 19) (R 20)) j := fun j _ => by rw [hK2 19 (by decide) (by decide), hK2 20 (by decide) (by decide)]
              have z2 : ∀ j, j < k → sP (R2 21) (R2 22) j = (fun j : Nat => (R 4 (6 * (i : Int) + (j : Int)), R 5 (6 * (i : Int) + (j : Int)))) j := fun j hj => by
                show (R2 21 (j : Int), R2 22 (j : Int)) = _
                rw [(hJ2 j hj).1, (hJ2 j hj).2]
              exact ⟨ge_ov_congr (fun j hj => (z1 j hj).symm) (fun j hj => (z2 j hj).symm), ge_ov_congr z1 z2⟩
            have tn : ((k : Int)).toNat = k := Int.toNat_natCast k
            refine k_qV (na := 0) Xc (m_M_overlaps l D G hG2 hA2 hB2 (by omega) ha6 (by omega)) hG2.1 hG2.2.2.1 rfl wd_723 wd_720 wd_722 ws_21 wd_6 (by decide +kernel) ⟨by decide, by decide⟩ rfl rfl (Nat.le_of_ble_eq_true rfl) d_M_isOffZones_81 (n := 84) rfl ⟨Nat.zero_le _, Nat.zero_le _⟩ (fun r_81 e_81 => ?_)
            rcases e_81 with ⟨e_81, rfl⟩ | ⟨e_81, rfl⟩
            · refine k_if_eq Xc d_M_isOffZones_84 (t := 89) (n := 87) rfl rfl (by omega) (fun h_84 => absurd h_84 (by omega)) (fun _ => ?_)
              refine k_iconst Xc d_M_isOffZones_87 (n := 88) rfl ?_
              refine k_iret Xc d_M_isOffZones_88 hr rfl (Nat.le_refl _) (Nat.le_refl _) ?_
              exact ⟨rfl, hF2, R2, _, 0, hK2, hG2, rfl, Or.inr ⟨fun q => by
                have z := q i hi hc.1
                rw [hc.2, tn] at z
                exact z (cg.mp e_81), rfl⟩⟩
            · refine k_if_eq Xc d_M_isOffZones_84 (t := 89) (n := 87) rfl rfl (by omega) (fun _ => ?_) (fun h_84 => absurd h_84 (by omega))
              refine k_iinc Xc d_M_isOffZones_89 rfl (by decide) (n := 92) rfl ?_
              refine k_goto Xc d_M_isOffZones_92 (t := 2) rfl ?_
              exact k_loc (ih (i + 1) _ _ _ (by omega) (by omega) hG2 hF2 hK2 (fun q z => by
                rcases Nat.lt_or_ge q i with q1 | q1
                · exact hJ q q1
                · have eq : q = i := by omega
                  subst eq
                  intro y
                  rw [hc.2, tn]
                  exact fun z => e_81 (cg.mpr z))) rfl
          · refine k_aload_n Xc d_M_isOffZones_40 rfl rfl (n := 41) rfl ?_
            refine k_get Xc u_M rfl 28 (by decide) wd_578 rfl d_M_isOffZones_41 (n := 44) rfl hG2.1 hG2.2.2.1 rfl ?_
            refine k_iload_n Xc d_M_isOffZones_44 rfl rfl (n := 45) rfl ?_
            refine k_aload_n Xc d_M_isOffZones_45 rfl rfl (n := 46) rfl ?_
            refine k_get Xc u_M rfl 8 (by decide) wd_558 rfl d_M_isOffZones_46 (n := 49) rfl hG2.1 hG2.2.2.1 rfl ?_
            refine k_bipush Xc d_M_isOffZones_49 rfl (n := 51) rfl ?_
            refine k_iload_n Xc d_M_isOffZones_51 rfl rfl (n := 52) rfl ?_
            refine k_imul Xc d_M_isOffZones_52 (n := 53) rfl ?_
            refine k_iload_n Xc d_M_isOffZones_53 rfl rfl (n := 54) rfl ?_
            refine k_iadd Xc d_M_isOffZones_54 (n := 55) rfl ?_
            refine k_iald Xc d_M_isOffZones_55 (n := 56) rfl (hG2.2.1 4 (by decide)) (mr_4 hG2) (by omega) (by omega) (by decide) ?_
            refine k_iastN Xc hG2 21 (by decide) d_M_isOffZones_56 (n := 57) rfl (by omega) (by show _ < ((12 : Nat) : Int); omega) (fun f_56 R_56 hr_56 hk_56 hM_56 hF_56 => ?_)
            refine k_aload_n Xc d_M_isOffZones_57 rfl rfl (n := 58) rfl ?_
            refine k_get Xc u_M rfl 29 (by decide) wd_579 rfl d_M_isOffZones_58 (n := 61) rfl hM_56.1 hM_56.2.2.1 rfl ?_
            refine k_iload_n Xc d_M_isOffZones_61 rfl rfl (n := 62) rfl ?_
            refine k_aload_n Xc d_M_isOffZones_62 rfl rfl (n := 63) rfl ?_
            refine k_get Xc u_M rfl 9 (by decide) wd_559 rfl d_M_isOffZones_63 (n := 66) rfl hM_56.1 hM_56.2.2.1 rfl ?_
            refine k_bipush Xc d_M_isOffZones_66 rfl (n := 68) rfl ?_
            refine k_iload_n Xc d_M_isOffZones_68 rfl rfl (n := 69) rfl ?_
            refine k_imul Xc d_M_isOffZones_69 (n := 70) rfl ?_
            refine k_iload_n Xc d_M_isOffZones_70 rfl rfl (n := 71) rfl ?_
            refine k_iadd Xc d_M_isOffZones_71 (n := 72) rfl ?_
            refine k_iald Xc d_M_isOffZones_72 (n := 73) rfl (hM_56.2.1 5 (by decide)) (mr_5 hM_56) (by omega) (by omega) (by decide) ?_
            refine k_iastN Xc hM_56 22 (by decide) d_M_isOffZones_73 (n := 74) rfl (by omega) (by show _ < ((12 : Nat) : Int); omega) (fun f_73 R_73 hr_73 hk_73 hM_73 hF_73 => ?_)
            refine k_iinc Xc d_M_isOffZones_74 rfl (by decide) (n := 77) rfl ?_
            refine k_goto Xc d_M_isOffZones_77 (t := 32) rfl ?_
            exact k_loc (ih2 (k + 1) _ _ (by omega) (by omega) hM_73 (mFr_tr (mFr_tr hF2 hF_56) hF_73) (fun q z1 z2 => by rw [hk_73 q z2, hk_56 q z1]; exact hK2 q z1 z2) (fun j hj => by
              rw [hr_73, hk_73 21 (by decide), hr_56, hk_56 22 (by decide)]
              rcases Nat.lt_or_ge j k with q | q
              · rw [iu_nat q, iu_nat q]; exact hJ2 j q
              · have ej : j = k := by omega
                subst ej
                rw [iu_at, iu_at, hk_56 5 (by decide), hK2 4 (by decide) (by decide), hK2 5 (by decide) (by decide)]; exact ⟨rfl, rfl⟩)) rfl
      refine k_iload_n Xc d_M_isOffZones_2 rfl rfl (n := 3) rfl ?_
      refine k_aload_n Xc d_M_isOffZones_3 rfl rfl (n := 4) rfl ?_
      refine k_get Xc u_M rfl 7 (by decide) wd_557 rfl d_M_isOffZones_4 (n := 7) rfl hG.1 hG.2.2.1 rfl ?_
      refine k_icmp_ge Xc d_M_isOffZones_7 (t := 95) (n := 10) rfl rfl (by omega) (by omega) (fun h_7 => ?_) (fun h_7 => ?_)
      · refine k_iconst Xc d_M_isOffZones_95 (n := 96) rfl ?_
        refine k_iret Xc d_M_isOffZones_96 hr rfl (Nat.le_refl _) (Nat.le_refl _) ?_
        exact ⟨rfl, hF, R1, _, 1, hK, hG, rfl, Or.inl ⟨fun q z => hJ q (by omega), rfl⟩⟩
      · refine k_aload_n Xc d_M_isOffZones_10 rfl rfl (n := 11) rfl ?_
        refine k_get Xc u_M rfl 11 (by decide) wd_561 rfl d_M_isOffZones_11 (n := 14) rfl hG.1 hG.2.2.1 rfl ?_
        refine k_iload_n Xc d_M_isOffZones_14 rfl rfl (n := 15) rfl ?_
        have zi := hZ i (by omega)
        have k7 : R1 7 (i : Int) = R 7 (i : Int) := congrFun (hK 7 (by decide) (by decide)) _
        refine k_iald Xc d_M_isOffZones_15 (n := 16) rfl (hG.2.1 7 (by decide)) (mr_7 hG) (by omega) (by omega) (by decide) ?_
        refine k_iload_n Xc d_M_isOffZones_16 rfl rfl (n := 17) rfl ?_
        refine k_icmp_ge Xc d_M_isOffZones_17 (t := 89) (n := 20) rfl rfl (by omega) (by omega) (fun h_17 => ?_) (fun h_17 => ?_)
        · refine k_iinc Xc d_M_isOffZones_89 rfl (by decide) (n := 92) rfl ?_
          refine k_goto Xc d_M_isOffZones_92 (t := 2) rfl ?_
          exact k_loc (ih (i + 1) _ _ _ (by omega) (by omega) hG hF hK (fun q z => by
            rcases Nat.lt_or_ge q i with q1 | q1
            · exact hJ q q1
            · have eq : q = i := by omega
              subst eq
              intro y
              omega)) rfl
        · refine k_aload_n Xc d_M_isOffZones_20 rfl rfl (n := 21) rfl ?_
          refine k_aload_n Xc d_M_isOffZones_21 rfl rfl (n := 22) rfl ?_
          refine k_get Xc u_M rfl 10 (by decide) wd_560 rfl d_M_isOffZones_22 (n := 25) rfl hG.1 hG.2.2.1 rfl ?_
          refine k_iload_n Xc d_M_isOffZones_25 rfl rfl (n := 26) rfl ?_
          refine k_iald Xc d_M_isOffZones_26 (n := 27) rfl (hG.2.1 6 (by decide)) (mr_6 hG) (by omega) (by omega) (by decide) ?_
          obtain ⟨c2, hc2⟩ : ∃ c2 : Nat, R 6 (i : Int) = (c2 : Int) := ⟨(R 6 (i : Int)).toNat, by omega⟩
          refine k_val ((congrFun (hK 6 (by decide) (by decide)) _).trans hc2) ?_
          refine k_putM_otherMany Xc hG wd_577 d_M_isOffZones_27 (n := 30) rfl (fun f_27 hM_27 hF_27 => ?_)
          refine k_iconst Xc d_M_isOffZones_30 (n := 31) rfl ?_
          refine k_istore_n Xc d_M_isOffZones_31 rfl (by decide) (n := 32) rfl ?_
          exact k_loc (inner c2 (by omega) ⟨by omega, hc2⟩ (fun j hj => by have := zi.2.2.2.2 j (by omega); omega) (by omega) (by omega) (c2 + 1) 0 _ R1 (by omega) (by omega) hM_27 (mFr_tr hF hF_27) hK (fun j q => absurd q (by omega))) rfl
  refine k_iconst Xc d_M_isOffZones_0 (n := 1) rfl ?_
  refine k_istore_n Xc d_M_isOffZones_1 rfl (by decide) (n := 2) rfl ?_
  exact k_loc (loop (z9 + 1) 0 _ R _ (by omega) (by omega) hM mFr_rf (fun k _ _ => rfl) (fun k q => absurd q (by omega))) rfl
set_option maxRecDepth 100000 in
set_option maxHeartbeats 4000000 in
theorem m_M_isBesideParts (l : Launch) (D : va_G) (G : Nat → ClassId) {L : List Nat} {f : Nat → va_E} {o : Nat} {ra : Nat → Nat} {cd wt hc zn kn om : Int} {a : Nat} {R : Nat → Int → Int} (hM : zMo G L f o ra cd wt hc zn kn (a : Int) om R) (hP : mP R) (hA : sB a (R 19) (R 20)) (ha : 3 ≤ a) (ha6 : a ≤ 6) : zM l D G y_M_isBesideParts (.code y_M_isBesideParts c_M_isBesideParts 3 (some .boolean) :: BG) (zR0 2 50) [.ref o] L f (fun v L1 f1 => L = L1 ∧ mFr f f1 o ra ∧ ∃ (R1 : Nat → Int → Int) (om1 r : Int), (∀ k : Nat, k ≠ 21 → k ≠ 22 → R1 k = R k) ∧ zMo G L f1 o ra cd wt hc zn kn (a : Int) om1 R1 ∧ v = some (.int (zI r)) ∧ zB (fPart R a (sP (R 19) (R 20))) r) := by
  refine zM.of (by decide) (Nat.le_of_ble_eq_true rfl) rfl (fun p e s m args below meth c A Xc hr hnm => ?_)
  have loop : ∀ (d i : Nat) (g1 : Nat → va_E) (R1 : Nat → Int → Int) (om1 : Int), 12 < i + d → i ≤ 12 → zMo G L g1 o ra cd wt hc zn kn (a : Int) om1 R1 → mFr f g1 o ra → (∀ k : Nat, k ≠ 21 → k ≠ 22 → R1 k = R k) → (∀ k : Nat, k < i → fP1 R a (sP (R 19) (R 20)) k) → zG p l e (zR0 2 50) s m args below meth c D A 3 0 0 (MQ below (zE D A (fun v L1 f1 => L = L1 ∧ mFr f f1 o ra ∧ ∃ (R1 : Nat → Int → Int) (om1 r : Int), (∀ k : Nat, k ≠ 21 → k ≠ 22 → R1 k = R k) ∧ zMo G L f1 o ra cd wt hc zn kn (a : Int) om1 R1 ∧ v = some (.int (zI r)) ∧ zB (fPart R a (sP (R 19) (R 20))) r)) args s (zR0 2 50).cells (zR0 2 50).slots A) 2 [(0, .ref o), (1, .int (zI (i : Int)))] [] L g1 := by
    intro d
    induction d with
    | zero => intro i g1 R1 om1 h1 h2; omega
    | succ d ih =>
      intro i g1 R1 om1 h1 h2 hG hF hK hJ
      have inner : ∀ (c2 : Nat), i < 12 → 0 ≤ R 13 (i : Int) ∧ R 10 (R 13 (i : Int)) = (c2 : Int) → (∀ j : Nat, j < c2 → -100 ≤ R 17 (6 * (i : Int) + (j : Int)) ∧ R 17 (6 * (i : Int) + (j : Int)) ≤ 100 ∧ -100 ≤ R 18 (6 * (i : Int) + (j : Int)) ∧ R 18 (6 * (i : Int) + (j : Int)) ≤ 100) → 3 ≤ c2 → c2 ≤ 6 → ∀ (d2 k : Nat) (g2 : Nat → va_E) (R2 : Nat → Int → Int), c2 < k + d2 → k ≤ c2 → zMo G L g2 o ra cd wt hc zn kn (a : Int) (c2 : Int) R2 → mFr f g2 o ra → (∀ k : Nat, k ≠ 21 → k ≠ 22 → R2 k = R k) → (∀ j : Nat, j < k → R2 21 (j : Int) = R 17 (6 * (i : Int) + (j : Int)) ∧ R2 22 (j : Int) = R 18 (6 * (i : Int) + (j : Int))) → zG p l e (zR0 2 50) s m args below meth c D A 3 0 0 (MQ below (zE D A (fun v L1 f1 => L = L1 ∧ mFr f f1 o ra ∧ ∃ (R1 : Nat → Int → Int) (om1 r : Int), (∀ k : Nat, k ≠ 21 → k ≠ 22 → R1 k = R k) ∧ zMo G L f1 o ra cd wt hc zn kn (a : Int) om1 R1 ∧ v = some (.int (zI r)) ∧ zB (fPart R a (sP (R 19) (R 20))) r)) args s (zR0 2 50).cells (zR0 2 50).slots A) 34 [(0, .ref o), (1, .int (zI (i : Int))), (2, .int (zI (k : Int)))] [] L g2 := by
        intro c2 hi hc hb h3 h6 d2
        induction d2 with
        | zero => intro k g2 R2 q1 q2; omega
        | succ d2 ih2 =>
          intro k g2 R2 q1 q2 hG2 hF2 hK2 hJ2
          refine k_iload_n Xc d_M_isBesideParts_34 rfl rfl (n := 35) rfl ?_
          refine k_aload_n Xc d_M_isBesideParts_35 rfl rfl (n := 36) rfl ?_
          refine k_get Xc u_M rfl 27 (by decide) wd_577 rfl d_M_isBesideParts_36 (n := 39) rfl hG2.1 hG2.2.2.1 rfl ?_
          refine k_icmp_ge Xc d_M_isBesideParts_39 (t := 82) (n := 42) rfl rfl (by omega) (by omega) (fun h_39 => ?_) (fun h_39 => ?_)
          · refine k_aload_n Xc d_M_isBesideParts_82 rfl rfl (n := 83) rfl ?_
            have ek : k = c2 := by omega
            subst ek
            have hA2 : sB a (R2 19) (R2 20) := by rw [hK2 19 (by decide) (by decide), hK2 20 (by decide) (by decide)]; exact hA
            have hB2 : sB k (R2 21) (R2 22) := ⟨by omega, fun j hj => by rw [(hJ2 j hj).1, (hJ2 j hj).2]; exact hb j hj⟩
            have cg : ge_ov a (sP (R2 19) (R2 20)) k (sP (R2 21) (R2 22)) ↔ ge_ov a (sP (R 19) (R 20)) k (fun j : Nat => (R 17 (6 * (i : Int) + (j : Int)), R 18 (6 * (i : Int) + (j : Int)))) := by
              have z1 : ∀ j, j < a → sP (R2 19) (R2 20) j = (sP (R 19) (R 20)) j := fun j _ => by rw [hK2 19 (by decide) (by decide), hK2 20 (by decide) (by decide)]
              have z2 : ∀ j, j < k → sP (R2 21) (R2 22) j = (fun j : Nat => (R 17 (6 * (i : Int) + (j : Int)), R 18 (6 * (i : Int) + (j : Int)))) j := fun j hj => by
                show (R2 21 (j : Int), R2 22 (j : Int)) = _
                rw [(hJ2 j hj).1, (hJ2 j hj).2]
              exact ⟨ge_ov_congr (fun j hj => (z1 j hj).symm) (fun j hj => (z2 j hj).symm), ge_ov_congr z1 z2⟩
            have tn : ((k : Int)).toNat = k := Int.toNat_natCast k
            refine k_qV (na := 0) Xc (m_M_overlaps l D G hG2 hA2 hB2 (by omega) ha6 (by omega)) hG2.1 hG2.2.2.1 rfl wd_723 wd_720 wd_722 ws_21 wd_6 (by decide +kernel) ⟨by decide, by decide⟩ rfl rfl (Nat.le_of_ble_eq_true rfl) d_M_isBesideParts_83 (n := 86) rfl ⟨Nat.zero_le _, Nat.zero_le _⟩ (fun r_83 e_83 => ?_)
            rcases e_83 with ⟨e_83, rfl⟩ | ⟨e_83, rfl⟩
            · refine k_if_eq Xc d_M_isBesideParts_86 (t := 91) (n := 89) rfl rfl (by omega) (fun h_86 => absurd h_86 (by omega)) (fun _ => ?_)
              refine k_iconst Xc d_M_isBesideParts_89 (n := 90) rfl ?_
              refine k_iret Xc d_M_isBesideParts_90 hr rfl (Nat.le_refl _) (Nat.le_refl _) ?_
              exact ⟨rfl, hF2, R2, _, 0, hK2, hG2, rfl, Or.inr ⟨fun q => by
                have z := q i hi hc.1
                rw [hc.2, tn] at z
                exact z (cg.mp e_83), rfl⟩⟩
            · refine k_if_eq Xc d_M_isBesideParts_86 (t := 91) (n := 89) rfl rfl (by omega) (fun _ => ?_) (fun h_86 => absurd h_86 (by omega))
              refine k_iinc Xc d_M_isBesideParts_91 rfl (by decide) (n := 94) rfl ?_
              refine k_goto Xc d_M_isBesideParts_94 (t := 2) rfl ?_
              exact k_loc (ih (i + 1) _ _ _ (by omega) (by omega) hG2 hF2 hK2 (fun q z => by
                rcases Nat.lt_or_ge q i with q1 | q1
                · exact hJ q q1
                · have eq : q = i := by omega
                  subst eq
                  intro y
                  rw [hc.2, tn]
                  exact fun z => e_83 (cg.mpr z))) rfl
          · refine k_aload_n Xc d_M_isBesideParts_42 rfl rfl (n := 43) rfl ?_
            refine k_get Xc u_M rfl 28 (by decide) wd_578 rfl d_M_isBesideParts_43 (n := 46) rfl hG2.1 hG2.2.2.1 rfl ?_
            refine k_iload_n Xc d_M_isBesideParts_46 rfl rfl (n := 47) rfl ?_
            refine k_aload_n Xc d_M_isBesideParts_47 rfl rfl (n := 48) rfl ?_
            refine k_get Xc u_M rfl 22 (by decide) wd_572 rfl d_M_isBesideParts_48 (n := 51) rfl hG2.1 hG2.2.2.1 rfl ?_
            refine k_bipush Xc d_M_isBesideParts_51 rfl (n := 53) rfl ?_
            refine k_iload_n Xc d_M_isBesideParts_53 rfl rfl (n := 54) rfl ?_
            refine k_imul Xc d_M_isBesideParts_54 (n := 55) rfl ?_
            refine k_iload_n Xc d_M_isBesideParts_55 rfl rfl (n := 56) rfl ?_
            refine k_iadd Xc d_M_isBesideParts_56 (n := 57) rfl ?_
            refine k_iald Xc d_M_isBesideParts_57 (n := 58) rfl (hG2.2.1 17 (by decide)) (mr_17 hG2) (by omega) (by omega) (by decide) ?_
            refine k_iastN Xc hG2 21 (by decide) d_M_isBesideParts_58 (n := 59) rfl (by omega) (by show _ < ((12 : Nat) : Int); omega) (fun f_58 R_58 hr_58 hk_58 hM_58 hF_58 => ?_)
            refine k_aload_n Xc d_M_isBesideParts_59 rfl rfl (n := 60) rfl ?_
            refine k_get Xc u_M rfl 29 (by decide) wd_579 rfl d_M_isBesideParts_60 (n := 63) rfl hM_58.1 hM_58.2.2.1 rfl ?_
            refine k_iload_n Xc d_M_isBesideParts_63 rfl rfl (n := 64) rfl ?_
            refine k_aload_n Xc d_M_isBesideParts_64 rfl rfl (n := 65) rfl ?_
            refine k_get Xc u_M rfl 23 (by decide) wd_573 rfl d_M_isBesideParts_65 (n := 68) rfl hM_58.1 hM_58.2.2.1 rfl ?_
            refine k_bipush Xc d_M_isBesideParts_68 rfl (n := 70) rfl ?_
            refine k_iload_n Xc d_M_isBesideParts_70 rfl rfl (n := 71) rfl ?_
            refine k_imul Xc d_M_isBesideParts_71 (n := 72) rfl ?_
            refine k_iload_n Xc d_M_isBesideParts_72 rfl rfl (n := 73) rfl ?_
            refine k_iadd Xc d_M_isBesideParts_73 (n := 74) rfl ?_
            refine k_iald Xc d_M_isBesideParts_74 (n := 75) rfl (hM_58.2.1 18 (by decide)) (mr_18 hM_58) (by omega) (by omega) (by decide) ?_
            refine k_iastN Xc hM_58 22 (by decide) d_M_isBesideParts_75 (n := 76) rfl (by omega) (by show _ < ((12 : Nat) : Int); omega) (fun f_75 R_75 hr_75 hk_75 hM_75 hF_75 => ?_)
            refine k_iinc Xc d_M_isBesideParts_76 rfl (by decide) (n := 79) rfl ?_
            refine k_goto Xc d_M_isBesideParts_79 (t := 34) rfl ?_
            exact k_loc (ih2 (k + 1) _ _ (by omega) (by omega) hM_75 (mFr_tr (mFr_tr hF2 hF_58) hF_75) (fun q z1 z2 => by rw [hk_75 q z2, hk_58 q z1]; exact hK2 q z1 z2) (fun j hj => by
              rw [hr_75, hk_75 21 (by decide), hr_58, hk_58 22 (by decide)]
              rcases Nat.lt_or_ge j k with q | q
              · rw [iu_nat q, iu_nat q]; exact hJ2 j q
              · have ej : j = k := by omega
                subst ej
                rw [iu_at, iu_at, hk_58 18 (by decide), hK2 17 (by decide) (by decide), hK2 18 (by decide) (by decide)]; exact ⟨rfl, rfl⟩)) rfl
      refine k_iload_n Xc d_M_isBesideParts_2 rfl rfl (n := 3) rfl ?_
      refine k_bipush Xc d_M_isBesideParts_3 rfl (n := 5) rfl ?_
      refine k_icmp_ge Xc d_M_isBesideParts_5 (t := 97) (n := 8) rfl rfl (by omega) (by omega) (fun h_5 => ?_) (fun h_5 => ?_)
      · refine k_iconst Xc d_M_isBesideParts_97 (n := 98) rfl ?_
        refine k_iret Xc d_M_isBesideParts_98 hr rfl (Nat.le_refl _) (Nat.le_refl _) ?_
        exact ⟨rfl, hF, R1, _, 1, hK, hG, rfl, Or.inl ⟨fun q z => hJ q (by omega), rfl⟩⟩
      · refine k_aload_n Xc d_M_isBesideParts_8 rfl rfl (n := 9) rfl ?_
        refine k_get Xc u_M rfl 18 (by decide) wd_568 rfl d_M_isBesideParts_9 (n := 12) rfl hG.1 hG.2.2.1 rfl ?_
        refine k_iload_n Xc d_M_isBesideParts_12 rfl rfl (n := 13) rfl ?_
        have zi := hP i (by omega)
        have k7 : R1 13 (i : Int) = R 13 (i : Int) := congrFun (hK 13 (by decide) (by decide)) _
        refine k_iald Xc d_M_isBesideParts_13 (n := 14) rfl (hG.2.1 13 (by decide)) (mr_13 hG) (by omega) (by omega) (by decide) ?_
        refine k_if_lt Xc d_M_isBesideParts_14 (t := 91) (n := 17) rfl rfl (by omega) (fun h_14 => ?_) (fun h_14 => ?_)
        · refine k_iinc Xc d_M_isBesideParts_91 rfl (by decide) (n := 94) rfl ?_
          refine k_goto Xc d_M_isBesideParts_94 (t := 2) rfl ?_
          exact k_loc (ih (i + 1) _ _ _ (by omega) (by omega) hG hF hK (fun q z => by
            rcases Nat.lt_or_ge q i with q1 | q1
            · exact hJ q q1
            · have eq : q = i := by omega
              subst eq
              intro y
              omega)) rfl
        · refine k_aload_n Xc d_M_isBesideParts_17 rfl rfl (n := 18) rfl ?_
          refine k_aload_n Xc d_M_isBesideParts_18 rfl rfl (n := 19) rfl ?_
          refine k_get Xc u_M rfl 15 (by decide) wd_565 rfl d_M_isBesideParts_19 (n := 22) rfl hG.1 hG.2.2.1 rfl ?_
          refine k_aload_n Xc d_M_isBesideParts_22 rfl rfl (n := 23) rfl ?_
          refine k_get Xc u_M rfl 18 (by decide) wd_568 rfl d_M_isBesideParts_23 (n := 26) rfl hG.1 hG.2.2.1 rfl ?_
          refine k_iload_n Xc d_M_isBesideParts_26 rfl rfl (n := 27) rfl ?_
          refine k_iald Xc d_M_isBesideParts_27 (n := 28) rfl (hG.2.1 13 (by decide)) (mr_13 hG) (by omega) (by omega) (by decide) ?_
          have z3 := zi.2.2 (by omega)
          refine k_iald Xc d_M_isBesideParts_28 (n := 29) rfl (hG.2.1 10 (by decide)) (mr_10 hG) (by omega) (by omega) (by decide) ?_
          obtain ⟨c2, hc2⟩ : ∃ c2 : Nat, R 10 (R 13 (i : Int)) = (c2 : Int) := ⟨(R 10 (R 13 (i : Int))).toNat, by omega⟩
          refine k_val (show R1 10 (R1 13 (i : Int)) = (c2 : Int) by rw [k7, hK 10 (by decide) (by decide)]; exact hc2) ?_
          refine k_putM_otherMany Xc hG wd_577 d_M_isBesideParts_29 (n := 32) rfl (fun f_29 hM_29 hF_29 => ?_)
          refine k_iconst Xc d_M_isBesideParts_32 (n := 33) rfl ?_
          refine k_istore_n Xc d_M_isBesideParts_33 rfl (by decide) (n := 34) rfl ?_
          exact k_loc (inner c2 (by omega) ⟨by omega, hc2⟩ (fun j hj => by have := z3.2.2 j (by omega); omega) (by omega) (by omega) (c2 + 1) 0 _ R1 (by omega) (by omega) hM_29 (mFr_tr hF hF_29) hK (fun j q => absurd q (by omega))) rfl
  refine k_iconst Xc d_M_isBesideParts_0 (n := 1) rfl ?_
  refine k_istore_n Xc d_M_isBesideParts_1 rfl (by decide) (n := 2) rfl ?_
  exact k_loc (loop (12 + 1) 0 _ R _ (by omega) (by omega) hM mFr_rf (fun k _ _ => rfl) (fun k q => absurd q (by omega))) rfl
