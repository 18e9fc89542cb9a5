-- MODEL: fits
set_option maxRecDepth 100000 in
set_option maxHeartbeats 4000000 in
/-- a kind fits at a point after t turns -/
theorem m_M_isFit (l : Launch) (D : va_G) (G : Nat → ClassId) {L : List Nat} {f : Nat → va_E} {o : Nat} {ra : Nat → Nat} {cd wt mn om : Int} {h z9 k9 : Nat} {R : Nat → Int → Int} (hM : zMo G L f o ra cd wt (h : Int) (z9 : Int) (k9 : Int) mn om R) (hI : mI R h z9 k9) (kd a t : Nat) (hkd : kd < k9) (h10 : R 10 (kd : Int) = (a : Int)) (ht : t ≤ 3) (ax ay : Int) (hx : 0 ≤ ax ∧ ax ≤ 30) (hy : 0 ≤ ay ∧ ay ≤ 30) : zM l D G y_M_isFit (.code y_M_isFit c_M_isFit 6 (some .boolean) :: BG) (zR0 3 73) [.ref o, .int (zI (kd : Int)), .int (zI ax), .int (zI ay), .int (zI (t : Int))] L f (fun v L1 f1 => L = L1 ∧ mFr f f1 o ra ∧ ∃ (R1 : Nat → Int → Int) (mn1 om1 r : Int), (∀ k : Nat, k ≠ 19 → k ≠ 20 → k ≠ 21 → k ≠ 22 → R1 k = R k) ∧ zMo G L f1 o ra cd wt (h : Int) (z9 : Int) (k9 : Int) mn1 om1 R1 ∧ v = some (.int (zI r)) ∧ zB (fFit R h z9 kd a t ax ay) r) := by
  refine zM.of (by decide) (Nat.le_of_ble_eq_true rfl) rfl (fun p e s m args below meth c A Xc hr hnm => ?_)
  obtain ⟨i1, i2, i3, i4, i5, i6, i7⟩ := hI
  have kk := i6 kd hkd
  have ha : 3 ≤ a ∧ a ≤ 6 := by omega
  have hq : kOk R kd a := fun j hj => kk.2.2.2.2.2.2 j (by omega)
  obtain ⟨x, hx12⟩ : ∃ x : Nat, R 12 (kd : Int) = (x : Int) := ⟨(R 12 (kd : Int)).toNat, by omega⟩
  have loop : x / 2 ^ t % 2 = 1 → ∀ (g : Nat → va_E) (R1 : Nat → Int → Int), zMo G L g o ra cd wt (h : Int) (z9 : Int) (k9 : Int) (a : Int) om R1 → mFr f g o ra → (∀ k : Nat, k ≠ 19 → k ≠ 20 → R1 k = R k) → (∀ j : Nat, j < a → R1 19 (j : Int) = ((kp R kd t ax ay a) j).1 ∧ R1 20 (j : Int) = ((kp R kd t ax ay a) j).2) → ∀ (d i : Nat), a < i + d → i ≤ a → (∀ j : Nat, j < i → ((kp R kd t ax ay a) j).1 ≤ 30 ∧ ((kp R kd t ax ay a) j).2 ≤ 30) → zG p l e (zR0 3 73) s m args below meth c D A 6 0 0 (MQ below (zE D A (fun v L1 f1 => L = L1 ∧ mFr f f1 o ra ∧ ∃ (R1 : Nat → Int → Int) (mn1 om1 r : Int), (∀ k : Nat, k ≠ 19 → k ≠ 20 → k ≠ 21 → k ≠ 22 → R1 k = R k) ∧ zMo G L f1 o ra cd wt (h : Int) (z9 : Int) (k9 : Int) mn1 om1 R1 ∧ v = some (.int (zI r)) ∧ zB (fFit R h z9 kd a t ax ay) r)) args s (zR0 3 73).cells (zR0 3 73).slots A) 28 [(0, .ref o), (1, .int (zI (kd : Int))), (2, .int (zI ax)), (3, .int (zI ay)), (4, .int (zI (t : Int))), (5, .int (zI (i : Int)))] [] L g := by
    intro hbit g R1 hG hF hK hS d
    have kb := kp_bd hq ha.1 ht hx hy
    have hA : sB a (R1 19) (R1 20) := ⟨by omega, fun j hj => by rw [(hS j hj).1, (hS j hj).2]; have := kb j hj; omega⟩
    have hH : sB h (R1 2) (R1 3) := by rw [hK 2 (by decide) (by decide), hK 3 (by decide) (by decide)]; exact ⟨i1, fun j hj => by have := i2 j hj; omega⟩
    have eqP : ∀ j, j < a → sP (R1 19) (R1 20) j = (kp R kd t ax ay a) j := fun j hj => by show (R1 19 (j : Int), R1 20 (j : Int)) = _; rw [(hS j hj).1, (hS j hj).2]
    induction d with
    | zero => intro i h1 h2; omega
    | succ d ih =>
      intro i h1 h2 hJ
      refine k_iload Xc d_M_isFit_28 rfl (n := 30) rfl ?_
      refine k_aload_n Xc d_M_isFit_30 rfl rfl (n := 31) rfl ?_
      refine k_get Xc u_M rfl 24 (by decide) wd_574 rfl d_M_isFit_31 (n := 34) rfl hG.1 hG.2.2.1 rfl ?_
      refine k_icmp_ge Xc d_M_isFit_34 (t := 69) (n := 37) rfl rfl (by omega) (by omega) (fun h_34 => ?_) (fun h_34 => ?_)
      · refine k_aload_n Xc d_M_isFit_69 rfl rfl (n := 70) rfl ?_
        refine k_wV (na := 0) Xc (m_M_isInHide l D G hG hA hH ha.1 ha.2) hG.1 hG.2.2.1 rfl wd_719 wd_716 wd_718 ws_20 wd_6 (by decide +kernel) ⟨by decide, by decide⟩ rfl rfl (Nat.le_of_ble_eq_true rfl) d_M_isFit_70 (n := 73) rfl ⟨Nat.zero_le _, Nat.zero_le _⟩ (fun v_70 L_70 f_70 e_70 => ?_)
        obtain ⟨rfl, hF_70, S_70, om_70, r_70, hK_70, hG_70, rfl, hB_70⟩ := e_70
        have z_70 := zB_01 hB_70
        refine k_if_eq Xc d_M_isFit_73 (t := 100) (n := 76) rfl rfl (by omega) (fun h_73 => ?_) (fun h_73 => ?_)
        · refine k_iconst Xc d_M_isFit_100 (n := 101) rfl ?_
          refine k_iret Xc d_M_isFit_101 hr rfl (Nat.le_refl _) (Nat.le_refl _) ?_
          have c1 : fHide h (sP (R1 2) (R1 3)) a (sP (R1 19) (R1 20)) ↔ fHide h (sP (R 2) (R 3)) a (kp R kd t ax ay a) := by rw [hK 2 (by decide) (by decide), hK 3 (by decide) (by decide)]; exact fHide_congr ha.1 eqP
          exact ⟨rfl, (mFr_tr hF hF_70), S_70, _, _, 0, fun k y1 y2 y3 y4 => (hK_70 k y3 y4).trans (hK k y1 y2), hG_70, rfl, Or.inr ⟨fun q => zB_f hB_70 (by omega) (c1.mpr q.2.2.1), rfl⟩⟩
        · refine k_aload_n Xc d_M_isFit_76 rfl rfl (n := 77) rfl ?_
          refine k_aload_n Xc d_M_isFit_77 rfl rfl (n := 78) rfl ?_
          refine k_get Xc u_M rfl 16 (by decide) wd_566 rfl d_M_isFit_78 (n := 81) rfl hG_70.1 hG_70.2.2.1 rfl ?_
          refine k_iload_n Xc d_M_isFit_81 rfl rfl (n := 82) rfl ?_
          refine k_iald Xc d_M_isFit_82 (n := 83) rfl (hG_70.2.1 11 (by decide)) (mr_11 hG_70) (by omega) (by omega) (by decide) ?_
          refine k_val (show S_70 11 (kd : Int) = R 11 (kd : Int) by rw [hK_70 11 (by decide) (by decide), hK 11 (by decide) (by decide)]) ?_
          have s2 : ∀ k : Nat, k ≠ 19 → k ≠ 20 → k ≠ 21 → k ≠ 22 → S_70 k = R k := fun k y1 y2 y3 y4 => (hK_70 k y3 y4).trans (hK k y1 y2)
          have hZ2 : mZ S_70 z9 := mZ_congr (s2 4 (by decide) (by decide) (by decide) (by decide)) (s2 5 (by decide) (by decide) (by decide) (by decide)) (s2 6 (by decide) (by decide) (by decide) (by decide)) (s2 7 (by decide) (by decide) (by decide) (by decide)) i4
          have hA2 : sB a (S_70 19) (S_70 20) := by rw [hK_70 19 (by decide) (by decide), hK_70 20 (by decide) (by decide)]; exact hA
          refine k_wV (na := 1) Xc (m_M_isOffZones l D G hG_70 i3 hZ2 _ (by omega) hA2 ha.1 ha.2) hG_70.1 hG_70.2.2.1 rfl wd_737 wd_734 wd_736 ws_24 wd_6 (by decide +kernel) ⟨by decide, by decide⟩ rfl rfl (Nat.le_of_ble_eq_true rfl) d_M_isFit_83 (n := 86) rfl ⟨Nat.zero_le _, Nat.zero_le _⟩ (fun v_83 L_83 f_83 e_83 => ?_)
          obtain ⟨rfl, hF_83, S_83, om_83, r_83, hK_83, hG_83, rfl, hB_83⟩ := e_83
          have z_83 := zB_01 hB_83
          refine k_if_eq Xc d_M_isFit_86 (t := 100) (n := 89) rfl rfl (by omega) (fun h_86 => ?_) (fun h_86 => ?_)
          · refine k_iconst Xc d_M_isFit_100 (n := 101) rfl ?_
            refine k_iret Xc d_M_isFit_101 hr rfl (Nat.le_refl _) (Nat.le_refl _) ?_
            have c1 : fHide h (sP (R1 2) (R1 3)) a (sP (R1 19) (R1 20)) ↔ fHide h (sP (R 2) (R 3)) a (kp R kd t ax ay a) := by rw [hK 2 (by decide) (by decide), hK 3 (by decide) (by decide)]; exact fHide_congr ha.1 eqP
            have c2 : fZone S_70 z9 (R 11 (kd : Int)) a (sP (S_70 19) (S_70 20)) ↔ fZone R z9 (R 11 (kd : Int)) a (kp R kd t ax ay a) := by
              rw [hK_70 19 (by decide) (by decide), hK_70 20 (by decide) (by decide)]
              exact fZone_congr (s2 4 (by decide) (by decide) (by decide) (by decide)) (s2 5 (by decide) (by decide) (by decide) (by decide)) (s2 6 (by decide) (by decide) (by decide) (by decide)) (s2 7 (by decide) (by decide) (by decide) (by decide)) eqP
            exact ⟨rfl, (mFr_tr (mFr_tr hF hF_70) hF_83), S_83, _, _, 0, (fun k y1 y2 y3 y4 => (hK_83 k y3 y4).trans (s2 k y1 y2 y3 y4)), hG_83, rfl, Or.inr ⟨fun q => zB_f hB_83 (by omega) (c2.mpr q.2.2.2.1), rfl⟩⟩
          · refine k_aload_n Xc d_M_isFit_89 rfl rfl (n := 90) rfl ?_
            have s3 : ∀ k : Nat, k ≠ 19 → k ≠ 20 → k ≠ 21 → k ≠ 22 → S_83 k = R k := fun k y1 y2 y3 y4 => (hK_83 k y3 y4).trans (s2 k y1 y2 y3 y4)
            have hP3 : mP S_83 := mP_congr (s3 10 (by decide) (by decide) (by decide) (by decide)) (s3 13 (by decide) (by decide) (by decide) (by decide)) (s3 17 (by decide) (by decide) (by decide) (by decide)) (s3 18 (by decide) (by decide) (by decide) (by decide)) i7
            have hA3 : sB a (S_83 19) (S_83 20) := by rw [hK_83 19 (by decide) (by decide), hK_83 20 (by decide) (by decide)]; exact hA2
            refine k_wV (na := 0) Xc (m_M_isBesideParts l D G hG_83 hP3 hA3 ha.1 ha.2) hG_83.1 hG_83.2.2.1 rfl wd_741 wd_738 wd_740 ws_25 wd_6 (by decide +kernel) ⟨by decide, by decide⟩ rfl rfl (Nat.le_of_ble_eq_true rfl) d_M_isFit_90 (n := 93) rfl ⟨Nat.zero_le _, Nat.zero_le _⟩ (fun v_90 L_90 f_90 e_90 => ?_)
            obtain ⟨rfl, hF_90, S_90, om_90, r_90, hK_90, hG_90, rfl, hB_90⟩ := e_90
            have z_90 := zB_01 hB_90
            refine k_if_eq Xc d_M_isFit_93 (t := 100) (n := 96) rfl rfl (by omega) (fun h_93 => ?_) (fun h_93 => ?_)
            · refine k_iconst Xc d_M_isFit_100 (n := 101) rfl ?_
              refine k_iret Xc d_M_isFit_101 hr rfl (Nat.le_refl _) (Nat.le_refl _) ?_
              have c1 : fHide h (sP (R1 2) (R1 3)) a (sP (R1 19) (R1 20)) ↔ fHide h (sP (R 2) (R 3)) a (kp R kd t ax ay a) := by rw [hK 2 (by decide) (by decide), hK 3 (by decide) (by decide)]; exact fHide_congr ha.1 eqP
              have c2 : fZone S_70 z9 (R 11 (kd : Int)) a (sP (S_70 19) (S_70 20)) ↔ fZone R z9 (R 11 (kd : Int)) a (kp R kd t ax ay a) := by
                rw [hK_70 19 (by decide) (by decide), hK_70 20 (by decide) (by decide)]
                exact fZone_congr (s2 4 (by decide) (by decide) (by decide) (by decide)) (s2 5 (by decide) (by decide) (by decide) (by decide)) (s2 6 (by decide) (by decide) (by decide) (by decide)) (s2 7 (by decide) (by decide) (by decide) (by decide)) eqP
              have c3 : fPart S_83 a (sP (S_83 19) (S_83 20)) ↔ fPart R a (kp R kd t ax ay a) := by
                rw [hK_83 19 (by decide) (by decide), hK_83 20 (by decide) (by decide), hK_70 19 (by decide) (by decide), hK_70 20 (by decide) (by decide)]
                exact fPart_congr (s3 10 (by decide) (by decide) (by decide) (by decide)) (s3 13 (by decide) (by decide) (by decide) (by decide)) (s3 17 (by decide) (by decide) (by decide) (by decide)) (s3 18 (by decide) (by decide) (by decide) (by decide)) eqP
              exact ⟨rfl, (mFr_tr (mFr_tr (mFr_tr hF hF_70) hF_83) hF_90), S_90, _, _, 0, fun k y1 y2 y3 y4 => (hK_90 k y3 y4).trans (s3 k y1 y2 y3 y4), hG_90, rfl, Or.inr ⟨fun q => zB_f hB_90 (by omega) (c3.mpr q.2.2.2.2), rfl⟩⟩
            · refine k_iconst Xc d_M_isFit_96 (n := 97) rfl ?_
              refine k_goto Xc d_M_isFit_97 (t := 101) rfl ?_
              refine k_iret Xc d_M_isFit_101 hr rfl (Nat.le_refl _) (Nat.le_refl _) ?_
              have c1 : fHide h (sP (R1 2) (R1 3)) a (sP (R1 19) (R1 20)) ↔ fHide h (sP (R 2) (R 3)) a (kp R kd t ax ay a) := by rw [hK 2 (by decide) (by decide), hK 3 (by decide) (by decide)]; exact fHide_congr ha.1 eqP
              have c2 : fZone S_70 z9 (R 11 (kd : Int)) a (sP (S_70 19) (S_70 20)) ↔ fZone R z9 (R 11 (kd : Int)) a (kp R kd t ax ay a) := by
                rw [hK_70 19 (by decide) (by decide), hK_70 20 (by decide) (by decide)]
                exact fZone_congr (s2 4 (by decide) (by decide) (by decide) (by decide)) (s2 5 (by decide) (by decide) (by decide) (by decide)) (s2 6 (by decide) (by decide) (by decide) (by decide)) (s2 7 (by decide) (by decide) (by decide) (by decide)) eqP
              have c3 : fPart S_83 a (sP (S_83 19) (S_83 20)) ↔ fPart R a (kp R kd t ax ay a) := by
                rw [hK_83 19 (by decide) (by decide), hK_83 20 (by decide) (by decide), hK_70 19 (by decide) (by decide), hK_70 20 (by decide) (by decide)]
                exact fPart_congr (s3 10 (by decide) (by decide) (by decide) (by decide)) (s3 13 (by decide) (by decide) (by decide) (by decide)) (s3 17 (by decide) (by decide) (by decide) (by decide)) (s3 18 (by decide) (by decide) (by decide) (by decide)) eqP
              exact ⟨rfl, (mFr_tr (mFr_tr (mFr_tr hF hF_70) hF_83) hF_90), S_90, _, _, 1, fun k y1 y2 y3 y4 => (hK_90 k y3 y4).trans (s3 k y1 y2 y3 y4), hG_90, rfl, Or.inl ⟨⟨⟨x, hx12, hbit⟩, fun j hj => hJ j (by omega), c1.mp (zB_t hB_70 (by omega)), c2.mp (zB_t hB_83 (by omega)), c3.mp (zB_t hB_90 (by omega))⟩, rfl⟩⟩
      · refine k_aload_n Xc d_M_isFit_37 rfl rfl (n := 38) rfl ?_
        refine k_get Xc u_M rfl 25 (by decide) wd_575 rfl d_M_isFit_38 (n := 41) rfl hG.1 hG.2.2.1 rfl ?_
        refine k_iload Xc d_M_isFit_41 rfl (n := 43) rfl ?_
        have kb1 := kb i (by omega)
        have hs1 := hS i (by omega)
        refine k_iald Xc d_M_isFit_43 (n := 44) rfl (hG.2.1 19 (by decide)) (mr_19 hG) (by omega) (by omega) (by decide) ?_
        refine k_bipush Xc d_M_isFit_44 rfl (n := 46) rfl ?_
        refine k_icmp_gt Xc d_M_isFit_46 (t := 61) (n := 49) rfl rfl (by omega) (by omega) (fun h_46 => ?_) (fun h_46 => ?_)
        · refine k_iconst Xc d_M_isFit_61 (n := 62) rfl ?_
          refine k_iret Xc d_M_isFit_62 hr rfl (Nat.le_refl _) (Nat.le_refl _) ?_
          exact ⟨rfl, hF, R1, _, _, 0, fun k y1 y2 _ _ => hK k y1 y2, hG, rfl, Or.inr ⟨fun q => by have z := q.2.1 i (by omega); omega, rfl⟩⟩
        · refine k_aload_n Xc d_M_isFit_49 rfl rfl (n := 50) rfl ?_
          refine k_get Xc u_M rfl 26 (by decide) wd_576 rfl d_M_isFit_50 (n := 53) rfl hG.1 hG.2.2.1 rfl ?_
          refine k_iload Xc d_M_isFit_53 rfl (n := 55) rfl ?_
          refine k_iald Xc d_M_isFit_55 (n := 56) rfl (hG.2.1 20 (by decide)) (mr_20 hG) (by omega) (by omega) (by decide) ?_
          refine k_bipush Xc d_M_isFit_56 rfl (n := 58) rfl ?_
          refine k_icmp_le Xc d_M_isFit_58 (t := 63) (n := 61) rfl rfl (by omega) (by omega) (fun h_58 => ?_) (fun h_58 => ?_)
          · refine k_iinc Xc d_M_isFit_63 rfl (by decide) (n := 66) rfl ?_
            refine k_goto Xc d_M_isFit_66 (t := 28) rfl ?_
            exact k_loc (ih (i + 1) (by omega) (by omega) (fun j hj => by
              rcases Nat.lt_or_ge j i with q | q
              · exact hJ j q
              · have ej : j = i := by omega
                subst ej
                omega)) rfl
          · refine k_iconst Xc d_M_isFit_61 (n := 62) rfl ?_
            refine k_iret Xc d_M_isFit_62 hr rfl (Nat.le_refl _) (Nat.le_refl _) ?_
            exact ⟨rfl, hF, R1, _, _, 0, fun k y1 y2 _ _ => hK k y1 y2, hG, rfl, Or.inr ⟨fun q => by have z := q.2.1 i (by omega); omega, rfl⟩⟩
  refine k_aload_n Xc d_M_isFit_0 rfl rfl (n := 1) rfl ?_
  refine k_get Xc u_M rfl 17 (by decide) wd_567 rfl d_M_isFit_1 (n := 4) rfl hM.1 hM.2.2.1 rfl ?_
  refine k_iload_n Xc d_M_isFit_4 rfl rfl (n := 5) rfl ?_
  refine k_iald Xc d_M_isFit_5 (n := 6) rfl (hM.2.1 12 (by decide)) (mr_12 hM) (by omega) (by omega) (by decide) ?_
  refine k_iload Xc d_M_isFit_6 rfl (n := 8) rfl ?_
  refine k_ishr Xc d_M_isFit_8 (n := 9) rfl ?_
  refine k_iconst Xc d_M_isFit_9 (n := 10) rfl ?_
  refine k_iand Xc d_M_isFit_10 (n := 11) rfl ?_
  refine k_va32 (bit_lem (show (R 12 (kd : Int)) = (x : Int) from hx12) (by omega) ht) ?_
  have b2 : x / 2 ^ t % 2 < 2 := Nat.mod_lt _ (by decide)
  refine k_if_ne Xc d_M_isFit_11 (t := 16) (n := 14) rfl rfl (by omega) (fun h_11 => ?_) (fun h_11 => ?_)
  · refine k_aload_n Xc d_M_isFit_16 rfl rfl (n := 17) rfl ?_
    refine k_iload_n Xc d_M_isFit_17 rfl rfl (n := 18) rfl ?_
    refine k_iload Xc d_M_isFit_18 rfl (n := 20) rfl ?_
    refine k_iload_n Xc d_M_isFit_20 rfl rfl (n := 21) rfl ?_
    refine k_iload_n Xc d_M_isFit_21 rfl rfl (n := 22) rfl ?_
    refine k_wV (na := 4) Xc (m_M_shape l D G hM _ _ _ (by omega) (by omega) ha.2 h10 hq ht _ _ hx hy) hM.1 hM.2.2.1 rfl wd_715 wd_712 wd_714 ws_19 wd_6 (by decide +kernel) ⟨by decide, by decide⟩ rfl rfl (Nat.le_of_ble_eq_true rfl) d_M_isFit_22 (n := 25) rfl ⟨Nat.zero_le _, Nat.zero_le _⟩ (fun v_22 L_22 f_22 e_22 => ?_)
    obtain ⟨rfl, rfl, hF_22, S_22, hK_22, hS_22, hG_22⟩ := e_22
    refine k_iconst Xc d_M_isFit_25 (n := 26) rfl ?_
    refine k_istore Xc d_M_isFit_26 (by decide) (n := 28) rfl ?_
    exact k_loc (loop (by omega) _ S_22 hG_22 hF_22 hK_22 hS_22 (a + 1) 0 (by omega) (by omega) (fun j q => absurd q (by omega))) rfl
  · refine k_iconst Xc d_M_isFit_14 (n := 15) rfl ?_
    refine k_iret Xc d_M_isFit_15 hr rfl (Nat.le_refl _) (Nat.le_refl _) ?_
    exact ⟨rfl, mFr_rf, R, _, _, 0, fun _ _ _ _ _ => rfl, hM, rfl, Or.inr ⟨fun q => by
      obtain ⟨⟨x2, y1, y2⟩, -⟩ := q
      have ex : x2 = x := by omega
      subst ex
      omega, rfl⟩⟩
