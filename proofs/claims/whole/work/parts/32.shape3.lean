-- SHAPE: queries
set_option maxRecDepth 100000 in
set_option maxHeartbeats 4000000 in
/-- round, with 3 to 6 corners -/
theorem m_S_isRound (l : Launch) (D : va_G) (G : Nat → ClassId) {L : List Nat} {f : Nat → va_E} {a ax ay n : Nat} {X Y : Int → Int} {lx hx ly hy : Int} (hS : zS G L f a ax ay n X Y lx hx ly hy) (hB : sB n X Y) : zM l D G y_S_isRound (.code y_S_isRound c_S_isRound 5 (some .boolean) :: BG) (zR0 1 24) [.ref a] L f (zA L f (fun r => zB (3 ≤ n ∧ n ≤ 6 ∧ ge_rd n (sP X Y)) r)) := by
  refine zM.of (by decide) (Nat.le_of_ble_eq_true rfl) rfl (fun p e s m args below meth c A Xc hr hnm => ?_)
  have hn := hB.1
  obtain ⟨w, hw⟩ : ∃ w : Int, w = (if 0 < ge_bs (sP X Y) n 0 (sP X Y 2) then 1 else -1) := ⟨_, rfl⟩
  have hw1 : w = 1 ∨ w = -1 := by rw [hw]; split <;> omega
  have loop : 3 ≤ n → n ≤ 6 → ∀ (d i : Nat), n < i + d → i ≤ n → (∀ i2 k2, i2 < i → k2 < n → k2 ≠ i2 → k2 ≠ ge_nx n i2 → 0 < w * ge_bs (sP X Y) n i2 (sP X Y k2)) → zG p l e (zR0 1 24) s m args below meth c D A 5 0 0 (MQ below (zE D A (zA L f (fun r => zB (3 ≤ n ∧ n ≤ 6 ∧ ge_rd n (sP X Y)) r))) args s (zR0 1 24).cells (zR0 1 24).slots A) 47 [(0, .ref a), (1, .int (zI w)), (2, .int (zI (i : Int)))] [] L f := by
    intro h3 h6 d
    induction d with
    | zero => intro i h1 h2; omega
    | succ d ih =>
      intro i h1 h2 hI
      have inner : i < n → ∀ (d2 k : Nat), n < k + d2 → k ≤ n → (∀ k2, k2 < k → k2 ≠ i → k2 ≠ ge_nx n i → 0 < w * ge_bs (sP X Y) n i (sP X Y k2)) → zG p l e (zR0 1 24) s m args below meth c D A 5 0 0 (MQ below (zE D A (zA L f (fun r => zB (3 ≤ n ∧ n ≤ 6 ∧ ge_rd n (sP X Y)) r))) args s (zR0 1 24).cells (zR0 1 24).slots A) 57 [(0, .ref a), (1, .int (zI w)), (2, .int (zI (i : Int))), (3, .int (zI (k : Int)))] [] L f := by
        intro hi d2
        induction d2 with
        | zero => intro k g1 g2; omega
        | succ d2 ih2 =>
          intro k g1 g2 hJ
          have l1 : ge_nx n i < n := nx_lt (by omega)
          refine k_iload_n Xc d_S_isRound_57 rfl rfl (n := 58) rfl ?_
          refine k_aload_n Xc d_S_isRound_58 rfl rfl (n := 59) rfl ?_
          refine k_get Xc u_S rfl 2 (by decide) wd_32 rfl d_S_isRound_59 (n := 62) rfl hS.1 hS.2.2.2.1 rfl ?_
          refine k_icmp_ge Xc d_S_isRound_62 (t := 121) (n := 65) rfl rfl (by omega) (by omega) (fun h_62 => ?_) (fun h_62 => ?_)
          · refine k_iinc Xc d_S_isRound_121 rfl (by decide) (n := 124) rfl ?_
            refine k_goto Xc d_S_isRound_124 (t := 47) rfl ?_
            exact k_loc (ih (i + 1) (by omega) (by omega) (fun i2 k2 q1 q2 q3 q4 => by
              rcases Nat.lt_or_ge i2 i with q | q
              · exact hI i2 k2 q q2 q3 q4
              · have e : i2 = i := by omega
                subst e
                exact hJ k2 (by omega) q3 q4)) rfl
          · refine k_iload_n Xc d_S_isRound_65 rfl rfl (n := 66) rfl ?_
            refine k_iload_n Xc d_S_isRound_66 rfl rfl (n := 67) rfl ?_
            refine k_icmp_eq Xc d_S_isRound_67 (t := 79) (n := 70) rfl rfl (by omega) (by omega) (fun h_67 => ?_) (fun h_67 => ?_)
            · refine k_iconst Xc d_S_isRound_79 (n := 80) rfl ?_
              refine k_goto Xc d_S_isRound_80 (t := 84) rfl ?_
              refine k_istore Xc d_S_isRound_84 (by decide) (n := 86) rfl ?_
              refine k_iload Xc d_S_isRound_86 rfl (n := 88) rfl ?_
              refine k_if_ne Xc d_S_isRound_88 (t := 115) (n := 91) rfl rfl (by omega) (fun _ => ?_) (fun h_88 => absurd h_88 (by omega))
              refine k_iinc Xc d_S_isRound_115 rfl (by decide) (n := 118) rfl ?_
              refine k_goto Xc d_S_isRound_118 (t := 57) rfl ?_
              exact k_loc (ih2 (k + 1) (by omega) (by omega) (fun k2 q q1 q2 => by
                rcases Nat.lt_or_ge k2 k with q3 | q3
                · exact hJ k2 q3 q1 q2
                · have e : k2 = k := by omega
                  subst e
                  first | exact absurd rfl q1 | omega | (exact absurd (by omega) q2) | (have z1 : w * ge_bs (sP X Y) n i (sP X Y k2) = w * ge_bs (sP X Y) n i (X (k2 : Int), Y (k2 : Int)) := rfl; omega))) rfl
            · refine k_iload_n Xc d_S_isRound_70 rfl rfl (n := 71) rfl ?_
              refine k_aload_n Xc d_S_isRound_71 rfl rfl (n := 72) rfl ?_
              refine k_iload_n Xc d_S_isRound_72 rfl rfl (n := 73) rfl ?_
              refine k_qV (na := 1) Xc (m_S_next l D G hS hB.1 _ (by omega)) hS.1 hS.2.2.2.1 rfl wd_181 wd_178 wd_179 wd_180 wd_2 (by decide +kernel) ⟨by decide, by decide⟩ rfl rfl (Nat.le_of_ble_eq_true rfl) d_S_isRound_73 (n := 76) rfl ⟨Nat.zero_le _, Nat.zero_le _⟩ (fun r_73 e_73 => ?_)
              subst e_73
              refine k_icmp_ne Xc d_S_isRound_76 (t := 83) (n := 79) rfl rfl (by omega) (by omega) (fun h_76 => ?_) (fun h_76 => ?_)
              · refine k_iconst Xc d_S_isRound_83 (n := 84) rfl ?_
                refine k_istore Xc d_S_isRound_84 (by decide) (n := 86) rfl ?_
                refine k_iload Xc d_S_isRound_86 rfl (n := 88) rfl ?_
                refine k_if_ne Xc d_S_isRound_88 (t := 115) (n := 91) rfl rfl (by omega) (fun h_88 => absurd h_88 (by omega)) (fun _ => ?_)
                refine k_iload_n Xc d_S_isRound_91 rfl rfl (n := 92) rfl ?_
                refine k_aload_n Xc d_S_isRound_92 rfl rfl (n := 93) rfl ?_
                refine k_iload_n Xc d_S_isRound_93 rfl rfl (n := 94) rfl ?_
                refine k_aload_n Xc d_S_isRound_94 rfl rfl (n := 95) rfl ?_
                refine k_get Xc u_S rfl 0 (by decide) wd_30 rfl d_S_isRound_95 (n := 98) rfl hS.1 hS.2.2.2.1 rfl ?_
                refine k_iload_n Xc d_S_isRound_98 rfl rfl (n := 99) rfl ?_
                refine k_iald Xc d_S_isRound_99 (n := 100) rfl hS.2.1 hS.2.2.2.2.1 (by omega) (by omega) (by decide) ?_
                refine k_aload_n Xc d_S_isRound_100 rfl rfl (n := 101) rfl ?_
                refine k_get Xc u_S rfl 1 (by decide) wd_31 rfl d_S_isRound_101 (n := 104) rfl hS.1 hS.2.2.2.1 rfl ?_
                refine k_iload_n Xc d_S_isRound_104 rfl rfl (n := 105) rfl ?_
                refine k_iald Xc d_S_isRound_105 (n := 106) rfl hS.2.2.1 hS.2.2.2.2.2 (by omega) (by omega) (by decide) ?_
                have c1 := hB.2 k (by omega)
                refine k_qV (na := 3) Xc (m_S_beside l D G hS hB _ (by omega) _ _ (by omega) (by omega) (by omega) (by omega)) hS.1 hS.2.2.2.1 rfl wd_325 wd_322 wd_323 wd_324 wd_2 (by decide +kernel) ⟨by decide, by decide⟩ rfl rfl (Nat.le_of_ble_eq_true rfl) d_S_isRound_106 (n := 109) rfl ⟨Nat.zero_le _, Nat.zero_le _⟩ (fun r_106 e_106 => ?_)
                subst e_106
                have c2 := bs_bd hB hi (px := X (k : Int)) (py := Y (k : Int)) (by omega) (by omega) (by omega) (by omega)
                have c3 : w * ge_bs (sP X Y) n i (X (k : Int), Y (k : Int)) = ge_bs (sP X Y) n i (X (k : Int), Y (k : Int)) ∨ w * ge_bs (sP X Y) n i (X (k : Int), Y (k : Int)) = - ge_bs (sP X Y) n i (X (k : Int), Y (k : Int)) := by rcases hw1 with q | q <;> rw [q] <;> omega
                refine k_imul Xc d_S_isRound_109 (n := 110) rfl ?_
                refine k_if_gt Xc d_S_isRound_110 (t := 115) (n := 113) rfl rfl (by omega) (fun h_110 => ?_) (fun h_110 => ?_)
                · refine k_iinc Xc d_S_isRound_115 rfl (by decide) (n := 118) rfl ?_
                  refine k_goto Xc d_S_isRound_118 (t := 57) rfl ?_
                  exact k_loc (ih2 (k + 1) (by omega) (by omega) (fun k2 q q1 q2 => by
                    rcases Nat.lt_or_ge k2 k with q3 | q3
                    · exact hJ k2 q3 q1 q2
                    · have e : k2 = k := by omega
                      subst e
                      first | exact absurd rfl q1 | omega | (exact absurd (by omega) q2) | (have z1 : w * ge_bs (sP X Y) n i (sP X Y k2) = w * ge_bs (sP X Y) n i (X (k2 : Int), Y (k2 : Int)) := rfl; omega))) rfl
                · refine k_iconst Xc d_S_isRound_113 (n := 114) rfl ?_
                  refine k_iret Xc d_S_isRound_114 hr rfl (Nat.le_refl _) (Nat.le_refl _) ⟨_, rfl, ?_, rfl, rfl⟩
                  exact Or.inr ⟨fun q => by
                    have z := q.2.2 i k hi (by omega) (by omega) (by omega)
                    rw [← hw] at z
                    have z1 : w * ge_bs (sP X Y) n i (sP X Y k) = w * ge_bs (sP X Y) n i (X (k : Int), Y (k : Int)) := rfl
                    omega, rfl⟩
              · refine k_iconst Xc d_S_isRound_79 (n := 80) rfl ?_
                refine k_goto Xc d_S_isRound_80 (t := 84) rfl ?_
                refine k_istore Xc d_S_isRound_84 (by decide) (n := 86) rfl ?_
                refine k_iload Xc d_S_isRound_86 rfl (n := 88) rfl ?_
                refine k_if_ne Xc d_S_isRound_88 (t := 115) (n := 91) rfl rfl (by omega) (fun _ => ?_) (fun h_88 => absurd h_88 (by omega))
                refine k_iinc Xc d_S_isRound_115 rfl (by decide) (n := 118) rfl ?_
                refine k_goto Xc d_S_isRound_118 (t := 57) rfl ?_
                exact k_loc (ih2 (k + 1) (by omega) (by omega) (fun k2 q q1 q2 => by
                  rcases Nat.lt_or_ge k2 k with q3 | q3
                  · exact hJ k2 q3 q1 q2
                  · have e : k2 = k := by omega
                    subst e
                    first | exact absurd rfl q1 | omega | (exact absurd (by omega) q2) | (have z1 : w * ge_bs (sP X Y) n i (sP X Y k2) = w * ge_bs (sP X Y) n i (X (k2 : Int), Y (k2 : Int)) := rfl; omega))) rfl
      refine k_iload_n Xc d_S_isRound_47 rfl rfl (n := 48) rfl ?_
      refine k_aload_n Xc d_S_isRound_48 rfl rfl (n := 49) rfl ?_
      refine k_get Xc u_S rfl 2 (by decide) wd_32 rfl d_S_isRound_49 (n := 52) rfl hS.1 hS.2.2.2.1 rfl ?_
      refine k_icmp_ge Xc d_S_isRound_52 (t := 127) (n := 55) rfl rfl (by omega) (by omega) (fun h_52 => ?_) (fun h_52 => ?_)
      · refine k_iconst Xc d_S_isRound_127 (n := 128) rfl ?_
        refine k_iret Xc d_S_isRound_128 hr rfl (Nat.le_refl _) (Nat.le_refl _) ⟨_, rfl, ?_, rfl, rfl⟩
        exact Or.inl ⟨⟨h3, h6, fun i2 k2 q1 q2 q3 q4 => by rw [← hw]; exact hI i2 k2 (by omega) q2 q3 q4⟩, rfl⟩
      · refine k_iconst Xc d_S_isRound_55 (n := 56) rfl ?_
        refine k_istore_n Xc d_S_isRound_56 rfl (by decide) (n := 57) rfl ?_
        exact k_loc (inner (by omega) (n + 1) 0 (by omega) (by omega) (fun k2 q => absurd q (by omega))) rfl
  refine k_aload_n Xc d_S_isRound_0 rfl rfl (n := 1) rfl ?_
  refine k_get Xc u_S rfl 2 (by decide) wd_32 rfl d_S_isRound_1 (n := 4) rfl hS.1 hS.2.2.2.1 rfl ?_
  refine k_iconst Xc d_S_isRound_4 (n := 5) rfl ?_
  refine k_icmp_lt Xc d_S_isRound_5 (t := 17) (n := 8) rfl rfl (by omega) (by omega) (fun h_5 => ?_) (fun h_5 => ?_)
  · refine k_iconst Xc d_S_isRound_17 (n := 18) rfl ?_
    refine k_iret Xc d_S_isRound_18 hr rfl (Nat.le_refl _) (Nat.le_refl _) ⟨_, rfl, ?_, rfl, rfl⟩
    exact Or.inr ⟨fun q => by omega, rfl⟩
  · refine k_aload_n Xc d_S_isRound_8 rfl rfl (n := 9) rfl ?_
    refine k_get Xc u_S rfl 2 (by decide) wd_32 rfl d_S_isRound_9 (n := 12) rfl hS.1 hS.2.2.2.1 rfl ?_
    refine k_bipush Xc d_S_isRound_12 rfl (n := 14) rfl ?_
    refine k_icmp_le Xc d_S_isRound_14 (t := 19) (n := 17) rfl rfl (by omega) (by omega) (fun h_14 => ?_) (fun h_14 => ?_)
    · refine k_aload_n Xc d_S_isRound_19 rfl rfl (n := 20) rfl ?_
      refine k_iconst Xc d_S_isRound_20 (n := 21) rfl ?_
      refine k_aload_n Xc d_S_isRound_21 rfl rfl (n := 22) rfl ?_
      refine k_get Xc u_S rfl 0 (by decide) wd_30 rfl d_S_isRound_22 (n := 25) rfl hS.1 hS.2.2.2.1 rfl ?_
      refine k_iconst Xc d_S_isRound_25 (n := 26) rfl ?_
      refine k_iald Xc d_S_isRound_26 (n := 27) rfl hS.2.1 hS.2.2.2.2.1 (by omega) (by omega) (by decide) ?_
      refine k_aload_n Xc d_S_isRound_27 rfl rfl (n := 28) rfl ?_
      refine k_get Xc u_S rfl 1 (by decide) wd_31 rfl d_S_isRound_28 (n := 31) rfl hS.1 hS.2.2.2.1 rfl ?_
      refine k_iconst Xc d_S_isRound_31 (n := 32) rfl ?_
      refine k_iald Xc d_S_isRound_32 (n := 33) rfl hS.2.2.1 hS.2.2.2.2.2 (by omega) (by omega) (by decide) ?_
      have c1 := hB.2 2 (by omega)
      have c0 := bs_bd hB (i := 0) (by omega) (px := X 2) (py := Y 2) (by have : X 2 = X ((2 : Nat) : Int) := rfl; omega) (by have : X 2 = X ((2 : Nat) : Int) := rfl; omega) (by have : Y 2 = Y ((2 : Nat) : Int) := rfl; omega) (by have : Y 2 = Y ((2 : Nat) : Int) := rfl; omega)
      have c4 : X 2 = X ((2 : Nat) : Int) := rfl
      have c5 : Y 2 = Y ((2 : Nat) : Int) := rfl
      refine k_qV (na := 3) Xc (m_S_beside l D G hS hB 0 (by omega) _ _ (by omega) (by omega) (by omega) (by omega)) hS.1 hS.2.2.2.1 rfl wd_325 wd_322 wd_323 wd_324 wd_2 (by decide +kernel) ⟨by decide, by decide⟩ rfl rfl (Nat.le_of_ble_eq_true rfl) d_S_isRound_33 (n := 36) rfl ⟨Nat.zero_le _, Nat.zero_le _⟩ (fun r_33 e_33 => ?_)
      subst e_33
      refine k_if_le Xc d_S_isRound_36 (t := 43) (n := 39) rfl rfl (by omega) (fun h_36 => ?_) (fun h_36 => ?_)
      · refine k_iconst Xc d_S_isRound_43 (n := 44) rfl ?_
        refine k_istore_n Xc d_S_isRound_44 rfl (by decide) (n := 45) rfl ?_
        refine k_iconst Xc d_S_isRound_45 (n := 46) rfl ?_
        refine k_istore_n Xc d_S_isRound_46 rfl (by decide) (n := 47) rfl ?_
        exact k_loc (loop (by omega) (by omega) (n + 1) 0 (by omega) (by omega) (fun i2 k2 q => absurd q (by omega))) (by rw [hw, if_neg (by have z : ge_bs (sP X Y) n 0 (sP X Y 2) = ge_bs (sP X Y) n 0 (X 2, Y 2) := rfl; omega)]; rfl)
      · refine k_iconst Xc d_S_isRound_39 (n := 40) rfl ?_
        refine k_goto Xc d_S_isRound_40 (t := 44) rfl ?_
        refine k_istore_n Xc d_S_isRound_44 rfl (by decide) (n := 45) rfl ?_
        refine k_iconst Xc d_S_isRound_45 (n := 46) rfl ?_
        refine k_istore_n Xc d_S_isRound_46 rfl (by decide) (n := 47) rfl ?_
        exact k_loc (loop (by omega) (by omega) (n + 1) 0 (by omega) (by omega) (fun i2 k2 q => absurd q (by omega))) (by rw [hw, if_pos (by have z : ge_bs (sP X Y) n 0 (sP X Y 2) = ge_bs (sP X Y) n 0 (X 2, Y 2) := rfl; omega)]; rfl)
    · refine k_iconst Xc d_S_isRound_17 (n := 18) rfl ?_
      refine k_iret Xc d_S_isRound_18 hr rfl (Nat.le_refl _) (Nat.le_refl _) ⟨_, rfl, ?_, rfl, rfl⟩
      exact Or.inr ⟨fun q => by omega, rfl⟩
set_option maxRecDepth 100000 in
set_option maxHeartbeats 4000000 in
/-- plain, with 3 corners or more -/
theorem m_S_isPlain (l : Launch) (D : va_G) (G : Nat → ClassId) {L : List Nat} {f : Nat → va_E} {a ax ay n : Nat} {X Y : Int → Int} {lx hx ly hy : Int} (hS : zS G L f a ax ay n X Y lx hx ly hy) (hB : sB n X Y) : zM l D G y_S_isPlain (.code y_S_isPlain c_S_isPlain 4 (some .boolean) :: BG) (zR0 3 71) [.ref a] L f (zA L f (fun r => zB (3 ≤ n ∧ ge_plC n (sP X Y)) r)) := by
  refine zM.of (by decide) (Nat.le_of_ble_eq_true rfl) rfl (fun p e s m args below meth c A Xc hr hnm => ?_)
  have hn := hB.1
  have loop : 3 ≤ n → ∀ (d i : Nat), n < i + d → i ≤ n → (∀ i2, i2 < i → ¬ ge_fd n (sP X Y) i2 ∧ ∀ j, i2 + 2 ≤ j → j < n → ge_nx n j ≠ i2 → ¬ ge_mtC n (sP X Y) i2 j) → zG p l e (zR0 3 71) s m args below meth c D A 4 0 0 (MQ below (zE D A (zA L f (fun r => zB (3 ≤ n ∧ ge_plC n (sP X Y)) r))) args s (zR0 3 71).cells (zR0 3 71).slots A) 12 [(0, .ref a), (1, .int (zI (i : Int)))] [] L f := by
    intro h3 d
    induction d with
    | zero => intro i h1 h2; omega
    | succ d ih =>
      intro i h1 h2 hI
      have inner : i < n → ¬ ge_fd n (sP X Y) i → ∀ (d2 j : Nat), n + 2 < j + d2 → i + 2 ≤ j → j ≤ n + 1 → (∀ j2, i + 2 ≤ j2 → j2 < j → ge_nx n j2 ≠ i → ¬ ge_mtC n (sP X Y) i j2) → zG p l e (zR0 3 71) s m args below meth c D A 4 0 0 (MQ below (zE D A (zA L f (fun r => zB (3 ≤ n ∧ ge_plC n (sP X Y)) r))) args s (zR0 3 71).cells (zR0 3 71).slots A) 34 [(0, .ref a), (1, .int (zI (i : Int))), (2, .int (zI (j : Int)))] [] L f := by
        intro hi hfd d2
        induction d2 with
        | zero => intro j g1 g0 g2; omega
        | succ d2 ih2 =>
          intro j g1 g0 g2 hJ
          have l9 : ge_nx n j < n := nx_lt (by omega)
          refine k_iload_n Xc d_S_isPlain_34 rfl rfl (n := 35) rfl ?_
          refine k_aload_n Xc d_S_isPlain_35 rfl rfl (n := 36) rfl ?_
          refine k_get Xc u_S rfl 2 (by decide) wd_32 rfl d_S_isPlain_36 (n := 39) rfl hS.1 hS.2.2.2.1 rfl ?_
          refine k_icmp_ge Xc d_S_isPlain_39 (t := 78) (n := 42) rfl rfl (by omega) (by omega) (fun h_39 => ?_) (fun h_39 => ?_)
          · refine k_iinc Xc d_S_isPlain_78 rfl (by decide) (n := 81) rfl ?_
            refine k_goto Xc d_S_isPlain_81 (t := 12) rfl ?_
            exact k_loc (ih (i + 1) (by omega) (by omega) (fun i2 q => by
              rcases Nat.lt_or_ge i2 i with q1 | q1
              · exact hI i2 q1
              · have e : i2 = i := by omega
                subst e
                exact ⟨hfd, fun j2 z1 z2 z3 => hJ j2 z1 (by omega) z3⟩)) rfl
          · refine k_aload_n Xc d_S_isPlain_42 rfl rfl (n := 43) rfl ?_
            refine k_iload_n Xc d_S_isPlain_43 rfl rfl (n := 44) rfl ?_
            refine k_qV (na := 1) Xc (m_S_next l D G hS hB.1 _ (by omega)) hS.1 hS.2.2.2.1 rfl wd_181 wd_178 wd_179 wd_180 wd_2 (by decide +kernel) ⟨by decide, by decide⟩ rfl rfl (Nat.le_of_ble_eq_true rfl) d_S_isPlain_44 (n := 47) rfl ⟨Nat.zero_le _, Nat.zero_le _⟩ (fun r_44 e_44 => ?_)
            subst e_44
            refine k_iload_n Xc d_S_isPlain_47 rfl rfl (n := 48) rfl ?_
            refine k_icmp_ne Xc d_S_isPlain_48 (t := 55) (n := 51) rfl rfl (by omega) (by omega) (fun h_48 => ?_) (fun h_48 => ?_)
            · refine k_iconst Xc d_S_isPlain_55 (n := 56) rfl ?_
              refine k_istore_n Xc d_S_isPlain_56 rfl (by decide) (n := 57) rfl ?_
              refine k_iload_n Xc d_S_isPlain_57 rfl rfl (n := 58) rfl ?_
              refine k_if_ne Xc d_S_isPlain_58 (t := 72) (n := 61) rfl rfl (by omega) (fun h_58 => absurd h_58 (by omega)) (fun _ => ?_)
              refine k_aload_n Xc d_S_isPlain_61 rfl rfl (n := 62) rfl ?_
              refine k_iload_n Xc d_S_isPlain_62 rfl rfl (n := 63) rfl ?_
              refine k_iload_n Xc d_S_isPlain_63 rfl rfl (n := 64) rfl ?_
              refine k_qV (na := 2) Xc (m_S_sidesMeet l D G hS hB _ _ (by omega) (by omega)) hS.1 hS.2.2.2.1 rfl wd_329 wd_326 wd_327 wd_328 wd_2 (by decide +kernel) ⟨by decide, by decide⟩ rfl rfl (Nat.le_of_ble_eq_true rfl) d_S_isPlain_64 (n := 67) rfl ⟨Nat.zero_le _, Nat.zero_le _⟩ (fun r_64 e_64 => ?_)
              rcases e_64 with ⟨e_64, rfl⟩ | ⟨e_64, rfl⟩
              · refine k_if_eq Xc d_S_isPlain_67 (t := 72) (n := 70) rfl rfl (by omega) (fun h_67 => absurd h_67 (by omega)) (fun _ => ?_)
                refine k_iconst Xc d_S_isPlain_70 (n := 71) rfl ?_
                refine k_iret Xc d_S_isPlain_71 hr rfl (Nat.le_refl _) (Nat.le_refl _) ⟨_, rfl, ?_, rfl, rfl⟩
                exact Or.inr ⟨fun q => (q.2 i hi).2 j (by omega) (by omega) (by omega) e_64, rfl⟩
              · refine k_if_eq Xc d_S_isPlain_67 (t := 72) (n := 70) rfl rfl (by omega) (fun _ => ?_) (fun h_67 => absurd h_67 (by omega))
                refine k_iinc Xc d_S_isPlain_72 rfl (by decide) (n := 75) rfl ?_
                refine k_goto Xc d_S_isPlain_75 (t := 34) rfl ?_
                exact k_loc (ih2 (j + 1) (by omega) (by omega) (by omega) (fun j2 q0 q1 q2 => by
                  rcases Nat.lt_or_ge j2 j with q3 | q3
                  · exact hJ j2 q0 q3 q2
                  · have e : j2 = j := by omega
                    subst e
                    first | assumption | (exact absurd (by omega) q2))) rfl
            · refine k_iconst Xc d_S_isPlain_51 (n := 52) rfl ?_
              refine k_goto Xc d_S_isPlain_52 (t := 56) rfl ?_
              refine k_istore_n Xc d_S_isPlain_56 rfl (by decide) (n := 57) rfl ?_
              refine k_iload_n Xc d_S_isPlain_57 rfl rfl (n := 58) rfl ?_
              refine k_if_ne Xc d_S_isPlain_58 (t := 72) (n := 61) rfl rfl (by omega) (fun _ => ?_) (fun h_58 => absurd h_58 (by omega))
              refine k_iinc Xc d_S_isPlain_72 rfl (by decide) (n := 75) rfl ?_
              refine k_goto Xc d_S_isPlain_75 (t := 34) rfl ?_
              exact k_loc (ih2 (j + 1) (by omega) (by omega) (by omega) (fun j2 q0 q1 q2 => by
                rcases Nat.lt_or_ge j2 j with q3 | q3
                · exact hJ j2 q0 q3 q2
                · have e : j2 = j := by omega
                  subst e
                  first | assumption | (exact absurd (by omega) q2))) rfl
      refine k_iload_n Xc d_S_isPlain_12 rfl rfl (n := 13) rfl ?_
      refine k_aload_n Xc d_S_isPlain_13 rfl rfl (n := 14) rfl ?_
      refine k_get Xc u_S rfl 2 (by decide) wd_32 rfl d_S_isPlain_14 (n := 17) rfl hS.1 hS.2.2.2.1 rfl ?_
      refine k_icmp_ge Xc d_S_isPlain_17 (t := 84) (n := 20) rfl rfl (by omega) (by omega) (fun h_17 => ?_) (fun h_17 => ?_)
      · refine k_iconst Xc d_S_isPlain_84 (n := 85) rfl ?_
        refine k_iret Xc d_S_isPlain_85 hr rfl (Nat.le_refl _) (Nat.le_refl _) ⟨_, rfl, ?_, rfl, rfl⟩
        exact Or.inl ⟨⟨h3, fun i2 q => hI i2 (by omega)⟩, rfl⟩
      · refine k_aload_n Xc d_S_isPlain_20 rfl rfl (n := 21) rfl ?_
        refine k_iload_n Xc d_S_isPlain_21 rfl rfl (n := 22) rfl ?_
        refine k_qV (na := 1) Xc (m_S_foldsBack l D G hS hB _ (by omega)) hS.1 hS.2.2.2.1 rfl wd_321 wd_318 wd_319 wd_320 wd_2 (by decide +kernel) ⟨by decide, by decide⟩ rfl rfl (Nat.le_of_ble_eq_true rfl) d_S_isPlain_22 (n := 25) rfl ⟨Nat.zero_le _, Nat.zero_le _⟩ (fun r_22 e_22 => ?_)
        rcases e_22 with ⟨e_22, rfl⟩ | ⟨e_22, rfl⟩
        · refine k_if_eq Xc d_S_isPlain_25 (t := 30) (n := 28) rfl rfl (by omega) (fun h_25 => absurd h_25 (by omega)) (fun _ => ?_)
          refine k_iconst Xc d_S_isPlain_28 (n := 29) rfl ?_
          refine k_iret Xc d_S_isPlain_29 hr rfl (Nat.le_refl _) (Nat.le_refl _) ⟨_, rfl, ?_, rfl, rfl⟩
          exact Or.inr ⟨fun q => (q.2 i (by omega)).1 e_22, rfl⟩
        · refine k_if_eq Xc d_S_isPlain_25 (t := 30) (n := 28) rfl rfl (by omega) (fun _ => ?_) (fun h_25 => absurd h_25 (by omega))
          refine k_iload_n Xc d_S_isPlain_30 rfl rfl (n := 31) rfl ?_
          refine k_iconst Xc d_S_isPlain_31 (n := 32) rfl ?_
          refine k_iadd Xc d_S_isPlain_32 (n := 33) rfl ?_
          refine k_istore_n Xc d_S_isPlain_33 rfl (by decide) (n := 34) rfl ?_
          exact k_loc (inner (by omega) (by assumption) (n + 3) (i + 2) (by omega) (by omega) (by omega) (fun j2 q0 q1 => absurd q1 (by omega))) rfl
  refine k_aload_n Xc d_S_isPlain_0 rfl rfl (n := 1) rfl ?_
  refine k_get Xc u_S rfl 2 (by decide) wd_32 rfl d_S_isPlain_1 (n := 4) rfl hS.1 hS.2.2.2.1 rfl ?_
  refine k_iconst Xc d_S_isPlain_4 (n := 5) rfl ?_
  refine k_icmp_ge Xc d_S_isPlain_5 (t := 10) (n := 8) rfl rfl (by omega) (by omega) (fun h_5 => ?_) (fun h_5 => ?_)
  · refine k_iconst Xc d_S_isPlain_10 (n := 11) rfl ?_
    refine k_istore_n Xc d_S_isPlain_11 rfl (by decide) (n := 12) rfl ?_
    exact k_loc (loop (by omega) (n + 1) 0 (by omega) (by omega) (fun i2 q => absurd q (by omega))) rfl
  · refine k_iconst Xc d_S_isPlain_8 (n := 9) rfl ?_
    refine k_iret Xc d_S_isPlain_9 hr rfl (Nat.le_refl _) (Nat.le_refl _) ⟨_, rfl, ?_, rfl, rfl⟩
    exact Or.inr ⟨fun q => by omega, rfl⟩
