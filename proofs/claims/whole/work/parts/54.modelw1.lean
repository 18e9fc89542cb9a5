-- MODEL: writers
theorem mcnt_bd (K : Int → Int) : ∀ k : Nat, 0 ≤ mcnt K k ∧ mcnt K k ≤ (k : Int)
  | 0 => by show 0 ≤ (0 : Int) ∧ (0 : Int) ≤ _; omega
  | k + 1 => by
    have := mcnt_bd K k
    rw [mcnt_s]
    split <;> omega
set_option maxRecDepth 100000 in
set_option maxHeartbeats 4000000 in
theorem m_M_corner (l : Launch) (D : va_G) (G : Nat → ClassId) {L : List Nat} {f : Nat → va_E} {o : Nat} {ra : Nat → Nat} {w : Nat} {cd hc zn kn mn om : Int} {R : Nat → Int → Int} (hM : zMo G L f o ra cd (w : Int) hc zn kn mn om R) (hw : w ≤ 12) (a b : Int) (ha : zO a) (hb : zO b) : zM l D G y_M_corner (.code y_M_corner c_M_corner 3 (some .int) :: BG) (zR0 0 0) [.ref o, .int (zI a), .int (zI b)] L f (fun v L1 f1 => L = L1 ∧ mFr f f1 o ra ∧ ((¬ (0 ≤ a ∧ a ≤ 30 ∧ 0 ≤ b ∧ b ≤ 30) ∧ v = some (.int (zI 0)) ∧ zMo G L f1 o ra 1 (w : Int) hc zn kn mn om R) ∨ ((0 ≤ a ∧ a ≤ 30 ∧ 0 ≤ b ∧ b ≤ 30) ∧ w = 12 ∧ v = some (.int (zI 0)) ∧ zMo G L f1 o ra 2 (w : Int) hc zn kn mn om R) ∨ ((0 ≤ a ∧ a ≤ 30 ∧ 0 ≤ b ∧ b ≤ 30) ∧ w < 12 ∧ v = some (.int (zI ((w : Int) + 1))) ∧ zMo G L f1 o ra 0 ((w : Int) + 1) hc zn kn mn om (va_up (va_up R 0 (iu (R 0) (w : Int) a)) 1 (iu (R 1) (w : Int) b))))) := by
  refine zM.of (by decide) (Nat.le_of_ble_eq_true rfl) rfl (fun p e s m args below meth c A Xc hr hnm => ?_)
  refine k_aload_n Xc d_M_corner_0 rfl rfl (n := 1) rfl ?_
  refine k_iload_n Xc d_M_corner_1 rfl rfl (n := 2) rfl ?_
  refine k_if_lt Xc d_M_corner_2 (t := 21) (n := 5) rfl rfl (by omega) (fun h_2 => ?_) (fun h_2 => ?_)
  · refine k_iconst Xc d_M_corner_21 (n := 22) rfl ?_
    refine k_goto Xc d_M_corner_22 (t := 39) rfl ?_
    refine k_putM_code Xc hM wd_550 d_M_corner_39 (n := 42) rfl (fun f_39 hM_39 hF_39 => ?_)
    refine k_aload_n Xc d_M_corner_42 rfl rfl (n := 43) rfl ?_
    refine k_get Xc u_M rfl 0 (by decide) wd_550 rfl d_M_corner_43 (n := 46) rfl hM_39.1 hM_39.2.2.1 rfl ?_
    refine k_if_le Xc d_M_corner_46 (t := 51) (n := 49) rfl rfl (by omega) (fun h_46 => absurd h_46 (by omega)) (fun _ => ?_)
    refine k_iconst Xc d_M_corner_49 (n := 50) rfl ?_
    refine k_iret Xc d_M_corner_50 hr rfl (Nat.le_refl _) (Nat.le_refl _) ?_
    exact ⟨rfl, (mFr_tr mFr_rf hF_39), by first | exact Or.inl ⟨by omega, rfl, hM_39⟩ | exact Or.inr (Or.inl ⟨by omega, by omega, rfl, hM_39⟩) | exact Or.inr (Or.inr ⟨by omega, by omega, rfl, hM_39⟩)⟩
  · refine k_iload_n Xc d_M_corner_5 rfl rfl (n := 6) rfl ?_
    refine k_bipush Xc d_M_corner_6 rfl (n := 8) rfl ?_
    refine k_icmp_gt Xc d_M_corner_8 (t := 21) (n := 11) rfl rfl (by omega) (by omega) (fun h_8 => ?_) (fun h_8 => ?_)
    · refine k_iconst Xc d_M_corner_21 (n := 22) rfl ?_
      refine k_goto Xc d_M_corner_22 (t := 39) rfl ?_
      refine k_putM_code Xc hM wd_550 d_M_corner_39 (n := 42) rfl (fun f_39 hM_39 hF_39 => ?_)
      refine k_aload_n Xc d_M_corner_42 rfl rfl (n := 43) rfl ?_
      refine k_get Xc u_M rfl 0 (by decide) wd_550 rfl d_M_corner_43 (n := 46) rfl hM_39.1 hM_39.2.2.1 rfl ?_
      refine k_if_le Xc d_M_corner_46 (t := 51) (n := 49) rfl rfl (by omega) (fun h_46 => absurd h_46 (by omega)) (fun _ => ?_)
      refine k_iconst Xc d_M_corner_49 (n := 50) rfl ?_
      refine k_iret Xc d_M_corner_50 hr rfl (Nat.le_refl _) (Nat.le_refl _) ?_
      exact ⟨rfl, (mFr_tr mFr_rf hF_39), by first | exact Or.inl ⟨by omega, rfl, hM_39⟩ | exact Or.inr (Or.inl ⟨by omega, by omega, rfl, hM_39⟩) | exact Or.inr (Or.inr ⟨by omega, by omega, rfl, hM_39⟩)⟩
    · refine k_iload_n Xc d_M_corner_11 rfl rfl (n := 12) rfl ?_
      refine k_if_lt Xc d_M_corner_12 (t := 21) (n := 15) rfl rfl (by omega) (fun h_12 => ?_) (fun h_12 => ?_)
      · refine k_iconst Xc d_M_corner_21 (n := 22) rfl ?_
        refine k_goto Xc d_M_corner_22 (t := 39) rfl ?_
        refine k_putM_code Xc hM wd_550 d_M_corner_39 (n := 42) rfl (fun f_39 hM_39 hF_39 => ?_)
        refine k_aload_n Xc d_M_corner_42 rfl rfl (n := 43) rfl ?_
        refine k_get Xc u_M rfl 0 (by decide) wd_550 rfl d_M_corner_43 (n := 46) rfl hM_39.1 hM_39.2.2.1 rfl ?_
        refine k_if_le Xc d_M_corner_46 (t := 51) (n := 49) rfl rfl (by omega) (fun h_46 => absurd h_46 (by omega)) (fun _ => ?_)
        refine k_iconst Xc d_M_corner_49 (n := 50) rfl ?_
        refine k_iret Xc d_M_corner_50 hr rfl (Nat.le_refl _) (Nat.le_refl _) ?_
        exact ⟨rfl, (mFr_tr mFr_rf hF_39), by first | exact Or.inl ⟨by omega, rfl, hM_39⟩ | exact Or.inr (Or.inl ⟨by omega, by omega, rfl, hM_39⟩) | exact Or.inr (Or.inr ⟨by omega, by omega, rfl, hM_39⟩)⟩
      · refine k_iload_n Xc d_M_corner_15 rfl rfl (n := 16) rfl ?_
        refine k_bipush Xc d_M_corner_16 rfl (n := 18) rfl ?_
        refine k_icmp_le Xc d_M_corner_18 (t := 25) (n := 21) rfl rfl (by omega) (by omega) (fun h_18 => ?_) (fun h_18 => ?_)
        · refine k_aload_n Xc d_M_corner_25 rfl rfl (n := 26) rfl ?_
          refine k_get Xc u_M rfl 1 (by decide) wd_551 rfl d_M_corner_26 (n := 29) rfl hM.1 hM.2.2.1 rfl ?_
          refine k_bipush Xc d_M_corner_29 rfl (n := 31) rfl ?_
          refine k_icmp_ne Xc d_M_corner_31 (t := 38) (n := 34) rfl rfl (by omega) (by omega) (fun h_31 => ?_) (fun h_31 => ?_)
          · refine k_iconst Xc d_M_corner_38 (n := 39) rfl ?_
            refine k_putM_code Xc hM wd_550 d_M_corner_39 (n := 42) rfl (fun f_39 hM_39 hF_39 => ?_)
            refine k_aload_n Xc d_M_corner_42 rfl rfl (n := 43) rfl ?_
            refine k_get Xc u_M rfl 0 (by decide) wd_550 rfl d_M_corner_43 (n := 46) rfl hM_39.1 hM_39.2.2.1 rfl ?_
            refine k_if_le Xc d_M_corner_46 (t := 51) (n := 49) rfl rfl (by omega) (fun _ => ?_) (fun h_46 => absurd h_46 (by omega))
            refine k_aload_n Xc d_M_corner_51 rfl rfl (n := 52) rfl ?_
            refine k_get Xc u_M rfl 2 (by decide) wd_552 rfl d_M_corner_52 (n := 55) rfl hM_39.1 hM_39.2.2.1 rfl ?_
            refine k_aload_n Xc d_M_corner_55 rfl rfl (n := 56) rfl ?_
            refine k_get Xc u_M rfl 1 (by decide) wd_551 rfl d_M_corner_56 (n := 59) rfl hM_39.1 hM_39.2.2.1 rfl ?_
            refine k_iload_n Xc d_M_corner_59 rfl rfl (n := 60) rfl ?_
            refine k_iastM Xc hM_39 0 (by decide) d_M_corner_60 (n := 61) rfl (by omega) (by show _ < ((12 : Nat) : Int); omega) (fun f_60 hM_60 hF_60 => ?_)
            refine k_aload_n Xc d_M_corner_61 rfl rfl (n := 62) rfl ?_
            refine k_get Xc u_M rfl 3 (by decide) wd_553 rfl d_M_corner_62 (n := 65) rfl hM_60.1 hM_60.2.2.1 rfl ?_
            refine k_aload_n Xc d_M_corner_65 rfl rfl (n := 66) rfl ?_
            refine k_get Xc u_M rfl 1 (by decide) wd_551 rfl d_M_corner_66 (n := 69) rfl hM_60.1 hM_60.2.2.1 rfl ?_
            refine k_iload_n Xc d_M_corner_69 rfl rfl (n := 70) rfl ?_
            refine k_iastM Xc hM_60 1 (by decide) d_M_corner_70 (n := 71) rfl (by omega) (by show _ < ((12 : Nat) : Int); omega) (fun f_70 hM_70 hF_70 => ?_)
            refine k_aload_n Xc d_M_corner_71 rfl rfl (n := 72) rfl ?_
            refine k_dup Xc d_M_corner_72 rfl (n := 73) rfl ?_
            refine k_get Xc u_M rfl 1 (by decide) wd_551 rfl d_M_corner_73 (n := 76) rfl hM_70.1 hM_70.2.2.1 rfl ?_
            refine k_iconst Xc d_M_corner_76 (n := 77) rfl ?_
            refine k_iadd Xc d_M_corner_77 (n := 78) rfl ?_
            refine k_putM_waiting Xc hM_70 wd_551 d_M_corner_78 (n := 81) rfl (fun f_78 hM_78 hF_78 => ?_)
            refine k_aload_n Xc d_M_corner_81 rfl rfl (n := 82) rfl ?_
            refine k_get Xc u_M rfl 1 (by decide) wd_551 rfl d_M_corner_82 (n := 85) rfl hM_78.1 hM_78.2.2.1 rfl ?_
            refine k_iret Xc d_M_corner_85 hr rfl (Nat.le_refl _) (Nat.le_refl _) ?_
            exact ⟨rfl, (mFr_tr (mFr_tr (mFr_tr (mFr_tr mFr_rf hF_39) hF_60) hF_70) hF_78), by first | exact Or.inl ⟨by omega, rfl, hM_78⟩ | exact Or.inr (Or.inl ⟨by omega, by omega, rfl, hM_78⟩) | exact Or.inr (Or.inr ⟨by omega, by omega, rfl, hM_78⟩)⟩
          · refine k_iconst Xc d_M_corner_34 (n := 35) rfl ?_
            refine k_goto Xc d_M_corner_35 (t := 39) rfl ?_
            refine k_putM_code Xc hM wd_550 d_M_corner_39 (n := 42) rfl (fun f_39 hM_39 hF_39 => ?_)
            refine k_aload_n Xc d_M_corner_42 rfl rfl (n := 43) rfl ?_
            refine k_get Xc u_M rfl 0 (by decide) wd_550 rfl d_M_corner_43 (n := 46) rfl hM_39.1 hM_39.2.2.1 rfl ?_
            refine k_if_le Xc d_M_corner_46 (t := 51) (n := 49) rfl rfl (by omega) (fun h_46 => absurd h_46 (by omega)) (fun _ => ?_)
            refine k_iconst Xc d_M_corner_49 (n := 50) rfl ?_
            refine k_iret Xc d_M_corner_50 hr rfl (Nat.le_refl _) (Nat.le_refl _) ?_
            exact ⟨rfl, (mFr_tr mFr_rf hF_39), by first | exact Or.inl ⟨by omega, rfl, hM_39⟩ | exact Or.inr (Or.inl ⟨by omega, by omega, rfl, hM_39⟩) | exact Or.inr (Or.inr ⟨by omega, by omega, rfl, hM_39⟩)⟩
        · refine k_iconst Xc d_M_corner_21 (n := 22) rfl ?_
          refine k_goto Xc d_M_corner_22 (t := 39) rfl ?_
          refine k_putM_code Xc hM wd_550 d_M_corner_39 (n := 42) rfl (fun f_39 hM_39 hF_39 => ?_)
          refine k_aload_n Xc d_M_corner_42 rfl rfl (n := 43) rfl ?_
          refine k_get Xc u_M rfl 0 (by decide) wd_550 rfl d_M_corner_43 (n := 46) rfl hM_39.1 hM_39.2.2.1 rfl ?_
          refine k_if_le Xc d_M_corner_46 (t := 51) (n := 49) rfl rfl (by omega) (fun h_46 => absurd h_46 (by omega)) (fun _ => ?_)
          refine k_iconst Xc d_M_corner_49 (n := 50) rfl ?_
          refine k_iret Xc d_M_corner_50 hr rfl (Nat.le_refl _) (Nat.le_refl _) ?_
          exact ⟨rfl, (mFr_tr mFr_rf hF_39), by first | exact Or.inl ⟨by omega, rfl, hM_39⟩ | exact Or.inr (Or.inl ⟨by omega, by omega, rfl, hM_39⟩) | exact Or.inr (Or.inr ⟨by omega, by omega, rfl, hM_39⟩)⟩
set_option maxRecDepth 100000 in
set_option maxHeartbeats 4000000 in
theorem m_M_clear (l : Launch) (D : va_G) (G : Nat → ClassId) {L : List Nat} {f : Nat → va_E} {o : Nat} {ra : Nat → Nat} {cd wt hc zn kn mn om : Int} {R : Nat → Int → Int} (hM : zMo G L f o ra cd wt hc zn kn mn om R) (hp : ∀ j : Int, 0 ≤ j → j < 12 → -1 ≤ R 13 j ∧ R 13 j ≤ 5) : zM l D G y_M_clear (.code y_M_clear c_M_clear 1 none :: BG) (zR0 1 22) [.ref o] L f (fun v L1 f1 => L = L1 ∧ v = none ∧ mFr f f1 o ra ∧ ((0 < mcnt (R 13) 12 ∧ zMo G L f1 o ra 1 wt hc zn kn mn om R) ∨ (¬ 0 < mcnt (R 13) 12 ∧ zMo G L f1 o ra 0 wt hc 0 kn mn om R))) := by
  refine zM.of (by decide) (Nat.le_of_ble_eq_true rfl) rfl (fun p e s m args below meth c A Xc hr hnm => ?_)
  have mb := mcnt_bd (R 13) 12
  refine k_aload_n Xc d_M_clear_0 rfl rfl (n := 1) rfl ?_
  refine k_aload_n Xc d_M_clear_1 rfl rfl (n := 2) rfl ?_
  refine k_qV (na := 0) Xc (m_M_count l D G hM hp) hM.1 hM.2.2.1 rfl wd_656 wd_653 wd_655 ws_9 wd_6 (by decide +kernel) ⟨by decide, by decide⟩ rfl rfl (Nat.le_of_ble_eq_true rfl) d_M_clear_2 (n := 5) rfl ⟨Nat.zero_le _, Nat.zero_le _⟩ (fun r_2 e_2 => ?_)
  subst e_2
  refine k_if_le Xc d_M_clear_5 (t := 12) (n := 8) rfl rfl (by omega) (fun h_5 => ?_) (fun h_5 => ?_)
  · refine k_iconst Xc d_M_clear_12 (n := 13) rfl ?_
    refine k_putM_code Xc hM wd_550 d_M_clear_13 (n := 16) rfl (fun f_13 hM_13 hF_13 => ?_)
    refine k_aload_n Xc d_M_clear_16 rfl rfl (n := 17) rfl ?_
    refine k_aload_n Xc d_M_clear_17 rfl rfl (n := 18) rfl ?_
    refine k_get Xc u_M rfl 0 (by decide) wd_550 rfl d_M_clear_18 (n := 21) rfl hM_13.1 hM_13.2.2.1 rfl ?_
    refine k_if_le Xc d_M_clear_21 (t := 31) (n := 24) rfl rfl (by omega) (fun _ => ?_) (fun h_21 => absurd h_21 (by omega))
    refine k_iconst Xc d_M_clear_31 (n := 32) rfl ?_
    refine k_putM_zones Xc hM_13 wd_557 d_M_clear_32 (n := 35) rfl (fun f_32 hM_32 hF_32 => ?_)
    refine k_vret Xc d_M_clear_35 hr (Nat.le_refl _) (Nat.le_refl _) ?_
    exact ⟨rfl, rfl, (mFr_tr (mFr_tr mFr_rf hF_13) hF_32), by first | exact Or.inl ⟨by omega, hM_32⟩ | exact Or.inr ⟨by omega, hM_32⟩⟩
  · refine k_iconst Xc d_M_clear_8 (n := 9) rfl ?_
    refine k_goto Xc d_M_clear_9 (t := 13) rfl ?_
    refine k_putM_code Xc hM wd_550 d_M_clear_13 (n := 16) rfl (fun f_13 hM_13 hF_13 => ?_)
    refine k_aload_n Xc d_M_clear_16 rfl rfl (n := 17) rfl ?_
    refine k_aload_n Xc d_M_clear_17 rfl rfl (n := 18) rfl ?_
    refine k_get Xc u_M rfl 0 (by decide) wd_550 rfl d_M_clear_18 (n := 21) rfl hM_13.1 hM_13.2.2.1 rfl ?_
    refine k_if_le Xc d_M_clear_21 (t := 31) (n := 24) rfl rfl (by omega) (fun h_21 => absurd h_21 (by omega)) (fun _ => ?_)
    refine k_aload_n Xc d_M_clear_24 rfl rfl (n := 25) rfl ?_
    refine k_get Xc u_M rfl 7 (by decide) wd_557 rfl d_M_clear_25 (n := 28) rfl hM_13.1 hM_13.2.2.1 rfl ?_
    refine k_goto Xc d_M_clear_28 (t := 32) rfl ?_
    refine k_putM_zones Xc hM_13 wd_557 d_M_clear_32 (n := 35) rfl (fun f_32 hM_32 hF_32 => ?_)
    refine k_vret Xc d_M_clear_35 hr (Nat.le_refl _) (Nat.le_refl _) ?_
    exact ⟨rfl, rfl, (mFr_tr (mFr_tr mFr_rf hF_13) hF_32), by first | exact Or.inl ⟨by omega, hM_32⟩ | exact Or.inr ⟨by omega, hM_32⟩⟩
set_option maxRecDepth 100000 in
set_option maxHeartbeats 4000000 in
theorem m_M_take (l : Launch) (D : va_G) (G : Nat → ClassId) {L : List Nat} {f : Nat → va_E} {o : Nat} {ra : Nat → Nat} {cd wt hc zn kn mn om : Int} {R : Nat → Int → Int} (hM : zMo G L f o ra cd wt hc zn kn mn om R) (hp : ∀ j : Int, 0 ≤ j → j < 12 → -1 ≤ R 13 j ∧ R 13 j ≤ 5) (k : Int) (hk : zO k) : zM l D G y_M_take (.code y_M_take c_M_take 3 (some .int) :: BG) (zR0 1 21) [.ref o, .int (zI k)] L f (fun v L1 f1 => L = L1 ∧ mFr f f1 o ra ∧ ((¬ (0 ≤ k ∧ k < 12 ∧ 0 ≤ R 13 k) ∧ v = some (.int (zI 0)) ∧ zMo G L f1 o ra 1 wt hc zn kn mn om R) ∨ ((0 ≤ k ∧ k < 12 ∧ 0 ≤ R 13 k) ∧ v = some (.int (zI (R 13 k))) ∧ zMo G L f1 o ra 0 wt hc zn kn mn om (va_up R 13 (iu (R 13) k (-1)))))) := by
  refine zM.of (by decide) (Nat.le_of_ble_eq_true rfl) rfl (fun p e s m args below meth c A Xc hr hnm => ?_)
  refine k_aload_n Xc d_M_take_0 rfl rfl (n := 1) rfl ?_
  refine k_aload_n Xc d_M_take_1 rfl rfl (n := 2) rfl ?_
  refine k_iload_n Xc d_M_take_2 rfl rfl (n := 3) rfl ?_
  refine k_qV (na := 1) Xc (m_M_isPart l D G hM hp _ (by omega)) hM.1 hM.2.2.1 rfl wd_769 wd_766 wd_768 ws_28 wd_6 (by decide +kernel) ⟨by decide, by decide⟩ rfl rfl (Nat.le_of_ble_eq_true rfl) d_M_take_3 (n := 6) rfl ⟨Nat.zero_le _, Nat.zero_le _⟩ (fun r_3 e_3 => ?_)
  rcases e_3 with ⟨e_3, rfl⟩ | ⟨e_3, rfl⟩
  · refine k_if_eq Xc d_M_take_6 (t := 13) (n := 9) rfl rfl (by omega) (fun h_6 => absurd h_6 (by omega)) (fun _ => ?_)
    refine k_iconst Xc d_M_take_9 (n := 10) rfl ?_
    refine k_goto Xc d_M_take_10 (t := 14) rfl ?_
    refine k_putM_code Xc hM wd_550 d_M_take_14 (n := 17) rfl (fun f_14 hM_14 hF_14 => ?_)
    refine k_aload_n Xc d_M_take_17 rfl rfl (n := 18) rfl ?_
    refine k_get Xc u_M rfl 0 (by decide) wd_550 rfl d_M_take_18 (n := 21) rfl hM_14.1 hM_14.2.2.1 rfl ?_
    refine k_if_le Xc d_M_take_21 (t := 26) (n := 24) rfl rfl (by omega) (fun _ => ?_) (fun h_21 => absurd h_21 (by omega))
    refine k_aload_n Xc d_M_take_26 rfl rfl (n := 27) rfl ?_
    refine k_get Xc u_M rfl 18 (by decide) wd_568 rfl d_M_take_27 (n := 30) rfl hM_14.1 hM_14.2.2.1 rfl ?_
    refine k_iload_n Xc d_M_take_30 rfl rfl (n := 31) rfl ?_
    refine k_iald Xc d_M_take_31 (n := 32) rfl (hM_14.2.1 13 (by decide)) (mr_13 hM_14) (by omega) (by omega) (by decide) ?_
    refine k_istore_n Xc d_M_take_32 rfl (by decide) (n := 33) rfl ?_
    refine k_aload_n Xc d_M_take_33 rfl rfl (n := 34) rfl ?_
    refine k_get Xc u_M rfl 18 (by decide) wd_568 rfl d_M_take_34 (n := 37) rfl hM_14.1 hM_14.2.2.1 rfl ?_
    refine k_iload_n Xc d_M_take_37 rfl rfl (n := 38) rfl ?_
    refine k_iconst Xc d_M_take_38 (n := 39) rfl ?_
    refine k_iastM Xc hM_14 13 (by decide) d_M_take_39 (n := 40) rfl (by omega) (by show _ < ((12 : Nat) : Int); omega) (fun f_39 hM_39 hF_39 => ?_)
    refine k_iload_n Xc d_M_take_40 rfl rfl (n := 41) rfl ?_
    refine k_iret Xc d_M_take_41 hr rfl (Nat.le_refl _) (Nat.le_refl _) ?_
    exact ⟨rfl, (mFr_tr (mFr_tr mFr_rf hF_14) hF_39), by first | exact Or.inl ⟨by omega, rfl, hM_39⟩ | exact Or.inr ⟨by omega, rfl, hM_39⟩⟩
  · refine k_if_eq Xc d_M_take_6 (t := 13) (n := 9) rfl rfl (by omega) (fun _ => ?_) (fun h_6 => absurd h_6 (by omega))
    refine k_iconst Xc d_M_take_13 (n := 14) rfl ?_
    refine k_putM_code Xc hM wd_550 d_M_take_14 (n := 17) rfl (fun f_14 hM_14 hF_14 => ?_)
    refine k_aload_n Xc d_M_take_17 rfl rfl (n := 18) rfl ?_
    refine k_get Xc u_M rfl 0 (by decide) wd_550 rfl d_M_take_18 (n := 21) rfl hM_14.1 hM_14.2.2.1 rfl ?_
    refine k_if_le Xc d_M_take_21 (t := 26) (n := 24) rfl rfl (by omega) (fun h_21 => absurd h_21 (by omega)) (fun _ => ?_)
    refine k_iconst Xc d_M_take_24 (n := 25) rfl ?_
    refine k_iret Xc d_M_take_25 hr rfl (Nat.le_refl _) (Nat.le_refl _) ?_
    exact ⟨rfl, (mFr_tr mFr_rf hF_14), by first | exact Or.inl ⟨by omega, rfl, hM_14⟩ | exact Or.inr ⟨by omega, rfl, hM_14⟩⟩
set_option maxRecDepth 100000 in
set_option maxHeartbeats 4000000 in
theorem m_M_part (l : Launch) (D : va_G) (G : Nat → ClassId) {L : List Nat} {f : Nat → va_E} {o : Nat} {ra : Nat → Nat} {cd wt hc zn kn mn om : Int} {R : Nat → Int → Int} (hM : zMo G L f o ra cd wt hc zn kn mn om R) (hp : ∀ j : Int, 0 ≤ j → j < 12 → -1 ≤ R 13 j ∧ R 13 j ≤ 5) (k t : Int) (hk : zO k) (ht : zO t) : zM l D G y_M_part (.code y_M_part c_M_part 3 (some .int) :: BG) (zR0 1 21) [.ref o, .int (zI k), .int (zI t)] L f (fun v L1 f1 => L = L1 ∧ mFr f f1 o ra ∧ ((¬ (0 ≤ t ∧ t ≤ 3) ∧ v = some (.int (zI 0)) ∧ zMo G L f1 o ra 1 wt hc zn kn mn om R) ∨ ((0 ≤ t ∧ t ≤ 3) ∧ ¬ (0 ≤ k ∧ k < 12 ∧ 0 ≤ R 13 k) ∧ v = some (.int (zI 0)) ∧ zMo G L f1 o ra 2 wt hc zn kn mn om R) ∨ ((0 ≤ t ∧ t ≤ 3) ∧ (0 ≤ k ∧ k < 12 ∧ 0 ≤ R 13 k) ∧ v = some (.int (zI (if t = 0 then R 13 k else if t = 1 then R 14 k else if t = 2 then R 15 k else R 16 k))) ∧ zMo G L f1 o ra 0 wt hc zn kn mn om R))) := by
  refine zM.of (by decide) (Nat.le_of_ble_eq_true rfl) rfl (fun p e s m args below meth c A Xc hr hnm => ?_)
  refine k_aload_n Xc d_M_part_0 rfl rfl (n := 1) rfl ?_
  refine k_iload_n Xc d_M_part_1 rfl rfl (n := 2) rfl ?_
  refine k_if_lt Xc d_M_part_2 (t := 10) (n := 5) rfl rfl (by omega) (fun h_2 => ?_) (fun h_2 => ?_)
  · refine k_iconst Xc d_M_part_10 (n := 11) rfl ?_
    refine k_goto Xc d_M_part_11 (t := 27) rfl ?_
    refine k_putM_code Xc hM wd_550 d_M_part_27 (n := 30) rfl (fun f_27 hM_27 hF_27 => ?_)
    refine k_aload_n Xc d_M_part_30 rfl rfl (n := 31) rfl ?_
    refine k_get Xc u_M rfl 0 (by decide) wd_550 rfl d_M_part_31 (n := 34) rfl hM_27.1 hM_27.2.2.1 rfl ?_
    refine k_if_le Xc d_M_part_34 (t := 39) (n := 37) rfl rfl (by omega) (fun h_34 => absurd h_34 (by omega)) (fun _ => ?_)
    refine k_iconst Xc d_M_part_37 (n := 38) rfl ?_
    refine k_iret Xc d_M_part_38 hr rfl (Nat.le_refl _) (Nat.le_refl _) ?_
    exact ⟨rfl, (mFr_tr mFr_rf hF_27), by first | exact Or.inl ⟨by omega, rfl, hM_27⟩ | exact Or.inr (Or.inl ⟨by omega, by omega, rfl, hM_27⟩) | exact Or.inr (Or.inr ⟨by omega, by omega, by first | (rw [if_pos (by omega)]) | (rw [if_neg (by omega), if_pos (by omega)]) | (rw [if_neg (by omega), if_neg (by omega), if_pos (by omega)]) | (rw [if_neg (by omega), if_neg (by omega), if_neg (by omega)]), hM_27⟩)⟩
  · refine k_iload_n Xc d_M_part_5 rfl rfl (n := 6) rfl ?_
    refine k_iconst Xc d_M_part_6 (n := 7) rfl ?_
    refine k_icmp_le Xc d_M_part_7 (t := 14) (n := 10) rfl rfl (by omega) (by omega) (fun h_7 => ?_) (fun h_7 => ?_)
    · refine k_aload_n Xc d_M_part_14 rfl rfl (n := 15) rfl ?_
      refine k_iload_n Xc d_M_part_15 rfl rfl (n := 16) rfl ?_
      refine k_qV (na := 1) Xc (m_M_isPart l D G hM hp _ (by omega)) hM.1 hM.2.2.1 rfl wd_769 wd_766 wd_768 ws_28 wd_6 (by decide +kernel) ⟨by decide, by decide⟩ rfl rfl (Nat.le_of_ble_eq_true rfl) d_M_part_16 (n := 19) rfl ⟨Nat.zero_le _, Nat.zero_le _⟩ (fun r_16 e_16 => ?_)
      rcases e_16 with ⟨e_16, rfl⟩ | ⟨e_16, rfl⟩
      · refine k_if_ne Xc d_M_part_19 (t := 26) (n := 22) rfl rfl (by omega) (fun _ => ?_) (fun h_19 => absurd h_19 (by omega))
        refine k_iconst Xc d_M_part_26 (n := 27) rfl ?_
        refine k_putM_code Xc hM wd_550 d_M_part_27 (n := 30) rfl (fun f_27 hM_27 hF_27 => ?_)
        refine k_aload_n Xc d_M_part_30 rfl rfl (n := 31) rfl ?_
        refine k_get Xc u_M rfl 0 (by decide) wd_550 rfl d_M_part_31 (n := 34) rfl hM_27.1 hM_27.2.2.1 rfl ?_
        refine k_if_le Xc d_M_part_34 (t := 39) (n := 37) rfl rfl (by omega) (fun _ => ?_) (fun h_34 => absurd h_34 (by omega))
        refine k_iload_n Xc d_M_part_39 rfl rfl (n := 40) rfl ?_
        refine k_if_ne Xc d_M_part_40 (t := 52) (n := 43) rfl rfl (by omega) (fun h_40 => ?_) (fun h_40 => ?_)
        · refine k_iload_n Xc d_M_part_52 rfl rfl (n := 53) rfl ?_
          refine k_iconst Xc d_M_part_53 (n := 54) rfl ?_
          refine k_icmp_ne Xc d_M_part_54 (t := 66) (n := 57) rfl rfl (by omega) (by omega) (fun h_54 => ?_) (fun h_54 => ?_)
          · refine k_iload_n Xc d_M_part_66 rfl rfl (n := 67) rfl ?_
            refine k_iconst Xc d_M_part_67 (n := 68) rfl ?_
            refine k_icmp_ne Xc d_M_part_68 (t := 80) (n := 71) rfl rfl (by omega) (by omega) (fun h_68 => ?_) (fun h_68 => ?_)
            · refine k_aload_n Xc d_M_part_80 rfl rfl (n := 81) rfl ?_
              refine k_get Xc u_M rfl 21 (by decide) wd_571 rfl d_M_part_81 (n := 84) rfl hM_27.1 hM_27.2.2.1 rfl ?_
              refine k_iload_n Xc d_M_part_84 rfl rfl (n := 85) rfl ?_
              refine k_iald Xc d_M_part_85 (n := 86) rfl (hM_27.2.1 16 (by decide)) (mr_16 hM_27) (by omega) (by omega) (by decide) ?_
              refine k_iret Xc d_M_part_86 hr rfl (Nat.le_refl _) (Nat.le_refl _) ?_
              exact ⟨rfl, (mFr_tr mFr_rf hF_27), by first | exact Or.inl ⟨by omega, rfl, hM_27⟩ | exact Or.inr (Or.inl ⟨by omega, by omega, rfl, hM_27⟩) | exact Or.inr (Or.inr ⟨by omega, by omega, by first | (rw [if_pos (by omega)]) | (rw [if_neg (by omega), if_pos (by omega)]) | (rw [if_neg (by omega), if_neg (by omega), if_pos (by omega)]) | (rw [if_neg (by omega), if_neg (by omega), if_neg (by omega)]), hM_27⟩)⟩
            · refine k_aload_n Xc d_M_part_71 rfl rfl (n := 72) rfl ?_
              refine k_get Xc u_M rfl 20 (by decide) wd_570 rfl d_M_part_72 (n := 75) rfl hM_27.1 hM_27.2.2.1 rfl ?_
              refine k_iload_n Xc d_M_part_75 rfl rfl (n := 76) rfl ?_
              refine k_iald Xc d_M_part_76 (n := 77) rfl (hM_27.2.1 15 (by decide)) (mr_15 hM_27) (by omega) (by omega) (by decide) ?_
              refine k_goto Xc d_M_part_77 (t := 86) rfl ?_
              refine k_iret Xc d_M_part_86 hr rfl (Nat.le_refl _) (Nat.le_refl _) ?_
              exact ⟨rfl, (mFr_tr mFr_rf hF_27), by first | exact Or.inl ⟨by omega, rfl, hM_27⟩ | exact Or.inr (Or.inl ⟨by omega, by omega, rfl, hM_27⟩) | exact Or.inr (Or.inr ⟨by omega, by omega, by first | (rw [if_pos (by omega)]) | (rw [if_neg (by omega), if_pos (by omega)]) | (rw [if_neg (by omega), if_neg (by omega), if_pos (by omega)]) | (rw [if_neg (by omega), if_neg (by omega), if_neg (by omega)]), hM_27⟩)⟩
          · refine k_aload_n Xc d_M_part_57 rfl rfl (n := 58) rfl ?_
            refine k_get Xc u_M rfl 19 (by decide) wd_569 rfl d_M_part_58 (n := 61) rfl hM_27.1 hM_27.2.2.1 rfl ?_
            refine k_iload_n Xc d_M_part_61 rfl rfl (n := 62) rfl ?_
            refine k_iald Xc d_M_part_62 (n := 63) rfl (hM_27.2.1 14 (by decide)) (mr_14 hM_27) (by omega) (by omega) (by decide) ?_
            refine k_goto Xc d_M_part_63 (t := 86) rfl ?_
            refine k_iret Xc d_M_part_86 hr rfl (Nat.le_refl _) (Nat.le_refl _) ?_
            exact ⟨rfl, (mFr_tr mFr_rf hF_27), by first | exact Or.inl ⟨by omega, rfl, hM_27⟩ | exact Or.inr (Or.inl ⟨by omega, by omega, rfl, hM_27⟩) | exact Or.inr (Or.inr ⟨by omega, by omega, by first | (rw [if_pos (by omega)]) | (rw [if_neg (by omega), if_pos (by omega)]) | (rw [if_neg (by omega), if_neg (by omega), if_pos (by omega)]) | (rw [if_neg (by omega), if_neg (by omega), if_neg (by omega)]), hM_27⟩)⟩
        · refine k_aload_n Xc d_M_part_43 rfl rfl (n := 44) rfl ?_
          refine k_get Xc u_M rfl 18 (by decide) wd_568 rfl d_M_part_44 (n := 47) rfl hM_27.1 hM_27.2.2.1 rfl ?_
          refine k_iload_n Xc d_M_part_47 rfl rfl (n := 48) rfl ?_
          refine k_iald Xc d_M_part_48 (n := 49) rfl (hM_27.2.1 13 (by decide)) (mr_13 hM_27) (by omega) (by omega) (by decide) ?_
          refine k_goto Xc d_M_part_49 (t := 86) rfl ?_
          refine k_iret Xc d_M_part_86 hr rfl (Nat.le_refl _) (Nat.le_refl _) ?_
          exact ⟨rfl, (mFr_tr mFr_rf hF_27), by first | exact Or.inl ⟨by omega, rfl, hM_27⟩ | exact Or.inr (Or.inl ⟨by omega, by omega, rfl, hM_27⟩) | exact Or.inr (Or.inr ⟨by omega, by omega, by first | (rw [if_pos (by omega)]) | (rw [if_neg (by omega), if_pos (by omega)]) | (rw [if_neg (by omega), if_neg (by omega), if_pos (by omega)]) | (rw [if_neg (by omega), if_neg (by omega), if_neg (by omega)]), hM_27⟩)⟩
      · refine k_if_ne Xc d_M_part_19 (t := 26) (n := 22) rfl rfl (by omega) (fun h_19 => absurd h_19 (by omega)) (fun _ => ?_)
        refine k_iconst Xc d_M_part_22 (n := 23) rfl ?_
        refine k_goto Xc d_M_part_23 (t := 27) rfl ?_
        refine k_putM_code Xc hM wd_550 d_M_part_27 (n := 30) rfl (fun f_27 hM_27 hF_27 => ?_)
        refine k_aload_n Xc d_M_part_30 rfl rfl (n := 31) rfl ?_
        refine k_get Xc u_M rfl 0 (by decide) wd_550 rfl d_M_part_31 (n := 34) rfl hM_27.1 hM_27.2.2.1 rfl ?_
        refine k_if_le Xc d_M_part_34 (t := 39) (n := 37) rfl rfl (by omega) (fun h_34 => absurd h_34 (by omega)) (fun _ => ?_)
        refine k_iconst Xc d_M_part_37 (n := 38) rfl ?_
        refine k_iret Xc d_M_part_38 hr rfl (Nat.le_refl _) (Nat.le_refl _) ?_
        exact ⟨rfl, (mFr_tr mFr_rf hF_27), by first | exact Or.inl ⟨by omega, rfl, hM_27⟩ | exact Or.inr (Or.inl ⟨by omega, by omega, rfl, hM_27⟩) | exact Or.inr (Or.inr ⟨by omega, by omega, by first | (rw [if_pos (by omega)]) | (rw [if_neg (by omega), if_pos (by omega)]) | (rw [if_neg (by omega), if_neg (by omega), if_pos (by omega)]) | (rw [if_neg (by omega), if_neg (by omega), if_neg (by omega)]), hM_27⟩)⟩
    · refine k_iconst Xc d_M_part_10 (n := 11) rfl ?_
      refine k_goto Xc d_M_part_11 (t := 27) rfl ?_
      refine k_putM_code Xc hM wd_550 d_M_part_27 (n := 30) rfl (fun f_27 hM_27 hF_27 => ?_)
      refine k_aload_n Xc d_M_part_30 rfl rfl (n := 31) rfl ?_
      refine k_get Xc u_M rfl 0 (by decide) wd_550 rfl d_M_part_31 (n := 34) rfl hM_27.1 hM_27.2.2.1 rfl ?_
      refine k_if_le Xc d_M_part_34 (t := 39) (n := 37) rfl rfl (by omega) (fun h_34 => absurd h_34 (by omega)) (fun _ => ?_)
      refine k_iconst Xc d_M_part_37 (n := 38) rfl ?_
      refine k_iret Xc d_M_part_38 hr rfl (Nat.le_refl _) (Nat.le_refl _) ?_
      exact ⟨rfl, (mFr_tr mFr_rf hF_27), by first | exact Or.inl ⟨by omega, rfl, hM_27⟩ | exact Or.inr (Or.inl ⟨by omega, by omega, rfl, hM_27⟩) | exact Or.inr (Or.inr ⟨by omega, by omega, by first | (rw [if_pos (by omega)]) | (rw [if_neg (by omega), if_pos (by omega)]) | (rw [if_neg (by omega), if_neg (by omega), if_pos (by omega)]) | (rw [if_neg (by omega), if_neg (by omega), if_neg (by omega)]), hM_27⟩)⟩
set_option maxRecDepth 100000 in
set_option maxHeartbeats 4000000 in
theorem m_M_parts (l : Launch) (D : va_G) (G : Nat → ClassId) {L : List Nat} {f : Nat → va_E} {o : Nat} {ra : Nat → Nat} {cd wt hc zn kn mn om : Int} {R : Nat → Int → Int} (hM : zMo G L f o ra cd wt hc zn kn mn om R) (hp : ∀ j : Int, 0 ≤ j → j < 12 → -1 ≤ R 13 j ∧ R 13 j ≤ 5) : zM l D G y_M_parts (.code y_M_parts c_M_parts 1 (some .int) :: BG) (zR0 1 22) [.ref o] L f (fun v L1 f1 => L = L1 ∧ mFr f f1 o ra ∧ v = some (.int (zI (mcnt (R 13) 12))) ∧ zMo G L f1 o ra 0 wt hc zn kn mn om R) := by
  refine zM.of (by decide) (Nat.le_of_ble_eq_true rfl) rfl (fun p e s m args below meth c A Xc hr hnm => ?_)
  refine k_aload_n Xc d_M_parts_0 rfl rfl (n := 1) rfl ?_
  refine k_iconst Xc d_M_parts_1 (n := 2) rfl ?_
  refine k_putM_code Xc hM wd_550 d_M_parts_2 (n := 5) rfl (fun f_2 hM_2 hF_2 => ?_)
  refine k_aload_n Xc d_M_parts_5 rfl rfl (n := 6) rfl ?_
  refine k_qV (na := 0) Xc (m_M_count l D G hM_2 hp) hM_2.1 hM_2.2.2.1 rfl wd_656 wd_653 wd_655 ws_9 wd_6 (by decide +kernel) ⟨by decide, by decide⟩ rfl rfl (Nat.le_of_ble_eq_true rfl) d_M_parts_6 (n := 9) rfl ⟨Nat.zero_le _, Nat.zero_le _⟩ (fun r_6 e_6 => ?_)
  subst e_6
  refine k_iret Xc d_M_parts_9 hr rfl (Nat.le_refl _) (Nat.le_refl _) ?_
  exact ⟨rfl, (mFr_tr mFr_rf hF_2), rfl, hM_2⟩
set_option maxRecDepth 100000 in
set_option maxHeartbeats 4000000 in
theorem m_M_strip (l : Launch) (D : va_G) (G : Nat → ClassId) {L : List Nat} {f : Nat → va_E} {o : Nat} {ra : Nat → Nat} {cd wt hc zn kn mn om : Int} {R : Nat → Int → Int} (hM : zMo G L f o ra cd wt hc zn kn mn om R) (hp : ∀ j : Int, 0 ≤ j → j < 12 → -1 ≤ R 13 j ∧ R 13 j ≤ 5) : zM l D G y_M_strip (.code y_M_strip c_M_strip 3 (some .int) :: BG) (zR0 1 22) [.ref o] L f (fun v L1 f1 => L = L1 ∧ mFr f f1 o ra ∧ v = some (.int (zI (mcnt (R 13) 12))) ∧ ∃ R1 : Nat → Int → Int, (∀ k, k ≠ 13 → R1 k = R k) ∧ (∀ j : Nat, j < 12 → R1 13 (j : Int) = -1) ∧ zMo G L f1 o ra 0 wt hc zn kn mn om R1) := by
  refine zM.of (by decide) (Nat.le_of_ble_eq_true rfl) rfl (fun p e s m args below meth c A Xc hr hnm => ?_)
  have loop : ∀ (d i : Nat) (g : Nat → va_E) (R1 : Nat → Int → Int), 12 < i + d → i ≤ 12 → zMo G L g o ra 0 wt hc zn kn mn om R1 → mFr f g o ra → (∀ k, k ≠ 13 → R1 k = R k) → (∀ j : Nat, j < i → R1 13 (j : Int) = -1) → zG p l e (zR0 1 22) s m args below meth c D A 3 0 0 (MQ below (zE D A (fun v L1 f1 => L = L1 ∧ mFr f f1 o ra ∧ v = some (.int (zI (mcnt (R 13) 12))) ∧ ∃ R1 : Nat → Int → Int, (∀ k, k ≠ 13 → R1 k = R k) ∧ (∀ j : Nat, j < 12 → R1 13 (j : Int) = -1) ∧ zMo G L f1 o ra 0 wt hc zn kn mn om R1)) args s (zR0 1 22).cells (zR0 1 22).slots A) 12 [(0, .ref o), (1, .int (zI (mcnt (R 13) 12))), (2, .int (zI (i : Int)))] [] L g := by
    intro d
    induction d with
    | zero => intro i g R1 h1 h2; omega
    | succ d ih =>
      intro i g R1 h1 h2 hG hF hK hJ
      refine k_iload_n Xc d_M_strip_12 rfl rfl (n := 13) rfl ?_
      refine k_bipush Xc d_M_strip_13 rfl (n := 15) rfl ?_
      refine k_icmp_ge Xc d_M_strip_15 (t := 31) (n := 18) rfl rfl (by omega) (by omega) (fun h_15 => ?_) (fun h_15 => ?_)
      · refine k_iload_n Xc d_M_strip_31 rfl rfl (n := 32) rfl ?_
        refine k_iret Xc d_M_strip_32 hr rfl (Nat.le_refl _) (Nat.le_refl _) ?_
        exact ⟨rfl, hF, rfl, R1, hK, fun j hj => hJ j (by omega), hG⟩
      · refine k_aload_n Xc d_M_strip_18 rfl rfl (n := 19) rfl ?_
        refine k_get Xc u_M rfl 18 (by decide) wd_568 rfl d_M_strip_19 (n := 22) rfl hG.1 hG.2.2.1 rfl ?_
        refine k_iload_n Xc d_M_strip_22 rfl rfl (n := 23) rfl ?_
        refine k_iconst Xc d_M_strip_23 (n := 24) rfl ?_
        refine k_iastM Xc hG 13 (by decide) d_M_strip_24 (n := 25) rfl (by omega) (by show _ < ((12 : Nat) : Int); omega) (fun f_24 hM_24 hF_24 => ?_)
        refine k_iinc Xc d_M_strip_25 rfl (by decide) (n := 28) rfl ?_
        refine k_goto Xc d_M_strip_28 (t := 12) rfl ?_
        exact k_loc (ih (i + 1) _ _ (by omega) (by omega) hM_24 (mFr_tr hF hF_24) (fun k q => by rw [va_up_ne _ _ q]; exact hK k q) (fun j hj => by
          rw [va_up_self]
          rcases Nat.lt_or_ge j i with q | q
          · rw [iu_nat q]; exact hJ j q
          · have ej : j = i := by omega
            subst ej
            exact iu_at _ _ _)) rfl
  refine k_aload_n Xc d_M_strip_0 rfl rfl (n := 1) rfl ?_
  refine k_iconst Xc d_M_strip_1 (n := 2) rfl ?_
  refine k_putM_code Xc hM wd_550 d_M_strip_2 (n := 5) rfl (fun f_2 hM_2 hF_2 => ?_)
  refine k_aload_n Xc d_M_strip_5 rfl rfl (n := 6) rfl ?_
  refine k_qV (na := 0) Xc (m_M_count l D G hM_2 hp) hM_2.1 hM_2.2.2.1 rfl wd_656 wd_653 wd_655 ws_9 wd_6 (by decide +kernel) ⟨by decide, by decide⟩ rfl rfl (Nat.le_of_ble_eq_true rfl) d_M_strip_6 (n := 9) rfl ⟨Nat.zero_le _, Nat.zero_le _⟩ (fun r_6 e_6 => ?_)
  subst e_6
  refine k_istore_n Xc d_M_strip_9 rfl (by decide) (n := 10) rfl ?_
  refine k_iconst Xc d_M_strip_10 (n := 11) rfl ?_
  refine k_istore_n Xc d_M_strip_11 rfl (by decide) (n := 12) rfl ?_
  exact k_loc (loop 13 0 _ R (by omega) (by omega) hM_2 (mFr_tr mFr_rf hF_2) (fun k _ => rfl) (fun j q => absurd q (by omega))) rfl
set_option maxRecDepth 100000 in
set_option maxHeartbeats 4000000 in
theorem m_M_hide (l : Launch) (D : va_G) (G : Nat → ClassId) {L : List Nat} {f : Nat → va_E} {o : Nat} {ra : Nat → Nat} {w : Nat} {cd hc zn kn mn om : Int} {R : Nat → Int → Int} (hM : zMo G L f o ra cd (w : Int) hc zn kn mn om R) (hw : w ≤ 12) (hW : sB 12 (R 0) (R 1)) (hp : ∀ j : Int, 0 ≤ j → j < 12 → -1 ≤ R 13 j ∧ R 13 j ≤ 5) : zM l D G y_M_hide (.code y_M_hide c_M_hide 3 none :: BG) (zR0 4 104) [.ref o] L f (fun v L1 f1 => L = L1 ∧ v = none ∧ mFr f f1 o ra ∧ ((0 < mcnt (R 13) 12 ∧ zMo G L f1 o ra 1 (w : Int) hc zn kn mn om R) ∨ (¬ 0 < mcnt (R 13) 12 ∧ ¬ (3 ≤ w ∧ ge_plM w (sP (R 0) (R 1))) ∧ zMo G L f1 o ra 2 0 hc zn kn mn om R) ∨ (¬ 0 < mcnt (R 13) 12 ∧ (3 ≤ w ∧ ge_plM w (sP (R 0) (R 1))) ∧ ∃ R1 : Nat → Int → Int, (∀ k, k ≠ 2 → k ≠ 3 → R1 k = R k) ∧ (∀ j : Nat, j < w → R1 2 (j : Int) = R 0 (j : Int) ∧ R1 3 (j : Int) = R 1 (j : Int)) ∧ zMo G L f1 o ra 0 0 (w : Int) zn kn mn om R1))) := by
  refine zM.of (by decide) (Nat.le_of_ble_eq_true rfl) rfl (fun p e s m args below meth c A Xc hr hnm => ?_)
  have mb := mcnt_bd (R 13) 12
  have loop : ¬ 0 < mcnt (R 13) 12 → (3 ≤ w ∧ ge_plM w (sP (R 0) (R 1))) → ∀ (d i : Nat) (g : Nat → va_E) (R1 : Nat → Int → Int), w < i + d → i ≤ w → zMo G L g o ra 0 0 (w : Int) zn kn mn om R1 → mFr f g o ra → (∀ k, k ≠ 2 → k ≠ 3 → R1 k = R k) → (∀ j : Nat, j < i → R1 2 (j : Int) = R 0 (j : Int) ∧ R1 3 (j : Int) = R 1 (j : Int)) → zG p l e (zR0 4 104) s m args below meth c D A 3 0 0 (MQ below (zE D A (fun v L1 f1 => L = L1 ∧ v = none ∧ mFr f f1 o ra ∧ ((0 < mcnt (R 13) 12 ∧ zMo G L f1 o ra 1 (w : Int) hc zn kn mn om R) ∨ (¬ 0 < mcnt (R 13) 12 ∧ ¬ (3 ≤ w ∧ ge_plM w (sP (R 0) (R 1))) ∧ zMo G L f1 o ra 2 0 hc zn kn mn om R) ∨ (¬ 0 < mcnt (R 13) 12 ∧ (3 ≤ w ∧ ge_plM w (sP (R 0) (R 1))) ∧ ∃ R1 : Nat → Int → Int, (∀ k, k ≠ 2 → k ≠ 3 → R1 k = R k) ∧ (∀ j : Nat, j < w → R1 2 (j : Int) = R 0 (j : Int) ∧ R1 3 (j : Int) = R 1 (j : Int)) ∧ zMo G L f1 o ra 0 0 (w : Int) zn kn mn om R1)))) args s (zR0 4 104).cells (zR0 4 104).slots A) 71 [(0, .ref o), (1, .int (zI (w : Int))), (2, .int (zI (i : Int)))] [] L g := by
    intro hc0 hpl d
    induction d with
    | zero => intro i g R1 h1 h2; omega
    | succ d ih =>
      intro i g R1 h1 h2 hG hF hK hJ
      refine k_iload_n Xc d_M_hide_71 rfl rfl (n := 72) rfl ?_
      refine k_iload_n Xc d_M_hide_72 rfl rfl (n := 73) rfl ?_
      refine k_icmp_ge Xc d_M_hide_73 (t := 106) (n := 76) rfl rfl (by omega) (by omega) (fun h_73 => ?_) (fun h_73 => ?_)
      · refine k_vret Xc d_M_hide_106 hr (Nat.le_refl _) (Nat.le_refl _) ?_
        have ei : i = w := by omega
        subst ei
        exact ⟨rfl, rfl, hF, Or.inr (Or.inr ⟨hc0, hpl, R1, hK, hJ, hG⟩)⟩
      · refine k_aload_n Xc d_M_hide_76 rfl rfl (n := 77) rfl ?_
        refine k_get Xc u_M rfl 5 (by decide) wd_555 rfl d_M_hide_77 (n := 80) rfl hG.1 hG.2.2.1 rfl ?_
        refine k_iload_n Xc d_M_hide_80 rfl rfl (n := 81) rfl ?_
        refine k_aload_n Xc d_M_hide_81 rfl rfl (n := 82) rfl ?_
        refine k_get Xc u_M rfl 2 (by decide) wd_552 rfl d_M_hide_82 (n := 85) rfl hG.1 hG.2.2.1 rfl ?_
        refine k_iload_n Xc d_M_hide_85 rfl rfl (n := 86) rfl ?_
        refine k_iald Xc d_M_hide_86 (n := 87) rfl (hG.2.1 0 (by decide)) (mr_0 hG) (by omega) (by omega) (by decide) ?_
        refine k_iastM Xc hG 2 (by decide) d_M_hide_87 (n := 88) rfl (by omega) (by show _ < ((12 : Nat) : Int); omega) (fun f_87 hM_87 hF_87 => ?_)
        refine k_aload_n Xc d_M_hide_88 rfl rfl (n := 89) rfl ?_
        refine k_get Xc u_M rfl 6 (by decide) wd_556 rfl d_M_hide_89 (n := 92) rfl hM_87.1 hM_87.2.2.1 rfl ?_
        refine k_iload_n Xc d_M_hide_92 rfl rfl (n := 93) rfl ?_
        refine k_aload_n Xc d_M_hide_93 rfl rfl (n := 94) rfl ?_
        refine k_get Xc u_M rfl 3 (by decide) wd_553 rfl d_M_hide_94 (n := 97) rfl hM_87.1 hM_87.2.2.1 rfl ?_
        refine k_iload_n Xc d_M_hide_97 rfl rfl (n := 98) rfl ?_
        refine k_iald Xc d_M_hide_98 (n := 99) rfl (hM_87.2.1 1 (by decide)) (mr_1 hM_87) (by omega) (by omega) (by decide) ?_
        refine k_iastM Xc hM_87 3 (by decide) d_M_hide_99 (n := 100) rfl (by omega) (by show _ < ((12 : Nat) : Int); omega) (fun f_99 hM_99 hF_99 => ?_)
        refine k_iinc Xc d_M_hide_100 rfl (by decide) (n := 103) rfl ?_
        refine k_goto Xc d_M_hide_103 (t := 71) rfl ?_
        exact k_loc (ih (i + 1) _ _ (by omega) (by omega) hM_99 (mFr_tr (mFr_tr hF hF_87) hF_99) (fun k q1 q2 => by rw [va_up_ne _ _ q2, va_up_ne _ _ q1]; exact hK k q1 q2) (fun j hj => by
          show iu (R1 2) (i : Int) (R1 0 (i : Int)) (j : Int) = R 0 (j : Int) ∧ iu (R1 3) (i : Int) (R1 1 (i : Int)) (j : Int) = R 1 (j : Int)
          rcases Nat.lt_or_ge j i with q | q
          · rw [iu_nat q, iu_nat q]; exact hJ j q
          · have ej : j = i := by omega
            subst ej
            rw [iu_at, iu_at, hK 0 (by decide) (by decide), hK 1 (by decide) (by decide)]; exact ⟨rfl, rfl⟩)) rfl
  refine k_aload_n Xc d_M_hide_0 rfl rfl (n := 1) rfl ?_
  refine k_aload_n Xc d_M_hide_1 rfl rfl (n := 2) rfl ?_
  refine k_qV (na := 0) Xc (m_M_count l D G hM hp) hM.1 hM.2.2.1 rfl wd_656 wd_653 wd_655 ws_9 wd_6 (by decide +kernel) ⟨by decide, by decide⟩ rfl rfl (Nat.le_of_ble_eq_true rfl) d_M_hide_2 (n := 5) rfl ⟨Nat.zero_le _, Nat.zero_le _⟩ (fun r_2 e_2 => ?_)
  subst e_2
  refine k_if_le Xc d_M_hide_5 (t := 12) (n := 8) rfl rfl (by omega) (fun h_5 => ?_) (fun h_5 => ?_)
  · refine k_iconst Xc d_M_hide_12 (n := 13) rfl ?_
    refine k_putM_code Xc hM wd_550 d_M_hide_13 (n := 16) rfl (fun f_13 hM_13 hF_13 => ?_)
    refine k_aload_n Xc d_M_hide_16 rfl rfl (n := 17) rfl ?_
    refine k_get Xc u_M rfl 0 (by decide) wd_550 rfl d_M_hide_17 (n := 20) rfl hM_13.1 hM_13.2.2.1 rfl ?_
    refine k_if_le Xc d_M_hide_20 (t := 24) (n := 23) rfl rfl (by omega) (fun _ => ?_) (fun h_20 => absurd h_20 (by omega))
    refine k_aload_n Xc d_M_hide_24 rfl rfl (n := 25) rfl ?_
    refine k_get Xc u_M rfl 1 (by decide) wd_551 rfl d_M_hide_25 (n := 28) rfl hM_13.1 hM_13.2.2.1 rfl ?_
    refine k_istore_n Xc d_M_hide_28 rfl (by decide) (n := 29) rfl ?_
    refine k_aload_n Xc d_M_hide_29 rfl rfl (n := 30) rfl ?_
    refine k_iconst Xc d_M_hide_30 (n := 31) rfl ?_
    refine k_putM_waiting Xc hM_13 wd_551 d_M_hide_31 (n := 34) rfl (fun f_31 hM_31 hF_31 => ?_)
    refine k_aload_n Xc d_M_hide_34 rfl rfl (n := 35) rfl ?_
    refine k_iload_n Xc d_M_hide_35 rfl rfl (n := 36) rfl ?_
    refine k_iconst Xc d_M_hide_36 (n := 37) rfl ?_
    refine k_icmp_lt Xc d_M_hide_37 (t := 48) (n := 40) rfl rfl (by omega) (by omega) (fun h_37 => ?_) (fun h_37 => ?_)
    · refine k_iconst Xc d_M_hide_48 (n := 49) rfl ?_
      refine k_goto Xc d_M_hide_49 (t := 53) rfl ?_
      refine k_putM_code Xc hM_31 wd_550 d_M_hide_53 (n := 56) rfl (fun f_53 hM_53 hF_53 => ?_)
      refine k_aload_n Xc d_M_hide_56 rfl rfl (n := 57) rfl ?_
      refine k_get Xc u_M rfl 0 (by decide) wd_550 rfl d_M_hide_57 (n := 60) rfl hM_53.1 hM_53.2.2.1 rfl ?_
      refine k_if_le Xc d_M_hide_60 (t := 64) (n := 63) rfl rfl (by omega) (fun h_60 => absurd h_60 (by omega)) (fun _ => ?_)
      refine k_vret Xc d_M_hide_63 hr (Nat.le_refl _) (Nat.le_refl _) ?_
      exact ⟨rfl, rfl, (mFr_tr (mFr_tr (mFr_tr mFr_rf hF_13) hF_31) hF_53), by first | exact Or.inl ⟨by omega, hM_53⟩ | exact Or.inr (Or.inl ⟨by omega, fun q => by first | exact e_42 q.2 | omega, hM_53⟩)⟩
    · refine k_aload_n Xc d_M_hide_40 rfl rfl (n := 41) rfl ?_
      refine k_iload_n Xc d_M_hide_41 rfl rfl (n := 42) rfl ?_
      refine k_qV (na := 1) Xc (m_M_isPlain l D G hM_31 hW _ (by omega) (by omega)) hM_31.1 hM_31.2.2.1 rfl wd_660 wd_657 wd_659 ws_10 wd_6 (by decide +kernel) ⟨by decide, by decide⟩ rfl rfl (Nat.le_of_ble_eq_true rfl) d_M_hide_42 (n := 45) rfl ⟨Nat.zero_le _, Nat.zero_le _⟩ (fun r_42 e_42 => ?_)
      rcases e_42 with ⟨e_42, rfl⟩ | ⟨e_42, rfl⟩
      · refine k_if_ne Xc d_M_hide_45 (t := 52) (n := 48) rfl rfl (by omega) (fun _ => ?_) (fun h_45 => absurd h_45 (by omega))
        refine k_iconst Xc d_M_hide_52 (n := 53) rfl ?_
        refine k_putM_code Xc hM_31 wd_550 d_M_hide_53 (n := 56) rfl (fun f_53 hM_53 hF_53 => ?_)
        refine k_aload_n Xc d_M_hide_56 rfl rfl (n := 57) rfl ?_
        refine k_get Xc u_M rfl 0 (by decide) wd_550 rfl d_M_hide_57 (n := 60) rfl hM_53.1 hM_53.2.2.1 rfl ?_
        refine k_if_le Xc d_M_hide_60 (t := 64) (n := 63) rfl rfl (by omega) (fun _ => ?_) (fun h_60 => absurd h_60 (by omega))
        refine k_aload_n Xc d_M_hide_64 rfl rfl (n := 65) rfl ?_
        refine k_iload_n Xc d_M_hide_65 rfl rfl (n := 66) rfl ?_
        refine k_putM_hideCorners Xc hM_53 wd_554 d_M_hide_66 (n := 69) rfl (fun f_66 hM_66 hF_66 => ?_)
        refine k_iconst Xc d_M_hide_69 (n := 70) rfl ?_
        refine k_istore_n Xc d_M_hide_70 rfl (by decide) (n := 71) rfl ?_
        exact k_loc (loop (by omega) ⟨by omega, e_42⟩ (w + 1) 0 _ R (by omega) (by omega) hM_66 (mFr_tr (mFr_tr (mFr_tr (mFr_tr mFr_rf hF_13) hF_31) hF_53) hF_66) (fun k _ _ => rfl) (fun j q => absurd q (by omega))) rfl
      · refine k_if_ne Xc d_M_hide_45 (t := 52) (n := 48) rfl rfl (by omega) (fun h_45 => absurd h_45 (by omega)) (fun _ => ?_)
        refine k_iconst Xc d_M_hide_48 (n := 49) rfl ?_
        refine k_goto Xc d_M_hide_49 (t := 53) rfl ?_
        refine k_putM_code Xc hM_31 wd_550 d_M_hide_53 (n := 56) rfl (fun f_53 hM_53 hF_53 => ?_)
        refine k_aload_n Xc d_M_hide_56 rfl rfl (n := 57) rfl ?_
        refine k_get Xc u_M rfl 0 (by decide) wd_550 rfl d_M_hide_57 (n := 60) rfl hM_53.1 hM_53.2.2.1 rfl ?_
        refine k_if_le Xc d_M_hide_60 (t := 64) (n := 63) rfl rfl (by omega) (fun h_60 => absurd h_60 (by omega)) (fun _ => ?_)
        refine k_vret Xc d_M_hide_63 hr (Nat.le_refl _) (Nat.le_refl _) ?_
        exact ⟨rfl, rfl, (mFr_tr (mFr_tr (mFr_tr mFr_rf hF_13) hF_31) hF_53), by first | exact Or.inl ⟨by omega, hM_53⟩ | exact Or.inr (Or.inl ⟨by omega, fun q => by first | exact e_42 q.2 | omega, hM_53⟩)⟩
  · refine k_iconst Xc d_M_hide_8 (n := 9) rfl ?_
    refine k_goto Xc d_M_hide_9 (t := 13) rfl ?_
    refine k_putM_code Xc hM wd_550 d_M_hide_13 (n := 16) rfl (fun f_13 hM_13 hF_13 => ?_)
    refine k_aload_n Xc d_M_hide_16 rfl rfl (n := 17) rfl ?_
    refine k_get Xc u_M rfl 0 (by decide) wd_550 rfl d_M_hide_17 (n := 20) rfl hM_13.1 hM_13.2.2.1 rfl ?_
    refine k_if_le Xc d_M_hide_20 (t := 24) (n := 23) rfl rfl (by omega) (fun h_20 => absurd h_20 (by omega)) (fun _ => ?_)
    refine k_vret Xc d_M_hide_23 hr (Nat.le_refl _) (Nat.le_refl _) ?_
    exact ⟨rfl, rfl, (mFr_tr mFr_rf hF_13), by first | exact Or.inl ⟨by omega, hM_13⟩ | exact Or.inr (Or.inl ⟨by omega, fun q => by first | exact e_42 q.2 | omega, hM_13⟩)⟩
