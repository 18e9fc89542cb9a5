-- SHAPE: queries
set_option maxRecDepth 100000 in
set_option maxHeartbeats 4000000 in
theorem m_S_boxHolds (l : Launch) (D : va_G) (G : Nat → ClassId) {L : List Nat} {f : Nat → va_E} {a ax ay n : Nat} {X Y : Int → Int} {lx hx ly hy : Int} (hS : zS G L f a ax ay n X Y lx hx ly hy) {b bx b_y k2 : Nat} {U V : Int → Int} {lu hu lv hv : Int} (hT : zS G L f b bx b_y k2 U V lu hu lv hv) (q1 : -1000 ≤ lx ∧ lx ≤ 1000 ∧ -1000 ≤ hx ∧ hx ≤ 1000 ∧ -1000 ≤ ly ∧ ly ≤ 1000 ∧ -1000 ≤ hy ∧ hy ≤ 1000) (q2 : -1000 ≤ lu ∧ lu ≤ 1000 ∧ -1000 ≤ hu ∧ hu ≤ 1000 ∧ -1000 ≤ lv ∧ lv ≤ 1000 ∧ -1000 ≤ hv ∧ hv ≤ 1000) (dx dy : Int) (q3 : -1000 ≤ dx ∧ dx ≤ 1000 ∧ -1000 ≤ dy ∧ dy ≤ 1000) : zM l D G y_S_boxHolds (.code y_S_boxHolds c_S_boxHolds 4 (some .boolean) :: BG) (zR0 0 0) [.ref a, .ref b, .int (zI dx), .int (zI dy)] L f (zA L f (fun r => zB (lx ≤ lu + dx ∧ hu + dx ≤ hx ∧ ly ≤ lv + dy ∧ hv + dy ≤ hy) r)) := by
  refine zM.of (by decide) (Nat.le_of_ble_eq_true rfl) rfl (fun p e s m args below meth c A Xc hr hnm => ?_)
  refine k_aload_n Xc d_S_boxHolds_0 rfl rfl (n := 1) rfl ?_
  refine k_get Xc u_S rfl 3 (by decide) wd_35 rfl d_S_boxHolds_1 (n := 4) rfl hT.1 hT.2.2.2.1 rfl ?_
  refine k_iload_n Xc d_S_boxHolds_4 rfl rfl (n := 5) rfl ?_
  refine k_iadd Xc d_S_boxHolds_5 (n := 6) rfl ?_
  refine k_aload_n Xc d_S_boxHolds_6 rfl rfl (n := 7) rfl ?_
  refine k_get Xc u_S rfl 3 (by decide) wd_35 rfl d_S_boxHolds_7 (n := 10) rfl hS.1 hS.2.2.2.1 rfl ?_
  refine k_icmp_lt Xc d_S_boxHolds_10 (t := 56) (n := 13) rfl rfl (by omega) (by omega) (fun h_10 => ?_) (fun h_10 => ?_)
  · refine k_iconst Xc d_S_boxHolds_56 (n := 57) rfl ?_
    refine k_iret Xc d_S_boxHolds_57 hr rfl (Nat.le_refl _) (Nat.le_refl _) ⟨_, rfl, ?_, rfl, rfl⟩
    exact Or.inr ⟨by omega, rfl⟩
  · refine k_aload_n Xc d_S_boxHolds_13 rfl rfl (n := 14) rfl ?_
    refine k_get Xc u_S rfl 4 (by decide) wd_37 rfl d_S_boxHolds_14 (n := 17) rfl hT.1 hT.2.2.2.1 rfl ?_
    refine k_iload_n Xc d_S_boxHolds_17 rfl rfl (n := 18) rfl ?_
    refine k_iadd Xc d_S_boxHolds_18 (n := 19) rfl ?_
    refine k_aload_n Xc d_S_boxHolds_19 rfl rfl (n := 20) rfl ?_
    refine k_get Xc u_S rfl 4 (by decide) wd_37 rfl d_S_boxHolds_20 (n := 23) rfl hS.1 hS.2.2.2.1 rfl ?_
    refine k_icmp_gt Xc d_S_boxHolds_23 (t := 56) (n := 26) rfl rfl (by omega) (by omega) (fun h_23 => ?_) (fun h_23 => ?_)
    · refine k_iconst Xc d_S_boxHolds_56 (n := 57) rfl ?_
      refine k_iret Xc d_S_boxHolds_57 hr rfl (Nat.le_refl _) (Nat.le_refl _) ⟨_, rfl, ?_, rfl, rfl⟩
      exact Or.inr ⟨by omega, rfl⟩
    · refine k_aload_n Xc d_S_boxHolds_26 rfl rfl (n := 27) rfl ?_
      refine k_get Xc u_S rfl 5 (by decide) wd_40 rfl d_S_boxHolds_27 (n := 30) rfl hT.1 hT.2.2.2.1 rfl ?_
      refine k_iload_n Xc d_S_boxHolds_30 rfl rfl (n := 31) rfl ?_
      refine k_iadd Xc d_S_boxHolds_31 (n := 32) rfl ?_
      refine k_aload_n Xc d_S_boxHolds_32 rfl rfl (n := 33) rfl ?_
      refine k_get Xc u_S rfl 5 (by decide) wd_40 rfl d_S_boxHolds_33 (n := 36) rfl hS.1 hS.2.2.2.1 rfl ?_
      refine k_icmp_lt Xc d_S_boxHolds_36 (t := 56) (n := 39) rfl rfl (by omega) (by omega) (fun h_36 => ?_) (fun h_36 => ?_)
      · refine k_iconst Xc d_S_boxHolds_56 (n := 57) rfl ?_
        refine k_iret Xc d_S_boxHolds_57 hr rfl (Nat.le_refl _) (Nat.le_refl _) ⟨_, rfl, ?_, rfl, rfl⟩
        exact Or.inr ⟨by omega, rfl⟩
      · refine k_aload_n Xc d_S_boxHolds_39 rfl rfl (n := 40) rfl ?_
        refine k_get Xc u_S rfl 6 (by decide) wd_42 rfl d_S_boxHolds_40 (n := 43) rfl hT.1 hT.2.2.2.1 rfl ?_
        refine k_iload_n Xc d_S_boxHolds_43 rfl rfl (n := 44) rfl ?_
        refine k_iadd Xc d_S_boxHolds_44 (n := 45) rfl ?_
        refine k_aload_n Xc d_S_boxHolds_45 rfl rfl (n := 46) rfl ?_
        refine k_get Xc u_S rfl 6 (by decide) wd_42 rfl d_S_boxHolds_46 (n := 49) rfl hS.1 hS.2.2.2.1 rfl ?_
        refine k_icmp_gt Xc d_S_boxHolds_49 (t := 56) (n := 52) rfl rfl (by omega) (by omega) (fun h_49 => ?_) (fun h_49 => ?_)
        · refine k_iconst Xc d_S_boxHolds_56 (n := 57) rfl ?_
          refine k_iret Xc d_S_boxHolds_57 hr rfl (Nat.le_refl _) (Nat.le_refl _) ⟨_, rfl, ?_, rfl, rfl⟩
          exact Or.inr ⟨by omega, rfl⟩
        · refine k_iconst Xc d_S_boxHolds_52 (n := 53) rfl ?_
          refine k_goto Xc d_S_boxHolds_53 (t := 57) rfl ?_
          refine k_iret Xc d_S_boxHolds_57 hr rfl (Nat.le_refl _) (Nat.le_refl _) ⟨_, rfl, ?_, rfl, rfl⟩
          exact Or.inl ⟨by omega, rfl⟩
set_option maxRecDepth 100000 in
set_option maxHeartbeats 4000000 in
/-- a side and the next fold back -/
theorem m_S_foldsBack (l : Launch) (D : va_G) (G : Nat → ClassId) {L : List Nat} {f : Nat → va_E} {a ax ay n : Nat} {X Y : Int → Int} {lx hx ly hy : Int} (hS : zS G L f a ax ay n X Y lx hx ly hy) (hB : sB n X Y) (i : Nat) (hi : i < n) : zM l D G y_S_foldsBack (.code y_S_foldsBack c_S_foldsBack 5 (some .boolean) :: BG) (zR0 1 24) [.ref a, .int (zI (i : Int))] L f (zA L f (fun r => zB (ge_fd n (sP X Y) i) r)) := by
  refine zM.of (by decide) (Nat.le_of_ble_eq_true rfl) rfl (fun p e s m args below meth c A Xc hr hnm => ?_)
  have hn := hB.1
  have l1 : ge_nx n i < n := nx_lt (by omega)
  have l2 : ge_nx n (ge_nx n i) < n := nx_lt (by omega)
  have b0 := hB.2 i hi
  have b1 := hB.2 _ l1
  have b2 := hB.2 _ l2
  have u := mul_bd (a := X (i : Int) - X ((ge_nx n i : Nat) : Int)) (b := X ((ge_nx n (ge_nx n i) : Nat) : Int) - X ((ge_nx n i : Nat) : Int)) (A := 200) (B := 200) (by omega) (by omega) (by omega) (by omega)
  have v := mul_bd (a := Y (i : Int) - Y ((ge_nx n i : Nat) : Int)) (b := Y ((ge_nx n (ge_nx n i) : Nat) : Int) - Y ((ge_nx n i : Nat) : Int)) (A := 200) (B := 200) (by omega) (by omega) (by omega) (by omega)
  have t := bs_bd hB hi (px := X ((ge_nx n (ge_nx n i) : Nat) : Int)) (py := Y ((ge_nx n (ge_nx n i) : Nat) : Int)) (by omega) (by omega) (by omega) (by omega)
  refine k_aload_n Xc d_S_foldsBack_0 rfl rfl (n := 1) rfl ?_
  refine k_iload_n Xc d_S_foldsBack_1 rfl rfl (n := 2) rfl ?_
  refine k_qV (na := 1) Xc (m_S_next l D G hS hB.1 _ (by omega)) hS.1 hS.2.2.2.1 rfl wd_181 wd_178 wd_179 wd_180 wd_2 (by decide +kernel) ⟨by decide, by decide⟩ rfl rfl (Nat.le_of_ble_eq_true rfl) d_S_foldsBack_2 (n := 5) rfl ⟨Nat.zero_le _, Nat.zero_le _⟩ (fun r_2 e_2 => ?_)
  subst e_2
  refine k_istore_n Xc d_S_foldsBack_5 rfl (by decide) (n := 6) rfl ?_
  refine k_aload_n Xc d_S_foldsBack_6 rfl rfl (n := 7) rfl ?_
  refine k_iload_n Xc d_S_foldsBack_7 rfl rfl (n := 8) rfl ?_
  refine k_qV (na := 1) Xc (m_S_next l D G hS hB.1 _ (by omega)) hS.1 hS.2.2.2.1 rfl wd_181 wd_178 wd_179 wd_180 wd_2 (by decide +kernel) ⟨by decide, by decide⟩ rfl rfl (Nat.le_of_ble_eq_true rfl) d_S_foldsBack_8 (n := 11) rfl ⟨Nat.zero_le _, Nat.zero_le _⟩ (fun r_8 e_8 => ?_)
  subst e_8
  refine k_istore_n Xc d_S_foldsBack_11 rfl (by decide) (n := 12) rfl ?_
  refine k_aload_n Xc d_S_foldsBack_12 rfl rfl (n := 13) rfl ?_
  refine k_get Xc u_S rfl 0 (by decide) wd_30 rfl d_S_foldsBack_13 (n := 16) rfl hS.1 hS.2.2.2.1 rfl ?_
  refine k_iload_n Xc d_S_foldsBack_16 rfl rfl (n := 17) rfl ?_
  refine k_iald Xc d_S_foldsBack_17 (n := 18) rfl hS.2.1 hS.2.2.2.2.1 (by omega) (by omega) (by decide) ?_
  refine k_aload_n Xc d_S_foldsBack_18 rfl rfl (n := 19) rfl ?_
  refine k_get Xc u_S rfl 0 (by decide) wd_30 rfl d_S_foldsBack_19 (n := 22) rfl hS.1 hS.2.2.2.1 rfl ?_
  refine k_iload_n Xc d_S_foldsBack_22 rfl rfl (n := 23) rfl ?_
  refine k_iald Xc d_S_foldsBack_23 (n := 24) rfl hS.2.1 hS.2.2.2.2.1 (by omega) (by omega) (by decide) ?_
  refine k_isub Xc d_S_foldsBack_24 (n := 25) rfl ?_
  refine k_aload_n Xc d_S_foldsBack_25 rfl rfl (n := 26) rfl ?_
  refine k_get Xc u_S rfl 0 (by decide) wd_30 rfl d_S_foldsBack_26 (n := 29) rfl hS.1 hS.2.2.2.1 rfl ?_
  refine k_iload_n Xc d_S_foldsBack_29 rfl rfl (n := 30) rfl ?_
  refine k_iald Xc d_S_foldsBack_30 (n := 31) rfl hS.2.1 hS.2.2.2.2.1 (by omega) (by omega) (by decide) ?_
  refine k_aload_n Xc d_S_foldsBack_31 rfl rfl (n := 32) rfl ?_
  refine k_get Xc u_S rfl 0 (by decide) wd_30 rfl d_S_foldsBack_32 (n := 35) rfl hS.1 hS.2.2.2.1 rfl ?_
  refine k_iload_n Xc d_S_foldsBack_35 rfl rfl (n := 36) rfl ?_
  refine k_iald Xc d_S_foldsBack_36 (n := 37) rfl hS.2.1 hS.2.2.2.2.1 (by omega) (by omega) (by decide) ?_
  refine k_isub Xc d_S_foldsBack_37 (n := 38) rfl ?_
  refine k_imul Xc d_S_foldsBack_38 (n := 39) rfl ?_
  refine k_aload_n Xc d_S_foldsBack_39 rfl rfl (n := 40) rfl ?_
  refine k_get Xc u_S rfl 1 (by decide) wd_31 rfl d_S_foldsBack_40 (n := 43) rfl hS.1 hS.2.2.2.1 rfl ?_
  refine k_iload_n Xc d_S_foldsBack_43 rfl rfl (n := 44) rfl ?_
  refine k_iald Xc d_S_foldsBack_44 (n := 45) rfl hS.2.2.1 hS.2.2.2.2.2 (by omega) (by omega) (by decide) ?_
  refine k_aload_n Xc d_S_foldsBack_45 rfl rfl (n := 46) rfl ?_
  refine k_get Xc u_S rfl 1 (by decide) wd_31 rfl d_S_foldsBack_46 (n := 49) rfl hS.1 hS.2.2.2.1 rfl ?_
  refine k_iload_n Xc d_S_foldsBack_49 rfl rfl (n := 50) rfl ?_
  refine k_iald Xc d_S_foldsBack_50 (n := 51) rfl hS.2.2.1 hS.2.2.2.2.2 (by omega) (by omega) (by decide) ?_
  refine k_isub Xc d_S_foldsBack_51 (n := 52) rfl ?_
  refine k_aload_n Xc d_S_foldsBack_52 rfl rfl (n := 53) rfl ?_
  refine k_get Xc u_S rfl 1 (by decide) wd_31 rfl d_S_foldsBack_53 (n := 56) rfl hS.1 hS.2.2.2.1 rfl ?_
  refine k_iload_n Xc d_S_foldsBack_56 rfl rfl (n := 57) rfl ?_
  refine k_iald Xc d_S_foldsBack_57 (n := 58) rfl hS.2.2.1 hS.2.2.2.2.2 (by omega) (by omega) (by decide) ?_
  refine k_aload_n Xc d_S_foldsBack_58 rfl rfl (n := 59) rfl ?_
  refine k_get Xc u_S rfl 1 (by decide) wd_31 rfl d_S_foldsBack_59 (n := 62) rfl hS.1 hS.2.2.2.1 rfl ?_
  refine k_iload_n Xc d_S_foldsBack_62 rfl rfl (n := 63) rfl ?_
  refine k_iald Xc d_S_foldsBack_63 (n := 64) rfl hS.2.2.1 hS.2.2.2.2.2 (by omega) (by omega) (by decide) ?_
  refine k_isub Xc d_S_foldsBack_64 (n := 65) rfl ?_
  refine k_imul Xc d_S_foldsBack_65 (n := 66) rfl ?_
  refine k_iadd Xc d_S_foldsBack_66 (n := 67) rfl ?_
  refine k_istore Xc d_S_foldsBack_67 (by decide) (n := 69) rfl ?_
  refine k_aload_n Xc d_S_foldsBack_69 rfl rfl (n := 70) rfl ?_
  refine k_iload_n Xc d_S_foldsBack_70 rfl rfl (n := 71) rfl ?_
  refine k_aload_n Xc d_S_foldsBack_71 rfl rfl (n := 72) rfl ?_
  refine k_get Xc u_S rfl 0 (by decide) wd_30 rfl d_S_foldsBack_72 (n := 75) rfl hS.1 hS.2.2.2.1 rfl ?_
  refine k_iload_n Xc d_S_foldsBack_75 rfl rfl (n := 76) rfl ?_
  refine k_iald Xc d_S_foldsBack_76 (n := 77) rfl hS.2.1 hS.2.2.2.2.1 (by omega) (by omega) (by decide) ?_
  refine k_aload_n Xc d_S_foldsBack_77 rfl rfl (n := 78) rfl ?_
  refine k_get Xc u_S rfl 1 (by decide) wd_31 rfl d_S_foldsBack_78 (n := 81) rfl hS.1 hS.2.2.2.1 rfl ?_
  refine k_iload_n Xc d_S_foldsBack_81 rfl rfl (n := 82) rfl ?_
  refine k_iald Xc d_S_foldsBack_82 (n := 83) rfl hS.2.2.1 hS.2.2.2.2.2 (by omega) (by omega) (by decide) ?_
  refine k_qV (na := 3) Xc (m_S_beside l D G hS hB _ (by omega) _ _ (by omega) (by omega) (by omega) (by omega)) hS.1 hS.2.2.2.1 rfl wd_325 wd_322 wd_323 wd_324 wd_2 (by decide +kernel) ⟨by decide, by decide⟩ rfl rfl (Nat.le_of_ble_eq_true rfl) d_S_foldsBack_83 (n := 86) rfl ⟨Nat.zero_le _, Nat.zero_le _⟩ (fun r_83 e_83 => ?_)
  subst e_83
  refine k_if_ne Xc d_S_foldsBack_86 (t := 98) (n := 89) rfl rfl (by omega) (fun h_86 => ?_) (fun h_86 => ?_)
  · refine k_iconst Xc d_S_foldsBack_98 (n := 99) rfl ?_
    refine k_iret Xc d_S_foldsBack_99 hr rfl (Nat.le_refl _) (Nat.le_refl _) ⟨_, rfl, ?_, rfl, rfl⟩
    exact Or.inr ⟨fun q => by have q1 := q.1; have q2 := q.2; unfold sP at q1 q2; dsimp only at q1 q2; first | contradiction | omega, rfl⟩
  · refine k_iload Xc d_S_foldsBack_89 rfl (n := 91) rfl ?_
    refine k_if_lt Xc d_S_foldsBack_91 (t := 98) (n := 94) rfl rfl (by omega) (fun h_91 => ?_) (fun h_91 => ?_)
    · refine k_iconst Xc d_S_foldsBack_98 (n := 99) rfl ?_
      refine k_iret Xc d_S_foldsBack_99 hr rfl (Nat.le_refl _) (Nat.le_refl _) ⟨_, rfl, ?_, rfl, rfl⟩
      exact Or.inr ⟨fun q => by have q1 := q.1; have q2 := q.2; unfold sP at q1 q2; dsimp only at q1 q2; first | contradiction | omega, rfl⟩
    · refine k_iconst Xc d_S_foldsBack_94 (n := 95) rfl ?_
      refine k_goto Xc d_S_foldsBack_95 (t := 99) rfl ?_
      refine k_iret Xc d_S_foldsBack_99 hr rfl (Nat.le_refl _) (Nat.le_refl _) ⟨_, rfl, ?_, rfl, rfl⟩
      exact Or.inl ⟨⟨by assumption, by unfold sP; dsimp only; omega⟩, rfl⟩
set_option maxRecDepth 100000 in
set_option maxHeartbeats 4000000 in
theorem m_S_lineMeets (l : Launch) (D : va_G) (G : Nat → ClassId) {L : List Nat} {f : Nat → va_E} {a ax ay n : Nat} {X Y : Int → Int} {lx hx ly hy : Int} (hS : zS G L f a ax ay n X Y lx hx ly hy) (hB : sB n X Y) (i j : Nat) (hi : i < n) (hj : j < n) : zM l D G y_S_lineMeets (.code y_S_lineMeets c_S_lineMeets 6 (some .boolean) :: BG) (zR0 1 24) [.ref a, .int (zI (i : Int)), .int (zI (j : Int))] L f (zA L f (fun r => zB (ge_bs (sP X Y) n i (sP X Y j) * ge_bs (sP X Y) n i (sP X Y (ge_nx n j)) ≤ 0) r)) := by
  refine zM.of (by decide) (Nat.le_of_ble_eq_true rfl) rfl (fun p e s m args below meth c A Xc hr hnm => ?_)
  have hn := hB.1
  have l1 : ge_nx n j < n := nx_lt (by omega)
  have b0 := hB.2 j hj
  have b1 := hB.2 _ l1
  have t1 := bs_bd hB hi (px := X (j : Int)) (py := Y (j : Int)) (by omega) (by omega) (by omega) (by omega)
  have t2 := bs_bd hB hi (px := X ((ge_nx n j : Nat) : Int)) (py := Y ((ge_nx n j : Nat) : Int)) (by omega) (by omega) (by omega) (by omega)
  have t3 := sg_bd (ge_bs (sP X Y) n i (X (j : Int), Y (j : Int))) (ge_bs (sP X Y) n i (X ((ge_nx n j : Nat) : Int), Y ((ge_nx n j : Nat) : Int)))
  have t4 := sg_mul (ge_bs (sP X Y) n i (X (j : Int), Y (j : Int))) (ge_bs (sP X Y) n i (X ((ge_nx n j : Nat) : Int), Y ((ge_nx n j : Nat) : Int)))
  refine k_aload_n Xc d_S_lineMeets_0 rfl rfl (n := 1) rfl ?_
  refine k_iload_n Xc d_S_lineMeets_1 rfl rfl (n := 2) rfl ?_
  refine k_qV (na := 1) Xc (m_S_next l D G hS hB.1 _ (by omega)) hS.1 hS.2.2.2.1 rfl wd_181 wd_178 wd_179 wd_180 wd_2 (by decide +kernel) ⟨by decide, by decide⟩ rfl rfl (Nat.le_of_ble_eq_true rfl) d_S_lineMeets_2 (n := 5) rfl ⟨Nat.zero_le _, Nat.zero_le _⟩ (fun r_2 e_2 => ?_)
  subst e_2
  refine k_istore_n Xc d_S_lineMeets_5 rfl (by decide) (n := 6) rfl ?_
  refine k_aload_n Xc d_S_lineMeets_6 rfl rfl (n := 7) rfl ?_
  refine k_iload_n Xc d_S_lineMeets_7 rfl rfl (n := 8) rfl ?_
  refine k_aload_n Xc d_S_lineMeets_8 rfl rfl (n := 9) rfl ?_
  refine k_get Xc u_S rfl 0 (by decide) wd_30 rfl d_S_lineMeets_9 (n := 12) rfl hS.1 hS.2.2.2.1 rfl ?_
  refine k_iload_n Xc d_S_lineMeets_12 rfl rfl (n := 13) rfl ?_
  refine k_iald Xc d_S_lineMeets_13 (n := 14) rfl hS.2.1 hS.2.2.2.2.1 (by omega) (by omega) (by decide) ?_
  refine k_aload_n Xc d_S_lineMeets_14 rfl rfl (n := 15) rfl ?_
  refine k_get Xc u_S rfl 1 (by decide) wd_31 rfl d_S_lineMeets_15 (n := 18) rfl hS.1 hS.2.2.2.1 rfl ?_
  refine k_iload_n Xc d_S_lineMeets_18 rfl rfl (n := 19) rfl ?_
  refine k_iald Xc d_S_lineMeets_19 (n := 20) rfl hS.2.2.1 hS.2.2.2.2.2 (by omega) (by omega) (by decide) ?_
  refine k_qV (na := 3) Xc (m_S_beside l D G hS hB _ (by omega) _ _ (by omega) (by omega) (by omega) (by omega)) hS.1 hS.2.2.2.1 rfl wd_325 wd_322 wd_323 wd_324 wd_2 (by decide +kernel) ⟨by decide, by decide⟩ rfl rfl (Nat.le_of_ble_eq_true rfl) d_S_lineMeets_20 (n := 23) rfl ⟨Nat.zero_le _, Nat.zero_le _⟩ (fun r_20 e_20 => ?_)
  subst e_20
  refine k_qS (na := 1) Xc (m_signum l D G _ (by omega) (by omega)) wd_339 wd_337 wd_338 wd_13 (by decide +kernel) ⟨by decide, by decide⟩ rfl rfl (Nat.le_of_ble_eq_true rfl) d_S_lineMeets_23 (n := 26) rfl ⟨Nat.zero_le _, Nat.zero_le _⟩ (fun r_23 e_23 => ?_)
  subst e_23
  refine k_istore Xc d_S_lineMeets_26 (by decide) (n := 28) rfl ?_
  refine k_aload_n Xc d_S_lineMeets_28 rfl rfl (n := 29) rfl ?_
  refine k_iload_n Xc d_S_lineMeets_29 rfl rfl (n := 30) rfl ?_
  refine k_aload_n Xc d_S_lineMeets_30 rfl rfl (n := 31) rfl ?_
  refine k_get Xc u_S rfl 0 (by decide) wd_30 rfl d_S_lineMeets_31 (n := 34) rfl hS.1 hS.2.2.2.1 rfl ?_
  refine k_iload_n Xc d_S_lineMeets_34 rfl rfl (n := 35) rfl ?_
  refine k_iald Xc d_S_lineMeets_35 (n := 36) rfl hS.2.1 hS.2.2.2.2.1 (by omega) (by omega) (by decide) ?_
  refine k_aload_n Xc d_S_lineMeets_36 rfl rfl (n := 37) rfl ?_
  refine k_get Xc u_S rfl 1 (by decide) wd_31 rfl d_S_lineMeets_37 (n := 40) rfl hS.1 hS.2.2.2.1 rfl ?_
  refine k_iload_n Xc d_S_lineMeets_40 rfl rfl (n := 41) rfl ?_
  refine k_iald Xc d_S_lineMeets_41 (n := 42) rfl hS.2.2.1 hS.2.2.2.2.2 (by omega) (by omega) (by decide) ?_
  refine k_qV (na := 3) Xc (m_S_beside l D G hS hB _ (by omega) _ _ (by omega) (by omega) (by omega) (by omega)) hS.1 hS.2.2.2.1 rfl wd_325 wd_322 wd_323 wd_324 wd_2 (by decide +kernel) ⟨by decide, by decide⟩ rfl rfl (Nat.le_of_ble_eq_true rfl) d_S_lineMeets_42 (n := 45) rfl ⟨Nat.zero_le _, Nat.zero_le _⟩ (fun r_42 e_42 => ?_)
  subst e_42
  refine k_qS (na := 1) Xc (m_signum l D G _ (by omega) (by omega)) wd_339 wd_337 wd_338 wd_13 (by decide +kernel) ⟨by decide, by decide⟩ rfl rfl (Nat.le_of_ble_eq_true rfl) d_S_lineMeets_45 (n := 48) rfl ⟨Nat.zero_le _, Nat.zero_le _⟩ (fun r_45 e_45 => ?_)
  subst e_45
  refine k_istore Xc d_S_lineMeets_48 (by decide) (n := 50) rfl ?_
  refine k_iload Xc d_S_lineMeets_50 rfl (n := 52) rfl ?_
  refine k_iload Xc d_S_lineMeets_52 rfl (n := 54) rfl ?_
  refine k_imul Xc d_S_lineMeets_54 (n := 55) rfl ?_
  refine k_if_gt Xc d_S_lineMeets_55 (t := 62) (n := 58) rfl rfl (by omega) (fun h_55 => ?_) (fun h_55 => ?_)
  · refine k_iconst Xc d_S_lineMeets_62 (n := 63) rfl ?_
    refine k_iret Xc d_S_lineMeets_63 hr rfl (Nat.le_refl _) (Nat.le_refl _) ⟨_, rfl, ?_, rfl, rfl⟩
    exact Or.inr ⟨fun q => by have := t4.mpr q; omega, rfl⟩
  · refine k_iconst Xc d_S_lineMeets_58 (n := 59) rfl ?_
    refine k_goto Xc d_S_lineMeets_59 (t := 63) rfl ?_
    refine k_iret Xc d_S_lineMeets_63 hr rfl (Nat.le_refl _) (Nat.le_refl _) ⟨_, rfl, ?_, rfl, rfl⟩
    exact Or.inl ⟨t4.mp (by omega), rfl⟩
set_option maxRecDepth 100000 in
set_option maxHeartbeats 4000000 in
/-- two sides meet -/
theorem m_S_sidesMeet (l : Launch) (D : va_G) (G : Nat → ClassId) {L : List Nat} {f : Nat → va_E} {a ax ay n : Nat} {X Y : Int → Int} {lx hx ly hy : Int} (hS : zS G L f a ax ay n X Y lx hx ly hy) (hB : sB n X Y) (i j : Nat) (hi : i < n) (hj : j < n) : zM l D G y_S_sidesMeet (.code y_S_sidesMeet c_S_sidesMeet 3 (some .boolean) :: BG) (zR0 2 49) [.ref a, .int (zI (i : Int)), .int (zI (j : Int))] L f (zA L f (fun r => zB (ge_mtC n (sP X Y) i j) r)) := by
  refine zM.of (by decide) (Nat.le_of_ble_eq_true rfl) rfl (fun p e s m args below meth c A Xc hr hnm => ?_)
  have hn := hB.1
  have l1 : ge_nx n i < n := nx_lt (by omega)
  have l2 : ge_nx n j < n := nx_lt (by omega)
  have b0 := hB.2 i hi
  have b1 := hB.2 j hj
  have b2 := hB.2 _ l1
  have b3 := hB.2 _ l2
  refine k_aload_n Xc d_S_sidesMeet_0 rfl rfl (n := 1) rfl ?_
  refine k_get Xc u_S rfl 0 (by decide) wd_30 rfl d_S_sidesMeet_1 (n := 4) rfl hS.1 hS.2.2.2.1 rfl ?_
  refine k_iload_n Xc d_S_sidesMeet_4 rfl rfl (n := 5) rfl ?_
  refine k_iald Xc d_S_sidesMeet_5 (n := 6) rfl hS.2.1 hS.2.2.2.2.1 (by omega) (by omega) (by decide) ?_
  refine k_aload_n Xc d_S_sidesMeet_6 rfl rfl (n := 7) rfl ?_
  refine k_get Xc u_S rfl 0 (by decide) wd_30 rfl d_S_sidesMeet_7 (n := 10) rfl hS.1 hS.2.2.2.1 rfl ?_
  refine k_aload_n Xc d_S_sidesMeet_10 rfl rfl (n := 11) rfl ?_
  refine k_iload_n Xc d_S_sidesMeet_11 rfl rfl (n := 12) rfl ?_
  refine k_qV (na := 1) Xc (m_S_next l D G hS hB.1 _ (by omega)) hS.1 hS.2.2.2.1 rfl wd_181 wd_178 wd_179 wd_180 wd_2 (by decide +kernel) ⟨by decide, by decide⟩ rfl rfl (Nat.le_of_ble_eq_true rfl) d_S_sidesMeet_12 (n := 15) rfl ⟨Nat.zero_le _, Nat.zero_le _⟩ (fun r_12 e_12 => ?_)
  subst e_12
  refine k_iald Xc d_S_sidesMeet_15 (n := 16) rfl hS.2.1 hS.2.2.2.2.1 (by omega) (by omega) (by decide) ?_
  refine k_aload_n Xc d_S_sidesMeet_16 rfl rfl (n := 17) rfl ?_
  refine k_get Xc u_S rfl 0 (by decide) wd_30 rfl d_S_sidesMeet_17 (n := 20) rfl hS.1 hS.2.2.2.1 rfl ?_
  refine k_iload_n Xc d_S_sidesMeet_20 rfl rfl (n := 21) rfl ?_
  refine k_iald Xc d_S_sidesMeet_21 (n := 22) rfl hS.2.1 hS.2.2.2.2.1 (by omega) (by omega) (by decide) ?_
  refine k_aload_n Xc d_S_sidesMeet_22 rfl rfl (n := 23) rfl ?_
  refine k_get Xc u_S rfl 0 (by decide) wd_30 rfl d_S_sidesMeet_23 (n := 26) rfl hS.1 hS.2.2.2.1 rfl ?_
  refine k_aload_n Xc d_S_sidesMeet_26 rfl rfl (n := 27) rfl ?_
  refine k_iload_n Xc d_S_sidesMeet_27 rfl rfl (n := 28) rfl ?_
  refine k_qV (na := 1) Xc (m_S_next l D G hS hB.1 _ (by omega)) hS.1 hS.2.2.2.1 rfl wd_181 wd_178 wd_179 wd_180 wd_2 (by decide +kernel) ⟨by decide, by decide⟩ rfl rfl (Nat.le_of_ble_eq_true rfl) d_S_sidesMeet_28 (n := 31) rfl ⟨Nat.zero_le _, Nat.zero_le _⟩ (fun r_28 e_28 => ?_)
  subst e_28
  refine k_iald Xc d_S_sidesMeet_31 (n := 32) rfl hS.2.1 hS.2.2.2.2.1 (by omega) (by omega) (by decide) ?_
  refine k_qS (na := 4) Xc (m_S_rangesMeet l D G _ _ _ _ (by omega)) wd_332 wd_330 wd_331 wd_2 (by decide +kernel) ⟨by decide, by decide⟩ rfl rfl (Nat.le_of_ble_eq_true rfl) d_S_sidesMeet_32 (n := 35) rfl ⟨Nat.zero_le _, Nat.zero_le _⟩ (fun r_32 e_32 => ?_)
  rcases e_32 with ⟨e_32, rfl⟩ | ⟨e_32, rfl⟩
  · refine k_if_eq Xc d_S_sidesMeet_35 (t := 98) (n := 38) rfl rfl (by omega) (fun h_35 => absurd h_35 (by omega)) (fun _ => ?_)
    refine k_aload_n Xc d_S_sidesMeet_38 rfl rfl (n := 39) rfl ?_
    refine k_get Xc u_S rfl 1 (by decide) wd_31 rfl d_S_sidesMeet_39 (n := 42) rfl hS.1 hS.2.2.2.1 rfl ?_
    refine k_iload_n Xc d_S_sidesMeet_42 rfl rfl (n := 43) rfl ?_
    refine k_iald Xc d_S_sidesMeet_43 (n := 44) rfl hS.2.2.1 hS.2.2.2.2.2 (by omega) (by omega) (by decide) ?_
    refine k_aload_n Xc d_S_sidesMeet_44 rfl rfl (n := 45) rfl ?_
    refine k_get Xc u_S rfl 1 (by decide) wd_31 rfl d_S_sidesMeet_45 (n := 48) rfl hS.1 hS.2.2.2.1 rfl ?_
    refine k_aload_n Xc d_S_sidesMeet_48 rfl rfl (n := 49) rfl ?_
    refine k_iload_n Xc d_S_sidesMeet_49 rfl rfl (n := 50) rfl ?_
    refine k_qV (na := 1) Xc (m_S_next l D G hS hB.1 _ (by omega)) hS.1 hS.2.2.2.1 rfl wd_181 wd_178 wd_179 wd_180 wd_2 (by decide +kernel) ⟨by decide, by decide⟩ rfl rfl (Nat.le_of_ble_eq_true rfl) d_S_sidesMeet_50 (n := 53) rfl ⟨Nat.zero_le _, Nat.zero_le _⟩ (fun r_50 e_50 => ?_)
    subst e_50
    refine k_iald Xc d_S_sidesMeet_53 (n := 54) rfl hS.2.2.1 hS.2.2.2.2.2 (by omega) (by omega) (by decide) ?_
    refine k_aload_n Xc d_S_sidesMeet_54 rfl rfl (n := 55) rfl ?_
    refine k_get Xc u_S rfl 1 (by decide) wd_31 rfl d_S_sidesMeet_55 (n := 58) rfl hS.1 hS.2.2.2.1 rfl ?_
    refine k_iload_n Xc d_S_sidesMeet_58 rfl rfl (n := 59) rfl ?_
    refine k_iald Xc d_S_sidesMeet_59 (n := 60) rfl hS.2.2.1 hS.2.2.2.2.2 (by omega) (by omega) (by decide) ?_
    refine k_aload_n Xc d_S_sidesMeet_60 rfl rfl (n := 61) rfl ?_
    refine k_get Xc u_S rfl 1 (by decide) wd_31 rfl d_S_sidesMeet_61 (n := 64) rfl hS.1 hS.2.2.2.1 rfl ?_
    refine k_aload_n Xc d_S_sidesMeet_64 rfl rfl (n := 65) rfl ?_
    refine k_iload_n Xc d_S_sidesMeet_65 rfl rfl (n := 66) rfl ?_
    refine k_qV (na := 1) Xc (m_S_next l D G hS hB.1 _ (by omega)) hS.1 hS.2.2.2.1 rfl wd_181 wd_178 wd_179 wd_180 wd_2 (by decide +kernel) ⟨by decide, by decide⟩ rfl rfl (Nat.le_of_ble_eq_true rfl) d_S_sidesMeet_66 (n := 69) rfl ⟨Nat.zero_le _, Nat.zero_le _⟩ (fun r_66 e_66 => ?_)
    subst e_66
    refine k_iald Xc d_S_sidesMeet_69 (n := 70) rfl hS.2.2.1 hS.2.2.2.2.2 (by omega) (by omega) (by decide) ?_
    refine k_qS (na := 4) Xc (m_S_rangesMeet l D G _ _ _ _ (by omega)) wd_332 wd_330 wd_331 wd_2 (by decide +kernel) ⟨by decide, by decide⟩ rfl rfl (Nat.le_of_ble_eq_true rfl) d_S_sidesMeet_70 (n := 73) rfl ⟨Nat.zero_le _, Nat.zero_le _⟩ (fun r_70 e_70 => ?_)
    rcases e_70 with ⟨e_70, rfl⟩ | ⟨e_70, rfl⟩
    · refine k_if_eq Xc d_S_sidesMeet_73 (t := 98) (n := 76) rfl rfl (by omega) (fun h_73 => absurd h_73 (by omega)) (fun _ => ?_)
      refine k_aload_n Xc d_S_sidesMeet_76 rfl rfl (n := 77) rfl ?_
      refine k_iload_n Xc d_S_sidesMeet_77 rfl rfl (n := 78) rfl ?_
      refine k_iload_n Xc d_S_sidesMeet_78 rfl rfl (n := 79) rfl ?_
      refine k_qV (na := 2) Xc (m_S_lineMeets l D G hS hB _ _ (by omega) (by omega)) hS.1 hS.2.2.2.1 rfl wd_336 wd_333 wd_334 wd_335 wd_2 (by decide +kernel) ⟨by decide, by decide⟩ rfl rfl (Nat.le_of_ble_eq_true rfl) d_S_sidesMeet_79 (n := 82) rfl ⟨Nat.zero_le _, Nat.zero_le _⟩ (fun r_79 e_79 => ?_)
      rcases e_79 with ⟨e_79, rfl⟩ | ⟨e_79, rfl⟩
      · refine k_if_eq Xc d_S_sidesMeet_82 (t := 98) (n := 85) rfl rfl (by omega) (fun h_82 => absurd h_82 (by omega)) (fun _ => ?_)
        refine k_aload_n Xc d_S_sidesMeet_85 rfl rfl (n := 86) rfl ?_
        refine k_iload_n Xc d_S_sidesMeet_86 rfl rfl (n := 87) rfl ?_
        refine k_iload_n Xc d_S_sidesMeet_87 rfl rfl (n := 88) rfl ?_
        refine k_qV (na := 2) Xc (m_S_lineMeets l D G hS hB _ _ (by omega) (by omega)) hS.1 hS.2.2.2.1 rfl wd_336 wd_333 wd_334 wd_335 wd_2 (by decide +kernel) ⟨by decide, by decide⟩ rfl rfl (Nat.le_of_ble_eq_true rfl) d_S_sidesMeet_88 (n := 91) rfl ⟨Nat.zero_le _, Nat.zero_le _⟩ (fun r_88 e_88 => ?_)
        rcases e_88 with ⟨e_88, rfl⟩ | ⟨e_88, rfl⟩
        · refine k_if_eq Xc d_S_sidesMeet_91 (t := 98) (n := 94) rfl rfl (by omega) (fun h_91 => absurd h_91 (by omega)) (fun _ => ?_)
          refine k_iconst Xc d_S_sidesMeet_94 (n := 95) rfl ?_
          refine k_goto Xc d_S_sidesMeet_95 (t := 99) rfl ?_
          refine k_iret Xc d_S_sidesMeet_99 hr rfl (Nat.le_refl _) (Nat.le_refl _) ⟨_, rfl, ?_, rfl, rfl⟩
          exact Or.inl ⟨⟨e_32, e_70, e_79, e_88⟩, rfl⟩
        · refine k_if_eq Xc d_S_sidesMeet_91 (t := 98) (n := 94) rfl rfl (by omega) (fun _ => ?_) (fun h_91 => absurd h_91 (by omega))
          refine k_iconst Xc d_S_sidesMeet_98 (n := 99) rfl ?_
          refine k_iret Xc d_S_sidesMeet_99 hr rfl (Nat.le_refl _) (Nat.le_refl _) ⟨_, rfl, ?_, rfl, rfl⟩
          exact Or.inr ⟨fun q => by obtain ⟨z1, z2, z3, z4⟩ := q; contradiction, rfl⟩
      · refine k_if_eq Xc d_S_sidesMeet_82 (t := 98) (n := 85) rfl rfl (by omega) (fun _ => ?_) (fun h_82 => absurd h_82 (by omega))
        refine k_iconst Xc d_S_sidesMeet_98 (n := 99) rfl ?_
        refine k_iret Xc d_S_sidesMeet_99 hr rfl (Nat.le_refl _) (Nat.le_refl _) ⟨_, rfl, ?_, rfl, rfl⟩
        exact Or.inr ⟨fun q => by obtain ⟨z1, z2, z3, z4⟩ := q; contradiction, rfl⟩
    · refine k_if_eq Xc d_S_sidesMeet_73 (t := 98) (n := 76) rfl rfl (by omega) (fun _ => ?_) (fun h_73 => absurd h_73 (by omega))
      refine k_iconst Xc d_S_sidesMeet_98 (n := 99) rfl ?_
      refine k_iret Xc d_S_sidesMeet_99 hr rfl (Nat.le_refl _) (Nat.le_refl _) ⟨_, rfl, ?_, rfl, rfl⟩
      exact Or.inr ⟨fun q => by obtain ⟨z1, z2, z3, z4⟩ := q; contradiction, rfl⟩
  · refine k_if_eq Xc d_S_sidesMeet_35 (t := 98) (n := 38) rfl rfl (by omega) (fun _ => ?_) (fun h_35 => absurd h_35 (by omega))
    refine k_iconst Xc d_S_sidesMeet_98 (n := 99) rfl ?_
    refine k_iret Xc d_S_sidesMeet_99 hr rfl (Nat.le_refl _) (Nat.le_refl _) ⟨_, rfl, ?_, rfl, rfl⟩
    exact Or.inr ⟨fun q => by obtain ⟨z1, z2, z3, z4⟩ := q; contradiction, rfl⟩
