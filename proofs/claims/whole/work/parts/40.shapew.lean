-- SHAPE: writers
set_option maxRecDepth 100000 in
set_option maxHeartbeats 4000000 in
/-- no corners -/
theorem m_S_empty (l : Launch) (D : va_G) (G : Nat → ClassId) {L : List Nat} {f : Nat → va_E} {a ax ay n : Nat} {X Y : Int → Int} {lx hx ly hy : Int} (hS : zS G L f a ax ay n X Y lx hx ly hy) : zM l D G y_S_empty (.code y_S_empty c_S_empty 1 none :: BG) (zR0 0 0) [.ref a] L f (fun v L1 f1 => v = none ∧ L = L1 ∧ zS G L f1 a ax ay 0 X Y lx hx ly hy ∧ sFr f f1 a ax ay) := by
  refine zM.of (by decide) (Nat.le_of_ble_eq_true rfl) rfl (fun p e s m args below meth c A Xc hr hnm => ?_)
  obtain ⟨n1, n2⟩ := zS_ne hS
  refine k_aload_n Xc d_S_empty_0 rfl rfl (n := 1) rfl ?_
  refine k_iconst Xc d_S_empty_1 (n := 2) rfl ?_
  refine k_put Xc u_S t_S_ok n_S rfl 2 (by decide) wd_32 rfl rfl rfl rfl d_S_empty_2 (n := 5) rfl hS.1 hS.2.2.2.1 (Nat.le_of_ble_eq_true rfl) ?_
  refine k_vret Xc d_S_empty_5 hr (Nat.le_refl _) (Nat.le_refl _) ?_
  exact ⟨rfl, rfl, ⟨hS.1, hS.2.1, hS.2.2.1, (va_up_self _ _ _), ((va_up_ne _ _ n1).trans hS.2.2.2.2.1), ((va_up_ne _ _ n2).trans hS.2.2.2.2.2)⟩, fun q h1 h2 h3 => (va_up_ne _ _ h1)⟩
set_option maxRecDepth 100000 in
set_option maxHeartbeats 4000000 in
/-- one corner more -/
theorem m_S_add (l : Launch) (D : va_G) (G : Nat → ClassId) {L : List Nat} {f : Nat → va_E} {a ax ay n : Nat} {X Y : Int → Int} {lx hx ly hy : Int} (hS : zS G L f a ax ay n X Y lx hx ly hy) (hxy : ax ≠ ay) (hn : n < 12) (hb : 0 < n → -1000 ≤ lx ∧ lx ≤ 1000 ∧ -1000 ≤ hx ∧ hx ≤ 1000 ∧ -1000 ≤ ly ∧ ly ≤ 1000 ∧ -1000 ≤ hy ∧ hy ≤ 1000) (x y : Int) (hx1 : -1000 ≤ x) (hx2 : x ≤ 1000) (hy1 : -1000 ≤ y) (hy2 : y ≤ 1000) : zM l D G y_S_add (.code y_S_add c_S_add 3 none :: BG) (zR0 1 21) [.ref a, .int (zI x), .int (zI y)] L f (fun v L1 f1 => v = none ∧ L = L1 ∧ zS G L f1 a ax ay (n + 1) (iu X (n : Int) x) (iu Y (n : Int) y) (bxl n lx x) (bxh n hx x) (bxl n ly y) (bxh n hy y) ∧ sFr f f1 a ax ay) := by
  refine zM.of (by decide) (Nat.le_of_ble_eq_true rfl) rfl (fun p e s m args below meth c A Xc hr hnm => ?_)
  obtain ⟨n1, n2⟩ := zS_ne hS
  by_cases hz : n = 0
  · refine k_aload_n Xc d_S_add_0 rfl rfl (n := 1) rfl ?_
    refine k_get Xc u_S rfl 2 (by decide) wd_32 rfl d_S_add_1 (n := 4) rfl hS.1 hS.2.2.2.1 rfl ?_
    refine k_bipush Xc d_S_add_4 rfl (n := 6) rfl ?_
    refine k_icmp_lt Xc d_S_add_6 (t := 10) (n := 9) rfl rfl (by omega) (by omega) (fun _ => ?_) (fun h_6 => absurd h_6 (by omega))
    refine k_aload_n Xc d_S_add_10 rfl rfl (n := 11) rfl ?_
    refine k_aload_n Xc d_S_add_11 rfl rfl (n := 12) rfl ?_
    refine k_get Xc u_S rfl 2 (by decide) wd_32 rfl d_S_add_12 (n := 15) rfl hS.1 hS.2.2.2.1 rfl ?_
    refine k_if_ne Xc d_S_add_15 (t := 22) (n := 18) rfl rfl (by omega) (fun h_15 => absurd h_15 (by omega)) (fun _ => ?_)
    refine k_iload_n Xc d_S_add_18 rfl rfl (n := 19) rfl ?_
    refine k_goto Xc d_S_add_19 (t := 30) rfl ?_
    refine k_put Xc u_S t_S_ok n_S rfl 3 (by decide) wd_35 rfl rfl rfl rfl d_S_add_30 (n := 33) rfl hS.1 hS.2.2.2.1 (Nat.le_of_ble_eq_true rfl) ?_
    refine k_aload_n Xc d_S_add_33 rfl rfl (n := 34) rfl ?_
    refine k_aload_n Xc d_S_add_34 rfl rfl (n := 35) rfl ?_
    refine k_get Xc u_S rfl 2 (by decide) wd_32 rfl d_S_add_35 (n := 38) rfl hS.1 (va_up_self _ _ _) rfl ?_
    refine k_if_ne Xc d_S_add_38 (t := 45) (n := 41) rfl rfl (by omega) (fun h_38 => absurd h_38 (by omega)) (fun _ => ?_)
    refine k_iload_n Xc d_S_add_41 rfl rfl (n := 42) rfl ?_
    refine k_goto Xc d_S_add_42 (t := 53) rfl ?_
    refine k_put Xc u_S t_S_ok n_S rfl 4 (by decide) wd_37 rfl rfl rfl rfl d_S_add_53 (n := 56) rfl hS.1 (va_up_self _ _ _) (Nat.le_of_ble_eq_true rfl) ?_
    refine k_aload_n Xc d_S_add_56 rfl rfl (n := 57) rfl ?_
    refine k_aload_n Xc d_S_add_57 rfl rfl (n := 58) rfl ?_
    refine k_get Xc u_S rfl 2 (by decide) wd_32 rfl d_S_add_58 (n := 61) rfl hS.1 (va_up_self _ _ _) rfl ?_
    refine k_if_ne Xc d_S_add_61 (t := 68) (n := 64) rfl rfl (by omega) (fun h_61 => absurd h_61 (by omega)) (fun _ => ?_)
    refine k_iload_n Xc d_S_add_64 rfl rfl (n := 65) rfl ?_
    refine k_goto Xc d_S_add_65 (t := 76) rfl ?_
    refine k_put Xc u_S t_S_ok n_S rfl 5 (by decide) wd_40 rfl rfl rfl rfl d_S_add_76 (n := 79) rfl hS.1 (va_up_self _ _ _) (Nat.le_of_ble_eq_true rfl) ?_
    refine k_aload_n Xc d_S_add_79 rfl rfl (n := 80) rfl ?_
    refine k_aload_n Xc d_S_add_80 rfl rfl (n := 81) rfl ?_
    refine k_get Xc u_S rfl 2 (by decide) wd_32 rfl d_S_add_81 (n := 84) rfl hS.1 (va_up_self _ _ _) rfl ?_
    refine k_if_ne Xc d_S_add_84 (t := 91) (n := 87) rfl rfl (by omega) (fun h_84 => absurd h_84 (by omega)) (fun _ => ?_)
    refine k_iload_n Xc d_S_add_87 rfl rfl (n := 88) rfl ?_
    refine k_goto Xc d_S_add_88 (t := 99) rfl ?_
    refine k_put Xc u_S t_S_ok n_S rfl 6 (by decide) wd_42 rfl rfl rfl rfl d_S_add_99 (n := 102) rfl hS.1 (va_up_self _ _ _) (Nat.le_of_ble_eq_true rfl) ?_
    refine k_aload_n Xc d_S_add_102 rfl rfl (n := 103) rfl ?_
    refine k_get Xc u_S rfl 0 (by decide) wd_30 rfl d_S_add_103 (n := 106) rfl hS.1 (va_up_self _ _ _) rfl ?_
    refine k_aload_n Xc d_S_add_106 rfl rfl (n := 107) rfl ?_
    refine k_get Xc u_S rfl 2 (by decide) wd_32 rfl d_S_add_107 (n := 110) rfl hS.1 (va_up_self _ _ _) rfl ?_
    refine k_iload_n Xc d_S_add_110 rfl rfl (n := 111) rfl ?_
    refine k_iast Xc d_S_add_111 (n := 112) rfl hS.2.1 ((va_up_ne _ _ n1).trans ((va_up_ne _ _ n1).trans ((va_up_ne _ _ n1).trans ((va_up_ne _ _ n1).trans hS.2.2.2.2.1)))) (by omega) (by omega) (by decide) ?_
    refine k_aload_n Xc d_S_add_112 rfl rfl (n := 113) rfl ?_
    refine k_get Xc u_S rfl 1 (by decide) wd_31 rfl d_S_add_113 (n := 116) rfl hS.1 ((va_up_ne _ _ (Ne.symm n1)).trans (va_up_self _ _ _)) rfl ?_
    refine k_aload_n Xc d_S_add_116 rfl rfl (n := 117) rfl ?_
    refine k_get Xc u_S rfl 2 (by decide) wd_32 rfl d_S_add_117 (n := 120) rfl hS.1 ((va_up_ne _ _ (Ne.symm n1)).trans (va_up_self _ _ _)) rfl ?_
    refine k_iload_n Xc d_S_add_120 rfl rfl (n := 121) rfl ?_
    refine k_iast Xc d_S_add_121 (n := 122) rfl hS.2.2.1 ((va_up_ne _ _ (Ne.symm hxy)).trans ((va_up_ne _ _ n2).trans ((va_up_ne _ _ n2).trans ((va_up_ne _ _ n2).trans ((va_up_ne _ _ n2).trans hS.2.2.2.2.2))))) (by omega) (by omega) (by decide) ?_
    refine k_aload_n Xc d_S_add_122 rfl rfl (n := 123) rfl ?_
    refine k_dup Xc d_S_add_123 rfl (n := 124) rfl ?_
    refine k_get Xc u_S rfl 2 (by decide) wd_32 rfl d_S_add_124 (n := 127) rfl hS.1 ((va_up_ne _ _ (Ne.symm n2)).trans ((va_up_ne _ _ (Ne.symm n1)).trans (va_up_self _ _ _))) rfl ?_
    refine k_iconst Xc d_S_add_127 (n := 128) rfl ?_
    refine k_iadd Xc d_S_add_128 (n := 129) rfl ?_
    refine k_put Xc u_S t_S_ok n_S rfl 2 (by decide) wd_32 rfl rfl rfl rfl d_S_add_129 (n := 132) rfl hS.1 ((va_up_ne _ _ (Ne.symm n2)).trans ((va_up_ne _ _ (Ne.symm n1)).trans (va_up_self _ _ _))) (Nat.le_of_ble_eq_true rfl) ?_
    refine k_vret Xc d_S_add_132 hr (Nat.le_refl _) (Nat.le_refl _) ?_
    refine ⟨rfl, rfl, ?_, fun q h1 h2 h3 => ((va_up_ne _ _ h1).trans ((va_up_ne _ _ h3).trans ((va_up_ne _ _ h2).trans ((va_up_ne _ _ h1).trans ((va_up_ne _ _ h1).trans ((va_up_ne _ _ h1).trans (va_up_ne _ _ h1)))))))⟩
    unfold bxl bxh
    simp only [if_pos hz]
    exact ⟨hS.1, hS.2.1, hS.2.2.1, (va_up_self _ _ _), ((va_up_ne _ _ n1).trans ((va_up_ne _ _ hxy).trans (va_up_self _ _ _))), ((va_up_ne _ _ n2).trans (va_up_self _ _ _))⟩
  · have hb := hb (by omega)
    refine k_aload_n Xc d_S_add_0 rfl rfl (n := 1) rfl ?_
    refine k_get Xc u_S rfl 2 (by decide) wd_32 rfl d_S_add_1 (n := 4) rfl hS.1 hS.2.2.2.1 rfl ?_
    refine k_bipush Xc d_S_add_4 rfl (n := 6) rfl ?_
    refine k_icmp_lt Xc d_S_add_6 (t := 10) (n := 9) rfl rfl (by omega) (by omega) (fun _ => ?_) (fun h_6 => absurd h_6 (by omega))
    refine k_aload_n Xc d_S_add_10 rfl rfl (n := 11) rfl ?_
    refine k_aload_n Xc d_S_add_11 rfl rfl (n := 12) rfl ?_
    refine k_get Xc u_S rfl 2 (by decide) wd_32 rfl d_S_add_12 (n := 15) rfl hS.1 hS.2.2.2.1 rfl ?_
    refine k_if_ne Xc d_S_add_15 (t := 22) (n := 18) rfl rfl (by omega) (fun _ => ?_) (fun h_15 => absurd h_15 (by omega))
    refine k_aload_n Xc d_S_add_22 rfl rfl (n := 23) rfl ?_
    refine k_get Xc u_S rfl 3 (by decide) wd_35 rfl d_S_add_23 (n := 26) rfl hS.1 hS.2.2.2.1 rfl ?_
    refine k_iload_n Xc d_S_add_26 rfl rfl (n := 27) rfl ?_
    refine k_min Xc d_S_add_27 (n := 30) rfl wd_286 wd_287 wd_12 wd_288 ⟨by decide, Nat.le_of_ble_eq_true rfl⟩ ⟨Nat.zero_le _, Nat.zero_le _⟩ (by omega) (by omega) ?_
    refine k_put Xc u_S t_S_ok n_S rfl 3 (by decide) wd_35 rfl rfl rfl rfl d_S_add_30 (n := 33) rfl hS.1 hS.2.2.2.1 (Nat.le_of_ble_eq_true rfl) ?_
    refine k_aload_n Xc d_S_add_33 rfl rfl (n := 34) rfl ?_
    refine k_aload_n Xc d_S_add_34 rfl rfl (n := 35) rfl ?_
    refine k_get Xc u_S rfl 2 (by decide) wd_32 rfl d_S_add_35 (n := 38) rfl hS.1 (va_up_self _ _ _) rfl ?_
    refine k_if_ne Xc d_S_add_38 (t := 45) (n := 41) rfl rfl (by omega) (fun _ => ?_) (fun h_38 => absurd h_38 (by omega))
    refine k_aload_n Xc d_S_add_45 rfl rfl (n := 46) rfl ?_
    refine k_get Xc u_S rfl 4 (by decide) wd_37 rfl d_S_add_46 (n := 49) rfl hS.1 (va_up_self _ _ _) rfl ?_
    refine k_iload_n Xc d_S_add_49 rfl rfl (n := 50) rfl ?_
    refine k_max Xc d_S_add_50 (n := 53) rfl wd_289 wd_290 wd_12 wd_291 ⟨by decide, Nat.le_of_ble_eq_true rfl⟩ ⟨Nat.zero_le _, Nat.zero_le _⟩ (by omega) (by omega) ?_
    refine k_put Xc u_S t_S_ok n_S rfl 4 (by decide) wd_37 rfl rfl rfl rfl d_S_add_53 (n := 56) rfl hS.1 (va_up_self _ _ _) (Nat.le_of_ble_eq_true rfl) ?_
    refine k_aload_n Xc d_S_add_56 rfl rfl (n := 57) rfl ?_
    refine k_aload_n Xc d_S_add_57 rfl rfl (n := 58) rfl ?_
    refine k_get Xc u_S rfl 2 (by decide) wd_32 rfl d_S_add_58 (n := 61) rfl hS.1 (va_up_self _ _ _) rfl ?_
    refine k_if_ne Xc d_S_add_61 (t := 68) (n := 64) rfl rfl (by omega) (fun _ => ?_) (fun h_61 => absurd h_61 (by omega))
    refine k_aload_n Xc d_S_add_68 rfl rfl (n := 69) rfl ?_
    refine k_get Xc u_S rfl 5 (by decide) wd_40 rfl d_S_add_69 (n := 72) rfl hS.1 (va_up_self _ _ _) rfl ?_
    refine k_iload_n Xc d_S_add_72 rfl rfl (n := 73) rfl ?_
    refine k_min Xc d_S_add_73 (n := 76) rfl wd_286 wd_287 wd_12 wd_288 ⟨by decide, Nat.le_of_ble_eq_true rfl⟩ ⟨Nat.zero_le _, Nat.zero_le _⟩ (by omega) (by omega) ?_
    refine k_put Xc u_S t_S_ok n_S rfl 5 (by decide) wd_40 rfl rfl rfl rfl d_S_add_76 (n := 79) rfl hS.1 (va_up_self _ _ _) (Nat.le_of_ble_eq_true rfl) ?_
    refine k_aload_n Xc d_S_add_79 rfl rfl (n := 80) rfl ?_
    refine k_aload_n Xc d_S_add_80 rfl rfl (n := 81) rfl ?_
    refine k_get Xc u_S rfl 2 (by decide) wd_32 rfl d_S_add_81 (n := 84) rfl hS.1 (va_up_self _ _ _) rfl ?_
    refine k_if_ne Xc d_S_add_84 (t := 91) (n := 87) rfl rfl (by omega) (fun _ => ?_) (fun h_84 => absurd h_84 (by omega))
    refine k_aload_n Xc d_S_add_91 rfl rfl (n := 92) rfl ?_
    refine k_get Xc u_S rfl 6 (by decide) wd_42 rfl d_S_add_92 (n := 95) rfl hS.1 (va_up_self _ _ _) rfl ?_
    refine k_iload_n Xc d_S_add_95 rfl rfl (n := 96) rfl ?_
    refine k_max Xc d_S_add_96 (n := 99) rfl wd_289 wd_290 wd_12 wd_291 ⟨by decide, Nat.le_of_ble_eq_true rfl⟩ ⟨Nat.zero_le _, Nat.zero_le _⟩ (by omega) (by omega) ?_
    refine k_put Xc u_S t_S_ok n_S rfl 6 (by decide) wd_42 rfl rfl rfl rfl d_S_add_99 (n := 102) rfl hS.1 (va_up_self _ _ _) (Nat.le_of_ble_eq_true rfl) ?_
    refine k_aload_n Xc d_S_add_102 rfl rfl (n := 103) rfl ?_
    refine k_get Xc u_S rfl 0 (by decide) wd_30 rfl d_S_add_103 (n := 106) rfl hS.1 (va_up_self _ _ _) rfl ?_
    refine k_aload_n Xc d_S_add_106 rfl rfl (n := 107) rfl ?_
    refine k_get Xc u_S rfl 2 (by decide) wd_32 rfl d_S_add_107 (n := 110) rfl hS.1 (va_up_self _ _ _) rfl ?_
    refine k_iload_n Xc d_S_add_110 rfl rfl (n := 111) rfl ?_
    refine k_iast Xc d_S_add_111 (n := 112) rfl hS.2.1 ((va_up_ne _ _ n1).trans ((va_up_ne _ _ n1).trans ((va_up_ne _ _ n1).trans ((va_up_ne _ _ n1).trans hS.2.2.2.2.1)))) (by omega) (by omega) (by decide) ?_
    refine k_aload_n Xc d_S_add_112 rfl rfl (n := 113) rfl ?_
    refine k_get Xc u_S rfl 1 (by decide) wd_31 rfl d_S_add_113 (n := 116) rfl hS.1 ((va_up_ne _ _ (Ne.symm n1)).trans (va_up_self _ _ _)) rfl ?_
    refine k_aload_n Xc d_S_add_116 rfl rfl (n := 117) rfl ?_
    refine k_get Xc u_S rfl 2 (by decide) wd_32 rfl d_S_add_117 (n := 120) rfl hS.1 ((va_up_ne _ _ (Ne.symm n1)).trans (va_up_self _ _ _)) rfl ?_
    refine k_iload_n Xc d_S_add_120 rfl rfl (n := 121) rfl ?_
    refine k_iast Xc d_S_add_121 (n := 122) rfl hS.2.2.1 ((va_up_ne _ _ (Ne.symm hxy)).trans ((va_up_ne _ _ n2).trans ((va_up_ne _ _ n2).trans ((va_up_ne _ _ n2).trans ((va_up_ne _ _ n2).trans hS.2.2.2.2.2))))) (by omega) (by omega) (by decide) ?_
    refine k_aload_n Xc d_S_add_122 rfl rfl (n := 123) rfl ?_
    refine k_dup Xc d_S_add_123 rfl (n := 124) rfl ?_
    refine k_get Xc u_S rfl 2 (by decide) wd_32 rfl d_S_add_124 (n := 127) rfl hS.1 ((va_up_ne _ _ (Ne.symm n2)).trans ((va_up_ne _ _ (Ne.symm n1)).trans (va_up_self _ _ _))) rfl ?_
    refine k_iconst Xc d_S_add_127 (n := 128) rfl ?_
    refine k_iadd Xc d_S_add_128 (n := 129) rfl ?_
    refine k_put Xc u_S t_S_ok n_S rfl 2 (by decide) wd_32 rfl rfl rfl rfl d_S_add_129 (n := 132) rfl hS.1 ((va_up_ne _ _ (Ne.symm n2)).trans ((va_up_ne _ _ (Ne.symm n1)).trans (va_up_self _ _ _))) (Nat.le_of_ble_eq_true rfl) ?_
    refine k_vret Xc d_S_add_132 hr (Nat.le_refl _) (Nat.le_refl _) ?_
    refine ⟨rfl, rfl, ?_, fun q h1 h2 h3 => ((va_up_ne _ _ h1).trans ((va_up_ne _ _ h3).trans ((va_up_ne _ _ h2).trans ((va_up_ne _ _ h1).trans ((va_up_ne _ _ h1).trans ((va_up_ne _ _ h1).trans (va_up_ne _ _ h1)))))))⟩
    unfold bxl bxh
    simp only [if_neg hz]
    exact ⟨hS.1, hS.2.1, hS.2.2.1, (va_up_self _ _ _), ((va_up_ne _ _ n1).trans ((va_up_ne _ _ hxy).trans (va_up_self _ _ _))), ((va_up_ne _ _ n2).trans (va_up_self _ _ _))⟩
set_option maxRecDepth 100000 in
set_option maxHeartbeats 4000000 in
/-- a copy, moved -/
theorem m_S_copy (l : Launch) (D : va_G) (G : Nat → ClassId) {L : List Nat} {f : Nat → va_E} {a ax ay n : Nat} {X Y : Int → Int} {lx hx ly hy : Int} (hS : zS G L f a ax ay n X Y lx hx ly hy) {b bx b_y k2 : Nat} {U V : Int → Int} {lu hu lv hv : Int} (hT : zS G L f b bx b_y k2 U V lu hu lv hv) (hxy : ax ≠ ay) (hap : sAp a ax ay b bx b_y) (hC : sB k2 U V) (dx dy : Int) (q3 : -100 ≤ dx ∧ dx ≤ 100 ∧ -100 ≤ dy ∧ dy ≤ 100) : zM l D G y_S_copy (.code y_S_copy c_S_copy 5 none :: BG) (zR0 2 43) [.ref a, .ref b, .int (zI dx), .int (zI dy)] L f (fun v L1 f1 => v = none ∧ L = L1 ∧ zN G L f f1 a ax ay k2 (fun j : Nat => U (j : Int) + dx) (fun j : Nat => V (j : Int) + dy)) := by
  refine zM.of (by decide) (Nat.le_of_ble_eq_true rfl) rfl (fun p e s m args below meth c A Xc hr hnm => ?_)
  have hm := hC.1
  have hg : ∀ j : Nat, j < k2 → -1000 ≤ (fun j : Nat => U (j : Int) + dx) j ∧ (fun j : Nat => U (j : Int) + dx) j ≤ 1000 ∧ -1000 ≤ (fun j : Nat => V (j : Int) + dy) j ∧ (fun j : Nat => V (j : Int) + dy) j ≤ 1000 := fun j hj => by
    have := hC.2 j hj
    dsimp only
    omega
  have loop : ∀ (d i : Nat) (g : Nat → va_E) (X1 Y1 : Int → Int) (l1 r1 l2 r2 : Int), k2 < i + d → i ≤ k2 → zS G L g a ax ay i X1 Y1 l1 r1 l2 r2 → sFr f g a ax ay → sIs i X1 Y1 (fun j : Nat => U (j : Int) + dx) (fun j : Nat => V (j : Int) + dy) → sBx i X1 Y1 l1 r1 l2 r2 → zG p l e (zR0 2 43) s m args below meth c D A 5 0 0 (MQ below (zE D A (fun v L1 f1 => v = none ∧ L = L1 ∧ zN G L f f1 a ax ay k2 (fun j : Nat => U (j : Int) + dx) (fun j : Nat => V (j : Int) + dy))) args s (zR0 2 43).cells (zR0 2 43).slots A) 7 [(0, .ref a), (1, .ref b), (2, .int (zI dx)), (3, .int (zI dy)), (4, .int (zI (i : Int)))] [] L g := by
    intro d
    induction d with
    | zero => intro i g X1 Y1 l1 r1 l2 r2 h1 h2; omega
    | succ d ih =>
      intro i g X1 Y1 l1 r1 l2 r2 h1 h2 hG hF hI hX
      have hH := zS_keep hS hT hF hap
      refine k_iload Xc d_S_copy_7 rfl (n := 9) rfl ?_
      refine k_aload_n Xc d_S_copy_9 rfl rfl (n := 10) rfl ?_
      refine k_get Xc u_S rfl 2 (by decide) wd_32 rfl d_S_copy_10 (n := 13) rfl hH.1 hH.2.2.2.1 rfl ?_
      refine k_icmp_ge Xc d_S_copy_13 (t := 44) (n := 16) rfl rfl (by omega) (by omega) (fun h_13 => ?_) (fun h_13 => ?_)
      · refine k_vret Xc d_S_copy_44 hr (Nat.le_refl _) (Nat.le_refl _) ?_
        have ek : i = k2 := by omega
        subst ek
        exact ⟨rfl, rfl, X1, Y1, l1, r1, l2, r2, hG, hF, hI, hX⟩
      · refine k_aload_n Xc d_S_copy_16 rfl rfl (n := 17) rfl ?_
        refine k_aload_n Xc d_S_copy_17 rfl rfl (n := 18) rfl ?_
        refine k_get Xc u_S rfl 0 (by decide) wd_30 rfl d_S_copy_18 (n := 21) rfl hH.1 hH.2.2.2.1 rfl ?_
        refine k_iload Xc d_S_copy_21 rfl (n := 23) rfl ?_
        refine k_iald Xc d_S_copy_23 (n := 24) rfl hH.2.1 hH.2.2.2.2.1 (by omega) (by omega) (by decide) ?_
        refine k_iload_n Xc d_S_copy_24 rfl rfl (n := 25) rfl ?_
        refine k_iadd Xc d_S_copy_25 (n := 26) rfl ?_
        refine k_aload_n Xc d_S_copy_26 rfl rfl (n := 27) rfl ?_
        refine k_get Xc u_S rfl 1 (by decide) wd_31 rfl d_S_copy_27 (n := 30) rfl hH.1 hH.2.2.2.1 rfl ?_
        refine k_iload Xc d_S_copy_30 rfl (n := 32) rfl ?_
        refine k_iald Xc d_S_copy_32 (n := 33) rfl hH.2.2.1 hH.2.2.2.2.2 (by omega) (by omega) (by decide) ?_
        refine k_iload_n Xc d_S_copy_33 rfl rfl (n := 34) rfl ?_
        refine k_iadd Xc d_S_copy_34 (n := 35) rfl ?_
        have c1 := hC.2 i (by omega)
        refine k_wV (na := 2) Xc (m_S_add l D G hG hxy (by omega) (fun q => sBx_bd hX hI (fun j hj => hg j (by omega)) q) _ _ (by omega) (by omega) (by omega) (by omega)) hG.1 hG.2.2.2.1 rfl wd_285 wd_312 wd_283 wd_284 wd_2 (by decide +kernel) ⟨by decide, by decide⟩ rfl rfl (Nat.le_of_ble_eq_true rfl) d_S_copy_35 (n := 38) rfl ⟨Nat.zero_le _, Nat.zero_le _⟩ (fun v_35 L_35 f_35 e_35 => ?_)
        obtain ⟨rfl, rfl, hS2, hF2⟩ := e_35
        refine k_iinc Xc d_S_copy_38 rfl (by decide) (n := 41) rfl ?_
        refine k_goto Xc d_S_copy_41 (t := 7) rfl ?_
        exact k_loc (ih (i + 1) _ _ _ _ _ _ _ (by omega) (by omega) hS2 (sFr_tr hF hF2) (sIs_add hI rfl rfl) (sBx_add hX _ _)) rfl
  refine k_aload_n Xc d_S_copy_0 rfl rfl (n := 1) rfl ?_
  refine k_wV (na := 0) Xc (m_S_empty l D G hS) hS.1 hS.2.2.2.1 rfl wd_311 wd_308 wd_309 wd_310 wd_2 (by decide +kernel) ⟨by decide, by decide⟩ rfl rfl (Nat.le_of_ble_eq_true rfl) d_S_copy_1 (n := 4) rfl ⟨Nat.zero_le _, Nat.zero_le _⟩ (fun v_1 L_1 f_1 e_1 => ?_)
  obtain ⟨rfl, rfl, hS1, hF1⟩ := e_1
  have hT1 := zS_keep hS hT hF1 hap
  refine k_iconst Xc d_S_copy_4 (n := 5) rfl ?_
  refine k_istore Xc d_S_copy_5 (by decide) (n := 7) rfl ?_
  exact k_loc (loop (k2 + 1) 0 _ X Y lx hx ly hy (by omega) (by omega) hS1 hF1 (fun j q => absurd q (by omega)) (fun q => absurd q (by omega))) rfl
set_option maxRecDepth 100000 in
set_option maxHeartbeats 4000000 in
/-- a copy after one turn, its least coordinates 0 -/
theorem m_S_copyTurned (l : Launch) (D : va_G) (G : Nat → ClassId) {L : List Nat} {f : Nat → va_E} {a ax ay n : Nat} {X Y : Int → Int} {lx hx ly hy : Int} (hS : zS G L f a ax ay n X Y lx hx ly hy) {b bx b_y k2 : Nat} {U V : Int → Int} {lu hu lv hv : Int} (hT : zS G L f b bx b_y k2 U V lu hu lv hv) (hxy : ax ≠ ay) (hap : sAp a ax ay b bx b_y) (hC : sB k2 U V) (q2 : -500 ≤ lu ∧ lu ≤ 500 ∧ -500 ≤ hv ∧ hv ≤ 500) : zM l D G y_S_copyTurned (.code y_S_copyTurned c_S_copyTurned 3 none :: BG) (zR0 2 43) [.ref a, .ref b] L f (fun v L1 f1 => v = none ∧ L = L1 ∧ zN G L f f1 a ax ay k2 (fun j : Nat => hv - V (j : Int)) (fun j : Nat => U (j : Int) - lu)) := by
  refine zM.of (by decide) (Nat.le_of_ble_eq_true rfl) rfl (fun p e s m args below meth c A Xc hr hnm => ?_)
  have hm := hC.1
  have hg : ∀ j : Nat, j < k2 → -1000 ≤ (fun j : Nat => hv - V (j : Int)) j ∧ (fun j : Nat => hv - V (j : Int)) j ≤ 1000 ∧ -1000 ≤ (fun j : Nat => U (j : Int) - lu) j ∧ (fun j : Nat => U (j : Int) - lu) j ≤ 1000 := fun j hj => by
    have := hC.2 j hj
    dsimp only
    omega
  have loop : ∀ (d i : Nat) (g : Nat → va_E) (X1 Y1 : Int → Int) (l1 r1 l2 r2 : Int), k2 < i + d → i ≤ k2 → zS G L g a ax ay i X1 Y1 l1 r1 l2 r2 → sFr f g a ax ay → sIs i X1 Y1 (fun j : Nat => hv - V (j : Int)) (fun j : Nat => U (j : Int) - lu) → sBx i X1 Y1 l1 r1 l2 r2 → zG p l e (zR0 2 43) s m args below meth c D A 3 0 0 (MQ below (zE D A (fun v L1 f1 => v = none ∧ L = L1 ∧ zN G L f f1 a ax ay k2 (fun j : Nat => hv - V (j : Int)) (fun j : Nat => U (j : Int) - lu))) args s (zR0 2 43).cells (zR0 2 43).slots A) 6 [(0, .ref a), (1, .ref b), (2, .int (zI (i : Int)))] [] L g := by
    intro d
    induction d with
    | zero => intro i g X1 Y1 l1 r1 l2 r2 h1 h2; omega
    | succ d ih =>
      intro i g X1 Y1 l1 r1 l2 r2 h1 h2 hG hF hI hX
      have hH := zS_keep hS hT hF hap
      refine k_iload_n Xc d_S_copyTurned_6 rfl rfl (n := 7) rfl ?_
      refine k_aload_n Xc d_S_copyTurned_7 rfl rfl (n := 8) rfl ?_
      refine k_get Xc u_S rfl 2 (by decide) wd_32 rfl d_S_copyTurned_8 (n := 11) rfl hH.1 hH.2.2.2.1 rfl ?_
      refine k_icmp_ge Xc d_S_copyTurned_11 (t := 46) (n := 14) rfl rfl (by omega) (by omega) (fun h_11 => ?_) (fun h_11 => ?_)
      · refine k_vret Xc d_S_copyTurned_46 hr (Nat.le_refl _) (Nat.le_refl _) ?_
        have ek : i = k2 := by omega
        subst ek
        exact ⟨rfl, rfl, X1, Y1, l1, r1, l2, r2, hG, hF, hI, hX⟩
      · refine k_aload_n Xc d_S_copyTurned_14 rfl rfl (n := 15) rfl ?_
        refine k_aload_n Xc d_S_copyTurned_15 rfl rfl (n := 16) rfl ?_
        refine k_get Xc u_S rfl 6 (by decide) wd_42 rfl d_S_copyTurned_16 (n := 19) rfl hH.1 hH.2.2.2.1 rfl ?_
        refine k_aload_n Xc d_S_copyTurned_19 rfl rfl (n := 20) rfl ?_
        refine k_get Xc u_S rfl 1 (by decide) wd_31 rfl d_S_copyTurned_20 (n := 23) rfl hH.1 hH.2.2.2.1 rfl ?_
        refine k_iload_n Xc d_S_copyTurned_23 rfl rfl (n := 24) rfl ?_
        refine k_iald Xc d_S_copyTurned_24 (n := 25) rfl hH.2.2.1 hH.2.2.2.2.2 (by omega) (by omega) (by decide) ?_
        refine k_isub Xc d_S_copyTurned_25 (n := 26) rfl ?_
        refine k_aload_n Xc d_S_copyTurned_26 rfl rfl (n := 27) rfl ?_
        refine k_get Xc u_S rfl 0 (by decide) wd_30 rfl d_S_copyTurned_27 (n := 30) rfl hH.1 hH.2.2.2.1 rfl ?_
        refine k_iload_n Xc d_S_copyTurned_30 rfl rfl (n := 31) rfl ?_
        refine k_iald Xc d_S_copyTurned_31 (n := 32) rfl hH.2.1 hH.2.2.2.2.1 (by omega) (by omega) (by decide) ?_
        refine k_aload_n Xc d_S_copyTurned_32 rfl rfl (n := 33) rfl ?_
        refine k_get Xc u_S rfl 3 (by decide) wd_35 rfl d_S_copyTurned_33 (n := 36) rfl hH.1 hH.2.2.2.1 rfl ?_
        refine k_isub Xc d_S_copyTurned_36 (n := 37) rfl ?_
        have c1 := hC.2 i (by omega)
        refine k_wV (na := 2) Xc (m_S_add l D G hG hxy (by omega) (fun q => sBx_bd hX hI (fun j hj => hg j (by omega)) q) _ _ (by omega) (by omega) (by omega) (by omega)) hG.1 hG.2.2.2.1 rfl wd_285 wd_312 wd_283 wd_284 wd_2 (by decide +kernel) ⟨by decide, by decide⟩ rfl rfl (Nat.le_of_ble_eq_true rfl) d_S_copyTurned_37 (n := 40) rfl ⟨Nat.zero_le _, Nat.zero_le _⟩ (fun v_37 L_37 f_37 e_37 => ?_)
        obtain ⟨rfl, rfl, hS2, hF2⟩ := e_37
        refine k_iinc Xc d_S_copyTurned_40 rfl (by decide) (n := 43) rfl ?_
        refine k_goto Xc d_S_copyTurned_43 (t := 6) rfl ?_
        exact k_loc (ih (i + 1) _ _ _ _ _ _ _ (by omega) (by omega) hS2 (sFr_tr hF hF2) (sIs_add hI rfl rfl) (sBx_add hX _ _)) rfl
  refine k_aload_n Xc d_S_copyTurned_0 rfl rfl (n := 1) rfl ?_
  refine k_wV (na := 0) Xc (m_S_empty l D G hS) hS.1 hS.2.2.2.1 rfl wd_311 wd_308 wd_309 wd_310 wd_2 (by decide +kernel) ⟨by decide, by decide⟩ rfl rfl (Nat.le_of_ble_eq_true rfl) d_S_copyTurned_1 (n := 4) rfl ⟨Nat.zero_le _, Nat.zero_le _⟩ (fun v_1 L_1 f_1 e_1 => ?_)
  obtain ⟨rfl, rfl, hS1, hF1⟩ := e_1
  have hT1 := zS_keep hS hT hF1 hap
  refine k_iconst Xc d_S_copyTurned_4 (n := 5) rfl ?_
  refine k_istore_n Xc d_S_copyTurned_5 rfl (by decide) (n := 6) rfl ?_
  exact k_loc (loop (k2 + 1) 0 _ X Y lx hx ly hy (by omega) (by omega) hS1 hF1 (fun j q => absurd q (by omega)) (fun q => absurd q (by omega))) rfl
