-- SHAPE: queries
set_option maxRecDepth 100000 in
set_option maxHeartbeats 4000000 in
/-- a point, told in thirds, is inside -/
theorem m_S_surrounds (l : Launch) (D : va_G) (G : Nat → ClassId) {L : List Nat} {f : Nat → va_E} {a ax ay n : Nat} {X Y : Int → Int} {lx hx ly hy : Int} (hS : zS G L f a ax ay n X Y lx hx ly hy) (hB : sB n X Y) (tx ty : Int) (q3 : -1000 ≤ tx ∧ tx ≤ 1000 ∧ -1000 ≤ ty ∧ ty ≤ 1000) : zM l D G y_S_surrounds (.code y_S_surrounds c_S_surrounds 9 (some .boolean) :: BG) (zR0 1 21) [.ref a, .int (zI tx), .int (zI ty)] L f (zA L f (fun r => zB (ge_odd n (ge_3 (sP X Y)) (tx, ty) n) r)) := by
  refine zM.of (by decide) (Nat.le_of_ble_eq_true rfl) rfl (fun p e s m args below meth c A Xc hr hnm => ?_)
  have hn := hB.1
  have loop : ∀ (d i : Nat) (o : Int), n < i + d → i ≤ n → zB (ge_odd n (ge_3 (sP X Y)) (tx, ty) i) o → zG p l e (zR0 1 21) s m args below meth c D A 9 0 0 (MQ below (zE D A (zA L f (fun r => zB (ge_odd n (ge_3 (sP X Y)) (tx, ty) n) r))) args s (zR0 1 21).cells (zR0 1 21).slots A) 5 [(0, .ref a), (1, .int (zI tx)), (2, .int (zI ty)), (3, .int (zI o)), (4, .int (zI (i : Int)))] [] L f := by
    intro d
    induction d with
    | zero => intro i o h1 h2; omega
    | succ d ih =>
      intro i o h1 h2 ho
      have o1 := zB_01 ho
      refine k_iload Xc d_S_surrounds_5 rfl (n := 7) rfl ?_
      refine k_aload_n Xc d_S_surrounds_7 rfl rfl (n := 8) rfl ?_
      refine k_get Xc u_S rfl 2 (by decide) wd_32 rfl d_S_surrounds_8 (n := 11) rfl hS.1 hS.2.2.2.1 rfl ?_
      refine k_icmp_ge Xc d_S_surrounds_11 (t := 160) (n := 14) rfl rfl (by omega) (by omega) (fun h_11 => ?_) (fun h_11 => ?_)
      · refine k_iload_n Xc d_S_surrounds_160 rfl rfl (n := 161) rfl ?_
        refine k_iret Xc d_S_surrounds_161 hr (nar_b o1) (Nat.le_refl _) (Nat.le_refl _) ⟨_, rfl, ?_, rfl, rfl⟩
        rw [show i = n by omega] at ho
        exact ho
      · refine k_aload_n Xc d_S_surrounds_14 rfl rfl (n := 15) rfl ?_
        refine k_iload Xc d_S_surrounds_15 rfl (n := 17) rfl ?_
        have l1 : ge_nx n i < n := nx_lt (by omega)
        have b0 := hB.2 i (by omega)
        have b1 := hB.2 _ l1
        have u := mul_bd (a := X ((ge_nx n i : Nat) : Int) - X (i : Int)) (b := ty - 3 * Y (i : Int)) (A := 200) (B := 1300) (by omega) (by omega) (by omega) (by omega)
        have v := mul_bd (a := Y ((ge_nx n i : Nat) : Int) - Y (i : Int)) (b := tx - 3 * X (i : Int)) (A := 200) (B := 1300) (by omega) (by omega) (by omega) (by omega)
        refine k_qV (na := 1) Xc (m_S_next l D G hS hB.1 _ (by omega)) hS.1 hS.2.2.2.1 rfl wd_181 wd_178 wd_179 wd_180 wd_2 (by decide +kernel) ⟨by decide, by decide⟩ rfl rfl (Nat.le_of_ble_eq_true rfl) d_S_surrounds_17 (n := 20) rfl ⟨Nat.zero_le _, Nat.zero_le _⟩ (fun r_17 e_17 => ?_)
        subst e_17
        refine k_istore Xc d_S_surrounds_20 (by decide) (n := 22) rfl ?_
        refine k_iconst Xc d_S_surrounds_22 (n := 23) rfl ?_
        refine k_aload_n Xc d_S_surrounds_23 rfl rfl (n := 24) rfl ?_
        refine k_get Xc u_S rfl 1 (by decide) wd_31 rfl d_S_surrounds_24 (n := 27) rfl hS.1 hS.2.2.2.1 rfl ?_
        refine k_iload Xc d_S_surrounds_27 rfl (n := 29) rfl ?_
        refine k_iald Xc d_S_surrounds_29 (n := 30) rfl hS.2.2.1 hS.2.2.2.2.2 (by omega) (by omega) (by decide) ?_
        refine k_imul Xc d_S_surrounds_30 (n := 31) rfl ?_
        refine k_iload_n Xc d_S_surrounds_31 rfl rfl (n := 32) rfl ?_
        refine k_icmp_le Xc d_S_surrounds_32 (t := 39) (n := 35) rfl rfl (by omega) (by omega) (fun h_32 => ?_) (fun h_32 => ?_)
        · refine k_iconst Xc d_S_surrounds_39 (n := 40) rfl ?_
          refine k_istore Xc d_S_surrounds_40 (by decide) (n := 42) rfl ?_
          refine k_iconst Xc d_S_surrounds_42 (n := 43) rfl ?_
          refine k_aload_n Xc d_S_surrounds_43 rfl rfl (n := 44) rfl ?_
          refine k_get Xc u_S rfl 1 (by decide) wd_31 rfl d_S_surrounds_44 (n := 47) rfl hS.1 hS.2.2.2.1 rfl ?_
          refine k_iload Xc d_S_surrounds_47 rfl (n := 49) rfl ?_
          refine k_iald Xc d_S_surrounds_49 (n := 50) rfl hS.2.2.1 hS.2.2.2.2.2 (by omega) (by omega) (by decide) ?_
          refine k_imul Xc d_S_surrounds_50 (n := 51) rfl ?_
          refine k_iload_n Xc d_S_surrounds_51 rfl rfl (n := 52) rfl ?_
          refine k_icmp_le Xc d_S_surrounds_52 (t := 59) (n := 55) rfl rfl (by omega) (by omega) (fun h_52 => ?_) (fun h_52 => ?_)
          · refine k_iconst Xc d_S_surrounds_59 (n := 60) rfl ?_
            refine k_istore Xc d_S_surrounds_60 (by decide) (n := 62) rfl ?_
            refine k_aload_n Xc d_S_surrounds_62 rfl rfl (n := 63) rfl ?_
            refine k_get Xc u_S rfl 0 (by decide) wd_30 rfl d_S_surrounds_63 (n := 66) rfl hS.1 hS.2.2.2.1 rfl ?_
            refine k_iload Xc d_S_surrounds_66 rfl (n := 68) rfl ?_
            refine k_iald Xc d_S_surrounds_68 (n := 69) rfl hS.2.1 hS.2.2.2.2.1 (by omega) (by omega) (by decide) ?_
            refine k_aload_n Xc d_S_surrounds_69 rfl rfl (n := 70) rfl ?_
            refine k_get Xc u_S rfl 0 (by decide) wd_30 rfl d_S_surrounds_70 (n := 73) rfl hS.1 hS.2.2.2.1 rfl ?_
            refine k_iload Xc d_S_surrounds_73 rfl (n := 75) rfl ?_
            refine k_iald Xc d_S_surrounds_75 (n := 76) rfl hS.2.1 hS.2.2.2.2.1 (by omega) (by omega) (by decide) ?_
            refine k_isub Xc d_S_surrounds_76 (n := 77) rfl ?_
            refine k_iload_n Xc d_S_surrounds_77 rfl rfl (n := 78) rfl ?_
            refine k_iconst Xc d_S_surrounds_78 (n := 79) rfl ?_
            refine k_aload_n Xc d_S_surrounds_79 rfl rfl (n := 80) rfl ?_
            refine k_get Xc u_S rfl 1 (by decide) wd_31 rfl d_S_surrounds_80 (n := 83) rfl hS.1 hS.2.2.2.1 rfl ?_
            refine k_iload Xc d_S_surrounds_83 rfl (n := 85) rfl ?_
            refine k_iald Xc d_S_surrounds_85 (n := 86) rfl hS.2.2.1 hS.2.2.2.2.2 (by omega) (by omega) (by decide) ?_
            refine k_imul Xc d_S_surrounds_86 (n := 87) rfl ?_
            refine k_isub Xc d_S_surrounds_87 (n := 88) rfl ?_
            refine k_imul Xc d_S_surrounds_88 (n := 89) rfl ?_
            refine k_aload_n Xc d_S_surrounds_89 rfl rfl (n := 90) rfl ?_
            refine k_get Xc u_S rfl 1 (by decide) wd_31 rfl d_S_surrounds_90 (n := 93) rfl hS.1 hS.2.2.2.1 rfl ?_
            refine k_iload Xc d_S_surrounds_93 rfl (n := 95) rfl ?_
            refine k_iald Xc d_S_surrounds_95 (n := 96) rfl hS.2.2.1 hS.2.2.2.2.2 (by omega) (by omega) (by decide) ?_
            refine k_aload_n Xc d_S_surrounds_96 rfl rfl (n := 97) rfl ?_
            refine k_get Xc u_S rfl 1 (by decide) wd_31 rfl d_S_surrounds_97 (n := 100) rfl hS.1 hS.2.2.2.1 rfl ?_
            refine k_iload Xc d_S_surrounds_100 rfl (n := 102) rfl ?_
            refine k_iald Xc d_S_surrounds_102 (n := 103) rfl hS.2.2.1 hS.2.2.2.2.2 (by omega) (by omega) (by decide) ?_
            refine k_isub Xc d_S_surrounds_103 (n := 104) rfl ?_
            refine k_iload_n Xc d_S_surrounds_104 rfl rfl (n := 105) rfl ?_
            refine k_iconst Xc d_S_surrounds_105 (n := 106) rfl ?_
            refine k_aload_n Xc d_S_surrounds_106 rfl rfl (n := 107) rfl ?_
            refine k_get Xc u_S rfl 0 (by decide) wd_30 rfl d_S_surrounds_107 (n := 110) rfl hS.1 hS.2.2.2.1 rfl ?_
            refine k_iload Xc d_S_surrounds_110 rfl (n := 112) rfl ?_
            refine k_iald Xc d_S_surrounds_112 (n := 113) rfl hS.2.1 hS.2.2.2.2.1 (by omega) (by omega) (by decide) ?_
            refine k_imul Xc d_S_surrounds_113 (n := 114) rfl ?_
            refine k_isub Xc d_S_surrounds_114 (n := 115) rfl ?_
            refine k_imul Xc d_S_surrounds_115 (n := 116) rfl ?_
            refine k_isub Xc d_S_surrounds_116 (n := 117) rfl ?_
            refine k_top (fun w hat => ?_)
            have hh := hit3 hat
            refine k_istore Xc d_S_surrounds_117 (by decide) (n := 119) rfl ?_
            refine k_iload Xc d_S_surrounds_119 rfl (n := 121) rfl ?_
            refine k_iload Xc d_S_surrounds_121 rfl (n := 123) rfl ?_
            refine k_icmp_eq Xc d_S_surrounds_123 (t := 154) (n := 126) rfl rfl (by omega) (by omega) (fun _ => ?_) (fun h_123 => absurd h_123 (by omega))
            refine k_iinc Xc d_S_surrounds_154 rfl (by decide) (n := 157) rfl ?_
            refine k_goto Xc d_S_surrounds_157 (t := 5) rfl ?_
            exact k_loc (ih (i + 1) o (by omega) (by omega) (odd_keep ho (fun q => by have := hh.mp q; omega))) rfl
          · refine k_iconst Xc d_S_surrounds_55 (n := 56) rfl ?_
            refine k_goto Xc d_S_surrounds_56 (t := 60) rfl ?_
            refine k_istore Xc d_S_surrounds_60 (by decide) (n := 62) rfl ?_
            refine k_aload_n Xc d_S_surrounds_62 rfl rfl (n := 63) rfl ?_
            refine k_get Xc u_S rfl 0 (by decide) wd_30 rfl d_S_surrounds_63 (n := 66) rfl hS.1 hS.2.2.2.1 rfl ?_
            refine k_iload Xc d_S_surrounds_66 rfl (n := 68) rfl ?_
            refine k_iald Xc d_S_surrounds_68 (n := 69) rfl hS.2.1 hS.2.2.2.2.1 (by omega) (by omega) (by decide) ?_
            refine k_aload_n Xc d_S_surrounds_69 rfl rfl (n := 70) rfl ?_
            refine k_get Xc u_S rfl 0 (by decide) wd_30 rfl d_S_surrounds_70 (n := 73) rfl hS.1 hS.2.2.2.1 rfl ?_
            refine k_iload Xc d_S_surrounds_73 rfl (n := 75) rfl ?_
            refine k_iald Xc d_S_surrounds_75 (n := 76) rfl hS.2.1 hS.2.2.2.2.1 (by omega) (by omega) (by decide) ?_
            refine k_isub Xc d_S_surrounds_76 (n := 77) rfl ?_
            refine k_iload_n Xc d_S_surrounds_77 rfl rfl (n := 78) rfl ?_
            refine k_iconst Xc d_S_surrounds_78 (n := 79) rfl ?_
            refine k_aload_n Xc d_S_surrounds_79 rfl rfl (n := 80) rfl ?_
            refine k_get Xc u_S rfl 1 (by decide) wd_31 rfl d_S_surrounds_80 (n := 83) rfl hS.1 hS.2.2.2.1 rfl ?_
            refine k_iload Xc d_S_surrounds_83 rfl (n := 85) rfl ?_
            refine k_iald Xc d_S_surrounds_85 (n := 86) rfl hS.2.2.1 hS.2.2.2.2.2 (by omega) (by omega) (by decide) ?_
            refine k_imul Xc d_S_surrounds_86 (n := 87) rfl ?_
            refine k_isub Xc d_S_surrounds_87 (n := 88) rfl ?_
            refine k_imul Xc d_S_surrounds_88 (n := 89) rfl ?_
            refine k_aload_n Xc d_S_surrounds_89 rfl rfl (n := 90) rfl ?_
            refine k_get Xc u_S rfl 1 (by decide) wd_31 rfl d_S_surrounds_90 (n := 93) rfl hS.1 hS.2.2.2.1 rfl ?_
            refine k_iload Xc d_S_surrounds_93 rfl (n := 95) rfl ?_
            refine k_iald Xc d_S_surrounds_95 (n := 96) rfl hS.2.2.1 hS.2.2.2.2.2 (by omega) (by omega) (by decide) ?_
            refine k_aload_n Xc d_S_surrounds_96 rfl rfl (n := 97) rfl ?_
            refine k_get Xc u_S rfl 1 (by decide) wd_31 rfl d_S_surrounds_97 (n := 100) rfl hS.1 hS.2.2.2.1 rfl ?_
            refine k_iload Xc d_S_surrounds_100 rfl (n := 102) rfl ?_
            refine k_iald Xc d_S_surrounds_102 (n := 103) rfl hS.2.2.1 hS.2.2.2.2.2 (by omega) (by omega) (by decide) ?_
            refine k_isub Xc d_S_surrounds_103 (n := 104) rfl ?_
            refine k_iload_n Xc d_S_surrounds_104 rfl rfl (n := 105) rfl ?_
            refine k_iconst Xc d_S_surrounds_105 (n := 106) rfl ?_
            refine k_aload_n Xc d_S_surrounds_106 rfl rfl (n := 107) rfl ?_
            refine k_get Xc u_S rfl 0 (by decide) wd_30 rfl d_S_surrounds_107 (n := 110) rfl hS.1 hS.2.2.2.1 rfl ?_
            refine k_iload Xc d_S_surrounds_110 rfl (n := 112) rfl ?_
            refine k_iald Xc d_S_surrounds_112 (n := 113) rfl hS.2.1 hS.2.2.2.2.1 (by omega) (by omega) (by decide) ?_
            refine k_imul Xc d_S_surrounds_113 (n := 114) rfl ?_
            refine k_isub Xc d_S_surrounds_114 (n := 115) rfl ?_
            refine k_imul Xc d_S_surrounds_115 (n := 116) rfl ?_
            refine k_isub Xc d_S_surrounds_116 (n := 117) rfl ?_
            refine k_top (fun w hat => ?_)
            have hh := hit3 hat
            refine k_istore Xc d_S_surrounds_117 (by decide) (n := 119) rfl ?_
            refine k_iload Xc d_S_surrounds_119 rfl (n := 121) rfl ?_
            refine k_iload Xc d_S_surrounds_121 rfl (n := 123) rfl ?_
            refine k_icmp_eq Xc d_S_surrounds_123 (t := 154) (n := 126) rfl rfl (by omega) (by omega) (fun h_123 => absurd h_123 (by omega)) (fun _ => ?_)
            refine k_iload Xc d_S_surrounds_126 rfl (n := 128) rfl ?_
            refine k_if_eq Xc d_S_surrounds_128 (t := 139) (n := 131) rfl rfl (by omega) (fun h_128 => absurd h_128 (by omega)) (fun _ => ?_)
            refine k_iload Xc d_S_surrounds_131 rfl (n := 133) rfl ?_
            refine k_if_le Xc d_S_surrounds_133 (t := 154) (n := 136) rfl rfl (by omega) (fun h_133 => ?_) (fun h_133 => ?_)
            · refine k_iinc Xc d_S_surrounds_154 rfl (by decide) (n := 157) rfl ?_
              refine k_goto Xc d_S_surrounds_157 (t := 5) rfl ?_
              exact k_loc (ih (i + 1) o (by omega) (by omega) (odd_keep ho (fun q => by have := hh.mp q; omega))) rfl
            · refine k_goto Xc d_S_surrounds_136 (t := 144) rfl ?_
              refine k_iload_n Xc d_S_surrounds_144 rfl rfl (n := 145) rfl ?_
              refine k_if_ne Xc d_S_surrounds_145 (t := 152) (n := 148) rfl rfl (by omega) (fun h_145 => ?_) (fun h_145 => ?_)
              · refine k_iconst Xc d_S_surrounds_152 (n := 153) rfl ?_
                refine k_istore_n Xc d_S_surrounds_153 rfl (by decide) (n := 154) rfl ?_
                refine k_iinc Xc d_S_surrounds_154 rfl (by decide) (n := 157) rfl ?_
                refine k_goto Xc d_S_surrounds_157 (t := 5) rfl ?_
                exact k_loc (ih (i + 1) 0 (by omega) (by omega) (odd_flip ho (hh.mpr (by omega)) (by omega))) rfl
              · refine k_iconst Xc d_S_surrounds_148 (n := 149) rfl ?_
                refine k_goto Xc d_S_surrounds_149 (t := 153) rfl ?_
                refine k_istore_n Xc d_S_surrounds_153 rfl (by decide) (n := 154) rfl ?_
                refine k_iinc Xc d_S_surrounds_154 rfl (by decide) (n := 157) rfl ?_
                refine k_goto Xc d_S_surrounds_157 (t := 5) rfl ?_
                exact k_loc (ih (i + 1) 1 (by omega) (by omega) (odd_flip ho (hh.mpr (by omega)) (by omega))) rfl
        · refine k_iconst Xc d_S_surrounds_35 (n := 36) rfl ?_
          refine k_goto Xc d_S_surrounds_36 (t := 40) rfl ?_
          refine k_istore Xc d_S_surrounds_40 (by decide) (n := 42) rfl ?_
          refine k_iconst Xc d_S_surrounds_42 (n := 43) rfl ?_
          refine k_aload_n Xc d_S_surrounds_43 rfl rfl (n := 44) rfl ?_
          refine k_get Xc u_S rfl 1 (by decide) wd_31 rfl d_S_surrounds_44 (n := 47) rfl hS.1 hS.2.2.2.1 rfl ?_
          refine k_iload Xc d_S_surrounds_47 rfl (n := 49) rfl ?_
          refine k_iald Xc d_S_surrounds_49 (n := 50) rfl hS.2.2.1 hS.2.2.2.2.2 (by omega) (by omega) (by decide) ?_
          refine k_imul Xc d_S_surrounds_50 (n := 51) rfl ?_
          refine k_iload_n Xc d_S_surrounds_51 rfl rfl (n := 52) rfl ?_
          refine k_icmp_le Xc d_S_surrounds_52 (t := 59) (n := 55) rfl rfl (by omega) (by omega) (fun h_52 => ?_) (fun h_52 => ?_)
          · refine k_iconst Xc d_S_surrounds_59 (n := 60) rfl ?_
            refine k_istore Xc d_S_surrounds_60 (by decide) (n := 62) rfl ?_
            refine k_aload_n Xc d_S_surrounds_62 rfl rfl (n := 63) rfl ?_
            refine k_get Xc u_S rfl 0 (by decide) wd_30 rfl d_S_surrounds_63 (n := 66) rfl hS.1 hS.2.2.2.1 rfl ?_
            refine k_iload Xc d_S_surrounds_66 rfl (n := 68) rfl ?_
            refine k_iald Xc d_S_surrounds_68 (n := 69) rfl hS.2.1 hS.2.2.2.2.1 (by omega) (by omega) (by decide) ?_
            refine k_aload_n Xc d_S_surrounds_69 rfl rfl (n := 70) rfl ?_
            refine k_get Xc u_S rfl 0 (by decide) wd_30 rfl d_S_surrounds_70 (n := 73) rfl hS.1 hS.2.2.2.1 rfl ?_
            refine k_iload Xc d_S_surrounds_73 rfl (n := 75) rfl ?_
            refine k_iald Xc d_S_surrounds_75 (n := 76) rfl hS.2.1 hS.2.2.2.2.1 (by omega) (by omega) (by decide) ?_
            refine k_isub Xc d_S_surrounds_76 (n := 77) rfl ?_
            refine k_iload_n Xc d_S_surrounds_77 rfl rfl (n := 78) rfl ?_
            refine k_iconst Xc d_S_surrounds_78 (n := 79) rfl ?_
            refine k_aload_n Xc d_S_surrounds_79 rfl rfl (n := 80) rfl ?_
            refine k_get Xc u_S rfl 1 (by decide) wd_31 rfl d_S_surrounds_80 (n := 83) rfl hS.1 hS.2.2.2.1 rfl ?_
            refine k_iload Xc d_S_surrounds_83 rfl (n := 85) rfl ?_
            refine k_iald Xc d_S_surrounds_85 (n := 86) rfl hS.2.2.1 hS.2.2.2.2.2 (by omega) (by omega) (by decide) ?_
            refine k_imul Xc d_S_surrounds_86 (n := 87) rfl ?_
            refine k_isub Xc d_S_surrounds_87 (n := 88) rfl ?_
            refine k_imul Xc d_S_surrounds_88 (n := 89) rfl ?_
            refine k_aload_n Xc d_S_surrounds_89 rfl rfl (n := 90) rfl ?_
            refine k_get Xc u_S rfl 1 (by decide) wd_31 rfl d_S_surrounds_90 (n := 93) rfl hS.1 hS.2.2.2.1 rfl ?_
            refine k_iload Xc d_S_surrounds_93 rfl (n := 95) rfl ?_
            refine k_iald Xc d_S_surrounds_95 (n := 96) rfl hS.2.2.1 hS.2.2.2.2.2 (by omega) (by omega) (by decide) ?_
            refine k_aload_n Xc d_S_surrounds_96 rfl rfl (n := 97) rfl ?_
            refine k_get Xc u_S rfl 1 (by decide) wd_31 rfl d_S_surrounds_97 (n := 100) rfl hS.1 hS.2.2.2.1 rfl ?_
            refine k_iload Xc d_S_surrounds_100 rfl (n := 102) rfl ?_
            refine k_iald Xc d_S_surrounds_102 (n := 103) rfl hS.2.2.1 hS.2.2.2.2.2 (by omega) (by omega) (by decide) ?_
            refine k_isub Xc d_S_surrounds_103 (n := 104) rfl ?_
            refine k_iload_n Xc d_S_surrounds_104 rfl rfl (n := 105) rfl ?_
            refine k_iconst Xc d_S_surrounds_105 (n := 106) rfl ?_
            refine k_aload_n Xc d_S_surrounds_106 rfl rfl (n := 107) rfl ?_
            refine k_get Xc u_S rfl 0 (by decide) wd_30 rfl d_S_surrounds_107 (n := 110) rfl hS.1 hS.2.2.2.1 rfl ?_
            refine k_iload Xc d_S_surrounds_110 rfl (n := 112) rfl ?_
            refine k_iald Xc d_S_surrounds_112 (n := 113) rfl hS.2.1 hS.2.2.2.2.1 (by omega) (by omega) (by decide) ?_
            refine k_imul Xc d_S_surrounds_113 (n := 114) rfl ?_
            refine k_isub Xc d_S_surrounds_114 (n := 115) rfl ?_
            refine k_imul Xc d_S_surrounds_115 (n := 116) rfl ?_
            refine k_isub Xc d_S_surrounds_116 (n := 117) rfl ?_
            refine k_top (fun w hat => ?_)
            have hh := hit3 hat
            refine k_istore Xc d_S_surrounds_117 (by decide) (n := 119) rfl ?_
            refine k_iload Xc d_S_surrounds_119 rfl (n := 121) rfl ?_
            refine k_iload Xc d_S_surrounds_121 rfl (n := 123) rfl ?_
            refine k_icmp_eq Xc d_S_surrounds_123 (t := 154) (n := 126) rfl rfl (by omega) (by omega) (fun h_123 => absurd h_123 (by omega)) (fun _ => ?_)
            refine k_iload Xc d_S_surrounds_126 rfl (n := 128) rfl ?_
            refine k_if_eq Xc d_S_surrounds_128 (t := 139) (n := 131) rfl rfl (by omega) (fun _ => ?_) (fun h_128 => absurd h_128 (by omega))
            refine k_iload Xc d_S_surrounds_139 rfl (n := 141) rfl ?_
            refine k_if_ge Xc d_S_surrounds_141 (t := 154) (n := 144) rfl rfl (by omega) (fun h_141 => ?_) (fun h_141 => ?_)
            · refine k_iinc Xc d_S_surrounds_154 rfl (by decide) (n := 157) rfl ?_
              refine k_goto Xc d_S_surrounds_157 (t := 5) rfl ?_
              exact k_loc (ih (i + 1) o (by omega) (by omega) (odd_keep ho (fun q => by have := hh.mp q; omega))) rfl
            · refine k_iload_n Xc d_S_surrounds_144 rfl rfl (n := 145) rfl ?_
              refine k_if_ne Xc d_S_surrounds_145 (t := 152) (n := 148) rfl rfl (by omega) (fun h_145 => ?_) (fun h_145 => ?_)
              · refine k_iconst Xc d_S_surrounds_152 (n := 153) rfl ?_
                refine k_istore_n Xc d_S_surrounds_153 rfl (by decide) (n := 154) rfl ?_
                refine k_iinc Xc d_S_surrounds_154 rfl (by decide) (n := 157) rfl ?_
                refine k_goto Xc d_S_surrounds_157 (t := 5) rfl ?_
                exact k_loc (ih (i + 1) 0 (by omega) (by omega) (odd_flip ho (hh.mpr (by omega)) (by omega))) rfl
              · refine k_iconst Xc d_S_surrounds_148 (n := 149) rfl ?_
                refine k_goto Xc d_S_surrounds_149 (t := 153) rfl ?_
                refine k_istore_n Xc d_S_surrounds_153 rfl (by decide) (n := 154) rfl ?_
                refine k_iinc Xc d_S_surrounds_154 rfl (by decide) (n := 157) rfl ?_
                refine k_goto Xc d_S_surrounds_157 (t := 5) rfl ?_
                exact k_loc (ih (i + 1) 1 (by omega) (by omega) (odd_flip ho (hh.mpr (by omega)) (by omega))) rfl
          · refine k_iconst Xc d_S_surrounds_55 (n := 56) rfl ?_
            refine k_goto Xc d_S_surrounds_56 (t := 60) rfl ?_
            refine k_istore Xc d_S_surrounds_60 (by decide) (n := 62) rfl ?_
            refine k_aload_n Xc d_S_surrounds_62 rfl rfl (n := 63) rfl ?_
            refine k_get Xc u_S rfl 0 (by decide) wd_30 rfl d_S_surrounds_63 (n := 66) rfl hS.1 hS.2.2.2.1 rfl ?_
            refine k_iload Xc d_S_surrounds_66 rfl (n := 68) rfl ?_
            refine k_iald Xc d_S_surrounds_68 (n := 69) rfl hS.2.1 hS.2.2.2.2.1 (by omega) (by omega) (by decide) ?_
            refine k_aload_n Xc d_S_surrounds_69 rfl rfl (n := 70) rfl ?_
            refine k_get Xc u_S rfl 0 (by decide) wd_30 rfl d_S_surrounds_70 (n := 73) rfl hS.1 hS.2.2.2.1 rfl ?_
            refine k_iload Xc d_S_surrounds_73 rfl (n := 75) rfl ?_
            refine k_iald Xc d_S_surrounds_75 (n := 76) rfl hS.2.1 hS.2.2.2.2.1 (by omega) (by omega) (by decide) ?_
            refine k_isub Xc d_S_surrounds_76 (n := 77) rfl ?_
            refine k_iload_n Xc d_S_surrounds_77 rfl rfl (n := 78) rfl ?_
            refine k_iconst Xc d_S_surrounds_78 (n := 79) rfl ?_
            refine k_aload_n Xc d_S_surrounds_79 rfl rfl (n := 80) rfl ?_
            refine k_get Xc u_S rfl 1 (by decide) wd_31 rfl d_S_surrounds_80 (n := 83) rfl hS.1 hS.2.2.2.1 rfl ?_
            refine k_iload Xc d_S_surrounds_83 rfl (n := 85) rfl ?_
            refine k_iald Xc d_S_surrounds_85 (n := 86) rfl hS.2.2.1 hS.2.2.2.2.2 (by omega) (by omega) (by decide) ?_
            refine k_imul Xc d_S_surrounds_86 (n := 87) rfl ?_
            refine k_isub Xc d_S_surrounds_87 (n := 88) rfl ?_
            refine k_imul Xc d_S_surrounds_88 (n := 89) rfl ?_
            refine k_aload_n Xc d_S_surrounds_89 rfl rfl (n := 90) rfl ?_
            refine k_get Xc u_S rfl 1 (by decide) wd_31 rfl d_S_surrounds_90 (n := 93) rfl hS.1 hS.2.2.2.1 rfl ?_
            refine k_iload Xc d_S_surrounds_93 rfl (n := 95) rfl ?_
            refine k_iald Xc d_S_surrounds_95 (n := 96) rfl hS.2.2.1 hS.2.2.2.2.2 (by omega) (by omega) (by decide) ?_
            refine k_aload_n Xc d_S_surrounds_96 rfl rfl (n := 97) rfl ?_
            refine k_get Xc u_S rfl 1 (by decide) wd_31 rfl d_S_surrounds_97 (n := 100) rfl hS.1 hS.2.2.2.1 rfl ?_
            refine k_iload Xc d_S_surrounds_100 rfl (n := 102) rfl ?_
            refine k_iald Xc d_S_surrounds_102 (n := 103) rfl hS.2.2.1 hS.2.2.2.2.2 (by omega) (by omega) (by decide) ?_
            refine k_isub Xc d_S_surrounds_103 (n := 104) rfl ?_
            refine k_iload_n Xc d_S_surrounds_104 rfl rfl (n := 105) rfl ?_
            refine k_iconst Xc d_S_surrounds_105 (n := 106) rfl ?_
            refine k_aload_n Xc d_S_surrounds_106 rfl rfl (n := 107) rfl ?_
            refine k_get Xc u_S rfl 0 (by decide) wd_30 rfl d_S_surrounds_107 (n := 110) rfl hS.1 hS.2.2.2.1 rfl ?_
            refine k_iload Xc d_S_surrounds_110 rfl (n := 112) rfl ?_
            refine k_iald Xc d_S_surrounds_112 (n := 113) rfl hS.2.1 hS.2.2.2.2.1 (by omega) (by omega) (by decide) ?_
            refine k_imul Xc d_S_surrounds_113 (n := 114) rfl ?_
            refine k_isub Xc d_S_surrounds_114 (n := 115) rfl ?_
            refine k_imul Xc d_S_surrounds_115 (n := 116) rfl ?_
            refine k_isub Xc d_S_surrounds_116 (n := 117) rfl ?_
            refine k_top (fun w hat => ?_)
            have hh := hit3 hat
            refine k_istore Xc d_S_surrounds_117 (by decide) (n := 119) rfl ?_
            refine k_iload Xc d_S_surrounds_119 rfl (n := 121) rfl ?_
            refine k_iload Xc d_S_surrounds_121 rfl (n := 123) rfl ?_
            refine k_icmp_eq Xc d_S_surrounds_123 (t := 154) (n := 126) rfl rfl (by omega) (by omega) (fun _ => ?_) (fun h_123 => absurd h_123 (by omega))
            refine k_iinc Xc d_S_surrounds_154 rfl (by decide) (n := 157) rfl ?_
            refine k_goto Xc d_S_surrounds_157 (t := 5) rfl ?_
            exact k_loc (ih (i + 1) o (by omega) (by omega) (odd_keep ho (fun q => by have := hh.mp q; omega))) rfl
  refine k_iconst Xc d_S_surrounds_0 (n := 1) rfl ?_
  refine k_istore_n Xc d_S_surrounds_1 rfl (by decide) (n := 2) rfl ?_
  refine k_iconst Xc d_S_surrounds_2 (n := 3) rfl ?_
  refine k_istore Xc d_S_surrounds_3 (by decide) (n := 5) rfl ?_
  exact k_loc (loop (n + 1) 0 0 (by omega) (by omega) (Or.inr ⟨fun q => q, rfl⟩)) rfl
set_option maxRecDepth 100000 in
set_option maxHeartbeats 4000000 in
/-- a side has points inside the piece -/
theorem m_S_sideCuts (l : Launch) (D : va_G) (G : Nat → ClassId) {L : List Nat} {f : Nat → va_E} {a ax ay n : Nat} {X Y : Int → Int} {lx hx ly hy : Int} (hS : zS G L f a ax ay n X Y lx hx ly hy) (hB : sB n X Y) {b bx b_y k2 : Nat} {U V : Int → Int} {lu hu lv hv : Int} (hT : zS G L f b bx b_y k2 U V lu hu lv hv) (hC : sB k2 U V) (q2 : -1000 ≤ lu ∧ lu ≤ 1000 ∧ -1000 ≤ hu ∧ hu ≤ 1000 ∧ -1000 ≤ lv ∧ lv ≤ 1000 ∧ -1000 ≤ hv ∧ hv ≤ 1000) (i : Nat) (hi : i < n) (dx dy : Int) (q3 : -100 ≤ dx ∧ dx ≤ 100 ∧ -100 ≤ dy ∧ dy ≤ 100) : zM l D G y_S_sideCuts (.code y_S_sideCuts c_S_sideCuts 11 (some .boolean) :: BG) (zR0 2 52) [.ref a, .int (zI (i : Int)), .ref b, .int (zI dx), .int (zI dy)] L f (zA L f (fun r => zB (sCut n X Y k2 U V lu hu lv hv dx dy i) r)) := by
  refine zM.of (by decide) (Nat.le_of_ble_eq_true rfl) rfl (fun p e s m args below meth c A Xc hr hnm => ?_)
  have hn := hB.1
  have l1 : ge_nx n i < n := nx_lt (by omega)
  have b0 := hB.2 i hi
  have b1 := hB.2 _ l1
  refine k_aload_n Xc d_S_sideCuts_0 rfl rfl (n := 1) rfl ?_
  refine k_iload_n Xc d_S_sideCuts_1 rfl rfl (n := 2) rfl ?_
  refine k_qV (na := 1) Xc (m_S_next l D G hS hB.1 _ (by omega)) hS.1 hS.2.2.2.1 rfl wd_181 wd_178 wd_179 wd_180 wd_2 (by decide +kernel) ⟨by decide, by decide⟩ rfl rfl (Nat.le_of_ble_eq_true rfl) d_S_sideCuts_2 (n := 5) rfl ⟨Nat.zero_le _, Nat.zero_le _⟩ (fun r_2 e_2 => ?_)
  subst e_2
  refine k_istore Xc d_S_sideCuts_5 (by decide) (n := 7) rfl ?_
  refine k_aload_n Xc d_S_sideCuts_7 rfl rfl (n := 8) rfl ?_
  refine k_get Xc u_S rfl 0 (by decide) wd_30 rfl d_S_sideCuts_8 (n := 11) rfl hS.1 hS.2.2.2.1 rfl ?_
  refine k_iload_n Xc d_S_sideCuts_11 rfl rfl (n := 12) rfl ?_
  refine k_iald Xc d_S_sideCuts_12 (n := 13) rfl hS.2.1 hS.2.2.2.2.1 (by omega) (by omega) (by decide) ?_
  refine k_iload_n Xc d_S_sideCuts_13 rfl rfl (n := 14) rfl ?_
  refine k_isub Xc d_S_sideCuts_14 (n := 15) rfl ?_
  refine k_istore Xc d_S_sideCuts_15 (by decide) (n := 17) rfl ?_
  refine k_aload_n Xc d_S_sideCuts_17 rfl rfl (n := 18) rfl ?_
  refine k_get Xc u_S rfl 1 (by decide) wd_31 rfl d_S_sideCuts_18 (n := 21) rfl hS.1 hS.2.2.2.1 rfl ?_
  refine k_iload_n Xc d_S_sideCuts_21 rfl rfl (n := 22) rfl ?_
  refine k_iald Xc d_S_sideCuts_22 (n := 23) rfl hS.2.2.1 hS.2.2.2.2.2 (by omega) (by omega) (by decide) ?_
  refine k_iload Xc d_S_sideCuts_23 rfl (n := 25) rfl ?_
  refine k_isub Xc d_S_sideCuts_25 (n := 26) rfl ?_
  refine k_istore Xc d_S_sideCuts_26 (by decide) (n := 28) rfl ?_
  refine k_aload_n Xc d_S_sideCuts_28 rfl rfl (n := 29) rfl ?_
  refine k_get Xc u_S rfl 0 (by decide) wd_30 rfl d_S_sideCuts_29 (n := 32) rfl hS.1 hS.2.2.2.1 rfl ?_
  refine k_iload Xc d_S_sideCuts_32 rfl (n := 34) rfl ?_
  refine k_iald Xc d_S_sideCuts_34 (n := 35) rfl hS.2.1 hS.2.2.2.2.1 (by omega) (by omega) (by decide) ?_
  refine k_iload_n Xc d_S_sideCuts_35 rfl rfl (n := 36) rfl ?_
  refine k_isub Xc d_S_sideCuts_36 (n := 37) rfl ?_
  refine k_istore Xc d_S_sideCuts_37 (by decide) (n := 39) rfl ?_
  refine k_aload_n Xc d_S_sideCuts_39 rfl rfl (n := 40) rfl ?_
  refine k_get Xc u_S rfl 1 (by decide) wd_31 rfl d_S_sideCuts_40 (n := 43) rfl hS.1 hS.2.2.2.1 rfl ?_
  refine k_iload Xc d_S_sideCuts_43 rfl (n := 45) rfl ?_
  refine k_iald Xc d_S_sideCuts_45 (n := 46) rfl hS.2.2.1 hS.2.2.2.2.2 (by omega) (by omega) (by decide) ?_
  refine k_iload Xc d_S_sideCuts_46 rfl (n := 48) rfl ?_
  refine k_isub Xc d_S_sideCuts_48 (n := 49) rfl ?_
  refine k_istore Xc d_S_sideCuts_49 (by decide) (n := 51) rfl ?_
  refine k_iload Xc d_S_sideCuts_51 rfl (n := 53) rfl ?_
  refine k_iload Xc d_S_sideCuts_53 rfl (n := 55) rfl ?_
  refine k_max Xc d_S_sideCuts_55 (n := 58) rfl wd_289 wd_290 wd_12 wd_291 ⟨by decide, Nat.le_of_ble_eq_true rfl⟩ ⟨Nat.zero_le _, Nat.zero_le _⟩ (by omega) (by omega) ?_
  refine k_aload_n Xc d_S_sideCuts_58 rfl rfl (n := 59) rfl ?_
  refine k_get Xc u_S rfl 3 (by decide) wd_35 rfl d_S_sideCuts_59 (n := 62) rfl hT.1 hT.2.2.2.1 rfl ?_
  refine k_icmp_le Xc d_S_sideCuts_62 (t := 107) (n := 65) rfl rfl (by omega) (by omega) (fun h_62 => ?_) (fun h_62 => ?_)
  · refine k_iconst Xc d_S_sideCuts_107 (n := 108) rfl ?_
    refine k_goto Xc d_S_sideCuts_108 (t := 112) rfl ?_
    refine k_istore Xc d_S_sideCuts_112 (by decide) (n := 114) rfl ?_
    refine k_iload Xc d_S_sideCuts_114 rfl (n := 116) rfl ?_
    refine k_if_ne Xc d_S_sideCuts_116 (t := 150) (n := 119) rfl rfl (by omega) (fun _ => ?_) (fun h_116 => absurd h_116 (by omega))
    refine k_iconst Xc d_S_sideCuts_150 (n := 151) rfl ?_
    refine k_iret Xc d_S_sideCuts_151 hr rfl (Nat.le_refl _) (Nat.le_refl _) ⟨_, rfl, ?_, rfl, rfl⟩
    exact Or.inr ⟨fun q => by first | exact e_125 q.2.1 | exact q.2.2 e_140 | (have z := q.1; omega), rfl⟩
  · refine k_iload Xc d_S_sideCuts_65 rfl (n := 67) rfl ?_
    refine k_iload Xc d_S_sideCuts_67 rfl (n := 69) rfl ?_
    refine k_min Xc d_S_sideCuts_69 (n := 72) rfl wd_286 wd_287 wd_12 wd_288 ⟨by decide, Nat.le_of_ble_eq_true rfl⟩ ⟨Nat.zero_le _, Nat.zero_le _⟩ (by omega) (by omega) ?_
    refine k_aload_n Xc d_S_sideCuts_72 rfl rfl (n := 73) rfl ?_
    refine k_get Xc u_S rfl 4 (by decide) wd_37 rfl d_S_sideCuts_73 (n := 76) rfl hT.1 hT.2.2.2.1 rfl ?_
    refine k_icmp_ge Xc d_S_sideCuts_76 (t := 107) (n := 79) rfl rfl (by omega) (by omega) (fun h_76 => ?_) (fun h_76 => ?_)
    · refine k_iconst Xc d_S_sideCuts_107 (n := 108) rfl ?_
      refine k_goto Xc d_S_sideCuts_108 (t := 112) rfl ?_
      refine k_istore Xc d_S_sideCuts_112 (by decide) (n := 114) rfl ?_
      refine k_iload Xc d_S_sideCuts_114 rfl (n := 116) rfl ?_
      refine k_if_ne Xc d_S_sideCuts_116 (t := 150) (n := 119) rfl rfl (by omega) (fun _ => ?_) (fun h_116 => absurd h_116 (by omega))
      refine k_iconst Xc d_S_sideCuts_150 (n := 151) rfl ?_
      refine k_iret Xc d_S_sideCuts_151 hr rfl (Nat.le_refl _) (Nat.le_refl _) ⟨_, rfl, ?_, rfl, rfl⟩
      exact Or.inr ⟨fun q => by first | exact e_125 q.2.1 | exact q.2.2 e_140 | (have z := q.1; omega), rfl⟩
    · refine k_iload Xc d_S_sideCuts_79 rfl (n := 81) rfl ?_
      refine k_iload Xc d_S_sideCuts_81 rfl (n := 83) rfl ?_
      refine k_max Xc d_S_sideCuts_83 (n := 86) rfl wd_289 wd_290 wd_12 wd_291 ⟨by decide, Nat.le_of_ble_eq_true rfl⟩ ⟨Nat.zero_le _, Nat.zero_le _⟩ (by omega) (by omega) ?_
      refine k_aload_n Xc d_S_sideCuts_86 rfl rfl (n := 87) rfl ?_
      refine k_get Xc u_S rfl 5 (by decide) wd_40 rfl d_S_sideCuts_87 (n := 90) rfl hT.1 hT.2.2.2.1 rfl ?_
      refine k_icmp_le Xc d_S_sideCuts_90 (t := 107) (n := 93) rfl rfl (by omega) (by omega) (fun h_90 => ?_) (fun h_90 => ?_)
      · refine k_iconst Xc d_S_sideCuts_107 (n := 108) rfl ?_
        refine k_goto Xc d_S_sideCuts_108 (t := 112) rfl ?_
        refine k_istore Xc d_S_sideCuts_112 (by decide) (n := 114) rfl ?_
        refine k_iload Xc d_S_sideCuts_114 rfl (n := 116) rfl ?_
        refine k_if_ne Xc d_S_sideCuts_116 (t := 150) (n := 119) rfl rfl (by omega) (fun _ => ?_) (fun h_116 => absurd h_116 (by omega))
        refine k_iconst Xc d_S_sideCuts_150 (n := 151) rfl ?_
        refine k_iret Xc d_S_sideCuts_151 hr rfl (Nat.le_refl _) (Nat.le_refl _) ⟨_, rfl, ?_, rfl, rfl⟩
        exact Or.inr ⟨fun q => by first | exact e_125 q.2.1 | exact q.2.2 e_140 | (have z := q.1; omega), rfl⟩
      · refine k_iload Xc d_S_sideCuts_93 rfl (n := 95) rfl ?_
        refine k_iload Xc d_S_sideCuts_95 rfl (n := 97) rfl ?_
        refine k_min Xc d_S_sideCuts_97 (n := 100) rfl wd_286 wd_287 wd_12 wd_288 ⟨by decide, Nat.le_of_ble_eq_true rfl⟩ ⟨Nat.zero_le _, Nat.zero_le _⟩ (by omega) (by omega) ?_
        refine k_aload_n Xc d_S_sideCuts_100 rfl rfl (n := 101) rfl ?_
        refine k_get Xc u_S rfl 6 (by decide) wd_42 rfl d_S_sideCuts_101 (n := 104) rfl hT.1 hT.2.2.2.1 rfl ?_
        refine k_icmp_lt Xc d_S_sideCuts_104 (t := 111) (n := 107) rfl rfl (by omega) (by omega) (fun h_104 => ?_) (fun h_104 => ?_)
        · refine k_iconst Xc d_S_sideCuts_111 (n := 112) rfl ?_
          refine k_istore Xc d_S_sideCuts_112 (by decide) (n := 114) rfl ?_
          refine k_iload Xc d_S_sideCuts_114 rfl (n := 116) rfl ?_
          refine k_if_ne Xc d_S_sideCuts_116 (t := 150) (n := 119) rfl rfl (by omega) (fun h_116 => absurd h_116 (by omega)) (fun _ => ?_)
          refine k_aload_n Xc d_S_sideCuts_119 rfl rfl (n := 120) rfl ?_
          refine k_iload_n Xc d_S_sideCuts_120 rfl rfl (n := 121) rfl ?_
          refine k_aload_n Xc d_S_sideCuts_121 rfl rfl (n := 122) rfl ?_
          refine k_iload_n Xc d_S_sideCuts_122 rfl rfl (n := 123) rfl ?_
          refine k_iload Xc d_S_sideCuts_123 rfl (n := 125) rfl ?_
          refine k_qV (na := 4) Xc (m_S_lineCuts l D G hS hB hT hC _ hi _ _ (by omega)) hS.1 hS.2.2.2.1 rfl wd_446 wd_443 wd_444 wd_445 wd_2 (by decide +kernel) ⟨by decide, by decide⟩ rfl rfl (Nat.le_of_ble_eq_true rfl) d_S_sideCuts_125 (n := 128) rfl ⟨Nat.zero_le _, Nat.zero_le _⟩ (fun r_125 e_125 => ?_)
          rcases e_125 with ⟨e_125, rfl⟩ | ⟨e_125, rfl⟩
          · refine k_if_eq Xc d_S_sideCuts_128 (t := 150) (n := 131) rfl rfl (by omega) (fun h_128 => absurd h_128 (by omega)) (fun _ => ?_)
            refine k_aload_n Xc d_S_sideCuts_131 rfl rfl (n := 132) rfl ?_
            refine k_iload Xc d_S_sideCuts_132 rfl (n := 134) rfl ?_
            refine k_iload Xc d_S_sideCuts_134 rfl (n := 136) rfl ?_
            refine k_iload Xc d_S_sideCuts_136 rfl (n := 138) rfl ?_
            refine k_iload Xc d_S_sideCuts_138 rfl (n := 140) rfl ?_
            refine k_qV (na := 4) Xc (m_S_isBeyond l D G hT hC _ _ _ _ (by omega)) hT.1 hT.2.2.2.1 rfl wd_450 wd_447 wd_448 wd_449 wd_2 (by decide +kernel) ⟨by decide, by decide⟩ rfl rfl (Nat.le_of_ble_eq_true rfl) d_S_sideCuts_140 (n := 143) rfl ⟨Nat.zero_le _, Nat.zero_le _⟩ (fun r_140 e_140 => ?_)
            rcases e_140 with ⟨e_140, rfl⟩ | ⟨e_140, rfl⟩
            · refine k_if_ne Xc d_S_sideCuts_143 (t := 150) (n := 146) rfl rfl (by omega) (fun _ => ?_) (fun h_143 => absurd h_143 (by omega))
              refine k_iconst Xc d_S_sideCuts_150 (n := 151) rfl ?_
              refine k_iret Xc d_S_sideCuts_151 hr rfl (Nat.le_refl _) (Nat.le_refl _) ⟨_, rfl, ?_, rfl, rfl⟩
              exact Or.inr ⟨fun q => by first | exact e_125 q.2.1 | exact q.2.2 e_140 | (have z := q.1; omega), rfl⟩
            · refine k_if_ne Xc d_S_sideCuts_143 (t := 150) (n := 146) rfl rfl (by omega) (fun h_143 => absurd h_143 (by omega)) (fun _ => ?_)
              refine k_iconst Xc d_S_sideCuts_146 (n := 147) rfl ?_
              refine k_goto Xc d_S_sideCuts_147 (t := 151) rfl ?_
              refine k_iret Xc d_S_sideCuts_151 hr rfl (Nat.le_refl _) (Nat.le_refl _) ⟨_, rfl, ?_, rfl, rfl⟩
              exact Or.inl ⟨⟨by omega, e_125, e_140⟩, rfl⟩
          · refine k_if_eq Xc d_S_sideCuts_128 (t := 150) (n := 131) rfl rfl (by omega) (fun _ => ?_) (fun h_128 => absurd h_128 (by omega))
            refine k_iconst Xc d_S_sideCuts_150 (n := 151) rfl ?_
            refine k_iret Xc d_S_sideCuts_151 hr rfl (Nat.le_refl _) (Nat.le_refl _) ⟨_, rfl, ?_, rfl, rfl⟩
            exact Or.inr ⟨fun q => by first | exact e_125 q.2.1 | exact q.2.2 e_140 | (have z := q.1; omega), rfl⟩
        · refine k_iconst Xc d_S_sideCuts_107 (n := 108) rfl ?_
          refine k_goto Xc d_S_sideCuts_108 (t := 112) rfl ?_
          refine k_istore Xc d_S_sideCuts_112 (by decide) (n := 114) rfl ?_
          refine k_iload Xc d_S_sideCuts_114 rfl (n := 116) rfl ?_
          refine k_if_ne Xc d_S_sideCuts_116 (t := 150) (n := 119) rfl rfl (by omega) (fun _ => ?_) (fun h_116 => absurd h_116 (by omega))
          refine k_iconst Xc d_S_sideCuts_150 (n := 151) rfl ?_
          refine k_iret Xc d_S_sideCuts_151 hr rfl (Nat.le_refl _) (Nat.le_refl _) ⟨_, rfl, ?_, rfl, rfl⟩
          exact Or.inr ⟨fun q => by first | exact e_125 q.2.1 | exact q.2.2 e_140 | (have z := q.1; omega), rfl⟩
set_option maxRecDepth 100000 in
set_option maxHeartbeats 4000000 in
/-- a moved piece is inside -/
theorem m_S_holds (l : Launch) (D : va_G) (G : Nat → ClassId) {L : List Nat} {f : Nat → va_E} {a ax ay n : Nat} {X Y : Int → Int} {lx hx ly hy : Int} (hS : zS G L f a ax ay n X Y lx hx ly hy) (hB : sB n X Y) {b bx b_y k2 : Nat} {U V : Int → Int} {lu hu lv hv : Int} (hT : zS G L f b bx b_y k2 U V lu hu lv hv) (hC : sB k2 U V) (hk : 3 ≤ k2) (q2 : -1000 ≤ lu ∧ lu ≤ 1000 ∧ -1000 ≤ hu ∧ hu ≤ 1000 ∧ -1000 ≤ lv ∧ lv ≤ 1000 ∧ -1000 ≤ hv ∧ hv ≤ 1000) (dx dy : Int) (q3 : -100 ≤ dx ∧ dx ≤ 100 ∧ -100 ≤ dy ∧ dy ≤ 100) : zM l D G y_S_holds (.code y_S_holds c_S_holds 6 (some .boolean) :: BG) (zR0 3 82) [.ref a, .ref b, .int (zI dx), .int (zI dy)] L f (zA L f (fun r => zB ((∀ i : Nat, i < n → ¬ sCut n X Y k2 U V lu hu lv hv dx dy i) ∧ ge_odd n (ge_3 (sP X Y)) (U 0 + U 1 + U 2 + 3 * dx, V 0 + V 1 + V 2 + 3 * dy) n) r)) := by
  refine zM.of (by decide) (Nat.le_of_ble_eq_true rfl) rfl (fun p e s m args below meth c A Xc hr hnm => ?_)
  have hn := hB.1
  have b0 := hC.2 0 (by omega)
  have b1 := hC.2 1 (by omega)
  have b2 := hC.2 2 (by omega)
  have b0 : -100 ≤ U 0 ∧ U 0 ≤ 100 ∧ -100 ≤ V 0 ∧ V 0 ≤ 100 := b0
  have b1 : -100 ≤ U 1 ∧ U 1 ≤ 100 ∧ -100 ≤ V 1 ∧ V 1 ≤ 100 := b1
  have b2 : -100 ≤ U 2 ∧ U 2 ≤ 100 ∧ -100 ≤ V 2 ∧ V 2 ≤ 100 := b2
  have loop : ∀ (d i : Nat), n < i + d → i ≤ n → (∀ i2 : Nat, i2 < i → ¬ sCut n X Y k2 U V lu hu lv hv dx dy i2) → zG p l e (zR0 3 82) s m args below meth c D A 6 0 0 (MQ below (zE D A (zA L f (fun r => zB ((∀ i : Nat, i < n → ¬ sCut n X Y k2 U V lu hu lv hv dx dy i) ∧ ge_odd n (ge_3 (sP X Y)) (U 0 + U 1 + U 2 + 3 * dx, V 0 + V 1 + V 2 + 3 * dy) n) r))) args s (zR0 3 82).cells (zR0 3 82).slots A) 3 [(0, .ref a), (1, .ref b), (2, .int (zI dx)), (3, .int (zI dy)), (4, .int (zI (i : Int)))] [] L f := by
    intro d
    induction d with
    | zero => intro i h1 h2; omega
    | succ d ih =>
      intro i h1 h2 hI
      refine k_iload Xc d_S_holds_3 rfl (n := 5) rfl ?_
      refine k_aload_n Xc d_S_holds_5 rfl rfl (n := 6) rfl ?_
      refine k_get Xc u_S rfl 2 (by decide) wd_32 rfl d_S_holds_6 (n := 9) rfl hS.1 hS.2.2.2.1 rfl ?_
      refine k_icmp_ge Xc d_S_holds_9 (t := 32) (n := 12) rfl rfl (by omega) (by omega) (fun h_9 => ?_) (fun h_9 => ?_)
      · refine k_aload_n Xc d_S_holds_32 rfl rfl (n := 33) rfl ?_
        refine k_get Xc u_S rfl 0 (by decide) wd_30 rfl d_S_holds_33 (n := 36) rfl hT.1 hT.2.2.2.1 rfl ?_
        refine k_iconst Xc d_S_holds_36 (n := 37) rfl ?_
        refine k_iald Xc d_S_holds_37 (n := 38) rfl hT.2.1 hT.2.2.2.2.1 (by omega) (by omega) (by decide) ?_
        refine k_aload_n Xc d_S_holds_38 rfl rfl (n := 39) rfl ?_
        refine k_get Xc u_S rfl 0 (by decide) wd_30 rfl d_S_holds_39 (n := 42) rfl hT.1 hT.2.2.2.1 rfl ?_
        refine k_iconst Xc d_S_holds_42 (n := 43) rfl ?_
        refine k_iald Xc d_S_holds_43 (n := 44) rfl hT.2.1 hT.2.2.2.2.1 (by omega) (by omega) (by decide) ?_
        refine k_iadd Xc d_S_holds_44 (n := 45) rfl ?_
        refine k_aload_n Xc d_S_holds_45 rfl rfl (n := 46) rfl ?_
        refine k_get Xc u_S rfl 0 (by decide) wd_30 rfl d_S_holds_46 (n := 49) rfl hT.1 hT.2.2.2.1 rfl ?_
        refine k_iconst Xc d_S_holds_49 (n := 50) rfl ?_
        refine k_iald Xc d_S_holds_50 (n := 51) rfl hT.2.1 hT.2.2.2.2.1 (by omega) (by omega) (by decide) ?_
        refine k_iadd Xc d_S_holds_51 (n := 52) rfl ?_
        refine k_istore Xc d_S_holds_52 (by decide) (n := 54) rfl ?_
        refine k_aload_n Xc d_S_holds_54 rfl rfl (n := 55) rfl ?_
        refine k_get Xc u_S rfl 1 (by decide) wd_31 rfl d_S_holds_55 (n := 58) rfl hT.1 hT.2.2.2.1 rfl ?_
        refine k_iconst Xc d_S_holds_58 (n := 59) rfl ?_
        refine k_iald Xc d_S_holds_59 (n := 60) rfl hT.2.2.1 hT.2.2.2.2.2 (by omega) (by omega) (by decide) ?_
        refine k_aload_n Xc d_S_holds_60 rfl rfl (n := 61) rfl ?_
        refine k_get Xc u_S rfl 1 (by decide) wd_31 rfl d_S_holds_61 (n := 64) rfl hT.1 hT.2.2.2.1 rfl ?_
        refine k_iconst Xc d_S_holds_64 (n := 65) rfl ?_
        refine k_iald Xc d_S_holds_65 (n := 66) rfl hT.2.2.1 hT.2.2.2.2.2 (by omega) (by omega) (by decide) ?_
        refine k_iadd Xc d_S_holds_66 (n := 67) rfl ?_
        refine k_aload_n Xc d_S_holds_67 rfl rfl (n := 68) rfl ?_
        refine k_get Xc u_S rfl 1 (by decide) wd_31 rfl d_S_holds_68 (n := 71) rfl hT.1 hT.2.2.2.1 rfl ?_
        refine k_iconst Xc d_S_holds_71 (n := 72) rfl ?_
        refine k_iald Xc d_S_holds_72 (n := 73) rfl hT.2.2.1 hT.2.2.2.2.2 (by omega) (by omega) (by decide) ?_
        refine k_iadd Xc d_S_holds_73 (n := 74) rfl ?_
        refine k_istore Xc d_S_holds_74 (by decide) (n := 76) rfl ?_
        refine k_aload_n Xc d_S_holds_76 rfl rfl (n := 77) rfl ?_
        refine k_iload Xc d_S_holds_77 rfl (n := 79) rfl ?_
        refine k_iconst Xc d_S_holds_79 (n := 80) rfl ?_
        refine k_iload_n Xc d_S_holds_80 rfl rfl (n := 81) rfl ?_
        refine k_imul Xc d_S_holds_81 (n := 82) rfl ?_
        refine k_iadd Xc d_S_holds_82 (n := 83) rfl ?_
        refine k_iload Xc d_S_holds_83 rfl (n := 85) rfl ?_
        refine k_iconst Xc d_S_holds_85 (n := 86) rfl ?_
        refine k_iload_n Xc d_S_holds_86 rfl rfl (n := 87) rfl ?_
        refine k_imul Xc d_S_holds_87 (n := 88) rfl ?_
        refine k_iadd Xc d_S_holds_88 (n := 89) rfl ?_
        refine k_qV (na := 2) Xc (m_S_surrounds l D G hS hB _ _ (by omega)) hS.1 hS.2.2.2.1 rfl wd_454 wd_451 wd_452 wd_453 wd_2 (by decide +kernel) ⟨by decide, by decide⟩ rfl rfl (Nat.le_of_ble_eq_true rfl) d_S_holds_89 (n := 92) rfl ⟨Nat.zero_le _, Nat.zero_le _⟩ (fun r_89 e_89 => ?_)
        rcases e_89 with ⟨e_89, rfl⟩ | ⟨e_89, rfl⟩
        · refine k_iret Xc d_S_holds_92 hr rfl (Nat.le_refl _) (Nat.le_refl _) ⟨_, rfl, ?_, rfl, rfl⟩
          exact Or.inl ⟨⟨fun i2 q => hI i2 (by omega), e_89⟩, rfl⟩
        · refine k_iret Xc d_S_holds_92 hr rfl (Nat.le_refl _) (Nat.le_refl _) ⟨_, rfl, ?_, rfl, rfl⟩
          exact Or.inr ⟨fun q => e_89 q.2, rfl⟩
      · refine k_aload_n Xc d_S_holds_12 rfl rfl (n := 13) rfl ?_
        refine k_iload Xc d_S_holds_13 rfl (n := 15) rfl ?_
        refine k_aload_n Xc d_S_holds_15 rfl rfl (n := 16) rfl ?_
        refine k_iload_n Xc d_S_holds_16 rfl rfl (n := 17) rfl ?_
        refine k_iload_n Xc d_S_holds_17 rfl rfl (n := 18) rfl ?_
        refine k_qV (na := 4) Xc (m_S_sideCuts l D G hS hB hT hC q2 _ (by omega) _ _ (by omega)) hS.1 hS.2.2.2.1 rfl wd_442 wd_439 wd_440 wd_441 wd_2 (by decide +kernel) ⟨by decide, by decide⟩ rfl rfl (Nat.le_of_ble_eq_true rfl) d_S_holds_18 (n := 21) rfl ⟨Nat.zero_le _, Nat.zero_le _⟩ (fun r_18 e_18 => ?_)
        rcases e_18 with ⟨e_18, rfl⟩ | ⟨e_18, rfl⟩
        · refine k_if_eq Xc d_S_holds_21 (t := 26) (n := 24) rfl rfl (by omega) (fun h_21 => absurd h_21 (by omega)) (fun _ => ?_)
          refine k_iconst Xc d_S_holds_24 (n := 25) rfl ?_
          refine k_iret Xc d_S_holds_25 hr rfl (Nat.le_refl _) (Nat.le_refl _) ⟨_, rfl, ?_, rfl, rfl⟩
          exact Or.inr ⟨fun q => q.1 i (by omega) e_18, rfl⟩
        · refine k_if_eq Xc d_S_holds_21 (t := 26) (n := 24) rfl rfl (by omega) (fun _ => ?_) (fun h_21 => absurd h_21 (by omega))
          refine k_iinc Xc d_S_holds_26 rfl (by decide) (n := 29) rfl ?_
          refine k_goto Xc d_S_holds_29 (t := 3) rfl ?_
          exact k_loc (ih (i + 1) (by omega) (by omega) (fun i2 q => by
            rcases Nat.lt_or_ge i2 i with q1 | q1
            · exact hI i2 q1
            · have e : i2 = i := by omega
              subst e
              assumption)) rfl
  refine k_iconst Xc d_S_holds_0 (n := 1) rfl ?_
  refine k_istore Xc d_S_holds_1 (by decide) (n := 3) rfl ?_
  exact k_loc (loop (n + 1) 0 (by omega) (by omega) (fun i2 q => absurd q (by omega))) rfl
