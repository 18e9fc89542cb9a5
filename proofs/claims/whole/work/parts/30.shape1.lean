-- SHAPE: queries
set_option maxRecDepth 100000 in
set_option maxHeartbeats 4000000 in
/-- the corner behind i -/
theorem m_S_next (l : Launch) (D : va_G) (G : Nat → ClassId) {L : List Nat} {f : Nat → va_E} {a ax ay n : Nat} {X Y : Int → Int} {lx hx ly hy : Int} (hS : zS G L f a ax ay n X Y lx hx ly hy) (hn : n ≤ 12) (i : Nat) (hi : i < 100) : zM l D G y_S_next (.code y_S_next c_S_next 2 (some .int) :: BG) (zR0 0 0) [.ref a, .int (zI (i : Int))] L f (zA L f (fun r => r = ((ge_nx n i : Nat) : Int))) := by
  refine zM.of (by decide) (Nat.le_of_ble_eq_true rfl) rfl (fun p e s m args below meth c A Xc hr hnm => ?_)
  refine k_iload_n Xc d_S_next_0 rfl rfl (n := 1) rfl ?_
  refine k_iconst Xc d_S_next_1 (n := 2) rfl ?_
  refine k_iadd Xc d_S_next_2 (n := 3) rfl ?_
  refine k_aload_n Xc d_S_next_3 rfl rfl (n := 4) rfl ?_
  refine k_get Xc u_S rfl 2 (by decide) wd_32 rfl d_S_next_4 (n := 7) rfl hS.1 hS.2.2.2.1 rfl ?_
  refine k_icmp_ge Xc d_S_next_7 (t := 16) (n := 10) rfl rfl (by omega) (by omega) (fun h_7 => ?_) (fun h_7 => ?_)
  · refine k_iconst Xc d_S_next_16 (n := 17) rfl ?_
    refine k_iret Xc d_S_next_17 hr rfl (Nat.le_refl _) (Nat.le_refl _) ⟨_, rfl, ?_, rfl, rfl⟩
    unfold ge_nx
    split <;> omega
  · refine k_iload_n Xc d_S_next_10 rfl rfl (n := 11) rfl ?_
    refine k_iconst Xc d_S_next_11 (n := 12) rfl ?_
    refine k_iadd Xc d_S_next_12 (n := 13) rfl ?_
    refine k_goto Xc d_S_next_13 (t := 17) rfl ?_
    refine k_iret Xc d_S_next_17 hr rfl (Nat.le_refl _) (Nat.le_refl _) ⟨_, rfl, ?_, rfl, rfl⟩
    unfold ge_nx
    split <;> omega
set_option maxRecDepth 100000 in
set_option maxHeartbeats 4000000 in
/-- on which side of a side a point is -/
theorem m_S_beside (l : Launch) (D : va_G) (G : Nat → ClassId) {L : List Nat} {f : Nat → va_E} {a ax ay n : Nat} {X Y : Int → Int} {lx hx ly hy : Int} (hS : zS G L f a ax ay n X Y lx hx ly hy) (hB : sB n X Y) (i : Nat) (hi : i < n) (px py : Int) (h1 : -200 ≤ px) (h2 : px ≤ 200) (h3 : -200 ≤ py) (h4 : py ≤ 200) : zM l D G y_S_beside (.code y_S_beside c_S_beside 5 (some .int) :: BG) (zR0 0 0) [.ref a, .int (zI (i : Int)), .int (zI px), .int (zI py)] L f (zA L f (fun r => r = ge_bs (sP X Y) n i (px, py))) := by
  refine zM.of (by decide) (Nat.le_of_ble_eq_true rfl) rfl (fun p e s m args below meth c A Xc hr hnm => ?_)
  have hn := hB.1
  refine k_iload_n Xc d_S_beside_0 rfl rfl (n := 1) rfl ?_
  refine k_iconst Xc d_S_beside_1 (n := 2) rfl ?_
  refine k_iadd Xc d_S_beside_2 (n := 3) rfl ?_
  refine k_aload_n Xc d_S_beside_3 rfl rfl (n := 4) rfl ?_
  refine k_get Xc u_S rfl 2 (by decide) wd_32 rfl d_S_beside_4 (n := 7) rfl hS.1 hS.2.2.2.1 rfl ?_
  refine k_icmp_ge Xc d_S_beside_7 (t := 16) (n := 10) rfl rfl (by omega) (by omega) (fun h_7 => ?_) (fun h_7 => ?_)
  · refine k_iconst Xc d_S_beside_16 (n := 17) rfl ?_
    refine k_istore Xc d_S_beside_17 (by decide) (n := 19) rfl ?_
    refine k_aload_n Xc d_S_beside_19 rfl rfl (n := 20) rfl ?_
    refine k_get Xc u_S rfl 0 (by decide) wd_30 rfl d_S_beside_20 (n := 23) rfl hS.1 hS.2.2.2.1 rfl ?_
    refine k_iload Xc d_S_beside_23 rfl (n := 25) rfl ?_
    refine k_iald Xc d_S_beside_25 (n := 26) rfl hS.2.1 hS.2.2.2.2.1 (by omega) (by omega) (by decide) ?_
    refine k_aload_n Xc d_S_beside_26 rfl rfl (n := 27) rfl ?_
    refine k_get Xc u_S rfl 0 (by decide) wd_30 rfl d_S_beside_27 (n := 30) rfl hS.1 hS.2.2.2.1 rfl ?_
    refine k_iload_n Xc d_S_beside_30 rfl rfl (n := 31) rfl ?_
    refine k_iald Xc d_S_beside_31 (n := 32) rfl hS.2.1 hS.2.2.2.2.1 (by omega) (by omega) (by decide) ?_
    refine k_isub Xc d_S_beside_32 (n := 33) rfl ?_
    refine k_iload_n Xc d_S_beside_33 rfl rfl (n := 34) rfl ?_
    refine k_aload_n Xc d_S_beside_34 rfl rfl (n := 35) rfl ?_
    refine k_get Xc u_S rfl 1 (by decide) wd_31 rfl d_S_beside_35 (n := 38) rfl hS.1 hS.2.2.2.1 rfl ?_
    refine k_iload_n Xc d_S_beside_38 rfl rfl (n := 39) rfl ?_
    refine k_iald Xc d_S_beside_39 (n := 40) rfl hS.2.2.1 hS.2.2.2.2.2 (by omega) (by omega) (by decide) ?_
    refine k_isub Xc d_S_beside_40 (n := 41) rfl ?_
    refine k_imul Xc d_S_beside_41 (n := 42) rfl ?_
    refine k_aload_n Xc d_S_beside_42 rfl rfl (n := 43) rfl ?_
    refine k_get Xc u_S rfl 1 (by decide) wd_31 rfl d_S_beside_43 (n := 46) rfl hS.1 hS.2.2.2.1 rfl ?_
    refine k_iload Xc d_S_beside_46 rfl (n := 48) rfl ?_
    refine k_iald Xc d_S_beside_48 (n := 49) rfl hS.2.2.1 hS.2.2.2.2.2 (by omega) (by omega) (by decide) ?_
    refine k_aload_n Xc d_S_beside_49 rfl rfl (n := 50) rfl ?_
    refine k_get Xc u_S rfl 1 (by decide) wd_31 rfl d_S_beside_50 (n := 53) rfl hS.1 hS.2.2.2.1 rfl ?_
    refine k_iload_n Xc d_S_beside_53 rfl rfl (n := 54) rfl ?_
    refine k_iald Xc d_S_beside_54 (n := 55) rfl hS.2.2.1 hS.2.2.2.2.2 (by omega) (by omega) (by decide) ?_
    refine k_isub Xc d_S_beside_55 (n := 56) rfl ?_
    refine k_iload_n Xc d_S_beside_56 rfl rfl (n := 57) rfl ?_
    refine k_aload_n Xc d_S_beside_57 rfl rfl (n := 58) rfl ?_
    refine k_get Xc u_S rfl 0 (by decide) wd_30 rfl d_S_beside_58 (n := 61) rfl hS.1 hS.2.2.2.1 rfl ?_
    refine k_iload_n Xc d_S_beside_61 rfl rfl (n := 62) rfl ?_
    refine k_iald Xc d_S_beside_62 (n := 63) rfl hS.2.1 hS.2.2.2.2.1 (by omega) (by omega) (by decide) ?_
    refine k_isub Xc d_S_beside_63 (n := 64) rfl ?_
    refine k_imul Xc d_S_beside_64 (n := 65) rfl ?_
    refine k_isub Xc d_S_beside_65 (n := 66) rfl ?_
    refine k_iret Xc d_S_beside_66 hr rfl (Nat.le_refl _) (Nat.le_refl _) ⟨_, rfl, ?_, rfl, rfl⟩
    unfold ge_bs ge_nx sP
    first | (rw [if_pos (by omega)]; rfl) | (rw [if_neg (by omega)]; rfl)
  · refine k_iload_n Xc d_S_beside_10 rfl rfl (n := 11) rfl ?_
    refine k_iconst Xc d_S_beside_11 (n := 12) rfl ?_
    refine k_iadd Xc d_S_beside_12 (n := 13) rfl ?_
    refine k_goto Xc d_S_beside_13 (t := 17) rfl ?_
    refine k_istore Xc d_S_beside_17 (by decide) (n := 19) rfl ?_
    refine k_aload_n Xc d_S_beside_19 rfl rfl (n := 20) rfl ?_
    refine k_get Xc u_S rfl 0 (by decide) wd_30 rfl d_S_beside_20 (n := 23) rfl hS.1 hS.2.2.2.1 rfl ?_
    refine k_iload Xc d_S_beside_23 rfl (n := 25) rfl ?_
    refine k_iald Xc d_S_beside_25 (n := 26) rfl hS.2.1 hS.2.2.2.2.1 (by omega) (by omega) (by decide) ?_
    refine k_aload_n Xc d_S_beside_26 rfl rfl (n := 27) rfl ?_
    refine k_get Xc u_S rfl 0 (by decide) wd_30 rfl d_S_beside_27 (n := 30) rfl hS.1 hS.2.2.2.1 rfl ?_
    refine k_iload_n Xc d_S_beside_30 rfl rfl (n := 31) rfl ?_
    refine k_iald Xc d_S_beside_31 (n := 32) rfl hS.2.1 hS.2.2.2.2.1 (by omega) (by omega) (by decide) ?_
    refine k_isub Xc d_S_beside_32 (n := 33) rfl ?_
    refine k_iload_n Xc d_S_beside_33 rfl rfl (n := 34) rfl ?_
    refine k_aload_n Xc d_S_beside_34 rfl rfl (n := 35) rfl ?_
    refine k_get Xc u_S rfl 1 (by decide) wd_31 rfl d_S_beside_35 (n := 38) rfl hS.1 hS.2.2.2.1 rfl ?_
    refine k_iload_n Xc d_S_beside_38 rfl rfl (n := 39) rfl ?_
    refine k_iald Xc d_S_beside_39 (n := 40) rfl hS.2.2.1 hS.2.2.2.2.2 (by omega) (by omega) (by decide) ?_
    refine k_isub Xc d_S_beside_40 (n := 41) rfl ?_
    refine k_imul Xc d_S_beside_41 (n := 42) rfl ?_
    refine k_aload_n Xc d_S_beside_42 rfl rfl (n := 43) rfl ?_
    refine k_get Xc u_S rfl 1 (by decide) wd_31 rfl d_S_beside_43 (n := 46) rfl hS.1 hS.2.2.2.1 rfl ?_
    refine k_iload Xc d_S_beside_46 rfl (n := 48) rfl ?_
    refine k_iald Xc d_S_beside_48 (n := 49) rfl hS.2.2.1 hS.2.2.2.2.2 (by omega) (by omega) (by decide) ?_
    refine k_aload_n Xc d_S_beside_49 rfl rfl (n := 50) rfl ?_
    refine k_get Xc u_S rfl 1 (by decide) wd_31 rfl d_S_beside_50 (n := 53) rfl hS.1 hS.2.2.2.1 rfl ?_
    refine k_iload_n Xc d_S_beside_53 rfl rfl (n := 54) rfl ?_
    refine k_iald Xc d_S_beside_54 (n := 55) rfl hS.2.2.1 hS.2.2.2.2.2 (by omega) (by omega) (by decide) ?_
    refine k_isub Xc d_S_beside_55 (n := 56) rfl ?_
    refine k_iload_n Xc d_S_beside_56 rfl rfl (n := 57) rfl ?_
    refine k_aload_n Xc d_S_beside_57 rfl rfl (n := 58) rfl ?_
    refine k_get Xc u_S rfl 0 (by decide) wd_30 rfl d_S_beside_58 (n := 61) rfl hS.1 hS.2.2.2.1 rfl ?_
    refine k_iload_n Xc d_S_beside_61 rfl rfl (n := 62) rfl ?_
    refine k_iald Xc d_S_beside_62 (n := 63) rfl hS.2.1 hS.2.2.2.2.1 (by omega) (by omega) (by decide) ?_
    refine k_isub Xc d_S_beside_63 (n := 64) rfl ?_
    refine k_imul Xc d_S_beside_64 (n := 65) rfl ?_
    refine k_isub Xc d_S_beside_65 (n := 66) rfl ?_
    refine k_iret Xc d_S_beside_66 hr rfl (Nat.le_refl _) (Nat.le_refl _) ⟨_, rfl, ?_, rfl, rfl⟩
    unfold ge_bs ge_nx sP
    first | (rw [if_pos (by omega)]; rfl) | (rw [if_neg (by omega)]; rfl)
set_option maxRecDepth 100000 in
set_option maxHeartbeats 4000000 in
/-- twice the area -/
theorem m_S_doubleArea (l : Launch) (D : va_G) (G : Nat → ClassId) {L : List Nat} {f : Nat → va_E} {a ax ay n : Nat} {X Y : Int → Int} {lx hx ly hy : Int} (hS : zS G L f a ax ay n X Y lx hx ly hy) (hn : n ≤ 12) : zM l D G y_S_doubleArea (.code y_S_doubleArea c_S_doubleArea 4 (some .int) :: BG) (zR0 1 21) [.ref a] L f (zA L f (fun r => r = ge_ar n (sP X Y) n)) := by
  refine zM.of (by decide) (Nat.le_of_ble_eq_true rfl) rfl (fun p e s m args below meth c A Xc hr hnm => ?_)
  have loop : ∀ (d i : Nat), n < i + d → i ≤ n → zG p l e (zR0 1 21) s m args below meth c D A 4 0 0 (MQ below (zE D A (zA L f (fun r => r = ge_ar n (sP X Y) n))) args s (zR0 1 21).cells (zR0 1 21).slots A) 4 [(0, .ref a), (1, .int (zI (ge_ar n (sP X Y) i))), (2, .int (zI (i : Int)))] [] L f := by
    intro d
    induction d with
    | zero => intro i h1 h2; omega
    | succ d ih =>
      intro i h1 h2
      refine k_iload_n Xc d_S_doubleArea_4 rfl rfl (n := 5) rfl ?_
      refine k_aload_n Xc d_S_doubleArea_5 rfl rfl (n := 6) rfl ?_
      refine k_get Xc u_S rfl 2 (by decide) wd_32 rfl d_S_doubleArea_6 (n := 9) rfl hS.1 hS.2.2.2.1 rfl ?_
      refine k_icmp_ge Xc d_S_doubleArea_9 (t := 54) (n := 12) rfl rfl (by omega) (by omega) (fun h_9 => ?_) (fun h_9 => ?_)
      · refine k_iload_n Xc d_S_doubleArea_54 rfl rfl (n := 55) rfl ?_
        refine k_iret Xc d_S_doubleArea_55 hr rfl (Nat.le_refl _) (Nat.le_refl _) ⟨_, rfl, ?_, rfl, rfl⟩
        rw [show i = n by omega]
      · refine k_aload_n Xc d_S_doubleArea_12 rfl rfl (n := 13) rfl ?_
        refine k_iload_n Xc d_S_doubleArea_13 rfl rfl (n := 14) rfl ?_
        have hx : ge_nx n i < n := nx_lt (by omega)
        refine k_qV (na := 1) Xc (m_S_next l D G hS hn _ (by omega)) hS.1 hS.2.2.2.1 rfl wd_181 wd_178 wd_179 wd_180 wd_2 (by decide +kernel) ⟨by decide, by decide⟩ rfl rfl (Nat.le_of_ble_eq_true rfl) d_S_doubleArea_14 (n := 17) rfl ⟨Nat.zero_le _, Nat.zero_le _⟩ (fun r_14 e_14 => ?_)
        subst e_14
        refine k_istore_n Xc d_S_doubleArea_17 rfl (by decide) (n := 18) rfl ?_
        refine k_iload_n Xc d_S_doubleArea_18 rfl rfl (n := 19) rfl ?_
        refine k_aload_n Xc d_S_doubleArea_19 rfl rfl (n := 20) rfl ?_
        refine k_get Xc u_S rfl 0 (by decide) wd_30 rfl d_S_doubleArea_20 (n := 23) rfl hS.1 hS.2.2.2.1 rfl ?_
        refine k_iload_n Xc d_S_doubleArea_23 rfl rfl (n := 24) rfl ?_
        refine k_iald Xc d_S_doubleArea_24 (n := 25) rfl hS.2.1 hS.2.2.2.2.1 (by omega) (by omega) (by decide) ?_
        refine k_aload_n Xc d_S_doubleArea_25 rfl rfl (n := 26) rfl ?_
        refine k_get Xc u_S rfl 1 (by decide) wd_31 rfl d_S_doubleArea_26 (n := 29) rfl hS.1 hS.2.2.2.1 rfl ?_
        refine k_iload_n Xc d_S_doubleArea_29 rfl rfl (n := 30) rfl ?_
        refine k_iald Xc d_S_doubleArea_30 (n := 31) rfl hS.2.2.1 hS.2.2.2.2.2 (by omega) (by omega) (by decide) ?_
        refine k_imul Xc d_S_doubleArea_31 (n := 32) rfl ?_
        refine k_aload_n Xc d_S_doubleArea_32 rfl rfl (n := 33) rfl ?_
        refine k_get Xc u_S rfl 0 (by decide) wd_30 rfl d_S_doubleArea_33 (n := 36) rfl hS.1 hS.2.2.2.1 rfl ?_
        refine k_iload_n Xc d_S_doubleArea_36 rfl rfl (n := 37) rfl ?_
        refine k_iald Xc d_S_doubleArea_37 (n := 38) rfl hS.2.1 hS.2.2.2.2.1 (by omega) (by omega) (by decide) ?_
        refine k_aload_n Xc d_S_doubleArea_38 rfl rfl (n := 39) rfl ?_
        refine k_get Xc u_S rfl 1 (by decide) wd_31 rfl d_S_doubleArea_39 (n := 42) rfl hS.1 hS.2.2.2.1 rfl ?_
        refine k_iload_n Xc d_S_doubleArea_42 rfl rfl (n := 43) rfl ?_
        refine k_iald Xc d_S_doubleArea_43 (n := 44) rfl hS.2.2.1 hS.2.2.2.2.2 (by omega) (by omega) (by decide) ?_
        refine k_imul Xc d_S_doubleArea_44 (n := 45) rfl ?_
        refine k_isub Xc d_S_doubleArea_45 (n := 46) rfl ?_
        refine k_iadd Xc d_S_doubleArea_46 (n := 47) rfl ?_
        refine k_istore_n Xc d_S_doubleArea_47 rfl (by decide) (n := 48) rfl ?_
        refine k_iinc Xc d_S_doubleArea_48 rfl (by decide) (n := 51) rfl ?_
        refine k_goto Xc d_S_doubleArea_51 (t := 4) rfl ?_
        exact k_loc (ih (i + 1) (by omega) (by omega)) (by rw [ge_ar_s]; rfl)
  refine k_iconst Xc d_S_doubleArea_0 (n := 1) rfl ?_
  refine k_istore_n Xc d_S_doubleArea_1 rfl (by decide) (n := 2) rfl ?_
  refine k_iconst Xc d_S_doubleArea_2 (n := 3) rfl ?_
  refine k_istore_n Xc d_S_doubleArea_3 rfl (by decide) (n := 4) rfl ?_
  exact k_loc (loop (n + 1) 0 (by omega) (by omega)) rfl
set_option maxRecDepth 100000 in
set_option maxHeartbeats 4000000 in
/-- two ranges have a number in common -/
theorem m_S_rangesMeet (l : Launch) (D : va_G) (G : Nat → ClassId) {L : List Nat} {f : Nat → va_E} (a b c2 d : Int) (h : -1000 ≤ a ∧ a ≤ 1000 ∧ -1000 ≤ b ∧ b ≤ 1000 ∧ -1000 ≤ c2 ∧ c2 ≤ 1000 ∧ -1000 ≤ d ∧ d ≤ 1000) : zM l D G y_S_rangesMeet (.code y_S_rangesMeet c_S_rangesMeet 4 (some .boolean) :: BG) (zR0 1 21) [.int (zI a), .int (zI b), .int (zI c2), .int (zI d)] L f (zA L f (fun r => zB (ge_rg a b c2 d) r)) := by
  refine zM.of (by decide) (Nat.le_of_ble_eq_true rfl) rfl (fun p e s m args below meth c A Xc hr hnm => ?_)
  refine k_iload_n Xc d_S_rangesMeet_0 rfl rfl (n := 1) rfl ?_
  refine k_iload_n Xc d_S_rangesMeet_1 rfl rfl (n := 2) rfl ?_
  refine k_max Xc d_S_rangesMeet_2 (n := 5) rfl wd_289 wd_290 wd_12 wd_291 ⟨by decide, Nat.le_of_ble_eq_true rfl⟩ ⟨Nat.zero_le _, Nat.zero_le _⟩ (by omega) (by omega) ?_
  refine k_iload_n Xc d_S_rangesMeet_5 rfl rfl (n := 6) rfl ?_
  refine k_iload_n Xc d_S_rangesMeet_6 rfl rfl (n := 7) rfl ?_
  refine k_min Xc d_S_rangesMeet_7 (n := 10) rfl wd_286 wd_287 wd_12 wd_288 ⟨by decide, Nat.le_of_ble_eq_true rfl⟩ ⟨Nat.zero_le _, Nat.zero_le _⟩ (by omega) (by omega) ?_
  refine k_icmp_lt Xc d_S_rangesMeet_10 (t := 30) (n := 13) rfl rfl (by omega) (by omega) (fun h_10 => ?_) (fun h_10 => ?_)
  · refine k_iconst Xc d_S_rangesMeet_30 (n := 31) rfl ?_
    refine k_iret Xc d_S_rangesMeet_31 hr rfl (Nat.le_refl _) (Nat.le_refl _) ⟨_, rfl, ?_, rfl, rfl⟩
    exact Or.inr ⟨by unfold ge_rg; omega, rfl⟩
  · refine k_iload_n Xc d_S_rangesMeet_13 rfl rfl (n := 14) rfl ?_
    refine k_iload_n Xc d_S_rangesMeet_14 rfl rfl (n := 15) rfl ?_
    refine k_max Xc d_S_rangesMeet_15 (n := 18) rfl wd_289 wd_290 wd_12 wd_291 ⟨by decide, Nat.le_of_ble_eq_true rfl⟩ ⟨Nat.zero_le _, Nat.zero_le _⟩ (by omega) (by omega) ?_
    refine k_iload_n Xc d_S_rangesMeet_18 rfl rfl (n := 19) rfl ?_
    refine k_iload_n Xc d_S_rangesMeet_19 rfl rfl (n := 20) rfl ?_
    refine k_min Xc d_S_rangesMeet_20 (n := 23) rfl wd_286 wd_287 wd_12 wd_288 ⟨by decide, Nat.le_of_ble_eq_true rfl⟩ ⟨Nat.zero_le _, Nat.zero_le _⟩ (by omega) (by omega) ?_
    refine k_icmp_lt Xc d_S_rangesMeet_23 (t := 30) (n := 26) rfl rfl (by omega) (by omega) (fun h_23 => ?_) (fun h_23 => ?_)
    · refine k_iconst Xc d_S_rangesMeet_30 (n := 31) rfl ?_
      refine k_iret Xc d_S_rangesMeet_31 hr rfl (Nat.le_refl _) (Nat.le_refl _) ⟨_, rfl, ?_, rfl, rfl⟩
      exact Or.inr ⟨by unfold ge_rg; omega, rfl⟩
    · refine k_iconst Xc d_S_rangesMeet_26 (n := 27) rfl ?_
      refine k_goto Xc d_S_rangesMeet_27 (t := 31) rfl ?_
      refine k_iret Xc d_S_rangesMeet_31 hr rfl (Nat.le_refl _) (Nat.le_refl _) ⟨_, rfl, ?_, rfl, rfl⟩
      exact Or.inl ⟨by unfold ge_rg; omega, rfl⟩
