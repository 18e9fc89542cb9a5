-- MODEL: queries
def mcnt (K : Int → Int) : Nat → Int
  | 0 => 0
  | k + 1 => mcnt K k + (if 0 ≤ K (k : Int) then 1 else 0)
theorem mcnt_s (K : Int → Int) (k : Nat) : mcnt K (k + 1) = mcnt K k + (if 0 ≤ K (k : Int) then 1 else 0) := rfl
theorem crI_bd {n : Nat} {X Y : Int → Int} (h : sB n X Y) {i j k : Nat} (hi : i < n) (hj : j < n) (hk : k < n) : -100000 ≤ ge_crI (sP X Y) i j k ∧ ge_crI (sP X Y) i j k ≤ 100000 := by
  have a := h.2 i hi
  have b := h.2 j hj
  have c := h.2 k hk
  have u := mul_bd (a := X (j : Int) - X (i : Int)) (b := Y (k : Int) - Y (i : Int)) (A := 200) (B := 200) (by omega) (by omega) (by omega) (by omega)
  have v := mul_bd (a := Y (j : Int) - Y (i : Int)) (b := X (k : Int) - X (i : Int)) (A := 200) (B := 200) (by omega) (by omega) (by omega) (by omega)
  unfold ge_crI ge_cr sP
  dsimp only
  omega
theorem md_nx {n i : Nat} (h : i < n) : ((i : Int) + 1) % (n : Int) = ((ge_nx n i : Nat) : Int) := by
  unfold ge_nx
  split
  · rw [Int.emod_eq_of_lt (by omega) (by omega)]; rfl
  · rw [show (i : Int) + 1 = (n : Int) by omega, Int.emod_self]; rfl
set_option maxRecDepth 100000 in
set_option maxHeartbeats 4000000 in
theorem m_M_thrown (l : Launch) (D : va_G) (G : Nat → ClassId) {L : List Nat} {f : Nat → va_E} {o : Nat} {ra : Nat → Nat} {cd wt hc zn kn mn om : Int} {R : Nat → Int → Int} (hM : zMo G L f o ra cd wt hc zn kn mn om R) : zM l D G y_M_thrown (.code y_M_thrown c_M_thrown 1 (some .int) :: BG) (zR0 0 0) [.ref o] L f (zA L f (fun r => r = cd)) := by
  refine zM.of (by decide) (Nat.le_of_ble_eq_true rfl) rfl (fun p e s m args below meth c A Xc hr hnm => ?_)
  refine k_aload_n Xc d_M_thrown_0 rfl rfl (n := 1) rfl ?_
  refine k_get Xc u_M rfl 0 (by decide) wd_550 rfl d_M_thrown_1 (n := 4) rfl hM.1 hM.2.2.1 rfl ?_
  refine k_iret Xc d_M_thrown_4 hr rfl (Nat.le_refl _) (Nat.le_refl _) ⟨_, rfl, ?_, rfl, rfl⟩
  rfl
set_option maxRecDepth 100000 in
set_option maxHeartbeats 4000000 in
theorem m_M_isGrade (l : Launch) (D : va_G) (G : Nat → ClassId) {L : List Nat} {f : Nat → va_E} (g t : Int) (hg : zO g) (ht : zO t) : zM l D G y_M_isGrade (.code y_M_isGrade c_M_isGrade 2 (some .boolean) :: BG) (zR0 0 0) [.int (zI g), .int (zI t)] L f (zA L f (fun r => zB (1 ≤ g ∧ g ≤ t) r)) := by
  refine zM.of (by decide) (Nat.le_of_ble_eq_true rfl) rfl (fun p e s m args below meth c A Xc hr hnm => ?_)
  refine k_iload_n Xc d_M_isGrade_0 rfl rfl (n := 1) rfl ?_
  refine k_iconst Xc d_M_isGrade_1 (n := 2) rfl ?_
  refine k_icmp_lt Xc d_M_isGrade_2 (t := 14) (n := 5) rfl rfl (by omega) (by omega) (fun h_2 => ?_) (fun h_2 => ?_)
  · refine k_iconst Xc d_M_isGrade_14 (n := 15) rfl ?_
    refine k_iret Xc d_M_isGrade_15 hr rfl (Nat.le_refl _) (Nat.le_refl _) ⟨_, rfl, ?_, rfl, rfl⟩
    exact Or.inr ⟨by omega, rfl⟩
  · refine k_iload_n Xc d_M_isGrade_5 rfl rfl (n := 6) rfl ?_
    refine k_iload_n Xc d_M_isGrade_6 rfl rfl (n := 7) rfl ?_
    refine k_icmp_gt Xc d_M_isGrade_7 (t := 14) (n := 10) rfl rfl (by omega) (by omega) (fun h_7 => ?_) (fun h_7 => ?_)
    · refine k_iconst Xc d_M_isGrade_14 (n := 15) rfl ?_
      refine k_iret Xc d_M_isGrade_15 hr rfl (Nat.le_refl _) (Nat.le_refl _) ⟨_, rfl, ?_, rfl, rfl⟩
      exact Or.inr ⟨by omega, rfl⟩
    · refine k_iconst Xc d_M_isGrade_10 (n := 11) rfl ?_
      refine k_goto Xc d_M_isGrade_11 (t := 15) rfl ?_
      refine k_iret Xc d_M_isGrade_15 hr rfl (Nat.le_refl _) (Nat.le_refl _) ⟨_, rfl, ?_, rfl, rfl⟩
      exact Or.inl ⟨by omega, rfl⟩
set_option maxRecDepth 100000 in
set_option maxHeartbeats 4000000 in
theorem m_M_isKind (l : Launch) (D : va_G) (G : Nat → ClassId) {L : List Nat} {f : Nat → va_E} {o : Nat} {ra : Nat → Nat} {cd wt hc zn kn mn om : Int} {R : Nat → Int → Int} (hM : zMo G L f o ra cd wt hc zn kn mn om R) (k : Int) (hk : zO k) (hkn : zO kn) : zM l D G y_M_isKind (.code y_M_isKind c_M_isKind 2 (some .boolean) :: BG) (zR0 0 0) [.ref o, .int (zI k)] L f (zA L f (fun r => zB (0 ≤ k ∧ k < kn) r)) := by
  refine zM.of (by decide) (Nat.le_of_ble_eq_true rfl) rfl (fun p e s m args below meth c A Xc hr hnm => ?_)
  refine k_iload_n Xc d_M_isKind_0 rfl rfl (n := 1) rfl ?_
  refine k_if_lt Xc d_M_isKind_1 (t := 16) (n := 4) rfl rfl (by omega) (fun h_1 => ?_) (fun h_1 => ?_)
  · refine k_iconst Xc d_M_isKind_16 (n := 17) rfl ?_
    refine k_iret Xc d_M_isKind_17 hr rfl (Nat.le_refl _) (Nat.le_refl _) ⟨_, rfl, ?_, rfl, rfl⟩
    exact Or.inr ⟨by omega, rfl⟩
  · refine k_iload_n Xc d_M_isKind_4 rfl rfl (n := 5) rfl ?_
    refine k_aload_n Xc d_M_isKind_5 rfl rfl (n := 6) rfl ?_
    refine k_get Xc u_M rfl 12 (by decide) wd_562 rfl d_M_isKind_6 (n := 9) rfl hM.1 hM.2.2.1 rfl ?_
    refine k_icmp_ge Xc d_M_isKind_9 (t := 16) (n := 12) rfl rfl (by omega) (by omega) (fun h_9 => ?_) (fun h_9 => ?_)
    · refine k_iconst Xc d_M_isKind_16 (n := 17) rfl ?_
      refine k_iret Xc d_M_isKind_17 hr rfl (Nat.le_refl _) (Nat.le_refl _) ⟨_, rfl, ?_, rfl, rfl⟩
      exact Or.inr ⟨by omega, rfl⟩
    · refine k_iconst Xc d_M_isKind_12 (n := 13) rfl ?_
      refine k_goto Xc d_M_isKind_13 (t := 17) rfl ?_
      refine k_iret Xc d_M_isKind_17 hr rfl (Nat.le_refl _) (Nat.le_refl _) ⟨_, rfl, ?_, rfl, rfl⟩
      exact Or.inl ⟨by omega, rfl⟩
set_option maxRecDepth 100000 in
set_option maxHeartbeats 4000000 in
theorem m_M_isPlace (l : Launch) (D : va_G) (G : Nat → ClassId) {L : List Nat} {f : Nat → va_E} {o : Nat} {ra : Nat → Nat} {cd wt hc zn kn mn om : Int} {R : Nat → Int → Int} (hM : zMo G L f o ra cd wt hc zn kn mn om R) (a b t : Int) (ha : zO a) (hb : zO b) (ht : zO t) : zM l D G y_M_isPlace (.code y_M_isPlace c_M_isPlace 4 (some .boolean) :: BG) (zR0 0 0) [.ref o, .int (zI a), .int (zI b), .int (zI t)] L f (zA L f (fun r => zB (0 ≤ a ∧ a ≤ 30 ∧ 0 ≤ b ∧ b ≤ 30 ∧ 0 ≤ t ∧ t ≤ 3) r)) := by
  refine zM.of (by decide) (Nat.le_of_ble_eq_true rfl) rfl (fun p e s m args below meth c A Xc hr hnm => ?_)
  refine k_iload_n Xc d_M_isPlace_0 rfl rfl (n := 1) rfl ?_
  refine k_if_lt Xc d_M_isPlace_1 (t := 33) (n := 4) rfl rfl (by omega) (fun h_1 => ?_) (fun h_1 => ?_)
  · refine k_iconst Xc d_M_isPlace_33 (n := 34) rfl ?_
    refine k_iret Xc d_M_isPlace_34 hr rfl (Nat.le_refl _) (Nat.le_refl _) ⟨_, rfl, ?_, rfl, rfl⟩
    exact Or.inr ⟨by omega, rfl⟩
  · refine k_iload_n Xc d_M_isPlace_4 rfl rfl (n := 5) rfl ?_
    refine k_bipush Xc d_M_isPlace_5 rfl (n := 7) rfl ?_
    refine k_icmp_gt Xc d_M_isPlace_7 (t := 33) (n := 10) rfl rfl (by omega) (by omega) (fun h_7 => ?_) (fun h_7 => ?_)
    · refine k_iconst Xc d_M_isPlace_33 (n := 34) rfl ?_
      refine k_iret Xc d_M_isPlace_34 hr rfl (Nat.le_refl _) (Nat.le_refl _) ⟨_, rfl, ?_, rfl, rfl⟩
      exact Or.inr ⟨by omega, rfl⟩
    · refine k_iload_n Xc d_M_isPlace_10 rfl rfl (n := 11) rfl ?_
      refine k_if_lt Xc d_M_isPlace_11 (t := 33) (n := 14) rfl rfl (by omega) (fun h_11 => ?_) (fun h_11 => ?_)
      · refine k_iconst Xc d_M_isPlace_33 (n := 34) rfl ?_
        refine k_iret Xc d_M_isPlace_34 hr rfl (Nat.le_refl _) (Nat.le_refl _) ⟨_, rfl, ?_, rfl, rfl⟩
        exact Or.inr ⟨by omega, rfl⟩
      · refine k_iload_n Xc d_M_isPlace_14 rfl rfl (n := 15) rfl ?_
        refine k_bipush Xc d_M_isPlace_15 rfl (n := 17) rfl ?_
        refine k_icmp_gt Xc d_M_isPlace_17 (t := 33) (n := 20) rfl rfl (by omega) (by omega) (fun h_17 => ?_) (fun h_17 => ?_)
        · refine k_iconst Xc d_M_isPlace_33 (n := 34) rfl ?_
          refine k_iret Xc d_M_isPlace_34 hr rfl (Nat.le_refl _) (Nat.le_refl _) ⟨_, rfl, ?_, rfl, rfl⟩
          exact Or.inr ⟨by omega, rfl⟩
        · refine k_iload_n Xc d_M_isPlace_20 rfl rfl (n := 21) rfl ?_
          refine k_if_lt Xc d_M_isPlace_21 (t := 33) (n := 24) rfl rfl (by omega) (fun h_21 => ?_) (fun h_21 => ?_)
          · refine k_iconst Xc d_M_isPlace_33 (n := 34) rfl ?_
            refine k_iret Xc d_M_isPlace_34 hr rfl (Nat.le_refl _) (Nat.le_refl _) ⟨_, rfl, ?_, rfl, rfl⟩
            exact Or.inr ⟨by omega, rfl⟩
          · refine k_iload_n Xc d_M_isPlace_24 rfl rfl (n := 25) rfl ?_
            refine k_iconst Xc d_M_isPlace_25 (n := 26) rfl ?_
            refine k_icmp_gt Xc d_M_isPlace_26 (t := 33) (n := 29) rfl rfl (by omega) (by omega) (fun h_26 => ?_) (fun h_26 => ?_)
            · refine k_iconst Xc d_M_isPlace_33 (n := 34) rfl ?_
              refine k_iret Xc d_M_isPlace_34 hr rfl (Nat.le_refl _) (Nat.le_refl _) ⟨_, rfl, ?_, rfl, rfl⟩
              exact Or.inr ⟨by omega, rfl⟩
            · refine k_iconst Xc d_M_isPlace_29 (n := 30) rfl ?_
              refine k_goto Xc d_M_isPlace_30 (t := 34) rfl ?_
              refine k_iret Xc d_M_isPlace_34 hr rfl (Nat.le_refl _) (Nat.le_refl _) ⟨_, rfl, ?_, rfl, rfl⟩
              exact Or.inl ⟨by omega, rfl⟩
set_option maxRecDepth 100000 in
set_option maxHeartbeats 4000000 in
theorem m_M_isPart (l : Launch) (D : va_G) (G : Nat → ClassId) {L : List Nat} {f : Nat → va_E} {o : Nat} {ra : Nat → Nat} {cd wt hc zn kn mn om : Int} {R : Nat → Int → Int} (hM : zMo G L f o ra cd wt hc zn kn mn om R) (hp : ∀ j : Int, 0 ≤ j → j < 12 → -1 ≤ R 13 j ∧ R 13 j ≤ 5) (k : Int) (hk : zO k) : zM l D G y_M_isPart (.code y_M_isPart c_M_isPart 2 (some .boolean) :: BG) (zR0 0 0) [.ref o, .int (zI k)] L f (zA L f (fun r => zB (0 ≤ k ∧ k < 12 ∧ 0 ≤ R 13 k) r)) := by
  refine zM.of (by decide) (Nat.le_of_ble_eq_true rfl) rfl (fun p e s m args below meth c A Xc hr hnm => ?_)
  refine k_iload_n Xc d_M_isPart_0 rfl rfl (n := 1) rfl ?_
  refine k_if_lt Xc d_M_isPart_1 (t := 23) (n := 4) rfl rfl (by omega) (fun h_1 => ?_) (fun h_1 => ?_)
  · refine k_iconst Xc d_M_isPart_23 (n := 24) rfl ?_
    refine k_iret Xc d_M_isPart_24 hr rfl (Nat.le_refl _) (Nat.le_refl _) ⟨_, rfl, ?_, rfl, rfl⟩
    exact Or.inr ⟨by omega, rfl⟩
  · refine k_iload_n Xc d_M_isPart_4 rfl rfl (n := 5) rfl ?_
    refine k_bipush Xc d_M_isPart_5 rfl (n := 7) rfl ?_
    refine k_icmp_ge Xc d_M_isPart_7 (t := 23) (n := 10) rfl rfl (by omega) (by omega) (fun h_7 => ?_) (fun h_7 => ?_)
    · refine k_iconst Xc d_M_isPart_23 (n := 24) rfl ?_
      refine k_iret Xc d_M_isPart_24 hr rfl (Nat.le_refl _) (Nat.le_refl _) ⟨_, rfl, ?_, rfl, rfl⟩
      exact Or.inr ⟨by omega, rfl⟩
    · refine k_aload_n Xc d_M_isPart_10 rfl rfl (n := 11) rfl ?_
      refine k_get Xc u_M rfl 18 (by decide) wd_568 rfl d_M_isPart_11 (n := 14) rfl hM.1 hM.2.2.1 rfl ?_
      refine k_iload_n Xc d_M_isPart_14 rfl rfl (n := 15) rfl ?_
      have c1 := hp k (by omega) (by omega)
      refine k_iald Xc d_M_isPart_15 (n := 16) rfl (hM.2.1 13 (by decide)) (mr_13 hM) (by omega) (by omega) (by decide) ?_
      refine k_if_lt Xc d_M_isPart_16 (t := 23) (n := 19) rfl rfl (by omega) (fun h_16 => ?_) (fun h_16 => ?_)
      · refine k_iconst Xc d_M_isPart_23 (n := 24) rfl ?_
        refine k_iret Xc d_M_isPart_24 hr rfl (Nat.le_refl _) (Nat.le_refl _) ⟨_, rfl, ?_, rfl, rfl⟩
        exact Or.inr ⟨by omega, rfl⟩
      · refine k_iconst Xc d_M_isPart_19 (n := 20) rfl ?_
        refine k_goto Xc d_M_isPart_20 (t := 24) rfl ?_
        refine k_iret Xc d_M_isPart_24 hr rfl (Nat.le_refl _) (Nat.le_refl _) ⟨_, rfl, ?_, rfl, rfl⟩
        exact Or.inl ⟨by omega, rfl⟩
set_option maxRecDepth 100000 in
set_option maxHeartbeats 4000000 in
theorem m_M_size (l : Launch) (D : va_G) (G : Nat → ClassId) {L : List Nat} {f : Nat → va_E} (v : Int) (hv : zO v) : zM l D G y_M_size (.code y_M_size c_M_size 1 (some .int) :: BG) (zR0 0 0) [.int (zI v)] L f (zA L f (fun r => r = (if v < 0 then -v else v))) := by
  refine zM.of (by decide) (Nat.le_of_ble_eq_true rfl) rfl (fun p e s m args below meth c A Xc hr hnm => ?_)
  refine k_iload_n Xc d_M_size_0 rfl rfl (n := 1) rfl ?_
  refine k_if_ge Xc d_M_size_1 (t := 9) (n := 4) rfl rfl (by omega) (fun h_1 => ?_) (fun h_1 => ?_)
  · refine k_iload_n Xc d_M_size_9 rfl rfl (n := 10) rfl ?_
    refine k_iret Xc d_M_size_10 hr rfl (Nat.le_refl _) (Nat.le_refl _) ⟨_, rfl, ?_, rfl, rfl⟩
    first | rw [if_pos (by omega)] | rw [if_neg (by omega)]
  · refine k_iload_n Xc d_M_size_4 rfl rfl (n := 5) rfl ?_
    refine k_ineg Xc d_M_size_5 (n := 6) rfl ?_
    refine k_goto Xc d_M_size_6 (t := 10) rfl ?_
    refine k_iret Xc d_M_size_10 hr rfl (Nat.le_refl _) (Nat.le_refl _) ⟨_, rfl, ?_, rfl, rfl⟩
    first | rw [if_pos (by omega)] | rw [if_neg (by omega)]
set_option maxRecDepth 100000 in
set_option maxHeartbeats 4000000 in
theorem m_M_side (l : Launch) (D : va_G) (G : Nat → ClassId) {L : List Nat} {f : Nat → va_E} {o : Nat} {ra : Nat → Nat} {cd wt hc zn kn mn om : Int} {R : Nat → Int → Int} (hM : zMo G L f o ra cd wt hc zn kn mn om R) (i j k : Nat) (hi : i < 12) (hj : j < 12) (hk : k < 12) : zM l D G y_M_side (.code y_M_side c_M_side 4 (some .int) :: BG) (zR0 0 0) [.ref o, .int (zI (i : Int)), .int (zI (j : Int)), .int (zI (k : Int))] L f (zA L f (fun r => r = ge_crI (sP (R 0) (R 1)) i j k)) := by
  refine zM.of (by decide) (Nat.le_of_ble_eq_true rfl) rfl (fun p e s m args below meth c A Xc hr hnm => ?_)
  refine k_aload_n Xc d_M_side_0 rfl rfl (n := 1) rfl ?_
  refine k_get Xc u_M rfl 2 (by decide) wd_552 rfl d_M_side_1 (n := 4) rfl hM.1 hM.2.2.1 rfl ?_
  refine k_iload_n Xc d_M_side_4 rfl rfl (n := 5) rfl ?_
  refine k_iald Xc d_M_side_5 (n := 6) rfl (hM.2.1 0 (by decide)) (mr_0 hM) (by omega) (by omega) (by decide) ?_
  refine k_aload_n Xc d_M_side_6 rfl rfl (n := 7) rfl ?_
  refine k_get Xc u_M rfl 2 (by decide) wd_552 rfl d_M_side_7 (n := 10) rfl hM.1 hM.2.2.1 rfl ?_
  refine k_iload_n Xc d_M_side_10 rfl rfl (n := 11) rfl ?_
  refine k_iald Xc d_M_side_11 (n := 12) rfl (hM.2.1 0 (by decide)) (mr_0 hM) (by omega) (by omega) (by decide) ?_
  refine k_isub Xc d_M_side_12 (n := 13) rfl ?_
  refine k_aload_n Xc d_M_side_13 rfl rfl (n := 14) rfl ?_
  refine k_get Xc u_M rfl 3 (by decide) wd_553 rfl d_M_side_14 (n := 17) rfl hM.1 hM.2.2.1 rfl ?_
  refine k_iload_n Xc d_M_side_17 rfl rfl (n := 18) rfl ?_
  refine k_iald Xc d_M_side_18 (n := 19) rfl (hM.2.1 1 (by decide)) (mr_1 hM) (by omega) (by omega) (by decide) ?_
  refine k_aload_n Xc d_M_side_19 rfl rfl (n := 20) rfl ?_
  refine k_get Xc u_M rfl 3 (by decide) wd_553 rfl d_M_side_20 (n := 23) rfl hM.1 hM.2.2.1 rfl ?_
  refine k_iload_n Xc d_M_side_23 rfl rfl (n := 24) rfl ?_
  refine k_iald Xc d_M_side_24 (n := 25) rfl (hM.2.1 1 (by decide)) (mr_1 hM) (by omega) (by omega) (by decide) ?_
  refine k_isub Xc d_M_side_25 (n := 26) rfl ?_
  refine k_imul Xc d_M_side_26 (n := 27) rfl ?_
  refine k_aload_n Xc d_M_side_27 rfl rfl (n := 28) rfl ?_
  refine k_get Xc u_M rfl 3 (by decide) wd_553 rfl d_M_side_28 (n := 31) rfl hM.1 hM.2.2.1 rfl ?_
  refine k_iload_n Xc d_M_side_31 rfl rfl (n := 32) rfl ?_
  refine k_iald Xc d_M_side_32 (n := 33) rfl (hM.2.1 1 (by decide)) (mr_1 hM) (by omega) (by omega) (by decide) ?_
  refine k_aload_n Xc d_M_side_33 rfl rfl (n := 34) rfl ?_
  refine k_get Xc u_M rfl 3 (by decide) wd_553 rfl d_M_side_34 (n := 37) rfl hM.1 hM.2.2.1 rfl ?_
  refine k_iload_n Xc d_M_side_37 rfl rfl (n := 38) rfl ?_
  refine k_iald Xc d_M_side_38 (n := 39) rfl (hM.2.1 1 (by decide)) (mr_1 hM) (by omega) (by omega) (by decide) ?_
  refine k_isub Xc d_M_side_39 (n := 40) rfl ?_
  refine k_aload_n Xc d_M_side_40 rfl rfl (n := 41) rfl ?_
  refine k_get Xc u_M rfl 2 (by decide) wd_552 rfl d_M_side_41 (n := 44) rfl hM.1 hM.2.2.1 rfl ?_
  refine k_iload_n Xc d_M_side_44 rfl rfl (n := 45) rfl ?_
  refine k_iald Xc d_M_side_45 (n := 46) rfl (hM.2.1 0 (by decide)) (mr_0 hM) (by omega) (by omega) (by decide) ?_
  refine k_aload_n Xc d_M_side_46 rfl rfl (n := 47) rfl ?_
  refine k_get Xc u_M rfl 2 (by decide) wd_552 rfl d_M_side_47 (n := 50) rfl hM.1 hM.2.2.1 rfl ?_
  refine k_iload_n Xc d_M_side_50 rfl rfl (n := 51) rfl ?_
  refine k_iald Xc d_M_side_51 (n := 52) rfl (hM.2.1 0 (by decide)) (mr_0 hM) (by omega) (by omega) (by decide) ?_
  refine k_isub Xc d_M_side_52 (n := 53) rfl ?_
  refine k_imul Xc d_M_side_53 (n := 54) rfl ?_
  refine k_isub Xc d_M_side_54 (n := 55) rfl ?_
  refine k_iret Xc d_M_side_55 hr rfl (Nat.le_refl _) (Nat.le_refl _) ⟨_, rfl, ?_, rfl, rfl⟩
  rfl
set_option maxRecDepth 100000 in
set_option maxHeartbeats 4000000 in
theorem m_M_within (l : Launch) (D : va_G) (G : Nat → ClassId) {L : List Nat} {f : Nat → va_E} {o : Nat} {ra : Nat → Nat} {cd wt hc zn kn mn om : Int} {R : Nat → Int → Int} (hM : zMo G L f o ra cd wt hc zn kn mn om R) (hW : sB 12 (R 0) (R 1)) (i j k : Nat) (hi : i < 12) (hj : j < 12) (hk : k < 12) : zM l D G y_M_within (.code y_M_within c_M_within 8 (some .boolean) :: BG) (zR0 0 0) [.ref o, .int (zI (i : Int)), .int (zI (j : Int)), .int (zI (k : Int))] L f (zA L f (fun r => zB (ge_bt (R 0 (i : Int)) (R 0 (j : Int)) (R 0 (k : Int)) ∧ ge_bt (R 1 (i : Int)) (R 1 (j : Int)) (R 1 (k : Int))) r)) := by
  refine zM.of (by decide) (Nat.le_of_ble_eq_true rfl) rfl (fun p e s m args below meth c A Xc hr hnm => ?_)
  have b0 := hW.2 i hi
  have b1 := hW.2 j hj
  have b2 := hW.2 k hk
  by_cases hx : R 0 (i : Int) < R 0 (j : Int)
  · by_cases hy : R 1 (i : Int) < R 1 (j : Int)
    · refine k_aload_n Xc d_M_within_0 rfl rfl (n := 1) rfl ?_
      refine k_get Xc u_M rfl 2 (by decide) wd_552 rfl d_M_within_1 (n := 4) rfl hM.1 hM.2.2.1 rfl ?_
      refine k_iload_n Xc d_M_within_4 rfl rfl (n := 5) rfl ?_
      refine k_iald Xc d_M_within_5 (n := 6) rfl (hM.2.1 0 (by decide)) (mr_0 hM) (by omega) (by omega) (by decide) ?_
      refine k_aload_n Xc d_M_within_6 rfl rfl (n := 7) rfl ?_
      refine k_get Xc u_M rfl 2 (by decide) wd_552 rfl d_M_within_7 (n := 10) rfl hM.1 hM.2.2.1 rfl ?_
      refine k_iload_n Xc d_M_within_10 rfl rfl (n := 11) rfl ?_
      refine k_iald Xc d_M_within_11 (n := 12) rfl (hM.2.1 0 (by decide)) (mr_0 hM) (by omega) (by omega) (by decide) ?_
      refine k_icmp_ge Xc d_M_within_12 (t := 24) (n := 15) rfl rfl (by omega) (by omega) (fun h_12 => absurd h_12 (by omega)) (fun _ => ?_)
      refine k_aload_n Xc d_M_within_15 rfl rfl (n := 16) rfl ?_
      refine k_get Xc u_M rfl 2 (by decide) wd_552 rfl d_M_within_16 (n := 19) rfl hM.1 hM.2.2.1 rfl ?_
      refine k_iload_n Xc d_M_within_19 rfl rfl (n := 20) rfl ?_
      refine k_iald Xc d_M_within_20 (n := 21) rfl (hM.2.1 0 (by decide)) (mr_0 hM) (by omega) (by omega) (by decide) ?_
      refine k_goto Xc d_M_within_21 (t := 30) rfl ?_
      refine k_istore Xc d_M_within_30 (by decide) (n := 32) rfl ?_
      refine k_aload_n Xc d_M_within_32 rfl rfl (n := 33) rfl ?_
      refine k_get Xc u_M rfl 2 (by decide) wd_552 rfl d_M_within_33 (n := 36) rfl hM.1 hM.2.2.1 rfl ?_
      refine k_iload_n Xc d_M_within_36 rfl rfl (n := 37) rfl ?_
      refine k_iald Xc d_M_within_37 (n := 38) rfl (hM.2.1 0 (by decide)) (mr_0 hM) (by omega) (by omega) (by decide) ?_
      refine k_aload_n Xc d_M_within_38 rfl rfl (n := 39) rfl ?_
      refine k_get Xc u_M rfl 2 (by decide) wd_552 rfl d_M_within_39 (n := 42) rfl hM.1 hM.2.2.1 rfl ?_
      refine k_iload_n Xc d_M_within_42 rfl rfl (n := 43) rfl ?_
      refine k_iald Xc d_M_within_43 (n := 44) rfl (hM.2.1 0 (by decide)) (mr_0 hM) (by omega) (by omega) (by decide) ?_
      refine k_icmp_ge Xc d_M_within_44 (t := 56) (n := 47) rfl rfl (by omega) (by omega) (fun h_44 => absurd h_44 (by omega)) (fun _ => ?_)
      refine k_aload_n Xc d_M_within_47 rfl rfl (n := 48) rfl ?_
      refine k_get Xc u_M rfl 2 (by decide) wd_552 rfl d_M_within_48 (n := 51) rfl hM.1 hM.2.2.1 rfl ?_
      refine k_iload_n Xc d_M_within_51 rfl rfl (n := 52) rfl ?_
      refine k_iald Xc d_M_within_52 (n := 53) rfl (hM.2.1 0 (by decide)) (mr_0 hM) (by omega) (by omega) (by decide) ?_
      refine k_goto Xc d_M_within_53 (t := 62) rfl ?_
      refine k_istore Xc d_M_within_62 (by decide) (n := 64) rfl ?_
      refine k_aload_n Xc d_M_within_64 rfl rfl (n := 65) rfl ?_
      refine k_get Xc u_M rfl 3 (by decide) wd_553 rfl d_M_within_65 (n := 68) rfl hM.1 hM.2.2.1 rfl ?_
      refine k_iload_n Xc d_M_within_68 rfl rfl (n := 69) rfl ?_
      refine k_iald Xc d_M_within_69 (n := 70) rfl (hM.2.1 1 (by decide)) (mr_1 hM) (by omega) (by omega) (by decide) ?_
      refine k_aload_n Xc d_M_within_70 rfl rfl (n := 71) rfl ?_
      refine k_get Xc u_M rfl 3 (by decide) wd_553 rfl d_M_within_71 (n := 74) rfl hM.1 hM.2.2.1 rfl ?_
      refine k_iload_n Xc d_M_within_74 rfl rfl (n := 75) rfl ?_
      refine k_iald Xc d_M_within_75 (n := 76) rfl (hM.2.1 1 (by decide)) (mr_1 hM) (by omega) (by omega) (by decide) ?_
      refine k_icmp_ge Xc d_M_within_76 (t := 88) (n := 79) rfl rfl (by omega) (by omega) (fun h_76 => absurd h_76 (by omega)) (fun _ => ?_)
      refine k_aload_n Xc d_M_within_79 rfl rfl (n := 80) rfl ?_
      refine k_get Xc u_M rfl 3 (by decide) wd_553 rfl d_M_within_80 (n := 83) rfl hM.1 hM.2.2.1 rfl ?_
      refine k_iload_n Xc d_M_within_83 rfl rfl (n := 84) rfl ?_
      refine k_iald Xc d_M_within_84 (n := 85) rfl (hM.2.1 1 (by decide)) (mr_1 hM) (by omega) (by omega) (by decide) ?_
      refine k_goto Xc d_M_within_85 (t := 94) rfl ?_
      refine k_istore Xc d_M_within_94 (by decide) (n := 96) rfl ?_
      refine k_aload_n Xc d_M_within_96 rfl rfl (n := 97) rfl ?_
      refine k_get Xc u_M rfl 3 (by decide) wd_553 rfl d_M_within_97 (n := 100) rfl hM.1 hM.2.2.1 rfl ?_
      refine k_iload_n Xc d_M_within_100 rfl rfl (n := 101) rfl ?_
      refine k_iald Xc d_M_within_101 (n := 102) rfl (hM.2.1 1 (by decide)) (mr_1 hM) (by omega) (by omega) (by decide) ?_
      refine k_aload_n Xc d_M_within_102 rfl rfl (n := 103) rfl ?_
      refine k_get Xc u_M rfl 3 (by decide) wd_553 rfl d_M_within_103 (n := 106) rfl hM.1 hM.2.2.1 rfl ?_
      refine k_iload_n Xc d_M_within_106 rfl rfl (n := 107) rfl ?_
      refine k_iald Xc d_M_within_107 (n := 108) rfl (hM.2.1 1 (by decide)) (mr_1 hM) (by omega) (by omega) (by decide) ?_
      refine k_icmp_ge Xc d_M_within_108 (t := 120) (n := 111) rfl rfl (by omega) (by omega) (fun h_108 => absurd h_108 (by omega)) (fun _ => ?_)
      refine k_aload_n Xc d_M_within_111 rfl rfl (n := 112) rfl ?_
      refine k_get Xc u_M rfl 3 (by decide) wd_553 rfl d_M_within_112 (n := 115) rfl hM.1 hM.2.2.1 rfl ?_
      refine k_iload_n Xc d_M_within_115 rfl rfl (n := 116) rfl ?_
      refine k_iald Xc d_M_within_116 (n := 117) rfl (hM.2.1 1 (by decide)) (mr_1 hM) (by omega) (by omega) (by decide) ?_
      refine k_goto Xc d_M_within_117 (t := 126) rfl ?_
      refine k_istore Xc d_M_within_126 (by decide) (n := 128) rfl ?_
      refine k_aload_n Xc d_M_within_128 rfl rfl (n := 129) rfl ?_
      refine k_get Xc u_M rfl 2 (by decide) wd_552 rfl d_M_within_129 (n := 132) rfl hM.1 hM.2.2.1 rfl ?_
      refine k_iload_n Xc d_M_within_132 rfl rfl (n := 133) rfl ?_
      refine k_iald Xc d_M_within_133 (n := 134) rfl (hM.2.1 0 (by decide)) (mr_0 hM) (by omega) (by omega) (by decide) ?_
      refine k_iload Xc d_M_within_134 rfl (n := 136) rfl ?_
      refine k_icmp_lt Xc d_M_within_136 (t := 176) (n := 139) rfl rfl (by omega) (by omega) (fun h_136 => ?_) (fun h_136 => ?_)
      · refine k_iconst Xc d_M_within_176 (n := 177) rfl ?_
        refine k_iret Xc d_M_within_177 hr rfl (Nat.le_refl _) (Nat.le_refl _) ⟨_, rfl, ?_, rfl, rfl⟩
        exact Or.inr ⟨by unfold ge_bt; omega, rfl⟩
      · refine k_aload_n Xc d_M_within_139 rfl rfl (n := 140) rfl ?_
        refine k_get Xc u_M rfl 2 (by decide) wd_552 rfl d_M_within_140 (n := 143) rfl hM.1 hM.2.2.1 rfl ?_
        refine k_iload_n Xc d_M_within_143 rfl rfl (n := 144) rfl ?_
        refine k_iald Xc d_M_within_144 (n := 145) rfl (hM.2.1 0 (by decide)) (mr_0 hM) (by omega) (by omega) (by decide) ?_
        refine k_iload Xc d_M_within_145 rfl (n := 147) rfl ?_
        refine k_icmp_gt Xc d_M_within_147 (t := 176) (n := 150) rfl rfl (by omega) (by omega) (fun h_147 => ?_) (fun h_147 => ?_)
        · refine k_iconst Xc d_M_within_176 (n := 177) rfl ?_
          refine k_iret Xc d_M_within_177 hr rfl (Nat.le_refl _) (Nat.le_refl _) ⟨_, rfl, ?_, rfl, rfl⟩
          exact Or.inr ⟨by unfold ge_bt; omega, rfl⟩
        · refine k_aload_n Xc d_M_within_150 rfl rfl (n := 151) rfl ?_
          refine k_get Xc u_M rfl 3 (by decide) wd_553 rfl d_M_within_151 (n := 154) rfl hM.1 hM.2.2.1 rfl ?_
          refine k_iload_n Xc d_M_within_154 rfl rfl (n := 155) rfl ?_
          refine k_iald Xc d_M_within_155 (n := 156) rfl (hM.2.1 1 (by decide)) (mr_1 hM) (by omega) (by omega) (by decide) ?_
          refine k_iload Xc d_M_within_156 rfl (n := 158) rfl ?_
          refine k_icmp_lt Xc d_M_within_158 (t := 176) (n := 161) rfl rfl (by omega) (by omega) (fun h_158 => ?_) (fun h_158 => ?_)
          · refine k_iconst Xc d_M_within_176 (n := 177) rfl ?_
            refine k_iret Xc d_M_within_177 hr rfl (Nat.le_refl _) (Nat.le_refl _) ⟨_, rfl, ?_, rfl, rfl⟩
            exact Or.inr ⟨by unfold ge_bt; omega, rfl⟩
          · refine k_aload_n Xc d_M_within_161 rfl rfl (n := 162) rfl ?_
            refine k_get Xc u_M rfl 3 (by decide) wd_553 rfl d_M_within_162 (n := 165) rfl hM.1 hM.2.2.1 rfl ?_
            refine k_iload_n Xc d_M_within_165 rfl rfl (n := 166) rfl ?_
            refine k_iald Xc d_M_within_166 (n := 167) rfl (hM.2.1 1 (by decide)) (mr_1 hM) (by omega) (by omega) (by decide) ?_
            refine k_iload Xc d_M_within_167 rfl (n := 169) rfl ?_
            refine k_icmp_gt Xc d_M_within_169 (t := 176) (n := 172) rfl rfl (by omega) (by omega) (fun h_169 => ?_) (fun h_169 => ?_)
            · refine k_iconst Xc d_M_within_176 (n := 177) rfl ?_
              refine k_iret Xc d_M_within_177 hr rfl (Nat.le_refl _) (Nat.le_refl _) ⟨_, rfl, ?_, rfl, rfl⟩
              exact Or.inr ⟨by unfold ge_bt; omega, rfl⟩
            · refine k_iconst Xc d_M_within_172 (n := 173) rfl ?_
              refine k_goto Xc d_M_within_173 (t := 177) rfl ?_
              refine k_iret Xc d_M_within_177 hr rfl (Nat.le_refl _) (Nat.le_refl _) ⟨_, rfl, ?_, rfl, rfl⟩
              exact Or.inl ⟨by unfold ge_bt; omega, rfl⟩
    · refine k_aload_n Xc d_M_within_0 rfl rfl (n := 1) rfl ?_
      refine k_get Xc u_M rfl 2 (by decide) wd_552 rfl d_M_within_1 (n := 4) rfl hM.1 hM.2.2.1 rfl ?_
      refine k_iload_n Xc d_M_within_4 rfl rfl (n := 5) rfl ?_
      refine k_iald Xc d_M_within_5 (n := 6) rfl (hM.2.1 0 (by decide)) (mr_0 hM) (by omega) (by omega) (by decide) ?_
      refine k_aload_n Xc d_M_within_6 rfl rfl (n := 7) rfl ?_
      refine k_get Xc u_M rfl 2 (by decide) wd_552 rfl d_M_within_7 (n := 10) rfl hM.1 hM.2.2.1 rfl ?_
      refine k_iload_n Xc d_M_within_10 rfl rfl (n := 11) rfl ?_
      refine k_iald Xc d_M_within_11 (n := 12) rfl (hM.2.1 0 (by decide)) (mr_0 hM) (by omega) (by omega) (by decide) ?_
      refine k_icmp_ge Xc d_M_within_12 (t := 24) (n := 15) rfl rfl (by omega) (by omega) (fun h_12 => absurd h_12 (by omega)) (fun _ => ?_)
      refine k_aload_n Xc d_M_within_15 rfl rfl (n := 16) rfl ?_
      refine k_get Xc u_M rfl 2 (by decide) wd_552 rfl d_M_within_16 (n := 19) rfl hM.1 hM.2.2.1 rfl ?_
      refine k_iload_n Xc d_M_within_19 rfl rfl (n := 20) rfl ?_
      refine k_iald Xc d_M_within_20 (n := 21) rfl (hM.2.1 0 (by decide)) (mr_0 hM) (by omega) (by omega) (by decide) ?_
      refine k_goto Xc d_M_within_21 (t := 30) rfl ?_
      refine k_istore Xc d_M_within_30 (by decide) (n := 32) rfl ?_
      refine k_aload_n Xc d_M_within_32 rfl rfl (n := 33) rfl ?_
      refine k_get Xc u_M rfl 2 (by decide) wd_552 rfl d_M_within_33 (n := 36) rfl hM.1 hM.2.2.1 rfl ?_
      refine k_iload_n Xc d_M_within_36 rfl rfl (n := 37) rfl ?_
      refine k_iald Xc d_M_within_37 (n := 38) rfl (hM.2.1 0 (by decide)) (mr_0 hM) (by omega) (by omega) (by decide) ?_
      refine k_aload_n Xc d_M_within_38 rfl rfl (n := 39) rfl ?_
      refine k_get Xc u_M rfl 2 (by decide) wd_552 rfl d_M_within_39 (n := 42) rfl hM.1 hM.2.2.1 rfl ?_
      refine k_iload_n Xc d_M_within_42 rfl rfl (n := 43) rfl ?_
      refine k_iald Xc d_M_within_43 (n := 44) rfl (hM.2.1 0 (by decide)) (mr_0 hM) (by omega) (by omega) (by decide) ?_
      refine k_icmp_ge Xc d_M_within_44 (t := 56) (n := 47) rfl rfl (by omega) (by omega) (fun h_44 => absurd h_44 (by omega)) (fun _ => ?_)
      refine k_aload_n Xc d_M_within_47 rfl rfl (n := 48) rfl ?_
      refine k_get Xc u_M rfl 2 (by decide) wd_552 rfl d_M_within_48 (n := 51) rfl hM.1 hM.2.2.1 rfl ?_
      refine k_iload_n Xc d_M_within_51 rfl rfl (n := 52) rfl ?_
      refine k_iald Xc d_M_within_52 (n := 53) rfl (hM.2.1 0 (by decide)) (mr_0 hM) (by omega) (by omega) (by decide) ?_
      refine k_goto Xc d_M_within_53 (t := 62) rfl ?_
      refine k_istore Xc d_M_within_62 (by decide) (n := 64) rfl ?_
      refine k_aload_n Xc d_M_within_64 rfl rfl (n := 65) rfl ?_
      refine k_get Xc u_M rfl 3 (by decide) wd_553 rfl d_M_within_65 (n := 68) rfl hM.1 hM.2.2.1 rfl ?_
      refine k_iload_n Xc d_M_within_68 rfl rfl (n := 69) rfl ?_
      refine k_iald Xc d_M_within_69 (n := 70) rfl (hM.2.1 1 (by decide)) (mr_1 hM) (by omega) (by omega) (by decide) ?_
      refine k_aload_n Xc d_M_within_70 rfl rfl (n := 71) rfl ?_
      refine k_get Xc u_M rfl 3 (by decide) wd_553 rfl d_M_within_71 (n := 74) rfl hM.1 hM.2.2.1 rfl ?_
      refine k_iload_n Xc d_M_within_74 rfl rfl (n := 75) rfl ?_
      refine k_iald Xc d_M_within_75 (n := 76) rfl (hM.2.1 1 (by decide)) (mr_1 hM) (by omega) (by omega) (by decide) ?_
      refine k_icmp_ge Xc d_M_within_76 (t := 88) (n := 79) rfl rfl (by omega) (by omega) (fun _ => ?_) (fun h_76 => absurd h_76 (by omega))
      refine k_aload_n Xc d_M_within_88 rfl rfl (n := 89) rfl ?_
      refine k_get Xc u_M rfl 3 (by decide) wd_553 rfl d_M_within_89 (n := 92) rfl hM.1 hM.2.2.1 rfl ?_
      refine k_iload_n Xc d_M_within_92 rfl rfl (n := 93) rfl ?_
      refine k_iald Xc d_M_within_93 (n := 94) rfl (hM.2.1 1 (by decide)) (mr_1 hM) (by omega) (by omega) (by decide) ?_
      refine k_istore Xc d_M_within_94 (by decide) (n := 96) rfl ?_
      refine k_aload_n Xc d_M_within_96 rfl rfl (n := 97) rfl ?_
      refine k_get Xc u_M rfl 3 (by decide) wd_553 rfl d_M_within_97 (n := 100) rfl hM.1 hM.2.2.1 rfl ?_
      refine k_iload_n Xc d_M_within_100 rfl rfl (n := 101) rfl ?_
      refine k_iald Xc d_M_within_101 (n := 102) rfl (hM.2.1 1 (by decide)) (mr_1 hM) (by omega) (by omega) (by decide) ?_
      refine k_aload_n Xc d_M_within_102 rfl rfl (n := 103) rfl ?_
      refine k_get Xc u_M rfl 3 (by decide) wd_553 rfl d_M_within_103 (n := 106) rfl hM.1 hM.2.2.1 rfl ?_
      refine k_iload_n Xc d_M_within_106 rfl rfl (n := 107) rfl ?_
      refine k_iald Xc d_M_within_107 (n := 108) rfl (hM.2.1 1 (by decide)) (mr_1 hM) (by omega) (by omega) (by decide) ?_
      refine k_icmp_ge Xc d_M_within_108 (t := 120) (n := 111) rfl rfl (by omega) (by omega) (fun _ => ?_) (fun h_108 => absurd h_108 (by omega))
      refine k_aload_n Xc d_M_within_120 rfl rfl (n := 121) rfl ?_
      refine k_get Xc u_M rfl 3 (by decide) wd_553 rfl d_M_within_121 (n := 124) rfl hM.1 hM.2.2.1 rfl ?_
      refine k_iload_n Xc d_M_within_124 rfl rfl (n := 125) rfl ?_
      refine k_iald Xc d_M_within_125 (n := 126) rfl (hM.2.1 1 (by decide)) (mr_1 hM) (by omega) (by omega) (by decide) ?_
      refine k_istore Xc d_M_within_126 (by decide) (n := 128) rfl ?_
      refine k_aload_n Xc d_M_within_128 rfl rfl (n := 129) rfl ?_
      refine k_get Xc u_M rfl 2 (by decide) wd_552 rfl d_M_within_129 (n := 132) rfl hM.1 hM.2.2.1 rfl ?_
      refine k_iload_n Xc d_M_within_132 rfl rfl (n := 133) rfl ?_
      refine k_iald Xc d_M_within_133 (n := 134) rfl (hM.2.1 0 (by decide)) (mr_0 hM) (by omega) (by omega) (by decide) ?_
      refine k_iload Xc d_M_within_134 rfl (n := 136) rfl ?_
      refine k_icmp_lt Xc d_M_within_136 (t := 176) (n := 139) rfl rfl (by omega) (by omega) (fun h_136 => ?_) (fun h_136 => ?_)
      · refine k_iconst Xc d_M_within_176 (n := 177) rfl ?_
        refine k_iret Xc d_M_within_177 hr rfl (Nat.le_refl _) (Nat.le_refl _) ⟨_, rfl, ?_, rfl, rfl⟩
        exact Or.inr ⟨by unfold ge_bt; omega, rfl⟩
      · refine k_aload_n Xc d_M_within_139 rfl rfl (n := 140) rfl ?_
        refine k_get Xc u_M rfl 2 (by decide) wd_552 rfl d_M_within_140 (n := 143) rfl hM.1 hM.2.2.1 rfl ?_
        refine k_iload_n Xc d_M_within_143 rfl rfl (n := 144) rfl ?_
        refine k_iald Xc d_M_within_144 (n := 145) rfl (hM.2.1 0 (by decide)) (mr_0 hM) (by omega) (by omega) (by decide) ?_
        refine k_iload Xc d_M_within_145 rfl (n := 147) rfl ?_
        refine k_icmp_gt Xc d_M_within_147 (t := 176) (n := 150) rfl rfl (by omega) (by omega) (fun h_147 => ?_) (fun h_147 => ?_)
        · refine k_iconst Xc d_M_within_176 (n := 177) rfl ?_
          refine k_iret Xc d_M_within_177 hr rfl (Nat.le_refl _) (Nat.le_refl _) ⟨_, rfl, ?_, rfl, rfl⟩
          exact Or.inr ⟨by unfold ge_bt; omega, rfl⟩
        · refine k_aload_n Xc d_M_within_150 rfl rfl (n := 151) rfl ?_
          refine k_get Xc u_M rfl 3 (by decide) wd_553 rfl d_M_within_151 (n := 154) rfl hM.1 hM.2.2.1 rfl ?_
          refine k_iload_n Xc d_M_within_154 rfl rfl (n := 155) rfl ?_
          refine k_iald Xc d_M_within_155 (n := 156) rfl (hM.2.1 1 (by decide)) (mr_1 hM) (by omega) (by omega) (by decide) ?_
          refine k_iload Xc d_M_within_156 rfl (n := 158) rfl ?_
          refine k_icmp_lt Xc d_M_within_158 (t := 176) (n := 161) rfl rfl (by omega) (by omega) (fun h_158 => ?_) (fun h_158 => ?_)
          · refine k_iconst Xc d_M_within_176 (n := 177) rfl ?_
            refine k_iret Xc d_M_within_177 hr rfl (Nat.le_refl _) (Nat.le_refl _) ⟨_, rfl, ?_, rfl, rfl⟩
            exact Or.inr ⟨by unfold ge_bt; omega, rfl⟩
          · refine k_aload_n Xc d_M_within_161 rfl rfl (n := 162) rfl ?_
            refine k_get Xc u_M rfl 3 (by decide) wd_553 rfl d_M_within_162 (n := 165) rfl hM.1 hM.2.2.1 rfl ?_
            refine k_iload_n Xc d_M_within_165 rfl rfl (n := 166) rfl ?_
            refine k_iald Xc d_M_within_166 (n := 167) rfl (hM.2.1 1 (by decide)) (mr_1 hM) (by omega) (by omega) (by decide) ?_
            refine k_iload Xc d_M_within_167 rfl (n := 169) rfl ?_
            refine k_icmp_gt Xc d_M_within_169 (t := 176) (n := 172) rfl rfl (by omega) (by omega) (fun h_169 => ?_) (fun h_169 => ?_)
            · refine k_iconst Xc d_M_within_176 (n := 177) rfl ?_
              refine k_iret Xc d_M_within_177 hr rfl (Nat.le_refl _) (Nat.le_refl _) ⟨_, rfl, ?_, rfl, rfl⟩
              exact Or.inr ⟨by unfold ge_bt; omega, rfl⟩
            · refine k_iconst Xc d_M_within_172 (n := 173) rfl ?_
              refine k_goto Xc d_M_within_173 (t := 177) rfl ?_
              refine k_iret Xc d_M_within_177 hr rfl (Nat.le_refl _) (Nat.le_refl _) ⟨_, rfl, ?_, rfl, rfl⟩
              exact Or.inl ⟨by unfold ge_bt; omega, rfl⟩
  · by_cases hy : R 1 (i : Int) < R 1 (j : Int)
    · refine k_aload_n Xc d_M_within_0 rfl rfl (n := 1) rfl ?_
      refine k_get Xc u_M rfl 2 (by decide) wd_552 rfl d_M_within_1 (n := 4) rfl hM.1 hM.2.2.1 rfl ?_
      refine k_iload_n Xc d_M_within_4 rfl rfl (n := 5) rfl ?_
      refine k_iald Xc d_M_within_5 (n := 6) rfl (hM.2.1 0 (by decide)) (mr_0 hM) (by omega) (by omega) (by decide) ?_
      refine k_aload_n Xc d_M_within_6 rfl rfl (n := 7) rfl ?_
      refine k_get Xc u_M rfl 2 (by decide) wd_552 rfl d_M_within_7 (n := 10) rfl hM.1 hM.2.2.1 rfl ?_
      refine k_iload_n Xc d_M_within_10 rfl rfl (n := 11) rfl ?_
      refine k_iald Xc d_M_within_11 (n := 12) rfl (hM.2.1 0 (by decide)) (mr_0 hM) (by omega) (by omega) (by decide) ?_
      refine k_icmp_ge Xc d_M_within_12 (t := 24) (n := 15) rfl rfl (by omega) (by omega) (fun _ => ?_) (fun h_12 => absurd h_12 (by omega))
      refine k_aload_n Xc d_M_within_24 rfl rfl (n := 25) rfl ?_
      refine k_get Xc u_M rfl 2 (by decide) wd_552 rfl d_M_within_25 (n := 28) rfl hM.1 hM.2.2.1 rfl ?_
      refine k_iload_n Xc d_M_within_28 rfl rfl (n := 29) rfl ?_
      refine k_iald Xc d_M_within_29 (n := 30) rfl (hM.2.1 0 (by decide)) (mr_0 hM) (by omega) (by omega) (by decide) ?_
      refine k_istore Xc d_M_within_30 (by decide) (n := 32) rfl ?_
      refine k_aload_n Xc d_M_within_32 rfl rfl (n := 33) rfl ?_
      refine k_get Xc u_M rfl 2 (by decide) wd_552 rfl d_M_within_33 (n := 36) rfl hM.1 hM.2.2.1 rfl ?_
      refine k_iload_n Xc d_M_within_36 rfl rfl (n := 37) rfl ?_
      refine k_iald Xc d_M_within_37 (n := 38) rfl (hM.2.1 0 (by decide)) (mr_0 hM) (by omega) (by omega) (by decide) ?_
      refine k_aload_n Xc d_M_within_38 rfl rfl (n := 39) rfl ?_
      refine k_get Xc u_M rfl 2 (by decide) wd_552 rfl d_M_within_39 (n := 42) rfl hM.1 hM.2.2.1 rfl ?_
      refine k_iload_n Xc d_M_within_42 rfl rfl (n := 43) rfl ?_
      refine k_iald Xc d_M_within_43 (n := 44) rfl (hM.2.1 0 (by decide)) (mr_0 hM) (by omega) (by omega) (by decide) ?_
      refine k_icmp_ge Xc d_M_within_44 (t := 56) (n := 47) rfl rfl (by omega) (by omega) (fun _ => ?_) (fun h_44 => absurd h_44 (by omega))
      refine k_aload_n Xc d_M_within_56 rfl rfl (n := 57) rfl ?_
      refine k_get Xc u_M rfl 2 (by decide) wd_552 rfl d_M_within_57 (n := 60) rfl hM.1 hM.2.2.1 rfl ?_
      refine k_iload_n Xc d_M_within_60 rfl rfl (n := 61) rfl ?_
      refine k_iald Xc d_M_within_61 (n := 62) rfl (hM.2.1 0 (by decide)) (mr_0 hM) (by omega) (by omega) (by decide) ?_
      refine k_istore Xc d_M_within_62 (by decide) (n := 64) rfl ?_
      refine k_aload_n Xc d_M_within_64 rfl rfl (n := 65) rfl ?_
      refine k_get Xc u_M rfl 3 (by decide) wd_553 rfl d_M_within_65 (n := 68) rfl hM.1 hM.2.2.1 rfl ?_
      refine k_iload_n Xc d_M_within_68 rfl rfl (n := 69) rfl ?_
      refine k_iald Xc d_M_within_69 (n := 70) rfl (hM.2.1 1 (by decide)) (mr_1 hM) (by omega) (by omega) (by decide) ?_
      refine k_aload_n Xc d_M_within_70 rfl rfl (n := 71) rfl ?_
      refine k_get Xc u_M rfl 3 (by decide) wd_553 rfl d_M_within_71 (n := 74) rfl hM.1 hM.2.2.1 rfl ?_
      refine k_iload_n Xc d_M_within_74 rfl rfl (n := 75) rfl ?_
      refine k_iald Xc d_M_within_75 (n := 76) rfl (hM.2.1 1 (by decide)) (mr_1 hM) (by omega) (by omega) (by decide) ?_
      refine k_icmp_ge Xc d_M_within_76 (t := 88) (n := 79) rfl rfl (by omega) (by omega) (fun h_76 => absurd h_76 (by omega)) (fun _ => ?_)
      refine k_aload_n Xc d_M_within_79 rfl rfl (n := 80) rfl ?_
      refine k_get Xc u_M rfl 3 (by decide) wd_553 rfl d_M_within_80 (n := 83) rfl hM.1 hM.2.2.1 rfl ?_
      refine k_iload_n Xc d_M_within_83 rfl rfl (n := 84) rfl ?_
      refine k_iald Xc d_M_within_84 (n := 85) rfl (hM.2.1 1 (by decide)) (mr_1 hM) (by omega) (by omega) (by decide) ?_
      refine k_goto Xc d_M_within_85 (t := 94) rfl ?_
      refine k_istore Xc d_M_within_94 (by decide) (n := 96) rfl ?_
      refine k_aload_n Xc d_M_within_96 rfl rfl (n := 97) rfl ?_
      refine k_get Xc u_M rfl 3 (by decide) wd_553 rfl d_M_within_97 (n := 100) rfl hM.1 hM.2.2.1 rfl ?_
      refine k_iload_n Xc d_M_within_100 rfl rfl (n := 101) rfl ?_
      refine k_iald Xc d_M_within_101 (n := 102) rfl (hM.2.1 1 (by decide)) (mr_1 hM) (by omega) (by omega) (by decide) ?_
      refine k_aload_n Xc d_M_within_102 rfl rfl (n := 103) rfl ?_
      refine k_get Xc u_M rfl 3 (by decide) wd_553 rfl d_M_within_103 (n := 106) rfl hM.1 hM.2.2.1 rfl ?_
      refine k_iload_n Xc d_M_within_106 rfl rfl (n := 107) rfl ?_
      refine k_iald Xc d_M_within_107 (n := 108) rfl (hM.2.1 1 (by decide)) (mr_1 hM) (by omega) (by omega) (by decide) ?_
      refine k_icmp_ge Xc d_M_within_108 (t := 120) (n := 111) rfl rfl (by omega) (by omega) (fun h_108 => absurd h_108 (by omega)) (fun _ => ?_)
      refine k_aload_n Xc d_M_within_111 rfl rfl (n := 112) rfl ?_
      refine k_get Xc u_M rfl 3 (by decide) wd_553 rfl d_M_within_112 (n := 115) rfl hM.1 hM.2.2.1 rfl ?_
      refine k_iload_n Xc d_M_within_115 rfl rfl (n := 116) rfl ?_
      refine k_iald Xc d_M_within_116 (n := 117) rfl (hM.2.1 1 (by decide)) (mr_1 hM) (by omega) (by omega) (by decide) ?_
      refine k_goto Xc d_M_within_117 (t := 126) rfl ?_
      refine k_istore Xc d_M_within_126 (by decide) (n := 128) rfl ?_
      refine k_aload_n Xc d_M_within_128 rfl rfl (n := 129) rfl ?_
      refine k_get Xc u_M rfl 2 (by decide) wd_552 rfl d_M_within_129 (n := 132) rfl hM.1 hM.2.2.1 rfl ?_
      refine k_iload_n Xc d_M_within_132 rfl rfl (n := 133) rfl ?_
      refine k_iald Xc d_M_within_133 (n := 134) rfl (hM.2.1 0 (by decide)) (mr_0 hM) (by omega) (by omega) (by decide) ?_
      refine k_iload Xc d_M_within_134 rfl (n := 136) rfl ?_
      refine k_icmp_lt Xc d_M_within_136 (t := 176) (n := 139) rfl rfl (by omega) (by omega) (fun h_136 => ?_) (fun h_136 => ?_)
      · refine k_iconst Xc d_M_within_176 (n := 177) rfl ?_
        refine k_iret Xc d_M_within_177 hr rfl (Nat.le_refl _) (Nat.le_refl _) ⟨_, rfl, ?_, rfl, rfl⟩
        exact Or.inr ⟨by unfold ge_bt; omega, rfl⟩
      · refine k_aload_n Xc d_M_within_139 rfl rfl (n := 140) rfl ?_
        refine k_get Xc u_M rfl 2 (by decide) wd_552 rfl d_M_within_140 (n := 143) rfl hM.1 hM.2.2.1 rfl ?_
        refine k_iload_n Xc d_M_within_143 rfl rfl (n := 144) rfl ?_
        refine k_iald Xc d_M_within_144 (n := 145) rfl (hM.2.1 0 (by decide)) (mr_0 hM) (by omega) (by omega) (by decide) ?_
        refine k_iload Xc d_M_within_145 rfl (n := 147) rfl ?_
        refine k_icmp_gt Xc d_M_within_147 (t := 176) (n := 150) rfl rfl (by omega) (by omega) (fun h_147 => ?_) (fun h_147 => ?_)
        · refine k_iconst Xc d_M_within_176 (n := 177) rfl ?_
          refine k_iret Xc d_M_within_177 hr rfl (Nat.le_refl _) (Nat.le_refl _) ⟨_, rfl, ?_, rfl, rfl⟩
          exact Or.inr ⟨by unfold ge_bt; omega, rfl⟩
        · refine k_aload_n Xc d_M_within_150 rfl rfl (n := 151) rfl ?_
          refine k_get Xc u_M rfl 3 (by decide) wd_553 rfl d_M_within_151 (n := 154) rfl hM.1 hM.2.2.1 rfl ?_
          refine k_iload_n Xc d_M_within_154 rfl rfl (n := 155) rfl ?_
          refine k_iald Xc d_M_within_155 (n := 156) rfl (hM.2.1 1 (by decide)) (mr_1 hM) (by omega) (by omega) (by decide) ?_
          refine k_iload Xc d_M_within_156 rfl (n := 158) rfl ?_
          refine k_icmp_lt Xc d_M_within_158 (t := 176) (n := 161) rfl rfl (by omega) (by omega) (fun h_158 => ?_) (fun h_158 => ?_)
          · refine k_iconst Xc d_M_within_176 (n := 177) rfl ?_
            refine k_iret Xc d_M_within_177 hr rfl (Nat.le_refl _) (Nat.le_refl _) ⟨_, rfl, ?_, rfl, rfl⟩
            exact Or.inr ⟨by unfold ge_bt; omega, rfl⟩
          · refine k_aload_n Xc d_M_within_161 rfl rfl (n := 162) rfl ?_
            refine k_get Xc u_M rfl 3 (by decide) wd_553 rfl d_M_within_162 (n := 165) rfl hM.1 hM.2.2.1 rfl ?_
            refine k_iload_n Xc d_M_within_165 rfl rfl (n := 166) rfl ?_
            refine k_iald Xc d_M_within_166 (n := 167) rfl (hM.2.1 1 (by decide)) (mr_1 hM) (by omega) (by omega) (by decide) ?_
            refine k_iload Xc d_M_within_167 rfl (n := 169) rfl ?_
            refine k_icmp_gt Xc d_M_within_169 (t := 176) (n := 172) rfl rfl (by omega) (by omega) (fun h_169 => ?_) (fun h_169 => ?_)
            · refine k_iconst Xc d_M_within_176 (n := 177) rfl ?_
              refine k_iret Xc d_M_within_177 hr rfl (Nat.le_refl _) (Nat.le_refl _) ⟨_, rfl, ?_, rfl, rfl⟩
              exact Or.inr ⟨by unfold ge_bt; omega, rfl⟩
            · refine k_iconst Xc d_M_within_172 (n := 173) rfl ?_
              refine k_goto Xc d_M_within_173 (t := 177) rfl ?_
              refine k_iret Xc d_M_within_177 hr rfl (Nat.le_refl _) (Nat.le_refl _) ⟨_, rfl, ?_, rfl, rfl⟩
              exact Or.inl ⟨by unfold ge_bt; omega, rfl⟩
    · refine k_aload_n Xc d_M_within_0 rfl rfl (n := 1) rfl ?_
      refine k_get Xc u_M rfl 2 (by decide) wd_552 rfl d_M_within_1 (n := 4) rfl hM.1 hM.2.2.1 rfl ?_
      refine k_iload_n Xc d_M_within_4 rfl rfl (n := 5) rfl ?_
      refine k_iald Xc d_M_within_5 (n := 6) rfl (hM.2.1 0 (by decide)) (mr_0 hM) (by omega) (by omega) (by decide) ?_
      refine k_aload_n Xc d_M_within_6 rfl rfl (n := 7) rfl ?_
      refine k_get Xc u_M rfl 2 (by decide) wd_552 rfl d_M_within_7 (n := 10) rfl hM.1 hM.2.2.1 rfl ?_
      refine k_iload_n Xc d_M_within_10 rfl rfl (n := 11) rfl ?_
      refine k_iald Xc d_M_within_11 (n := 12) rfl (hM.2.1 0 (by decide)) (mr_0 hM) (by omega) (by omega) (by decide) ?_
      refine k_icmp_ge Xc d_M_within_12 (t := 24) (n := 15) rfl rfl (by omega) (by omega) (fun _ => ?_) (fun h_12 => absurd h_12 (by omega))
      refine k_aload_n Xc d_M_within_24 rfl rfl (n := 25) rfl ?_
      refine k_get Xc u_M rfl 2 (by decide) wd_552 rfl d_M_within_25 (n := 28) rfl hM.1 hM.2.2.1 rfl ?_
      refine k_iload_n Xc d_M_within_28 rfl rfl (n := 29) rfl ?_
      refine k_iald Xc d_M_within_29 (n := 30) rfl (hM.2.1 0 (by decide)) (mr_0 hM) (by omega) (by omega) (by decide) ?_
      refine k_istore Xc d_M_within_30 (by decide) (n := 32) rfl ?_
      refine k_aload_n Xc d_M_within_32 rfl rfl (n := 33) rfl ?_
      refine k_get Xc u_M rfl 2 (by decide) wd_552 rfl d_M_within_33 (n := 36) rfl hM.1 hM.2.2.1 rfl ?_
      refine k_iload_n Xc d_M_within_36 rfl rfl (n := 37) rfl ?_
      refine k_iald Xc d_M_within_37 (n := 38) rfl (hM.2.1 0 (by decide)) (mr_0 hM) (by omega) (by omega) (by decide) ?_
      refine k_aload_n Xc d_M_within_38 rfl rfl (n := 39) rfl ?_
      refine k_get Xc u_M rfl 2 (by decide) wd_552 rfl d_M_within_39 (n := 42) rfl hM.1 hM.2.2.1 rfl ?_
      refine k_iload_n Xc d_M_within_42 rfl rfl (n := 43) rfl ?_
      refine k_iald Xc d_M_within_43 (n := 44) rfl (hM.2.1 0 (by decide)) (mr_0 hM) (by omega) (by omega) (by decide) ?_
      refine k_icmp_ge Xc d_M_within_44 (t := 56) (n := 47) rfl rfl (by omega) (by omega) (fun _ => ?_) (fun h_44 => absurd h_44 (by omega))
      refine k_aload_n Xc d_M_within_56 rfl rfl (n := 57) rfl ?_
      refine k_get Xc u_M rfl 2 (by decide) wd_552 rfl d_M_within_57 (n := 60) rfl hM.1 hM.2.2.1 rfl ?_
      refine k_iload_n Xc d_M_within_60 rfl rfl (n := 61) rfl ?_
      refine k_iald Xc d_M_within_61 (n := 62) rfl (hM.2.1 0 (by decide)) (mr_0 hM) (by omega) (by omega) (by decide) ?_
      refine k_istore Xc d_M_within_62 (by decide) (n := 64) rfl ?_
      refine k_aload_n Xc d_M_within_64 rfl rfl (n := 65) rfl ?_
      refine k_get Xc u_M rfl 3 (by decide) wd_553 rfl d_M_within_65 (n := 68) rfl hM.1 hM.2.2.1 rfl ?_
      refine k_iload_n Xc d_M_within_68 rfl rfl (n := 69) rfl ?_
      refine k_iald Xc d_M_within_69 (n := 70) rfl (hM.2.1 1 (by decide)) (mr_1 hM) (by omega) (by omega) (by decide) ?_
      refine k_aload_n Xc d_M_within_70 rfl rfl (n := 71) rfl ?_
      refine k_get Xc u_M rfl 3 (by decide) wd_553 rfl d_M_within_71 (n := 74) rfl hM.1 hM.2.2.1 rfl ?_
      refine k_iload_n Xc d_M_within_74 rfl rfl (n := 75) rfl ?_
      refine k_iald Xc d_M_within_75 (n := 76) rfl (hM.2.1 1 (by decide)) (mr_1 hM) (by omega) (by omega) (by decide) ?_
      refine k_icmp_ge Xc d_M_within_76 (t := 88) (n := 79) rfl rfl (by omega) (by omega) (fun _ => ?_) (fun h_76 => absurd h_76 (by omega))
      refine k_aload_n Xc d_M_within_88 rfl rfl (n := 89) rfl ?_
      refine k_get Xc u_M rfl 3 (by decide) wd_553 rfl d_M_within_89 (n := 92) rfl hM.1 hM.2.2.1 rfl ?_
      refine k_iload_n Xc d_M_within_92 rfl rfl (n := 93) rfl ?_
      refine k_iald Xc d_M_within_93 (n := 94) rfl (hM.2.1 1 (by decide)) (mr_1 hM) (by omega) (by omega) (by decide) ?_
      refine k_istore Xc d_M_within_94 (by decide) (n := 96) rfl ?_
      refine k_aload_n Xc d_M_within_96 rfl rfl (n := 97) rfl ?_
      refine k_get Xc u_M rfl 3 (by decide) wd_553 rfl d_M_within_97 (n := 100) rfl hM.1 hM.2.2.1 rfl ?_
      refine k_iload_n Xc d_M_within_100 rfl rfl (n := 101) rfl ?_
      refine k_iald Xc d_M_within_101 (n := 102) rfl (hM.2.1 1 (by decide)) (mr_1 hM) (by omega) (by omega) (by decide) ?_
      refine k_aload_n Xc d_M_within_102 rfl rfl (n := 103) rfl ?_
      refine k_get Xc u_M rfl 3 (by decide) wd_553 rfl d_M_within_103 (n := 106) rfl hM.1 hM.2.2.1 rfl ?_
      refine k_iload_n Xc d_M_within_106 rfl rfl (n := 107) rfl ?_
      refine k_iald Xc d_M_within_107 (n := 108) rfl (hM.2.1 1 (by decide)) (mr_1 hM) (by omega) (by omega) (by decide) ?_
      refine k_icmp_ge Xc d_M_within_108 (t := 120) (n := 111) rfl rfl (by omega) (by omega) (fun _ => ?_) (fun h_108 => absurd h_108 (by omega))
      refine k_aload_n Xc d_M_within_120 rfl rfl (n := 121) rfl ?_
      refine k_get Xc u_M rfl 3 (by decide) wd_553 rfl d_M_within_121 (n := 124) rfl hM.1 hM.2.2.1 rfl ?_
      refine k_iload_n Xc d_M_within_124 rfl rfl (n := 125) rfl ?_
      refine k_iald Xc d_M_within_125 (n := 126) rfl (hM.2.1 1 (by decide)) (mr_1 hM) (by omega) (by omega) (by decide) ?_
      refine k_istore Xc d_M_within_126 (by decide) (n := 128) rfl ?_
      refine k_aload_n Xc d_M_within_128 rfl rfl (n := 129) rfl ?_
      refine k_get Xc u_M rfl 2 (by decide) wd_552 rfl d_M_within_129 (n := 132) rfl hM.1 hM.2.2.1 rfl ?_
      refine k_iload_n Xc d_M_within_132 rfl rfl (n := 133) rfl ?_
      refine k_iald Xc d_M_within_133 (n := 134) rfl (hM.2.1 0 (by decide)) (mr_0 hM) (by omega) (by omega) (by decide) ?_
      refine k_iload Xc d_M_within_134 rfl (n := 136) rfl ?_
      refine k_icmp_lt Xc d_M_within_136 (t := 176) (n := 139) rfl rfl (by omega) (by omega) (fun h_136 => ?_) (fun h_136 => ?_)
      · refine k_iconst Xc d_M_within_176 (n := 177) rfl ?_
        refine k_iret Xc d_M_within_177 hr rfl (Nat.le_refl _) (Nat.le_refl _) ⟨_, rfl, ?_, rfl, rfl⟩
        exact Or.inr ⟨by unfold ge_bt; omega, rfl⟩
      · refine k_aload_n Xc d_M_within_139 rfl rfl (n := 140) rfl ?_
        refine k_get Xc u_M rfl 2 (by decide) wd_552 rfl d_M_within_140 (n := 143) rfl hM.1 hM.2.2.1 rfl ?_
        refine k_iload_n Xc d_M_within_143 rfl rfl (n := 144) rfl ?_
        refine k_iald Xc d_M_within_144 (n := 145) rfl (hM.2.1 0 (by decide)) (mr_0 hM) (by omega) (by omega) (by decide) ?_
        refine k_iload Xc d_M_within_145 rfl (n := 147) rfl ?_
        refine k_icmp_gt Xc d_M_within_147 (t := 176) (n := 150) rfl rfl (by omega) (by omega) (fun h_147 => ?_) (fun h_147 => ?_)
        · refine k_iconst Xc d_M_within_176 (n := 177) rfl ?_
          refine k_iret Xc d_M_within_177 hr rfl (Nat.le_refl _) (Nat.le_refl _) ⟨_, rfl, ?_, rfl, rfl⟩
          exact Or.inr ⟨by unfold ge_bt; omega, rfl⟩
        · refine k_aload_n Xc d_M_within_150 rfl rfl (n := 151) rfl ?_
          refine k_get Xc u_M rfl 3 (by decide) wd_553 rfl d_M_within_151 (n := 154) rfl hM.1 hM.2.2.1 rfl ?_
          refine k_iload_n Xc d_M_within_154 rfl rfl (n := 155) rfl ?_
          refine k_iald Xc d_M_within_155 (n := 156) rfl (hM.2.1 1 (by decide)) (mr_1 hM) (by omega) (by omega) (by decide) ?_
          refine k_iload Xc d_M_within_156 rfl (n := 158) rfl ?_
          refine k_icmp_lt Xc d_M_within_158 (t := 176) (n := 161) rfl rfl (by omega) (by omega) (fun h_158 => ?_) (fun h_158 => ?_)
          · refine k_iconst Xc d_M_within_176 (n := 177) rfl ?_
            refine k_iret Xc d_M_within_177 hr rfl (Nat.le_refl _) (Nat.le_refl _) ⟨_, rfl, ?_, rfl, rfl⟩
            exact Or.inr ⟨by unfold ge_bt; omega, rfl⟩
          · refine k_aload_n Xc d_M_within_161 rfl rfl (n := 162) rfl ?_
            refine k_get Xc u_M rfl 3 (by decide) wd_553 rfl d_M_within_162 (n := 165) rfl hM.1 hM.2.2.1 rfl ?_
            refine k_iload_n Xc d_M_within_165 rfl rfl (n := 166) rfl ?_
            refine k_iald Xc d_M_within_166 (n := 167) rfl (hM.2.1 1 (by decide)) (mr_1 hM) (by omega) (by omega) (by decide) ?_
            refine k_iload Xc d_M_within_167 rfl (n := 169) rfl ?_
            refine k_icmp_gt Xc d_M_within_169 (t := 176) (n := 172) rfl rfl (by omega) (by omega) (fun h_169 => ?_) (fun h_169 => ?_)
            · refine k_iconst Xc d_M_within_176 (n := 177) rfl ?_
              refine k_iret Xc d_M_within_177 hr rfl (Nat.le_refl _) (Nat.le_refl _) ⟨_, rfl, ?_, rfl, rfl⟩
              exact Or.inr ⟨by unfold ge_bt; omega, rfl⟩
            · refine k_iconst Xc d_M_within_172 (n := 173) rfl ?_
              refine k_goto Xc d_M_within_173 (t := 177) rfl ?_
              refine k_iret Xc d_M_within_177 hr rfl (Nat.le_refl _) (Nat.le_refl _) ⟨_, rfl, ?_, rfl, rfl⟩
              exact Or.inl ⟨by unfold ge_bt; omega, rfl⟩
set_option maxRecDepth 100000 in
set_option maxHeartbeats 4000000 in
theorem m_M_isOn (l : Launch) (D : va_G) (G : Nat → ClassId) {L : List Nat} {f : Nat → va_E} {o : Nat} {ra : Nat → Nat} {cd wt hc zn kn mn om : Int} {R : Nat → Int → Int} (hM : zMo G L f o ra cd wt hc zn kn mn om R) (hW : sB 12 (R 0) (R 1)) (i j k : Nat) (hi : i < 12) (hj : j < 12) (hk : k < 12) : zM l D G y_M_isOn (.code y_M_isOn c_M_isOn 4 (some .boolean) :: BG) (zR0 1 27) [.ref o, .int (zI (i : Int)), .int (zI (j : Int)), .int (zI (k : Int))] L f (zA L f (fun r => zB (ge_onI (sP (R 0) (R 1)) i j k) r)) := by
  refine zM.of (by decide) (Nat.le_of_ble_eq_true rfl) rfl (fun p e s m args below meth c A Xc hr hnm => ?_)
  have c1 := crI_bd hW hi hj hk
  refine k_aload_n Xc d_M_isOn_0 rfl rfl (n := 1) rfl ?_
  refine k_iload_n Xc d_M_isOn_1 rfl rfl (n := 2) rfl ?_
  refine k_iload_n Xc d_M_isOn_2 rfl rfl (n := 3) rfl ?_
  refine k_iload_n Xc d_M_isOn_3 rfl rfl (n := 4) rfl ?_
  refine k_qV (na := 3) Xc (m_M_side l D G hM _ _ _ (by omega) (by omega) (by omega)) hM.1 hM.2.2.1 rfl wd_668 wd_665 wd_667 ws_12 wd_6 (by decide +kernel) ⟨by decide, by decide⟩ rfl rfl (Nat.le_of_ble_eq_true rfl) d_M_isOn_4 (n := 7) rfl ⟨Nat.zero_le _, Nat.zero_le _⟩ (fun r_4 e_4 => ?_)
  subst e_4
  refine k_if_ne Xc d_M_isOn_7 (t := 24) (n := 10) rfl rfl (by omega) (fun h_7 => ?_) (fun h_7 => ?_)
  · refine k_iconst Xc d_M_isOn_24 (n := 25) rfl ?_
    refine k_iret Xc d_M_isOn_25 hr rfl (Nat.le_refl _) (Nat.le_refl _) ⟨_, rfl, ?_, rfl, rfl⟩
    exact Or.inr ⟨fun q => by first | exact e_14 q.2 | (have z : ge_crI (sP (R 0) (R 1)) i j k = 0 := q.1; omega), rfl⟩
  · refine k_aload_n Xc d_M_isOn_10 rfl rfl (n := 11) rfl ?_
    refine k_iload_n Xc d_M_isOn_11 rfl rfl (n := 12) rfl ?_
    refine k_iload_n Xc d_M_isOn_12 rfl rfl (n := 13) rfl ?_
    refine k_iload_n Xc d_M_isOn_13 rfl rfl (n := 14) rfl ?_
    refine k_qV (na := 3) Xc (m_M_within l D G hM hW _ _ _ (by omega) (by omega) (by omega)) hM.1 hM.2.2.1 rfl wd_672 wd_669 wd_671 ws_13 wd_6 (by decide +kernel) ⟨by decide, by decide⟩ rfl rfl (Nat.le_of_ble_eq_true rfl) d_M_isOn_14 (n := 17) rfl ⟨Nat.zero_le _, Nat.zero_le _⟩ (fun r_14 e_14 => ?_)
    rcases e_14 with ⟨e_14, rfl⟩ | ⟨e_14, rfl⟩
    · refine k_if_eq Xc d_M_isOn_17 (t := 24) (n := 20) rfl rfl (by omega) (fun h_17 => absurd h_17 (by omega)) (fun _ => ?_)
      refine k_iconst Xc d_M_isOn_20 (n := 21) rfl ?_
      refine k_goto Xc d_M_isOn_21 (t := 25) rfl ?_
      refine k_iret Xc d_M_isOn_25 hr rfl (Nat.le_refl _) (Nat.le_refl _) ⟨_, rfl, ?_, rfl, rfl⟩
      exact Or.inl ⟨⟨by first | assumption | omega, e_14⟩, rfl⟩
    · refine k_if_eq Xc d_M_isOn_17 (t := 24) (n := 20) rfl rfl (by omega) (fun _ => ?_) (fun h_17 => absurd h_17 (by omega))
      refine k_iconst Xc d_M_isOn_24 (n := 25) rfl ?_
      refine k_iret Xc d_M_isOn_25 hr rfl (Nat.le_refl _) (Nat.le_refl _) ⟨_, rfl, ?_, rfl, rfl⟩
      exact Or.inr ⟨fun q => by first | exact e_14 q.2 | (have z : ge_crI (sP (R 0) (R 1)) i j k = 0 := q.1; omega), rfl⟩
set_option maxRecDepth 100000 in
set_option maxHeartbeats 4000000 in
/-- how many parts lie there -/
theorem m_M_count (l : Launch) (D : va_G) (G : Nat → ClassId) {L : List Nat} {f : Nat → va_E} {o : Nat} {ra : Nat → Nat} {cd wt hc zn kn mn om : Int} {R : Nat → Int → Int} (hM : zMo G L f o ra cd wt hc zn kn mn om R) (hp : ∀ j : Int, 0 ≤ j → j < 12 → -1 ≤ R 13 j ∧ R 13 j ≤ 5) : zM l D G y_M_count (.code y_M_count c_M_count 3 (some .int) :: BG) (zR0 0 0) [.ref o] L f (zA L f (fun r => r = mcnt (R 13) 12)) := by
  refine zM.of (by decide) (Nat.le_of_ble_eq_true rfl) rfl (fun p e s m args below meth c A Xc hr hnm => ?_)
  have loop : ∀ (d i : Nat), 12 < i + d → i ≤ 12 → zG p l e (zR0 0 0) s m args below meth c D A 3 0 0 (MQ below (zE D A (zA L f (fun r => r = mcnt (R 13) 12))) args s (zR0 0 0).cells (zR0 0 0).slots A) 4 [(0, .ref o), (1, .int (zI (mcnt (R 13) i))), (2, .int (zI (i : Int)))] [] L f := by
    intro d
    induction d with
    | zero => intro i h1 h2; omega
    | succ d ih =>
      intro i h1 h2
      refine k_iload_n Xc d_M_count_4 rfl rfl (n := 5) rfl ?_
      refine k_bipush Xc d_M_count_5 rfl (n := 7) rfl ?_
      refine k_icmp_ge Xc d_M_count_7 (t := 33) (n := 10) rfl rfl (by omega) (by omega) (fun h_7 => ?_) (fun h_7 => ?_)
      · refine k_iload_n Xc d_M_count_33 rfl rfl (n := 34) rfl ?_
        refine k_iret Xc d_M_count_34 hr rfl (Nat.le_refl _) (Nat.le_refl _) ⟨_, rfl, ?_, rfl, rfl⟩
        rw [show i = 12 by omega]
      · refine k_iload_n Xc d_M_count_10 rfl rfl (n := 11) rfl ?_
        refine k_aload_n Xc d_M_count_11 rfl rfl (n := 12) rfl ?_
        refine k_get Xc u_M rfl 18 (by decide) wd_568 rfl d_M_count_12 (n := 15) rfl hM.1 hM.2.2.1 rfl ?_
        refine k_iload_n Xc d_M_count_15 rfl rfl (n := 16) rfl ?_
        have c1 := hp i (by omega) (by omega)
        refine k_iald Xc d_M_count_16 (n := 17) rfl (hM.2.1 13 (by decide)) (mr_13 hM) (by omega) (by omega) (by decide) ?_
        refine k_if_lt Xc d_M_count_17 (t := 24) (n := 20) rfl rfl (by omega) (fun h_17 => ?_) (fun h_17 => ?_)
        · refine k_iconst Xc d_M_count_24 (n := 25) rfl ?_
          refine k_iadd Xc d_M_count_25 (n := 26) rfl ?_
          refine k_istore_n Xc d_M_count_26 rfl (by decide) (n := 27) rfl ?_
          refine k_iinc Xc d_M_count_27 rfl (by decide) (n := 30) rfl ?_
          refine k_goto Xc d_M_count_30 (t := 4) rfl ?_
          exact k_loc (ih (i + 1) (by omega) (by omega)) (by rw [mcnt_s]; first | (rw [if_pos (by omega)]; rfl) | (rw [if_neg (by omega)]; rfl))
        · refine k_iconst Xc d_M_count_20 (n := 21) rfl ?_
          refine k_goto Xc d_M_count_21 (t := 25) rfl ?_
          refine k_iadd Xc d_M_count_25 (n := 26) rfl ?_
          refine k_istore_n Xc d_M_count_26 rfl (by decide) (n := 27) rfl ?_
          refine k_iinc Xc d_M_count_27 rfl (by decide) (n := 30) rfl ?_
          refine k_goto Xc d_M_count_30 (t := 4) rfl ?_
          exact k_loc (ih (i + 1) (by omega) (by omega)) (by rw [mcnt_s]; first | (rw [if_pos (by omega)]; rfl) | (rw [if_neg (by omega)]; rfl))
  refine k_iconst Xc d_M_count_0 (n := 1) rfl ?_
  refine k_istore_n Xc d_M_count_1 rfl (by decide) (n := 2) rfl ?_
  refine k_iconst Xc d_M_count_2 (n := 3) rfl ?_
  refine k_istore_n Xc d_M_count_3 rfl (by decide) (n := 4) rfl ?_
  exact k_loc (loop 13 0 (by omega) (by omega)) rfl
set_option maxRecDepth 100000 in
set_option maxHeartbeats 4000000 in
/-- two sides meet -/
theorem m_M_meet (l : Launch) (D : va_G) (G : Nat → ClassId) {L : List Nat} {f : Nat → va_E} {o : Nat} {ra : Nat → Nat} {cd wt hc zn kn mn om : Int} {R : Nat → Int → Int} (hM : zMo G L f o ra cd wt hc zn kn mn om R) (hW : sB 12 (R 0) (R 1)) (i k n : Nat) (hi : i < n) (hk : k < n) (hn : n ≤ 12) : zM l D G y_M_meet (.code y_M_meet c_M_meet 8 (some .boolean) :: BG) (zR0 2 50) [.ref o, .int (zI (i : Int)), .int (zI (k : Int)), .int (zI (n : Int))] L f (zA L f (fun r => zB (ge_mtM n (sP (R 0) (R 1)) i k) r)) := by
  refine zM.of (by decide) (Nat.le_of_ble_eq_true rfl) rfl (fun p e s m args below meth c A Xc hr hnm => ?_)
  have l1 : ge_nx n i < n := nx_lt (by omega)
  have l2 : ge_nx n k < n := nx_lt (by omega)
  have c1 := crI_bd hW (i := i) (j := ge_nx n i) (k := k) (by omega) (by omega) (by omega)
  have c2 := crI_bd hW (i := i) (j := ge_nx n i) (k := ge_nx n k) (by omega) (by omega) (by omega)
  have c3 := crI_bd hW (i := k) (j := ge_nx n k) (k := i) (by omega) (by omega) (by omega)
  have c4 := crI_bd hW (i := k) (j := ge_nx n k) (k := ge_nx n i) (by omega) (by omega) (by omega)
  have fin : (¬ ge_onI (sP (R 0) (R 1)) i (ge_nx n i) k) → (¬ ge_onI (sP (R 0) (R 1)) i (ge_nx n i) (ge_nx n k)) → (¬ ge_onI (sP (R 0) (R 1)) k (ge_nx n k) i) → (¬ ge_onI (sP (R 0) (R 1)) k (ge_nx n k) (ge_nx n i)) → zG p l e (zR0 2 50) s m args below meth c D A 8 0 0 (MQ below (zE D A (zA L f (fun r => zB (ge_mtM n (sP (R 0) (R 1)) i k) r))) args s (zR0 2 50).cells (zR0 2 50).slots A) 62 [(0, .ref o), (1, .int (zI (i : Int))), (2, .int (zI (k : Int))), (3, .int (zI (n : Int))), (4, .int (zI ((ge_nx n i : Nat) : Int))), (5, .int (zI ((ge_nx n k : Nat) : Int)))] [] L f := by
    intro o1 o2 o3 o4
    have j7 : ∀ b6 b7 : Int, zB ((0 < ge_crI (sP (R 0) (R 1)) i (ge_nx n i) k ↔ 0 < ge_crI (sP (R 0) (R 1)) i (ge_nx n i) (ge_nx n k)) ∨ (0 < ge_crI (sP (R 0) (R 1)) k (ge_nx n k) i ↔ 0 < ge_crI (sP (R 0) (R 1)) k (ge_nx n k) (ge_nx n i))) b6 → zB (ge_crI (sP (R 0) (R 1)) i (ge_nx n i) k = 0 ∨ ge_crI (sP (R 0) (R 1)) i (ge_nx n i) (ge_nx n k) = 0 ∨ ge_crI (sP (R 0) (R 1)) k (ge_nx n k) i = 0 ∨ ge_crI (sP (R 0) (R 1)) k (ge_nx n k) (ge_nx n i) = 0) b7 → zG p l e (zR0 2 50) s m args below meth c D A 8 0 0 (MQ below (zE D A (zA L f (fun r => zB (ge_mtM n (sP (R 0) (R 1)) i k) r))) args s (zR0 2 50).cells (zR0 2 50).slots A) 192 [(0, .ref o), (1, .int (zI (i : Int))), (2, .int (zI (k : Int))), (3, .int (zI (n : Int))), (4, .int (zI ((ge_nx n i : Nat) : Int))), (5, .int (zI ((ge_nx n k : Nat) : Int))), (6, .int (zI b6))] [.int (zI b7)] L f := by
      intro b6 b7 h6 h7
      have z6 := zB_01 h6
      have z7 := zB_01 h7
      refine k_istore Xc d_M_meet_192 (by decide) (n := 194) rfl ?_
      refine k_iload Xc d_M_meet_194 rfl (n := 196) rfl ?_
      refine k_if_ne Xc d_M_meet_196 (t := 208) (n := 199) rfl rfl (by omega) (fun h_196 => ?_) (fun h_196 => ?_)
      · refine k_iconst Xc d_M_meet_208 (n := 209) rfl ?_
        refine k_iret Xc d_M_meet_209 hr rfl (Nat.le_refl _) (Nat.le_refl _) ⟨_, rfl, ?_, rfl, rfl⟩
        exact Or.inr ⟨fun q => by
          rcases q with q | q
          · rcases q with q | q | q | q <;> contradiction
          · first | exact q.1 (zB_t h6 (by omega)) | exact q.2 (zB_t h7 (by omega)), rfl⟩
      · refine k_iload Xc d_M_meet_199 rfl (n := 201) rfl ?_
        refine k_if_ne Xc d_M_meet_201 (t := 208) (n := 204) rfl rfl (by omega) (fun h_201 => ?_) (fun h_201 => ?_)
        · refine k_iconst Xc d_M_meet_208 (n := 209) rfl ?_
          refine k_iret Xc d_M_meet_209 hr rfl (Nat.le_refl _) (Nat.le_refl _) ⟨_, rfl, ?_, rfl, rfl⟩
          exact Or.inr ⟨fun q => by
            rcases q with q | q
            · rcases q with q | q | q | q <;> contradiction
            · first | exact q.1 (zB_t h6 (by omega)) | exact q.2 (zB_t h7 (by omega)), rfl⟩
        · refine k_iconst Xc d_M_meet_204 (n := 205) rfl ?_
          refine k_goto Xc d_M_meet_205 (t := 209) rfl ?_
          refine k_iret Xc d_M_meet_209 hr rfl (Nat.le_refl _) (Nat.le_refl _) ⟨_, rfl, ?_, rfl, rfl⟩
          exact Or.inl ⟨Or.inr ⟨zB_f h6 (by omega), zB_f h7 (by omega)⟩, rfl⟩
    have j6 : ∀ b6 : Int, zB ((0 < ge_crI (sP (R 0) (R 1)) i (ge_nx n i) k ↔ 0 < ge_crI (sP (R 0) (R 1)) i (ge_nx n i) (ge_nx n k)) ∨ (0 < ge_crI (sP (R 0) (R 1)) k (ge_nx n k) i ↔ 0 < ge_crI (sP (R 0) (R 1)) k (ge_nx n k) (ge_nx n i))) b6 → zG p l e (zR0 2 50) s m args below meth c D A 8 0 0 (MQ below (zE D A (zA L f (fun r => zB (ge_mtM n (sP (R 0) (R 1)) i k) r))) args s (zR0 2 50).cells (zR0 2 50).slots A) 139 [(0, .ref o), (1, .int (zI (i : Int))), (2, .int (zI (k : Int))), (3, .int (zI (n : Int))), (4, .int (zI ((ge_nx n i : Nat) : Int))), (5, .int (zI ((ge_nx n k : Nat) : Int)))] [.int (zI b6)] L f := by
      intro b6 h6
      refine k_istore Xc d_M_meet_139 (by decide) (n := 141) rfl ?_
      refine k_aload_n Xc d_M_meet_141 rfl rfl (n := 142) rfl ?_
      refine k_iload_n Xc d_M_meet_142 rfl rfl (n := 143) rfl ?_
      refine k_iload Xc d_M_meet_143 rfl (n := 145) rfl ?_
      refine k_iload_n Xc d_M_meet_145 rfl rfl (n := 146) rfl ?_
      refine k_qV (na := 3) Xc (m_M_side l D G hM _ _ _ (by omega) (by omega) (by omega)) hM.1 hM.2.2.1 rfl wd_668 wd_665 wd_667 ws_12 wd_6 (by decide +kernel) ⟨by decide, by decide⟩ rfl rfl (Nat.le_of_ble_eq_true rfl) d_M_meet_146 (n := 149) rfl ⟨Nat.zero_le _, Nat.zero_le _⟩ (fun r_146 e_146 => ?_)
      subst e_146
      refine k_if_eq Xc d_M_meet_149 (t := 187) (n := 152) rfl rfl (by omega) (fun h_149 => ?_) (fun h_149 => ?_)
      · refine k_iconst Xc d_M_meet_187 (n := 188) rfl ?_
        refine k_goto Xc d_M_meet_188 (t := 192) rfl ?_
        exact k_loc (j7 b6 1 h6 (Or.inl ⟨by omega, rfl⟩)) rfl
      · refine k_aload_n Xc d_M_meet_152 rfl rfl (n := 153) rfl ?_
        refine k_iload_n Xc d_M_meet_153 rfl rfl (n := 154) rfl ?_
        refine k_iload Xc d_M_meet_154 rfl (n := 156) rfl ?_
        refine k_iload Xc d_M_meet_156 rfl (n := 158) rfl ?_
        refine k_qV (na := 3) Xc (m_M_side l D G hM _ _ _ (by omega) (by omega) (by omega)) hM.1 hM.2.2.1 rfl wd_668 wd_665 wd_667 ws_12 wd_6 (by decide +kernel) ⟨by decide, by decide⟩ rfl rfl (Nat.le_of_ble_eq_true rfl) d_M_meet_158 (n := 161) rfl ⟨Nat.zero_le _, Nat.zero_le _⟩ (fun r_158 e_158 => ?_)
        subst e_158
        refine k_if_eq Xc d_M_meet_161 (t := 187) (n := 164) rfl rfl (by omega) (fun h_161 => ?_) (fun h_161 => ?_)
        · refine k_iconst Xc d_M_meet_187 (n := 188) rfl ?_
          refine k_goto Xc d_M_meet_188 (t := 192) rfl ?_
          exact k_loc (j7 b6 1 h6 (Or.inl ⟨by omega, rfl⟩)) rfl
        · refine k_aload_n Xc d_M_meet_164 rfl rfl (n := 165) rfl ?_
          refine k_iload_n Xc d_M_meet_165 rfl rfl (n := 166) rfl ?_
          refine k_iload Xc d_M_meet_166 rfl (n := 168) rfl ?_
          refine k_iload_n Xc d_M_meet_168 rfl rfl (n := 169) rfl ?_
          refine k_qV (na := 3) Xc (m_M_side l D G hM _ _ _ (by omega) (by omega) (by omega)) hM.1 hM.2.2.1 rfl wd_668 wd_665 wd_667 ws_12 wd_6 (by decide +kernel) ⟨by decide, by decide⟩ rfl rfl (Nat.le_of_ble_eq_true rfl) d_M_meet_169 (n := 172) rfl ⟨Nat.zero_le _, Nat.zero_le _⟩ (fun r_169 e_169 => ?_)
          subst e_169
          refine k_if_eq Xc d_M_meet_172 (t := 187) (n := 175) rfl rfl (by omega) (fun h_172 => ?_) (fun h_172 => ?_)
          · refine k_iconst Xc d_M_meet_187 (n := 188) rfl ?_
            refine k_goto Xc d_M_meet_188 (t := 192) rfl ?_
            exact k_loc (j7 b6 1 h6 (Or.inl ⟨by omega, rfl⟩)) rfl
          · refine k_aload_n Xc d_M_meet_175 rfl rfl (n := 176) rfl ?_
            refine k_iload_n Xc d_M_meet_176 rfl rfl (n := 177) rfl ?_
            refine k_iload Xc d_M_meet_177 rfl (n := 179) rfl ?_
            refine k_iload Xc d_M_meet_179 rfl (n := 181) rfl ?_
            refine k_qV (na := 3) Xc (m_M_side l D G hM _ _ _ (by omega) (by omega) (by omega)) hM.1 hM.2.2.1 rfl wd_668 wd_665 wd_667 ws_12 wd_6 (by decide +kernel) ⟨by decide, by decide⟩ rfl rfl (Nat.le_of_ble_eq_true rfl) d_M_meet_181 (n := 184) rfl ⟨Nat.zero_le _, Nat.zero_le _⟩ (fun r_181 e_181 => ?_)
            subst e_181
            refine k_if_ne Xc d_M_meet_184 (t := 191) (n := 187) rfl rfl (by omega) (fun h_184 => ?_) (fun h_184 => ?_)
            · refine k_iconst Xc d_M_meet_191 (n := 192) rfl ?_
              exact k_loc (j7 b6 0 h6 (Or.inr ⟨by omega, rfl⟩)) rfl
            · refine k_iconst Xc d_M_meet_187 (n := 188) rfl ?_
              refine k_goto Xc d_M_meet_188 (t := 192) rfl ?_
              exact k_loc (j7 b6 1 h6 (Or.inl ⟨by omega, rfl⟩)) rfl
    refine k_aload_n Xc d_M_meet_62 rfl rfl (n := 63) rfl ?_
    refine k_iload_n Xc d_M_meet_63 rfl rfl (n := 64) rfl ?_
    refine k_iload Xc d_M_meet_64 rfl (n := 66) rfl ?_
    refine k_iload_n Xc d_M_meet_66 rfl rfl (n := 67) rfl ?_
    refine k_qV (na := 3) Xc (m_M_side l D G hM _ _ _ (by omega) (by omega) (by omega)) hM.1 hM.2.2.1 rfl wd_668 wd_665 wd_667 ws_12 wd_6 (by decide +kernel) ⟨by decide, by decide⟩ rfl rfl (Nat.le_of_ble_eq_true rfl) d_M_meet_67 (n := 70) rfl ⟨Nat.zero_le _, Nat.zero_le _⟩ (fun r_67 e_67 => ?_)
    subst e_67
    refine k_if_le Xc d_M_meet_70 (t := 77) (n := 73) rfl rfl (by omega) (fun h_70 => ?_) (fun h_70 => ?_)
    · refine k_iconst Xc d_M_meet_77 (n := 78) rfl ?_
      refine k_aload_n Xc d_M_meet_78 rfl rfl (n := 79) rfl ?_
      refine k_iload_n Xc d_M_meet_79 rfl rfl (n := 80) rfl ?_
      refine k_iload Xc d_M_meet_80 rfl (n := 82) rfl ?_
      refine k_iload Xc d_M_meet_82 rfl (n := 84) rfl ?_
      refine k_qV (na := 3) Xc (m_M_side l D G hM _ _ _ (by omega) (by omega) (by omega)) hM.1 hM.2.2.1 rfl wd_668 wd_665 wd_667 ws_12 wd_6 (by decide +kernel) ⟨by decide, by decide⟩ rfl rfl (Nat.le_of_ble_eq_true rfl) d_M_meet_84 (n := 87) rfl ⟨Nat.zero_le _, Nat.zero_le _⟩ (fun r_84 e_84 => ?_)
      subst e_84
      refine k_if_le Xc d_M_meet_87 (t := 94) (n := 90) rfl rfl (by omega) (fun h_87 => ?_) (fun h_87 => ?_)
      · refine k_iconst Xc d_M_meet_94 (n := 95) rfl ?_
        refine k_icmp_eq Xc d_M_meet_95 (t := 134) (n := 98) rfl rfl (by omega) (by omega) (fun _ => ?_) (fun h_95 => absurd h_95 (by omega))
        refine k_iconst Xc d_M_meet_134 (n := 135) rfl ?_
        refine k_goto Xc d_M_meet_135 (t := 139) rfl ?_
        exact k_loc (j6 1 (Or.inl ⟨by omega, rfl⟩)) rfl
      · refine k_iconst Xc d_M_meet_90 (n := 91) rfl ?_
        refine k_goto Xc d_M_meet_91 (t := 95) rfl ?_
        refine k_icmp_eq Xc d_M_meet_95 (t := 134) (n := 98) rfl rfl (by omega) (by omega) (fun h_95 => absurd h_95 (by omega)) (fun _ => ?_)
        refine k_aload_n Xc d_M_meet_98 rfl rfl (n := 99) rfl ?_
        refine k_iload_n Xc d_M_meet_99 rfl rfl (n := 100) rfl ?_
        refine k_iload Xc d_M_meet_100 rfl (n := 102) rfl ?_
        refine k_iload_n Xc d_M_meet_102 rfl rfl (n := 103) rfl ?_
        refine k_qV (na := 3) Xc (m_M_side l D G hM _ _ _ (by omega) (by omega) (by omega)) hM.1 hM.2.2.1 rfl wd_668 wd_665 wd_667 ws_12 wd_6 (by decide +kernel) ⟨by decide, by decide⟩ rfl rfl (Nat.le_of_ble_eq_true rfl) d_M_meet_103 (n := 106) rfl ⟨Nat.zero_le _, Nat.zero_le _⟩ (fun r_103 e_103 => ?_)
        subst e_103
        refine k_if_le Xc d_M_meet_106 (t := 113) (n := 109) rfl rfl (by omega) (fun h_106 => ?_) (fun h_106 => ?_)
        · refine k_iconst Xc d_M_meet_113 (n := 114) rfl ?_
          refine k_aload_n Xc d_M_meet_114 rfl rfl (n := 115) rfl ?_
          refine k_iload_n Xc d_M_meet_115 rfl rfl (n := 116) rfl ?_
          refine k_iload Xc d_M_meet_116 rfl (n := 118) rfl ?_
          refine k_iload Xc d_M_meet_118 rfl (n := 120) rfl ?_
          refine k_qV (na := 3) Xc (m_M_side l D G hM _ _ _ (by omega) (by omega) (by omega)) hM.1 hM.2.2.1 rfl wd_668 wd_665 wd_667 ws_12 wd_6 (by decide +kernel) ⟨by decide, by decide⟩ rfl rfl (Nat.le_of_ble_eq_true rfl) d_M_meet_120 (n := 123) rfl ⟨Nat.zero_le _, Nat.zero_le _⟩ (fun r_120 e_120 => ?_)
          subst e_120
          refine k_if_le Xc d_M_meet_123 (t := 130) (n := 126) rfl rfl (by omega) (fun h_123 => ?_) (fun h_123 => ?_)
          · refine k_iconst Xc d_M_meet_130 (n := 131) rfl ?_
            refine k_icmp_ne Xc d_M_meet_131 (t := 138) (n := 134) rfl rfl (by omega) (by omega) (fun h_131 => absurd h_131 (by omega)) (fun _ => ?_)
            refine k_iconst Xc d_M_meet_134 (n := 135) rfl ?_
            refine k_goto Xc d_M_meet_135 (t := 139) rfl ?_
            exact k_loc (j6 1 (Or.inl ⟨by omega, rfl⟩)) rfl
          · refine k_iconst Xc d_M_meet_126 (n := 127) rfl ?_
            refine k_goto Xc d_M_meet_127 (t := 131) rfl ?_
            refine k_icmp_ne Xc d_M_meet_131 (t := 138) (n := 134) rfl rfl (by omega) (by omega) (fun _ => ?_) (fun h_131 => absurd h_131 (by omega))
            refine k_iconst Xc d_M_meet_138 (n := 139) rfl ?_
            exact k_loc (j6 0 (Or.inr ⟨by omega, rfl⟩)) rfl
        · refine k_iconst Xc d_M_meet_109 (n := 110) rfl ?_
          refine k_goto Xc d_M_meet_110 (t := 114) rfl ?_
          refine k_aload_n Xc d_M_meet_114 rfl rfl (n := 115) rfl ?_
          refine k_iload_n Xc d_M_meet_115 rfl rfl (n := 116) rfl ?_
          refine k_iload Xc d_M_meet_116 rfl (n := 118) rfl ?_
          refine k_iload Xc d_M_meet_118 rfl (n := 120) rfl ?_
          refine k_qV (na := 3) Xc (m_M_side l D G hM _ _ _ (by omega) (by omega) (by omega)) hM.1 hM.2.2.1 rfl wd_668 wd_665 wd_667 ws_12 wd_6 (by decide +kernel) ⟨by decide, by decide⟩ rfl rfl (Nat.le_of_ble_eq_true rfl) d_M_meet_120 (n := 123) rfl ⟨Nat.zero_le _, Nat.zero_le _⟩ (fun r_120 e_120 => ?_)
          subst e_120
          refine k_if_le Xc d_M_meet_123 (t := 130) (n := 126) rfl rfl (by omega) (fun h_123 => ?_) (fun h_123 => ?_)
          · refine k_iconst Xc d_M_meet_130 (n := 131) rfl ?_
            refine k_icmp_ne Xc d_M_meet_131 (t := 138) (n := 134) rfl rfl (by omega) (by omega) (fun _ => ?_) (fun h_131 => absurd h_131 (by omega))
            refine k_iconst Xc d_M_meet_138 (n := 139) rfl ?_
            exact k_loc (j6 0 (Or.inr ⟨by omega, rfl⟩)) rfl
          · refine k_iconst Xc d_M_meet_126 (n := 127) rfl ?_
            refine k_goto Xc d_M_meet_127 (t := 131) rfl ?_
            refine k_icmp_ne Xc d_M_meet_131 (t := 138) (n := 134) rfl rfl (by omega) (by omega) (fun h_131 => absurd h_131 (by omega)) (fun _ => ?_)
            refine k_iconst Xc d_M_meet_134 (n := 135) rfl ?_
            refine k_goto Xc d_M_meet_135 (t := 139) rfl ?_
            exact k_loc (j6 1 (Or.inl ⟨by omega, rfl⟩)) rfl
    · refine k_iconst Xc d_M_meet_73 (n := 74) rfl ?_
      refine k_goto Xc d_M_meet_74 (t := 78) rfl ?_
      refine k_aload_n Xc d_M_meet_78 rfl rfl (n := 79) rfl ?_
      refine k_iload_n Xc d_M_meet_79 rfl rfl (n := 80) rfl ?_
      refine k_iload Xc d_M_meet_80 rfl (n := 82) rfl ?_
      refine k_iload Xc d_M_meet_82 rfl (n := 84) rfl ?_
      refine k_qV (na := 3) Xc (m_M_side l D G hM _ _ _ (by omega) (by omega) (by omega)) hM.1 hM.2.2.1 rfl wd_668 wd_665 wd_667 ws_12 wd_6 (by decide +kernel) ⟨by decide, by decide⟩ rfl rfl (Nat.le_of_ble_eq_true rfl) d_M_meet_84 (n := 87) rfl ⟨Nat.zero_le _, Nat.zero_le _⟩ (fun r_84 e_84 => ?_)
      subst e_84
      refine k_if_le Xc d_M_meet_87 (t := 94) (n := 90) rfl rfl (by omega) (fun h_87 => ?_) (fun h_87 => ?_)
      · refine k_iconst Xc d_M_meet_94 (n := 95) rfl ?_
        refine k_icmp_eq Xc d_M_meet_95 (t := 134) (n := 98) rfl rfl (by omega) (by omega) (fun h_95 => absurd h_95 (by omega)) (fun _ => ?_)
        refine k_aload_n Xc d_M_meet_98 rfl rfl (n := 99) rfl ?_
        refine k_iload_n Xc d_M_meet_99 rfl rfl (n := 100) rfl ?_
        refine k_iload Xc d_M_meet_100 rfl (n := 102) rfl ?_
        refine k_iload_n Xc d_M_meet_102 rfl rfl (n := 103) rfl ?_
        refine k_qV (na := 3) Xc (m_M_side l D G hM _ _ _ (by omega) (by omega) (by omega)) hM.1 hM.2.2.1 rfl wd_668 wd_665 wd_667 ws_12 wd_6 (by decide +kernel) ⟨by decide, by decide⟩ rfl rfl (Nat.le_of_ble_eq_true rfl) d_M_meet_103 (n := 106) rfl ⟨Nat.zero_le _, Nat.zero_le _⟩ (fun r_103 e_103 => ?_)
        subst e_103
        refine k_if_le Xc d_M_meet_106 (t := 113) (n := 109) rfl rfl (by omega) (fun h_106 => ?_) (fun h_106 => ?_)
        · refine k_iconst Xc d_M_meet_113 (n := 114) rfl ?_
          refine k_aload_n Xc d_M_meet_114 rfl rfl (n := 115) rfl ?_
          refine k_iload_n Xc d_M_meet_115 rfl rfl (n := 116) rfl ?_
          refine k_iload Xc d_M_meet_116 rfl (n := 118) rfl ?_
          refine k_iload Xc d_M_meet_118 rfl (n := 120) rfl ?_
          refine k_qV (na := 3) Xc (m_M_side l D G hM _ _ _ (by omega) (by omega) (by omega)) hM.1 hM.2.2.1 rfl wd_668 wd_665 wd_667 ws_12 wd_6 (by decide +kernel) ⟨by decide, by decide⟩ rfl rfl (Nat.le_of_ble_eq_true rfl) d_M_meet_120 (n := 123) rfl ⟨Nat.zero_le _, Nat.zero_le _⟩ (fun r_120 e_120 => ?_)
          subst e_120
          refine k_if_le Xc d_M_meet_123 (t := 130) (n := 126) rfl rfl (by omega) (fun h_123 => ?_) (fun h_123 => ?_)
          · refine k_iconst Xc d_M_meet_130 (n := 131) rfl ?_
            refine k_icmp_ne Xc d_M_meet_131 (t := 138) (n := 134) rfl rfl (by omega) (by omega) (fun h_131 => absurd h_131 (by omega)) (fun _ => ?_)
            refine k_iconst Xc d_M_meet_134 (n := 135) rfl ?_
            refine k_goto Xc d_M_meet_135 (t := 139) rfl ?_
            exact k_loc (j6 1 (Or.inl ⟨by omega, rfl⟩)) rfl
          · refine k_iconst Xc d_M_meet_126 (n := 127) rfl ?_
            refine k_goto Xc d_M_meet_127 (t := 131) rfl ?_
            refine k_icmp_ne Xc d_M_meet_131 (t := 138) (n := 134) rfl rfl (by omega) (by omega) (fun _ => ?_) (fun h_131 => absurd h_131 (by omega))
            refine k_iconst Xc d_M_meet_138 (n := 139) rfl ?_
            exact k_loc (j6 0 (Or.inr ⟨by omega, rfl⟩)) rfl
        · refine k_iconst Xc d_M_meet_109 (n := 110) rfl ?_
          refine k_goto Xc d_M_meet_110 (t := 114) rfl ?_
          refine k_aload_n Xc d_M_meet_114 rfl rfl (n := 115) rfl ?_
          refine k_iload_n Xc d_M_meet_115 rfl rfl (n := 116) rfl ?_
          refine k_iload Xc d_M_meet_116 rfl (n := 118) rfl ?_
          refine k_iload Xc d_M_meet_118 rfl (n := 120) rfl ?_
          refine k_qV (na := 3) Xc (m_M_side l D G hM _ _ _ (by omega) (by omega) (by omega)) hM.1 hM.2.2.1 rfl wd_668 wd_665 wd_667 ws_12 wd_6 (by decide +kernel) ⟨by decide, by decide⟩ rfl rfl (Nat.le_of_ble_eq_true rfl) d_M_meet_120 (n := 123) rfl ⟨Nat.zero_le _, Nat.zero_le _⟩ (fun r_120 e_120 => ?_)
          subst e_120
          refine k_if_le Xc d_M_meet_123 (t := 130) (n := 126) rfl rfl (by omega) (fun h_123 => ?_) (fun h_123 => ?_)
          · refine k_iconst Xc d_M_meet_130 (n := 131) rfl ?_
            refine k_icmp_ne Xc d_M_meet_131 (t := 138) (n := 134) rfl rfl (by omega) (by omega) (fun _ => ?_) (fun h_131 => absurd h_131 (by omega))
            refine k_iconst Xc d_M_meet_138 (n := 139) rfl ?_
            exact k_loc (j6 0 (Or.inr ⟨by omega, rfl⟩)) rfl
          · refine k_iconst Xc d_M_meet_126 (n := 127) rfl ?_
            refine k_goto Xc d_M_meet_127 (t := 131) rfl ?_
            refine k_icmp_ne Xc d_M_meet_131 (t := 138) (n := 134) rfl rfl (by omega) (by omega) (fun h_131 => absurd h_131 (by omega)) (fun _ => ?_)
            refine k_iconst Xc d_M_meet_134 (n := 135) rfl ?_
            refine k_goto Xc d_M_meet_135 (t := 139) rfl ?_
            exact k_loc (j6 1 (Or.inl ⟨by omega, rfl⟩)) rfl
      · refine k_iconst Xc d_M_meet_90 (n := 91) rfl ?_
        refine k_goto Xc d_M_meet_91 (t := 95) rfl ?_
        refine k_icmp_eq Xc d_M_meet_95 (t := 134) (n := 98) rfl rfl (by omega) (by omega) (fun _ => ?_) (fun h_95 => absurd h_95 (by omega))
        refine k_iconst Xc d_M_meet_134 (n := 135) rfl ?_
        refine k_goto Xc d_M_meet_135 (t := 139) rfl ?_
        exact k_loc (j6 1 (Or.inl ⟨by omega, rfl⟩)) rfl
  refine k_iload_n Xc d_M_meet_0 rfl rfl (n := 1) rfl ?_
  refine k_iconst Xc d_M_meet_1 (n := 2) rfl ?_
  refine k_iadd Xc d_M_meet_2 (n := 3) rfl ?_
  refine k_iload_n Xc d_M_meet_3 rfl rfl (n := 4) rfl ?_
  refine k_irem Xc d_M_meet_4 (n := 5) rfl (by omega) (by omega) (by omega) (by omega) ?_
  refine k_val (md_nx (n := n) (i := i) (by omega)) ?_
  refine k_istore Xc d_M_meet_5 (by decide) (n := 7) rfl ?_
  refine k_iload_n Xc d_M_meet_7 rfl rfl (n := 8) rfl ?_
  refine k_iconst Xc d_M_meet_8 (n := 9) rfl ?_
  refine k_iadd Xc d_M_meet_9 (n := 10) rfl ?_
  refine k_iload_n Xc d_M_meet_10 rfl rfl (n := 11) rfl ?_
  refine k_irem Xc d_M_meet_11 (n := 12) rfl (by omega) (by omega) (by omega) (by omega) ?_
  refine k_val (md_nx (n := n) (i := k) (by omega)) ?_
  refine k_istore Xc d_M_meet_12 (by decide) (n := 14) rfl ?_
  refine k_aload_n Xc d_M_meet_14 rfl rfl (n := 15) rfl ?_
  refine k_iload_n Xc d_M_meet_15 rfl rfl (n := 16) rfl ?_
  refine k_iload Xc d_M_meet_16 rfl (n := 18) rfl ?_
  refine k_iload_n Xc d_M_meet_18 rfl rfl (n := 19) rfl ?_
  refine k_qV (na := 3) Xc (m_M_isOn l D G hM hW _ _ _ (by omega) (by omega) (by omega)) hM.1 hM.2.2.1 rfl wd_664 wd_661 wd_663 ws_11 wd_6 (by decide +kernel) ⟨by decide, by decide⟩ rfl rfl (Nat.le_of_ble_eq_true rfl) d_M_meet_19 (n := 22) rfl ⟨Nat.zero_le _, Nat.zero_le _⟩ (fun r_19 e_19 => ?_)
  rcases e_19 with ⟨e_19, rfl⟩ | ⟨e_19, rfl⟩
  · refine k_if_ne Xc d_M_meet_22 (t := 60) (n := 25) rfl rfl (by omega) (fun _ => ?_) (fun h_22 => absurd h_22 (by omega))
    refine k_iconst Xc d_M_meet_60 (n := 61) rfl ?_
    refine k_iret Xc d_M_meet_61 hr rfl (Nat.le_refl _) (Nat.le_refl _) ⟨_, rfl, ?_, rfl, rfl⟩
    exact Or.inl ⟨Or.inl (by first | exact Or.inl e_19 | exact Or.inr (Or.inl e_31) | exact Or.inr (Or.inr (Or.inl e_42)) | exact Or.inr (Or.inr (Or.inr e_54))), rfl⟩
  · refine k_if_ne Xc d_M_meet_22 (t := 60) (n := 25) rfl rfl (by omega) (fun h_22 => absurd h_22 (by omega)) (fun _ => ?_)
    refine k_aload_n Xc d_M_meet_25 rfl rfl (n := 26) rfl ?_
    refine k_iload_n Xc d_M_meet_26 rfl rfl (n := 27) rfl ?_
    refine k_iload Xc d_M_meet_27 rfl (n := 29) rfl ?_
    refine k_iload Xc d_M_meet_29 rfl (n := 31) rfl ?_
    refine k_qV (na := 3) Xc (m_M_isOn l D G hM hW _ _ _ (by omega) (by omega) (by omega)) hM.1 hM.2.2.1 rfl wd_664 wd_661 wd_663 ws_11 wd_6 (by decide +kernel) ⟨by decide, by decide⟩ rfl rfl (Nat.le_of_ble_eq_true rfl) d_M_meet_31 (n := 34) rfl ⟨Nat.zero_le _, Nat.zero_le _⟩ (fun r_31 e_31 => ?_)
    rcases e_31 with ⟨e_31, rfl⟩ | ⟨e_31, rfl⟩
    · refine k_if_ne Xc d_M_meet_34 (t := 60) (n := 37) rfl rfl (by omega) (fun _ => ?_) (fun h_34 => absurd h_34 (by omega))
      refine k_iconst Xc d_M_meet_60 (n := 61) rfl ?_
      refine k_iret Xc d_M_meet_61 hr rfl (Nat.le_refl _) (Nat.le_refl _) ⟨_, rfl, ?_, rfl, rfl⟩
      exact Or.inl ⟨Or.inl (by first | exact Or.inl e_19 | exact Or.inr (Or.inl e_31) | exact Or.inr (Or.inr (Or.inl e_42)) | exact Or.inr (Or.inr (Or.inr e_54))), rfl⟩
    · refine k_if_ne Xc d_M_meet_34 (t := 60) (n := 37) rfl rfl (by omega) (fun h_34 => absurd h_34 (by omega)) (fun _ => ?_)
      refine k_aload_n Xc d_M_meet_37 rfl rfl (n := 38) rfl ?_
      refine k_iload_n Xc d_M_meet_38 rfl rfl (n := 39) rfl ?_
      refine k_iload Xc d_M_meet_39 rfl (n := 41) rfl ?_
      refine k_iload_n Xc d_M_meet_41 rfl rfl (n := 42) rfl ?_
      refine k_qV (na := 3) Xc (m_M_isOn l D G hM hW _ _ _ (by omega) (by omega) (by omega)) hM.1 hM.2.2.1 rfl wd_664 wd_661 wd_663 ws_11 wd_6 (by decide +kernel) ⟨by decide, by decide⟩ rfl rfl (Nat.le_of_ble_eq_true rfl) d_M_meet_42 (n := 45) rfl ⟨Nat.zero_le _, Nat.zero_le _⟩ (fun r_42 e_42 => ?_)
      rcases e_42 with ⟨e_42, rfl⟩ | ⟨e_42, rfl⟩
      · refine k_if_ne Xc d_M_meet_45 (t := 60) (n := 48) rfl rfl (by omega) (fun _ => ?_) (fun h_45 => absurd h_45 (by omega))
        refine k_iconst Xc d_M_meet_60 (n := 61) rfl ?_
        refine k_iret Xc d_M_meet_61 hr rfl (Nat.le_refl _) (Nat.le_refl _) ⟨_, rfl, ?_, rfl, rfl⟩
        exact Or.inl ⟨Or.inl (by first | exact Or.inl e_19 | exact Or.inr (Or.inl e_31) | exact Or.inr (Or.inr (Or.inl e_42)) | exact Or.inr (Or.inr (Or.inr e_54))), rfl⟩
      · refine k_if_ne Xc d_M_meet_45 (t := 60) (n := 48) rfl rfl (by omega) (fun h_45 => absurd h_45 (by omega)) (fun _ => ?_)
        refine k_aload_n Xc d_M_meet_48 rfl rfl (n := 49) rfl ?_
        refine k_iload_n Xc d_M_meet_49 rfl rfl (n := 50) rfl ?_
        refine k_iload Xc d_M_meet_50 rfl (n := 52) rfl ?_
        refine k_iload Xc d_M_meet_52 rfl (n := 54) rfl ?_
        refine k_qV (na := 3) Xc (m_M_isOn l D G hM hW _ _ _ (by omega) (by omega) (by omega)) hM.1 hM.2.2.1 rfl wd_664 wd_661 wd_663 ws_11 wd_6 (by decide +kernel) ⟨by decide, by decide⟩ rfl rfl (Nat.le_of_ble_eq_true rfl) d_M_meet_54 (n := 57) rfl ⟨Nat.zero_le _, Nat.zero_le _⟩ (fun r_54 e_54 => ?_)
        rcases e_54 with ⟨e_54, rfl⟩ | ⟨e_54, rfl⟩
        · refine k_if_eq Xc d_M_meet_57 (t := 62) (n := 60) rfl rfl (by omega) (fun h_57 => absurd h_57 (by omega)) (fun _ => ?_)
          refine k_iconst Xc d_M_meet_60 (n := 61) rfl ?_
          refine k_iret Xc d_M_meet_61 hr rfl (Nat.le_refl _) (Nat.le_refl _) ⟨_, rfl, ?_, rfl, rfl⟩
          exact Or.inl ⟨Or.inl (by first | exact Or.inl e_19 | exact Or.inr (Or.inl e_31) | exact Or.inr (Or.inr (Or.inl e_42)) | exact Or.inr (Or.inr (Or.inr e_54))), rfl⟩
        · refine k_if_eq Xc d_M_meet_57 (t := 62) (n := 60) rfl rfl (by omega) (fun _ => ?_) (fun h_57 => absurd h_57 (by omega))
          exact k_loc (fin e_19 e_31 e_42 e_54) rfl
