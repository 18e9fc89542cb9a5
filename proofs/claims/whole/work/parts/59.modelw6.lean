-- MODEL: fits, best, lay, put, free
theorem mP_hp {R : Nat → Int → Int} (h : mP R) : ∀ j : Int, 0 ≤ j → j < 12 → -1 ≤ R 13 j ∧ R 13 j ≤ 5 := fun j h0 h1 => by
  obtain ⟨k, rfl⟩ : ∃ k : Nat, j = (k : Int) := ⟨j.toNat, by omega⟩
  have := h k (by omega)
  exact ⟨this.1, this.2.1⟩
theorem first_bd {R : Nat → Int → Int} {h z9 kd a : Nat} {r : Int} (hr : ge_first (fF R h z9 kd a) r) : -1 ≤ r ∧ r ≤ 4062 := by
  rcases hr with ⟨e, -⟩ | ⟨y, x, t, ⟨q, -⟩, e, -⟩
  · omega
  · omega
theorem first_at {R : Nat → Int → Int} {h z9 kd a : Nat} {r : Int} (hr : ge_first (fF R h z9 kd a) r) (h0 : 0 ≤ r) : ∃ y x t : Nat, r = (x : Int) + 32 * (y : Int) + 1024 * (t : Int) ∧ x ≤ 30 ∧ y ≤ 30 ∧ t ≤ 3 := by
  rcases hr with ⟨e, -⟩ | ⟨y, x, t, ⟨q, -⟩, e, -⟩
  · omega
  · exact ⟨y.toNat, x.toNat, t.toNat, by omega, by omega, by omega, by omega⟩
theorem mcnt_full {K : Int → Int} : ∀ k : Nat, (∀ p : Nat, p < k → 0 ≤ K (p : Int)) → mcnt K k = (k : Int)
  | 0, _ => rfl
  | k + 1, h => by
    rw [mcnt_s, mcnt_full k (fun p hp => h p (by omega)), if_pos (h k (by omega))]; rfl
theorem mcnt_free {K : Int → Int} (h : mcnt K 12 ≠ 12) : ∃ p : Nat, p < 12 ∧ K (p : Int) < 0 := by
  apply Classical.byContradiction
  intro q
  exact h (mcnt_full 12 (fun p hp => by
    rcases Int.lt_or_le (K (p : Int)) 0 with z | z
    · exact absurd ⟨p, hp, z⟩ q
    · exact z))
theorem bits_x {r : Int} {x y t : Nat} (e : r = (x : Int) + 32 * (y : Int) + 1024 * (t : Int)) (hx : x ≤ 30) (hy : y ≤ 30) (ht : t ≤ 3) : zI r &&& zI 31 = zI (x : Int) := by
  have e2 : r = ((x + 32 * y + 1024 * t : Nat) : Int) := by omega
  rw [e2, zI_nat, pk_andN (m := zI 31) (by omega) 5 (by decide), zI_nat, show (x + 32 * y + 1024 * t) % 2 ^ 5 = x by omega]
theorem bits_y {r : Int} {x y t : Nat} (e : r = (x : Int) + 32 * (y : Int) + 1024 * (t : Int)) (hx : x ≤ 30) (hy : y ≤ 30) (ht : t ≤ 3) : (zI r >>> (zI 5 &&& 31)) &&& zI 31 = zI (y : Int) := by
  have e2 : r = ((x + 32 * y + 1024 * t : Nat) : Int) := by omega
  rw [e2, zI_nat, pk_shrN (by omega) _ 5 (by decide), pk_andN (m := zI 31) (by omega) 5 (by decide), zI_nat, show (x + 32 * y + 1024 * t) / 2 ^ 5 % 2 ^ 5 = y by omega]
theorem bits_t {r : Int} {x y t : Nat} (e : r = (x : Int) + 32 * (y : Int) + 1024 * (t : Int)) (hx : x ≤ 30) (hy : y ≤ 30) (ht : t ≤ 3) : (zI r >>> (zI 10 &&& 31)) = zI (t : Int) := by
  have e2 : r = ((x + 32 * y + 1024 * t : Nat) : Int) := by omega
  rw [e2, zI_nat, pk_shrN (by omega) _ 10 (by decide), zI_nat, show (x + 32 * y + 1024 * t) / 2 ^ 10 = t by omega]
theorem ar_bd {n : Nat} {X Y : Int → Int} (h : sB n X Y) : ∀ k : Nat, k ≤ n → -(20000 * (k : Int)) ≤ ge_ar n (sP X Y) k ∧ ge_ar n (sP X Y) k ≤ 20000 * (k : Int)
  | 0, _ => by show -(20000 * (0 : Int)) ≤ (0 : Int) ∧ (0 : Int) ≤ 20000 * (0 : Int); omega
  | k + 1, hk => by
    have a := ar_bd h k (by omega)
    have b := h.2 k (by omega)
    have c := h.2 (ge_nx n k) (nx_lt (by omega))
    have u := mul_bd (a := X (k : Int)) (b := Y ((ge_nx n k : Nat) : Int)) (A := 100) (B := 100) (by omega) (by omega) (by omega) (by omega)
    have v := mul_bd (a := X ((ge_nx n k : Nat) : Int)) (b := Y (k : Int)) (A := 100) (B := 100) (by omega) (by omega) (by omega) (by omega)
    rw [ge_ar_s]
    unfold sP at *
    dsimp only at *
    omega
/-- how many corners the part i has, none if there is none -/
def mPn (R : Nat → Int → Int) (i : Nat) : Nat := if R 13 (i : Int) < 0 then 0 else (R 10 (R 13 (i : Int))).toNat
def mPt (R : Nat → Int → Int) (i : Nat) : Nat → Int × Int := fun j => (R 17 (6 * (i : Int) + (j : Int)), R 18 (6 * (i : Int) + (j : Int)))
def zab (v : Int) : Int := if v < 0 then -v else v
/-- the free area behind the parts below i -/
def mFree (R : Nat → Int → Int) (h : Nat) : Nat → Int
  | 0 => zab (ge_ar h (sP (R 2) (R 3)) h)
  | i + 1 => mFree R h i - zab (ge_ar (mPn R i) (mPt R i) (mPn R i))
theorem mFree_s (R : Nat → Int → Int) (h i : Nat) : mFree R h (i + 1) = mFree R h i - zab (ge_ar (mPn R i) (mPt R i) (mPn R i)) := rfl
set_option maxRecDepth 100000 in
set_option maxHeartbeats 4000000 in
theorem m_M_fits (l : Launch) (D : va_G) (G : Nat → ClassId) {L : List Nat} {f : Nat → va_E} {o : Nat} {ra : Nat → Nat} {cd wt mn om : Int} {h z9 k9 : Nat} {R : Nat → Int → Int} (hM : zMo G L f o ra cd wt (h : Int) (z9 : Int) (k9 : Int) mn om R) (hI : mI R h z9 k9) (k x y t : Int) (hk : zO k) (hx : zO x) (hy : zO y) (ht : zO t) : zM l D G y_M_fits (.code y_M_fits c_M_fits 5 (some .boolean) :: BG) (zR0 4 98) [.ref o, .int (zI k), .int (zI x), .int (zI y), .int (zI t)] L f (fun v L1 f1 => L = L1 ∧ mFr f f1 o ra ∧ ((¬ ((0 ≤ k ∧ k < (k9 : Int)) ∧ (0 ≤ x ∧ x ≤ 30 ∧ 0 ≤ y ∧ y ≤ 30 ∧ 0 ≤ t ∧ t ≤ 3)) ∧ v = some (.int (zI 0)) ∧ zMo G L f1 o ra 1 wt (h : Int) (z9 : Int) (k9 : Int) mn om R) ∨ (((0 ≤ k ∧ k < (k9 : Int)) ∧ (0 ≤ x ∧ x ≤ 30 ∧ 0 ≤ y ∧ y ≤ 30 ∧ 0 ≤ t ∧ t ≤ 3)) ∧ ∃ (R1 : Nat → Int → Int) (mn1 om1 r : Int), (∀ k : Nat, k ≠ 19 → k ≠ 20 → k ≠ 21 → k ≠ 22 → R1 k = R k) ∧ zMo G L f1 o ra 0 wt (h : Int) (z9 : Int) (k9 : Int) mn1 om1 R1 ∧ v = some (.int (zI r)) ∧ zB (fFit R h z9 k.toNat (R 10 k).toNat t.toNat x y) r))) := by
  refine zM.of (by decide) (Nat.le_of_ble_eq_true rfl) rfl (fun p e s m args below meth c A Xc hr hnm => ?_)
  have h96 := hI.2.2.2.2.1
  have hp := mP_hp hI.2.2.2.2.2.2
  have mb := mcnt_bd (R 13) 12
  refine k_aload_n Xc d_M_fits_0 rfl rfl (n := 1) rfl ?_
  refine k_aload_n Xc d_M_fits_1 rfl rfl (n := 2) rfl ?_
  refine k_iload_n Xc d_M_fits_2 rfl rfl (n := 3) rfl ?_
  refine k_qV (na := 1) Xc (m_M_isKind l D G hM _ (by omega) (by omega)) hM.1 hM.2.2.1 rfl wd_703 wd_700 wd_702 ws_16 wd_6 (by decide +kernel) ⟨by decide, by decide⟩ rfl rfl (Nat.le_of_ble_eq_true rfl) d_M_fits_3 (n := 6) rfl ⟨Nat.zero_le _, Nat.zero_le _⟩ (fun r_3 e_3 => ?_)
  rcases e_3 with ⟨e_3, rfl⟩ | ⟨e_3, rfl⟩
  · refine k_if_eq Xc d_M_fits_6 (t := 24) (n := 9) rfl rfl (by omega) (fun h_6 => absurd h_6 (by omega)) (fun _ => ?_)
    refine k_aload_n Xc d_M_fits_9 rfl rfl (n := 10) rfl ?_
    refine k_iload_n Xc d_M_fits_10 rfl rfl (n := 11) rfl ?_
    refine k_iload_n Xc d_M_fits_11 rfl rfl (n := 12) rfl ?_
    refine k_iload Xc d_M_fits_12 rfl (n := 14) rfl ?_
    refine k_qV (na := 3) Xc (m_M_isPlace l D G hM _ _ _ (by omega) (by omega) (by omega)) hM.1 hM.2.2.1 rfl wd_707 wd_704 wd_706 ws_17 wd_6 (by decide +kernel) ⟨by decide, by decide⟩ rfl rfl (Nat.le_of_ble_eq_true rfl) d_M_fits_14 (n := 17) rfl ⟨Nat.zero_le _, Nat.zero_le _⟩ (fun r_14 e_14 => ?_)
    rcases e_14 with ⟨e_14, rfl⟩ | ⟨e_14, rfl⟩
    · refine k_if_eq Xc d_M_fits_17 (t := 24) (n := 20) rfl rfl (by omega) (fun h_17 => absurd h_17 (by omega)) (fun _ => ?_)
      refine k_iconst Xc d_M_fits_20 (n := 21) rfl ?_
      refine k_goto Xc d_M_fits_21 (t := 25) rfl ?_
      refine k_putM_code Xc hM wd_550 d_M_fits_25 (n := 28) rfl (fun f_25 hM_25 hF_25 => ?_)
      refine k_aload_n Xc d_M_fits_28 rfl rfl (n := 29) rfl ?_
      refine k_get Xc u_M rfl 0 (by decide) wd_550 rfl d_M_fits_29 (n := 32) rfl hM_25.1 hM_25.2.2.1 rfl ?_
      refine k_if_ne Xc d_M_fits_32 (t := 51) (n := 35) rfl rfl (by omega) (fun h_32 => absurd h_32 (by omega)) (fun _ => ?_)
      refine k_aload_n Xc d_M_fits_35 rfl rfl (n := 36) rfl ?_
      refine k_iload_n Xc d_M_fits_36 rfl rfl (n := 37) rfl ?_
      refine k_iload_n Xc d_M_fits_37 rfl rfl (n := 38) rfl ?_
      refine k_iload_n Xc d_M_fits_38 rfl rfl (n := 39) rfl ?_
      refine k_iload Xc d_M_fits_39 rfl (n := 41) rfl ?_
      obtain ⟨kd, rfl⟩ : ∃ kd : Nat, k = (kd : Int) := ⟨k.toNat, by omega⟩
      have kk0 := hI.2.2.2.2.2.1 kd (by omega)
      obtain ⟨a, h10⟩ : ∃ a : Nat, R 10 (kd : Int) = (a : Int) := ⟨(R 10 (kd : Int)).toNat, by omega⟩
      obtain ⟨t, rfl⟩ : ∃ t2 : Nat, t = (t2 : Int) := ⟨t.toNat, by omega⟩
      refine k_wV (na := 4) Xc (m_M_isFit l D G hM_25 hI kd a t (by omega) h10 (by omega) _ _ (by omega) (by omega)) hM_25.1 hM_25.2.2.1 rfl wd_711 wd_708 wd_710 ws_18 wd_6 (by decide +kernel) ⟨by decide, by decide⟩ rfl rfl (Nat.le_of_ble_eq_true rfl) d_M_fits_41 (n := 44) rfl ⟨Nat.zero_le _, Nat.zero_le _⟩ (fun v_41 L_41 f_41 e_41 => ?_)
      obtain ⟨rfl, hF_41, S_41, mn_41, om_41, r_41, hK_41, hG_41, rfl, hB_41⟩ := e_41
      have z_41 := zB_01 hB_41
      refine k_if_eq Xc d_M_fits_44 (t := 51) (n := 47) rfl rfl (by omega) (fun h_44 => ?_) (fun h_44 => ?_)
      · refine k_iconst Xc d_M_fits_51 (n := 52) rfl ?_
        refine k_iret Xc d_M_fits_52 hr rfl (Nat.le_refl _) (Nat.le_refl _) ?_
        exact ⟨rfl, (mFr_tr (mFr_tr mFr_rf hF_25) hF_41), Or.inr ⟨⟨by omega, by omega⟩, S_41, _, _, 0, hK_41, hG_41, rfl, by rw [h10]; exact Or.inr ⟨zB_f hB_41 (by omega), rfl⟩⟩⟩
      · refine k_iconst Xc d_M_fits_47 (n := 48) rfl ?_
        refine k_goto Xc d_M_fits_48 (t := 52) rfl ?_
        refine k_iret Xc d_M_fits_52 hr rfl (Nat.le_refl _) (Nat.le_refl _) ?_
        exact ⟨rfl, (mFr_tr (mFr_tr mFr_rf hF_25) hF_41), Or.inr ⟨⟨by omega, by omega⟩, S_41, _, _, 1, hK_41, hG_41, rfl, by rw [h10]; exact Or.inl ⟨zB_t hB_41 (by omega), rfl⟩⟩⟩
    · refine k_if_eq Xc d_M_fits_17 (t := 24) (n := 20) rfl rfl (by omega) (fun _ => ?_) (fun h_17 => absurd h_17 (by omega))
      refine k_iconst Xc d_M_fits_24 (n := 25) rfl ?_
      refine k_putM_code Xc hM wd_550 d_M_fits_25 (n := 28) rfl (fun f_25 hM_25 hF_25 => ?_)
      refine k_aload_n Xc d_M_fits_28 rfl rfl (n := 29) rfl ?_
      refine k_get Xc u_M rfl 0 (by decide) wd_550 rfl d_M_fits_29 (n := 32) rfl hM_25.1 hM_25.2.2.1 rfl ?_
      refine k_if_ne Xc d_M_fits_32 (t := 51) (n := 35) rfl rfl (by omega) (fun _ => ?_) (fun h_32 => absurd h_32 (by omega))
      refine k_iconst Xc d_M_fits_51 (n := 52) rfl ?_
      refine k_iret Xc d_M_fits_52 hr rfl (Nat.le_refl _) (Nat.le_refl _) ?_
      exact ⟨rfl, (mFr_tr mFr_rf hF_25), Or.inl ⟨by omega, rfl, hM_25⟩⟩
  · refine k_if_eq Xc d_M_fits_6 (t := 24) (n := 9) rfl rfl (by omega) (fun _ => ?_) (fun h_6 => absurd h_6 (by omega))
    refine k_iconst Xc d_M_fits_24 (n := 25) rfl ?_
    refine k_putM_code Xc hM wd_550 d_M_fits_25 (n := 28) rfl (fun f_25 hM_25 hF_25 => ?_)
    refine k_aload_n Xc d_M_fits_28 rfl rfl (n := 29) rfl ?_
    refine k_get Xc u_M rfl 0 (by decide) wd_550 rfl d_M_fits_29 (n := 32) rfl hM_25.1 hM_25.2.2.1 rfl ?_
    refine k_if_ne Xc d_M_fits_32 (t := 51) (n := 35) rfl rfl (by omega) (fun _ => ?_) (fun h_32 => absurd h_32 (by omega))
    refine k_iconst Xc d_M_fits_51 (n := 52) rfl ?_
    refine k_iret Xc d_M_fits_52 hr rfl (Nat.le_refl _) (Nat.le_refl _) ?_
    exact ⟨rfl, (mFr_tr mFr_rf hF_25), Or.inl ⟨by omega, rfl, hM_25⟩⟩
set_option maxRecDepth 100000 in
set_option maxHeartbeats 4000000 in
theorem m_M_best (l : Launch) (D : va_G) (G : Nat → ClassId) {L : List Nat} {f : Nat → va_E} {o : Nat} {ra : Nat → Nat} {cd wt mn om : Int} {h z9 k9 : Nat} {R : Nat → Int → Int} (hM : zMo G L f o ra cd wt (h : Int) (z9 : Int) (k9 : Int) mn om R) (hI : mI R h z9 k9) (k : Int) (hk : zO k) : zM l D G y_M_best (.code y_M_best c_M_best 3 (some .int) :: BG) (zR0 5 122) [.ref o, .int (zI k)] L f (fun v L1 f1 => L = L1 ∧ mFr f f1 o ra ∧ ((¬ (0 ≤ k ∧ k < (k9 : Int)) ∧ v = some (.int (zI 0)) ∧ zMo G L f1 o ra 1 wt (h : Int) (z9 : Int) (k9 : Int) mn om R) ∨ ((0 ≤ k ∧ k < (k9 : Int)) ∧ ∃ (R1 : Nat → Int → Int) (mn1 om1 r : Int), (∀ k : Nat, k ≠ 19 → k ≠ 20 → k ≠ 21 → k ≠ 22 → R1 k = R k) ∧ ge_first (fF R h z9 k.toNat (R 10 k).toNat) r ∧ ((r < 0 ∧ v = some (.int (zI 0)) ∧ zMo G L f1 o ra 2 wt (h : Int) (z9 : Int) (k9 : Int) mn1 om1 R1) ∨ (0 ≤ r ∧ v = some (.int (zI r)) ∧ zMo G L f1 o ra 0 wt (h : Int) (z9 : Int) (k9 : Int) mn1 om1 R1))))) := by
  refine zM.of (by decide) (Nat.le_of_ble_eq_true rfl) rfl (fun p e s m args below meth c A Xc hr hnm => ?_)
  have h96 := hI.2.2.2.2.1
  have hp := mP_hp hI.2.2.2.2.2.2
  have mb := mcnt_bd (R 13) 12
  refine k_aload_n Xc d_M_best_0 rfl rfl (n := 1) rfl ?_
  refine k_aload_n Xc d_M_best_1 rfl rfl (n := 2) rfl ?_
  refine k_iload_n Xc d_M_best_2 rfl rfl (n := 3) rfl ?_
  refine k_qV (na := 1) Xc (m_M_isKind l D G hM _ (by omega) (by omega)) hM.1 hM.2.2.1 rfl wd_703 wd_700 wd_702 ws_16 wd_6 (by decide +kernel) ⟨by decide, by decide⟩ rfl rfl (Nat.le_of_ble_eq_true rfl) d_M_best_3 (n := 6) rfl ⟨Nat.zero_le _, Nat.zero_le _⟩ (fun r_3 e_3 => ?_)
  rcases e_3 with ⟨e_3, rfl⟩ | ⟨e_3, rfl⟩
  · refine k_if_eq Xc d_M_best_6 (t := 13) (n := 9) rfl rfl (by omega) (fun h_6 => absurd h_6 (by omega)) (fun _ => ?_)
    refine k_iconst Xc d_M_best_9 (n := 10) rfl ?_
    refine k_goto Xc d_M_best_10 (t := 14) rfl ?_
    refine k_putM_code Xc hM wd_550 d_M_best_14 (n := 17) rfl (fun f_14 hM_14 hF_14 => ?_)
    refine k_aload_n Xc d_M_best_17 rfl rfl (n := 18) rfl ?_
    refine k_get Xc u_M rfl 0 (by decide) wd_550 rfl d_M_best_18 (n := 21) rfl hM_14.1 hM_14.2.2.1 rfl ?_
    refine k_if_le Xc d_M_best_21 (t := 26) (n := 24) rfl rfl (by omega) (fun _ => ?_) (fun h_21 => absurd h_21 (by omega))
    refine k_aload_n Xc d_M_best_26 rfl rfl (n := 27) rfl ?_
    refine k_iload_n Xc d_M_best_27 rfl rfl (n := 28) rfl ?_
    obtain ⟨kd, rfl⟩ : ∃ kd : Nat, k = (kd : Int) := ⟨k.toNat, by omega⟩
    have kk0 := hI.2.2.2.2.2.1 kd (by omega)
    obtain ⟨a, h10⟩ : ∃ a : Nat, R 10 (kd : Int) = (a : Int) := ⟨(R 10 (kd : Int)).toNat, by omega⟩
    refine k_wV (na := 1) Xc (m_M_search l D G hM_14 hI kd a (by omega) h10) hM_14.1 hM_14.2.2.1 rfl wd_749 wd_746 wd_748 ws_26 wd_6 (by decide +kernel) ⟨by decide, by decide⟩ rfl rfl (Nat.le_of_ble_eq_true rfl) d_M_best_28 (n := 31) rfl ⟨Nat.zero_le _, Nat.zero_le _⟩ (fun v_28 L_28 f_28 e_28 => ?_)
    obtain ⟨rfl, hF_28, S_28, mn_28, om_28, r_28, hK_28, hG_28, rfl, hB_28⟩ := e_28
    have z_28 := first_bd hB_28
    refine k_istore_n Xc d_M_best_31 rfl (by decide) (n := 32) rfl ?_
    refine k_aload_n Xc d_M_best_32 rfl rfl (n := 33) rfl ?_
    refine k_iload_n Xc d_M_best_33 rfl rfl (n := 34) rfl ?_
    refine k_if_ge Xc d_M_best_34 (t := 41) (n := 37) rfl rfl (by omega) (fun h_34 => ?_) (fun h_34 => ?_)
    · refine k_iconst Xc d_M_best_41 (n := 42) rfl ?_
      refine k_putM_code Xc hG_28 wd_550 d_M_best_42 (n := 45) rfl (fun f_42 hM_42 hF_42 => ?_)
      refine k_aload_n Xc d_M_best_45 rfl rfl (n := 46) rfl ?_
      refine k_get Xc u_M rfl 0 (by decide) wd_550 rfl d_M_best_46 (n := 49) rfl hM_42.1 hM_42.2.2.1 rfl ?_
      refine k_if_le Xc d_M_best_49 (t := 56) (n := 52) rfl rfl (by omega) (fun _ => ?_) (fun h_49 => absurd h_49 (by omega))
      refine k_iload_n Xc d_M_best_56 rfl rfl (n := 57) rfl ?_
      refine k_iret Xc d_M_best_57 hr rfl (Nat.le_refl _) (Nat.le_refl _) ?_
      first | exact ⟨rfl, (mFr_tr (mFr_tr (mFr_tr mFr_rf hF_14) hF_28) hF_42), Or.inr ⟨by omega, S_28, _, _, r_28, hK_28, by rw [h10]; exact hB_28, by first | exact Or.inl ⟨by omega, rfl, hM_42⟩ | exact Or.inr ⟨by omega, rfl, hM_42⟩⟩⟩ | exact ⟨rfl, (mFr_tr (mFr_tr (mFr_tr mFr_rf hF_14) hF_28) hF_42), Or.inl ⟨by omega, rfl, hM_42⟩⟩
    · refine k_iconst Xc d_M_best_37 (n := 38) rfl ?_
      refine k_goto Xc d_M_best_38 (t := 42) rfl ?_
      refine k_putM_code Xc hG_28 wd_550 d_M_best_42 (n := 45) rfl (fun f_42 hM_42 hF_42 => ?_)
      refine k_aload_n Xc d_M_best_45 rfl rfl (n := 46) rfl ?_
      refine k_get Xc u_M rfl 0 (by decide) wd_550 rfl d_M_best_46 (n := 49) rfl hM_42.1 hM_42.2.2.1 rfl ?_
      refine k_if_le Xc d_M_best_49 (t := 56) (n := 52) rfl rfl (by omega) (fun h_49 => absurd h_49 (by omega)) (fun _ => ?_)
      refine k_iconst Xc d_M_best_52 (n := 53) rfl ?_
      refine k_goto Xc d_M_best_53 (t := 57) rfl ?_
      refine k_iret Xc d_M_best_57 hr rfl (Nat.le_refl _) (Nat.le_refl _) ?_
      first | exact ⟨rfl, (mFr_tr (mFr_tr (mFr_tr mFr_rf hF_14) hF_28) hF_42), Or.inr ⟨by omega, S_28, _, _, r_28, hK_28, by rw [h10]; exact hB_28, by first | exact Or.inl ⟨by omega, rfl, hM_42⟩ | exact Or.inr ⟨by omega, rfl, hM_42⟩⟩⟩ | exact ⟨rfl, (mFr_tr (mFr_tr (mFr_tr mFr_rf hF_14) hF_28) hF_42), Or.inl ⟨by omega, rfl, hM_42⟩⟩
  · refine k_if_eq Xc d_M_best_6 (t := 13) (n := 9) rfl rfl (by omega) (fun _ => ?_) (fun h_6 => absurd h_6 (by omega))
    refine k_iconst Xc d_M_best_13 (n := 14) rfl ?_
    refine k_putM_code Xc hM wd_550 d_M_best_14 (n := 17) rfl (fun f_14 hM_14 hF_14 => ?_)
    refine k_aload_n Xc d_M_best_17 rfl rfl (n := 18) rfl ?_
    refine k_get Xc u_M rfl 0 (by decide) wd_550 rfl d_M_best_18 (n := 21) rfl hM_14.1 hM_14.2.2.1 rfl ?_
    refine k_if_le Xc d_M_best_21 (t := 26) (n := 24) rfl rfl (by omega) (fun h_21 => absurd h_21 (by omega)) (fun _ => ?_)
    refine k_iconst Xc d_M_best_24 (n := 25) rfl ?_
    refine k_iret Xc d_M_best_25 hr rfl (Nat.le_refl _) (Nat.le_refl _) ?_
    first | exact ⟨rfl, (mFr_tr mFr_rf hF_14), Or.inr ⟨by omega, S_28, _, _, r_28, hK_28, by rw [h10]; exact hB_28, by first | exact Or.inl ⟨by omega, rfl, hM_14⟩ | exact Or.inr ⟨by omega, rfl, hM_14⟩⟩⟩ | exact ⟨rfl, (mFr_tr mFr_rf hF_14), Or.inl ⟨by omega, rfl, hM_14⟩⟩
set_option maxRecDepth 100000 in
set_option maxHeartbeats 4000000 in
theorem m_M_lay (l : Launch) (D : va_G) (G : Nat → ClassId) {L : List Nat} {f : Nat → va_E} {o : Nat} {ra : Nat → Nat} {cd wt mn om : Int} {h z9 k9 : Nat} {R : Nat → Int → Int} (hM : zMo G L f o ra cd wt (h : Int) (z9 : Int) (k9 : Int) mn om R) (hI : mI R h z9 k9) (k : Int) (hk : zO k) : zM l D G y_M_lay (.code y_M_lay c_M_lay 3 (some .int) :: BG) (zR0 5 122) [.ref o, .int (zI k)] L f (fun v L1 f1 => L = L1 ∧ mFr f f1 o ra ∧ ((¬ (0 ≤ k ∧ k < (k9 : Int)) ∧ v = some (.int (zI 0)) ∧ zMo G L f1 o ra 1 wt (h : Int) (z9 : Int) (k9 : Int) mn om R) ∨ ((0 ≤ k ∧ k < (k9 : Int)) ∧ (mcnt (R 13) 12 = 12) ∧ v = some (.int (zI 0)) ∧ zMo G L f1 o ra 2 wt (h : Int) (z9 : Int) (k9 : Int) mn om R) ∨ ((0 ≤ k ∧ k < (k9 : Int)) ∧ ¬ (mcnt (R 13) 12 = 12) ∧ ∃ r : Int, ge_first (fF R h z9 k.toNat (R 10 k).toNat) r ∧ ((r < 0 ∧ v = some (.int (zI 0)) ∧ ∃ (R1 : Nat → Int → Int) (mn1 om1 : Int), (∀ k : Nat, k ≠ 19 → k ≠ 20 → k ≠ 21 → k ≠ 22 → R1 k = R k) ∧ zMo G L f1 o ra 3 wt (h : Int) (z9 : Int) (k9 : Int) mn1 om1 R1) ∨ (∃ y x t : Nat, r = (x : Int) + 32 * (y : Int) + 1024 * (t : Int) ∧ x ≤ 30 ∧ y ≤ 30 ∧ t ≤ 3 ∧ ∃ (p : Nat) (S R1 : Nat → Int → Int) (om1 : Int), p < 12 ∧ R 13 (p : Int) < 0 ∧ (∀ q : Nat, q < p → 0 ≤ R 13 (q : Int)) ∧ v = some (.int (zI (p : Int))) ∧ (∀ k : Nat, k ≠ 19 → k ≠ 20 → k ≠ 21 → k ≠ 22 → S k = R k) ∧ plc S R1 k.toNat (R 10 k).toNat t (x : Int) (y : Int) p ∧ zMo G L f1 o ra 0 wt (h : Int) (z9 : Int) (k9 : Int) (((R 10 k).toNat : Nat) : Int) om1 R1))))) := by
  refine zM.of (by decide) (Nat.le_of_ble_eq_true rfl) rfl (fun p e s m args below meth c A Xc hr hnm => ?_)
  have h96 := hI.2.2.2.2.1
  have hp := mP_hp hI.2.2.2.2.2.2
  have mb := mcnt_bd (R 13) 12
  refine k_aload_n Xc d_M_lay_0 rfl rfl (n := 1) rfl ?_
  refine k_aload_n Xc d_M_lay_1 rfl rfl (n := 2) rfl ?_
  refine k_iload_n Xc d_M_lay_2 rfl rfl (n := 3) rfl ?_
  refine k_qV (na := 1) Xc (m_M_isKind l D G hM _ (by omega) (by omega)) hM.1 hM.2.2.1 rfl wd_703 wd_700 wd_702 ws_16 wd_6 (by decide +kernel) ⟨by decide, by decide⟩ rfl rfl (Nat.le_of_ble_eq_true rfl) d_M_lay_3 (n := 6) rfl ⟨Nat.zero_le _, Nat.zero_le _⟩ (fun r_3 e_3 => ?_)
  rcases e_3 with ⟨e_3, rfl⟩ | ⟨e_3, rfl⟩
  · refine k_if_ne Xc d_M_lay_6 (t := 13) (n := 9) rfl rfl (by omega) (fun _ => ?_) (fun h_6 => absurd h_6 (by omega))
    refine k_aload_n Xc d_M_lay_13 rfl rfl (n := 14) rfl ?_
    refine k_qV (na := 0) Xc (m_M_count l D G hM hp) hM.1 hM.2.2.1 rfl wd_656 wd_653 wd_655 ws_9 wd_6 (by decide +kernel) ⟨by decide, by decide⟩ rfl rfl (Nat.le_of_ble_eq_true rfl) d_M_lay_14 (n := 17) rfl ⟨Nat.zero_le _, Nat.zero_le _⟩ (fun r_14 e_14 => ?_)
    subst e_14
    refine k_bipush Xc d_M_lay_17 rfl (n := 19) rfl ?_
    refine k_icmp_ne Xc d_M_lay_19 (t := 26) (n := 22) rfl rfl (by omega) (by omega) (fun h_19 => ?_) (fun h_19 => ?_)
    · refine k_iconst Xc d_M_lay_26 (n := 27) rfl ?_
      refine k_putM_code Xc hM wd_550 d_M_lay_27 (n := 30) rfl (fun f_27 hM_27 hF_27 => ?_)
      refine k_aload_n Xc d_M_lay_30 rfl rfl (n := 31) rfl ?_
      refine k_get Xc u_M rfl 0 (by decide) wd_550 rfl d_M_lay_31 (n := 34) rfl hM_27.1 hM_27.2.2.1 rfl ?_
      refine k_if_le Xc d_M_lay_34 (t := 39) (n := 37) rfl rfl (by omega) (fun _ => ?_) (fun h_34 => absurd h_34 (by omega))
      refine k_aload_n Xc d_M_lay_39 rfl rfl (n := 40) rfl ?_
      refine k_iload_n Xc d_M_lay_40 rfl rfl (n := 41) rfl ?_
      obtain ⟨kd, rfl⟩ : ∃ kd : Nat, k = (kd : Int) := ⟨k.toNat, by omega⟩
      have kk0 := hI.2.2.2.2.2.1 kd (by omega)
      obtain ⟨a, h10⟩ : ∃ a : Nat, R 10 (kd : Int) = (a : Int) := ⟨(R 10 (kd : Int)).toNat, by omega⟩
      refine k_wV (na := 1) Xc (m_M_search l D G hM_27 hI kd a (by omega) h10) hM_27.1 hM_27.2.2.1 rfl wd_749 wd_746 wd_748 ws_26 wd_6 (by decide +kernel) ⟨by decide, by decide⟩ rfl rfl (Nat.le_of_ble_eq_true rfl) d_M_lay_41 (n := 44) rfl ⟨Nat.zero_le _, Nat.zero_le _⟩ (fun v_41 L_41 f_41 e_41 => ?_)
      obtain ⟨rfl, hF_41, S_41, mn_41, om_41, r_41, hK_41, hG_41, rfl, hB_41⟩ := e_41
      have z_41 := first_bd hB_41
      refine k_istore_n Xc d_M_lay_44 rfl (by decide) (n := 45) rfl ?_
      refine k_aload_n Xc d_M_lay_45 rfl rfl (n := 46) rfl ?_
      refine k_iload_n Xc d_M_lay_46 rfl rfl (n := 47) rfl ?_
      refine k_if_ge Xc d_M_lay_47 (t := 54) (n := 50) rfl rfl (by omega) (fun h_47 => ?_) (fun h_47 => ?_)
      · refine k_iconst Xc d_M_lay_54 (n := 55) rfl ?_
        refine k_putM_code Xc hG_41 wd_550 d_M_lay_55 (n := 58) rfl (fun f_55 hM_55 hF_55 => ?_)
        refine k_aload_n Xc d_M_lay_58 rfl rfl (n := 59) rfl ?_
        refine k_get Xc u_M rfl 0 (by decide) wd_550 rfl d_M_lay_59 (n := 62) rfl hM_55.1 hM_55.2.2.1 rfl ?_
        refine k_if_le Xc d_M_lay_62 (t := 69) (n := 65) rfl rfl (by omega) (fun _ => ?_) (fun h_62 => absurd h_62 (by omega))
        obtain ⟨y, x, t, er, hx30, hy30, ht3⟩ := first_at hB_41 (by omega)
        have s13 : S_41 13 = R 13 := hK_41 13 (by decide) (by decide) (by decide) (by decide)
        have h10s : S_41 10 (kd : Int) = (a : Int) := by rw [hK_41 10 (by decide) (by decide) (by decide) (by decide)]; exact h10
        have hqs : kOk S_41 kd a := by unfold kOk; rw [hK_41 8 (by decide) (by decide) (by decide) (by decide), hK_41 9 (by decide) (by decide) (by decide) (by decide)]; exact fun j hj => kk0.2.2.2.2.2.2 j (by omega)
        have hps : ∀ j : Int, 0 ≤ j → j < 12 → -1 ≤ S_41 13 j ∧ S_41 13 j ≤ 5 := by rw [s13]; exact hp
        obtain ⟨p0, hp0, hf0⟩ := mcnt_free (K := R 13) (by omega)
        rw [← s13] at hf0
        refine k_aload_n Xc d_M_lay_69 rfl rfl (n := 70) rfl ?_
        refine k_iload_n Xc d_M_lay_70 rfl rfl (n := 71) rfl ?_
        refine k_iload_n Xc d_M_lay_71 rfl rfl (n := 72) rfl ?_
        refine k_bipush Xc d_M_lay_72 rfl (n := 74) rfl ?_
        refine k_iand Xc d_M_lay_74 (n := 75) rfl ?_
        refine k_va32 (bits_x er hx30 hy30 ht3) ?_
        refine k_iload_n Xc d_M_lay_75 rfl rfl (n := 76) rfl ?_
        refine k_iconst Xc d_M_lay_76 (n := 77) rfl ?_
        refine k_ishr Xc d_M_lay_77 (n := 78) rfl ?_
        refine k_bipush Xc d_M_lay_78 rfl (n := 80) rfl ?_
        refine k_iand Xc d_M_lay_80 (n := 81) rfl ?_
        refine k_va32 (bits_y er hx30 hy30 ht3) ?_
        refine k_iload_n Xc d_M_lay_81 rfl rfl (n := 82) rfl ?_
        refine k_bipush Xc d_M_lay_82 rfl (n := 84) rfl ?_
        refine k_ishr Xc d_M_lay_84 (n := 85) rfl ?_
        refine k_va32 (bits_t er hx30 hy30 ht3) ?_
        refine k_wV (na := 4) Xc (m_M_place l D G hM_55 kd a t (by omega) (by omega) (by omega) h10s hqs (by omega) _ _ (by omega) (by omega) hps p0 hp0 hf0) hM_55.1 hM_55.2.2.1 rfl wd_757 wd_754 wd_756 ws_27 wd_6 (by decide +kernel) ⟨by decide, by decide⟩ rfl rfl (Nat.le_of_ble_eq_true rfl) d_M_lay_85 (n := 88) rfl ⟨Nat.zero_le _, Nat.zero_le _⟩ (fun v_85 L_85 f_85 e_85 => ?_)
        obtain ⟨rfl, hF_85, p_85, S_85, hp1_85, hp2_85, hp3_85, rfl, hB_85, hG_85⟩ := e_85
        refine k_iret Xc d_M_lay_88 hr rfl (Nat.le_refl _) (Nat.le_refl _) ?_
        rw [s13] at hp2_85 hp3_85
        exact ⟨rfl, (mFr_tr (mFr_tr (mFr_tr (mFr_tr mFr_rf hF_27) hF_41) hF_55) hF_85), Or.inr (Or.inr ⟨by omega, by omega, r_41, by rw [h10]; exact hB_41, Or.inr ⟨y, x, t, er, hx30, hy30, ht3, p_85, S_41, S_85, _, hp1_85, hp2_85, hp3_85, rfl, hK_41, by rw [h10]; exact hB_85, by rw [h10]; exact hG_85⟩⟩)⟩
      · refine k_iconst Xc d_M_lay_50 (n := 51) rfl ?_
        refine k_goto Xc d_M_lay_51 (t := 55) rfl ?_
        refine k_putM_code Xc hG_41 wd_550 d_M_lay_55 (n := 58) rfl (fun f_55 hM_55 hF_55 => ?_)
        refine k_aload_n Xc d_M_lay_58 rfl rfl (n := 59) rfl ?_
        refine k_get Xc u_M rfl 0 (by decide) wd_550 rfl d_M_lay_59 (n := 62) rfl hM_55.1 hM_55.2.2.1 rfl ?_
        refine k_if_le Xc d_M_lay_62 (t := 69) (n := 65) rfl rfl (by omega) (fun h_62 => absurd h_62 (by omega)) (fun _ => ?_)
        refine k_iconst Xc d_M_lay_65 (n := 66) rfl ?_
        refine k_goto Xc d_M_lay_66 (t := 88) rfl ?_
        refine k_iret Xc d_M_lay_88 hr rfl (Nat.le_refl _) (Nat.le_refl _) ?_
        first | exact ⟨rfl, (mFr_tr (mFr_tr (mFr_tr mFr_rf hF_27) hF_41) hF_55), Or.inr (Or.inr ⟨by omega, by omega, r_41, by rw [h10]; exact hB_41, Or.inl ⟨by omega, rfl, S_41, _, _, hK_41, hM_55⟩⟩)⟩ | exact ⟨rfl, (mFr_tr (mFr_tr (mFr_tr mFr_rf hF_27) hF_41) hF_55), Or.inl ⟨by omega, rfl, hM_55⟩⟩ | exact ⟨rfl, (mFr_tr (mFr_tr (mFr_tr mFr_rf hF_27) hF_41) hF_55), Or.inr (Or.inl ⟨by omega, by omega, rfl, hM_55⟩)⟩
    · refine k_iconst Xc d_M_lay_22 (n := 23) rfl ?_
      refine k_goto Xc d_M_lay_23 (t := 27) rfl ?_
      refine k_putM_code Xc hM wd_550 d_M_lay_27 (n := 30) rfl (fun f_27 hM_27 hF_27 => ?_)
      refine k_aload_n Xc d_M_lay_30 rfl rfl (n := 31) rfl ?_
      refine k_get Xc u_M rfl 0 (by decide) wd_550 rfl d_M_lay_31 (n := 34) rfl hM_27.1 hM_27.2.2.1 rfl ?_
      refine k_if_le Xc d_M_lay_34 (t := 39) (n := 37) rfl rfl (by omega) (fun h_34 => absurd h_34 (by omega)) (fun _ => ?_)
      refine k_iconst Xc d_M_lay_37 (n := 38) rfl ?_
      refine k_iret Xc d_M_lay_38 hr rfl (Nat.le_refl _) (Nat.le_refl _) ?_
      first | exact ⟨rfl, (mFr_tr mFr_rf hF_27), Or.inr (Or.inr ⟨by omega, by omega, r_41, by rw [h10]; exact hB_41, Or.inl ⟨by omega, rfl, S_41, _, _, hK_41, hM_27⟩⟩)⟩ | exact ⟨rfl, (mFr_tr mFr_rf hF_27), Or.inl ⟨by omega, rfl, hM_27⟩⟩ | exact ⟨rfl, (mFr_tr mFr_rf hF_27), Or.inr (Or.inl ⟨by omega, by omega, rfl, hM_27⟩)⟩
  · refine k_if_ne Xc d_M_lay_6 (t := 13) (n := 9) rfl rfl (by omega) (fun h_6 => absurd h_6 (by omega)) (fun _ => ?_)
    refine k_iconst Xc d_M_lay_9 (n := 10) rfl ?_
    refine k_goto Xc d_M_lay_10 (t := 27) rfl ?_
    refine k_putM_code Xc hM wd_550 d_M_lay_27 (n := 30) rfl (fun f_27 hM_27 hF_27 => ?_)
    refine k_aload_n Xc d_M_lay_30 rfl rfl (n := 31) rfl ?_
    refine k_get Xc u_M rfl 0 (by decide) wd_550 rfl d_M_lay_31 (n := 34) rfl hM_27.1 hM_27.2.2.1 rfl ?_
    refine k_if_le Xc d_M_lay_34 (t := 39) (n := 37) rfl rfl (by omega) (fun h_34 => absurd h_34 (by omega)) (fun _ => ?_)
    refine k_iconst Xc d_M_lay_37 (n := 38) rfl ?_
    refine k_iret Xc d_M_lay_38 hr rfl (Nat.le_refl _) (Nat.le_refl _) ?_
    first | exact ⟨rfl, (mFr_tr mFr_rf hF_27), Or.inr (Or.inr ⟨by omega, by omega, r_41, by rw [h10]; exact hB_41, Or.inl ⟨by omega, rfl, S_41, _, _, hK_41, hM_27⟩⟩)⟩ | exact ⟨rfl, (mFr_tr mFr_rf hF_27), Or.inl ⟨by omega, rfl, hM_27⟩⟩ | exact ⟨rfl, (mFr_tr mFr_rf hF_27), Or.inr (Or.inl ⟨by omega, by omega, rfl, hM_27⟩)⟩
set_option maxRecDepth 100000 in
set_option maxHeartbeats 4000000 in
theorem m_M_put (l : Launch) (D : va_G) (G : Nat → ClassId) {L : List Nat} {f : Nat → va_E} {o : Nat} {ra : Nat → Nat} {cd wt mn om : Int} {h z9 k9 : Nat} {R : Nat → Int → Int} (hM : zMo G L f o ra cd wt (h : Int) (z9 : Int) (k9 : Int) mn om R) (hI : mI R h z9 k9) (k x y t : Int) (hk : zO k) (hx : zO x) (hy : zO y) (ht : zO t) : zM l D G y_M_put (.code y_M_put c_M_put 5 (some .int) :: BG) (zR0 4 98) [.ref o, .int (zI k), .int (zI x), .int (zI y), .int (zI t)] L f (fun v L1 f1 => L = L1 ∧ mFr f f1 o ra ∧ ((¬ ((0 ≤ k ∧ k < (k9 : Int)) ∧ (0 ≤ x ∧ x ≤ 30 ∧ 0 ≤ y ∧ y ≤ 30 ∧ 0 ≤ t ∧ t ≤ 3)) ∧ v = some (.int (zI 0)) ∧ zMo G L f1 o ra 1 wt (h : Int) (z9 : Int) (k9 : Int) mn om R) ∨ (((0 ≤ k ∧ k < (k9 : Int)) ∧ (0 ≤ x ∧ x ≤ 30 ∧ 0 ≤ y ∧ y ≤ 30 ∧ 0 ≤ t ∧ t ≤ 3)) ∧ (mcnt (R 13) 12 = 12) ∧ v = some (.int (zI 0)) ∧ zMo G L f1 o ra 2 wt (h : Int) (z9 : Int) (k9 : Int) mn om R) ∨ (((0 ≤ k ∧ k < (k9 : Int)) ∧ (0 ≤ x ∧ x ≤ 30 ∧ 0 ≤ y ∧ y ≤ 30 ∧ 0 ≤ t ∧ t ≤ 3)) ∧ ¬ (mcnt (R 13) 12 = 12) ∧ ¬ fFit R h z9 k.toNat (R 10 k).toNat t.toNat x y ∧ v = some (.int (zI 0)) ∧ ∃ (R1 : Nat → Int → Int) (mn1 om1 : Int), (∀ k : Nat, k ≠ 19 → k ≠ 20 → k ≠ 21 → k ≠ 22 → R1 k = R k) ∧ zMo G L f1 o ra 3 wt (h : Int) (z9 : Int) (k9 : Int) mn1 om1 R1) ∨ (((0 ≤ k ∧ k < (k9 : Int)) ∧ (0 ≤ x ∧ x ≤ 30 ∧ 0 ≤ y ∧ y ≤ 30 ∧ 0 ≤ t ∧ t ≤ 3)) ∧ ¬ (mcnt (R 13) 12 = 12) ∧ fFit R h z9 k.toNat (R 10 k).toNat t.toNat x y ∧ ∃ (p : Nat) (S R1 : Nat → Int → Int) (om1 : Int), p < 12 ∧ R 13 (p : Int) < 0 ∧ (∀ q : Nat, q < p → 0 ≤ R 13 (q : Int)) ∧ v = some (.int (zI (p : Int))) ∧ (∀ k : Nat, k ≠ 19 → k ≠ 20 → k ≠ 21 → k ≠ 22 → S k = R k) ∧ plc S R1 k.toNat (R 10 k).toNat t.toNat x y p ∧ zMo G L f1 o ra 0 wt (h : Int) (z9 : Int) (k9 : Int) (((R 10 k).toNat : Nat) : Int) om1 R1))) := by
  refine zM.of (by decide) (Nat.le_of_ble_eq_true rfl) rfl (fun p e s m args below meth c A Xc hr hnm => ?_)
  have h96 := hI.2.2.2.2.1
  have hp := mP_hp hI.2.2.2.2.2.2
  have mb := mcnt_bd (R 13) 12
  refine k_aload_n Xc d_M_put_0 rfl rfl (n := 1) rfl ?_
  refine k_aload_n Xc d_M_put_1 rfl rfl (n := 2) rfl ?_
  refine k_iload_n Xc d_M_put_2 rfl rfl (n := 3) rfl ?_
  refine k_qV (na := 1) Xc (m_M_isKind l D G hM _ (by omega) (by omega)) hM.1 hM.2.2.1 rfl wd_703 wd_700 wd_702 ws_16 wd_6 (by decide +kernel) ⟨by decide, by decide⟩ rfl rfl (Nat.le_of_ble_eq_true rfl) d_M_put_3 (n := 6) rfl ⟨Nat.zero_le _, Nat.zero_le _⟩ (fun r_3 e_3 => ?_)
  rcases e_3 with ⟨e_3, rfl⟩ | ⟨e_3, rfl⟩
  · refine k_if_eq Xc d_M_put_6 (t := 20) (n := 9) rfl rfl (by omega) (fun h_6 => absurd h_6 (by omega)) (fun _ => ?_)
    refine k_aload_n Xc d_M_put_9 rfl rfl (n := 10) rfl ?_
    refine k_iload_n Xc d_M_put_10 rfl rfl (n := 11) rfl ?_
    refine k_iload_n Xc d_M_put_11 rfl rfl (n := 12) rfl ?_
    refine k_iload Xc d_M_put_12 rfl (n := 14) rfl ?_
    refine k_qV (na := 3) Xc (m_M_isPlace l D G hM _ _ _ (by omega) (by omega) (by omega)) hM.1 hM.2.2.1 rfl wd_707 wd_704 wd_706 ws_17 wd_6 (by decide +kernel) ⟨by decide, by decide⟩ rfl rfl (Nat.le_of_ble_eq_true rfl) d_M_put_14 (n := 17) rfl ⟨Nat.zero_le _, Nat.zero_le _⟩ (fun r_14 e_14 => ?_)
    rcases e_14 with ⟨e_14, rfl⟩ | ⟨e_14, rfl⟩
    · refine k_if_ne Xc d_M_put_17 (t := 24) (n := 20) rfl rfl (by omega) (fun _ => ?_) (fun h_17 => absurd h_17 (by omega))
      refine k_aload_n Xc d_M_put_24 rfl rfl (n := 25) rfl ?_
      refine k_qV (na := 0) Xc (m_M_count l D G hM hp) hM.1 hM.2.2.1 rfl wd_656 wd_653 wd_655 ws_9 wd_6 (by decide +kernel) ⟨by decide, by decide⟩ rfl rfl (Nat.le_of_ble_eq_true rfl) d_M_put_25 (n := 28) rfl ⟨Nat.zero_le _, Nat.zero_le _⟩ (fun r_25 e_25 => ?_)
      subst e_25
      refine k_bipush Xc d_M_put_28 rfl (n := 30) rfl ?_
      refine k_icmp_ne Xc d_M_put_30 (t := 37) (n := 33) rfl rfl (by omega) (by omega) (fun h_30 => ?_) (fun h_30 => ?_)
      · refine k_iconst Xc d_M_put_37 (n := 38) rfl ?_
        refine k_putM_code Xc hM wd_550 d_M_put_38 (n := 41) rfl (fun f_38 hM_38 hF_38 => ?_)
        refine k_aload_n Xc d_M_put_41 rfl rfl (n := 42) rfl ?_
        refine k_get Xc u_M rfl 0 (by decide) wd_550 rfl d_M_put_42 (n := 45) rfl hM_38.1 hM_38.2.2.1 rfl ?_
        refine k_if_le Xc d_M_put_45 (t := 50) (n := 48) rfl rfl (by omega) (fun _ => ?_) (fun h_45 => absurd h_45 (by omega))
        refine k_aload_n Xc d_M_put_50 rfl rfl (n := 51) rfl ?_
        refine k_aload_n Xc d_M_put_51 rfl rfl (n := 52) rfl ?_
        refine k_iload_n Xc d_M_put_52 rfl rfl (n := 53) rfl ?_
        refine k_iload_n Xc d_M_put_53 rfl rfl (n := 54) rfl ?_
        refine k_iload_n Xc d_M_put_54 rfl rfl (n := 55) rfl ?_
        refine k_iload Xc d_M_put_55 rfl (n := 57) rfl ?_
        obtain ⟨kd, rfl⟩ : ∃ kd : Nat, k = (kd : Int) := ⟨k.toNat, by omega⟩
        have kk0 := hI.2.2.2.2.2.1 kd (by omega)
        obtain ⟨a, h10⟩ : ∃ a : Nat, R 10 (kd : Int) = (a : Int) := ⟨(R 10 (kd : Int)).toNat, by omega⟩
        obtain ⟨t, rfl⟩ : ∃ t2 : Nat, t = (t2 : Int) := ⟨t.toNat, by omega⟩
        refine k_wV (na := 4) Xc (m_M_isFit l D G hM_38 hI kd a t (by omega) h10 (by omega) _ _ (by omega) (by omega)) hM_38.1 hM_38.2.2.1 rfl wd_711 wd_708 wd_710 ws_18 wd_6 (by decide +kernel) ⟨by decide, by decide⟩ rfl rfl (Nat.le_of_ble_eq_true rfl) d_M_put_57 (n := 60) rfl ⟨Nat.zero_le _, Nat.zero_le _⟩ (fun v_57 L_57 f_57 e_57 => ?_)
        obtain ⟨rfl, hF_57, S_57, mn_57, om_57, r_57, hK_57, hG_57, rfl, hB_57⟩ := e_57
        have z_57 := zB_01 hB_57
        refine k_if_eq Xc d_M_put_60 (t := 67) (n := 63) rfl rfl (by omega) (fun h_60 => ?_) (fun h_60 => ?_)
        · refine k_iconst Xc d_M_put_67 (n := 68) rfl ?_
          refine k_putM_code Xc hG_57 wd_550 d_M_put_68 (n := 71) rfl (fun f_68 hM_68 hF_68 => ?_)
          refine k_aload_n Xc d_M_put_71 rfl rfl (n := 72) rfl ?_
          refine k_get Xc u_M rfl 0 (by decide) wd_550 rfl d_M_put_72 (n := 75) rfl hM_68.1 hM_68.2.2.1 rfl ?_
          refine k_if_le Xc d_M_put_75 (t := 82) (n := 78) rfl rfl (by omega) (fun h_75 => absurd h_75 (by omega)) (fun _ => ?_)
          refine k_iconst Xc d_M_put_78 (n := 79) rfl ?_
          refine k_goto Xc d_M_put_79 (t := 91) rfl ?_
          refine k_iret Xc d_M_put_91 hr rfl (Nat.le_refl _) (Nat.le_refl _) ?_
          first | exact ⟨rfl, (mFr_tr (mFr_tr (mFr_tr mFr_rf hF_38) hF_57) hF_68), Or.inr (Or.inr (Or.inl ⟨⟨by omega, by omega⟩, by omega, by rw [h10]; exact zB_f hB_57 (by omega), rfl, S_57, _, _, hK_57, hM_68⟩))⟩ | exact ⟨rfl, (mFr_tr (mFr_tr (mFr_tr mFr_rf hF_38) hF_57) hF_68), Or.inl ⟨by omega, rfl, hM_68⟩⟩ | exact ⟨rfl, (mFr_tr (mFr_tr (mFr_tr mFr_rf hF_38) hF_57) hF_68), Or.inr (Or.inl ⟨by omega, by omega, rfl, hM_68⟩)⟩
        · refine k_iconst Xc d_M_put_63 (n := 64) rfl ?_
          refine k_goto Xc d_M_put_64 (t := 68) rfl ?_
          refine k_putM_code Xc hG_57 wd_550 d_M_put_68 (n := 71) rfl (fun f_68 hM_68 hF_68 => ?_)
          refine k_aload_n Xc d_M_put_71 rfl rfl (n := 72) rfl ?_
          refine k_get Xc u_M rfl 0 (by decide) wd_550 rfl d_M_put_72 (n := 75) rfl hM_68.1 hM_68.2.2.1 rfl ?_
          refine k_if_le Xc d_M_put_75 (t := 82) (n := 78) rfl rfl (by omega) (fun _ => ?_) (fun h_75 => absurd h_75 (by omega))
          have s13 : S_57 13 = R 13 := hK_57 13 (by decide) (by decide) (by decide) (by decide)
          have h10s : S_57 10 (kd : Int) = (a : Int) := by rw [hK_57 10 (by decide) (by decide) (by decide) (by decide)]; exact h10
          have hqs : kOk S_57 kd a := by unfold kOk; rw [hK_57 8 (by decide) (by decide) (by decide) (by decide), hK_57 9 (by decide) (by decide) (by decide) (by decide)]; exact fun j hj => kk0.2.2.2.2.2.2 j (by omega)
          have hps : ∀ j : Int, 0 ≤ j → j < 12 → -1 ≤ S_57 13 j ∧ S_57 13 j ≤ 5 := by rw [s13]; exact hp
          obtain ⟨p0, hp0, hf0⟩ := mcnt_free (K := R 13) (by omega)
          rw [← s13] at hf0
          refine k_aload_n Xc d_M_put_82 rfl rfl (n := 83) rfl ?_
          refine k_iload_n Xc d_M_put_83 rfl rfl (n := 84) rfl ?_
          refine k_iload_n Xc d_M_put_84 rfl rfl (n := 85) rfl ?_
          refine k_iload_n Xc d_M_put_85 rfl rfl (n := 86) rfl ?_
          refine k_iload Xc d_M_put_86 rfl (n := 88) rfl ?_
          refine k_wV (na := 4) Xc (m_M_place l D G hM_68 kd a t (by omega) (by omega) (by omega) h10s hqs (by omega) _ _ (by omega) (by omega) hps p0 hp0 hf0) hM_68.1 hM_68.2.2.1 rfl wd_757 wd_754 wd_756 ws_27 wd_6 (by decide +kernel) ⟨by decide, by decide⟩ rfl rfl (Nat.le_of_ble_eq_true rfl) d_M_put_88 (n := 91) rfl ⟨Nat.zero_le _, Nat.zero_le _⟩ (fun v_88 L_88 f_88 e_88 => ?_)
          obtain ⟨rfl, hF_88, p_88, S_88, hp1_88, hp2_88, hp3_88, rfl, hB_88, hG_88⟩ := e_88
          refine k_iret Xc d_M_put_91 hr rfl (Nat.le_refl _) (Nat.le_refl _) ?_
          rw [s13] at hp2_88 hp3_88
          exact ⟨rfl, (mFr_tr (mFr_tr (mFr_tr (mFr_tr mFr_rf hF_38) hF_57) hF_68) hF_88), Or.inr (Or.inr (Or.inr ⟨⟨by omega, by omega⟩, by omega, by rw [h10]; exact zB_t hB_57 (by omega), p_88, S_57, S_88, _, hp1_88, hp2_88, hp3_88, rfl, hK_57, by rw [h10]; exact hB_88, by rw [h10]; exact hG_88⟩))⟩
      · refine k_iconst Xc d_M_put_33 (n := 34) rfl ?_
        refine k_goto Xc d_M_put_34 (t := 38) rfl ?_
        refine k_putM_code Xc hM wd_550 d_M_put_38 (n := 41) rfl (fun f_38 hM_38 hF_38 => ?_)
        refine k_aload_n Xc d_M_put_41 rfl rfl (n := 42) rfl ?_
        refine k_get Xc u_M rfl 0 (by decide) wd_550 rfl d_M_put_42 (n := 45) rfl hM_38.1 hM_38.2.2.1 rfl ?_
        refine k_if_le Xc d_M_put_45 (t := 50) (n := 48) rfl rfl (by omega) (fun h_45 => absurd h_45 (by omega)) (fun _ => ?_)
        refine k_iconst Xc d_M_put_48 (n := 49) rfl ?_
        refine k_iret Xc d_M_put_49 hr rfl (Nat.le_refl _) (Nat.le_refl _) ?_
        first | exact ⟨rfl, (mFr_tr mFr_rf hF_38), Or.inr (Or.inr (Or.inl ⟨⟨by omega, by omega⟩, by omega, by rw [h10]; exact zB_f hB_57 (by omega), rfl, S_57, _, _, hK_57, hM_38⟩))⟩ | exact ⟨rfl, (mFr_tr mFr_rf hF_38), Or.inl ⟨by omega, rfl, hM_38⟩⟩ | exact ⟨rfl, (mFr_tr mFr_rf hF_38), Or.inr (Or.inl ⟨by omega, by omega, rfl, hM_38⟩)⟩
    · refine k_if_ne Xc d_M_put_17 (t := 24) (n := 20) rfl rfl (by omega) (fun h_17 => absurd h_17 (by omega)) (fun _ => ?_)
      refine k_iconst Xc d_M_put_20 (n := 21) rfl ?_
      refine k_goto Xc d_M_put_21 (t := 38) rfl ?_
      refine k_putM_code Xc hM wd_550 d_M_put_38 (n := 41) rfl (fun f_38 hM_38 hF_38 => ?_)
      refine k_aload_n Xc d_M_put_41 rfl rfl (n := 42) rfl ?_
      refine k_get Xc u_M rfl 0 (by decide) wd_550 rfl d_M_put_42 (n := 45) rfl hM_38.1 hM_38.2.2.1 rfl ?_
      refine k_if_le Xc d_M_put_45 (t := 50) (n := 48) rfl rfl (by omega) (fun h_45 => absurd h_45 (by omega)) (fun _ => ?_)
      refine k_iconst Xc d_M_put_48 (n := 49) rfl ?_
      refine k_iret Xc d_M_put_49 hr rfl (Nat.le_refl _) (Nat.le_refl _) ?_
      first | exact ⟨rfl, (mFr_tr mFr_rf hF_38), Or.inr (Or.inr (Or.inl ⟨⟨by omega, by omega⟩, by omega, by rw [h10]; exact zB_f hB_57 (by omega), rfl, S_57, _, _, hK_57, hM_38⟩))⟩ | exact ⟨rfl, (mFr_tr mFr_rf hF_38), Or.inl ⟨by omega, rfl, hM_38⟩⟩ | exact ⟨rfl, (mFr_tr mFr_rf hF_38), Or.inr (Or.inl ⟨by omega, by omega, rfl, hM_38⟩)⟩
  · refine k_if_eq Xc d_M_put_6 (t := 20) (n := 9) rfl rfl (by omega) (fun _ => ?_) (fun h_6 => absurd h_6 (by omega))
    refine k_iconst Xc d_M_put_20 (n := 21) rfl ?_
    refine k_goto Xc d_M_put_21 (t := 38) rfl ?_
    refine k_putM_code Xc hM wd_550 d_M_put_38 (n := 41) rfl (fun f_38 hM_38 hF_38 => ?_)
    refine k_aload_n Xc d_M_put_41 rfl rfl (n := 42) rfl ?_
    refine k_get Xc u_M rfl 0 (by decide) wd_550 rfl d_M_put_42 (n := 45) rfl hM_38.1 hM_38.2.2.1 rfl ?_
    refine k_if_le Xc d_M_put_45 (t := 50) (n := 48) rfl rfl (by omega) (fun h_45 => absurd h_45 (by omega)) (fun _ => ?_)
    refine k_iconst Xc d_M_put_48 (n := 49) rfl ?_
    refine k_iret Xc d_M_put_49 hr rfl (Nat.le_refl _) (Nat.le_refl _) ?_
    first | exact ⟨rfl, (mFr_tr mFr_rf hF_38), Or.inr (Or.inr (Or.inl ⟨⟨by omega, by omega⟩, by omega, by rw [h10]; exact zB_f hB_57 (by omega), rfl, S_57, _, _, hK_57, hM_38⟩))⟩ | exact ⟨rfl, (mFr_tr mFr_rf hF_38), Or.inl ⟨by omega, rfl, hM_38⟩⟩ | exact ⟨rfl, (mFr_tr mFr_rf hF_38), Or.inr (Or.inl ⟨by omega, by omega, rfl, hM_38⟩)⟩
set_option maxRecDepth 100000 in
set_option maxHeartbeats 4000000 in
theorem m_M_free (l : Launch) (D : va_G) (G : Nat → ClassId) {L : List Nat} {f : Nat → va_E} {o : Nat} {ra : Nat → Nat} {cd wt zn kn mn om : Int} {h : Nat} {R : Nat → Int → Int} (hM : zMo G L f o ra cd wt (h : Int) zn kn mn om R) (hH : sB h (R 2) (R 3)) (hP : mP R) : zM l D G y_M_free (.code y_M_free c_M_free 7 (some .int) :: BG) (zR0 1 20) [.ref o] L f (fun v L1 f1 => L = L1 ∧ mFr f f1 o ra ∧ v = some (.int (zI (mFree R h 12))) ∧ zMo G L f1 o ra 0 wt (h : Int) zn kn mn om R) := by
  refine zM.of (by decide) (Nat.le_of_ble_eq_true rfl) rfl (fun p e s m args below meth c A Xc hr hnm => ?_)
  have hh := hH.1
  have outer : ∀ (d i : Nat) (g : Nat → va_E), 12 < i + d → i ≤ 12 → zMo G L g o ra 0 wt (h : Int) zn kn mn om R → mFr f g o ra → zG p l e (zR0 1 20) s m args below meth c D A 7 0 0 (MQ below (zE D A (fun v L1 f1 => L = L1 ∧ mFr f f1 o ra ∧ v = some (.int (zI (mFree R h 12))) ∧ zMo G L f1 o ra 0 wt (h : Int) zn kn mn om R)) args s (zR0 1 20).cells (zR0 1 20).slots A) 69 [(0, .ref o), (1, .int (zI (mFree R h i))), (2, .int (zI (i : Int)))] [] L g := by
    intro d
    induction d with
    | zero => intro i g h1 h2; omega
    | succ d ih =>
      intro i g h1 h2 hG hF
      have inner : ∀ (c2 : Nat), i < 12 → mPn R i = c2 → c2 ≤ 6 → sB c2 (fun q => R 17 (6 * (i : Int) + q)) (fun q => R 18 (6 * (i : Int) + q)) → ∀ (d2 k : Nat), c2 < k + d2 → k ≤ c2 → zG p l e (zR0 1 20) s m args below meth c D A 7 0 0 (MQ below (zE D A (fun v L1 f1 => L = L1 ∧ mFr f f1 o ra ∧ v = some (.int (zI (mFree R h 12))) ∧ zMo G L f1 o ra 0 wt (h : Int) zn kn mn om R)) args s (zR0 1 20).cells (zR0 1 20).slots A) 106 [(0, .ref o), (1, .int (zI (mFree R h i))), (2, .int (zI (i : Int))), (3, .int (zI (c2 : Int))), (4, .int (zI (ge_ar c2 (mPt R i) k))), (5, .int (zI (k : Int)))] [] L g := by
        intro c2 hi hc hc6 hb d2
        induction d2 with
        | zero => intro k q1 q2; omega
        | succ d2 ih2 =>
          intro k q1 q2
          refine k_iload Xc d_M_free_106 rfl (n := 108) rfl ?_
          refine k_iload_n Xc d_M_free_108 rfl rfl (n := 109) rfl ?_
          refine k_icmp_ge Xc d_M_free_109 (t := 177) (n := 112) rfl rfl (by omega) (by omega) (fun h_109 => ?_) (fun h_109 => ?_)
          · refine k_iload_n Xc d_M_free_177 rfl rfl (n := 178) rfl ?_
            refine k_iload Xc d_M_free_178 rfl (n := 180) rfl ?_
            have ek : k = c2 := by omega
            subst ek
            have ab := ar_bd hb k (Nat.le_refl k)
            have ab : -240000 ≤ ge_ar k (mPt R i) k ∧ ge_ar k (mPt R i) k ≤ 240000 := by have z : ge_ar k (sP (fun q => R 17 (6 * (i : Int) + q)) (fun q => R 18 (6 * (i : Int) + q))) k = ge_ar k (mPt R i) k := rfl; rw [z] at ab; omega
            refine k_qS (na := 1) Xc (m_M_size l D G _ (by omega)) wd_788 wd_786 wd_787 wd_6 (by decide +kernel) ⟨by decide, by decide⟩ rfl rfl (Nat.le_of_ble_eq_true rfl) d_M_free_180 (n := 183) rfl ⟨Nat.zero_le _, Nat.zero_le _⟩ (fun r_180 e_180 => ?_)
            subst e_180
            refine k_isub Xc d_M_free_183 (n := 184) rfl ?_
            refine k_istore_n Xc d_M_free_184 rfl (by decide) (n := 185) rfl ?_
            refine k_iinc Xc d_M_free_185 rfl (by decide) (n := 188) rfl ?_
            refine k_goto Xc d_M_free_188 (t := 69) rfl ?_
            exact k_loc (ih (i + 1) _ (by omega) (by omega) hG hF) (by rw [mFree_s, hc]; rfl)
          · refine k_bipush Xc d_M_free_112 rfl (n := 114) rfl ?_
            refine k_iload_n Xc d_M_free_114 rfl rfl (n := 115) rfl ?_
            refine k_imul Xc d_M_free_115 (n := 116) rfl ?_
            refine k_iload Xc d_M_free_116 rfl (n := 118) rfl ?_
            refine k_iconst Xc d_M_free_118 (n := 119) rfl ?_
            refine k_iadd Xc d_M_free_119 (n := 120) rfl ?_
            refine k_iload_n Xc d_M_free_120 rfl rfl (n := 121) rfl ?_
            refine k_irem Xc d_M_free_121 (n := 122) rfl (by omega) (by omega) (by omega) (by omega) ?_
            refine k_val (md_nx (n := c2) (i := k) (by omega)) ?_
            have l1 : ge_nx c2 k < c2 := nx_lt (by omega)
            refine k_iadd Xc d_M_free_122 (n := 123) rfl ?_
            refine k_istore Xc d_M_free_123 (by decide) (n := 125) rfl ?_
            refine k_iload Xc d_M_free_125 rfl (n := 127) rfl ?_
            refine k_aload_n Xc d_M_free_127 rfl rfl (n := 128) rfl ?_
            refine k_get Xc u_M rfl 22 (by decide) wd_572 rfl d_M_free_128 (n := 131) rfl hG.1 hG.2.2.1 rfl ?_
            refine k_bipush Xc d_M_free_131 rfl (n := 133) rfl ?_
            refine k_iload_n Xc d_M_free_133 rfl rfl (n := 134) rfl ?_
            refine k_imul Xc d_M_free_134 (n := 135) rfl ?_
            refine k_iload Xc d_M_free_135 rfl (n := 137) rfl ?_
            refine k_iadd Xc d_M_free_137 (n := 138) rfl ?_
            refine k_iald Xc d_M_free_138 (n := 139) rfl (hG.2.1 17 (by decide)) (mr_17 hG) (by omega) (by omega) (by decide) ?_
            refine k_aload_n Xc d_M_free_139 rfl rfl (n := 140) rfl ?_
            refine k_get Xc u_M rfl 23 (by decide) wd_573 rfl d_M_free_140 (n := 143) rfl hG.1 hG.2.2.1 rfl ?_
            refine k_iload Xc d_M_free_143 rfl (n := 145) rfl ?_
            refine k_iald Xc d_M_free_145 (n := 146) rfl (hG.2.1 18 (by decide)) (mr_18 hG) (by omega) (by omega) (by decide) ?_
            refine k_imul Xc d_M_free_146 (n := 147) rfl ?_
            refine k_aload_n Xc d_M_free_147 rfl rfl (n := 148) rfl ?_
            refine k_get Xc u_M rfl 22 (by decide) wd_572 rfl d_M_free_148 (n := 151) rfl hG.1 hG.2.2.1 rfl ?_
            refine k_iload Xc d_M_free_151 rfl (n := 153) rfl ?_
            refine k_iald Xc d_M_free_153 (n := 154) rfl (hG.2.1 17 (by decide)) (mr_17 hG) (by omega) (by omega) (by decide) ?_
            refine k_aload_n Xc d_M_free_154 rfl rfl (n := 155) rfl ?_
            refine k_get Xc u_M rfl 23 (by decide) wd_573 rfl d_M_free_155 (n := 158) rfl hG.1 hG.2.2.1 rfl ?_
            refine k_bipush Xc d_M_free_158 rfl (n := 160) rfl ?_
            refine k_iload_n Xc d_M_free_160 rfl rfl (n := 161) rfl ?_
            refine k_imul Xc d_M_free_161 (n := 162) rfl ?_
            refine k_iload Xc d_M_free_162 rfl (n := 164) rfl ?_
            refine k_iadd Xc d_M_free_164 (n := 165) rfl ?_
            refine k_iald Xc d_M_free_165 (n := 166) rfl (hG.2.1 18 (by decide)) (mr_18 hG) (by omega) (by omega) (by decide) ?_
            refine k_imul Xc d_M_free_166 (n := 167) rfl ?_
            refine k_isub Xc d_M_free_167 (n := 168) rfl ?_
            refine k_iadd Xc d_M_free_168 (n := 169) rfl ?_
            refine k_istore Xc d_M_free_169 (by decide) (n := 171) rfl ?_
            refine k_iinc Xc d_M_free_171 rfl (by decide) (n := 174) rfl ?_
            refine k_goto Xc d_M_free_174 (t := 106) rfl ?_
            exact k_loc (ih2 (k + 1) (by omega) (by omega)) (by rw [ge_ar_s]; rfl)
      refine k_iload_n Xc d_M_free_69 rfl rfl (n := 70) rfl ?_
      refine k_bipush Xc d_M_free_70 rfl (n := 72) rfl ?_
      refine k_icmp_ge Xc d_M_free_72 (t := 191) (n := 75) rfl rfl (by omega) (by omega) (fun h_72 => ?_) (fun h_72 => ?_)
      · refine k_iload_n Xc d_M_free_191 rfl rfl (n := 192) rfl ?_
        refine k_iret Xc d_M_free_192 hr rfl (Nat.le_refl _) (Nat.le_refl _) ?_
        have ei : i = 12 := by omega
        subst ei
        exact ⟨rfl, hF, rfl, hG⟩
      · refine k_aload_n Xc d_M_free_75 rfl rfl (n := 76) rfl ?_
        refine k_get Xc u_M rfl 18 (by decide) wd_568 rfl d_M_free_76 (n := 79) rfl hG.1 hG.2.2.1 rfl ?_
        refine k_iload_n Xc d_M_free_79 rfl rfl (n := 80) rfl ?_
        have zi := hP i (by omega)
        refine k_iald Xc d_M_free_80 (n := 81) rfl (hG.2.1 13 (by decide)) (mr_13 hG) (by omega) (by omega) (by decide) ?_
        refine k_if_ge Xc d_M_free_81 (t := 88) (n := 84) rfl rfl (by omega) (fun h_81 => ?_) (fun h_81 => ?_)
        · refine k_aload_n Xc d_M_free_88 rfl rfl (n := 89) rfl ?_
          refine k_get Xc u_M rfl 15 (by decide) wd_565 rfl d_M_free_89 (n := 92) rfl hG.1 hG.2.2.1 rfl ?_
          refine k_aload_n Xc d_M_free_92 rfl rfl (n := 93) rfl ?_
          refine k_get Xc u_M rfl 18 (by decide) wd_568 rfl d_M_free_93 (n := 96) rfl hG.1 hG.2.2.1 rfl ?_
          refine k_iload_n Xc d_M_free_96 rfl rfl (n := 97) rfl ?_
          refine k_iald Xc d_M_free_97 (n := 98) rfl (hG.2.1 13 (by decide)) (mr_13 hG) (by omega) (by omega) (by decide) ?_
          have z3 := zi.2.2 (by omega)
          obtain ⟨c2, hc2⟩ : ∃ c2 : Nat, R 10 (R 13 (i : Int)) = (c2 : Int) := ⟨(R 10 (R 13 (i : Int))).toNat, by omega⟩
          refine k_iald Xc d_M_free_98 (n := 99) rfl (hG.2.1 10 (by decide)) (mr_10 hG) (by omega) (by omega) (by decide) ?_
          refine k_val hc2 ?_
          refine k_istore_n Xc d_M_free_99 rfl (by decide) (n := 100) rfl ?_
          refine k_iconst Xc d_M_free_100 (n := 101) rfl ?_
          refine k_istore Xc d_M_free_101 (by decide) (n := 103) rfl ?_
          refine k_iconst Xc d_M_free_103 (n := 104) rfl ?_
          refine k_istore Xc d_M_free_104 (by decide) (n := 106) rfl ?_
          exact k_loc (inner c2 (by omega) (by unfold mPn; rw [if_neg (by omega), hc2]; rfl) (by omega) ⟨by omega, fun j hj => z3.2.2 j (by omega)⟩ (c2 + 1) 0 (by omega) (by omega)) rfl
        · refine k_iconst Xc d_M_free_84 (n := 85) rfl ?_
          refine k_goto Xc d_M_free_85 (t := 99) rfl ?_
          refine k_istore_n Xc d_M_free_99 rfl (by decide) (n := 100) rfl ?_
          refine k_iconst Xc d_M_free_100 (n := 101) rfl ?_
          refine k_istore Xc d_M_free_101 (by decide) (n := 103) rfl ?_
          refine k_iconst Xc d_M_free_103 (n := 104) rfl ?_
          refine k_istore Xc d_M_free_104 (by decide) (n := 106) rfl ?_
          exact k_loc (inner 0 (by omega) (by unfold mPn; rw [if_pos (by omega)]) (by omega) ⟨by omega, fun j hj => absurd hj (by omega)⟩ 1 0 (by omega) (by omega)) rfl
  have first : ∀ (g : Nat → va_E), zMo G L g o ra 0 wt (h : Int) zn kn mn om R → mFr f g o ra → ∀ (d i : Nat), h < i + d → i ≤ h → zG p l e (zR0 1 20) s m args below meth c D A 7 0 0 (MQ below (zE D A (fun v L1 f1 => L = L1 ∧ mFr f f1 o ra ∧ v = some (.int (zI (mFree R h 12))) ∧ zMo G L f1 o ra 0 wt (h : Int) zn kn mn om R)) args s (zR0 1 20).cells (zR0 1 20).slots A) 9 [(0, .ref o), (1, .int (zI (ge_ar h (sP (R 2) (R 3)) i))), (2, .int (zI (i : Int)))] [] L g := by
    intro g hG hF d
    induction d with
    | zero => intro i h1 h2; omega
    | succ d ih =>
      intro i h1 h2
      refine k_iload_n Xc d_M_free_9 rfl rfl (n := 10) rfl ?_
      refine k_aload_n Xc d_M_free_10 rfl rfl (n := 11) rfl ?_
      refine k_get Xc u_M rfl 4 (by decide) wd_554 rfl d_M_free_11 (n := 14) rfl hG.1 hG.2.2.1 rfl ?_
      refine k_icmp_ge Xc d_M_free_14 (t := 62) (n := 17) rfl rfl (by omega) (by omega) (fun h_14 => ?_) (fun h_14 => ?_)
      · refine k_iload_n Xc d_M_free_62 rfl rfl (n := 63) rfl ?_
        have ei : i = h := by omega
        subst ei
        have ab := ar_bd hH i (Nat.le_refl i)
        refine k_qS (na := 1) Xc (m_M_size l D G _ (by omega)) wd_788 wd_786 wd_787 wd_6 (by decide +kernel) ⟨by decide, by decide⟩ rfl rfl (Nat.le_of_ble_eq_true rfl) d_M_free_63 (n := 66) rfl ⟨Nat.zero_le _, Nat.zero_le _⟩ (fun r_63 e_63 => ?_)
        subst e_63
        refine k_istore_n Xc d_M_free_66 rfl (by decide) (n := 67) rfl ?_
        refine k_iconst Xc d_M_free_67 (n := 68) rfl ?_
        refine k_istore_n Xc d_M_free_68 rfl (by decide) (n := 69) rfl ?_
        exact k_loc (outer 13 0 _ (by omega) (by omega) hG hF) rfl
      · refine k_iload_n Xc d_M_free_17 rfl rfl (n := 18) rfl ?_
        refine k_iconst Xc d_M_free_18 (n := 19) rfl ?_
        refine k_iadd Xc d_M_free_19 (n := 20) rfl ?_
        refine k_aload_n Xc d_M_free_20 rfl rfl (n := 21) rfl ?_
        refine k_get Xc u_M rfl 4 (by decide) wd_554 rfl d_M_free_21 (n := 24) rfl hG.1 hG.2.2.1 rfl ?_
        refine k_irem Xc d_M_free_24 (n := 25) rfl (by omega) (by omega) (by omega) (by omega) ?_
        refine k_val (md_nx (n := h) (i := i) (by omega)) ?_
        have l1 : ge_nx h i < h := nx_lt (by omega)
        refine k_istore_n Xc d_M_free_25 rfl (by decide) (n := 26) rfl ?_
        refine k_iload_n Xc d_M_free_26 rfl rfl (n := 27) rfl ?_
        refine k_aload_n Xc d_M_free_27 rfl rfl (n := 28) rfl ?_
        refine k_get Xc u_M rfl 5 (by decide) wd_555 rfl d_M_free_28 (n := 31) rfl hG.1 hG.2.2.1 rfl ?_
        refine k_iload_n Xc d_M_free_31 rfl rfl (n := 32) rfl ?_
        refine k_iald Xc d_M_free_32 (n := 33) rfl (hG.2.1 2 (by decide)) (mr_2 hG) (by omega) (by omega) (by decide) ?_
        refine k_aload_n Xc d_M_free_33 rfl rfl (n := 34) rfl ?_
        refine k_get Xc u_M rfl 6 (by decide) wd_556 rfl d_M_free_34 (n := 37) rfl hG.1 hG.2.2.1 rfl ?_
        refine k_iload_n Xc d_M_free_37 rfl rfl (n := 38) rfl ?_
        refine k_iald Xc d_M_free_38 (n := 39) rfl (hG.2.1 3 (by decide)) (mr_3 hG) (by omega) (by omega) (by decide) ?_
        refine k_imul Xc d_M_free_39 (n := 40) rfl ?_
        refine k_aload_n Xc d_M_free_40 rfl rfl (n := 41) rfl ?_
        refine k_get Xc u_M rfl 5 (by decide) wd_555 rfl d_M_free_41 (n := 44) rfl hG.1 hG.2.2.1 rfl ?_
        refine k_iload_n Xc d_M_free_44 rfl rfl (n := 45) rfl ?_
        refine k_iald Xc d_M_free_45 (n := 46) rfl (hG.2.1 2 (by decide)) (mr_2 hG) (by omega) (by omega) (by decide) ?_
        refine k_aload_n Xc d_M_free_46 rfl rfl (n := 47) rfl ?_
        refine k_get Xc u_M rfl 6 (by decide) wd_556 rfl d_M_free_47 (n := 50) rfl hG.1 hG.2.2.1 rfl ?_
        refine k_iload_n Xc d_M_free_50 rfl rfl (n := 51) rfl ?_
        refine k_iald Xc d_M_free_51 (n := 52) rfl (hG.2.1 3 (by decide)) (mr_3 hG) (by omega) (by omega) (by decide) ?_
        refine k_imul Xc d_M_free_52 (n := 53) rfl ?_
        refine k_isub Xc d_M_free_53 (n := 54) rfl ?_
        refine k_iadd Xc d_M_free_54 (n := 55) rfl ?_
        refine k_istore_n Xc d_M_free_55 rfl (by decide) (n := 56) rfl ?_
        refine k_iinc Xc d_M_free_56 rfl (by decide) (n := 59) rfl ?_
        refine k_goto Xc d_M_free_59 (t := 9) rfl ?_
        exact k_loc (ih (i + 1) (by omega) (by omega)) (by rw [ge_ar_s]; rfl)
  refine k_aload_n Xc d_M_free_0 rfl rfl (n := 1) rfl ?_
  refine k_iconst Xc d_M_free_1 (n := 2) rfl ?_
  refine k_putM_code Xc hM wd_550 d_M_free_2 (n := 5) rfl (fun f_2 hM_2 hF_2 => ?_)
  refine k_iconst Xc d_M_free_5 (n := 6) rfl ?_
  refine k_istore_n Xc d_M_free_6 rfl (by decide) (n := 7) rfl ?_
  refine k_iconst Xc d_M_free_7 (n := 8) rfl ?_
  refine k_istore_n Xc d_M_free_8 rfl (by decide) (n := 9) rfl ?_
  exact k_loc (first _ hM_2 (mFr_tr mFr_rf hF_2) (h + 1) 0 (by omega) (by omega)) rfl
