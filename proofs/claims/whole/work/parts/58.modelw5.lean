-- MODEL: search, place, zone, kind
def fF (R : Nat → Int → Int) (h z9 kd a : Nat) (y x t : Int) : Prop := (0 ≤ y ∧ y ≤ 30 ∧ 0 ≤ x ∧ x ≤ 30 ∧ 0 ≤ t ∧ t ≤ 3) ∧ fFit R h z9 kd a t.toNat x y
theorem mI_same {R S : Nat → Int → Int} {h z9 k9 : Nat} (s : ∀ k : Nat, k ≠ 19 → k ≠ 20 → k ≠ 21 → k ≠ 22 → S k = R k) (hI : mI R h z9 k9) : mI S h z9 k9 := by
  unfold mI mZ mP at *
  rw [s 2 (by decide) (by decide) (by decide) (by decide), s 3 (by decide) (by decide) (by decide) (by decide), s 4 (by decide) (by decide) (by decide) (by decide), s 5 (by decide) (by decide) (by decide) (by decide), s 6 (by decide) (by decide) (by decide) (by decide), s 7 (by decide) (by decide) (by decide) (by decide), s 8 (by decide) (by decide) (by decide) (by decide), s 9 (by decide) (by decide) (by decide) (by decide), s 10 (by decide) (by decide) (by decide) (by decide), s 11 (by decide) (by decide) (by decide) (by decide), s 12 (by decide) (by decide) (by decide) (by decide), s 13 (by decide) (by decide) (by decide) (by decide), s 17 (by decide) (by decide) (by decide) (by decide), s 18 (by decide) (by decide) (by decide) (by decide)]
  exact hI
theorem kp_same {R S : Nat → Int → Int} (h8 : S 8 = R 8) (h9 : S 9 = R 9) (kd t : Nat) (ax ay : Int) (a : Nat) : kp S kd t ax ay a = kp R kd t ax ay a := by
  funext j
  unfold kp kq
  rw [h8, h9]
theorem fFit_same {R S : Nat → Int → Int} {h z9 kd a t : Nat} {ax ay : Int} (s : ∀ k : Nat, k ≠ 19 → k ≠ 20 → k ≠ 21 → k ≠ 22 → S k = R k) : fFit S h z9 kd a t ax ay ↔ fFit R h z9 kd a t ax ay := by
  unfold fFit fZone fZ1 fPart fP1
  rw [kp_same (s 8 (by decide) (by decide) (by decide) (by decide)) (s 9 (by decide) (by decide) (by decide) (by decide)), s 2 (by decide) (by decide) (by decide) (by decide), s 3 (by decide) (by decide) (by decide) (by decide), s 4 (by decide) (by decide) (by decide) (by decide), s 5 (by decide) (by decide) (by decide) (by decide), s 6 (by decide) (by decide) (by decide) (by decide), s 7 (by decide) (by decide) (by decide) (by decide), s 10 (by decide) (by decide) (by decide) (by decide), s 11 (by decide) (by decide) (by decide) (by decide), s 12 (by decide) (by decide) (by decide) (by decide), s 13 (by decide) (by decide) (by decide) (by decide), s 17 (by decide) (by decide) (by decide) (by decide), s 18 (by decide) (by decide) (by decide) (by decide)]
/-- what laying a part does to the rows -/
def plc (R R1 : Nat → Int → Int) (kd a t : Nat) (ax ay : Int) (p : Nat) : Prop := (∀ k : Nat, k ≠ 13 → k ≠ 14 → k ≠ 15 → k ≠ 16 → k ≠ 17 → k ≠ 18 → k ≠ 19 → k ≠ 20 → R1 k = R k) ∧ R1 13 = iu (R 13) (p : Int) (kd : Int) ∧ R1 14 = iu (R 14) (p : Int) ax ∧ R1 15 = iu (R 15) (p : Int) ay ∧ R1 16 = iu (R 16) (p : Int) (t : Int) ∧
  (∀ j : Nat, j < a → R1 17 (6 * (p : Int) + (j : Int)) = (kp R kd t ax ay a j).1 ∧ R1 18 (6 * (p : Int) + (j : Int)) = (kp R kd t ax ay a j).2) ∧ (∀ q : Int, q < 6 * (p : Int) ∨ 6 * (p : Int) + 6 ≤ q → R1 17 q = R 17 q ∧ R1 18 q = R 18 q)
def mRd (w : Nat) (P : Nat → Int × Int) : Prop := mrs w P true w = w * (w - 2) ∨ mrs w P false w = w * (w - 2)
def zAdd (R R1 : Nat → Int → Int) (w z9 : Nat) (g : Int) : Prop := (∀ k : Nat, k ≠ 4 → k ≠ 5 → k ≠ 6 → k ≠ 7 → R1 k = R k) ∧ R1 6 = iu (R 6) (z9 : Int) (w : Int) ∧ R1 7 = iu (R 7) (z9 : Int) g ∧ (∀ j : Nat, j < w → R1 4 (6 * (z9 : Int) + (j : Int)) = R 0 (j : Int) ∧ R1 5 (6 * (z9 : Int) + (j : Int)) = R 1 (j : Int)) ∧ (∀ q : Int, q < 6 * (z9 : Int) → R1 4 q = R 4 q ∧ R1 5 q = R 5 q)
def kAdd (R R1 : Nat → Int → Int) (w k9 : Nat) (g t : Int) : Prop := (∀ k : Nat, k ≠ 8 → k ≠ 9 → k ≠ 10 → k ≠ 11 → k ≠ 12 → R1 k = R k) ∧ R1 10 = iu (R 10) (k9 : Int) (w : Int) ∧ R1 11 = iu (R 11) (k9 : Int) g ∧ R1 12 = iu (R 12) (k9 : Int) t ∧ (∀ j : Nat, j < w → R1 8 (6 * (k9 : Int) + (j : Int)) = R 0 (j : Int) ∧ R1 9 (6 * (k9 : Int) + (j : Int)) = R 1 (j : Int)) ∧ (∀ q : Int, q < 6 * (k9 : Int) → R1 8 q = R 8 q ∧ R1 9 q = R 9 q)
set_option maxRecDepth 100000 in
set_option maxHeartbeats 4000000 in
/-- the first place that fits -/
theorem m_M_search (l : Launch) (D : va_G) (G : Nat → ClassId) {L : List Nat} {f : Nat → va_E} {o : Nat} {ra : Nat → Nat} {cd wt mn om : Int} {h z9 k9 : Nat} {R : Nat → Int → Int} (hM : zMo G L f o ra cd wt (h : Int) (z9 : Int) (k9 : Int) mn om R) (hI : mI R h z9 k9) (kd a : Nat) (hkd : kd < k9) (h10 : R 10 (kd : Int) = (a : Int)) : zM l D G y_M_search (.code y_M_search c_M_search 5 (some .int) :: BG) (zR0 4 98) [.ref o, .int (zI (kd : Int))] L f (fun v L1 f1 => L = L1 ∧ mFr f f1 o ra ∧ ∃ (R1 : Nat → Int → Int) (mn1 om1 r : Int), (∀ k : Nat, k ≠ 19 → k ≠ 20 → k ≠ 21 → k ≠ 22 → R1 k = R k) ∧ zMo G L f1 o ra cd wt (h : Int) (z9 : Int) (k9 : Int) mn1 om1 R1 ∧ v = some (.int (zI r)) ∧ ge_first (fF R h z9 kd a) r) := by
  refine zM.of (by decide) (Nat.le_of_ble_eq_true rfl) rfl (fun p e s m args below meth c A Xc hr hnm => ?_)
  have h6 := hI.2.2.2.2.1
  have l1 : ∀ (d y : Nat) (g : Nat → va_E) (R1 : Nat → Int → Int) (mn1 om1 : Int), 31 < y + d → y ≤ 31 → zMo G L g o ra cd wt (h : Int) (z9 : Int) (k9 : Int) mn1 om1 R1 → mFr f g o ra → (∀ k : Nat, k ≠ 19 → k ≠ 20 → k ≠ 21 → k ≠ 22 → R1 k = R k) → (∀ y2 x2 t2 : Int, ge_bf y2 x2 t2 (y : Int) 0 0 → ¬ fF R h z9 kd a y2 x2 t2) → zG p l e (zR0 4 98) s m args below meth c D A 5 0 0 (MQ below (zE D A (fun v L1 f1 => L = L1 ∧ mFr f f1 o ra ∧ ∃ (R1 : Nat → Int → Int) (mn1 om1 r : Int), (∀ k : Nat, k ≠ 19 → k ≠ 20 → k ≠ 21 → k ≠ 22 → R1 k = R k) ∧ zMo G L f1 o ra cd wt (h : Int) (z9 : Int) (k9 : Int) mn1 om1 R1 ∧ v = some (.int (zI r)) ∧ ge_first (fF R h z9 kd a) r)) args s (zR0 4 98).cells (zR0 4 98).slots A) 2 [(0, .ref o), (1, .int (zI (kd : Int))), (2, .int (zI (y : Int)))] [] L g := by
    intro d
    induction d with
    | zero => intro y g R1 mn1 om1 q1 q2; omega
    | succ d ih =>
      intro y g R1 mn1 om1 q1 q2 hG hF hK hJ
      have l2 : y ≤ 30 → ∀ (d x : Nat) (g : Nat → va_E) (R1 : Nat → Int → Int) (mn1 om1 : Int), 31 < x + d → x ≤ 31 → zMo G L g o ra cd wt (h : Int) (z9 : Int) (k9 : Int) mn1 om1 R1 → mFr f g o ra → (∀ k : Nat, k ≠ 19 → k ≠ 20 → k ≠ 21 → k ≠ 22 → R1 k = R k) → (∀ y2 x2 t2 : Int, ge_bf y2 x2 t2 (y : Int) (x : Int) 0 → ¬ fF R h z9 kd a y2 x2 t2) → zG p l e (zR0 4 98) s m args below meth c D A 5 0 0 (MQ below (zE D A (fun v L1 f1 => L = L1 ∧ mFr f f1 o ra ∧ ∃ (R1 : Nat → Int → Int) (mn1 om1 r : Int), (∀ k : Nat, k ≠ 19 → k ≠ 20 → k ≠ 21 → k ≠ 22 → R1 k = R k) ∧ zMo G L f1 o ra cd wt (h : Int) (z9 : Int) (k9 : Int) mn1 om1 R1 ∧ v = some (.int (zI r)) ∧ ge_first (fF R h z9 kd a) r)) args s (zR0 4 98).cells (zR0 4 98).slots A) 10 [(0, .ref o), (1, .int (zI (kd : Int))), (2, .int (zI (y : Int))), (3, .int (zI (x : Int)))] [] L g := by
        intro hy d
        induction d with
        | zero => intro x g R1 mn1 om1 q1 q2; omega
        | succ d ih2 =>
          intro x g R1 mn1 om1 q1 q2 hG hF hK hJ
          have l3 : x ≤ 30 → ∀ (d t : Nat) (g : Nat → va_E) (R1 : Nat → Int → Int) (mn1 om1 : Int), 4 < t + d → t ≤ 4 → zMo G L g o ra cd wt (h : Int) (z9 : Int) (k9 : Int) mn1 om1 R1 → mFr f g o ra → (∀ k : Nat, k ≠ 19 → k ≠ 20 → k ≠ 21 → k ≠ 22 → R1 k = R k) → (∀ y2 x2 t2 : Int, ge_bf y2 x2 t2 (y : Int) (x : Int) (t : Int) → ¬ fF R h z9 kd a y2 x2 t2) → zG p l e (zR0 4 98) s m args below meth c D A 5 0 0 (MQ below (zE D A (fun v L1 f1 => L = L1 ∧ mFr f f1 o ra ∧ ∃ (R1 : Nat → Int → Int) (mn1 om1 r : Int), (∀ k : Nat, k ≠ 19 → k ≠ 20 → k ≠ 21 → k ≠ 22 → R1 k = R k) ∧ zMo G L f1 o ra cd wt (h : Int) (z9 : Int) (k9 : Int) mn1 om1 R1 ∧ v = some (.int (zI r)) ∧ ge_first (fF R h z9 kd a) r)) args s (zR0 4 98).cells (zR0 4 98).slots A) 19 [(0, .ref o), (1, .int (zI (kd : Int))), (2, .int (zI (y : Int))), (3, .int (zI (x : Int))), (4, .int (zI (t : Int)))] [] L g := by
            intro hx d
            induction d with
            | zero => intro t g R1 mn1 om1 q1 q2; omega
            | succ d ih3 =>
              intro t g R1 mn1 om1 q1 q2 hG hF hK hJ
              refine k_iload Xc d_M_search_19 rfl (n := 21) rfl ?_
              refine k_iconst Xc d_M_search_21 (n := 22) rfl ?_
              refine k_icmp_ge Xc d_M_search_22 (t := 57) (n := 25) rfl rfl (by omega) (by omega) (fun h_22 => ?_) (fun h_22 => ?_)
              · refine k_iinc Xc d_M_search_57 rfl (by decide) (n := 60) rfl ?_
                refine k_goto Xc d_M_search_60 (t := 10) rfl ?_
                exact k_loc (ih2 (x + 1) _ _ _ _ (by omega) (by omega) hG hF hK (fun y2 x2 t2 q z => by
                  unfold ge_bf at q
                  have z1 := z.1
                  exact hJ y2 x2 t2 (by unfold ge_bf; omega) z)) rfl
              · refine k_aload_n Xc d_M_search_25 rfl rfl (n := 26) rfl ?_
                refine k_iload_n Xc d_M_search_26 rfl rfl (n := 27) rfl ?_
                refine k_iload_n Xc d_M_search_27 rfl rfl (n := 28) rfl ?_
                refine k_iload_n Xc d_M_search_28 rfl rfl (n := 29) rfl ?_
                refine k_iload Xc d_M_search_29 rfl (n := 31) rfl ?_
                refine k_wV (na := 4) Xc (m_M_isFit l D G hG (mI_same hK hI) _ a _ hkd (by rw [hK 10 (by decide) (by decide) (by decide) (by decide)]; exact h10) (by omega) _ _ (by omega) (by omega)) hG.1 hG.2.2.1 rfl wd_711 wd_708 wd_710 ws_18 wd_6 (by decide +kernel) ⟨by decide, by decide⟩ rfl rfl (Nat.le_of_ble_eq_true rfl) d_M_search_31 (n := 34) rfl ⟨Nat.zero_le _, Nat.zero_le _⟩ (fun v_31 L_31 f_31 e_31 => ?_)
                obtain ⟨rfl, hF_31, S_31, mn_31, om_31, r_31, hK_31, hG_31, rfl, hB_31⟩ := e_31
                have z_31 := zB_01 hB_31
                refine k_if_eq Xc d_M_search_34 (t := 51) (n := 37) rfl rfl (by omega) (fun h_34 => ?_) (fun h_34 => ?_)
                · refine k_iinc Xc d_M_search_51 rfl (by decide) (n := 54) rfl ?_
                  refine k_goto Xc d_M_search_54 (t := 19) rfl ?_
                  exact k_loc (ih3 (t + 1) _ _ _ _ (by omega) (by omega) hG_31 (mFr_tr hF hF_31) (fun k y1 y2 y3 y4 => (hK_31 k y1 y2 y3 y4).trans (hK k y1 y2 y3 y4)) (fun y2 x2 t2 q z => by
                    unfold ge_bf at q
                    by_cases c : y2 = (y : Int) ∧ x2 = (x : Int) ∧ t2 = (t : Int)
                    · obtain ⟨rfl, rfl, rfl⟩ := c
                      exact zB_f hB_31 (by omega) ((fFit_same hK).mpr z.2)
                    · exact hJ y2 x2 t2 (by unfold ge_bf; omega) z)) rfl
                · refine k_iload_n Xc d_M_search_37 rfl rfl (n := 38) rfl ?_
                  refine k_bipush Xc d_M_search_38 rfl (n := 40) rfl ?_
                  refine k_iload_n Xc d_M_search_40 rfl rfl (n := 41) rfl ?_
                  refine k_imul Xc d_M_search_41 (n := 42) rfl ?_
                  refine k_iadd Xc d_M_search_42 (n := 43) rfl ?_
                  refine k_sipush Xc d_M_search_43 rfl (n := 46) rfl ?_
                  refine k_iload Xc d_M_search_46 rfl (n := 48) rfl ?_
                  refine k_imul Xc d_M_search_48 (n := 49) rfl ?_
                  refine k_iadd Xc d_M_search_49 (n := 50) rfl ?_
                  refine k_iret Xc d_M_search_50 hr rfl (Nat.le_refl _) (Nat.le_refl _) ?_
                  exact ⟨rfl, (mFr_tr hF hF_31), S_31, _, _, _, (fun k y1 y2 y3 y4 => (hK_31 k y1 y2 y3 y4).trans (hK k y1 y2 y3 y4)), hG_31, rfl, Or.inr ⟨(y : Int), (x : Int), (t : Int), ⟨by omega, (fFit_same hK).mp (zB_t hB_31 (by omega))⟩, rfl, hJ⟩⟩
          refine k_iload_n Xc d_M_search_10 rfl rfl (n := 11) rfl ?_
          refine k_bipush Xc d_M_search_11 rfl (n := 13) rfl ?_
          refine k_icmp_gt Xc d_M_search_13 (t := 63) (n := 16) rfl rfl (by omega) (by omega) (fun h_13 => ?_) (fun h_13 => ?_)
          · refine k_iinc Xc d_M_search_63 rfl (by decide) (n := 66) rfl ?_
            refine k_goto Xc d_M_search_66 (t := 2) rfl ?_
            exact k_loc (ih (y + 1) _ _ _ _ (by omega) (by omega) hG hF hK (fun y2 x2 t2 q z => by
              unfold ge_bf at q
              have z1 := z.1
              exact hJ y2 x2 t2 (by unfold ge_bf; omega) z)) rfl
          · refine k_iconst Xc d_M_search_16 (n := 17) rfl ?_
            refine k_istore Xc d_M_search_17 (by decide) (n := 19) rfl ?_
            exact k_loc (l3 (by omega) 5 0 _ _ _ _ (by omega) (by omega) hG hF hK hJ) rfl
      refine k_iload_n Xc d_M_search_2 rfl rfl (n := 3) rfl ?_
      refine k_bipush Xc d_M_search_3 rfl (n := 5) rfl ?_
      refine k_icmp_gt Xc d_M_search_5 (t := 69) (n := 8) rfl rfl (by omega) (by omega) (fun h_5 => ?_) (fun h_5 => ?_)
      · refine k_iconst Xc d_M_search_69 (n := 70) rfl ?_
        refine k_iret Xc d_M_search_70 hr rfl (Nat.le_refl _) (Nat.le_refl _) ?_
        exact ⟨rfl, hF, R1, _, _, -1, hK, hG, rfl, Or.inl ⟨rfl, fun y2 x2 t2 z => by
          have z1 := z.1
          exact hJ y2 x2 t2 (by unfold ge_bf; omega) z⟩⟩
      · refine k_iconst Xc d_M_search_8 (n := 9) rfl ?_
        refine k_istore_n Xc d_M_search_9 rfl (by decide) (n := 10) rfl ?_
        exact k_loc (l2 (by omega) 32 0 _ _ _ _ (by omega) (by omega) hG hF hK hJ) rfl
  refine k_iconst Xc d_M_search_0 (n := 1) rfl ?_
  refine k_istore_n Xc d_M_search_1 rfl (by decide) (n := 2) rfl ?_
  exact k_loc (l1 32 0 _ R _ _ (by omega) (by omega) hM mFr_rf (fun _ _ _ _ _ => rfl) (fun y2 x2 t2 q z => by
    unfold ge_bf at q
    have z1 := z.1
    omega)) rfl
set_option maxRecDepth 100000 in
set_option maxHeartbeats 4000000 in
/-- a part is laid -/
theorem m_M_place (l : Launch) (D : va_G) (G : Nat → ClassId) {L : List Nat} {f : Nat → va_E} {o : Nat} {ra : Nat → Nat} {cd wt hc zn kn mn om : Int} {R : Nat → Int → Int} (hM : zMo G L f o ra cd wt hc zn kn mn om R) (kd a t : Nat) (hkd : kd < 6) (ha : 1 ≤ a) (ha6 : a ≤ 6) (h10 : R 10 (kd : Int) = (a : Int)) (hq : kOk R kd a) (ht : t ≤ 3) (ax ay : Int) (hx : 0 ≤ ax ∧ ax ≤ 30) (hy : 0 ≤ ay ∧ ay ≤ 30) (hp : ∀ j : Int, 0 ≤ j → j < 12 → -1 ≤ R 13 j ∧ R 13 j ≤ 5) (p0 : Nat) (hp0 : p0 < 12) (hf0 : R 13 (p0 : Int) < 0) : zM l D G y_M_place (.code y_M_place c_M_place 7 (some .int) :: BG) (zR0 1 31) [.ref o, .int (zI (kd : Int)), .int (zI ax), .int (zI ay), .int (zI (t : Int))] L f (fun v L1 f1 => L = L1 ∧ mFr f f1 o ra ∧ ∃ (p : Nat) (R1 : Nat → Int → Int), p < 12 ∧ R 13 (p : Int) < 0 ∧ (∀ q : Nat, q < p → 0 ≤ R 13 (q : Int)) ∧ v = some (.int (zI (p : Int))) ∧ plc R R1 kd a t ax ay p ∧ zMo G L f1 o ra cd wt hc zn kn (a : Int) om R1) := by
  refine zM.of (by decide) (Nat.le_of_ble_eq_true rfl) rfl (fun p e s m args below meth c A Xc hr hnm => ?_)
  have second : ∀ (p1 : Nat) (RB : Nat → Int → Int), p1 < 12 → R 13 (p1 : Int) < 0 → (∀ q : Nat, q < p1 → 0 ≤ R 13 (q : Int)) → (∀ j : Nat, j < a → RB 19 (j : Int) = ((kp R kd t ax ay a) j).1 ∧ RB 20 (j : Int) = ((kp R kd t ax ay a) j).2) → (∀ k : Nat, k ≠ 13 → k ≠ 14 → k ≠ 15 → k ≠ 16 → k ≠ 19 → k ≠ 20 → RB k = R k) → RB 13 = iu (R 13) (p1 : Int) (kd : Int) → RB 14 = iu (R 14) (p1 : Int) ax → RB 15 = iu (R 15) (p1 : Int) ay → RB 16 = iu (R 16) (p1 : Int) (t : Int) → ∀ (d i : Nat) (g : Nat → va_E) (R1 : Nat → Int → Int), a < i + d → i ≤ a → zMo G L g o ra cd wt hc zn kn (a : Int) om R1 → mFr f g o ra → (∀ k : Nat, k ≠ 17 → k ≠ 18 → R1 k = RB k) → (∀ j : Nat, j < i → R1 17 (6 * (p1 : Int) + (j : Int)) = ((kp R kd t ax ay a) j).1 ∧ R1 18 (6 * (p1 : Int) + (j : Int)) = ((kp R kd t ax ay a) j).2) → (∀ q : Int, q < 6 * (p1 : Int) ∨ 6 * (p1 : Int) + 6 ≤ q → R1 17 q = R 17 q ∧ R1 18 q = R 18 q) → zG p l e (zR0 1 31) s m args below meth c D A 7 0 0 (MQ below (zE D A (fun v L1 f1 => L = L1 ∧ mFr f f1 o ra ∧ ∃ (p : Nat) (R1 : Nat → Int → Int), p < 12 ∧ R 13 (p : Int) < 0 ∧ (∀ q : Nat, q < p → 0 ≤ R 13 (q : Int)) ∧ v = some (.int (zI (p : Int))) ∧ plc R R1 kd a t ax ay p ∧ zMo G L f1 o ra cd wt hc zn kn (a : Int) om R1)) args s (zR0 1 31).cells (zR0 1 31).slots A) 64 [(0, .ref o), (1, .int (zI (kd : Int))), (2, .int (zI ax)), (3, .int (zI ay)), (4, .int (zI (t : Int))), (5, .int (zI (p1 : Int))), (6, .int (zI (i : Int)))] [] L g := by
    intro p1 RB hp1 hfr hbe hS hB b13 b14 b15 b16 d
    induction d with
    | zero => intro i g R1 h1 h2; omega
    | succ d ih =>
      intro i g R1 h1 h2 hG hF hK hJ hU
      refine k_iload Xc d_M_place_64 rfl (n := 66) rfl ?_
      refine k_aload_n Xc d_M_place_66 rfl rfl (n := 67) rfl ?_
      refine k_get Xc u_M rfl 24 (by decide) wd_574 rfl d_M_place_67 (n := 70) rfl hG.1 hG.2.2.1 rfl ?_
      refine k_icmp_ge Xc d_M_place_70 (t := 119) (n := 73) rfl rfl (by omega) (by omega) (fun h_70 => ?_) (fun h_70 => ?_)
      · refine k_iload Xc d_M_place_119 rfl (n := 121) rfl ?_
        refine k_iret Xc d_M_place_121 hr rfl (Nat.le_refl _) (Nat.le_refl _) ?_
        have ei : i = a := by omega
        subst ei
        refine ⟨rfl, hF, p1, R1, hp1, hfr, hbe, rfl, ⟨fun k y1 y2 y3 y4 y5 y6 y7 y8 => ?_, ?_, ?_, ?_, ?_, hJ, hU⟩, hG⟩
        · rw [hK k y5 y6]; exact hB k y1 y2 y3 y4 y7 y8
        · rw [hK 13 (by decide) (by decide)]; exact b13
        · rw [hK 14 (by decide) (by decide)]; exact b14
        · rw [hK 15 (by decide) (by decide)]; exact b15
        · rw [hK 16 (by decide) (by decide)]; exact b16
      · refine k_aload_n Xc d_M_place_73 rfl rfl (n := 74) rfl ?_
        refine k_get Xc u_M rfl 22 (by decide) wd_572 rfl d_M_place_74 (n := 77) rfl hG.1 hG.2.2.1 rfl ?_
        refine k_bipush Xc d_M_place_77 rfl (n := 79) rfl ?_
        refine k_iload Xc d_M_place_79 rfl (n := 81) rfl ?_
        refine k_imul Xc d_M_place_81 (n := 82) rfl ?_
        refine k_iload Xc d_M_place_82 rfl (n := 84) rfl ?_
        refine k_iadd Xc d_M_place_84 (n := 85) rfl ?_
        refine k_aload_n Xc d_M_place_85 rfl rfl (n := 86) rfl ?_
        refine k_get Xc u_M rfl 25 (by decide) wd_575 rfl d_M_place_86 (n := 89) rfl hG.1 hG.2.2.1 rfl ?_
        refine k_iload Xc d_M_place_89 rfl (n := 91) rfl ?_
        refine k_iald Xc d_M_place_91 (n := 92) rfl (hG.2.1 19 (by decide)) (mr_19 hG) (by omega) (by omega) (by decide) ?_
        refine k_iastN Xc hG 17 (by decide) d_M_place_92 (n := 93) rfl (by omega) (by show _ < ((72 : Nat) : Int); omega) (fun f_92 R_92 hr_92 hk_92 hM_92 hF_92 => ?_)
        refine k_aload_n Xc d_M_place_93 rfl rfl (n := 94) rfl ?_
        refine k_get Xc u_M rfl 23 (by decide) wd_573 rfl d_M_place_94 (n := 97) rfl hM_92.1 hM_92.2.2.1 rfl ?_
        refine k_bipush Xc d_M_place_97 rfl (n := 99) rfl ?_
        refine k_iload Xc d_M_place_99 rfl (n := 101) rfl ?_
        refine k_imul Xc d_M_place_101 (n := 102) rfl ?_
        refine k_iload Xc d_M_place_102 rfl (n := 104) rfl ?_
        refine k_iadd Xc d_M_place_104 (n := 105) rfl ?_
        refine k_aload_n Xc d_M_place_105 rfl rfl (n := 106) rfl ?_
        refine k_get Xc u_M rfl 26 (by decide) wd_576 rfl d_M_place_106 (n := 109) rfl hM_92.1 hM_92.2.2.1 rfl ?_
        refine k_iload Xc d_M_place_109 rfl (n := 111) rfl ?_
        refine k_iald Xc d_M_place_111 (n := 112) rfl (hM_92.2.1 20 (by decide)) (mr_20 hM_92) (by omega) (by omega) (by decide) ?_
        refine k_iastN Xc hM_92 18 (by decide) d_M_place_112 (n := 113) rfl (by omega) (by show _ < ((72 : Nat) : Int); omega) (fun f_112 R_112 hr_112 hk_112 hM_112 hF_112 => ?_)
        refine k_iinc Xc d_M_place_113 rfl (by decide) (n := 116) rfl ?_
        refine k_goto Xc d_M_place_116 (t := 64) rfl ?_
        exact k_loc (ih (i + 1) _ _ (by omega) (by omega) hM_112 (mFr_tr (mFr_tr hF hF_92) hF_112) (fun k q1 q2 => by rw [hk_112 k q2, hk_92 k q1]; exact hK k q1 q2) (fun j hj => by
          rw [hr_112, hk_112 17 (by decide), hr_92, hk_92 18 (by decide)]
          rcases Nat.lt_or_ge j i with q | q
          · rw [iu_ne (by omega), iu_ne (by omega)]; exact hJ j q
          · have ej : j = i := by omega
            subst ej
            rw [iu_at, iu_at, hk_92 20 (by decide), hK 19 (by decide) (by decide), hK 20 (by decide) (by decide)]; exact hS j (by omega)) (fun q z => by
          rw [hr_112, hk_112 17 (by decide), hr_92, hk_92 18 (by decide), iu_ne (by omega), iu_ne (by omega)]
          exact hU q z)) rfl
  have first : ∀ (d p1 : Nat), p0 < p1 + d → p1 ≤ p0 → (∀ q : Nat, q < p1 → 0 ≤ R 13 (q : Int)) → zG p l e (zR0 1 31) s m args below meth c D A 7 0 0 (MQ below (zE D A (fun v L1 f1 => L = L1 ∧ mFr f f1 o ra ∧ ∃ (p : Nat) (R1 : Nat → Int → Int), p < 12 ∧ R 13 (p : Int) < 0 ∧ (∀ q : Nat, q < p → 0 ≤ R 13 (q : Int)) ∧ v = some (.int (zI (p : Int))) ∧ plc R R1 kd a t ax ay p ∧ zMo G L f1 o ra cd wt hc zn kn (a : Int) om R1)) args s (zR0 1 31).cells (zR0 1 31).slots A) 3 [(0, .ref o), (1, .int (zI (kd : Int))), (2, .int (zI ax)), (3, .int (zI ay)), (4, .int (zI (t : Int))), (5, .int (zI (p1 : Int)))] [] L f := by
    intro d
    induction d with
    | zero => intro p1 h1 h2; omega
    | succ d ih =>
      intro p1 h1 h2 hJ
      have c1 := hp (p1 : Int) (by omega) (by omega)
      refine k_aload_n Xc d_M_place_3 rfl rfl (n := 4) rfl ?_
      refine k_get Xc u_M rfl 18 (by decide) wd_568 rfl d_M_place_4 (n := 7) rfl hM.1 hM.2.2.1 rfl ?_
      refine k_iload Xc d_M_place_7 rfl (n := 9) rfl ?_
      refine k_iald Xc d_M_place_9 (n := 10) rfl (hM.2.1 13 (by decide)) (mr_13 hM) (by omega) (by omega) (by decide) ?_
      refine k_if_lt Xc d_M_place_10 (t := 19) (n := 13) rfl rfl (by omega) (fun h_10 => ?_) (fun h_10 => ?_)
      · refine k_aload_n Xc d_M_place_19 rfl rfl (n := 20) rfl ?_
        refine k_iload_n Xc d_M_place_20 rfl rfl (n := 21) rfl ?_
        refine k_iload Xc d_M_place_21 rfl (n := 23) rfl ?_
        refine k_iload_n Xc d_M_place_23 rfl rfl (n := 24) rfl ?_
        refine k_iload_n Xc d_M_place_24 rfl rfl (n := 25) rfl ?_
        refine k_wV (na := 4) Xc (m_M_shape l D G hM _ _ _ hkd ha ha6 h10 hq ht _ _ hx hy) hM.1 hM.2.2.1 rfl wd_715 wd_712 wd_714 ws_19 wd_6 (by decide +kernel) ⟨by decide, by decide⟩ rfl rfl (Nat.le_of_ble_eq_true rfl) d_M_place_25 (n := 28) rfl ⟨Nat.zero_le _, Nat.zero_le _⟩ (fun v_25 L_25 f_25 e_25 => ?_)
        obtain ⟨rfl, rfl, hF_25, S_25, hK_25, hS_25, hG_25⟩ := e_25
        refine k_aload_n Xc d_M_place_28 rfl rfl (n := 29) rfl ?_
        refine k_get Xc u_M rfl 18 (by decide) wd_568 rfl d_M_place_29 (n := 32) rfl hG_25.1 hG_25.2.2.1 rfl ?_
        refine k_iload Xc d_M_place_32 rfl (n := 34) rfl ?_
        refine k_iload_n Xc d_M_place_34 rfl rfl (n := 35) rfl ?_
        refine k_iastN Xc hG_25 13 (by decide) d_M_place_35 (n := 36) rfl (by omega) (by show _ < ((12 : Nat) : Int); omega) (fun f_35 R_35 hr_35 hk_35 hM_35 hF_35 => ?_)
        refine k_aload_n Xc d_M_place_36 rfl rfl (n := 37) rfl ?_
        refine k_get Xc u_M rfl 19 (by decide) wd_569 rfl d_M_place_37 (n := 40) rfl hM_35.1 hM_35.2.2.1 rfl ?_
        refine k_iload Xc d_M_place_40 rfl (n := 42) rfl ?_
        refine k_iload_n Xc d_M_place_42 rfl rfl (n := 43) rfl ?_
        refine k_iastN Xc hM_35 14 (by decide) d_M_place_43 (n := 44) rfl (by omega) (by show _ < ((12 : Nat) : Int); omega) (fun f_43 R_43 hr_43 hk_43 hM_43 hF_43 => ?_)
        refine k_aload_n Xc d_M_place_44 rfl rfl (n := 45) rfl ?_
        refine k_get Xc u_M rfl 20 (by decide) wd_570 rfl d_M_place_45 (n := 48) rfl hM_43.1 hM_43.2.2.1 rfl ?_
        refine k_iload Xc d_M_place_48 rfl (n := 50) rfl ?_
        refine k_iload_n Xc d_M_place_50 rfl rfl (n := 51) rfl ?_
        refine k_iastN Xc hM_43 15 (by decide) d_M_place_51 (n := 52) rfl (by omega) (by show _ < ((12 : Nat) : Int); omega) (fun f_51 R_51 hr_51 hk_51 hM_51 hF_51 => ?_)
        refine k_aload_n Xc d_M_place_52 rfl rfl (n := 53) rfl ?_
        refine k_get Xc u_M rfl 21 (by decide) wd_571 rfl d_M_place_53 (n := 56) rfl hM_51.1 hM_51.2.2.1 rfl ?_
        refine k_iload Xc d_M_place_56 rfl (n := 58) rfl ?_
        refine k_iload Xc d_M_place_58 rfl (n := 60) rfl ?_
        refine k_iastN Xc hM_51 16 (by decide) d_M_place_60 (n := 61) rfl (by omega) (by show _ < ((12 : Nat) : Int); omega) (fun f_60 R_60 hr_60 hk_60 hM_60 hF_60 => ?_)
        refine k_iconst Xc d_M_place_61 (n := 62) rfl ?_
        refine k_istore Xc d_M_place_62 (by decide) (n := 64) rfl ?_
        refine k_loc (second p1 R_60 (by omega) (by omega) hJ (fun j hj => ?_) (fun k y1 y2 y3 y4 y5 y6 => ?_) ?_ ?_ ?_ ?_ (a + 1) 0 _ R_60 (by omega) (by omega) hM_60 (mFr_tr (mFr_tr (mFr_tr (mFr_tr hF_25 hF_35) hF_43) hF_51) hF_60) (fun _ _ _ => rfl) (fun j q => absurd q (by omega)) (fun q _ => ?_)) rfl
        · rw [hk_60 19 (by decide), hk_51 19 (by decide), hk_43 19 (by decide), hk_35 19 (by decide), hk_60 20 (by decide), hk_51 20 (by decide), hk_43 20 (by decide), hk_35 20 (by decide)]; exact hS_25 j hj
        · rw [hk_60 k y4, hk_51 k y3, hk_43 k y2, hk_35 k y1]; exact hK_25 k y5 y6
        · rw [hk_60 13 (by decide), hk_51 13 (by decide), hk_43 13 (by decide), hr_35, hK_25 13 (by decide) (by decide)]
        · rw [hk_60 14 (by decide), hk_51 14 (by decide), hr_43, hk_35 14 (by decide), hK_25 14 (by decide) (by decide)]
        · rw [hk_60 15 (by decide), hr_51, hk_43 15 (by decide), hk_35 15 (by decide), hK_25 15 (by decide) (by decide)]
        · rw [hr_60, hk_51 16 (by decide), hk_43 16 (by decide), hk_35 16 (by decide), hK_25 16 (by decide) (by decide)]
        · rw [hk_60 17 (by decide), hk_51 17 (by decide), hk_43 17 (by decide), hk_35 17 (by decide), hk_60 18 (by decide), hk_51 18 (by decide), hk_43 18 (by decide), hk_35 18 (by decide), hK_25 17 (by decide) (by decide), hK_25 18 (by decide) (by decide)]; exact ⟨rfl, rfl⟩
      · refine k_iinc Xc d_M_place_13 rfl (by decide) (n := 16) rfl ?_
        refine k_goto Xc d_M_place_16 (t := 3) rfl ?_
        exact k_loc (ih (p1 + 1) (by omega) (by
          rcases Nat.lt_or_ge p1 p0 with q | q
          · omega
          · have ep : p1 = p0 := by omega
            subst ep
            omega) (fun q z => by
          rcases Nat.lt_or_ge q p1 with z1 | z1
          · exact hJ q z1
          · have eq : q = p1 := by omega
            subst eq
            omega)) rfl
  refine k_iconst Xc d_M_place_0 (n := 1) rfl ?_
  refine k_istore Xc d_M_place_1 (by decide) (n := 3) rfl ?_
  exact k_loc (first (p0 + 1) 0 (by omega) (by omega) (fun q z => absurd z (by omega))) rfl
set_option maxRecDepth 100000 in
set_option maxHeartbeats 4000000 in
theorem m_M_zone (l : Launch) (D : va_G) (G : Nat → ClassId) {L : List Nat} {f : Nat → va_E} {o : Nat} {ra : Nat → Nat} {cd hc kn mn om : Int} {w z9 : Nat} {R : Nat → Int → Int} (hM : zMo G L f o ra cd (w : Int) hc (z9 : Int) kn mn om R) (hw : w ≤ 12) (hz9 : z9 ≤ 5) (hW : sB 12 (R 0) (R 1)) (hp : ∀ j : Int, 0 ≤ j → j < 12 → -1 ≤ R 13 j ∧ R 13 j ≤ 5) (g : Int) (hg : zO g) : zM l D G y_M_zone (.code y_M_zone c_M_zone 4 (some .int) :: BG) (zR0 2 49) [.ref o, .int (zI g)] L f (fun v L1 f1 => L = L1 ∧ mFr f f1 o ra ∧ ((¬ (1 ≤ g ∧ g ≤ 3) ∧ v = some (.int (zI 0)) ∧ zMo G L f1 o ra 1 (w : Int) hc (z9 : Int) kn mn om R) ∨ ((1 ≤ g ∧ g ≤ 3) ∧ ¬ (3 ≤ w ∧ w ≤ 6 ∧ mRd w (sP (R 0) (R 1))) ∧ v = some (.int (zI 0)) ∧ zMo G L f1 o ra 1 0 hc (z9 : Int) kn mn om R) ∨ ((1 ≤ g ∧ g ≤ 3) ∧ (3 ≤ w ∧ w ≤ 6 ∧ mRd w (sP (R 0) (R 1))) ∧ (z9 = 5 ∨ 0 < mcnt (R 13) 12) ∧ v = some (.int (zI 0)) ∧ zMo G L f1 o ra 2 0 hc (z9 : Int) kn mn om R) ∨ ((1 ≤ g ∧ g ≤ 3) ∧ (3 ≤ w ∧ w ≤ 6 ∧ mRd w (sP (R 0) (R 1))) ∧ ¬ (z9 = 5 ∨ 0 < mcnt (R 13) 12) ∧ v = some (.int (zI ((z9 : Int) + 1))) ∧ ∃ R1 : Nat → Int → Int, zAdd R R1 w z9 g ∧ zMo G L f1 o ra 0 0 hc ((z9 : Int) + 1) kn mn om R1))) := by
  refine zM.of (by decide) (Nat.le_of_ble_eq_true rfl) rfl (fun p e s m args below meth c A Xc hr hnm => ?_)
  have mb := mcnt_bd (R 13) 12
  have loop : (1 ≤ g ∧ g ≤ 3) → (3 ≤ w ∧ w ≤ 6 ∧ mRd w (sP (R 0) (R 1))) → ¬ (z9 = 5 ∨ 0 < mcnt (R 13) 12) → ∀ (d i : Nat) (g1 : Nat → va_E) (R1 : Nat → Int → Int), w < i + d → i ≤ w → zMo G L g1 o ra 0 0 hc (z9 : Int) kn mn om R1 → mFr f g1 o ra → (∀ k : Nat, k ≠ 4 → k ≠ 5 → R1 k = R k) → (∀ j : Nat, j < i → R1 4 (6 * (z9 : Int) + (j : Int)) = R 0 (j : Int) ∧ R1 5 (6 * (z9 : Int) + (j : Int)) = R 1 (j : Int)) → (∀ q : Int, q < 6 * (z9 : Int) → R1 4 q = R 4 q ∧ R1 5 q = R 5 q) → zG p l e (zR0 2 49) s m args below meth c D A 4 0 0 (MQ below (zE D A (fun v L1 f1 => L = L1 ∧ mFr f f1 o ra ∧ ((¬ (1 ≤ g ∧ g ≤ 3) ∧ v = some (.int (zI 0)) ∧ zMo G L f1 o ra 1 (w : Int) hc (z9 : Int) kn mn om R) ∨ ((1 ≤ g ∧ g ≤ 3) ∧ ¬ (3 ≤ w ∧ w ≤ 6 ∧ mRd w (sP (R 0) (R 1))) ∧ v = some (.int (zI 0)) ∧ zMo G L f1 o ra 1 0 hc (z9 : Int) kn mn om R) ∨ ((1 ≤ g ∧ g ≤ 3) ∧ (3 ≤ w ∧ w ≤ 6 ∧ mRd w (sP (R 0) (R 1))) ∧ (z9 = 5 ∨ 0 < mcnt (R 13) 12) ∧ v = some (.int (zI 0)) ∧ zMo G L f1 o ra 2 0 hc (z9 : Int) kn mn om R) ∨ ((1 ≤ g ∧ g ≤ 3) ∧ (3 ≤ w ∧ w ≤ 6 ∧ mRd w (sP (R 0) (R 1))) ∧ ¬ (z9 = 5 ∨ 0 < mcnt (R 13) 12) ∧ v = some (.int (zI ((z9 : Int) + 1))) ∧ ∃ R1 : Nat → Int → Int, zAdd R R1 w z9 g ∧ zMo G L f1 o ra 0 0 hc ((z9 : Int) + 1) kn mn om R1)))) args s (zR0 2 49).cells (zR0 2 49).slots A) 94 [(0, .ref o), (1, .int (zI g)), (2, .int (zI (w : Int))), (3, .int (zI (i : Int)))] [] L g1 := by
    intro c1 c2 c3 d
    induction d with
    | zero => intro i g1 R1 h1 h2; omega
    | succ d ih =>
      intro i g1 R1 h1 h2 hG hF hK hJ hU
      refine k_iload_n Xc d_M_zone_94 rfl rfl (n := 95) rfl ?_
      refine k_iload_n Xc d_M_zone_95 rfl rfl (n := 96) rfl ?_
      refine k_icmp_ge Xc d_M_zone_96 (t := 145) (n := 99) rfl rfl (by omega) (by omega) (fun h_96 => ?_) (fun h_96 => ?_)
      · refine k_aload_n Xc d_M_zone_145 rfl rfl (n := 146) rfl ?_
        refine k_get Xc u_M rfl 10 (by decide) wd_560 rfl d_M_zone_146 (n := 149) rfl hG.1 hG.2.2.1 rfl ?_
        refine k_aload_n Xc d_M_zone_149 rfl rfl (n := 150) rfl ?_
        refine k_get Xc u_M rfl 7 (by decide) wd_557 rfl d_M_zone_150 (n := 153) rfl hG.1 hG.2.2.1 rfl ?_
        refine k_iload_n Xc d_M_zone_153 rfl rfl (n := 154) rfl ?_
        refine k_iastN Xc hG 6 (by decide) d_M_zone_154 (n := 155) rfl (by omega) (by show _ < ((5 : Nat) : Int); omega) (fun f_154 R_154 hr_154 hk_154 hM_154 hF_154 => ?_)
        refine k_aload_n Xc d_M_zone_155 rfl rfl (n := 156) rfl ?_
        refine k_get Xc u_M rfl 11 (by decide) wd_561 rfl d_M_zone_156 (n := 159) rfl hM_154.1 hM_154.2.2.1 rfl ?_
        refine k_aload_n Xc d_M_zone_159 rfl rfl (n := 160) rfl ?_
        refine k_get Xc u_M rfl 7 (by decide) wd_557 rfl d_M_zone_160 (n := 163) rfl hM_154.1 hM_154.2.2.1 rfl ?_
        refine k_iload_n Xc d_M_zone_163 rfl rfl (n := 164) rfl ?_
        refine k_iastN Xc hM_154 7 (by decide) d_M_zone_164 (n := 165) rfl (by omega) (by show _ < ((5 : Nat) : Int); omega) (fun f_164 R_164 hr_164 hk_164 hM_164 hF_164 => ?_)
        refine k_aload_n Xc d_M_zone_165 rfl rfl (n := 166) rfl ?_
        refine k_dup Xc d_M_zone_166 rfl (n := 167) rfl ?_
        refine k_get Xc u_M rfl 7 (by decide) wd_557 rfl d_M_zone_167 (n := 170) rfl hM_164.1 hM_164.2.2.1 rfl ?_
        refine k_iconst Xc d_M_zone_170 (n := 171) rfl ?_
        refine k_iadd Xc d_M_zone_171 (n := 172) rfl ?_
        refine k_putM_zones Xc hM_164 wd_557 d_M_zone_172 (n := 175) rfl (fun f_172 hM_172 hF_172 => ?_)
        refine k_aload_n Xc d_M_zone_175 rfl rfl (n := 176) rfl ?_
        refine k_get Xc u_M rfl 7 (by decide) wd_557 rfl d_M_zone_176 (n := 179) rfl hM_172.1 hM_172.2.2.1 rfl ?_
        refine k_iret Xc d_M_zone_179 hr rfl (Nat.le_refl _) (Nat.le_refl _) ?_
        have ei : i = w := by omega
        subst ei
        refine ⟨rfl, (mFr_tr (mFr_tr (mFr_tr hF hF_154) hF_164) hF_172), Or.inr (Or.inr (Or.inr ⟨c1, c2, c3, rfl, R_164, ⟨fun k y4 y5 y6 y7 => ?_, ?_, ?_, fun j hj => ?_, fun q z => ?_⟩, hM_172⟩))⟩
        · rw [hk_164 k y7, hk_154 k y6]; exact hK k y4 y5
        · rw [hk_164 6 (by decide), hr_154, hK 6 (by decide) (by decide)]
        · rw [hr_164, hk_154 7 (by decide), hK 7 (by decide) (by decide)]
        · rw [hk_164 4 (by decide), hk_154 4 (by decide), hk_164 5 (by decide), hk_154 5 (by decide)]; exact hJ j hj
        · rw [hk_164 4 (by decide), hk_154 4 (by decide), hk_164 5 (by decide), hk_154 5 (by decide)]; exact hU q z
      · refine k_aload_n Xc d_M_zone_99 rfl rfl (n := 100) rfl ?_
        refine k_get Xc u_M rfl 8 (by decide) wd_558 rfl d_M_zone_100 (n := 103) rfl hG.1 hG.2.2.1 rfl ?_
        refine k_bipush Xc d_M_zone_103 rfl (n := 105) rfl ?_
        refine k_aload_n Xc d_M_zone_105 rfl rfl (n := 106) rfl ?_
        refine k_get Xc u_M rfl 7 (by decide) wd_557 rfl d_M_zone_106 (n := 109) rfl hG.1 hG.2.2.1 rfl ?_
        refine k_imul Xc d_M_zone_109 (n := 110) rfl ?_
        refine k_iload_n Xc d_M_zone_110 rfl rfl (n := 111) rfl ?_
        refine k_iadd Xc d_M_zone_111 (n := 112) rfl ?_
        refine k_aload_n Xc d_M_zone_112 rfl rfl (n := 113) rfl ?_
        refine k_get Xc u_M rfl 2 (by decide) wd_552 rfl d_M_zone_113 (n := 116) rfl hG.1 hG.2.2.1 rfl ?_
        refine k_iload_n Xc d_M_zone_116 rfl rfl (n := 117) rfl ?_
        refine k_iald Xc d_M_zone_117 (n := 118) rfl (hG.2.1 0 (by decide)) (mr_0 hG) (by omega) (by omega) (by decide) ?_
        refine k_iastN Xc hG 4 (by decide) d_M_zone_118 (n := 119) rfl (by omega) (by show _ < ((30 : Nat) : Int); omega) (fun f_118 R_118 hr_118 hk_118 hM_118 hF_118 => ?_)
        refine k_aload_n Xc d_M_zone_119 rfl rfl (n := 120) rfl ?_
        refine k_get Xc u_M rfl 9 (by decide) wd_559 rfl d_M_zone_120 (n := 123) rfl hM_118.1 hM_118.2.2.1 rfl ?_
        refine k_bipush Xc d_M_zone_123 rfl (n := 125) rfl ?_
        refine k_aload_n Xc d_M_zone_125 rfl rfl (n := 126) rfl ?_
        refine k_get Xc u_M rfl 7 (by decide) wd_557 rfl d_M_zone_126 (n := 129) rfl hM_118.1 hM_118.2.2.1 rfl ?_
        refine k_imul Xc d_M_zone_129 (n := 130) rfl ?_
        refine k_iload_n Xc d_M_zone_130 rfl rfl (n := 131) rfl ?_
        refine k_iadd Xc d_M_zone_131 (n := 132) rfl ?_
        refine k_aload_n Xc d_M_zone_132 rfl rfl (n := 133) rfl ?_
        refine k_get Xc u_M rfl 3 (by decide) wd_553 rfl d_M_zone_133 (n := 136) rfl hM_118.1 hM_118.2.2.1 rfl ?_
        refine k_iload_n Xc d_M_zone_136 rfl rfl (n := 137) rfl ?_
        refine k_iald Xc d_M_zone_137 (n := 138) rfl (hM_118.2.1 1 (by decide)) (mr_1 hM_118) (by omega) (by omega) (by decide) ?_
        refine k_iastN Xc hM_118 5 (by decide) d_M_zone_138 (n := 139) rfl (by omega) (by show _ < ((30 : Nat) : Int); omega) (fun f_138 R_138 hr_138 hk_138 hM_138 hF_138 => ?_)
        refine k_iinc Xc d_M_zone_139 rfl (by decide) (n := 142) rfl ?_
        refine k_goto Xc d_M_zone_142 (t := 94) rfl ?_
        exact k_loc (ih (i + 1) _ _ (by omega) (by omega) hM_138 (mFr_tr (mFr_tr hF hF_118) hF_138) (fun k q1 q2 => by rw [hk_138 k q2, hk_118 k q1]; exact hK k q1 q2) (fun j hj => by
          rw [hr_138, hk_138 4 (by decide), hr_118, hk_118 5 (by decide)]
          rcases Nat.lt_or_ge j i with q | q
          · rw [iu_ne (by omega), iu_ne (by omega)]; exact hJ j q
          · have ej : j = i := by omega
            subst ej
            rw [iu_at, iu_at, hk_118 1 (by decide), hK 0 (by decide) (by decide), hK 1 (by decide) (by decide)]; exact ⟨rfl, rfl⟩) (fun q z => by
          rw [hr_138, hk_138 4 (by decide), hr_118, hk_118 5 (by decide), iu_ne (by omega), iu_ne (by omega)]
          exact hU q z)) rfl
  refine k_aload_n Xc d_M_zone_0 rfl rfl (n := 1) rfl ?_
  refine k_iload_n Xc d_M_zone_1 rfl rfl (n := 2) rfl ?_
  refine k_iconst Xc d_M_zone_2 (n := 3) rfl ?_
  refine k_qS (na := 2) Xc (m_M_isGrade l D G _ _ (by omega) (by omega)) wd_683 wd_681 wd_682 wd_6 (by decide +kernel) ⟨by decide, by decide⟩ rfl rfl (Nat.le_of_ble_eq_true rfl) d_M_zone_3 (n := 6) rfl ⟨Nat.zero_le _, Nat.zero_le _⟩ (fun r_3 e_3 => ?_)
  rcases e_3 with ⟨e_3, rfl⟩ | ⟨e_3, rfl⟩
  · refine k_if_eq Xc d_M_zone_6 (t := 13) (n := 9) rfl rfl (by omega) (fun h_6 => absurd h_6 (by omega)) (fun _ => ?_)
    refine k_iconst Xc d_M_zone_9 (n := 10) rfl ?_
    refine k_goto Xc d_M_zone_10 (t := 14) rfl ?_
    refine k_putM_code Xc hM wd_550 d_M_zone_14 (n := 17) rfl (fun f_14 hM_14 hF_14 => ?_)
    refine k_aload_n Xc d_M_zone_17 rfl rfl (n := 18) rfl ?_
    refine k_get Xc u_M rfl 0 (by decide) wd_550 rfl d_M_zone_18 (n := 21) rfl hM_14.1 hM_14.2.2.1 rfl ?_
    refine k_if_le Xc d_M_zone_21 (t := 26) (n := 24) rfl rfl (by omega) (fun _ => ?_) (fun h_21 => absurd h_21 (by omega))
    refine k_aload_n Xc d_M_zone_26 rfl rfl (n := 27) rfl ?_
    refine k_get Xc u_M rfl 1 (by decide) wd_551 rfl d_M_zone_27 (n := 30) rfl hM_14.1 hM_14.2.2.1 rfl ?_
    refine k_istore_n Xc d_M_zone_30 rfl (by decide) (n := 31) rfl ?_
    refine k_aload_n Xc d_M_zone_31 rfl rfl (n := 32) rfl ?_
    refine k_iconst Xc d_M_zone_32 (n := 33) rfl ?_
    refine k_putM_waiting Xc hM_14 wd_551 d_M_zone_33 (n := 36) rfl (fun f_33 hM_33 hF_33 => ?_)
    refine k_aload_n Xc d_M_zone_36 rfl rfl (n := 37) rfl ?_
    refine k_iload_n Xc d_M_zone_37 rfl rfl (n := 38) rfl ?_
    refine k_iconst Xc d_M_zone_38 (n := 39) rfl ?_
    refine k_icmp_lt Xc d_M_zone_39 (t := 56) (n := 42) rfl rfl (by omega) (by omega) (fun h_39 => ?_) (fun h_39 => ?_)
    · refine k_iconst Xc d_M_zone_56 (n := 57) rfl ?_
      refine k_goto Xc d_M_zone_57 (t := 80) rfl ?_
      refine k_putM_code Xc hM_33 wd_550 d_M_zone_80 (n := 83) rfl (fun f_80 hM_80 hF_80 => ?_)
      refine k_aload_n Xc d_M_zone_83 rfl rfl (n := 84) rfl ?_
      refine k_get Xc u_M rfl 0 (by decide) wd_550 rfl d_M_zone_84 (n := 87) rfl hM_80.1 hM_80.2.2.1 rfl ?_
      refine k_if_le Xc d_M_zone_87 (t := 92) (n := 90) rfl rfl (by omega) (fun h_87 => absurd h_87 (by omega)) (fun _ => ?_)
      refine k_iconst Xc d_M_zone_90 (n := 91) rfl ?_
      refine k_iret Xc d_M_zone_91 hr rfl (Nat.le_refl _) (Nat.le_refl _) ?_
      exact ⟨rfl, (mFr_tr (mFr_tr (mFr_tr mFr_rf hF_14) hF_33) hF_80), by first | exact Or.inl ⟨by omega, rfl, hM_80⟩ | exact Or.inr (Or.inl ⟨by omega, fun q => by first | exact e_50 q.2.2 | omega, rfl, hM_80⟩) | exact Or.inr (Or.inr (Or.inl ⟨by omega, ⟨by omega, by omega, e_50⟩, by omega, rfl, hM_80⟩))⟩
    · refine k_iload_n Xc d_M_zone_42 rfl rfl (n := 43) rfl ?_
      refine k_bipush Xc d_M_zone_43 rfl (n := 45) rfl ?_
      refine k_icmp_gt Xc d_M_zone_45 (t := 56) (n := 48) rfl rfl (by omega) (by omega) (fun h_45 => ?_) (fun h_45 => ?_)
      · refine k_iconst Xc d_M_zone_56 (n := 57) rfl ?_
        refine k_goto Xc d_M_zone_57 (t := 80) rfl ?_
        refine k_putM_code Xc hM_33 wd_550 d_M_zone_80 (n := 83) rfl (fun f_80 hM_80 hF_80 => ?_)
        refine k_aload_n Xc d_M_zone_83 rfl rfl (n := 84) rfl ?_
        refine k_get Xc u_M rfl 0 (by decide) wd_550 rfl d_M_zone_84 (n := 87) rfl hM_80.1 hM_80.2.2.1 rfl ?_
        refine k_if_le Xc d_M_zone_87 (t := 92) (n := 90) rfl rfl (by omega) (fun h_87 => absurd h_87 (by omega)) (fun _ => ?_)
        refine k_iconst Xc d_M_zone_90 (n := 91) rfl ?_
        refine k_iret Xc d_M_zone_91 hr rfl (Nat.le_refl _) (Nat.le_refl _) ?_
        exact ⟨rfl, (mFr_tr (mFr_tr (mFr_tr mFr_rf hF_14) hF_33) hF_80), by first | exact Or.inl ⟨by omega, rfl, hM_80⟩ | exact Or.inr (Or.inl ⟨by omega, fun q => by first | exact e_50 q.2.2 | omega, rfl, hM_80⟩) | exact Or.inr (Or.inr (Or.inl ⟨by omega, ⟨by omega, by omega, e_50⟩, by omega, rfl, hM_80⟩))⟩
      · refine k_aload_n Xc d_M_zone_48 rfl rfl (n := 49) rfl ?_
        refine k_iload_n Xc d_M_zone_49 rfl rfl (n := 50) rfl ?_
        refine k_qV (na := 1) Xc (m_M_isRound l D G hM_33 hW _ (by omega) (by omega)) hM_33.1 hM_33.2.2.1 rfl wd_687 wd_684 wd_686 ws_15 wd_6 (by decide +kernel) ⟨by decide, by decide⟩ rfl rfl (Nat.le_of_ble_eq_true rfl) d_M_zone_50 (n := 53) rfl ⟨Nat.zero_le _, Nat.zero_le _⟩ (fun r_50 e_50 => ?_)
        rcases e_50 with ⟨e_50, rfl⟩ | ⟨e_50, rfl⟩
        · refine k_if_ne Xc d_M_zone_53 (t := 60) (n := 56) rfl rfl (by omega) (fun _ => ?_) (fun h_53 => absurd h_53 (by omega))
          refine k_aload_n Xc d_M_zone_60 rfl rfl (n := 61) rfl ?_
          refine k_get Xc u_M rfl 7 (by decide) wd_557 rfl d_M_zone_61 (n := 64) rfl hM_33.1 hM_33.2.2.1 rfl ?_
          refine k_iconst Xc d_M_zone_64 (n := 65) rfl ?_
          refine k_icmp_eq Xc d_M_zone_65 (t := 75) (n := 68) rfl rfl (by omega) (by omega) (fun h_65 => ?_) (fun h_65 => ?_)
          · refine k_iconst Xc d_M_zone_75 (n := 76) rfl ?_
            refine k_goto Xc d_M_zone_76 (t := 80) rfl ?_
            refine k_putM_code Xc hM_33 wd_550 d_M_zone_80 (n := 83) rfl (fun f_80 hM_80 hF_80 => ?_)
            refine k_aload_n Xc d_M_zone_83 rfl rfl (n := 84) rfl ?_
            refine k_get Xc u_M rfl 0 (by decide) wd_550 rfl d_M_zone_84 (n := 87) rfl hM_80.1 hM_80.2.2.1 rfl ?_
            refine k_if_le Xc d_M_zone_87 (t := 92) (n := 90) rfl rfl (by omega) (fun h_87 => absurd h_87 (by omega)) (fun _ => ?_)
            refine k_iconst Xc d_M_zone_90 (n := 91) rfl ?_
            refine k_iret Xc d_M_zone_91 hr rfl (Nat.le_refl _) (Nat.le_refl _) ?_
            exact ⟨rfl, (mFr_tr (mFr_tr (mFr_tr mFr_rf hF_14) hF_33) hF_80), by first | exact Or.inl ⟨by omega, rfl, hM_80⟩ | exact Or.inr (Or.inl ⟨by omega, fun q => by first | exact e_50 q.2.2 | omega, rfl, hM_80⟩) | exact Or.inr (Or.inr (Or.inl ⟨by omega, ⟨by omega, by omega, e_50⟩, by omega, rfl, hM_80⟩))⟩
          · refine k_aload_n Xc d_M_zone_68 rfl rfl (n := 69) rfl ?_
            refine k_qV (na := 0) Xc (m_M_count l D G hM_33 hp) hM_33.1 hM_33.2.2.1 rfl wd_656 wd_653 wd_655 ws_9 wd_6 (by decide +kernel) ⟨by decide, by decide⟩ rfl rfl (Nat.le_of_ble_eq_true rfl) d_M_zone_69 (n := 72) rfl ⟨Nat.zero_le _, Nat.zero_le _⟩ (fun r_69 e_69 => ?_)
            subst e_69
            refine k_if_le Xc d_M_zone_72 (t := 79) (n := 75) rfl rfl (by omega) (fun h_72 => ?_) (fun h_72 => ?_)
            · refine k_iconst Xc d_M_zone_79 (n := 80) rfl ?_
              refine k_putM_code Xc hM_33 wd_550 d_M_zone_80 (n := 83) rfl (fun f_80 hM_80 hF_80 => ?_)
              refine k_aload_n Xc d_M_zone_83 rfl rfl (n := 84) rfl ?_
              refine k_get Xc u_M rfl 0 (by decide) wd_550 rfl d_M_zone_84 (n := 87) rfl hM_80.1 hM_80.2.2.1 rfl ?_
              refine k_if_le Xc d_M_zone_87 (t := 92) (n := 90) rfl rfl (by omega) (fun _ => ?_) (fun h_87 => absurd h_87 (by omega))
              refine k_iconst Xc d_M_zone_92 (n := 93) rfl ?_
              refine k_istore_n Xc d_M_zone_93 rfl (by decide) (n := 94) rfl ?_
              exact k_loc (loop (by omega) ⟨by omega, by omega, e_50⟩ (by omega) (w + 1) 0 _ R (by omega) (by omega) hM_80 (mFr_tr (mFr_tr (mFr_tr mFr_rf hF_14) hF_33) hF_80) (fun _ _ _ => rfl) (fun j q => absurd q (by omega)) (fun _ _ => ⟨rfl, rfl⟩)) rfl
            · refine k_iconst Xc d_M_zone_75 (n := 76) rfl ?_
              refine k_goto Xc d_M_zone_76 (t := 80) rfl ?_
              refine k_putM_code Xc hM_33 wd_550 d_M_zone_80 (n := 83) rfl (fun f_80 hM_80 hF_80 => ?_)
              refine k_aload_n Xc d_M_zone_83 rfl rfl (n := 84) rfl ?_
              refine k_get Xc u_M rfl 0 (by decide) wd_550 rfl d_M_zone_84 (n := 87) rfl hM_80.1 hM_80.2.2.1 rfl ?_
              refine k_if_le Xc d_M_zone_87 (t := 92) (n := 90) rfl rfl (by omega) (fun h_87 => absurd h_87 (by omega)) (fun _ => ?_)
              refine k_iconst Xc d_M_zone_90 (n := 91) rfl ?_
              refine k_iret Xc d_M_zone_91 hr rfl (Nat.le_refl _) (Nat.le_refl _) ?_
              exact ⟨rfl, (mFr_tr (mFr_tr (mFr_tr mFr_rf hF_14) hF_33) hF_80), by first | exact Or.inl ⟨by omega, rfl, hM_80⟩ | exact Or.inr (Or.inl ⟨by omega, fun q => by first | exact e_50 q.2.2 | omega, rfl, hM_80⟩) | exact Or.inr (Or.inr (Or.inl ⟨by omega, ⟨by omega, by omega, e_50⟩, by omega, rfl, hM_80⟩))⟩
        · refine k_if_ne Xc d_M_zone_53 (t := 60) (n := 56) rfl rfl (by omega) (fun h_53 => absurd h_53 (by omega)) (fun _ => ?_)
          refine k_iconst Xc d_M_zone_56 (n := 57) rfl ?_
          refine k_goto Xc d_M_zone_57 (t := 80) rfl ?_
          refine k_putM_code Xc hM_33 wd_550 d_M_zone_80 (n := 83) rfl (fun f_80 hM_80 hF_80 => ?_)
          refine k_aload_n Xc d_M_zone_83 rfl rfl (n := 84) rfl ?_
          refine k_get Xc u_M rfl 0 (by decide) wd_550 rfl d_M_zone_84 (n := 87) rfl hM_80.1 hM_80.2.2.1 rfl ?_
          refine k_if_le Xc d_M_zone_87 (t := 92) (n := 90) rfl rfl (by omega) (fun h_87 => absurd h_87 (by omega)) (fun _ => ?_)
          refine k_iconst Xc d_M_zone_90 (n := 91) rfl ?_
          refine k_iret Xc d_M_zone_91 hr rfl (Nat.le_refl _) (Nat.le_refl _) ?_
          exact ⟨rfl, (mFr_tr (mFr_tr (mFr_tr mFr_rf hF_14) hF_33) hF_80), by first | exact Or.inl ⟨by omega, rfl, hM_80⟩ | exact Or.inr (Or.inl ⟨by omega, fun q => by first | exact e_50 q.2.2 | omega, rfl, hM_80⟩) | exact Or.inr (Or.inr (Or.inl ⟨by omega, ⟨by omega, by omega, e_50⟩, by omega, rfl, hM_80⟩))⟩
  · refine k_if_eq Xc d_M_zone_6 (t := 13) (n := 9) rfl rfl (by omega) (fun _ => ?_) (fun h_6 => absurd h_6 (by omega))
    refine k_iconst Xc d_M_zone_13 (n := 14) rfl ?_
    refine k_putM_code Xc hM wd_550 d_M_zone_14 (n := 17) rfl (fun f_14 hM_14 hF_14 => ?_)
    refine k_aload_n Xc d_M_zone_17 rfl rfl (n := 18) rfl ?_
    refine k_get Xc u_M rfl 0 (by decide) wd_550 rfl d_M_zone_18 (n := 21) rfl hM_14.1 hM_14.2.2.1 rfl ?_
    refine k_if_le Xc d_M_zone_21 (t := 26) (n := 24) rfl rfl (by omega) (fun h_21 => absurd h_21 (by omega)) (fun _ => ?_)
    refine k_iconst Xc d_M_zone_24 (n := 25) rfl ?_
    refine k_iret Xc d_M_zone_25 hr rfl (Nat.le_refl _) (Nat.le_refl _) ?_
    exact ⟨rfl, (mFr_tr mFr_rf hF_14), by first | exact Or.inl ⟨by omega, rfl, hM_14⟩ | exact Or.inr (Or.inl ⟨by omega, fun q => by first | exact e_50 q.2.2 | omega, rfl, hM_14⟩) | exact Or.inr (Or.inr (Or.inl ⟨by omega, ⟨by omega, by omega, e_50⟩, by omega, rfl, hM_14⟩))⟩
set_option maxRecDepth 100000 in
set_option maxHeartbeats 4000000 in
theorem m_M_kind (l : Launch) (D : va_G) (G : Nat → ClassId) {L : List Nat} {f : Nat → va_E} {o : Nat} {ra : Nat → Nat} {cd hc zn mn om : Int} {w k9 : Nat} {R : Nat → Int → Int} (hM : zMo G L f o ra cd (w : Int) hc zn (k9 : Int) mn om R) (hw : w ≤ 12) (hk9 : k9 ≤ 6) (hW : sB 12 (R 0) (R 1)) (g t : Int) (hg : zO g) (ht : zO t) : zM l D G y_M_kind (.code y_M_kind c_M_kind 6 (some .int) :: BG) (zR0 2 49) [.ref o, .int (zI g), .int (zI t)] L f (fun v L1 f1 => L = L1 ∧ mFr f f1 o ra ∧ ((¬ ((1 ≤ g ∧ g ≤ 4) ∧ 1 ≤ t ∧ t ≤ 15) ∧ v = some (.int (zI 0)) ∧ zMo G L f1 o ra 1 (w : Int) hc zn (k9 : Int) mn om R) ∨ (((1 ≤ g ∧ g ≤ 4) ∧ 1 ≤ t ∧ t ≤ 15) ∧ ¬ ((3 ≤ w ∧ w ≤ 6 ∧ mRd w (sP (R 0) (R 1))) ∧ (∀ j : Nat, j < w → R 0 (j : Int) ≤ 12 ∧ R 1 (j : Int) ≤ 12)) ∧ v = some (.int (zI 0)) ∧ zMo G L f1 o ra 1 0 hc zn (k9 : Int) mn om R) ∨ (((1 ≤ g ∧ g ≤ 4) ∧ 1 ≤ t ∧ t ≤ 15) ∧ ((3 ≤ w ∧ w ≤ 6 ∧ mRd w (sP (R 0) (R 1))) ∧ (∀ j : Nat, j < w → R 0 (j : Int) ≤ 12 ∧ R 1 (j : Int) ≤ 12)) ∧ (k9 = 6) ∧ v = some (.int (zI 0)) ∧ zMo G L f1 o ra 2 0 hc zn (k9 : Int) mn om R) ∨ (((1 ≤ g ∧ g ≤ 4) ∧ 1 ≤ t ∧ t ≤ 15) ∧ ((3 ≤ w ∧ w ≤ 6 ∧ mRd w (sP (R 0) (R 1))) ∧ (∀ j : Nat, j < w → R 0 (j : Int) ≤ 12 ∧ R 1 (j : Int) ≤ 12)) ∧ ¬ (k9 = 6) ∧ v = some (.int (zI (k9 : Int))) ∧ ∃ R1 : Nat → Int → Int, kAdd R R1 w k9 g t ∧ zMo G L f1 o ra 0 0 hc zn ((k9 : Int) + 1) mn om R1))) := by
  refine zM.of (by decide) (Nat.le_of_ble_eq_true rfl) rfl (fun p e s m args below meth c A Xc hr hnm => ?_)
  have loop : ((1 ≤ g ∧ g ≤ 4) ∧ 1 ≤ t ∧ t ≤ 15) → ((3 ≤ w ∧ w ≤ 6 ∧ mRd w (sP (R 0) (R 1))) ∧ (∀ j : Nat, j < w → R 0 (j : Int) ≤ 12 ∧ R 1 (j : Int) ≤ 12)) → ¬ (k9 = 6) → ∀ (d i : Nat) (g1 : Nat → va_E) (R1 : Nat → Int → Int), w < i + d → i ≤ w → zMo G L g1 o ra 0 0 hc zn (k9 : Int) mn om R1 → mFr f g1 o ra → (∀ k : Nat, k ≠ 8 → k ≠ 9 → R1 k = R k) → (∀ j : Nat, j < i → R1 8 (6 * (k9 : Int) + (j : Int)) = R 0 (j : Int) ∧ R1 9 (6 * (k9 : Int) + (j : Int)) = R 1 (j : Int)) → (∀ q : Int, q < 6 * (k9 : Int) → R1 8 q = R 8 q ∧ R1 9 q = R 9 q) → zG p l e (zR0 2 49) s m args below meth c D A 6 0 0 (MQ below (zE D A (fun v L1 f1 => L = L1 ∧ mFr f f1 o ra ∧ ((¬ ((1 ≤ g ∧ g ≤ 4) ∧ 1 ≤ t ∧ t ≤ 15) ∧ v = some (.int (zI 0)) ∧ zMo G L f1 o ra 1 (w : Int) hc zn (k9 : Int) mn om R) ∨ (((1 ≤ g ∧ g ≤ 4) ∧ 1 ≤ t ∧ t ≤ 15) ∧ ¬ ((3 ≤ w ∧ w ≤ 6 ∧ mRd w (sP (R 0) (R 1))) ∧ (∀ j : Nat, j < w → R 0 (j : Int) ≤ 12 ∧ R 1 (j : Int) ≤ 12)) ∧ v = some (.int (zI 0)) ∧ zMo G L f1 o ra 1 0 hc zn (k9 : Int) mn om R) ∨ (((1 ≤ g ∧ g ≤ 4) ∧ 1 ≤ t ∧ t ≤ 15) ∧ ((3 ≤ w ∧ w ≤ 6 ∧ mRd w (sP (R 0) (R 1))) ∧ (∀ j : Nat, j < w → R 0 (j : Int) ≤ 12 ∧ R 1 (j : Int) ≤ 12)) ∧ (k9 = 6) ∧ v = some (.int (zI 0)) ∧ zMo G L f1 o ra 2 0 hc zn (k9 : Int) mn om R) ∨ (((1 ≤ g ∧ g ≤ 4) ∧ 1 ≤ t ∧ t ≤ 15) ∧ ((3 ≤ w ∧ w ≤ 6 ∧ mRd w (sP (R 0) (R 1))) ∧ (∀ j : Nat, j < w → R 0 (j : Int) ≤ 12 ∧ R 1 (j : Int) ≤ 12)) ∧ ¬ (k9 = 6) ∧ v = some (.int (zI (k9 : Int))) ∧ ∃ R1 : Nat → Int → Int, kAdd R R1 w k9 g t ∧ zMo G L f1 o ra 0 0 hc zn ((k9 : Int) + 1) mn om R1)))) args s (zR0 2 49).cells (zR0 2 49).slots A) 159 [(0, .ref o), (1, .int (zI g)), (2, .int (zI t)), (3, .int (zI (w : Int))), (5, .int (zI (i : Int)))] [] L g1 := by
    intro c1 c2 c3 d
    induction d with
    | zero => intro i g1 R1 h1 h2; omega
    | succ d ih =>
      intro i g1 R1 h1 h2 hG hF hK hJ hU
      have c4 := c2.1.2.1
      refine k_iload Xc d_M_kind_159 rfl (n := 161) rfl ?_
      refine k_iload_n Xc d_M_kind_161 rfl rfl (n := 162) rfl ?_
      refine k_icmp_ge Xc d_M_kind_162 (t := 215) (n := 165) rfl rfl (by omega) (by omega) (fun h_162 => ?_) (fun h_162 => ?_)
      · refine k_aload_n Xc d_M_kind_215 rfl rfl (n := 216) rfl ?_
        refine k_get Xc u_M rfl 15 (by decide) wd_565 rfl d_M_kind_216 (n := 219) rfl hG.1 hG.2.2.1 rfl ?_
        refine k_aload_n Xc d_M_kind_219 rfl rfl (n := 220) rfl ?_
        refine k_get Xc u_M rfl 12 (by decide) wd_562 rfl d_M_kind_220 (n := 223) rfl hG.1 hG.2.2.1 rfl ?_
        refine k_iload_n Xc d_M_kind_223 rfl rfl (n := 224) rfl ?_
        refine k_iastN Xc hG 10 (by decide) d_M_kind_224 (n := 225) rfl (by omega) (by show _ < ((6 : Nat) : Int); omega) (fun f_224 R_224 hr_224 hk_224 hM_224 hF_224 => ?_)
        refine k_aload_n Xc d_M_kind_225 rfl rfl (n := 226) rfl ?_
        refine k_get Xc u_M rfl 16 (by decide) wd_566 rfl d_M_kind_226 (n := 229) rfl hM_224.1 hM_224.2.2.1 rfl ?_
        refine k_aload_n Xc d_M_kind_229 rfl rfl (n := 230) rfl ?_
        refine k_get Xc u_M rfl 12 (by decide) wd_562 rfl d_M_kind_230 (n := 233) rfl hM_224.1 hM_224.2.2.1 rfl ?_
        refine k_iload_n Xc d_M_kind_233 rfl rfl (n := 234) rfl ?_
        refine k_iastN Xc hM_224 11 (by decide) d_M_kind_234 (n := 235) rfl (by omega) (by show _ < ((6 : Nat) : Int); omega) (fun f_234 R_234 hr_234 hk_234 hM_234 hF_234 => ?_)
        refine k_aload_n Xc d_M_kind_235 rfl rfl (n := 236) rfl ?_
        refine k_get Xc u_M rfl 17 (by decide) wd_567 rfl d_M_kind_236 (n := 239) rfl hM_234.1 hM_234.2.2.1 rfl ?_
        refine k_aload_n Xc d_M_kind_239 rfl rfl (n := 240) rfl ?_
        refine k_get Xc u_M rfl 12 (by decide) wd_562 rfl d_M_kind_240 (n := 243) rfl hM_234.1 hM_234.2.2.1 rfl ?_
        refine k_iload_n Xc d_M_kind_243 rfl rfl (n := 244) rfl ?_
        refine k_iastN Xc hM_234 12 (by decide) d_M_kind_244 (n := 245) rfl (by omega) (by show _ < ((6 : Nat) : Int); omega) (fun f_244 R_244 hr_244 hk_244 hM_244 hF_244 => ?_)
        refine k_aload_n Xc d_M_kind_245 rfl rfl (n := 246) rfl ?_
        refine k_dup Xc d_M_kind_246 rfl (n := 247) rfl ?_
        refine k_get Xc u_M rfl 12 (by decide) wd_562 rfl d_M_kind_247 (n := 250) rfl hM_244.1 hM_244.2.2.1 rfl ?_
        refine k_iconst Xc d_M_kind_250 (n := 251) rfl ?_
        refine k_iadd Xc d_M_kind_251 (n := 252) rfl ?_
        refine k_putM_kinds Xc hM_244 wd_562 d_M_kind_252 (n := 255) rfl (fun f_252 hM_252 hF_252 => ?_)
        refine k_aload_n Xc d_M_kind_255 rfl rfl (n := 256) rfl ?_
        refine k_get Xc u_M rfl 12 (by decide) wd_562 rfl d_M_kind_256 (n := 259) rfl hM_252.1 hM_252.2.2.1 rfl ?_
        refine k_iconst Xc d_M_kind_259 (n := 260) rfl ?_
        refine k_isub Xc d_M_kind_260 (n := 261) rfl ?_
        refine k_iret Xc d_M_kind_261 hr rfl (Nat.le_refl _) (Nat.le_refl _) ?_
        have ei : i = w := by omega
        subst ei
        refine ⟨rfl, (mFr_tr (mFr_tr (mFr_tr (mFr_tr hF hF_224) hF_234) hF_244) hF_252), Or.inr (Or.inr (Or.inr ⟨c1, c2, c3, by rw [show (k9 : Int) + 1 - 1 = (k9 : Int) by omega], R_244, ⟨fun k y4 y5 y6 y7 y8 => ?_, ?_, ?_, ?_, fun j hj => ?_, fun q z => ?_⟩, hM_252⟩))⟩
        · rw [hk_244 k y8, hk_234 k y7, hk_224 k y6]; exact hK k y4 y5
        · rw [hk_244 10 (by decide), hk_234 10 (by decide), hr_224, hK 10 (by decide) (by decide)]
        · rw [hk_244 11 (by decide), hr_234, hk_224 11 (by decide), hK 11 (by decide) (by decide)]
        · rw [hr_244, hk_234 12 (by decide), hk_224 12 (by decide), hK 12 (by decide) (by decide)]
        · rw [hk_244 8 (by decide), hk_234 8 (by decide), hk_224 8 (by decide), hk_244 9 (by decide), hk_234 9 (by decide), hk_224 9 (by decide)]; exact hJ j hj
        · rw [hk_244 8 (by decide), hk_234 8 (by decide), hk_224 8 (by decide), hk_244 9 (by decide), hk_234 9 (by decide), hk_224 9 (by decide)]; exact hU q z
      · refine k_aload_n Xc d_M_kind_165 rfl rfl (n := 166) rfl ?_
        refine k_get Xc u_M rfl 13 (by decide) wd_563 rfl d_M_kind_166 (n := 169) rfl hG.1 hG.2.2.1 rfl ?_
        refine k_bipush Xc d_M_kind_169 rfl (n := 171) rfl ?_
        refine k_aload_n Xc d_M_kind_171 rfl rfl (n := 172) rfl ?_
        refine k_get Xc u_M rfl 12 (by decide) wd_562 rfl d_M_kind_172 (n := 175) rfl hG.1 hG.2.2.1 rfl ?_
        refine k_imul Xc d_M_kind_175 (n := 176) rfl ?_
        refine k_iload Xc d_M_kind_176 rfl (n := 178) rfl ?_
        refine k_iadd Xc d_M_kind_178 (n := 179) rfl ?_
        refine k_aload_n Xc d_M_kind_179 rfl rfl (n := 180) rfl ?_
        refine k_get Xc u_M rfl 2 (by decide) wd_552 rfl d_M_kind_180 (n := 183) rfl hG.1 hG.2.2.1 rfl ?_
        refine k_iload Xc d_M_kind_183 rfl (n := 185) rfl ?_
        refine k_iald Xc d_M_kind_185 (n := 186) rfl (hG.2.1 0 (by decide)) (mr_0 hG) (by omega) (by omega) (by decide) ?_
        refine k_iastN Xc hG 8 (by decide) d_M_kind_186 (n := 187) rfl (by omega) (by show _ < ((36 : Nat) : Int); omega) (fun f_186 R_186 hr_186 hk_186 hM_186 hF_186 => ?_)
        refine k_aload_n Xc d_M_kind_187 rfl rfl (n := 188) rfl ?_
        refine k_get Xc u_M rfl 14 (by decide) wd_564 rfl d_M_kind_188 (n := 191) rfl hM_186.1 hM_186.2.2.1 rfl ?_
        refine k_bipush Xc d_M_kind_191 rfl (n := 193) rfl ?_
        refine k_aload_n Xc d_M_kind_193 rfl rfl (n := 194) rfl ?_
        refine k_get Xc u_M rfl 12 (by decide) wd_562 rfl d_M_kind_194 (n := 197) rfl hM_186.1 hM_186.2.2.1 rfl ?_
        refine k_imul Xc d_M_kind_197 (n := 198) rfl ?_
        refine k_iload Xc d_M_kind_198 rfl (n := 200) rfl ?_
        refine k_iadd Xc d_M_kind_200 (n := 201) rfl ?_
        refine k_aload_n Xc d_M_kind_201 rfl rfl (n := 202) rfl ?_
        refine k_get Xc u_M rfl 3 (by decide) wd_553 rfl d_M_kind_202 (n := 205) rfl hM_186.1 hM_186.2.2.1 rfl ?_
        refine k_iload Xc d_M_kind_205 rfl (n := 207) rfl ?_
        refine k_iald Xc d_M_kind_207 (n := 208) rfl (hM_186.2.1 1 (by decide)) (mr_1 hM_186) (by omega) (by omega) (by decide) ?_
        refine k_iastN Xc hM_186 9 (by decide) d_M_kind_208 (n := 209) rfl (by omega) (by show _ < ((36 : Nat) : Int); omega) (fun f_208 R_208 hr_208 hk_208 hM_208 hF_208 => ?_)
        refine k_iinc Xc d_M_kind_209 rfl (by decide) (n := 212) rfl ?_
        refine k_goto Xc d_M_kind_212 (t := 159) rfl ?_
        exact k_loc (ih (i + 1) _ _ (by omega) (by omega) hM_208 (mFr_tr (mFr_tr hF hF_186) hF_208) (fun k q1 q2 => by rw [hk_208 k q2, hk_186 k q1]; exact hK k q1 q2) (fun j hj => by
          rw [hr_208, hk_208 8 (by decide), hr_186, hk_186 9 (by decide)]
          rcases Nat.lt_or_ge j i with q | q
          · rw [iu_ne (by omega), iu_ne (by omega)]; exact hJ j q
          · have ej : j = i := by omega
            subst ej
            rw [iu_at, iu_at, hk_186 1 (by decide), hK 0 (by decide) (by decide), hK 1 (by decide) (by decide)]; exact ⟨rfl, rfl⟩) (fun q z => by
          rw [hr_208, hk_208 8 (by decide), hr_186, hk_186 9 (by decide), iu_ne (by omega), iu_ne (by omega)]
          exact hU q z)) rfl
  have first : ((1 ≤ g ∧ g ≤ 4) ∧ 1 ≤ t ∧ t ≤ 15) → ∀ (g1 : Nat → va_E), zMo G L g1 o ra 0 0 hc zn (k9 : Int) mn om R → mFr f g1 o ra → ∀ (d i : Nat) (b : Int), w < i + d → i ≤ w → zB (∀ j : Nat, j < i → R 0 (j : Int) ≤ 12 ∧ R 1 (j : Int) ≤ 12) b → zG p l e (zR0 2 49) s m args below meth c D A 6 0 0 (MQ below (zE D A (fun v L1 f1 => L = L1 ∧ mFr f f1 o ra ∧ ((¬ ((1 ≤ g ∧ g ≤ 4) ∧ 1 ≤ t ∧ t ≤ 15) ∧ v = some (.int (zI 0)) ∧ zMo G L f1 o ra 1 (w : Int) hc zn (k9 : Int) mn om R) ∨ (((1 ≤ g ∧ g ≤ 4) ∧ 1 ≤ t ∧ t ≤ 15) ∧ ¬ ((3 ≤ w ∧ w ≤ 6 ∧ mRd w (sP (R 0) (R 1))) ∧ (∀ j : Nat, j < w → R 0 (j : Int) ≤ 12 ∧ R 1 (j : Int) ≤ 12)) ∧ v = some (.int (zI 0)) ∧ zMo G L f1 o ra 1 0 hc zn (k9 : Int) mn om R) ∨ (((1 ≤ g ∧ g ≤ 4) ∧ 1 ≤ t ∧ t ≤ 15) ∧ ((3 ≤ w ∧ w ≤ 6 ∧ mRd w (sP (R 0) (R 1))) ∧ (∀ j : Nat, j < w → R 0 (j : Int) ≤ 12 ∧ R 1 (j : Int) ≤ 12)) ∧ (k9 = 6) ∧ v = some (.int (zI 0)) ∧ zMo G L f1 o ra 2 0 hc zn (k9 : Int) mn om R) ∨ (((1 ≤ g ∧ g ≤ 4) ∧ 1 ≤ t ∧ t ≤ 15) ∧ ((3 ≤ w ∧ w ≤ 6 ∧ mRd w (sP (R 0) (R 1))) ∧ (∀ j : Nat, j < w → R 0 (j : Int) ≤ 12 ∧ R 1 (j : Int) ≤ 12)) ∧ ¬ (k9 = 6) ∧ v = some (.int (zI (k9 : Int))) ∧ ∃ R1 : Nat → Int → Int, kAdd R R1 w k9 g t ∧ zMo G L f1 o ra 0 0 hc zn ((k9 : Int) + 1) mn om R1)))) args s (zR0 2 49).cells (zR0 2 49).slots A) 53 [(0, .ref o), (1, .int (zI g)), (2, .int (zI t)), (3, .int (zI (w : Int))), (4, .int (zI b)), (5, .int (zI (i : Int)))] [] L g1 := by
    intro c1 g1 hG hF d
    induction d with
    | zero => intro i b h1 h2; omega
    | succ d ih =>
      intro i b h1 h2 hb
      have b1 := zB_01 hb
      refine k_iload Xc d_M_kind_53 rfl (n := 55) rfl ?_
      refine k_iload_n Xc d_M_kind_55 rfl rfl (n := 56) rfl ?_
      refine k_icmp_ge Xc d_M_kind_56 (t := 101) (n := 59) rfl rfl (by omega) (by omega) (fun h_56 => ?_) (fun h_56 => ?_)
      · have ei : i = w := by omega
        subst ei
        refine k_aload_n Xc d_M_kind_101 rfl rfl (n := 102) rfl ?_
        refine k_iload_n Xc d_M_kind_102 rfl rfl (n := 103) rfl ?_
        refine k_iconst Xc d_M_kind_103 (n := 104) rfl ?_
        refine k_icmp_lt Xc d_M_kind_104 (t := 126) (n := 107) rfl rfl (by omega) (by omega) (fun h_104 => ?_) (fun h_104 => ?_)
        · refine k_iconst Xc d_M_kind_126 (n := 127) rfl ?_
          refine k_goto Xc d_M_kind_127 (t := 144) rfl ?_
          refine k_putM_code Xc hG wd_550 d_M_kind_144 (n := 147) rfl (fun f_144 hM_144 hF_144 => ?_)
          refine k_aload_n Xc d_M_kind_147 rfl rfl (n := 148) rfl ?_
          refine k_get Xc u_M rfl 0 (by decide) wd_550 rfl d_M_kind_148 (n := 151) rfl hM_144.1 hM_144.2.2.1 rfl ?_
          refine k_if_le Xc d_M_kind_151 (t := 156) (n := 154) rfl rfl (by omega) (fun h_151 => absurd h_151 (by omega)) (fun _ => ?_)
          refine k_iconst Xc d_M_kind_154 (n := 155) rfl ?_
          refine k_iret Xc d_M_kind_155 hr rfl (Nat.le_refl _) (Nat.le_refl _) ?_
          exact ⟨rfl, (mFr_tr hF hF_144), by first | exact Or.inr (Or.inl ⟨c1, fun q => by first | exact e_115 q.1.2.2 | exact zB_f hb (by omega) q.2 | (have q1 := q.1.1; have q2 := q.1.2.1; omega), rfl, hM_144⟩) | exact Or.inr (Or.inr (Or.inl ⟨c1, ⟨⟨by omega, by omega, e_115⟩, zB_t hb (by omega)⟩, by omega, rfl, hM_144⟩))⟩
        · refine k_iload_n Xc d_M_kind_107 rfl rfl (n := 108) rfl ?_
          refine k_bipush Xc d_M_kind_108 rfl (n := 110) rfl ?_
          refine k_icmp_gt Xc d_M_kind_110 (t := 126) (n := 113) rfl rfl (by omega) (by omega) (fun h_110 => ?_) (fun h_110 => ?_)
          · refine k_iconst Xc d_M_kind_126 (n := 127) rfl ?_
            refine k_goto Xc d_M_kind_127 (t := 144) rfl ?_
            refine k_putM_code Xc hG wd_550 d_M_kind_144 (n := 147) rfl (fun f_144 hM_144 hF_144 => ?_)
            refine k_aload_n Xc d_M_kind_147 rfl rfl (n := 148) rfl ?_
            refine k_get Xc u_M rfl 0 (by decide) wd_550 rfl d_M_kind_148 (n := 151) rfl hM_144.1 hM_144.2.2.1 rfl ?_
            refine k_if_le Xc d_M_kind_151 (t := 156) (n := 154) rfl rfl (by omega) (fun h_151 => absurd h_151 (by omega)) (fun _ => ?_)
            refine k_iconst Xc d_M_kind_154 (n := 155) rfl ?_
            refine k_iret Xc d_M_kind_155 hr rfl (Nat.le_refl _) (Nat.le_refl _) ?_
            exact ⟨rfl, (mFr_tr hF hF_144), by first | exact Or.inr (Or.inl ⟨c1, fun q => by first | exact e_115 q.1.2.2 | exact zB_f hb (by omega) q.2 | (have q1 := q.1.1; have q2 := q.1.2.1; omega), rfl, hM_144⟩) | exact Or.inr (Or.inr (Or.inl ⟨c1, ⟨⟨by omega, by omega, e_115⟩, zB_t hb (by omega)⟩, by omega, rfl, hM_144⟩))⟩
          · refine k_aload_n Xc d_M_kind_113 rfl rfl (n := 114) rfl ?_
            refine k_iload_n Xc d_M_kind_114 rfl rfl (n := 115) rfl ?_
            refine k_qV (na := 1) Xc (m_M_isRound l D G hG hW _ (by omega) (by omega)) hG.1 hG.2.2.1 rfl wd_687 wd_684 wd_686 ws_15 wd_6 (by decide +kernel) ⟨by decide, by decide⟩ rfl rfl (Nat.le_of_ble_eq_true rfl) d_M_kind_115 (n := 118) rfl ⟨Nat.zero_le _, Nat.zero_le _⟩ (fun r_115 e_115 => ?_)
            rcases e_115 with ⟨e_115, rfl⟩ | ⟨e_115, rfl⟩
            · refine k_if_eq Xc d_M_kind_118 (t := 126) (n := 121) rfl rfl (by omega) (fun h_118 => absurd h_118 (by omega)) (fun _ => ?_)
              refine k_iload Xc d_M_kind_121 rfl (n := 123) rfl ?_
              refine k_if_ne Xc d_M_kind_123 (t := 130) (n := 126) rfl rfl (by omega) (fun h_123 => ?_) (fun h_123 => ?_)
              · refine k_aload_n Xc d_M_kind_130 rfl rfl (n := 131) rfl ?_
                refine k_get Xc u_M rfl 12 (by decide) wd_562 rfl d_M_kind_131 (n := 134) rfl hG.1 hG.2.2.1 rfl ?_
                refine k_bipush Xc d_M_kind_134 rfl (n := 136) rfl ?_
                refine k_icmp_ne Xc d_M_kind_136 (t := 143) (n := 139) rfl rfl (by omega) (by omega) (fun h_136 => ?_) (fun h_136 => ?_)
                · refine k_iconst Xc d_M_kind_143 (n := 144) rfl ?_
                  refine k_putM_code Xc hG wd_550 d_M_kind_144 (n := 147) rfl (fun f_144 hM_144 hF_144 => ?_)
                  refine k_aload_n Xc d_M_kind_147 rfl rfl (n := 148) rfl ?_
                  refine k_get Xc u_M rfl 0 (by decide) wd_550 rfl d_M_kind_148 (n := 151) rfl hM_144.1 hM_144.2.2.1 rfl ?_
                  refine k_if_le Xc d_M_kind_151 (t := 156) (n := 154) rfl rfl (by omega) (fun _ => ?_) (fun h_151 => absurd h_151 (by omega))
                  refine k_iconst Xc d_M_kind_156 (n := 157) rfl ?_
                  refine k_istore Xc d_M_kind_157 (by decide) (n := 159) rfl ?_
                  exact k_loc (loop c1 ⟨⟨by omega, by omega, e_115⟩, zB_t hb (by omega)⟩ (by omega) (i + 1) 0 _ R (by omega) (by omega) hM_144 (mFr_tr hF hF_144) (fun _ _ _ => rfl) (fun j q => absurd q (by omega)) (fun _ _ => ⟨rfl, rfl⟩)) rfl
                · refine k_iconst Xc d_M_kind_139 (n := 140) rfl ?_
                  refine k_goto Xc d_M_kind_140 (t := 144) rfl ?_
                  refine k_putM_code Xc hG wd_550 d_M_kind_144 (n := 147) rfl (fun f_144 hM_144 hF_144 => ?_)
                  refine k_aload_n Xc d_M_kind_147 rfl rfl (n := 148) rfl ?_
                  refine k_get Xc u_M rfl 0 (by decide) wd_550 rfl d_M_kind_148 (n := 151) rfl hM_144.1 hM_144.2.2.1 rfl ?_
                  refine k_if_le Xc d_M_kind_151 (t := 156) (n := 154) rfl rfl (by omega) (fun h_151 => absurd h_151 (by omega)) (fun _ => ?_)
                  refine k_iconst Xc d_M_kind_154 (n := 155) rfl ?_
                  refine k_iret Xc d_M_kind_155 hr rfl (Nat.le_refl _) (Nat.le_refl _) ?_
                  exact ⟨rfl, (mFr_tr hF hF_144), by first | exact Or.inr (Or.inl ⟨c1, fun q => by first | exact e_115 q.1.2.2 | exact zB_f hb (by omega) q.2 | (have q1 := q.1.1; have q2 := q.1.2.1; omega), rfl, hM_144⟩) | exact Or.inr (Or.inr (Or.inl ⟨c1, ⟨⟨by omega, by omega, e_115⟩, zB_t hb (by omega)⟩, by omega, rfl, hM_144⟩))⟩
              · refine k_iconst Xc d_M_kind_126 (n := 127) rfl ?_
                refine k_goto Xc d_M_kind_127 (t := 144) rfl ?_
                refine k_putM_code Xc hG wd_550 d_M_kind_144 (n := 147) rfl (fun f_144 hM_144 hF_144 => ?_)
                refine k_aload_n Xc d_M_kind_147 rfl rfl (n := 148) rfl ?_
                refine k_get Xc u_M rfl 0 (by decide) wd_550 rfl d_M_kind_148 (n := 151) rfl hM_144.1 hM_144.2.2.1 rfl ?_
                refine k_if_le Xc d_M_kind_151 (t := 156) (n := 154) rfl rfl (by omega) (fun h_151 => absurd h_151 (by omega)) (fun _ => ?_)
                refine k_iconst Xc d_M_kind_154 (n := 155) rfl ?_
                refine k_iret Xc d_M_kind_155 hr rfl (Nat.le_refl _) (Nat.le_refl _) ?_
                exact ⟨rfl, (mFr_tr hF hF_144), by first | exact Or.inr (Or.inl ⟨c1, fun q => by first | exact e_115 q.1.2.2 | exact zB_f hb (by omega) q.2 | (have q1 := q.1.1; have q2 := q.1.2.1; omega), rfl, hM_144⟩) | exact Or.inr (Or.inr (Or.inl ⟨c1, ⟨⟨by omega, by omega, e_115⟩, zB_t hb (by omega)⟩, by omega, rfl, hM_144⟩))⟩
            · refine k_if_eq Xc d_M_kind_118 (t := 126) (n := 121) rfl rfl (by omega) (fun _ => ?_) (fun h_118 => absurd h_118 (by omega))
              refine k_iconst Xc d_M_kind_126 (n := 127) rfl ?_
              refine k_goto Xc d_M_kind_127 (t := 144) rfl ?_
              refine k_putM_code Xc hG wd_550 d_M_kind_144 (n := 147) rfl (fun f_144 hM_144 hF_144 => ?_)
              refine k_aload_n Xc d_M_kind_147 rfl rfl (n := 148) rfl ?_
              refine k_get Xc u_M rfl 0 (by decide) wd_550 rfl d_M_kind_148 (n := 151) rfl hM_144.1 hM_144.2.2.1 rfl ?_
              refine k_if_le Xc d_M_kind_151 (t := 156) (n := 154) rfl rfl (by omega) (fun h_151 => absurd h_151 (by omega)) (fun _ => ?_)
              refine k_iconst Xc d_M_kind_154 (n := 155) rfl ?_
              refine k_iret Xc d_M_kind_155 hr rfl (Nat.le_refl _) (Nat.le_refl _) ?_
              exact ⟨rfl, (mFr_tr hF hF_144), by first | exact Or.inr (Or.inl ⟨c1, fun q => by first | exact e_115 q.1.2.2 | exact zB_f hb (by omega) q.2 | (have q1 := q.1.1; have q2 := q.1.2.1; omega), rfl, hM_144⟩) | exact Or.inr (Or.inr (Or.inl ⟨c1, ⟨⟨by omega, by omega, e_115⟩, zB_t hb (by omega)⟩, by omega, rfl, hM_144⟩))⟩
      · refine k_iload Xc d_M_kind_59 rfl (n := 61) rfl ?_
        refine k_if_eq Xc d_M_kind_61 (t := 92) (n := 64) rfl rfl (by omega) (fun h_61 => ?_) (fun h_61 => ?_)
        · refine k_iconst Xc d_M_kind_92 (n := 93) rfl ?_
          refine k_istore Xc d_M_kind_93 (by decide) (n := 95) rfl ?_
          refine k_iinc Xc d_M_kind_95 rfl (by decide) (n := 98) rfl ?_
          refine k_goto Xc d_M_kind_98 (t := 53) rfl ?_
          exact k_loc (ih (i + 1) 0 (by omega) (by omega) (Or.inr ⟨fun q => by
            first | exact zB_f hb (by omega) (fun j hj => q j (by omega)) | (have z := q i (by omega); omega), rfl⟩)) rfl
        · refine k_aload_n Xc d_M_kind_64 rfl rfl (n := 65) rfl ?_
          refine k_get Xc u_M rfl 2 (by decide) wd_552 rfl d_M_kind_65 (n := 68) rfl hG.1 hG.2.2.1 rfl ?_
          refine k_iload Xc d_M_kind_68 rfl (n := 70) rfl ?_
          have wi := hW.2 i (by omega)
          refine k_iald Xc d_M_kind_70 (n := 71) rfl (hG.2.1 0 (by decide)) (mr_0 hG) (by omega) (by omega) (by decide) ?_
          refine k_bipush Xc d_M_kind_71 rfl (n := 73) rfl ?_
          refine k_icmp_gt Xc d_M_kind_73 (t := 92) (n := 76) rfl rfl (by omega) (by omega) (fun h_73 => ?_) (fun h_73 => ?_)
          · refine k_iconst Xc d_M_kind_92 (n := 93) rfl ?_
            refine k_istore Xc d_M_kind_93 (by decide) (n := 95) rfl ?_
            refine k_iinc Xc d_M_kind_95 rfl (by decide) (n := 98) rfl ?_
            refine k_goto Xc d_M_kind_98 (t := 53) rfl ?_
            exact k_loc (ih (i + 1) 0 (by omega) (by omega) (Or.inr ⟨fun q => by
              first | exact zB_f hb (by omega) (fun j hj => q j (by omega)) | (have z := q i (by omega); omega), rfl⟩)) rfl
          · refine k_aload_n Xc d_M_kind_76 rfl rfl (n := 77) rfl ?_
            refine k_get Xc u_M rfl 3 (by decide) wd_553 rfl d_M_kind_77 (n := 80) rfl hG.1 hG.2.2.1 rfl ?_
            refine k_iload Xc d_M_kind_80 rfl (n := 82) rfl ?_
            refine k_iald Xc d_M_kind_82 (n := 83) rfl (hG.2.1 1 (by decide)) (mr_1 hG) (by omega) (by omega) (by decide) ?_
            refine k_bipush Xc d_M_kind_83 rfl (n := 85) rfl ?_
            refine k_icmp_gt Xc d_M_kind_85 (t := 92) (n := 88) rfl rfl (by omega) (by omega) (fun h_85 => ?_) (fun h_85 => ?_)
            · refine k_iconst Xc d_M_kind_92 (n := 93) rfl ?_
              refine k_istore Xc d_M_kind_93 (by decide) (n := 95) rfl ?_
              refine k_iinc Xc d_M_kind_95 rfl (by decide) (n := 98) rfl ?_
              refine k_goto Xc d_M_kind_98 (t := 53) rfl ?_
              exact k_loc (ih (i + 1) 0 (by omega) (by omega) (Or.inr ⟨fun q => by
                first | exact zB_f hb (by omega) (fun j hj => q j (by omega)) | (have z := q i (by omega); omega), rfl⟩)) rfl
            · refine k_iconst Xc d_M_kind_88 (n := 89) rfl ?_
              refine k_goto Xc d_M_kind_89 (t := 93) rfl ?_
              refine k_istore Xc d_M_kind_93 (by decide) (n := 95) rfl ?_
              refine k_iinc Xc d_M_kind_95 rfl (by decide) (n := 98) rfl ?_
              refine k_goto Xc d_M_kind_98 (t := 53) rfl ?_
              exact k_loc (ih (i + 1) 1 (by omega) (by omega) (Or.inl ⟨fun j hj => by
                rcases Nat.lt_or_ge j i with q | q
                · exact zB_t hb (by omega) j q
                · have ej : j = i := by omega
                  subst ej
                  omega, rfl⟩)) rfl
  refine k_aload_n Xc d_M_kind_0 rfl rfl (n := 1) rfl ?_
  refine k_iload_n Xc d_M_kind_1 rfl rfl (n := 2) rfl ?_
  refine k_iconst Xc d_M_kind_2 (n := 3) rfl ?_
  refine k_qS (na := 2) Xc (m_M_isGrade l D G _ _ (by omega) (by omega)) wd_683 wd_681 wd_682 wd_6 (by decide +kernel) ⟨by decide, by decide⟩ rfl rfl (Nat.le_of_ble_eq_true rfl) d_M_kind_3 (n := 6) rfl ⟨Nat.zero_le _, Nat.zero_le _⟩ (fun r_3 e_3 => ?_)
  rcases e_3 with ⟨e_3, rfl⟩ | ⟨e_3, rfl⟩
  · refine k_if_eq Xc d_M_kind_6 (t := 24) (n := 9) rfl rfl (by omega) (fun h_6 => absurd h_6 (by omega)) (fun _ => ?_)
    refine k_iload_n Xc d_M_kind_9 rfl rfl (n := 10) rfl ?_
    refine k_iconst Xc d_M_kind_10 (n := 11) rfl ?_
    refine k_icmp_lt Xc d_M_kind_11 (t := 24) (n := 14) rfl rfl (by omega) (by omega) (fun h_11 => ?_) (fun h_11 => ?_)
    · refine k_iconst Xc d_M_kind_24 (n := 25) rfl ?_
      refine k_putM_code Xc hM wd_550 d_M_kind_25 (n := 28) rfl (fun f_25 hM_25 hF_25 => ?_)
      refine k_aload_n Xc d_M_kind_28 rfl rfl (n := 29) rfl ?_
      refine k_get Xc u_M rfl 0 (by decide) wd_550 rfl d_M_kind_29 (n := 32) rfl hM_25.1 hM_25.2.2.1 rfl ?_
      refine k_if_le Xc d_M_kind_32 (t := 37) (n := 35) rfl rfl (by omega) (fun h_32 => absurd h_32 (by omega)) (fun _ => ?_)
      refine k_iconst Xc d_M_kind_35 (n := 36) rfl ?_
      refine k_iret Xc d_M_kind_36 hr rfl (Nat.le_refl _) (Nat.le_refl _) ?_
      exact ⟨rfl, (mFr_tr mFr_rf hF_25), Or.inl ⟨by omega, rfl, hM_25⟩⟩
    · refine k_iload_n Xc d_M_kind_14 rfl rfl (n := 15) rfl ?_
      refine k_bipush Xc d_M_kind_15 rfl (n := 17) rfl ?_
      refine k_icmp_gt Xc d_M_kind_17 (t := 24) (n := 20) rfl rfl (by omega) (by omega) (fun h_17 => ?_) (fun h_17 => ?_)
      · refine k_iconst Xc d_M_kind_24 (n := 25) rfl ?_
        refine k_putM_code Xc hM wd_550 d_M_kind_25 (n := 28) rfl (fun f_25 hM_25 hF_25 => ?_)
        refine k_aload_n Xc d_M_kind_28 rfl rfl (n := 29) rfl ?_
        refine k_get Xc u_M rfl 0 (by decide) wd_550 rfl d_M_kind_29 (n := 32) rfl hM_25.1 hM_25.2.2.1 rfl ?_
        refine k_if_le Xc d_M_kind_32 (t := 37) (n := 35) rfl rfl (by omega) (fun h_32 => absurd h_32 (by omega)) (fun _ => ?_)
        refine k_iconst Xc d_M_kind_35 (n := 36) rfl ?_
        refine k_iret Xc d_M_kind_36 hr rfl (Nat.le_refl _) (Nat.le_refl _) ?_
        exact ⟨rfl, (mFr_tr mFr_rf hF_25), Or.inl ⟨by omega, rfl, hM_25⟩⟩
      · refine k_iconst Xc d_M_kind_20 (n := 21) rfl ?_
        refine k_goto Xc d_M_kind_21 (t := 25) rfl ?_
        refine k_putM_code Xc hM wd_550 d_M_kind_25 (n := 28) rfl (fun f_25 hM_25 hF_25 => ?_)
        refine k_aload_n Xc d_M_kind_28 rfl rfl (n := 29) rfl ?_
        refine k_get Xc u_M rfl 0 (by decide) wd_550 rfl d_M_kind_29 (n := 32) rfl hM_25.1 hM_25.2.2.1 rfl ?_
        refine k_if_le Xc d_M_kind_32 (t := 37) (n := 35) rfl rfl (by omega) (fun _ => ?_) (fun h_32 => absurd h_32 (by omega))
        refine k_aload_n Xc d_M_kind_37 rfl rfl (n := 38) rfl ?_
        refine k_get Xc u_M rfl 1 (by decide) wd_551 rfl d_M_kind_38 (n := 41) rfl hM_25.1 hM_25.2.2.1 rfl ?_
        refine k_istore_n Xc d_M_kind_41 rfl (by decide) (n := 42) rfl ?_
        refine k_aload_n Xc d_M_kind_42 rfl rfl (n := 43) rfl ?_
        refine k_iconst Xc d_M_kind_43 (n := 44) rfl ?_
        refine k_putM_waiting Xc hM_25 wd_551 d_M_kind_44 (n := 47) rfl (fun f_44 hM_44 hF_44 => ?_)
        refine k_iconst Xc d_M_kind_47 (n := 48) rfl ?_
        refine k_istore Xc d_M_kind_48 (by decide) (n := 50) rfl ?_
        refine k_iconst Xc d_M_kind_50 (n := 51) rfl ?_
        refine k_istore Xc d_M_kind_51 (by decide) (n := 53) rfl ?_
        exact k_loc (first (by omega) _ hM_44 (mFr_tr (mFr_tr mFr_rf hF_25) hF_44) (w + 1) 0 1 (by omega) (by omega) (Or.inl ⟨fun j q => absurd q (by omega), rfl⟩)) rfl
  · refine k_if_eq Xc d_M_kind_6 (t := 24) (n := 9) rfl rfl (by omega) (fun _ => ?_) (fun h_6 => absurd h_6 (by omega))
    refine k_iconst Xc d_M_kind_24 (n := 25) rfl ?_
    refine k_putM_code Xc hM wd_550 d_M_kind_25 (n := 28) rfl (fun f_25 hM_25 hF_25 => ?_)
    refine k_aload_n Xc d_M_kind_28 rfl rfl (n := 29) rfl ?_
    refine k_get Xc u_M rfl 0 (by decide) wd_550 rfl d_M_kind_29 (n := 32) rfl hM_25.1 hM_25.2.2.1 rfl ?_
    refine k_if_le Xc d_M_kind_32 (t := 37) (n := 35) rfl rfl (by omega) (fun h_32 => absurd h_32 (by omega)) (fun _ => ?_)
    refine k_iconst Xc d_M_kind_35 (n := 36) rfl ?_
    refine k_iret Xc d_M_kind_36 hr rfl (Nat.le_refl _) (Nat.le_refl _) ?_
    exact ⟨rfl, (mFr_tr mFr_rf hF_25), Or.inl ⟨by omega, rfl, hM_25⟩⟩
