-- ROOM: writers
/-- which corner comes where, so that they go round to the left -/
def lwi (n : Nat) (P : Nat → Int × Int) (j : Nat) : Nat := if 0 < ge_ar n P n then j else n - 1 - j
theorem zN_congr {G : Nat → ClassId} {L : List Nat} {f f1 : Nat → va_E} {a ax ay n : Nat} {gx gy hx hy : Nat → Int} (h : zN G L f f1 a ax ay n gx gy) (e : ∀ j, j < n → gx j = hx j ∧ gy j = hy j) : zN G L f f1 a ax ay n hx hy := by
  obtain ⟨X, Y, a1, a2, a3, a4, h1, h2, h3, h4⟩ := h
  exact ⟨X, Y, a1, a2, a3, a4, h1, h2, fun j hj => ⟨(h3 j hj).1.trans (e j hj).1, (h3 j hj).2.trans (e j hj).2⟩, h4⟩
theorem up_up {α : Type} (f : Nat → α) (k : Nat) (v w : α) : va_up (va_up f k v) k w = va_up f k w := by
  funext j
  unfold va_up
  by_cases h : j = k
  · rw [if_pos h, if_pos h]
  · rw [if_neg h, if_neg h, if_neg h]
/-- q1 is q, going round to the left, moved -/
def zLw (q q1 : TT) (dx dy : Int) : Prop := q1.1 = q.1 ∧ sIs q.1 q1.2.1 q1.2.2.1 (fun j : Nat => q.2.1 ((lwi q.1 (sP q.2.1 q.2.2.1) j : Nat) : Int) + dx) (fun j : Nat => q.2.2.1 ((lwi q.1 (sP q.2.1 q.2.2.1) j : Nat) : Int) + dy) ∧ sBx q.1 q1.2.1 q1.2.2.1 q1.2.2.2.1 q1.2.2.2.2.1 q1.2.2.2.2.2.1 q1.2.2.2.2.2.2
/-- q1 is q after one turn -/
def zTu (q q1 : TT) : Prop := q1.1 = q.1 ∧ sIs q.1 q1.2.1 q1.2.2.1 (fun j : Nat => q.2.2.2.2.2.2 - q.2.2.1 (j : Int)) (fun j : Nat => q.2.1 (j : Int) - q.2.2.2.1) ∧ sBx q.1 q1.2.1 q1.2.2.1 q1.2.2.2.1 q1.2.2.2.2.1 q1.2.2.2.2.2.1 q1.2.2.2.2.2.2
/-- q1 is q, moved -/
def zCp (q q1 : TT) (dx dy : Int) : Prop := q1.1 = q.1 ∧ sIs q.1 q1.2.1 q1.2.2.1 (fun j : Nat => q.2.1 (j : Int) + dx) (fun j : Nat => q.2.2.1 (j : Int) + dy) ∧ sBx q.1 q1.2.1 q1.2.2.1 q1.2.2.2.1 q1.2.2.2.2.1 q1.2.2.2.2.2.1 q1.2.2.2.2.2.2
/-- a small shape with its box -/
def rT (q : TT) : Prop := 3 ≤ q.1 ∧ q.1 ≤ 12 ∧ (∀ j : Nat, j < q.1 → 0 ≤ q.2.1 (j : Int) ∧ q.2.1 (j : Int) ≤ 12 ∧ 0 ≤ q.2.2.1 (j : Int) ∧ q.2.2.1 (j : Int) ≤ 12) ∧ sBx q.1 q.2.1 q.2.2.1 q.2.2.2.1 q.2.2.2.2.1 q.2.2.2.2.2.1 q.2.2.2.2.2.2
theorem rT_box {q : TT} (h : rT q) : 0 ≤ q.2.2.2.1 ∧ q.2.2.2.1 ≤ 12 ∧ 0 ≤ q.2.2.2.2.1 ∧ q.2.2.2.2.1 ≤ 12 ∧ 0 ≤ q.2.2.2.2.2.1 ∧ q.2.2.2.2.2.1 ≤ 12 ∧ 0 ≤ q.2.2.2.2.2.2 ∧ q.2.2.2.2.2.2 ≤ 12 := by
  obtain ⟨-, ⟨j1, a1, b1⟩, ⟨j2, a2, b2⟩, ⟨j3, a3, b3⟩, ⟨j4, a4, b4⟩⟩ := h.2.2.2 (by have := h.1; omega)
  have c1 := h.2.2.1 j1 a1
  have c2 := h.2.2.1 j2 a2
  have c3 := h.2.2.1 j3 a3
  have c4 := h.2.2.1 j4 a4
  omega
theorem rT_sB {q : TT} (h : rT q) : sB q.1 q.2.1 q.2.2.1 := ⟨h.2.1, fun j hj => by have := h.2.2.1 j hj; omega⟩
theorem rT_bx {q : TT} (h : rT q) : -500 ≤ q.2.2.2.1 ∧ q.2.2.2.1 ≤ 500 ∧ -500 ≤ q.2.2.2.2.2.2 ∧ q.2.2.2.2.2.2 ≤ 500 := by have := rT_box h; omega
theorem rT_lo {q : TT} (h : rT q) : -100 ≤ -q.2.2.2.1 ∧ -q.2.2.2.1 ≤ 100 ∧ -100 ≤ -q.2.2.2.2.2.1 ∧ -q.2.2.2.2.2.1 ≤ 100 := by have := rT_box h; omega
theorem rT_tu {q q1 : TT} (h : rT q) (ht : zTu q q1) : rT q1 := by
  obtain ⟨e, hi, hb⟩ := ht
  have bx := rT_box h
  obtain ⟨al, -⟩ := h.2.2.2 (by have := h.1; omega)
  refine ⟨by rw [e]; exact h.1, by rw [e]; exact h.2.1, fun j hj => ?_, by rw [e]; exact hb⟩
  rw [e] at hj
  have a := hi j hj
  have b := h.2.2.1 j hj
  have c := al j hj
  rw [a.1, a.2]
  dsimp only
  omega
theorem lwi_lt {n : Nat} {P : Nat → Int × Int} {j : Nat} (h : j < n) : lwi n P j < n := by unfold lwi; split <;> omega
theorem rT_lw {q q1 : TT} (h : rT q) (hl : zLw q q1 (-q.2.2.2.1) (-q.2.2.2.2.2.1)) : rT q1 := by
  obtain ⟨e, hi, hb⟩ := hl
  have bx := rT_box h
  obtain ⟨al, -⟩ := h.2.2.2 (by have := h.1; omega)
  refine ⟨by rw [e]; exact h.1, by rw [e]; exact h.2.1, fun j hj => ?_, by rw [e]; exact hb⟩
  rw [e] at hj
  have a := hi j hj
  have lt := lwi_lt (P := sP q.2.1 q.2.2.1) hj
  have b := h.2.2.1 _ lt
  have c := al _ lt
  rw [a.1, a.2]
  dsimp only
  omega
set_option maxRecDepth 100000 in
set_option maxHeartbeats 4000000 in
/-- a copy that goes round to the left, moved -/
theorem m_S_copyLeftward (l : Launch) (D : va_G) (G : Nat → ClassId) {L : List Nat} {f : Nat → va_E} {a ax ay n : Nat} {X Y : Int → Int} {lx hx ly hy : Int} (hS : zS G L f a ax ay n X Y lx hx ly hy) {b bx b_y k2 : Nat} {U V : Int → Int} {lu hu lv hv : Int} (hT : zS G L f b bx b_y k2 U V lu hu lv hv) (hxy : ax ≠ ay) (hap : sAp a ax ay b bx b_y) (hC : sB k2 U V) (dx dy : Int) (q3 : -100 ≤ dx ∧ dx ≤ 100 ∧ -100 ≤ dy ∧ dy ≤ 100) : zM l D G y_S_copyLeftward (.code y_S_copyLeftward c_S_copyLeftward 5 none :: BG) (zR0 3 67) [.ref a, .ref b, .int (zI dx), .int (zI dy)] L f (fun v L1 f1 => v = none ∧ L = L1 ∧ zN G L f f1 a ax ay k2 (fun j : Nat => U ((lwi k2 (sP U V) j : Nat) : Int) + dx) (fun j : Nat => V ((lwi k2 (sP U V) j : Nat) : Int) + dy)) := by
  refine zM.of (by decide) (Nat.le_of_ble_eq_true rfl) rfl (fun p e s m args below meth c A Xc hr hnm => ?_)
  have hm := hC.1
  have ab := ar_bd hC k2 (Nat.le_refl _)
  have hg : ∀ j : Nat, j < k2 → -1000 ≤ (fun j : Nat => U ((k2 - 1 - j : Nat) : Int) + dx) j ∧ (fun j : Nat => U ((k2 - 1 - j : Nat) : Int) + dx) j ≤ 1000 ∧ -1000 ≤ (fun j : Nat => V ((k2 - 1 - j : Nat) : Int) + dy) j ∧ (fun j : Nat => V ((k2 - 1 - j : Nat) : Int) + dy) j ≤ 1000 := fun j hj => by
    have := hC.2 (k2 - 1 - j) (by omega)
    dsimp only
    omega
  have loop : ¬ 0 < ge_ar k2 (sP U V) k2 → ∀ (d i : Nat) (g : Nat → va_E) (X1 Y1 : Int → Int) (l1 r1 l2 r2 : Int), k2 < i + d → i ≤ k2 → zS G L g a ax ay i X1 Y1 l1 r1 l2 r2 → sFr f g a ax ay → sIs i X1 Y1 (fun j : Nat => U ((k2 - 1 - j : Nat) : Int) + dx) (fun j : Nat => V ((k2 - 1 - j : Nat) : Int) + dy) → sBx i X1 Y1 l1 r1 l2 r2 → zG p l e (zR0 3 67) s m args below meth c D A 5 0 0 (MQ below (zE D A (fun v L1 f1 => v = none ∧ L = L1 ∧ zN G L f f1 a ax ay k2 (fun j : Nat => U ((lwi k2 (sP U V) j : Nat) : Int) + dx) (fun j : Nat => V ((lwi k2 (sP U V) j : Nat) : Int) + dy))) args s (zR0 3 67).cells (zR0 3 67).slots A) 27 [(0, .ref a), (1, .ref b), (2, .int (zI dx)), (3, .int (zI dy)), (4, .int (zI ((k2 : Int) - 1 - (i : Int))))] [] L g := by
    intro hneg d
    induction d with
    | zero => intro i g X1 Y1 l1 r1 l2 r2 h1 h2; omega
    | succ d ih =>
      intro i g X1 Y1 l1 r1 l2 r2 h1 h2 hG hF hI hX
      have hH := zS_keep hS hT hF hap
      refine k_iload Xc d_S_copyLeftward_27 rfl (n := 29) rfl ?_
      refine k_if_lt Xc d_S_copyLeftward_29 (t := 60) (n := 32) rfl rfl (by omega) (fun h_29 => ?_) (fun h_29 => ?_)
      · refine k_vret Xc d_S_copyLeftward_60 hr (Nat.le_refl _) (Nat.le_refl _) ?_
        have ek : i = k2 := by omega
        subst ek
        refine ⟨rfl, rfl, zN_congr ⟨X1, Y1, l1, r1, l2, r2, hG, hF, hI, hX⟩ (fun j hj => ?_)⟩
        unfold lwi
        rw [if_neg hneg]
        exact ⟨rfl, rfl⟩
      · refine k_aload_n Xc d_S_copyLeftward_32 rfl rfl (n := 33) rfl ?_
        refine k_aload_n Xc d_S_copyLeftward_33 rfl rfl (n := 34) rfl ?_
        refine k_get Xc u_S rfl 0 (by decide) wd_30 rfl d_S_copyLeftward_34 (n := 37) rfl hH.1 hH.2.2.2.1 rfl ?_
        refine k_iload Xc d_S_copyLeftward_37 rfl (n := 39) rfl ?_
        refine k_iald Xc d_S_copyLeftward_39 (n := 40) rfl hH.2.1 hH.2.2.2.2.1 (by omega) (by omega) (by decide) ?_
        refine k_iload_n Xc d_S_copyLeftward_40 rfl rfl (n := 41) rfl ?_
        refine k_iadd Xc d_S_copyLeftward_41 (n := 42) rfl ?_
        refine k_aload_n Xc d_S_copyLeftward_42 rfl rfl (n := 43) rfl ?_
        refine k_get Xc u_S rfl 1 (by decide) wd_31 rfl d_S_copyLeftward_43 (n := 46) rfl hH.1 hH.2.2.2.1 rfl ?_
        refine k_iload Xc d_S_copyLeftward_46 rfl (n := 48) rfl ?_
        refine k_iald Xc d_S_copyLeftward_48 (n := 49) rfl hH.2.2.1 hH.2.2.2.2.2 (by omega) (by omega) (by decide) ?_
        refine k_iload_n Xc d_S_copyLeftward_49 rfl rfl (n := 50) rfl ?_
        refine k_iadd Xc d_S_copyLeftward_50 (n := 51) rfl ?_
        have c1 := hC.2 (k2 - 1 - i) (by omega)
        have ei : ((k2 - 1 - i : Nat) : Int) = (k2 : Int) - 1 - (i : Int) := by omega
        rw [ei] at c1
        refine k_wV (na := 2) Xc (m_S_add l D G hG hxy (by omega) (fun q => sBx_bd hX hI (fun j hj => hg j (by omega)) q) _ _ (by omega) (by omega) (by omega) (by omega)) hG.1 hG.2.2.2.1 rfl wd_285 wd_312 wd_283 wd_284 wd_2 (by decide +kernel) ⟨by decide, by decide⟩ rfl rfl (Nat.le_of_ble_eq_true rfl) d_S_copyLeftward_51 (n := 54) rfl ⟨Nat.zero_le _, Nat.zero_le _⟩ (fun v_51 L_51 f_51 e_51 => ?_)
        obtain ⟨rfl, rfl, hS2, hF2⟩ := e_51
        refine k_iinc Xc d_S_copyLeftward_54 rfl (by decide) (n := 57) rfl ?_
        refine k_goto Xc d_S_copyLeftward_57 (t := 27) rfl ?_
        exact k_loc (ih (i + 1) _ _ _ _ _ _ _ (by omega) (by omega) hS2 (sFr_tr hF hF2) (sIs_add hI (by rw [ei]) (by rw [ei])) (sBx_add hX _ _)) (by rw [show (k2 : Int) - 1 - ((i + 1 : Nat) : Int) = (k2 : Int) - 1 - (i : Int) + -1 by omega]; rfl)
  refine k_aload_n Xc d_S_copyLeftward_0 rfl rfl (n := 1) rfl ?_
  refine k_qV (na := 0) Xc (m_S_doubleArea l D G hT hC.1) hT.1 hT.2.2.2.1 rfl wd_177 wd_363 wd_175 wd_176 wd_2 (by decide +kernel) ⟨by decide, by decide⟩ rfl rfl (Nat.le_of_ble_eq_true rfl) d_S_copyLeftward_1 (n := 4) rfl ⟨Nat.zero_le _, Nat.zero_le _⟩ (fun r_1 e_1 => ?_)
  subst e_1
  refine k_if_le Xc d_S_copyLeftward_4 (t := 15) (n := 7) rfl rfl (by omega) (fun h_4 => ?_) (fun h_4 => ?_)
  · refine k_aload_n Xc d_S_copyLeftward_15 rfl rfl (n := 16) rfl ?_
    refine k_wV (na := 0) Xc (m_S_empty l D G hS) hS.1 hS.2.2.2.1 rfl wd_311 wd_308 wd_309 wd_310 wd_2 (by decide +kernel) ⟨by decide, by decide⟩ rfl rfl (Nat.le_of_ble_eq_true rfl) d_S_copyLeftward_16 (n := 19) rfl ⟨Nat.zero_le _, Nat.zero_le _⟩ (fun v_16 L_16 f_16 e_16 => ?_)
    obtain ⟨rfl, rfl, hS1, hF1⟩ := e_16
    have hT1 := zS_keep hS hT hF1 hap
    refine k_aload_n Xc d_S_copyLeftward_19 rfl rfl (n := 20) rfl ?_
    refine k_get Xc u_S rfl 2 (by decide) wd_32 rfl d_S_copyLeftward_20 (n := 23) rfl hT1.1 hT1.2.2.2.1 rfl ?_
    refine k_iconst Xc d_S_copyLeftward_23 (n := 24) rfl ?_
    refine k_isub Xc d_S_copyLeftward_24 (n := 25) rfl ?_
    refine k_istore Xc d_S_copyLeftward_25 (by decide) (n := 27) rfl ?_
    exact k_loc (loop (by omega) (k2 + 1) 0 _ X Y lx hx ly hy (by omega) (by omega) hS1 hF1 (fun j q => absurd q (by omega)) (fun q => absurd q (by omega))) (by rw [show (k2 : Int) - 1 - ((0 : Nat) : Int) = (k2 : Int) - 1 by omega]; rfl)
  · refine k_aload_n Xc d_S_copyLeftward_7 rfl rfl (n := 8) rfl ?_
    refine k_aload_n Xc d_S_copyLeftward_8 rfl rfl (n := 9) rfl ?_
    refine k_iload_n Xc d_S_copyLeftward_9 rfl rfl (n := 10) rfl ?_
    refine k_iload_n Xc d_S_copyLeftward_10 rfl rfl (n := 11) rfl ?_
    refine k_wV (na := 3) Xc (m_S_copy l D G hS hT hxy hap hC _ _ q3) hS.1 hS.2.2.2.1 rfl wd_307 wd_364 wd_305 wd_306 wd_2 (by decide +kernel) ⟨by decide, by decide⟩ rfl rfl (Nat.le_of_ble_eq_true rfl) d_S_copyLeftward_11 (n := 14) rfl ⟨Nat.zero_le _, Nat.zero_le _⟩ (fun v_11 L_11 f_11 e_11 => ?_)
    obtain ⟨rfl, rfl, hN⟩ := e_11
    refine k_vret Xc d_S_copyLeftward_14 hr (Nat.le_refl _) (Nat.le_refl _) ?_
    refine ⟨rfl, rfl, zN_congr hN (fun j hj => ?_)⟩
    unfold lwi
    rw [if_pos (by omega)]
    exact ⟨rfl, rfl⟩
set_option maxRecDepth 100000 in
set_option maxHeartbeats 4000000 in
theorem m_Z_become (l : Launch) (D : va_G) (G : Nat → ClassId) {L : List Nat} {f : Nat → va_E} {ad : Nat → Nat} {T : Nat → TT} {V : Nat → Int} (hR : zRm G L f ad T V) (z : Nat) (hz : z < 5) (hB : sB (T 1).1 (T 1).2.1 (T 1).2.2.1) (g : Int) : zM l D G y_Z_become (.code y_Z_become c_Z_become 3 none :: BG) (zR0 4 91) [.ref (ad (10 + z)), .int (zI g), .ref (ad (100 + 1))] L f (fun v L1 f1 => v = none ∧ L = L1 ∧ rFr f f1 ad ∧ ∃ (T1 : Nat → TT) (V1 : Nat → Int), V1 (10 + z) = g ∧ (∀ c, c ≠ 10 + z → V1 c = V c) ∧ (∀ t, t ≠ 3 + z → T1 t = T t) ∧ zLw (T 1) (T1 (3 + z)) 0 0 ∧ zRm G L f1 ad T1 V1) := by
  refine zM.of (by decide) (Nat.le_of_ble_eq_true rfl) rfl (fun p e s m args below meth c A Xc hr hnm => ?_)
  refine k_aload_n Xc d_Z_become_0 rfl rfl (n := 1) rfl ?_
  refine k_iload_n Xc d_Z_become_1 rfl rfl (n := 2) rfl ?_
  refine k_put Xc u_Z t_Z_ok n_Z rfl 1 (by decide) wd_75 rfl rfl rfl rfl d_Z_become_2 (n := 5) rfl (hR.2.2.1 z (by omega)).1 (hR.2.2.1 z (by omega)).2 (Nat.le_of_ble_eq_true rfl) ?_
  obtain ⟨⟨V1, v1, v2, hR1⟩, hF1⟩ := zRm_zone hR (i := z) (by omega) g
  generalize hf1 : va_up f (ad (10 + z)) (Sum.inr (3, [Value.ref (ad (100 + (3 + z))), Value.int (zI g)])) = f1 at hR1 hF1
  refine k_heap (g := f1) (by rw [← hf1]; rfl) ?_
  refine k_aload_n Xc d_Z_become_5 rfl rfl (n := 6) rfl ?_
  refine k_get Xc u_Z rfl 0 (by decide) wd_73 rfl d_Z_become_6 (n := 9) rfl (hR1.2.2.1 z (by omega)).1 (hR1.2.2.1 z (by omega)).2 rfl ?_
  refine k_aload_n Xc d_Z_become_9 rfl rfl (n := 10) rfl ?_
  refine k_iconst Xc d_Z_become_10 (n := 11) rfl ?_
  refine k_iconst Xc d_Z_become_11 (n := 12) rfl ?_
  refine k_wV (na := 3) Xc (m_S_copyLeftward l D G (hR1.2.1 (3 + z) (by omega)) (hR1.2.1 1 (by omega)) (zRi_xy hR1.1 (s := (3 + z)) (by omega)) (zRi_ap hR1.1 (s := (3 + z)) (t := 1) (by omega) (by omega) (by omega)) hB _ _ (by omega)) (hR1.2.1 (3 + z) (by omega)).1 (hR1.2.1 (3 + z) (by omega)).2.2.2.1 rfl wd_362 wd_359 wd_360 wd_361 wd_2 (by decide +kernel) ⟨by decide, by decide⟩ rfl rfl (Nat.le_of_ble_eq_true rfl) d_Z_become_12 (n := 15) rfl ⟨Nat.zero_le _, Nat.zero_le _⟩ (fun v_12 L_12 f_12 e_12 => ?_)
  obtain ⟨rfl, rfl, hN⟩ := e_12
  obtain ⟨X_9, Y_9, a_9, b_9, c_9, d_9, hz_9, hs_9, hi_9, hb_9⟩ := hN
  obtain ⟨⟨T_9, te_9, tn_9, hR_9⟩, hQ_9⟩ := zRm_sh hR1 (s := (3 + z)) (by omega) hs_9 (q := (_, X_9, Y_9, a_9, b_9, c_9, d_9)) hz_9
  refine k_vret Xc d_Z_become_15 hr (Nat.le_refl _) (Nat.le_refl _) ?_
  exact ⟨rfl, rfl, rFr_tr hF1 hQ_9, T_9, V1, v1, v2, tn_9, by rw [te_9]; exact ⟨rfl, hi_9, hb_9⟩, hR_9⟩
set_option maxRecDepth 100000 in
set_option maxHeartbeats 4000000 in
theorem m_P_become (l : Launch) (D : va_G) (G : Nat → ClassId) {L : List Nat} {f : Nat → va_E} {a sh : Nat} {l0 k0 x0 y0 t0 : Int} (ha : a ∈ L) (hf : f a = .inr (1, [.ref sh, .int (zI l0), .int (zI k0), .int (zI x0), .int (zI y0), .int (zI t0)])) (k x y t : Int) : zM l D G y_P_become (.code y_P_become c_P_become 5 none :: BG) (zR0 0 0) [.ref a, .int (zI k), .int (zI x), .int (zI y), .int (zI t)] L f (fun v L1 f1 => v = none ∧ L = L1 ∧ f1 = va_up f a (.inr (1, [.ref sh, .int (zI 1), .int (zI k), .int (zI x), .int (zI y), .int (zI t)]))) := by
  refine zM.of (by decide) (Nat.le_of_ble_eq_true rfl) rfl (fun p e s m args below meth c A Xc hr hnm => ?_)
  refine k_aload_n Xc d_P_become_0 rfl rfl (n := 1) rfl ?_
  refine k_iconst Xc d_P_become_1 (n := 2) rfl ?_
  refine k_put Xc u_P t_P_ok n_P rfl 1 (by decide) wd_111 rfl rfl rfl rfl d_P_become_2 (n := 5) rfl ha hf (Nat.le_of_ble_eq_true rfl) ?_
  refine k_aload_n Xc d_P_become_5 rfl rfl (n := 6) rfl ?_
  refine k_iload_n Xc d_P_become_6 rfl rfl (n := 7) rfl ?_
  refine k_put Xc u_P t_P_ok n_P rfl 2 (by decide) wd_113 rfl rfl rfl rfl d_P_become_7 (n := 10) rfl ha (va_up_self _ _ _) (Nat.le_of_ble_eq_true rfl) ?_
  refine k_aload_n Xc d_P_become_10 rfl rfl (n := 11) rfl ?_
  refine k_iload_n Xc d_P_become_11 rfl rfl (n := 12) rfl ?_
  refine k_put Xc u_P t_P_ok n_P rfl 3 (by decide) wd_115 rfl rfl rfl rfl d_P_become_12 (n := 15) rfl ha (va_up_self _ _ _) (Nat.le_of_ble_eq_true rfl) ?_
  refine k_aload_n Xc d_P_become_15 rfl rfl (n := 16) rfl ?_
  refine k_iload_n Xc d_P_become_16 rfl rfl (n := 17) rfl ?_
  refine k_put Xc u_P t_P_ok n_P rfl 4 (by decide) wd_117 rfl rfl rfl rfl d_P_become_17 (n := 20) rfl ha (va_up_self _ _ _) (Nat.le_of_ble_eq_true rfl) ?_
  refine k_aload_n Xc d_P_become_20 rfl rfl (n := 21) rfl ?_
  refine k_iload Xc d_P_become_21 rfl (n := 23) rfl ?_
  refine k_put Xc u_P t_P_ok n_P rfl 5 (by decide) wd_119 rfl rfl rfl rfl d_P_become_23 (n := 26) rfl ha (va_up_self _ _ _) (Nat.le_of_ble_eq_true rfl) ?_
  refine k_vret Xc d_P_become_26 hr (Nat.le_refl _) (Nat.le_refl _) ?_
  refine ⟨rfl, rfl, ?_⟩
  rw [up_up, up_up, up_up, up_up]
  rfl
set_option maxRecDepth 100000 in
set_option maxHeartbeats 4000000 in
theorem m_R_endWait (l : Launch) (D : va_G) (G : Nat → ClassId) {L : List Nat} {f : Nat → va_E} {ad : Nat → Nat} {T : Nat → TT} {V : Nat → Int} (hR : zRm G L f ad T V) (hB : sB (T 0).1 (T 0).2.1 (T 0).2.2.1) : zM l D G y_R_endWait (.code y_R_endWait c_R_endWait 1 (some (.object "LeatherRoom$Shape")) :: BG) (zR0 3 67) [.ref (ad 0)] L f (fun v L1 f1 => v = some (.ref (ad (100 + 1))) ∧ L = L1 ∧ rFr f f1 ad ∧ ∃ T1 : Nat → TT, (∀ t, t ≠ 0 → t ≠ 1 → T1 t = T t) ∧ (T1 0).1 = 0 ∧ (T1 1).1 = (T 0).1 ∧ sIs (T 0).1 (T1 1).2.1 (T1 1).2.2.1 (fun j => (T 0).2.1 (j : Int)) (fun j => (T 0).2.2.1 (j : Int)) ∧ sBx (T 0).1 (T1 1).2.1 (T1 1).2.2.1 (T1 1).2.2.2.1 (T1 1).2.2.2.2.1 (T1 1).2.2.2.2.2.1 (T1 1).2.2.2.2.2.2 ∧ zRm G L f1 ad T1 V) := by
  refine zM.of (by decide) (Nat.le_of_ble_eq_true rfl) rfl (fun p e s m args below meth c A Xc hr hnm => ?_)
  refine k_aload_n Xc d_R_endWait_0 rfl rfl (n := 1) rfl ?_
  refine k_get Xc u_R rfl 1 (by decide) wd_135 rfl d_R_endWait_1 (n := 4) rfl hR.2.2.2.2.2.1.1 hR.2.2.2.2.2.1.2 rfl ?_
  refine k_aload_n Xc d_R_endWait_4 rfl rfl (n := 5) rfl ?_
  refine k_get Xc u_R rfl 0 (by decide) wd_134 rfl d_R_endWait_5 (n := 8) rfl hR.2.2.2.2.2.1.1 hR.2.2.2.2.2.1.2 rfl ?_
  refine k_iconst Xc d_R_endWait_8 (n := 9) rfl ?_
  refine k_iconst Xc d_R_endWait_9 (n := 10) rfl ?_
  refine k_wV (na := 3) Xc (m_S_copy l D G (hR.2.1 1 (by omega)) (hR.2.1 0 (by omega)) (zRi_xy hR.1 (s := 1) (by omega)) (zRi_ap hR.1 (s := 1) (t := 0) (by omega) (by omega) (by omega)) hB _ _ (by omega)) (hR.2.1 1 (by omega)).1 (hR.2.1 1 (by omega)).2.2.2.1 rfl wd_307 wd_304 wd_305 wd_306 wd_2 (by decide +kernel) ⟨by decide, by decide⟩ rfl rfl (Nat.le_of_ble_eq_true rfl) d_R_endWait_10 (n := 13) rfl ⟨Nat.zero_le _, Nat.zero_le _⟩ (fun v_10 L_10 f_10 e_10 => ?_)
  obtain ⟨rfl, rfl, hN⟩ := e_10
  obtain ⟨X_9, Y_9, a_9, b_9, c_9, d_9, hz_9, hs_9, hi_9, hb_9⟩ := hN
  obtain ⟨⟨T_9, te_9, tn_9, hR_9⟩, hQ_9⟩ := zRm_sh hR (s := 1) (by omega) hs_9 (q := (_, X_9, Y_9, a_9, b_9, c_9, d_9)) hz_9
  refine k_aload_n Xc d_R_endWait_13 rfl rfl (n := 14) rfl ?_
  refine k_get Xc u_R rfl 0 (by decide) wd_134 rfl d_R_endWait_14 (n := 17) rfl hR_9.2.2.2.2.2.1.1 hR_9.2.2.2.2.2.1.2 rfl ?_
  refine k_wV (na := 0) Xc (m_S_empty l D G (hR_9.2.1 0 (by omega))) (hR_9.2.1 0 (by omega)).1 (hR_9.2.1 0 (by omega)).2.2.2.1 rfl wd_311 wd_313 wd_309 wd_310 wd_2 (by decide +kernel) ⟨by decide, by decide⟩ rfl rfl (Nat.le_of_ble_eq_true rfl) d_R_endWait_17 (n := 20) rfl ⟨Nat.zero_le _, Nat.zero_le _⟩ (fun v_17 L_17 f_17 e_17 => ?_)
  obtain ⟨rfl, rfl, hz8, hs8⟩ := e_17
  obtain ⟨⟨T_8, te_8, tn_8, hR_8⟩, hQ_8⟩ := zRm_sh hR_9 (s := 0) (by omega) hs8 (q := (_, _, _, _, _, _, _)) hz8
  refine k_aload_n Xc d_R_endWait_20 rfl rfl (n := 21) rfl ?_
  refine k_get Xc u_R rfl 1 (by decide) wd_135 rfl d_R_endWait_21 (n := 24) rfl hR_8.2.2.2.2.2.1.1 hR_8.2.2.2.2.2.1.2 rfl ?_
  refine k_aret Xc d_R_endWait_24 hr (Nat.le_refl _) (Nat.le_refl _) ?_
  refine ⟨rfl, rfl, rFr_tr hQ_9 hQ_8, T_8, fun t h0 h1 => (tn_8 t h0).trans (tn_9 t h1), by rw [te_8], ?_, ?_, ?_, hR_8⟩
  · rw [tn_8 1 (by decide), te_9]
  · rw [tn_8 1 (by decide), te_9]; exact fun j hj => ⟨(hi_9 j hj).1.trans (Int.add_zero _), (hi_9 j hj).2.trans (Int.add_zero _)⟩
  · rw [tn_8 1 (by decide), te_9]; exact hb_9
set_option maxRecDepth 100000 in
set_option maxHeartbeats 4000000 in
theorem m_K_become (l : Launch) (D : va_G) (G : Nat → ClassId) {L : List Nat} {f : Nat → va_E} {ad : Nat → Nat} {T : Nat → TT} {V : Nat → Int} (hR : zRm G L f ad T V) (k : Nat) (hk : k < 6) (hB : sB (T 1).1 (T 1).2.1 (T 1).2.2.1) (hT : rT (T 1)) (g tt : Int) : zM l D G y_K_become (.code y_K_become c_K_become 5 none :: BG) (zR0 4 91) [.ref (ad (20 + k)), .int (zI g), .int (zI tt), .ref (ad (100 + 1))] L f (fun v L1 f1 => v = none ∧ L = L1 ∧ rFr f f1 ad ∧ ∃ (T1 : Nat → TT) (V1 : Nat → Int), V1 (20 + k) = g ∧ V1 (30 + k) = tt ∧ (∀ c, c ≠ 20 + k → c ≠ 30 + k → V1 c = V c) ∧ (∀ t, t < 8 + 4 * k ∨ 8 + 4 * k + 4 ≤ t → T1 t = T t) ∧ zLw (T 1) (T1 (8 + 4 * k)) (-(T 1).2.2.2.1) (-(T 1).2.2.2.2.2.1) ∧ (∀ t, t < 3 → zTu (T1 (8 + 4 * k + t)) (T1 (8 + 4 * k + (t + 1)))) ∧ zRm G L f1 ad T1 V1) := by
  refine zM.of (by decide) (Nat.le_of_ble_eq_true rfl) rfl (fun p e s m args below meth c A Xc hr hnm => ?_)
  have loop : ∀ (V1 : Nat → Int), V1 (20 + k) = g → V1 (30 + k) = tt → (∀ c, c ≠ 20 + k → c ≠ 30 + k → V1 c = V c) → ∀ (d t : Nat) (f1 : Nat → va_E) (T1 : Nat → TT), 3 < t + d → t ≤ 3 → zRm G L f1 ad T1 V1 → rFr f f1 ad → (∀ u, u < 8 + 4 * k ∨ 8 + 4 * k + 4 ≤ u → T1 u = T u) → zLw (T 1) (T1 (8 + 4 * k)) (-(T 1).2.2.2.1) (-(T 1).2.2.2.2.2.1) → (∀ u, u < t → zTu (T1 (8 + 4 * k + u)) (T1 (8 + 4 * k + (u + 1)))) → rT (T1 (8 + 4 * k + t)) → zG p l e (zR0 4 91) s m args below meth c D A 5 0 0 (MQ below (zE D A (fun v L1 f1 => v = none ∧ L = L1 ∧ rFr f f1 ad ∧ ∃ (T1 : Nat → TT) (V1 : Nat → Int), V1 (20 + k) = g ∧ V1 (30 + k) = tt ∧ (∀ c, c ≠ 20 + k → c ≠ 30 + k → V1 c = V c) ∧ (∀ t, t < 8 + 4 * k ∨ 8 + 4 * k + 4 ≤ t → T1 t = T t) ∧ zLw (T 1) (T1 (8 + 4 * k)) (-(T 1).2.2.2.1) (-(T 1).2.2.2.2.2.1) ∧ (∀ t, t < 3 → zTu (T1 (8 + 4 * k + t)) (T1 (8 + 4 * k + (t + 1)))) ∧ zRm G L f1 ad T1 V1)) args s (zR0 4 91).cells (zR0 4 91).slots A) 33 [(0, .ref (ad (20 + k))), (1, .int (zI g)), (2, .int (zI tt)), (3, .ref (ad (100 + 1))), (4, .int (zI ((t + 1 : Nat) : Int)))] [] L f1 := by
    intro V1 v1 v2 v3 d
    induction d with
    | zero => intro t f1 T1 h1 h2; omega
    | succ d ih =>
      intro t f1 T1 h1 h2 hR1 hF hU hL hJ hr1
      refine k_iload Xc d_K_become_33 rfl (n := 35) rfl ?_
      refine k_iconst Xc d_K_become_35 (n := 36) rfl ?_
      refine k_icmp_ge Xc d_K_become_36 (t := 64) (n := 39) rfl rfl (by omega) (by omega) (fun h_36 => ?_) (fun h_36 => ?_)
      · refine k_vret Xc d_K_become_64 hr (Nat.le_refl _) (Nat.le_refl _) ?_
        have et : t = 3 := by omega
        subst et
        exact ⟨rfl, rfl, hF, T1, V1, v1, v2, v3, hU, hL, hJ, hR1⟩
      · refine k_aload_n Xc d_K_become_39 rfl rfl (n := 40) rfl ?_
        refine k_get Xc u_K rfl 0 (by decide) wd_90 rfl d_K_become_40 (n := 43) rfl (hR1.2.2.2.1 k (by omega)).1 (hR1.2.2.2.1 k (by omega)).2.1 rfl ?_
        refine k_iload Xc d_K_become_43 rfl (n := 45) rfl ?_
        refine k_aaldN Xc d_K_become_45 (n := 46) rfl (hR1.2.2.2.1 k (by omega)).2.2.1 (hR1.2.2.2.1 k (by omega)).2.2.2 rfl (by omega) (by decide) ?_
        refine k_aload_n Xc d_K_become_46 rfl rfl (n := 47) rfl ?_
        refine k_get Xc u_K rfl 0 (by decide) wd_90 rfl d_K_become_47 (n := 50) rfl (hR1.2.2.2.1 k (by omega)).1 (hR1.2.2.2.1 k (by omega)).2.1 rfl ?_
        refine k_iload Xc d_K_become_50 rfl (n := 52) rfl ?_
        refine k_iconst Xc d_K_become_52 (n := 53) rfl ?_
        refine k_isub Xc d_K_become_53 (n := 54) rfl ?_
        refine k_val (show ((t + 1 : Nat) : Int) - 1 = (t : Int) by omega) ?_
        refine k_aaldN Xc d_K_become_54 (n := 55) rfl (hR1.2.2.2.1 k (by omega)).2.2.1 (hR1.2.2.2.1 k (by omega)).2.2.2 rfl (by omega) (by decide) ?_
        refine k_wV (na := 1) Xc (m_S_copyTurned l D G (hR1.2.1 (8 + 4 * k + (t + 1)) (by omega)) (hR1.2.1 (8 + 4 * k + t) (by omega)) (zRi_xy hR1.1 (s := (8 + 4 * k + (t + 1))) (by omega)) (zRi_ap hR1.1 (s := (8 + 4 * k + (t + 1))) (t := (8 + 4 * k + t)) (by omega) (by omega) (by omega)) (rT_sB hr1) (rT_bx hr1)) (hR1.2.1 (8 + 4 * k + (t + 1)) (by omega)).1 (hR1.2.1 (8 + 4 * k + (t + 1)) (by omega)).2.2.2.1 rfl wd_391 wd_388 wd_389 wd_390 wd_2 (by decide +kernel) ⟨by decide, by decide⟩ rfl rfl (Nat.le_of_ble_eq_true rfl) d_K_become_55 (n := 58) rfl ⟨Nat.zero_le _, Nat.zero_le _⟩ (fun v_55 L_55 f_55 e_55 => ?_)
        obtain ⟨rfl, rfl, hN⟩ := e_55
        obtain ⟨X_9, Y_9, a_9, b_9, c_9, d_9, hz_9, hs_9, hi_9, hb_9⟩ := hN
        obtain ⟨⟨T_9, te_9, tn_9, hR_9⟩, hQ_9⟩ := zRm_sh hR1 (s := (8 + 4 * k + (t + 1))) (by omega) hs_9 (q := (_, X_9, Y_9, a_9, b_9, c_9, d_9)) hz_9
        refine k_iinc Xc d_K_become_58 rfl (by decide) (n := 61) rfl ?_
        refine k_goto Xc d_K_become_61 (t := 33) rfl ?_
        have tu : zTu (T1 (8 + 4 * k + t)) (T_9 (8 + 4 * k + (t + 1))) := by rw [te_9]; exact ⟨rfl, hi_9, hb_9⟩
        exact k_loc (ih (t + 1) _ T_9 (by omega) (by omega) hR_9 (rFr_tr hF hQ_9) (fun u hu => (tn_9 u (by omega)).trans (hU u hu)) (by rw [tn_9 _ (by omega)]; exact hL) (fun u hu => by
          rcases Nat.lt_or_ge u t with q | q
          · rw [tn_9 _ (by omega), tn_9 _ (by omega)]; exact hJ u q
          · have eu : u = t := by omega
            subst eu
            rw [tn_9 (8 + 4 * k + u) (by omega)]; exact tu) (rT_tu hr1 tu)) rfl
  refine k_aload_n Xc d_K_become_0 rfl rfl (n := 1) rfl ?_
  refine k_iload_n Xc d_K_become_1 rfl rfl (n := 2) rfl ?_
  refine k_put Xc u_K t_K_ok n_K rfl 1 (by decide) wd_92 rfl rfl rfl rfl d_K_become_2 (n := 5) rfl (hR.2.2.2.1 k (by omega)).1 (hR.2.2.2.1 k (by omega)).2.1 (Nat.le_of_ble_eq_true rfl) ?_
  obtain ⟨⟨V1, v1, v2, v3, hR1⟩, hF1⟩ := zRm_kind hR (i := k) (by omega) g (V (30 + k))
  generalize hf1 : va_up f (ad (20 + k)) (Sum.inr (0, [Value.ref (ad (30 + k)), Value.int (zI g), Value.int (zI (V (30 + k)))])) = f1 at hR1 hF1
  refine k_heap (g := f1) (by rw [← hf1]; rfl) ?_
  refine k_aload_n Xc d_K_become_5 rfl rfl (n := 6) rfl ?_
  refine k_iload_n Xc d_K_become_6 rfl rfl (n := 7) rfl ?_
  refine k_put Xc u_K t_K_ok n_K rfl 2 (by decide) wd_94 rfl rfl rfl rfl d_K_become_7 (n := 10) rfl (hR1.2.2.2.1 k (by omega)).1 (hR1.2.2.2.1 k (by omega)).2.1 (Nat.le_of_ble_eq_true rfl) ?_
  obtain ⟨⟨V2, w1, w2, w3, hR2⟩, hF2⟩ := zRm_kind hR1 (i := k) (by omega) (V1 (20 + k)) tt
  generalize hf2 : va_up f1 (ad (20 + k)) (Sum.inr (0, [Value.ref (ad (30 + k)), Value.int (zI (V1 (20 + k))), Value.int (zI tt)])) = f2 at hR2 hF2
  refine k_heap (g := f2) (by rw [← hf2]; rfl) ?_
  refine k_aload_n Xc d_K_become_10 rfl rfl (n := 11) rfl ?_
  refine k_get Xc u_K rfl 0 (by decide) wd_90 rfl d_K_become_11 (n := 14) rfl (hR2.2.2.2.1 k (by omega)).1 (hR2.2.2.2.1 k (by omega)).2.1 rfl ?_
  refine k_iconst Xc d_K_become_14 (n := 15) rfl ?_
  refine k_val (show (0 : Int) = ((0 : Nat) : Int) from rfl) ?_
  refine k_aaldN Xc d_K_become_15 (n := 16) rfl (hR2.2.2.2.1 k (by omega)).2.2.1 (hR2.2.2.2.1 k (by omega)).2.2.2 rfl (by omega) (by decide) ?_
  refine k_aload_n Xc d_K_become_16 rfl rfl (n := 17) rfl ?_
  refine k_aload_n Xc d_K_become_17 rfl rfl (n := 18) rfl ?_
  refine k_get Xc u_S rfl 3 (by decide) wd_34 rfl d_K_become_18 (n := 21) rfl (hR2.2.1 1 (by omega)).1 (hR2.2.1 1 (by omega)).2.2.2.1 rfl ?_
  refine k_ineg Xc d_K_become_21 (n := 22) rfl ?_
  refine k_aload_n Xc d_K_become_22 rfl rfl (n := 23) rfl ?_
  refine k_get Xc u_S rfl 5 (by decide) wd_39 rfl d_K_become_23 (n := 26) rfl (hR2.2.1 1 (by omega)).1 (hR2.2.1 1 (by omega)).2.2.2.1 rfl ?_
  refine k_ineg Xc d_K_become_26 (n := 27) rfl ?_
  refine k_wV (na := 3) Xc (m_S_copyLeftward l D G (hR2.2.1 (8 + 4 * k + 0) (by omega)) (hR2.2.1 1 (by omega)) (zRi_xy hR2.1 (s := (8 + 4 * k + 0)) (by omega)) (zRi_ap hR2.1 (s := (8 + 4 * k + 0)) (t := 1) (by omega) (by omega) (by omega)) hB _ _ (rT_lo hT)) (hR2.2.1 (8 + 4 * k + 0) (by omega)).1 (hR2.2.1 (8 + 4 * k + 0) (by omega)).2.2.2.1 rfl wd_362 wd_387 wd_360 wd_361 wd_2 (by decide +kernel) ⟨by decide, by decide⟩ rfl rfl (Nat.le_of_ble_eq_true rfl) d_K_become_27 (n := 30) rfl ⟨Nat.zero_le _, Nat.zero_le _⟩ (fun v_27 L_27 f_27 e_27 => ?_)
  obtain ⟨rfl, rfl, hN⟩ := e_27
  obtain ⟨X_7, Y_7, a_7, b_7, c_7, d_7, hz_7, hs_7, hi_7, hb_7⟩ := hN
  obtain ⟨⟨T_7, te_7, tn_7, hR_7⟩, hQ_7⟩ := zRm_sh hR2 (s := (8 + 4 * k + 0)) (by omega) hs_7 (q := (_, X_7, Y_7, a_7, b_7, c_7, d_7)) hz_7
  refine k_iconst Xc d_K_become_30 (n := 31) rfl ?_
  refine k_istore Xc d_K_become_31 (by decide) (n := 33) rfl ?_
  have lw : zLw (T 1) (T_7 (8 + 4 * k)) (-(T 1).2.2.2.1) (-(T 1).2.2.2.2.2.1) := by rw [show 8 + 4 * k = 8 + 4 * k + 0 from rfl, te_7]; exact ⟨rfl, hi_7, hb_7⟩
  exact k_loc (loop V2 (w1.trans v1) w2 (fun c h1 h2 => (w3 c h1 h2).trans (v3 c h1 h2)) 4 0 _ T_7 (by omega) (by omega) hR_7 (rFr_tr hF1 (rFr_tr hF2 hQ_7)) (fun u hu => tn_7 u (by omega)) lw (fun u hu => absurd hu (by omega)) (rT_lw hT lw)) rfl
set_option maxRecDepth 100000 in
set_option maxHeartbeats 4000000 in
theorem m_R_addPart (l : Launch) (D : va_G) (G : Nat → ClassId) {L : List Nat} {f : Nat → va_E} {ad : Nat → Nat} {T : Nat → TT} {V : Nat → Int} (hR : zRm G L f ad T V) (hl : ∀ i : Nat, i < 12 → V (40 + i) = 0 ∨ V (40 + i) = 1) (p0 : Nat) (hp0 : p0 < 12) (hf0 : V (40 + p0) = 0) (kd : Nat) (hkd : kd < 6) (t : Nat) (ht : t ≤ 3) (hU : sB (T (8 + 4 * kd + t)).1 (T (8 + 4 * kd + t)).2.1 (T (8 + 4 * kd + t)).2.2.1) (x y : Int) (hx : 0 ≤ x ∧ x ≤ 30) (hy : 0 ≤ y ∧ y ≤ 30) : zM l D G y_R_addPart (.code y_R_addPart c_R_addPart 6 (some .int) :: BG) (zR0 3 67) [.ref (ad 0), .int (zI (kd : Int)), .int (zI x), .int (zI y), .int (zI (t : Int))] L f (fun v L1 f1 => L = L1 ∧ rFr f f1 ad ∧ ∃ (p : Nat) (T1 : Nat → TT) (V1 : Nat → Int), p < 12 ∧ V (40 + p) = 0 ∧ (∀ q : Nat, q < p → V (40 + q) ≠ 0) ∧ v = some (.int (zI (p : Int))) ∧ (∀ s, s ≠ 32 + p → T1 s = T s) ∧ zCp (T (8 + 4 * kd + t)) (T1 (32 + p)) x y ∧ V1 (40 + p) = 1 ∧ V1 (60 + p) = (kd : Int) ∧ V1 (80 + p) = x ∧ V1 (100 + p) = y ∧ V1 (120 + p) = (t : Int) ∧ V1 2 = V 2 + 1 ∧ (∀ q, q ≠ 40 + p → q ≠ 60 + p → q ≠ 80 + p → q ≠ 100 + p → q ≠ 120 + p → q ≠ 2 → V1 q = V q) ∧ zRm G L f1 ad T1 V1) := by
  refine zM.of (by decide) (Nat.le_of_ble_eq_true rfl) rfl (fun p e s m args below meth c A Xc hr hnm => ?_)
  have loop : ∀ (d p1 : Nat), 11 < p1 + d → p1 ≤ p0 → (∀ q : Nat, q < p1 → V (40 + q) ≠ 0) → zG p l e (zR0 3 67) s m args below meth c D A 6 0 0 (MQ below (zE D A (fun v L1 f1 => L = L1 ∧ rFr f f1 ad ∧ ∃ (p : Nat) (T1 : Nat → TT) (V1 : Nat → Int), p < 12 ∧ V (40 + p) = 0 ∧ (∀ q : Nat, q < p → V (40 + q) ≠ 0) ∧ v = some (.int (zI (p : Int))) ∧ (∀ s, s ≠ 32 + p → T1 s = T s) ∧ zCp (T (8 + 4 * kd + t)) (T1 (32 + p)) x y ∧ V1 (40 + p) = 1 ∧ V1 (60 + p) = (kd : Int) ∧ V1 (80 + p) = x ∧ V1 (100 + p) = y ∧ V1 (120 + p) = (t : Int) ∧ V1 2 = V 2 + 1 ∧ (∀ q, q ≠ 40 + p → q ≠ 60 + p → q ≠ 80 + p → q ≠ 100 + p → q ≠ 120 + p → q ≠ 2 → V1 q = V q) ∧ zRm G L f1 ad T1 V1)) args s (zR0 3 67).cells (zR0 3 67).slots A) 3 [(0, .ref (ad 0)), (1, .int (zI (kd : Int))), (2, .int (zI x)), (3, .int (zI y)), (4, .int (zI (t : Int))), (5, .int (zI (p1 : Int)))] [] L f := by
    intro d
    induction d with
    | zero => intro p1 h1 h2; omega
    | succ d ih =>
      intro p1 h1 h2 hJ
      have lp := hl p1 (by omega)
      refine k_iload Xc d_R_addPart_3 rfl (n := 5) rfl ?_
      refine k_bipush Xc d_R_addPart_5 rfl (n := 7) rfl ?_
      refine k_icmp_ge Xc d_R_addPart_7 (t := 29) (n := 10) rfl rfl (by omega) (by omega) (fun h_7 => ?_) (fun h_7 => ?_)
      · have fr : V (40 + p1) = 0 := by
          rcases Nat.lt_or_ge p1 11 with q | q
          · omega
          · have ep : p1 = p0 := by omega
            rw [ep]; exact hf0
        refine k_aload_n Xc d_R_addPart_29 rfl rfl (n := 30) rfl ?_
        refine k_get Xc u_R rfl 5 (by decide) wd_139 rfl d_R_addPart_30 (n := 33) rfl hR.2.2.2.2.2.1.1 hR.2.2.2.2.2.1.2 rfl ?_
        refine k_iload Xc d_R_addPart_33 rfl (n := 35) rfl ?_
        refine k_aaldN Xc d_R_addPart_35 (n := 36) rfl hR.2.2.2.2.2.2.2.2.1 hR.2.2.2.2.2.2.2.2.2 rfl (by omega) (by decide) ?_
        refine k_iload_n Xc d_R_addPart_36 rfl rfl (n := 37) rfl ?_
        refine k_iload_n Xc d_R_addPart_37 rfl rfl (n := 38) rfl ?_
        refine k_iload_n Xc d_R_addPart_38 rfl rfl (n := 39) rfl ?_
        refine k_iload Xc d_R_addPart_39 rfl (n := 41) rfl ?_
        refine k_wV (na := 4) Xc (m_P_become l D G (hR.2.2.2.2.1 p1 (by omega)).1 (hR.2.2.2.2.1 p1 (by omega)).2 _ _ _ _) (hR.2.2.2.2.1 p1 (by omega)).1 (hR.2.2.2.2.1 p1 (by omega)).2 rfl wd_499 wd_496 wd_497 wd_498 wd_5 (by decide +kernel) ⟨by decide, by decide⟩ rfl rfl (Nat.le_of_ble_eq_true rfl) d_R_addPart_41 (n := 44) rfl ⟨Nat.zero_le _, Nat.zero_le _⟩ (fun v_41 L_41 f_41 e_41 => ?_)
        obtain ⟨rfl, rfl, hf1⟩ := e_41
        obtain ⟨⟨V1, v1, v2, v3, v4, v5, v6, hR1⟩, hF1⟩ := zRm_part hR (i := p1) (by omega) 1 (kd : Int) x y (t : Int)
        rw [← hf1] at hR1 hF1
        refine k_aload_n Xc d_R_addPart_44 rfl rfl (n := 45) rfl ?_
        refine k_get Xc u_R rfl 5 (by decide) wd_139 rfl d_R_addPart_45 (n := 48) rfl hR1.2.2.2.2.2.1.1 hR1.2.2.2.2.2.1.2 rfl ?_
        refine k_iload Xc d_R_addPart_48 rfl (n := 50) rfl ?_
        refine k_aaldN Xc d_R_addPart_50 (n := 51) rfl hR1.2.2.2.2.2.2.2.2.1 hR1.2.2.2.2.2.2.2.2.2 rfl (by omega) (by decide) ?_
        refine k_get Xc u_P rfl 0 (by decide) wd_110 rfl d_R_addPart_51 (n := 54) rfl (hR1.2.2.2.2.1 p1 (by omega)).1 (hR1.2.2.2.2.1 p1 (by omega)).2 rfl ?_
        refine k_aload_n Xc d_R_addPart_54 rfl rfl (n := 55) rfl ?_
        refine k_get Xc u_R rfl 4 (by decide) wd_138 rfl d_R_addPart_55 (n := 58) rfl hR1.2.2.2.2.2.1.1 hR1.2.2.2.2.2.1.2 rfl ?_
        refine k_iload_n Xc d_R_addPart_58 rfl rfl (n := 59) rfl ?_
        refine k_aaldN Xc d_R_addPart_59 (n := 60) rfl hR1.2.2.2.2.2.2.2.1.1 hR1.2.2.2.2.2.2.2.1.2 rfl (by omega) (by decide) ?_
        refine k_get Xc u_K rfl 0 (by decide) wd_91 rfl d_R_addPart_60 (n := 63) rfl (hR1.2.2.2.1 kd (by omega)).1 (hR1.2.2.2.1 kd (by omega)).2.1 rfl ?_
        refine k_iload Xc d_R_addPart_63 rfl (n := 65) rfl ?_
        refine k_aaldN Xc d_R_addPart_65 (n := 66) rfl (hR1.2.2.2.1 kd (by omega)).2.2.1 (hR1.2.2.2.1 kd (by omega)).2.2.2 rfl (by omega) (by decide) ?_
        refine k_iload_n Xc d_R_addPart_66 rfl rfl (n := 67) rfl ?_
        refine k_iload_n Xc d_R_addPart_67 rfl rfl (n := 68) rfl ?_
        refine k_wV (na := 3) Xc (m_S_copy l D G (hR1.2.1 (32 + p1) (by omega)) (hR1.2.1 (8 + 4 * kd + t) (by omega)) (zRi_xy hR1.1 (s := (32 + p1)) (by omega)) (zRi_ap hR1.1 (s := (32 + p1)) (t := (8 + 4 * kd + t)) (by omega) (by omega) (by omega)) hU _ _ (by omega)) (hR1.2.1 (32 + p1) (by omega)).1 (hR1.2.1 (32 + p1) (by omega)).2.2.2.1 rfl wd_307 wd_304 wd_305 wd_306 wd_2 (by decide +kernel) ⟨by decide, by decide⟩ rfl rfl (Nat.le_of_ble_eq_true rfl) d_R_addPart_68 (n := 71) rfl ⟨Nat.zero_le _, Nat.zero_le _⟩ (fun v_68 L_68 f_68 e_68 => ?_)
        obtain ⟨rfl, rfl, hN⟩ := e_68
        obtain ⟨X_9, Y_9, a_9, b_9, c_9, d_9, hz_9, hs_9, hi_9, hb_9⟩ := hN
        obtain ⟨⟨T_9, te_9, tn_9, hR_9⟩, hQ_9⟩ := zRm_sh hR1 (s := (32 + p1)) (by omega) hs_9 (q := (_, X_9, Y_9, a_9, b_9, c_9, d_9)) hz_9
        refine k_aload_n Xc d_R_addPart_71 rfl rfl (n := 72) rfl ?_
        refine k_dup Xc d_R_addPart_72 rfl (n := 73) rfl ?_
        refine k_get Xc u_R rfl 8 (by decide) wd_142 rfl d_R_addPart_73 (n := 76) rfl hR_9.2.2.2.2.2.1.1 hR_9.2.2.2.2.2.1.2 rfl ?_
        refine k_iconst Xc d_R_addPart_76 (n := 77) rfl ?_
        refine k_iadd Xc d_R_addPart_77 (n := 78) rfl ?_
        refine k_put Xc u_R t_R_ok n_R rfl 8 (by decide) wd_142 rfl rfl rfl rfl d_R_addPart_78 (n := 81) rfl hR_9.2.2.2.2.2.1.1 hR_9.2.2.2.2.2.1.2 (Nat.le_of_ble_eq_true rfl) ?_
        obtain ⟨⟨V2, w0, w1, w2, w3, hR2⟩, hF2⟩ := zRm_cnt hR_9 (V1 0) (V1 1) (V1 2 + 1)
        generalize hf2 : va_up f_68 (ad 0) (Sum.inr (4, [Value.ref (ad (100 + 0)), Value.ref (ad (100 + 1)), Value.ref (ad (100 + 2)), Value.ref (ad 1), Value.ref (ad 2), Value.ref (ad 3), Value.int (zI (V1 0)), Value.int (zI (V1 1)), Value.int (zI (V1 2 + 1))])) = f2 at hR2 hF2
        refine k_heap (g := f2) (by rw [← hf2]; rfl) ?_
        refine k_iload Xc d_R_addPart_81 rfl (n := 83) rfl ?_
        refine k_iret Xc d_R_addPart_83 hr rfl (Nat.le_refl _) (Nat.le_refl _) ?_
        refine ⟨rfl, rFr_tr hF1 (rFr_tr hQ_9 hF2), p1, T_9, V2, by omega, fr, hJ, rfl, tn_9, by rw [te_9]; exact ⟨rfl, hi_9, hb_9⟩, ?_, ?_, ?_, ?_, ?_, ?_, fun q q1 q2 q3 q4 q5 q6 => ?_, hR2⟩
        · rw [w3 _ (by omega)]; exact v1
        · rw [w3 _ (by omega)]; exact v2
        · rw [w3 _ (by omega)]; exact v3
        · rw [w3 _ (by omega)]; exact v4
        · rw [w3 _ (by omega)]; exact v5
        · rw [w2, v6 2 (by omega) (by omega) (by omega) (by omega) (by omega)]
        · rcases (show q = 0 ∨ q = 1 ∨ 3 ≤ q by omega) with z | z | z
          · subst z; rw [w0]; exact v6 0 (by omega) (by omega) (by omega) (by omega) (by omega)
          · subst z; rw [w1]; exact v6 1 (by omega) (by omega) (by omega) (by omega) (by omega)
          · rw [w3 q z]; exact v6 q q1 q2 q3 q4 q5
      · refine k_aload_n Xc d_R_addPart_10 rfl rfl (n := 11) rfl ?_
        refine k_get Xc u_R rfl 5 (by decide) wd_139 rfl d_R_addPart_11 (n := 14) rfl hR.2.2.2.2.2.1.1 hR.2.2.2.2.2.1.2 rfl ?_
        refine k_iload Xc d_R_addPart_14 rfl (n := 16) rfl ?_
        refine k_aaldN Xc d_R_addPart_16 (n := 17) rfl hR.2.2.2.2.2.2.2.2.1 hR.2.2.2.2.2.2.2.2.2 rfl (by omega) (by decide) ?_
        refine k_get Xc u_P rfl 1 (by decide) wd_112 rfl d_R_addPart_17 (n := 20) rfl (hR.2.2.2.2.1 p1 (by omega)).1 (hR.2.2.2.2.1 p1 (by omega)).2 rfl ?_
        refine k_if_eq Xc d_R_addPart_20 (t := 29) (n := 23) rfl rfl (by omega) (fun h_20 => ?_) (fun h_20 => ?_)
        · have fr : V (40 + p1) = 0 := by
            rcases Nat.lt_or_ge p1 11 with q | q
            · omega
            · have ep : p1 = p0 := by omega
              rw [ep]; exact hf0
          refine k_aload_n Xc d_R_addPart_29 rfl rfl (n := 30) rfl ?_
          refine k_get Xc u_R rfl 5 (by decide) wd_139 rfl d_R_addPart_30 (n := 33) rfl hR.2.2.2.2.2.1.1 hR.2.2.2.2.2.1.2 rfl ?_
          refine k_iload Xc d_R_addPart_33 rfl (n := 35) rfl ?_
          refine k_aaldN Xc d_R_addPart_35 (n := 36) rfl hR.2.2.2.2.2.2.2.2.1 hR.2.2.2.2.2.2.2.2.2 rfl (by omega) (by decide) ?_
          refine k_iload_n Xc d_R_addPart_36 rfl rfl (n := 37) rfl ?_
          refine k_iload_n Xc d_R_addPart_37 rfl rfl (n := 38) rfl ?_
          refine k_iload_n Xc d_R_addPart_38 rfl rfl (n := 39) rfl ?_
          refine k_iload Xc d_R_addPart_39 rfl (n := 41) rfl ?_
          refine k_wV (na := 4) Xc (m_P_become l D G (hR.2.2.2.2.1 p1 (by omega)).1 (hR.2.2.2.2.1 p1 (by omega)).2 _ _ _ _) (hR.2.2.2.2.1 p1 (by omega)).1 (hR.2.2.2.2.1 p1 (by omega)).2 rfl wd_499 wd_496 wd_497 wd_498 wd_5 (by decide +kernel) ⟨by decide, by decide⟩ rfl rfl (Nat.le_of_ble_eq_true rfl) d_R_addPart_41 (n := 44) rfl ⟨Nat.zero_le _, Nat.zero_le _⟩ (fun v_41 L_41 f_41 e_41 => ?_)
          obtain ⟨rfl, rfl, hf1⟩ := e_41
          obtain ⟨⟨V1, v1, v2, v3, v4, v5, v6, hR1⟩, hF1⟩ := zRm_part hR (i := p1) (by omega) 1 (kd : Int) x y (t : Int)
          rw [← hf1] at hR1 hF1
          refine k_aload_n Xc d_R_addPart_44 rfl rfl (n := 45) rfl ?_
          refine k_get Xc u_R rfl 5 (by decide) wd_139 rfl d_R_addPart_45 (n := 48) rfl hR1.2.2.2.2.2.1.1 hR1.2.2.2.2.2.1.2 rfl ?_
          refine k_iload Xc d_R_addPart_48 rfl (n := 50) rfl ?_
          refine k_aaldN Xc d_R_addPart_50 (n := 51) rfl hR1.2.2.2.2.2.2.2.2.1 hR1.2.2.2.2.2.2.2.2.2 rfl (by omega) (by decide) ?_
          refine k_get Xc u_P rfl 0 (by decide) wd_110 rfl d_R_addPart_51 (n := 54) rfl (hR1.2.2.2.2.1 p1 (by omega)).1 (hR1.2.2.2.2.1 p1 (by omega)).2 rfl ?_
          refine k_aload_n Xc d_R_addPart_54 rfl rfl (n := 55) rfl ?_
          refine k_get Xc u_R rfl 4 (by decide) wd_138 rfl d_R_addPart_55 (n := 58) rfl hR1.2.2.2.2.2.1.1 hR1.2.2.2.2.2.1.2 rfl ?_
          refine k_iload_n Xc d_R_addPart_58 rfl rfl (n := 59) rfl ?_
          refine k_aaldN Xc d_R_addPart_59 (n := 60) rfl hR1.2.2.2.2.2.2.2.1.1 hR1.2.2.2.2.2.2.2.1.2 rfl (by omega) (by decide) ?_
          refine k_get Xc u_K rfl 0 (by decide) wd_91 rfl d_R_addPart_60 (n := 63) rfl (hR1.2.2.2.1 kd (by omega)).1 (hR1.2.2.2.1 kd (by omega)).2.1 rfl ?_
          refine k_iload Xc d_R_addPart_63 rfl (n := 65) rfl ?_
          refine k_aaldN Xc d_R_addPart_65 (n := 66) rfl (hR1.2.2.2.1 kd (by omega)).2.2.1 (hR1.2.2.2.1 kd (by omega)).2.2.2 rfl (by omega) (by decide) ?_
          refine k_iload_n Xc d_R_addPart_66 rfl rfl (n := 67) rfl ?_
          refine k_iload_n Xc d_R_addPart_67 rfl rfl (n := 68) rfl ?_
          refine k_wV (na := 3) Xc (m_S_copy l D G (hR1.2.1 (32 + p1) (by omega)) (hR1.2.1 (8 + 4 * kd + t) (by omega)) (zRi_xy hR1.1 (s := (32 + p1)) (by omega)) (zRi_ap hR1.1 (s := (32 + p1)) (t := (8 + 4 * kd + t)) (by omega) (by omega) (by omega)) hU _ _ (by omega)) (hR1.2.1 (32 + p1) (by omega)).1 (hR1.2.1 (32 + p1) (by omega)).2.2.2.1 rfl wd_307 wd_304 wd_305 wd_306 wd_2 (by decide +kernel) ⟨by decide, by decide⟩ rfl rfl (Nat.le_of_ble_eq_true rfl) d_R_addPart_68 (n := 71) rfl ⟨Nat.zero_le _, Nat.zero_le _⟩ (fun v_68 L_68 f_68 e_68 => ?_)
          obtain ⟨rfl, rfl, hN⟩ := e_68
          obtain ⟨X_9, Y_9, a_9, b_9, c_9, d_9, hz_9, hs_9, hi_9, hb_9⟩ := hN
          obtain ⟨⟨T_9, te_9, tn_9, hR_9⟩, hQ_9⟩ := zRm_sh hR1 (s := (32 + p1)) (by omega) hs_9 (q := (_, X_9, Y_9, a_9, b_9, c_9, d_9)) hz_9
          refine k_aload_n Xc d_R_addPart_71 rfl rfl (n := 72) rfl ?_
          refine k_dup Xc d_R_addPart_72 rfl (n := 73) rfl ?_
          refine k_get Xc u_R rfl 8 (by decide) wd_142 rfl d_R_addPart_73 (n := 76) rfl hR_9.2.2.2.2.2.1.1 hR_9.2.2.2.2.2.1.2 rfl ?_
          refine k_iconst Xc d_R_addPart_76 (n := 77) rfl ?_
          refine k_iadd Xc d_R_addPart_77 (n := 78) rfl ?_
          refine k_put Xc u_R t_R_ok n_R rfl 8 (by decide) wd_142 rfl rfl rfl rfl d_R_addPart_78 (n := 81) rfl hR_9.2.2.2.2.2.1.1 hR_9.2.2.2.2.2.1.2 (Nat.le_of_ble_eq_true rfl) ?_
          obtain ⟨⟨V2, w0, w1, w2, w3, hR2⟩, hF2⟩ := zRm_cnt hR_9 (V1 0) (V1 1) (V1 2 + 1)
          generalize hf2 : va_up f_68 (ad 0) (Sum.inr (4, [Value.ref (ad (100 + 0)), Value.ref (ad (100 + 1)), Value.ref (ad (100 + 2)), Value.ref (ad 1), Value.ref (ad 2), Value.ref (ad 3), Value.int (zI (V1 0)), Value.int (zI (V1 1)), Value.int (zI (V1 2 + 1))])) = f2 at hR2 hF2
          refine k_heap (g := f2) (by rw [← hf2]; rfl) ?_
          refine k_iload Xc d_R_addPart_81 rfl (n := 83) rfl ?_
          refine k_iret Xc d_R_addPart_83 hr rfl (Nat.le_refl _) (Nat.le_refl _) ?_
          refine ⟨rfl, rFr_tr hF1 (rFr_tr hQ_9 hF2), p1, T_9, V2, by omega, fr, hJ, rfl, tn_9, by rw [te_9]; exact ⟨rfl, hi_9, hb_9⟩, ?_, ?_, ?_, ?_, ?_, ?_, fun q q1 q2 q3 q4 q5 q6 => ?_, hR2⟩
          · rw [w3 _ (by omega)]; exact v1
          · rw [w3 _ (by omega)]; exact v2
          · rw [w3 _ (by omega)]; exact v3
          · rw [w3 _ (by omega)]; exact v4
          · rw [w3 _ (by omega)]; exact v5
          · rw [w2, v6 2 (by omega) (by omega) (by omega) (by omega) (by omega)]
          · rcases (show q = 0 ∨ q = 1 ∨ 3 ≤ q by omega) with z | z | z
            · subst z; rw [w0]; exact v6 0 (by omega) (by omega) (by omega) (by omega) (by omega)
            · subst z; rw [w1]; exact v6 1 (by omega) (by omega) (by omega) (by omega) (by omega)
            · rw [w3 q z]; exact v6 q q1 q2 q3 q4 q5
        · refine k_iinc Xc d_R_addPart_23 rfl (by decide) (n := 26) rfl ?_
          refine k_goto Xc d_R_addPart_26 (t := 3) rfl ?_
          exact k_loc (ih (p1 + 1) (by omega) (by
            rcases Nat.lt_or_ge p1 p0 with q | q
            · omega
            · have ep : p1 = p0 := by omega
              subst ep
              omega) (fun q z => by
            rcases Nat.lt_or_ge q p1 with z1 | z1
            · exact hJ q z1
            · have eq : q = p1 := by omega
              subst eq
              omega)) rfl
  refine k_iconst Xc d_R_addPart_0 (n := 1) rfl ?_
  refine k_istore Xc d_R_addPart_1 (by decide) (n := 3) rfl ?_
  exact k_loc (loop 12 0 (by omega) (by omega) (fun q z => absurd z (by omega))) rfl
set_option maxRecDepth 100000 in
set_option maxHeartbeats 4000000 in
theorem m_R_strip (l : Launch) (D : va_G) (G : Nat → ClassId) {L : List Nat} {f : Nat → va_E} {ad : Nat → Nat} {T : Nat → TT} {V : Nat → Int} (hR : zRm G L f ad T V) : zM l D G y_R_strip (.code y_R_strip c_R_strip 3 (some .int) :: BG) (zR0 0 0) [.ref (ad 0)] L f (fun v L1 f1 => L = L1 ∧ rFr f f1 ad ∧ v = some (.int (zI (V 2))) ∧ ∃ V1 : Nat → Int, (∀ i : Nat, i < 12 → V1 (40 + i) = 0) ∧ V1 2 = 0 ∧ (∀ q, (q < 40 ∨ 52 ≤ q) → q ≠ 2 → V1 q = V q) ∧ zRm G L f1 ad T V1) := by
  refine zM.of (by decide) (Nat.le_of_ble_eq_true rfl) rfl (fun p e s m args below meth c A Xc hr hnm => ?_)
  have loop : ∀ (d i : Nat) (f1 : Nat → va_E) (V1 : Nat → Int), 12 < i + d → i ≤ 12 → zRm G L f1 ad T V1 → rFr f f1 ad → (∀ j : Nat, j < i → V1 (40 + j) = 0) → (∀ q, (q < 40 ∨ 52 ≤ q) → V1 q = V q) → zG p l e (zR0 0 0) s m args below meth c D A 3 0 0 (MQ below (zE D A (fun v L1 f1 => L = L1 ∧ rFr f f1 ad ∧ v = some (.int (zI (V 2))) ∧ ∃ V1 : Nat → Int, (∀ i : Nat, i < 12 → V1 (40 + i) = 0) ∧ V1 2 = 0 ∧ (∀ q, (q < 40 ∨ 52 ≤ q) → q ≠ 2 → V1 q = V q) ∧ zRm G L f1 ad T V1)) args s (zR0 0 0).cells (zR0 0 0).slots A) 7 [(0, .ref (ad 0)), (1, .int (zI (V 2))), (2, .int (zI (i : Int)))] [] L f1 := by
    intro d
    induction d with
    | zero => intro i f1 V1 h1 h2; omega
    | succ d ih =>
      intro i f1 V1 h1 h2 hR1 hF hJ hU
      refine k_iload_n Xc d_R_strip_7 rfl rfl (n := 8) rfl ?_
      refine k_bipush Xc d_R_strip_8 rfl (n := 10) rfl ?_
      refine k_icmp_ge Xc d_R_strip_10 (t := 29) (n := 13) rfl rfl (by omega) (by omega) (fun h_10 => ?_) (fun h_10 => ?_)
      · refine k_aload_n Xc d_R_strip_29 rfl rfl (n := 30) rfl ?_
        refine k_iconst Xc d_R_strip_30 (n := 31) rfl ?_
        refine k_put Xc u_R t_R_ok n_R rfl 8 (by decide) wd_142 rfl rfl rfl rfl d_R_strip_31 (n := 34) rfl hR1.2.2.2.2.2.1.1 hR1.2.2.2.2.2.1.2 (Nat.le_of_ble_eq_true rfl) ?_
        obtain ⟨⟨V2, w0, w1, w2, w3, hR2⟩, hF2⟩ := zRm_cnt hR1 (V1 0) (V1 1) 0
        generalize hf2 : va_up f1 (ad 0) (Sum.inr (4, [Value.ref (ad (100 + 0)), Value.ref (ad (100 + 1)), Value.ref (ad (100 + 2)), Value.ref (ad 1), Value.ref (ad 2), Value.ref (ad 3), Value.int (zI (V1 0)), Value.int (zI (V1 1)), Value.int (zI 0)])) = f2 at hR2 hF2
        refine k_heap (g := f2) (by rw [← hf2]; rfl) ?_
        refine k_iload_n Xc d_R_strip_34 rfl rfl (n := 35) rfl ?_
        refine k_iret Xc d_R_strip_35 hr rfl (Nat.le_refl _) (Nat.le_refl _) ?_
        refine ⟨rfl, rFr_tr hF hF2, rfl, V2, fun j hj => ?_, w2, fun q z z2 => ?_, hR2⟩
        · rw [w3 _ (by omega)]; exact hJ j (by omega)
        · rcases (show q = 0 ∨ q = 1 ∨ 3 ≤ q by omega) with y | y | y
          · subst y; rw [w0]; exact hU 0 z
          · subst y; rw [w1]; exact hU 1 z
          · rw [w3 q y]; exact hU q z
      · refine k_aload_n Xc d_R_strip_13 rfl rfl (n := 14) rfl ?_
        refine k_get Xc u_R rfl 5 (by decide) wd_139 rfl d_R_strip_14 (n := 17) rfl hR1.2.2.2.2.2.1.1 hR1.2.2.2.2.2.1.2 rfl ?_
        refine k_iload_n Xc d_R_strip_17 rfl rfl (n := 18) rfl ?_
        refine k_aaldN Xc d_R_strip_18 (n := 19) rfl hR1.2.2.2.2.2.2.2.2.1 hR1.2.2.2.2.2.2.2.2.2 rfl (by omega) (by decide) ?_
        refine k_iconst Xc d_R_strip_19 (n := 20) rfl ?_
        refine k_put Xc u_P t_P_ok n_P rfl 1 (by decide) wd_112 rfl rfl rfl rfl d_R_strip_20 (n := 23) rfl (hR1.2.2.2.2.1 i (by omega)).1 (hR1.2.2.2.2.1 i (by omega)).2 (Nat.le_of_ble_eq_true rfl) ?_
        obtain ⟨⟨V2, v1, v2, v3, v4, v5, v6, hR2⟩, hF2⟩ := zRm_part hR1 (i := i) (by omega) 0 (V1 (60 + i)) (V1 (80 + i)) (V1 (100 + i)) (V1 (120 + i))
        generalize hf2 : va_up f1 (ad (40 + i)) (Sum.inr (1, [Value.ref (ad (100 + (32 + i))), Value.int (zI 0), Value.int (zI (V1 (60 + i))), Value.int (zI (V1 (80 + i))), Value.int (zI (V1 (100 + i))), Value.int (zI (V1 (120 + i)))])) = f2 at hR2 hF2
        refine k_heap (g := f2) (by rw [← hf2]; rfl) ?_
        refine k_iinc Xc d_R_strip_23 rfl (by decide) (n := 26) rfl ?_
        refine k_goto Xc d_R_strip_26 (t := 7) rfl ?_
        exact k_loc (ih (i + 1) _ V2 (by omega) (by omega) hR2 (rFr_tr hF hF2) (fun j hj => by
          rcases Nat.lt_or_ge j i with q | q
          · rw [v6 _ (by omega) (by omega) (by omega) (by omega) (by omega)]; exact hJ j q
          · have ej : j = i := by omega
            subst ej
            exact v1) (fun q z => by
          by_cases c2 : q = 60 + i
          · subst c2; rw [v2]; exact hU _ z
          · by_cases c3 : q = 80 + i
            · subst c3; rw [v3]; exact hU _ z
            · by_cases c4 : q = 100 + i
              · subst c4; rw [v4]; exact hU _ z
              · by_cases c5 : q = 120 + i
                · subst c5; rw [v5]; exact hU _ z
                · rw [v6 q (by omega) c2 c3 c4 c5]; exact hU q z)) rfl
  refine k_aload_n Xc d_R_strip_0 rfl rfl (n := 1) rfl ?_
  refine k_get Xc u_R rfl 8 (by decide) wd_142 rfl d_R_strip_1 (n := 4) rfl hR.2.2.2.2.2.1.1 hR.2.2.2.2.2.1.2 rfl ?_
  refine k_istore_n Xc d_R_strip_4 rfl (by decide) (n := 5) rfl ?_
  refine k_iconst Xc d_R_strip_5 (n := 6) rfl ?_
  refine k_istore_n Xc d_R_strip_6 rfl (by decide) (n := 7) rfl ?_
  exact k_loc (loop 13 0 _ V (by omega) (by omega) hR rFr_rf (fun j q => absurd q (by omega)) (fun _ _ => rfl)) rfl
