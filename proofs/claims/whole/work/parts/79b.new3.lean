-- NEW: the constructor of the room
abbrev rmR : Room := { frames := 3, cells := 164, slots := 1511, locals := 53 }
abbrev fsR : List Value := [.null, .null, .null, .null, .null, .null, .int (zI 0), .int (zI 0), .int (zI 0)]
def ad0 (a : Nat) (B : Nat → Nat) : Nat → Nat := fun c => if c = 0 then a else if c ≤ 3 then B (8 + c) else if c < 200 then B (3 * (c - 100)) else if c < 300 then B (3 * (c - 200) + 1) else B (3 * (c - 300) + 2)
theorem ad0_0 {a : Nat} {B : Nat → Nat} : ad0 a B 0 = a := if_pos rfl
theorem zBd_0 {G : Nat → ClassId} {L L1 : List Nat} {f : Nat → va_E} {a : Nat} {B : Nat → Nat} (ha : a ∈ L) (hB : nw 12 B L L1) (hs : ∀ s, s < 3 → shp G f (B (3 * s)) (B (3 * s + 1)) (B (3 * s + 2))) (h0 : f a = .inr (4, [.ref (B 0), .ref (B 3), .ref (B 6), .ref (B 9), .ref (B 10), .ref (B 11), .int (zI 0), .int (zI 0), .int (zI 0)])) (h1 : f (B 9) = zwo G 3 5 (fun _ => none)) (h2 : f (B 10) = zwo G 4 6 (fun _ => none)) (h3 : f (B 11) = zwo G 5 12 (fun _ => none)) : zBd G L1 f (ad0 a B) 0 0 0 := by
  have e0 : ad0 a B 0 = a := if_pos rfl
  have e1 : ∀ c, 0 < c → c ≤ 3 → ad0 a B c = B (8 + c) := fun c p q => by unfold ad0; rw [if_neg (by omega), if_pos q]
  have e2 : ∀ s, s < 3 → ad0 a B (100 + s) = B (3 * s) := fun s p => by unfold ad0; rw [if_neg (by omega), if_neg (by omega), if_pos (by omega), show 100 + s - 100 = s by omega]
  have e3 : ∀ s, s < 3 → ad0 a B (200 + s) = B (3 * s + 1) := fun s p => by unfold ad0; rw [if_neg (by omega), if_neg (by omega), if_neg (by omega), if_pos (by omega), show 200 + s - 200 = s by omega]
  have e4 : ∀ s, s < 3 → ad0 a B (300 + s) = B (3 * s + 2) := fun s p => by unfold ad0; rw [if_neg (by omega), if_neg (by omega), if_neg (by omega), if_neg (by omega), show 300 + s - 300 = s by omega]
  have val : ∀ c, bU 0 0 0 c → c ≠ 0 → ∃ k, k < 12 ∧ ad0 a B c = B k ∧ ((0 < c ∧ c ≤ 3 ∧ k = 8 + c) ∨ (∃ s, s < 3 ∧ c = 100 + s ∧ k = 3 * s) ∨ (∃ s, s < 3 ∧ c = 200 + s ∧ k = 3 * s + 1) ∨ (∃ s, s < 3 ∧ c = 300 + s ∧ k = 3 * s + 2)) := fun c hc h => by
    unfold bU at hc
    rcases (show c ≤ 3 ∨ (100 ≤ c ∧ c < 103) ∨ (200 ≤ c ∧ c < 203) ∨ (300 ≤ c ∧ c < 303) by omega) with q | q | q | q
    · exact ⟨8 + c, by omega, e1 c (by omega) q, Or.inl ⟨by omega, q, rfl⟩⟩
    · obtain ⟨s, p, rfl⟩ : ∃ s, s < 3 ∧ c = 100 + s := ⟨c - 100, by omega, by omega⟩
      exact ⟨3 * s, by omega, e2 s p, Or.inr (Or.inl ⟨s, p, rfl, rfl⟩)⟩
    · obtain ⟨s, p, rfl⟩ : ∃ s, s < 3 ∧ c = 200 + s := ⟨c - 200, by omega, by omega⟩
      exact ⟨3 * s + 1, by omega, e3 s p, Or.inr (Or.inr (Or.inl ⟨s, p, rfl, rfl⟩))⟩
    · obtain ⟨s, p, rfl⟩ : ∃ s, s < 3 ∧ c = 300 + s := ⟨c - 300, by omega, by omega⟩
      exact ⟨3 * s + 2, by omega, e4 s p, Or.inr (Or.inr (Or.inr ⟨s, p, rfl, rfl⟩))⟩
  refine ⟨fun c hc => ?_, fun c d hc hd e => ?_, fun s hs9 => ?_, fun i hi => absurd hi (by omega), fun i hi => absurd hi (by omega), fun i hi => absurd hi (by omega), ?_, ?_, ?_, ?_⟩
  · by_cases q : c = 0
    · rw [q, e0]; exact hB.1 a ha
    · obtain ⟨k, hk, e, -⟩ := val c hc q
      rw [e]; exact (hB.2.1 k hk).1
  · by_cases q : c = 0 <;> by_cases r : d = 0
    · omega
    · obtain ⟨k, hk, e5, -⟩ := val d hd r
      rw [q, e0, e5] at e
      exact absurd (e ▸ ha) (hB.2.1 k hk).2
    · obtain ⟨k, hk, e5, -⟩ := val c hc q
      rw [r, e0, e5] at e
      exact absurd (e ▸ ha) (hB.2.1 k hk).2
    · obtain ⟨k, hk, e5, c1⟩ := val c hc q
      obtain ⟨j, hj, e6, c2⟩ := val d hd r
      rw [e5, e6] at e
      have := hB.2.2 k j hk hj e
      rcases c1 with c1 | ⟨s, c1⟩ | ⟨s, c1⟩ | ⟨s, c1⟩ <;> rcases c2 with c2 | ⟨t, c2⟩ | ⟨t, c2⟩ | ⟨t, c2⟩ <;> omega
  · have s3 : s < 3 := by unfold bS at hs9; omega
    rw [e2 s s3, e3 s s3, e4 s s3]; exact hs s s3
  · have x0 := e2 0 (by omega)
    have x1 := e2 1 (by omega)
    have x2 := e2 2 (by omega)
    rw [e0, show (100 : Nat) = 100 + 0 from rfl, x0, show (101 : Nat) = 100 + 1 from rfl, x1, show (102 : Nat) = 100 + 2 from rfl, x2, e1 1 (by omega) (by omega), e1 2 (by omega) (by omega), e1 3 (by omega) (by omega)]; exact h0
  · rw [e1 1 (by omega) (by omega), ptn_0]; exact h1
  · rw [e1 2 (by omega) (by omega), ptn_0]; exact h2
  · rw [e1 3 (by omega) (by omega), ptn_0]; exact h3

set_option maxRecDepth 100000 in
set_option maxHeartbeats 4000000 in
theorem m_R_init (l : Launch) (D : va_G) (G : Nat → ClassId) {L : List Nat} {f : Nat → va_E} {a : Nat} (ha : a ∈ L) (hf : f a = .inr (4, fsR)) : zMn l D G y_R_init (.code y_R_init c_R_init 2 none :: BG) rmR [.ref a] L f (fun v L1 f1 => v = none ∧ ∃ ad : Nat → Nat, ad 0 = a ∧ zBd G L1 f1 ad 5 6 12) := by
  refine zMn.of (by decide) (Nat.le_of_ble_eq_true rfl) rfl (fun p e s m args below meth c A Xc hNe hr hnm => ?_)
  have lp : ∀ (d i : Nat) (ad : Nat → Nat) (L1 : List Nat) (f1 : Nat → va_E), 12 < i + d → i ≤ 12 → ad 0 = a → zBd G L1 f1 ad 5 6 i → zG p l e rmR s m args below meth c D A 2 (116 + 4 * i) (1067 + 37 * i) (MQ below (zE D A (fun v L1 f1 => v = none ∧ ∃ ad : Nat → Nat, ad 0 = a ∧ zBd G L1 f1 ad 5 6 12)) args s rmR.cells rmR.slots A) 118 [(0, .ref a), (1, .int (zI (i : Int)))] [] L1 f1 := by
    intro d
    induction d with
    | zero => intro i ad L1 f1 h1 h2; omega
    | succ d ih =>
      intro i ad L1 f1 h1 h2 h0 hB
      refine k_iload_n Xc d_R_init_118 rfl rfl (n := 119) rfl ?_
      refine k_bipush Xc d_R_init_119 rfl (n := 121) rfl ?_
      refine k_icmp_ge Xc d_R_init_121 (t := 143) (n := 124) rfl rfl (by omega) (by omega) (fun q => ?_) (fun q => ?_)
      · have ei : i = 12 := by omega
        subst ei
        exact k_vret Xc d_R_init_143 hr (Nat.le_of_ble_eq_true rfl) (Nat.le_of_ble_eq_true rfl) ⟨rfl, ad, h0, hB⟩
      · refine k_aload_n Xc d_R_init_124 rfl rfl (n := 125) rfl ?_
        have hR4 := hB.2.2.2.2.2.2.1
        rw [h0] at hR4
        have ma : a ∈ L1 := h0 ▸ hB.1 0 (Or.inl (by omega))
        refine k_get Xc u_R rfl 5 (by decide) wd_139 rfl d_R_init_125 (n := 128) rfl ma hR4 rfl ?_
        refine k_iload_n Xc d_R_init_128 rfl rfl (n := 129) rfl ?_
        refine v_newO Xc u_P t_P_ok wd_64 wd_102 wd_5 (ci := 1) rfl fsP (fun j hj => ?_) ⟨by show 116 + 4 * i + 1 ≤ 164; omega, by show 1067 + 37 * i + 6 ≤ 1511; omega⟩ d_R_init_129 (n := 132) rfl (fun q0 f2 h3 g3 r3 => ?_)
        · rcases (show j = 0 ∨ j = 1 ∨ j = 2 ∨ j = 3 ∨ j = 4 ∨ j = 5 by omega) with rfl | rfl | rfl | rfl | rfl | rfl <;> rfl
        refine k_dup Xc d_R_init_132 rfl (n := 133) rfl ?_
        refine k_callN Xc hNe (m_P_init l D G in_r g3) wd_105 (List.mem_of_getElem? (i := 4) rfl) wd_104 wd_5 rfl (by decide +kernel) ⟨by decide, Nat.le_of_ble_eq_true rfl⟩ (Nat.le_of_ble_eq_true rfl) d_R_init_133 (n := 136) rfl ⟨by show 116 + 4 * i + 1 + 3 ≤ 164; omega, by show 1067 + 37 * i + 6 + 31 ≤ 1511; omega⟩ (fun v L2 f3 hv => ?_)
        obtain ⟨rfl, b, hb, g4, gs, r4⟩ := hv
        have hb2 : nw 4 (nwb 1 (fun _ => q0) b) L1 L2 := nw_tr (nw_1 h3) hb
        have kp : ∀ z, z ∈ L1 → f3 z = f1 z := fun z hz => (r4 z (in_l hz) (ne_of hz h3)).trans (r3 z (ne_of hz h3))
        have mr : ad 3 ∈ L1 := hB.1 3 (Or.inl (by omega))
        refine v_aast Xc (hb2.1 _ mr) ((kp _ mr).trans hB.2.2.2.2.2.2.2.2.2) (r := ("LeatherRoom$Part", F_P, 6)) rfl (hb2.2.1 0 (by omega)).1 g4 rfl (by omega) (by decide) d_R_init_136 (n := 137) rfl (fun f4 g5 r5 => ?_)
        refine k_iinc Xc d_R_init_137 rfl (by decide) (n := 140) rfl ?_
        refine k_goto Xc d_R_init_140 (t := 118) rfl ?_
        refine k_cs (cells' := 116 + 4 * (i + 1)) (slots' := 1067 + 37 * (i + 1)) (by show 116 + 4 * i + 1 + 3 = _; omega) (by show 1067 + 37 * i + 6 + 31 = _; omega) (k_loc (ih (i + 1) (adP ad (nwb 1 (fun _ => q0) b) i) L2 f4 (by omega) (by omega) ?_ (zBd_P hB (by omega) (by omega) (by omega) hb2 kp g4 gs g5 r5)) rfl)
        rw [adP_n (by omega) (by omega) (by omega) (by omega)]; exact h0
  have lk : ∀ (d i : Nat) (ad : Nat → Nat) (L1 : List Nat) (f1 : Nat → va_E), 6 < i + d → i ≤ 6 → ad 0 = a → zBd G L1 f1 ad 5 i 0 → zG p l e rmR s m args below meth c D A 2 (32 + 14 * i) (281 + 131 * i) (MQ below (zE D A (fun v L1 f1 => v = none ∧ ∃ ad : Nat → Nat, ad 0 = a ∧ zBd G L1 f1 ad 5 6 12)) args s rmR.cells rmR.slots A) 91 [(0, .ref a), (1, .int (zI (i : Int)))] [] L1 f1 := by
    intro d
    induction d with
    | zero => intro i ad L1 f1 h1 h2; omega
    | succ d ih =>
      intro i ad L1 f1 h1 h2 h0 hB
      refine k_iload_n Xc d_R_init_91 rfl rfl (n := 92) rfl ?_
      refine k_bipush Xc d_R_init_92 rfl (n := 94) rfl ?_
      refine k_icmp_ge Xc d_R_init_94 (t := 116) (n := 97) rfl rfl (by omega) (by omega) (fun q => ?_) (fun q => ?_)
      · have ei : i = 6 := by omega
        subst ei
        refine k_iconst Xc d_R_init_116 (n := 117) rfl ?_
        refine k_istore_n Xc d_R_init_117 rfl (by decide) (n := 118) rfl ?_
        exact k_loc (lp 13 0 ad L1 f1 (by omega) (by omega) h0 hB) rfl
      · refine k_aload_n Xc d_R_init_97 rfl rfl (n := 98) rfl ?_
        have hR4 := hB.2.2.2.2.2.2.1
        rw [h0] at hR4
        have ma : a ∈ L1 := h0 ▸ hB.1 0 (Or.inl (by omega))
        refine k_get Xc u_R rfl 4 (by decide) wd_138 rfl d_R_init_98 (n := 101) rfl ma hR4 rfl ?_
        refine k_iload_n Xc d_R_init_101 rfl rfl (n := 102) rfl ?_
        refine v_newO Xc u_K t_K_ok wd_62 wd_82 wd_4 (ci := 0) rfl fsK (fun j hj => ?_) ⟨by show 32 + 14 * i + 1 ≤ 164; omega, by show 281 + 131 * i + 3 ≤ 1511; omega⟩ d_R_init_102 (n := 105) rfl (fun q0 f2 h3 g3 r3 => ?_)
        · rcases (show j = 0 ∨ j = 1 ∨ j = 2 by omega) with rfl | rfl | rfl <;> rfl
        refine k_dup Xc d_R_init_105 rfl (n := 106) rfl ?_
        refine k_callI Xc hNe (m_K_init l D G in_r g3) wd_85 wd_83 wd_84 wd_4 rfl (by decide +kernel) ⟨by decide, Nat.le_of_ble_eq_true rfl⟩ (Nat.le_of_ble_eq_true rfl) d_R_init_106 (n := 109) rfl ⟨by show 32 + 14 * i + 1 + 13 ≤ 164; omega, by show 281 + 131 * i + 3 + 128 ≤ 1511; omega⟩ (fun v L2 f3 hv => ?_)
        obtain ⟨rfl, b, hb, g4, g9, gs, r4⟩ := hv
        have hb2 : nw 14 (nwb 1 (fun _ => q0) b) L1 L2 := nw_tr (nw_1 h3) hb
        have kp : ∀ z, z ∈ L1 → f3 z = f1 z := fun z hz => (r4 z (in_l hz) (ne_of hz h3)).trans (r3 z (ne_of hz h3))
        have mr : ad 2 ∈ L1 := hB.1 2 (Or.inl (by omega))
        refine v_aast Xc (hb2.1 _ mr) ((kp _ mr).trans hB.2.2.2.2.2.2.2.2.1) (r := ("LeatherRoom$Kind", F_K, 3)) rfl (hb2.2.1 0 (by omega)).1 g4 rfl (by omega) (by decide) d_R_init_109 (n := 110) rfl (fun f4 g5 r5 => ?_)
        refine k_iinc Xc d_R_init_110 rfl (by decide) (n := 113) rfl ?_
        refine k_goto Xc d_R_init_113 (t := 91) rfl ?_
        have y : ∀ k, nwb 1 (fun _ => q0) b (1 + k) = b k := fun k => by rw [nwb_r (by omega), show 1 + k - 1 = k by omega]
        have g9a : f3 (nwb 1 (fun _ => q0) b 1) = zwo G 2 4 (ptn 4 (fun t => nwb 1 (fun _ => q0) b (2 + 3 * t))) := by
          rw [show nwb 1 (fun _ => q0) b 1 = b 0 from y 0, g9]
          exact congrArg _ (ptn_congr (fun t ht => by rw [show 2 + 3 * t = 1 + (1 + 3 * t) by omega, y]))
        have gsa : ∀ t, t < 4 → shp G f3 (nwb 1 (fun _ => q0) b (2 + 3 * t)) (nwb 1 (fun _ => q0) b (3 + 3 * t)) (nwb 1 (fun _ => q0) b (4 + 3 * t)) := fun t ht => by
          rw [show 2 + 3 * t = 1 + (1 + 3 * t) by omega, show 3 + 3 * t = 1 + (2 + 3 * t) by omega, show 4 + 3 * t = 1 + (3 + 3 * t) by omega, y, y, y]; exact gs t ht
        refine k_cs (cells' := 32 + 14 * (i + 1)) (slots' := 281 + 131 * (i + 1)) (by show 32 + 14 * i + 1 + 13 = _; omega) (by show 281 + 131 * i + 3 + 128 = _; omega) (k_loc (ih (i + 1) (adK ad (nwb 1 (fun _ => q0) b) i) L2 f4 (by omega) (by omega) ?_ (zBd_K hB (by omega) (by omega) (by omega) hb2 kp g4 g9a gsa g5 r5)) rfl)
        rw [adK_n (by omega) (by omega) (by omega) (by omega) (by omega)]; exact h0
  have lz : ∀ (d i : Nat) (ad : Nat → Nat) (L1 : List Nat) (f1 : Nat → va_E), 5 < i + d → i ≤ 5 → ad 0 = a → zBd G L1 f1 ad i 0 0 → zG p l e rmR s m args below meth c D A 2 (12 + 4 * i) (116 + 33 * i) (MQ below (zE D A (fun v L1 f1 => v = none ∧ ∃ ad : Nat → Nat, ad 0 = a ∧ zBd G L1 f1 ad 5 6 12)) args s rmR.cells rmR.slots A) 65 [(0, .ref a), (1, .int (zI (i : Int)))] [] L1 f1 := by
    intro d
    induction d with
    | zero => intro i ad L1 f1 h1 h2; omega
    | succ d ih =>
      intro i ad L1 f1 h1 h2 h0 hB
      refine k_iload_n Xc d_R_init_65 rfl rfl (n := 66) rfl ?_
      refine k_iconst Xc d_R_init_66 (n := 67) rfl ?_
      refine k_icmp_ge Xc d_R_init_67 (t := 89) (n := 70) rfl rfl (by omega) (by omega) (fun q => ?_) (fun q => ?_)
      · have ei : i = 5 := by omega
        subst ei
        refine k_iconst Xc d_R_init_89 (n := 90) rfl ?_
        refine k_istore_n Xc d_R_init_90 rfl (by decide) (n := 91) rfl ?_
        exact k_loc (lk 7 0 ad L1 f1 (by omega) (by omega) h0 hB) rfl
      · refine k_aload_n Xc d_R_init_70 rfl rfl (n := 71) rfl ?_
        have hR4 := hB.2.2.2.2.2.2.1
        rw [h0] at hR4
        have ma : a ∈ L1 := h0 ▸ hB.1 0 (Or.inl (by omega))
        refine k_get Xc u_R rfl 3 (by decide) wd_137 rfl d_R_init_71 (n := 74) rfl ma hR4 rfl ?_
        refine k_iload_n Xc d_R_init_74 rfl rfl (n := 75) rfl ?_
        refine v_newO Xc u_Z t_Z_ok wd_60 wd_66 wd_3 (ci := 3) rfl fsZ (fun j hj => ?_) ⟨by show 12 + 4 * i + 1 ≤ 164; omega, by show 116 + 33 * i + 2 ≤ 1511; omega⟩ d_R_init_75 (n := 78) rfl (fun q0 f2 h3 g3 r3 => ?_)
        · rcases (show j = 0 ∨ j = 1 by omega) with rfl | rfl <;> rfl
        refine k_dup Xc d_R_init_78 rfl (n := 79) rfl ?_
        refine k_callN Xc hNe (m_Z_init l D G in_r g3) wd_69 (List.mem_of_getElem? (i := 1) rfl) wd_68 wd_3 rfl (by decide +kernel) ⟨by decide, Nat.le_of_ble_eq_true rfl⟩ (Nat.le_of_ble_eq_true rfl) d_R_init_79 (n := 82) rfl ⟨by show 12 + 4 * i + 1 + 3 ≤ 164; omega, by show 116 + 33 * i + 2 + 31 ≤ 1511; omega⟩ (fun v L2 f3 hv => ?_)
        obtain ⟨rfl, b, hb, g4, gs, r4⟩ := hv
        have hb2 : nw 4 (nwb 1 (fun _ => q0) b) L1 L2 := nw_tr (nw_1 h3) hb
        have kp : ∀ z, z ∈ L1 → f3 z = f1 z := fun z hz => (r4 z (in_l hz) (ne_of hz h3)).trans (r3 z (ne_of hz h3))
        have mr : ad 1 ∈ L1 := hB.1 1 (Or.inl (by omega))
        refine v_aast Xc (hb2.1 _ mr) ((kp _ mr).trans hB.2.2.2.2.2.2.2.1) (r := ("LeatherRoom$Zone", F_Z, 2)) rfl (hb2.2.1 0 (by omega)).1 g4 rfl (by omega) (by decide) d_R_init_82 (n := 83) rfl (fun f4 g5 r5 => ?_)
        refine k_iinc Xc d_R_init_83 rfl (by decide) (n := 86) rfl ?_
        refine k_goto Xc d_R_init_86 (t := 65) rfl ?_
        refine k_cs (cells' := 12 + 4 * (i + 1)) (slots' := 116 + 33 * (i + 1)) (by show 12 + 4 * i + 1 + 3 = _; omega) (by show 116 + 33 * i + 2 + 31 = _; omega) (k_loc (ih (i + 1) (adZ ad (nwb 1 (fun _ => q0) b) i) L2 f4 (by omega) (by omega) ?_ (zBd_Z hB (by omega) (by omega) (by omega) hb2 kp g4 gs g5 r5)) rfl)
        rw [adZ_n (by omega) (by omega) (by omega) (by omega)]; exact h0
  refine k_aload_n Xc d_R_init_0 rfl rfl (n := 1) rfl ?_
  refine k_objInit Xc wd_21 d_R_init_1 (n := 4) rfl ⟨by decide, Nat.le_of_ble_eq_true rfl⟩ ?_
  refine k_aload_n Xc d_R_init_4 rfl rfl (n := 5) rfl ?_
  refine v_newS Xc hNe wd_24 (List.mem_of_getElem? (i := 0) rfl) d_R_init_5 d_R_init_8 d_R_init_9 (n := 12) rfl ⟨by decide, Nat.le_of_ble_eq_true rfl⟩ (Nat.le_of_ble_eq_true rfl) ⟨Nat.le_of_ble_eq_true rfl, Nat.le_of_ble_eq_true rfl⟩ (fun b0 L0 f0 hb0 hs0 r0 => ?_)
  refine v_putF Xc u_R t_R_ok n_R rfl 0 (by decide) wd_134 rfl rfl hnm rfl rfl rfl d_R_init_12 (n := 15) rfl (hb0.1 a ha) ((r0 a ha).trans hf) (Nat.le_of_ble_eq_true rfl) (fun g0 p0 t0 => ?_)
  have m0 : a ∈ L0 := hb0.1 a ha
  have s0 : shp G g0 (b0 0) (b0 1) (b0 2) := shp_keep hs0 (t0 _ (Ne.symm (ne_of ha (hb0.2.1 0 (by omega)).2))) (t0 _ (Ne.symm (ne_of ha (hb0.2.1 1 (by omega)).2))) (t0 _ (Ne.symm (ne_of ha (hb0.2.1 2 (by omega)).2)))
  have k0 : ∀ z, z ∈ L → z ≠ a → g0 z = f z := fun z hz hza => (t0 z hza).trans (r0 z hz)
  refine k_aload_n Xc d_R_init_15 rfl rfl (n := 16) rfl ?_
  refine v_newS Xc hNe wd_24 (List.mem_of_getElem? (i := 0) rfl) d_R_init_16 d_R_init_19 d_R_init_20 (n := 23) rfl ⟨by decide, Nat.le_of_ble_eq_true rfl⟩ (Nat.le_of_ble_eq_true rfl) ⟨Nat.le_of_ble_eq_true rfl, Nat.le_of_ble_eq_true rfl⟩ (fun b1 L1 f1 hb1 hs1 r1 => ?_)
  refine v_putF Xc u_R t_R_ok n_R rfl 1 (by decide) wd_135 rfl rfl hnm rfl rfl rfl d_R_init_23 (n := 26) rfl (hb1.1 a m0) ((r1 a m0).trans p0) (Nat.le_of_ble_eq_true rfl) (fun g1 p1 t1 => ?_)
  have m1 : a ∈ L1 := hb1.1 a m0
  have s1 : shp G g1 (b1 0) (b1 1) (b1 2) := shp_keep hs1 (t1 _ (Ne.symm (ne_of m0 (hb1.2.1 0 (by omega)).2))) (t1 _ (Ne.symm (ne_of m0 (hb1.2.1 1 (by omega)).2))) (t1 _ (Ne.symm (ne_of m0 (hb1.2.1 2 (by omega)).2)))
  have k1 : ∀ z, z ∈ L0 → z ≠ a → g1 z = g0 z := fun z hz hza => (t1 z hza).trans (r1 z hz)
  refine k_aload_n Xc d_R_init_26 rfl rfl (n := 27) rfl ?_
  refine v_newS Xc hNe wd_24 (List.mem_of_getElem? (i := 0) rfl) d_R_init_27 d_R_init_30 d_R_init_31 (n := 34) rfl ⟨by decide, Nat.le_of_ble_eq_true rfl⟩ (Nat.le_of_ble_eq_true rfl) ⟨Nat.le_of_ble_eq_true rfl, Nat.le_of_ble_eq_true rfl⟩ (fun b2 L2 f2 hb2 hs2 r2 => ?_)
  refine v_putF Xc u_R t_R_ok n_R rfl 2 (by decide) wd_136 rfl rfl hnm rfl rfl rfl d_R_init_34 (n := 37) rfl (hb2.1 a m1) ((r2 a m1).trans p1) (Nat.le_of_ble_eq_true rfl) (fun g2 p2 t2 => ?_)
  have m2 : a ∈ L2 := hb2.1 a m1
  have s2 : shp G g2 (b2 0) (b2 1) (b2 2) := shp_keep hs2 (t2 _ (Ne.symm (ne_of m1 (hb2.2.1 0 (by omega)).2))) (t2 _ (Ne.symm (ne_of m1 (hb2.2.1 1 (by omega)).2))) (t2 _ (Ne.symm (ne_of m1 (hb2.2.1 2 (by omega)).2)))
  have k2 : ∀ z, z ∈ L1 → z ≠ a → g2 z = g1 z := fun z hz hza => (t2 z hza).trans (r2 z hz)
  refine k_aload_n Xc d_R_init_37 rfl rfl (n := 38) rfl ?_
  refine k_iconst Xc d_R_init_38 (n := 39) rfl ?_
  refine k_val (show (5 : Int) = ((5 : Nat) : Int) from rfl) ?_
  refine v_newR Xc hNe wd_60 (List.mem_of_getElem? (i := 1) rfl) (k := 3) rfl (by decide) ⟨Nat.le_of_ble_eq_true rfl, Nat.le_of_ble_eq_true rfl⟩ d_R_init_39 (n := 42) rfl (fun q3 f3 h3 e3 r3 => ?_)
  refine v_putF Xc u_R t_R_ok n_R rfl 3 (by decide) wd_137 rfl rfl hnm rfl rfl rfl d_R_init_42 (n := 45) rfl (in_l m2) ((r3 a (ne_of m2 h3)).trans p2) (Nat.le_of_ble_eq_true rfl) (fun g3 p3 t3 => ?_)
  have m3 : a ∈ L2 ++ [q3] := in_l m2
  have s3 : g3 q3 = zwo G 3 5 (fun _ => none) := (t3 _ (Ne.symm (ne_of m2 h3))).trans e3
  have k3 : ∀ z, z ∈ L2 → z ≠ a → g3 z = g2 z := fun z hz hza => (t3 z hza).trans (r3 z (ne_of hz h3))
  refine k_aload_n Xc d_R_init_45 rfl rfl (n := 46) rfl ?_
  refine k_bipush Xc d_R_init_46 rfl (n := 48) rfl ?_
  refine k_val (show (6 : Int) = ((6 : Nat) : Int) from rfl) ?_
  refine v_newR Xc hNe wd_62 (List.mem_of_getElem? (i := 2) rfl) (k := 4) rfl (by decide) ⟨Nat.le_of_ble_eq_true rfl, Nat.le_of_ble_eq_true rfl⟩ d_R_init_48 (n := 51) rfl (fun q4 f4 h4 e4 r4 => ?_)
  refine v_putF Xc u_R t_R_ok n_R rfl 4 (by decide) wd_138 rfl rfl hnm rfl rfl rfl d_R_init_51 (n := 54) rfl (in_l m3) ((r4 a (ne_of m3 h4)).trans p3) (Nat.le_of_ble_eq_true rfl) (fun g4 p4 t4 => ?_)
  have m4 : a ∈ (L2 ++ [q3]) ++ [q4] := in_l m3
  have s4 : g4 q4 = zwo G 4 6 (fun _ => none) := (t4 _ (Ne.symm (ne_of m3 h4))).trans e4
  have k4 : ∀ z, z ∈ (L2 ++ [q3]) → z ≠ a → g4 z = g3 z := fun z hz hza => (t4 z hza).trans (r4 z (ne_of hz h4))
  refine k_aload_n Xc d_R_init_54 rfl rfl (n := 55) rfl ?_
  refine k_bipush Xc d_R_init_55 rfl (n := 57) rfl ?_
  refine k_val (show (12 : Int) = ((12 : Nat) : Int) from rfl) ?_
  refine v_newR Xc hNe wd_64 (List.mem_of_getElem? (i := 3) rfl) (k := 5) rfl (by decide) ⟨Nat.le_of_ble_eq_true rfl, Nat.le_of_ble_eq_true rfl⟩ d_R_init_57 (n := 60) rfl (fun q5 f5 h5 e5 r5 => ?_)
  refine v_putF Xc u_R t_R_ok n_R rfl 5 (by decide) wd_139 rfl rfl hnm rfl rfl rfl d_R_init_60 (n := 63) rfl (in_l m4) ((r5 a (ne_of m4 h5)).trans p4) (Nat.le_of_ble_eq_true rfl) (fun g5 p5 t5 => ?_)
  have m5 : a ∈ ((L2 ++ [q3]) ++ [q4]) ++ [q5] := in_l m4
  have s5 : g5 q5 = zwo G 5 12 (fun _ => none) := (t5 _ (Ne.symm (ne_of m4 h5))).trans e5
  have k5 : ∀ z, z ∈ ((L2 ++ [q3]) ++ [q4]) → z ≠ a → g5 z = g4 z := fun z hz hza => (t5 z hza).trans (r5 z (ne_of hz h5))
  refine k_iconst Xc d_R_init_63 (n := 64) rfl ?_
  refine k_istore_n Xc d_R_init_64 rfl (by decide) (n := 65) rfl ?_
  have hB := nw_tr (nw_tr (nw_tr (nw_tr (nw_tr hb0 hb1) hb2) (nw_1 h3)) (nw_1 h4)) (nw_1 h5)
  have z0 : ∀ i, i < 3 → b0 i ≠ a := fun i hi => Ne.symm (ne_of ha (hb0.2.1 i hi).2)
  have z1 : ∀ i, i < 3 → b1 i ≠ a := fun i hi => Ne.symm (ne_of m0 (hb1.2.1 i hi).2)
  have z2 : ∀ i, i < 3 → b2 i ≠ a := fun i hi => Ne.symm (ne_of m1 (hb2.2.1 i hi).2)
  have y2 : ∀ z, z ∈ L2 → z ≠ a → g5 z = g2 z := fun z hz hza => (k5 z (in_l (in_l hz)) hza).trans ((k4 z (in_l hz) hza).trans (k3 z hz hza))
  have y1 : ∀ z, z ∈ L1 → z ≠ a → g5 z = g1 z := fun z hz hza => (y2 z (hb2.1 z hz) hza).trans (k2 z hz hza)
  have y0 : ∀ z, z ∈ L0 → z ≠ a → g5 z = g0 z := fun z hz hza => (y1 z (hb1.1 z hz) hza).trans (k1 z hz hza)
  have w0 : shp G g5 (b0 0) (b0 1) (b0 2) := shp_keep s0 (y0 _ (hb0.2.1 0 (by omega)).1 (z0 0 (by omega))) (y0 _ (hb0.2.1 1 (by omega)).1 (z0 1 (by omega))) (y0 _ (hb0.2.1 2 (by omega)).1 (z0 2 (by omega)))
  have w1 : shp G g5 (b1 0) (b1 1) (b1 2) := shp_keep s1 (y1 _ (hb1.2.1 0 (by omega)).1 (z1 0 (by omega))) (y1 _ (hb1.2.1 1 (by omega)).1 (z1 1 (by omega))) (y1 _ (hb1.2.1 2 (by omega)).1 (z1 2 (by omega)))
  have w2 : shp G g5 (b2 0) (b2 1) (b2 2) := shp_keep s2 (y2 _ (hb2.2.1 0 (by omega)).1 (z2 0 (by omega))) (y2 _ (hb2.2.1 1 (by omega)).1 (z2 1 (by omega))) (y2 _ (hb2.2.1 2 (by omega)).1 (z2 2 (by omega)))
  have x3 : g5 q3 = zwo G 3 5 (fun _ => none) := (k5 q3 (in_l in_r) (Ne.symm (ne_of m2 h3))).trans ((k4 q3 in_r (Ne.symm (ne_of m2 h3))).trans s3)
  have x4 : g5 q4 = zwo G 4 6 (fun _ => none) := (k5 q4 in_r (Ne.symm (ne_of m3 h4))).trans s4
  have bd := zBd_0 (G := G) (f := g5) ha hB (fun s hs => ?_) p5 x3 x4 s5
  · exact k_cs (cells' := 12 + 4 * 0) (slots' := 116 + 33 * 0) rfl rfl (k_loc (lz 6 0 _ _ _ (by omega) (by omega) ad0_0 bd) rfl)
  rcases (show s = 0 ∨ s = 1 ∨ s = 2 by omega) with rfl | rfl | rfl
  · exact w0
  · exact w1
  · exact w2
