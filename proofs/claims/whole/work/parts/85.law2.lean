-- LAW: the rows of its body; its steps
theorem and15 (x : Int32) : ∃ n : Nat, n ≤ 15 ∧ (x &&& zI 15) = zI (n : Int) := by
  refine ⟨(x &&& zI 15).toBitVec.toNat, ?_, ?_⟩
  · rw [Int32.toBitVec_and, BitVec.toNat_and]
    exact Nat.le_trans Nat.and_le_right (by decide)
  · have h : (x &&& zI 15).toBitVec.toNat ≤ 15 := by
      rw [Int32.toBitVec_and, BitVec.toNat_and]
      exact Nat.le_trans Nat.and_le_right (by decide)
    rw [zI_nat]
    unfold nI
    apply Int32.toBitVec_inj.mp
    apply BitVec.eq_of_toNat_eq
    rw [Int32.toBitVec_ofNat', BitVec.toNat_ofNat]
    omega
abbrev lA (s : State) : Nat → Prop := fun q => s.heap.size ≤ q
section ZLW
variable {p : Program} {l : Launch} {e : Env} {R : Room} {s : State} {m : MethodId} {args : Array Value} {below : List Frame} {meth : Method} {c : Code} {D : va_G} {G : Nat → ClassId} {A : Nat → Prop} {nL cells slots : Nat} {Q : State → Prop} {cc : ByteArray} {own : String}
variable {pc n t : Nat} {lv lv' : List (Nat × Value)} {st : List Value} {L : List Nat} {f : Nat → va_E}
theorem k_sld (X : zX p s m args meth c D G A cc own nL) {b N : Nat} {xs : Nat → Int32} (hX : va_X b N xs s s.heap) (hbl : b < s.heap.size) (hbA : ¬ A b) {z : Int} (hd : decode cc pc = .ok (.iaload, 1)) (hn : pc + 1 = n) (h0 : 0 ≤ z) (h1 : z < N) (hN : N ≤ 2560) (k : zG p l e R s m args below meth c D A nL cells slots Q n lv (.int (zI (xs z.toNat).toInt) :: st) L f) : zG p l e R s m args below meth c D A nL cells slots Q pc lv (.int (zI z) :: .ref b :: st) L f := by
  subst hn
  intro H locs ls hl hP hD hS
  refine va_sld X.1 X.2.1 hX hbl hbA hS (zI_in h0 h1 (by omega)) hd ?_
  rw [zI_cl (n := N) h0 h1 (by omega), zI_of (xs z.toNat), ← zI_of (xs z.toNat)]
  have := k H locs ls hl hP hD hS
  rw [← zI_of] at this
  exact this
theorem k_slen (X : zX p s m args meth c D G A cc own nL) {b N : Nat} {xs : Nat → Int32} (hX : va_X b N xs s s.heap) (hbl : b < s.heap.size) (hbA : ¬ A b) (hd : decode cc pc = .ok (.arraylength, 1)) (hn : pc + 1 = n) (k : zG p l e R s m args below meth c D A nL cells slots Q n lv (.int (zI (N : Int)) :: st) L f) : zG p l e R s m args below meth c D A nL cells slots Q pc lv (.ref b :: st) L f := by
  subst hn
  intro H locs ls hl hP hD hS
  refine va_slen X.1 X.2.1 hX hbl hbA hS hd ?_
  have := k H locs ls hl hP hD hS
  rw [zI_nat] at this
  exact this
theorem k_lcmp0 (X : zX p s m args meth c D G A cc own nL) {x y : Int64} (hd : decode cc pc = .ok (.lcmp, 1)) (hn : pc + 1 = n) (h : x = y) (k : zG p l e R s m args below meth c D A nL cells slots Q n lv (.int (zI 0) :: st) L f) : zG p l e R s m args below meth c D A nL cells slots Q pc lv (.long y :: .long x :: st) L f := by
  subst hn
  intro H locs ls hl hP hD hS
  refine W.lcmp X.1 X.2.1 hd ?_
  rw [(lg_cmp_eq x y).mpr h]
  exact k H locs ls hl hP hD hS
theorem k_eqs (X : zX p s m args meth c D G A cc own nL) {a b off : Int} (hd : decode cc pc = .ok (.if_icmp .eq off, 3)) (ht : (pc : Int) + off = (t : Int)) (h : a = b) (k : zG p l e R s m args below meth c D A nL cells slots Q t lv st L f) : zG p l e R s m args below meth c D A nL cells slots Q pc lv (.int (zI b) :: .int (zI a) :: st) L f := by
  subst h
  exact fun H locs ls hl hP hD hS => lv_icmp_eq X.1 X.2.1 hd ht (fun _ => k H locs ls hl hP hD hS) (fun q => absurd rfl q)
theorem k_wid {c1 s1 : Nat} (h1 : cells ≤ c1) (h2 : slots ≤ s1) (k : zG p l e R s m args below meth c D A nL c1 s1 Q pc lv st L f) : zG p l e R s m args below meth c D A nL cells slots Q pc lv st L f :=
  fun H locs ls hl hP hD hS => W.widen h1 h2 (k H locs ls hl hP hD hS)
end ZLW
theorem zMo_keep {G : Nat → ClassId} {L : List Nat} {f f1 : Nat → va_E} {o : Nat} {ra : Nat → Nat} {cd wt hc zn kn mn om : Int} {R : Nat → Int → Int} (h : zMo G L f o ra cd wt hc zn kn mn om R) (h0 : f1 o = f o) (h1 : ∀ k, k < 23 → f1 (ra k) = f (ra k)) : zMo G L f1 o ra cd wt hc zn kn mn om R :=
  ⟨h.1, h.2.1, h0.trans h.2.2.1, fun k hk => (h1 k hk).trans (h.2.2.2.1 k hk), h.2.2.2.2⟩
/-- the room, the reference and the long are apart -/
def lAp (L : List Nat) (ad : Nat → Nat) (ol o : Nat) (ra : Nat → Nat) : Prop := ol ∈ L ∧ (∀ c, c < 400 → ol ≠ ad c) ∧ (∀ c, c < 400 → o ≠ ad c) ∧ (∀ k, k < 23 → ∀ c, c < 400 → ra k ≠ ad c) ∧ ol ≠ o ∧ ∀ k, k < 23 → ol ≠ ra k
/-- what holds between two calls -/
def lI (G : Nat → ClassId) (L : List Nat) (f : Nat → va_E) (ad : Nat → Nat) (ol o : Nat) (ra : Nat → Nat) : Prop := ∃ (T : Nat → TT) (V : Nat → Int) (w h z9 k9 : Nat) (R : Nat → Int → Int) (cd mn om : Int) (g : Nat → Int64), zRm G L f ad T V ∧ zMo G L f o ra cd (w : Int) (h : Int) (z9 : Int) (k9 : Int) mn om R ∧ f ol = zlo G g ∧ zRel T V w h z9 k9 R
section ZOP
variable {p : Program} {l : Launch} {e : Env} {s : State} {m : MethodId} {below : List Frame} {meth : Method} {c : Code} {D : va_G} {G : Nat → ClassId} {Q : State → Prop} {b N : Nat} {xs : Nat → Int32}
set_option maxRecDepth 100000 in
set_option maxHeartbeats 4000000 in
theorem o_corner (Xc : zX p s m #[Value.ref b] meth c D G (lA s) c_L_law "LeatherRoomLaw" 7) (hlt : l.stackTraces = false) (hTh : zTh (lA s) s s.heap) (hX : va_X b N xs s s.heap) (hbl : b < s.heap.size) (hN : N ≤ 2560) {L : List Nat} {f : Nat → va_E} {ad : Nat → Nat} {ol o : Nat} {ra : Nat → Nat} (I : lI G L f ad ol o ra) (hap : lAp L ad ol o ra) {j : Int} (hj : 0 ≤ j ∧ j + 5 ≤ (N : Int)) {cells slots : Nat} (hcs : cells + 1 ≤ 621125 ∧ slots + 6 ≤ 7232728)
    (kk : ∀ f1 : Nat → va_E, lI G L f1 ad ol o ra → zG p l e room_1 s m #[Value.ref b] below meth c D (lA s) 7 (cells + 1) (slots + 6) Q 814 [(0, .ref b), (1, .ref (ad 0)), (2, .ref o), (3, .ref ol), (4, .int (zI j))] [] L f1) : zG p l e room_1 s m #[Value.ref b] below meth c D (lA s) 7 cells slots Q 108 [(0, .ref b), (1, .ref (ad 0)), (2, .ref o), (3, .ref ol), (4, .int (zI j))] [] L f := by
  have hA1 : ¬ lA s b := by show ¬ s.heap.size ≤ b; omega
  obtain ⟨hol, a1, a2, a3, a4, a5⟩ := hap
  obtain ⟨T, V, w, h, z9, k9, R, cd, mn, om, g, hR, hM, hfo, hr⟩ := I
  refine k_aload_n Xc d_L_law_108 rfl rfl (n := 109) rfl ?_
  refine k_aload_n Xc d_L_law_109 rfl rfl (n := 110) rfl ?_
  refine k_iload Xc d_L_law_110 rfl (n := 112) rfl ?_
  refine k_iconst Xc d_L_law_112 (n := 113) rfl ?_
  refine k_iadd Xc d_L_law_113 (n := 114) rfl ?_
  refine k_sld Xc hX hbl hA1 d_L_law_114 (n := 115) rfl (by omega) (by omega) (by omega) ?_
  refine k_aload_n Xc d_L_law_115 rfl rfl (n := 116) rfl ?_
  refine k_iload Xc d_L_law_116 rfl (n := 118) rfl ?_
  refine k_iconst Xc d_L_law_118 (n := 119) rfl ?_
  refine k_iadd Xc d_L_law_119 (n := 120) rfl ?_
  refine k_sld Xc hX hbl hA1 d_L_law_120 (n := 121) rfl (by omega) (by omega) (by omega) ?_
  refine k_aload_n Xc d_L_law_121 rfl rfl (n := 122) rfl ?_
  refine k_callSW (na := 4) Xc hTh (m_L_corner l hlt D G hR z9 k9 (zRel_all hr) _ _ (zO_of _) (zO_of _) hol hfo a1) wd_187 wd_185 wd_186 wd_0 (by decide +kernel) ⟨by decide, by decide⟩ rfl rfl (Nat.le_of_ble_eq_true rfl) d_L_law_122 (n := 125) rfl ⟨by show _ + 1 ≤ 621125; omega, by show _ + 6 ≤ 7232728; omega⟩ (fun v_122 L_122 f_122 e_122 => ?_)
  obtain ⟨rfl, k, r, T1, V1, g1, rfl, hC, hR1, hfr, hfo1, hg⟩ := e_122
  have hM1 := zMo_keep hM (hfr o a2 (Ne.symm a4)) (fun q hq => hfr (ra q) (a3 q hq) (Ne.symm (a5 q hq)))
  refine k_istore Xc d_L_law_125 (by decide) (n := 127) rfl ?_
  refine k_aload_n Xc d_L_law_127 rfl rfl (n := 128) rfl ?_
  refine k_aload_n Xc d_L_law_128 rfl rfl (n := 129) rfl ?_
  refine k_iload Xc d_L_law_129 rfl (n := 131) rfl ?_
  refine k_iconst Xc d_L_law_131 (n := 132) rfl ?_
  refine k_iadd Xc d_L_law_132 (n := 133) rfl ?_
  refine k_sld Xc hX hbl hA1 d_L_law_133 (n := 134) rfl (by omega) (by omega) (by omega) ?_
  refine k_aload_n Xc d_L_law_134 rfl rfl (n := 135) rfl ?_
  refine k_iload Xc d_L_law_135 rfl (n := 137) rfl ?_
  refine k_iconst Xc d_L_law_137 (n := 138) rfl ?_
  refine k_iadd Xc d_L_law_138 (n := 139) rfl ?_
  refine k_sld Xc hX hbl hA1 d_L_law_139 (n := 140) rfl (by omega) (by omega) (by omega) ?_
  refine k_wV (na := 2) Xc (m_M_corner l D G hM1 hr.1.1 _ _ (zO_of _) (zO_of _)) hM1.1 hM1.2.2.1 rfl wd_648 wd_645 wd_646 wd_647 wd_6 (by decide +kernel) ⟨by decide, by decide⟩ rfl rfl (Nat.le_of_ble_eq_true rfl) d_L_law_140 (n := 143) rfl ⟨by show cells + 1 ≤ 621125; omega, by show slots + 6 ≤ 7232728; omega⟩ (fun v_140 L_140 f_140 e_140 => ?_)
  obtain ⟨rfl, hF2, hx⟩ := e_140
  obtain ⟨bb, w2, h2, z2, k2, mn2, om2, R2, rfl, hM2, hkb, hk3, hr2⟩ := p_cor hr hC hx
  have hR2 := zRm_keep hR1 (fun q hq => hF2 (ad q) (Ne.symm (a2 q hq)) (fun k hk => Ne.symm (a3 k hk q hq)))
  have hfo2 := (hF2 ol a4 a5).trans hfo1
  refine k_istore Xc d_L_law_143 (by decide) (n := 145) rfl ?_
  refine k_aload_n Xc d_L_law_145 rfl rfl (n := 146) rfl ?_
  refine k_qV (na := 0) Xc (m_M_thrown l D G hM2) hM2.1 hM2.2.2.1 rfl wd_644 wd_641 wd_642 wd_643 wd_6 (by decide +kernel) ⟨by decide, by decide⟩ rfl rfl (Nat.le_of_ble_eq_true rfl) d_L_law_146 (n := 149) rfl ⟨by show cells + 1 ≤ 621125; omega, by show slots + 6 ≤ 7232728; omega⟩ (fun r_146 e_146 => ?_)
  subst e_146
  refine k_iload Xc d_L_law_149 rfl (n := 151) rfl ?_
  refine k_icmp_eq Xc d_L_law_151 (t := 156) (n := 154) rfl rfl (by omega) (by omega) (fun _ => ?_) (fun h_151 => absurd h_151 (by omega))
  refine k_iload Xc d_L_law_156 rfl (n := 158) rfl ?_
  refine k_if_ne Xc d_L_law_158 (t := 173) (n := 161) rfl rfl (by omega) (fun h_158 => ?_) (fun h_158 => ?_)
  · refine k_goto Xc d_L_law_173 (t := 814) rfl ?_
    exact k_loc (kk _ ⟨T1, V1, w2, h2, z2, k2, R2, _, mn2, om2, g1, hR2, hM2, hfo2, hr2⟩) rfl
  · refine k_aload_n Xc d_L_law_161 rfl rfl (n := 162) rfl ?_
    refine k_iconst Xc d_L_law_162 (n := 163) rfl ?_
    refine k_lald Xc d_L_law_163 (n := 164) rfl hol hfo2 ?_
    refine k_iload Xc d_L_law_164 rfl (n := 166) rfl ?_
    refine k_i2l Xc d_L_law_166 (n := 167) rfl ?_
    refine k_lcmp0 Xc d_L_law_167 (n := 168) rfl (by rw [hg (by omega), hkb (by omega)]) ?_
    refine k_if_eq Xc d_L_law_168 (t := 173) (n := 171) rfl rfl (by omega) (fun _ => ?_) (fun h_168 => absurd h_168 (by omega))
    refine k_goto Xc d_L_law_173 (t := 814) rfl ?_
    exact k_loc (kk _ ⟨T1, V1, w2, h2, z2, k2, R2, _, mn2, om2, g1, hR2, hM2, hfo2, hr2⟩) rfl
set_option maxRecDepth 100000 in
set_option maxHeartbeats 4000000 in
theorem o_hide (Xc : zX p s m #[Value.ref b] meth c D G (lA s) c_L_law "LeatherRoomLaw" 7) (hlt : l.stackTraces = false) (hTh : zTh (lA s) s s.heap) (hX : va_X b N xs s s.heap) (hbl : b < s.heap.size) (hN : N ≤ 2560) {L : List Nat} {f : Nat → va_E} {ad : Nat → Nat} {ol o : Nat} {ra : Nat → Nat} (I : lI G L f ad ol o ra) (hap : lAp L ad ol o ra) {j : Int} (hj : 0 ≤ j ∧ j + 5 ≤ (N : Int)) {cells slots : Nat} (hcs : cells + 1 ≤ 621125 ∧ slots + 6 ≤ 7232728)
    (kk : ∀ f1 : Nat → va_E, lI G L f1 ad ol o ra → zG p l e room_1 s m #[Value.ref b] below meth c D (lA s) 7 (cells + 1) (slots + 6) Q 814 [(0, .ref b), (1, .ref (ad 0)), (2, .ref o), (3, .ref ol), (4, .int (zI j))] [] L f1) : zG p l e room_1 s m #[Value.ref b] below meth c D (lA s) 7 cells slots Q 176 [(0, .ref b), (1, .ref (ad 0)), (2, .ref o), (3, .ref ol), (4, .int (zI j))] [] L f := by
  have hA1 : ¬ lA s b := by show ¬ s.heap.size ≤ b; omega
  obtain ⟨hol, a1, a2, a3, a4, a5⟩ := hap
  obtain ⟨T, V, w, h, z9, k9, R, cd, mn, om, g, hR, hM, hfo, hr⟩ := I
  refine k_aload_n Xc d_L_law_176 rfl rfl (n := 177) rfl ?_
  refine k_callSW (na := 1) Xc hTh (m_L_hide l hlt D G hR z9 k9 (zRel_all hr)  ) wd_294 wd_292 wd_293 wd_0 (by decide +kernel) ⟨by decide, by decide⟩ rfl rfl (Nat.le_of_ble_eq_true rfl) d_L_law_177 (n := 180) rfl ⟨by show _ + 1 ≤ 621125; omega, by show _ + 6 ≤ 7232728; omega⟩ (fun v_177 L_177 f_177 e_177 => ?_)
  obtain ⟨rfl, hfr, k, T1, V1, rfl, hC, hR1⟩ := e_177
  have hM1 := zMo_keep hM (hfr o a2) (fun q hq => hfr (ra q) (a3 q hq))
  have hfo1 := (hfr ol a1).trans hfo
  refine k_istore Xc d_L_law_180 (by decide) (n := 182) rfl ?_
  refine k_aload_n Xc d_L_law_182 rfl rfl (n := 183) rfl ?_
  refine k_wV (na := 0) Xc (m_M_hide l D G hM1 hr.1.1 (zRel_sB hr) (zRel_hp hr)  ) hM1.1 hM1.2.2.1 rfl wd_652 wd_649 wd_650 wd_651 wd_6 (by decide +kernel) ⟨by decide, by decide⟩ rfl rfl (Nat.le_of_ble_eq_true rfl) d_L_law_183 (n := 186) rfl ⟨by show cells + 1 ≤ 621125; omega, by show slots + 6 ≤ 7232728; omega⟩ (fun v_183 L_183 f_183 e_183 => ?_)
  obtain ⟨rfl, hv9, hF2, hx⟩ := e_183
  obtain ⟨w2, h2, z2, k2, mn2, om2, R2, rfl, hM2, hk3, hr2⟩ := p_hid (r := 0) hr hC hx hv9
  have hR2 := zRm_keep hR1 (fun q hq => hF2 (ad q) (Ne.symm (a2 q hq)) (fun k hk => Ne.symm (a3 k hk q hq)))
  have hfo2 := (hF2 ol a4 a5).trans hfo1
  refine k_aload_n Xc d_L_law_186 rfl rfl (n := 187) rfl ?_
  refine k_qV (na := 0) Xc (m_M_thrown l D G hM2) hM2.1 hM2.2.2.1 rfl wd_644 wd_641 wd_642 wd_643 wd_6 (by decide +kernel) ⟨by decide, by decide⟩ rfl rfl (Nat.le_of_ble_eq_true rfl) d_L_law_187 (n := 190) rfl ⟨by show cells + 1 ≤ 621125; omega, by show slots + 6 ≤ 7232728; omega⟩ (fun r_187 e_187 => ?_)
  subst e_187
  refine k_iload Xc d_L_law_190 rfl (n := 192) rfl ?_
  refine k_icmp_eq Xc d_L_law_192 (t := 197) (n := 195) rfl rfl (by omega) (by omega) (fun _ => ?_) (fun h_192 => absurd h_192 (by omega))
  refine k_goto Xc d_L_law_197 (t := 814) rfl ?_
  exact k_loc (kk _ ⟨T1, V1, w2, h2, z2, k2, R2, _, mn2, om2, g, hR2, hM2, hfo2, hr2⟩) rfl
set_option maxRecDepth 100000 in
set_option maxHeartbeats 4000000 in
theorem o_zone (Xc : zX p s m #[Value.ref b] meth c D G (lA s) c_L_law "LeatherRoomLaw" 7) (hlt : l.stackTraces = false) (hTh : zTh (lA s) s s.heap) (hX : va_X b N xs s s.heap) (hbl : b < s.heap.size) (hN : N ≤ 2560) {L : List Nat} {f : Nat → va_E} {ad : Nat → Nat} {ol o : Nat} {ra : Nat → Nat} (I : lI G L f ad ol o ra) (hap : lAp L ad ol o ra) {j : Int} (hj : 0 ≤ j ∧ j + 5 ≤ (N : Int)) {cells slots : Nat} (hcs : cells + 1 ≤ 621125 ∧ slots + 6 ≤ 7232728)
    (kk : ∀ f1 : Nat → va_E, lI G L f1 ad ol o ra → zG p l e room_1 s m #[Value.ref b] below meth c D (lA s) 7 (cells + 1) (slots + 6) Q 814 [(0, .ref b), (1, .ref (ad 0)), (2, .ref o), (3, .ref ol), (4, .int (zI j))] [] L f1) : zG p l e room_1 s m #[Value.ref b] below meth c D (lA s) 7 cells slots Q 200 [(0, .ref b), (1, .ref (ad 0)), (2, .ref o), (3, .ref ol), (4, .int (zI j))] [] L f := by
  have hA1 : ¬ lA s b := by show ¬ s.heap.size ≤ b; omega
  obtain ⟨hol, a1, a2, a3, a4, a5⟩ := hap
  obtain ⟨T, V, w, h, z9, k9, R, cd, mn, om, g, hR, hM, hfo, hr⟩ := I
  refine k_aload_n Xc d_L_law_200 rfl rfl (n := 201) rfl ?_
  refine k_aload_n Xc d_L_law_201 rfl rfl (n := 202) rfl ?_
  refine k_iload Xc d_L_law_202 rfl (n := 204) rfl ?_
  refine k_iconst Xc d_L_law_204 (n := 205) rfl ?_
  refine k_iadd Xc d_L_law_205 (n := 206) rfl ?_
  refine k_sld Xc hX hbl hA1 d_L_law_206 (n := 207) rfl (by omega) (by omega) (by omega) ?_
  refine k_aload_n Xc d_L_law_207 rfl rfl (n := 208) rfl ?_
  refine k_callSW (na := 3) Xc hTh (m_L_zone l hlt D G hR z9 k9 (zRel_all hr) _ (zO_of _) hol hfo a1) wd_343 wd_341 wd_342 wd_0 (by decide +kernel) ⟨by decide, by decide⟩ rfl rfl (Nat.le_of_ble_eq_true rfl) d_L_law_208 (n := 211) rfl ⟨by show _ + 1 ≤ 621125; omega, by show _ + 6 ≤ 7232728; omega⟩ (fun v_208 L_208 f_208 e_208 => ?_)
  obtain ⟨rfl, k, r, T1, V1, g1, rfl, hC, hR1, hfr, hfo1, hg⟩ := e_208
  have hM1 := zMo_keep hM (hfr o a2 (Ne.symm a4)) (fun q hq => hfr (ra q) (a3 q hq) (Ne.symm (a5 q hq)))
  refine k_istore Xc d_L_law_211 (by decide) (n := 213) rfl ?_
  refine k_aload_n Xc d_L_law_213 rfl rfl (n := 214) rfl ?_
  refine k_aload_n Xc d_L_law_214 rfl rfl (n := 215) rfl ?_
  refine k_iload Xc d_L_law_215 rfl (n := 217) rfl ?_
  refine k_iconst Xc d_L_law_217 (n := 218) rfl ?_
  refine k_iadd Xc d_L_law_218 (n := 219) rfl ?_
  refine k_sld Xc hX hbl hA1 d_L_law_219 (n := 220) rfl (by omega) (by omega) (by omega) ?_
  refine k_wV (na := 1) Xc (m_M_zone l D G hM1 hr.1.1 hr.2.2.1.2.1 (zRel_sB hr) (zRel_hp hr) _ (zO_of _)) hM1.1 hM1.2.2.1 rfl wd_680 wd_677 wd_678 wd_679 wd_6 (by decide +kernel) ⟨by decide, by decide⟩ rfl rfl (Nat.le_of_ble_eq_true rfl) d_L_law_220 (n := 223) rfl ⟨by show cells + 1 ≤ 621125; omega, by show slots + 6 ≤ 7232728; omega⟩ (fun v_220 L_220 f_220 e_220 => ?_)
  obtain ⟨rfl, hF2, hx⟩ := e_220
  obtain ⟨bb, w2, h2, z2, k2, mn2, om2, R2, rfl, hM2, hkb, hk3, hr2⟩ := p_zon hr hC hx
  have hR2 := zRm_keep hR1 (fun q hq => hF2 (ad q) (Ne.symm (a2 q hq)) (fun k hk => Ne.symm (a3 k hk q hq)))
  have hfo2 := (hF2 ol a4 a5).trans hfo1
  refine k_istore Xc d_L_law_223 (by decide) (n := 225) rfl ?_
  refine k_aload_n Xc d_L_law_225 rfl rfl (n := 226) rfl ?_
  refine k_qV (na := 0) Xc (m_M_thrown l D G hM2) hM2.1 hM2.2.2.1 rfl wd_644 wd_641 wd_642 wd_643 wd_6 (by decide +kernel) ⟨by decide, by decide⟩ rfl rfl (Nat.le_of_ble_eq_true rfl) d_L_law_226 (n := 229) rfl ⟨by show cells + 1 ≤ 621125; omega, by show slots + 6 ≤ 7232728; omega⟩ (fun r_226 e_226 => ?_)
  subst e_226
  refine k_iload Xc d_L_law_229 rfl (n := 231) rfl ?_
  refine k_icmp_eq Xc d_L_law_231 (t := 236) (n := 234) rfl rfl (by omega) (by omega) (fun _ => ?_) (fun h_231 => absurd h_231 (by omega))
  refine k_iload Xc d_L_law_236 rfl (n := 238) rfl ?_
  refine k_if_ne Xc d_L_law_238 (t := 253) (n := 241) rfl rfl (by omega) (fun h_238 => ?_) (fun h_238 => ?_)
  · refine k_goto Xc d_L_law_253 (t := 814) rfl ?_
    exact k_loc (kk _ ⟨T1, V1, w2, h2, z2, k2, R2, _, mn2, om2, g1, hR2, hM2, hfo2, hr2⟩) rfl
  · refine k_aload_n Xc d_L_law_241 rfl rfl (n := 242) rfl ?_
    refine k_iconst Xc d_L_law_242 (n := 243) rfl ?_
    refine k_lald Xc d_L_law_243 (n := 244) rfl hol hfo2 ?_
    refine k_iload Xc d_L_law_244 rfl (n := 246) rfl ?_
    refine k_i2l Xc d_L_law_246 (n := 247) rfl ?_
    refine k_lcmp0 Xc d_L_law_247 (n := 248) rfl (by rw [hg (by omega), hkb (by omega)]) ?_
    refine k_if_eq Xc d_L_law_248 (t := 253) (n := 251) rfl rfl (by omega) (fun _ => ?_) (fun h_248 => absurd h_248 (by omega))
    refine k_goto Xc d_L_law_253 (t := 814) rfl ?_
    exact k_loc (kk _ ⟨T1, V1, w2, h2, z2, k2, R2, _, mn2, om2, g1, hR2, hM2, hfo2, hr2⟩) rfl
set_option maxRecDepth 100000 in
set_option maxHeartbeats 4000000 in
theorem o_clear (Xc : zX p s m #[Value.ref b] meth c D G (lA s) c_L_law "LeatherRoomLaw" 7) (hlt : l.stackTraces = false) (hTh : zTh (lA s) s s.heap) (hX : va_X b N xs s s.heap) (hbl : b < s.heap.size) (hN : N ≤ 2560) {L : List Nat} {f : Nat → va_E} {ad : Nat → Nat} {ol o : Nat} {ra : Nat → Nat} (I : lI G L f ad ol o ra) (hap : lAp L ad ol o ra) {j : Int} (hj : 0 ≤ j ∧ j + 5 ≤ (N : Int)) {cells slots : Nat} (hcs : cells + 1 ≤ 621125 ∧ slots + 6 ≤ 7232728)
    (kk : ∀ f1 : Nat → va_E, lI G L f1 ad ol o ra → zG p l e room_1 s m #[Value.ref b] below meth c D (lA s) 7 (cells + 1) (slots + 6) Q 814 [(0, .ref b), (1, .ref (ad 0)), (2, .ref o), (3, .ref ol), (4, .int (zI j))] [] L f1) : zG p l e room_1 s m #[Value.ref b] below meth c D (lA s) 7 cells slots Q 256 [(0, .ref b), (1, .ref (ad 0)), (2, .ref o), (3, .ref ol), (4, .int (zI j))] [] L f := by
  have hA1 : ¬ lA s b := by show ¬ s.heap.size ≤ b; omega
  obtain ⟨hol, a1, a2, a3, a4, a5⟩ := hap
  obtain ⟨T, V, w, h, z9, k9, R, cd, mn, om, g, hR, hM, hfo, hr⟩ := I
  refine k_aload_n Xc d_L_law_256 rfl rfl (n := 257) rfl ?_
  refine k_callSW (na := 1) Xc hTh (m_L_clear l hlt D G hR z9 k9 (zRel_all hr)  ) wd_367 wd_365 wd_366 wd_0 (by decide +kernel) ⟨by decide, by decide⟩ rfl rfl (Nat.le_of_ble_eq_true rfl) d_L_law_257 (n := 260) rfl ⟨by show _ + 1 ≤ 621125; omega, by show _ + 6 ≤ 7232728; omega⟩ (fun v_257 L_257 f_257 e_257 => ?_)
  obtain ⟨rfl, hfr, k, T1, V1, rfl, hC, hR1⟩ := e_257
  have hM1 := zMo_keep hM (hfr o a2) (fun q hq => hfr (ra q) (a3 q hq))
  have hfo1 := (hfr ol a1).trans hfo
  refine k_istore Xc d_L_law_260 (by decide) (n := 262) rfl ?_
  refine k_aload_n Xc d_L_law_262 rfl rfl (n := 263) rfl ?_
  refine k_wV (na := 0) Xc (m_M_clear l D G hM1 (zRel_hp hr)  ) hM1.1 hM1.2.2.1 rfl wd_691 wd_688 wd_689 wd_690 wd_6 (by decide +kernel) ⟨by decide, by decide⟩ rfl rfl (Nat.le_of_ble_eq_true rfl) d_L_law_263 (n := 266) rfl ⟨by show cells + 1 ≤ 621125; omega, by show slots + 6 ≤ 7232728; omega⟩ (fun v_263 L_263 f_263 e_263 => ?_)
  obtain ⟨rfl, hv9, hF2, hx⟩ := e_263
  obtain ⟨w2, h2, z2, k2, mn2, om2, R2, rfl, hM2, hk3, hr2⟩ := p_clr (r := 0) hr hC hx hv9
  have hR2 := zRm_keep hR1 (fun q hq => hF2 (ad q) (Ne.symm (a2 q hq)) (fun k hk => Ne.symm (a3 k hk q hq)))
  have hfo2 := (hF2 ol a4 a5).trans hfo1
  refine k_aload_n Xc d_L_law_266 rfl rfl (n := 267) rfl ?_
  refine k_qV (na := 0) Xc (m_M_thrown l D G hM2) hM2.1 hM2.2.2.1 rfl wd_644 wd_641 wd_642 wd_643 wd_6 (by decide +kernel) ⟨by decide, by decide⟩ rfl rfl (Nat.le_of_ble_eq_true rfl) d_L_law_267 (n := 270) rfl ⟨by show cells + 1 ≤ 621125; omega, by show slots + 6 ≤ 7232728; omega⟩ (fun r_267 e_267 => ?_)
  subst e_267
  refine k_iload Xc d_L_law_270 rfl (n := 272) rfl ?_
  refine k_icmp_eq Xc d_L_law_272 (t := 277) (n := 275) rfl rfl (by omega) (by omega) (fun _ => ?_) (fun h_272 => absurd h_272 (by omega))
  refine k_goto Xc d_L_law_277 (t := 814) rfl ?_
  exact k_loc (kk _ ⟨T1, V1, w2, h2, z2, k2, R2, _, mn2, om2, g, hR2, hM2, hfo2, hr2⟩) rfl
set_option maxRecDepth 100000 in
set_option maxHeartbeats 4000000 in
theorem o_kind (Xc : zX p s m #[Value.ref b] meth c D G (lA s) c_L_law "LeatherRoomLaw" 7) (hlt : l.stackTraces = false) (hTh : zTh (lA s) s s.heap) (hX : va_X b N xs s s.heap) (hbl : b < s.heap.size) (hN : N ≤ 2560) {L : List Nat} {f : Nat → va_E} {ad : Nat → Nat} {ol o : Nat} {ra : Nat → Nat} (I : lI G L f ad ol o ra) (hap : lAp L ad ol o ra) {j : Int} (hj : 0 ≤ j ∧ j + 5 ≤ (N : Int)) {cells slots : Nat} (hcs : cells + 1 ≤ 621125 ∧ slots + 6 ≤ 7232728)
    (kk : ∀ f1 : Nat → va_E, lI G L f1 ad ol o ra → zG p l e room_1 s m #[Value.ref b] below meth c D (lA s) 7 (cells + 1) (slots + 6) Q 814 [(0, .ref b), (1, .ref (ad 0)), (2, .ref o), (3, .ref ol), (4, .int (zI j))] [] L f1) : zG p l e room_1 s m #[Value.ref b] below meth c D (lA s) 7 cells slots Q 280 [(0, .ref b), (1, .ref (ad 0)), (2, .ref o), (3, .ref ol), (4, .int (zI j))] [] L f := by
  have hA1 : ¬ lA s b := by show ¬ s.heap.size ≤ b; omega
  obtain ⟨hol, a1, a2, a3, a4, a5⟩ := hap
  obtain ⟨T, V, w, h, z9, k9, R, cd, mn, om, g, hR, hM, hfo, hr⟩ := I
  refine k_aload_n Xc d_L_law_280 rfl rfl (n := 281) rfl ?_
  refine k_aload_n Xc d_L_law_281 rfl rfl (n := 282) rfl ?_
  refine k_iload Xc d_L_law_282 rfl (n := 284) rfl ?_
  refine k_iconst Xc d_L_law_284 (n := 285) rfl ?_
  refine k_iadd Xc d_L_law_285 (n := 286) rfl ?_
  refine k_sld Xc hX hbl hA1 d_L_law_286 (n := 287) rfl (by omega) (by omega) (by omega) ?_
  refine k_aload_n Xc d_L_law_287 rfl rfl (n := 288) rfl ?_
  refine k_iload Xc d_L_law_288 rfl (n := 290) rfl ?_
  refine k_iconst Xc d_L_law_290 (n := 291) rfl ?_
  refine k_iadd Xc d_L_law_291 (n := 292) rfl ?_
  refine k_sld Xc hX hbl hA1 d_L_law_292 (n := 293) rfl (by omega) (by omega) (by omega) ?_
  refine k_aload_n Xc d_L_law_293 rfl rfl (n := 294) rfl ?_
  refine k_callSW (na := 4) Xc hTh (m_L_kind l hlt D G hR z9 k9 (zRel_all hr) _ _ (zO_of _) (zO_of _) hol hfo a1) wd_374 wd_372 wd_373 wd_0 (by decide +kernel) ⟨by decide, by decide⟩ rfl rfl (Nat.le_of_ble_eq_true rfl) d_L_law_294 (n := 297) rfl ⟨by show _ + 1 ≤ 621125; omega, by show _ + 6 ≤ 7232728; omega⟩ (fun v_294 L_294 f_294 e_294 => ?_)
  obtain ⟨rfl, k, r, T1, V1, g1, rfl, hC, hR1, hfr, hfo1, hg⟩ := e_294
  have hM1 := zMo_keep hM (hfr o a2 (Ne.symm a4)) (fun q hq => hfr (ra q) (a3 q hq) (Ne.symm (a5 q hq)))
  refine k_istore Xc d_L_law_297 (by decide) (n := 299) rfl ?_
  refine k_aload_n Xc d_L_law_299 rfl rfl (n := 300) rfl ?_
  refine k_aload_n Xc d_L_law_300 rfl rfl (n := 301) rfl ?_
  refine k_iload Xc d_L_law_301 rfl (n := 303) rfl ?_
  refine k_iconst Xc d_L_law_303 (n := 304) rfl ?_
  refine k_iadd Xc d_L_law_304 (n := 305) rfl ?_
  refine k_sld Xc hX hbl hA1 d_L_law_305 (n := 306) rfl (by omega) (by omega) (by omega) ?_
  refine k_aload_n Xc d_L_law_306 rfl rfl (n := 307) rfl ?_
  refine k_iload Xc d_L_law_307 rfl (n := 309) rfl ?_
  refine k_iconst Xc d_L_law_309 (n := 310) rfl ?_
  refine k_iadd Xc d_L_law_310 (n := 311) rfl ?_
  refine k_sld Xc hX hbl hA1 d_L_law_311 (n := 312) rfl (by omega) (by omega) (by omega) ?_
  refine k_wV (na := 2) Xc (m_M_kind l D G hM1 hr.1.1 hr.2.2.2.1.2.1 (zRel_sB hr) _ _ (zO_of _) (zO_of _)) hM1.1 hM1.2.2.1 rfl wd_695 wd_692 wd_693 wd_694 wd_6 (by decide +kernel) ⟨by decide, by decide⟩ rfl rfl (Nat.le_of_ble_eq_true rfl) d_L_law_312 (n := 315) rfl ⟨by show cells + 1 ≤ 621125; omega, by show slots + 6 ≤ 7232728; omega⟩ (fun v_312 L_312 f_312 e_312 => ?_)
  obtain ⟨rfl, hF2, hx⟩ := e_312
  obtain ⟨bb, w2, h2, z2, k2, mn2, om2, R2, rfl, hM2, hkb, hk3, hr2⟩ := p_kin hr hC hx
  have hR2 := zRm_keep hR1 (fun q hq => hF2 (ad q) (Ne.symm (a2 q hq)) (fun k hk => Ne.symm (a3 k hk q hq)))
  have hfo2 := (hF2 ol a4 a5).trans hfo1
  refine k_istore Xc d_L_law_315 (by decide) (n := 317) rfl ?_
  refine k_aload_n Xc d_L_law_317 rfl rfl (n := 318) rfl ?_
  refine k_qV (na := 0) Xc (m_M_thrown l D G hM2) hM2.1 hM2.2.2.1 rfl wd_644 wd_641 wd_642 wd_643 wd_6 (by decide +kernel) ⟨by decide, by decide⟩ rfl rfl (Nat.le_of_ble_eq_true rfl) d_L_law_318 (n := 321) rfl ⟨by show cells + 1 ≤ 621125; omega, by show slots + 6 ≤ 7232728; omega⟩ (fun r_318 e_318 => ?_)
  subst e_318
  refine k_iload Xc d_L_law_321 rfl (n := 323) rfl ?_
  refine k_icmp_eq Xc d_L_law_323 (t := 328) (n := 326) rfl rfl (by omega) (by omega) (fun _ => ?_) (fun h_323 => absurd h_323 (by omega))
  refine k_iload Xc d_L_law_328 rfl (n := 330) rfl ?_
  refine k_if_ne Xc d_L_law_330 (t := 345) (n := 333) rfl rfl (by omega) (fun h_330 => ?_) (fun h_330 => ?_)
  · refine k_goto Xc d_L_law_345 (t := 814) rfl ?_
    exact k_loc (kk _ ⟨T1, V1, w2, h2, z2, k2, R2, _, mn2, om2, g1, hR2, hM2, hfo2, hr2⟩) rfl
  · refine k_aload_n Xc d_L_law_333 rfl rfl (n := 334) rfl ?_
    refine k_iconst Xc d_L_law_334 (n := 335) rfl ?_
    refine k_lald Xc d_L_law_335 (n := 336) rfl hol hfo2 ?_
    refine k_iload Xc d_L_law_336 rfl (n := 338) rfl ?_
    refine k_i2l Xc d_L_law_338 (n := 339) rfl ?_
    refine k_lcmp0 Xc d_L_law_339 (n := 340) rfl (by rw [hg (by omega), hkb (by omega)]) ?_
    refine k_if_eq Xc d_L_law_340 (t := 345) (n := 343) rfl rfl (by omega) (fun _ => ?_) (fun h_340 => absurd h_340 (by omega))
    refine k_goto Xc d_L_law_345 (t := 814) rfl ?_
    exact k_loc (kk _ ⟨T1, V1, w2, h2, z2, k2, R2, _, mn2, om2, g1, hR2, hM2, hfo2, hr2⟩) rfl
set_option maxRecDepth 100000 in
set_option maxHeartbeats 4000000 in
theorem o_fits (Xc : zX p s m #[Value.ref b] meth c D G (lA s) c_L_law "LeatherRoomLaw" 7) (hlt : l.stackTraces = false) (hTh : zTh (lA s) s s.heap) (hX : va_X b N xs s s.heap) (hbl : b < s.heap.size) (hN : N ≤ 2560) {L : List Nat} {f : Nat → va_E} {ad : Nat → Nat} {ol o : Nat} {ra : Nat → Nat} (I : lI G L f ad ol o ra) (hap : lAp L ad ol o ra) {j : Int} (hj : 0 ≤ j ∧ j + 5 ≤ (N : Int)) {cells slots : Nat} (hcs : cells + 1 ≤ 621125 ∧ slots + 6 ≤ 7232728)
    (kk : ∀ f1 : Nat → va_E, lI G L f1 ad ol o ra → zG p l e room_1 s m #[Value.ref b] below meth c D (lA s) 7 (cells + 1) (slots + 6) Q 814 [(0, .ref b), (1, .ref (ad 0)), (2, .ref o), (3, .ref ol), (4, .int (zI j))] [] L f1) : zG p l e room_1 s m #[Value.ref b] below meth c D (lA s) 7 cells slots Q 348 [(0, .ref b), (1, .ref (ad 0)), (2, .ref o), (3, .ref ol), (4, .int (zI j))] [] L f := by
  have hA1 : ¬ lA s b := by show ¬ s.heap.size ≤ b; omega
  obtain ⟨hol, a1, a2, a3, a4, a5⟩ := hap
  obtain ⟨T, V, w, h, z9, k9, R, cd, mn, om, g, hR, hM, hfo, hr⟩ := I
  refine k_aload_n Xc d_L_law_348 rfl rfl (n := 349) rfl ?_
  refine k_aload_n Xc d_L_law_349 rfl rfl (n := 350) rfl ?_
  refine k_iload Xc d_L_law_350 rfl (n := 352) rfl ?_
  refine k_iconst Xc d_L_law_352 (n := 353) rfl ?_
  refine k_iadd Xc d_L_law_353 (n := 354) rfl ?_
  refine k_sld Xc hX hbl hA1 d_L_law_354 (n := 355) rfl (by omega) (by omega) (by omega) ?_
  refine k_aload_n Xc d_L_law_355 rfl rfl (n := 356) rfl ?_
  refine k_iload Xc d_L_law_356 rfl (n := 358) rfl ?_
  refine k_iconst Xc d_L_law_358 (n := 359) rfl ?_
  refine k_iadd Xc d_L_law_359 (n := 360) rfl ?_
  refine k_sld Xc hX hbl hA1 d_L_law_360 (n := 361) rfl (by omega) (by omega) (by omega) ?_
  refine k_aload_n Xc d_L_law_361 rfl rfl (n := 362) rfl ?_
  refine k_iload Xc d_L_law_362 rfl (n := 364) rfl ?_
  refine k_iconst Xc d_L_law_364 (n := 365) rfl ?_
  refine k_iadd Xc d_L_law_365 (n := 366) rfl ?_
  refine k_sld Xc hX hbl hA1 d_L_law_366 (n := 367) rfl (by omega) (by omega) (by omega) ?_
  refine k_aload_n Xc d_L_law_367 rfl rfl (n := 368) rfl ?_
  refine k_iload Xc d_L_law_368 rfl (n := 370) rfl ?_
  refine k_iconst Xc d_L_law_370 (n := 371) rfl ?_
  refine k_iadd Xc d_L_law_371 (n := 372) rfl ?_
  refine k_sld Xc hX hbl hA1 d_L_law_372 (n := 373) rfl (by omega) (by omega) (by omega) ?_
  refine k_aload_n Xc d_L_law_373 rfl rfl (n := 374) rfl ?_
  refine k_callSW (na := 6) Xc hTh (m_L_fits l hlt D G hR z9 k9 (zRel_all hr) _ _ _ _ (zO_of _) (zO_of _) (zO_of _) (zO_of _) hol hfo a1) wd_394 wd_392 wd_393 wd_0 (by decide +kernel) ⟨by decide, by decide⟩ rfl rfl (Nat.le_of_ble_eq_true rfl) d_L_law_374 (n := 377) rfl ⟨by show _ + 1 ≤ 621125; omega, by show _ + 6 ≤ 7232728; omega⟩ (fun v_374 L_374 f_374 e_374 => ?_)
  obtain ⟨rfl, k, r, T1, V1, g1, rfl, hC, hR1, hfr, hfo1, hg⟩ := e_374
  have hM1 := zMo_keep hM (hfr o a2 (Ne.symm a4)) (fun q hq => hfr (ra q) (a3 q hq) (Ne.symm (a5 q hq)))
  refine k_istore Xc d_L_law_377 (by decide) (n := 379) rfl ?_
  refine k_aload_n Xc d_L_law_379 rfl rfl (n := 380) rfl ?_
  refine k_aload_n Xc d_L_law_380 rfl rfl (n := 381) rfl ?_
  refine k_iload Xc d_L_law_381 rfl (n := 383) rfl ?_
  refine k_iconst Xc d_L_law_383 (n := 384) rfl ?_
  refine k_iadd Xc d_L_law_384 (n := 385) rfl ?_
  refine k_sld Xc hX hbl hA1 d_L_law_385 (n := 386) rfl (by omega) (by omega) (by omega) ?_
  refine k_aload_n Xc d_L_law_386 rfl rfl (n := 387) rfl ?_
  refine k_iload Xc d_L_law_387 rfl (n := 389) rfl ?_
  refine k_iconst Xc d_L_law_389 (n := 390) rfl ?_
  refine k_iadd Xc d_L_law_390 (n := 391) rfl ?_
  refine k_sld Xc hX hbl hA1 d_L_law_391 (n := 392) rfl (by omega) (by omega) (by omega) ?_
  refine k_aload_n Xc d_L_law_392 rfl rfl (n := 393) rfl ?_
  refine k_iload Xc d_L_law_393 rfl (n := 395) rfl ?_
  refine k_iconst Xc d_L_law_395 (n := 396) rfl ?_
  refine k_iadd Xc d_L_law_396 (n := 397) rfl ?_
  refine k_sld Xc hX hbl hA1 d_L_law_397 (n := 398) rfl (by omega) (by omega) (by omega) ?_
  refine k_aload_n Xc d_L_law_398 rfl rfl (n := 399) rfl ?_
  refine k_iload Xc d_L_law_399 rfl (n := 401) rfl ?_
  refine k_iconst Xc d_L_law_401 (n := 402) rfl ?_
  refine k_iadd Xc d_L_law_402 (n := 403) rfl ?_
  refine k_sld Xc hX hbl hA1 d_L_law_403 (n := 404) rfl (by omega) (by omega) (by omega) ?_
  refine k_wV (na := 4) Xc (m_M_fits l D G hM1 (zRel_mI hr) _ _ _ _ (zO_of _) (zO_of _) (zO_of _) (zO_of _)) hM1.1 hM1.2.2.1 rfl wd_699 wd_696 wd_697 wd_698 wd_6 (by decide +kernel) ⟨by decide, by decide⟩ rfl rfl (Nat.le_of_ble_eq_true rfl) d_L_law_404 (n := 407) rfl ⟨by show cells + 1 ≤ 621125; omega, by show slots + 6 ≤ 7232728; omega⟩ (fun v_404 L_404 f_404 e_404 => ?_)
  obtain ⟨rfl, hF2, hx⟩ := e_404
  obtain ⟨bb, w2, h2, z2, k2, mn2, om2, R2, rfl, hM2, hkb, hk3, hr2⟩ := p_fit hr hC hx
  have hR2 := zRm_keep hR1 (fun q hq => hF2 (ad q) (Ne.symm (a2 q hq)) (fun k hk => Ne.symm (a3 k hk q hq)))
  have hfo2 := (hF2 ol a4 a5).trans hfo1
  refine k_istore Xc d_L_law_407 (by decide) (n := 409) rfl ?_
  refine k_aload_n Xc d_L_law_409 rfl rfl (n := 410) rfl ?_
  refine k_qV (na := 0) Xc (m_M_thrown l D G hM2) hM2.1 hM2.2.2.1 rfl wd_644 wd_641 wd_642 wd_643 wd_6 (by decide +kernel) ⟨by decide, by decide⟩ rfl rfl (Nat.le_of_ble_eq_true rfl) d_L_law_410 (n := 413) rfl ⟨by show cells + 1 ≤ 621125; omega, by show slots + 6 ≤ 7232728; omega⟩ (fun r_410 e_410 => ?_)
  subst e_410
  refine k_iload Xc d_L_law_413 rfl (n := 415) rfl ?_
  refine k_icmp_eq Xc d_L_law_415 (t := 420) (n := 418) rfl rfl (by omega) (by omega) (fun _ => ?_) (fun h_415 => absurd h_415 (by omega))
  refine k_iload Xc d_L_law_420 rfl (n := 422) rfl ?_
  refine k_if_ne Xc d_L_law_422 (t := 444) (n := 425) rfl rfl (by omega) (fun h_422 => ?_) (fun h_422 => ?_)
  · refine k_goto Xc d_L_law_444 (t := 814) rfl ?_
    exact k_loc (kk _ ⟨T1, V1, w2, h2, z2, k2, R2, _, mn2, om2, g1, hR2, hM2, hfo2, hr2⟩) rfl
  · refine k_aload_n Xc d_L_law_425 rfl rfl (n := 426) rfl ?_
    refine k_iconst Xc d_L_law_426 (n := 427) rfl ?_
    refine k_lald Xc d_L_law_427 (n := 428) rfl hol hfo2 ?_
    rcases cFit_01 (by rw [show k = 0 by omega] at hC; exact hC) with hb8 | hb8
    · have hb9 : bb = 1 := (hkb (by omega)).trans hb8
      refine k_iload Xc d_L_law_428 rfl (n := 430) rfl ?_
      refine k_if_eq Xc d_L_law_430 (t := 437) (n := 433) rfl rfl (by omega) (fun h_430 => absurd h_430 (by omega)) (fun _ => ?_)
      refine k_lconst Xc d_L_law_433 (v := 1) rfl (n := 434) rfl ?_
      refine k_goto Xc d_L_law_434 (t := 438) rfl ?_
      refine k_lcmp0 Xc d_L_law_438 (n := 439) rfl (by rw [hg (by omega), ← hkb (by omega), hb9]; rfl) ?_
      refine k_if_eq Xc d_L_law_439 (t := 444) (n := 442) rfl rfl (by omega) (fun _ => ?_) (fun h_439 => absurd h_439 (by omega))
      refine k_goto Xc d_L_law_444 (t := 814) rfl ?_
      exact k_loc (kk _ ⟨T1, V1, w2, h2, z2, k2, R2, _, mn2, om2, g1, hR2, hM2, hfo2, hr2⟩) rfl
    · have hb9 : bb = 0 := (hkb (by omega)).trans hb8
      refine k_iload Xc d_L_law_428 rfl (n := 430) rfl ?_
      refine k_if_eq Xc d_L_law_430 (t := 437) (n := 433) rfl rfl (by omega) (fun _ => ?_) (fun h_430 => absurd h_430 (by omega))
      refine k_lconst Xc d_L_law_437 (v := 0) rfl (n := 438) rfl ?_
      refine k_lcmp0 Xc d_L_law_438 (n := 439) rfl (by rw [hg (by omega), ← hkb (by omega), hb9]; rfl) ?_
      refine k_if_eq Xc d_L_law_439 (t := 444) (n := 442) rfl rfl (by omega) (fun _ => ?_) (fun h_439 => absurd h_439 (by omega))
      refine k_goto Xc d_L_law_444 (t := 814) rfl ?_
      exact k_loc (kk _ ⟨T1, V1, w2, h2, z2, k2, R2, _, mn2, om2, g1, hR2, hM2, hfo2, hr2⟩) rfl
set_option maxRecDepth 100000 in
set_option maxHeartbeats 4000000 in
theorem o_best (Xc : zX p s m #[Value.ref b] meth c D G (lA s) c_L_law "LeatherRoomLaw" 7) (hlt : l.stackTraces = false) (hTh : zTh (lA s) s s.heap) (hX : va_X b N xs s s.heap) (hbl : b < s.heap.size) (hN : N ≤ 2560) {L : List Nat} {f : Nat → va_E} {ad : Nat → Nat} {ol o : Nat} {ra : Nat → Nat} (I : lI G L f ad ol o ra) (hap : lAp L ad ol o ra) {j : Int} (hj : 0 ≤ j ∧ j + 5 ≤ (N : Int)) {cells slots : Nat} (hcs : cells + 1 ≤ 621125 ∧ slots + 6 ≤ 7232728)
    (kk : ∀ f1 : Nat → va_E, lI G L f1 ad ol o ra → zG p l e room_1 s m #[Value.ref b] below meth c D (lA s) 7 (cells + 1) (slots + 6) Q 814 [(0, .ref b), (1, .ref (ad 0)), (2, .ref o), (3, .ref ol), (4, .int (zI j))] [] L f1) : zG p l e room_1 s m #[Value.ref b] below meth c D (lA s) 7 cells slots Q 447 [(0, .ref b), (1, .ref (ad 0)), (2, .ref o), (3, .ref ol), (4, .int (zI j))] [] L f := by
  have hA1 : ¬ lA s b := by show ¬ s.heap.size ≤ b; omega
  obtain ⟨hol, a1, a2, a3, a4, a5⟩ := hap
  obtain ⟨T, V, w, h, z9, k9, R, cd, mn, om, g, hR, hM, hfo, hr⟩ := I
  refine k_aload_n Xc d_L_law_447 rfl rfl (n := 448) rfl ?_
  refine k_aload_n Xc d_L_law_448 rfl rfl (n := 449) rfl ?_
  refine k_iload Xc d_L_law_449 rfl (n := 451) rfl ?_
  refine k_iconst Xc d_L_law_451 (n := 452) rfl ?_
  refine k_iadd Xc d_L_law_452 (n := 453) rfl ?_
  refine k_sld Xc hX hbl hA1 d_L_law_453 (n := 454) rfl (by omega) (by omega) (by omega) ?_
  refine k_aload_n Xc d_L_law_454 rfl rfl (n := 455) rfl ?_
  refine k_callSW (na := 3) Xc hTh (m_L_best l hlt D G hR z9 k9 (zRel_all hr) _ (zO_of _) hol hfo a1) wd_457 wd_455 wd_456 wd_0 (by decide +kernel) ⟨by decide, by decide⟩ rfl rfl (Nat.le_of_ble_eq_true rfl) d_L_law_455 (n := 458) rfl ⟨by show _ + 1 ≤ 621125; omega, by show _ + 6 ≤ 7232728; omega⟩ (fun v_455 L_455 f_455 e_455 => ?_)
  obtain ⟨rfl, k, r, T1, V1, g1, rfl, hC, hR1, hfr, hfo1, hg⟩ := e_455
  have hM1 := zMo_keep hM (hfr o a2 (Ne.symm a4)) (fun q hq => hfr (ra q) (a3 q hq) (Ne.symm (a5 q hq)))
  refine k_istore Xc d_L_law_458 (by decide) (n := 460) rfl ?_
  refine k_aload_n Xc d_L_law_460 rfl rfl (n := 461) rfl ?_
  refine k_aload_n Xc d_L_law_461 rfl rfl (n := 462) rfl ?_
  refine k_iload Xc d_L_law_462 rfl (n := 464) rfl ?_
  refine k_iconst Xc d_L_law_464 (n := 465) rfl ?_
  refine k_iadd Xc d_L_law_465 (n := 466) rfl ?_
  refine k_sld Xc hX hbl hA1 d_L_law_466 (n := 467) rfl (by omega) (by omega) (by omega) ?_
  refine k_wV (na := 1) Xc (m_M_best l D G hM1 (zRel_mI hr) _ (zO_of _)) hM1.1 hM1.2.2.1 rfl wd_745 wd_742 wd_743 wd_744 wd_6 (by decide +kernel) ⟨by decide, by decide⟩ rfl rfl (Nat.le_of_ble_eq_true rfl) d_L_law_467 (n := 470) rfl ⟨by show cells + 1 ≤ 621125; omega, by show slots + 6 ≤ 7232728; omega⟩ (fun v_467 L_467 f_467 e_467 => ?_)
  obtain ⟨rfl, hF2, hx⟩ := e_467
  obtain ⟨bb, w2, h2, z2, k2, mn2, om2, R2, rfl, hM2, hkb, hk3, hr2⟩ := p_bes hr hC hx
  have hR2 := zRm_keep hR1 (fun q hq => hF2 (ad q) (Ne.symm (a2 q hq)) (fun k hk => Ne.symm (a3 k hk q hq)))
  have hfo2 := (hF2 ol a4 a5).trans hfo1
  refine k_istore Xc d_L_law_470 (by decide) (n := 472) rfl ?_
  refine k_aload_n Xc d_L_law_472 rfl rfl (n := 473) rfl ?_
  refine k_qV (na := 0) Xc (m_M_thrown l D G hM2) hM2.1 hM2.2.2.1 rfl wd_644 wd_641 wd_642 wd_643 wd_6 (by decide +kernel) ⟨by decide, by decide⟩ rfl rfl (Nat.le_of_ble_eq_true rfl) d_L_law_473 (n := 476) rfl ⟨by show cells + 1 ≤ 621125; omega, by show slots + 6 ≤ 7232728; omega⟩ (fun r_473 e_473 => ?_)
  subst e_473
  refine k_iload Xc d_L_law_476 rfl (n := 478) rfl ?_
  refine k_icmp_eq Xc d_L_law_478 (t := 483) (n := 481) rfl rfl (by omega) (by omega) (fun _ => ?_) (fun h_478 => absurd h_478 (by omega))
  refine k_iload Xc d_L_law_483 rfl (n := 485) rfl ?_
  refine k_if_ne Xc d_L_law_485 (t := 500) (n := 488) rfl rfl (by omega) (fun h_485 => ?_) (fun h_485 => ?_)
  · refine k_goto Xc d_L_law_500 (t := 814) rfl ?_
    exact k_loc (kk _ ⟨T1, V1, w2, h2, z2, k2, R2, _, mn2, om2, g1, hR2, hM2, hfo2, hr2⟩) rfl
  · refine k_aload_n Xc d_L_law_488 rfl rfl (n := 489) rfl ?_
    refine k_iconst Xc d_L_law_489 (n := 490) rfl ?_
    refine k_lald Xc d_L_law_490 (n := 491) rfl hol hfo2 ?_
    refine k_iload Xc d_L_law_491 rfl (n := 493) rfl ?_
    refine k_i2l Xc d_L_law_493 (n := 494) rfl ?_
    refine k_lcmp0 Xc d_L_law_494 (n := 495) rfl (by rw [hg (by omega), hkb (by omega)]) ?_
    refine k_if_eq Xc d_L_law_495 (t := 500) (n := 498) rfl rfl (by omega) (fun _ => ?_) (fun h_495 => absurd h_495 (by omega))
    refine k_goto Xc d_L_law_500 (t := 814) rfl ?_
    exact k_loc (kk _ ⟨T1, V1, w2, h2, z2, k2, R2, _, mn2, om2, g1, hR2, hM2, hfo2, hr2⟩) rfl
set_option maxRecDepth 100000 in
set_option maxHeartbeats 4000000 in
theorem o_lay (Xc : zX p s m #[Value.ref b] meth c D G (lA s) c_L_law "LeatherRoomLaw" 7) (hlt : l.stackTraces = false) (hTh : zTh (lA s) s s.heap) (hX : va_X b N xs s s.heap) (hbl : b < s.heap.size) (hN : N ≤ 2560) {L : List Nat} {f : Nat → va_E} {ad : Nat → Nat} {ol o : Nat} {ra : Nat → Nat} (I : lI G L f ad ol o ra) (hap : lAp L ad ol o ra) {j : Int} (hj : 0 ≤ j ∧ j + 5 ≤ (N : Int)) {cells slots : Nat} (hcs : cells + 1 ≤ 621125 ∧ slots + 6 ≤ 7232728)
    (kk : ∀ f1 : Nat → va_E, lI G L f1 ad ol o ra → zG p l e room_1 s m #[Value.ref b] below meth c D (lA s) 7 (cells + 1) (slots + 6) Q 814 [(0, .ref b), (1, .ref (ad 0)), (2, .ref o), (3, .ref ol), (4, .int (zI j))] [] L f1) : zG p l e room_1 s m #[Value.ref b] below meth c D (lA s) 7 cells slots Q 503 [(0, .ref b), (1, .ref (ad 0)), (2, .ref o), (3, .ref ol), (4, .int (zI j))] [] L f := by
  have hA1 : ¬ lA s b := by show ¬ s.heap.size ≤ b; omega
  obtain ⟨hol, a1, a2, a3, a4, a5⟩ := hap
  obtain ⟨T, V, w, h, z9, k9, R, cd, mn, om, g, hR, hM, hfo, hr⟩ := I
  refine k_aload_n Xc d_L_law_503 rfl rfl (n := 504) rfl ?_
  refine k_aload_n Xc d_L_law_504 rfl rfl (n := 505) rfl ?_
  refine k_iload Xc d_L_law_505 rfl (n := 507) rfl ?_
  refine k_iconst Xc d_L_law_507 (n := 508) rfl ?_
  refine k_iadd Xc d_L_law_508 (n := 509) rfl ?_
  refine k_sld Xc hX hbl hA1 d_L_law_509 (n := 510) rfl (by omega) (by omega) (by omega) ?_
  refine k_aload_n Xc d_L_law_510 rfl rfl (n := 511) rfl ?_
  refine k_callSW (na := 3) Xc hTh (m_L_lay l hlt D G hR z9 k9 (zRel_all hr) _ (zO_of _) hol hfo a1) wd_486 wd_484 wd_485 wd_0 (by decide +kernel) ⟨by decide, by decide⟩ rfl rfl (Nat.le_of_ble_eq_true rfl) d_L_law_511 (n := 514) rfl ⟨by show _ + 1 ≤ 621125; omega, by show _ + 6 ≤ 7232728; omega⟩ (fun v_511 L_511 f_511 e_511 => ?_)
  obtain ⟨rfl, k, r, T1, V1, g1, rfl, hC, hR1, hfr, hfo1, hg⟩ := e_511
  have hM1 := zMo_keep hM (hfr o a2 (Ne.symm a4)) (fun q hq => hfr (ra q) (a3 q hq) (Ne.symm (a5 q hq)))
  refine k_istore Xc d_L_law_514 (by decide) (n := 516) rfl ?_
  refine k_aload_n Xc d_L_law_516 rfl rfl (n := 517) rfl ?_
  refine k_aload_n Xc d_L_law_517 rfl rfl (n := 518) rfl ?_
  refine k_iload Xc d_L_law_518 rfl (n := 520) rfl ?_
  refine k_iconst Xc d_L_law_520 (n := 521) rfl ?_
  refine k_iadd Xc d_L_law_521 (n := 522) rfl ?_
  refine k_sld Xc hX hbl hA1 d_L_law_522 (n := 523) rfl (by omega) (by omega) (by omega) ?_
  refine k_wV (na := 1) Xc (m_M_lay l D G hM1 (zRel_mI hr) _ (zO_of _)) hM1.1 hM1.2.2.1 rfl wd_753 wd_750 wd_751 wd_752 wd_6 (by decide +kernel) ⟨by decide, by decide⟩ rfl rfl (Nat.le_of_ble_eq_true rfl) d_L_law_523 (n := 526) rfl ⟨by show cells + 1 ≤ 621125; omega, by show slots + 6 ≤ 7232728; omega⟩ (fun v_523 L_523 f_523 e_523 => ?_)
  obtain ⟨rfl, hF2, hx⟩ := e_523
  obtain ⟨bb, w2, h2, z2, k2, mn2, om2, R2, rfl, hM2, hkb, hk3, hr2⟩ := p_lay hr hC hx
  have hR2 := zRm_keep hR1 (fun q hq => hF2 (ad q) (Ne.symm (a2 q hq)) (fun k hk => Ne.symm (a3 k hk q hq)))
  have hfo2 := (hF2 ol a4 a5).trans hfo1
  refine k_istore Xc d_L_law_526 (by decide) (n := 528) rfl ?_
  refine k_aload_n Xc d_L_law_528 rfl rfl (n := 529) rfl ?_
  refine k_qV (na := 0) Xc (m_M_thrown l D G hM2) hM2.1 hM2.2.2.1 rfl wd_644 wd_641 wd_642 wd_643 wd_6 (by decide +kernel) ⟨by decide, by decide⟩ rfl rfl (Nat.le_of_ble_eq_true rfl) d_L_law_529 (n := 532) rfl ⟨by show cells + 1 ≤ 621125; omega, by show slots + 6 ≤ 7232728; omega⟩ (fun r_529 e_529 => ?_)
  subst e_529
  refine k_iload Xc d_L_law_532 rfl (n := 534) rfl ?_
  refine k_icmp_eq Xc d_L_law_534 (t := 539) (n := 537) rfl rfl (by omega) (by omega) (fun _ => ?_) (fun h_534 => absurd h_534 (by omega))
  refine k_iload Xc d_L_law_539 rfl (n := 541) rfl ?_
  refine k_if_ne Xc d_L_law_541 (t := 556) (n := 544) rfl rfl (by omega) (fun h_541 => ?_) (fun h_541 => ?_)
  · refine k_goto Xc d_L_law_556 (t := 814) rfl ?_
    exact k_loc (kk _ ⟨T1, V1, w2, h2, z2, k2, R2, _, mn2, om2, g1, hR2, hM2, hfo2, hr2⟩) rfl
  · refine k_aload_n Xc d_L_law_544 rfl rfl (n := 545) rfl ?_
    refine k_iconst Xc d_L_law_545 (n := 546) rfl ?_
    refine k_lald Xc d_L_law_546 (n := 547) rfl hol hfo2 ?_
    refine k_iload Xc d_L_law_547 rfl (n := 549) rfl ?_
    refine k_i2l Xc d_L_law_549 (n := 550) rfl ?_
    refine k_lcmp0 Xc d_L_law_550 (n := 551) rfl (by rw [hg (by omega), hkb (by omega)]) ?_
    refine k_if_eq Xc d_L_law_551 (t := 556) (n := 554) rfl rfl (by omega) (fun _ => ?_) (fun h_551 => absurd h_551 (by omega))
    refine k_goto Xc d_L_law_556 (t := 814) rfl ?_
    exact k_loc (kk _ ⟨T1, V1, w2, h2, z2, k2, R2, _, mn2, om2, g1, hR2, hM2, hfo2, hr2⟩) rfl
set_option maxRecDepth 100000 in
set_option maxHeartbeats 4000000 in
theorem o_put (Xc : zX p s m #[Value.ref b] meth c D G (lA s) c_L_law "LeatherRoomLaw" 7) (hlt : l.stackTraces = false) (hTh : zTh (lA s) s s.heap) (hX : va_X b N xs s s.heap) (hbl : b < s.heap.size) (hN : N ≤ 2560) {L : List Nat} {f : Nat → va_E} {ad : Nat → Nat} {ol o : Nat} {ra : Nat → Nat} (I : lI G L f ad ol o ra) (hap : lAp L ad ol o ra) {j : Int} (hj : 0 ≤ j ∧ j + 5 ≤ (N : Int)) {cells slots : Nat} (hcs : cells + 1 ≤ 621125 ∧ slots + 6 ≤ 7232728)
    (kk : ∀ f1 : Nat → va_E, lI G L f1 ad ol o ra → zG p l e room_1 s m #[Value.ref b] below meth c D (lA s) 7 (cells + 1) (slots + 6) Q 814 [(0, .ref b), (1, .ref (ad 0)), (2, .ref o), (3, .ref ol), (4, .int (zI j))] [] L f1) : zG p l e room_1 s m #[Value.ref b] below meth c D (lA s) 7 cells slots Q 559 [(0, .ref b), (1, .ref (ad 0)), (2, .ref o), (3, .ref ol), (4, .int (zI j))] [] L f := by
  have hA1 : ¬ lA s b := by show ¬ s.heap.size ≤ b; omega
  obtain ⟨hol, a1, a2, a3, a4, a5⟩ := hap
  obtain ⟨T, V, w, h, z9, k9, R, cd, mn, om, g, hR, hM, hfo, hr⟩ := I
  refine k_aload_n Xc d_L_law_559 rfl rfl (n := 560) rfl ?_
  refine k_aload_n Xc d_L_law_560 rfl rfl (n := 561) rfl ?_
  refine k_iload Xc d_L_law_561 rfl (n := 563) rfl ?_
  refine k_iconst Xc d_L_law_563 (n := 564) rfl ?_
  refine k_iadd Xc d_L_law_564 (n := 565) rfl ?_
  refine k_sld Xc hX hbl hA1 d_L_law_565 (n := 566) rfl (by omega) (by omega) (by omega) ?_
  refine k_aload_n Xc d_L_law_566 rfl rfl (n := 567) rfl ?_
  refine k_iload Xc d_L_law_567 rfl (n := 569) rfl ?_
  refine k_iconst Xc d_L_law_569 (n := 570) rfl ?_
  refine k_iadd Xc d_L_law_570 (n := 571) rfl ?_
  refine k_sld Xc hX hbl hA1 d_L_law_571 (n := 572) rfl (by omega) (by omega) (by omega) ?_
  refine k_aload_n Xc d_L_law_572 rfl rfl (n := 573) rfl ?_
  refine k_iload Xc d_L_law_573 rfl (n := 575) rfl ?_
  refine k_iconst Xc d_L_law_575 (n := 576) rfl ?_
  refine k_iadd Xc d_L_law_576 (n := 577) rfl ?_
  refine k_sld Xc hX hbl hA1 d_L_law_577 (n := 578) rfl (by omega) (by omega) (by omega) ?_
  refine k_aload_n Xc d_L_law_578 rfl rfl (n := 579) rfl ?_
  refine k_iload Xc d_L_law_579 rfl (n := 581) rfl ?_
  refine k_iconst Xc d_L_law_581 (n := 582) rfl ?_
  refine k_iadd Xc d_L_law_582 (n := 583) rfl ?_
  refine k_sld Xc hX hbl hA1 d_L_law_583 (n := 584) rfl (by omega) (by omega) (by omega) ?_
  refine k_aload_n Xc d_L_law_584 rfl rfl (n := 585) rfl ?_
  refine k_callSW (na := 6) Xc hTh (m_L_put l hlt D G hR z9 k9 (zRel_all hr) _ _ _ _ (zO_of _) (zO_of _) (zO_of _) (zO_of _) hol hfo a1) wd_502 wd_500 wd_501 wd_0 (by decide +kernel) ⟨by decide, by decide⟩ rfl rfl (Nat.le_of_ble_eq_true rfl) d_L_law_585 (n := 588) rfl ⟨by show _ + 1 ≤ 621125; omega, by show _ + 6 ≤ 7232728; omega⟩ (fun v_585 L_585 f_585 e_585 => ?_)
  obtain ⟨rfl, k, r, T1, V1, g1, rfl, hC, hR1, hfr, hfo1, hg⟩ := e_585
  have hM1 := zMo_keep hM (hfr o a2 (Ne.symm a4)) (fun q hq => hfr (ra q) (a3 q hq) (Ne.symm (a5 q hq)))
  refine k_istore Xc d_L_law_588 (by decide) (n := 590) rfl ?_
  refine k_aload_n Xc d_L_law_590 rfl rfl (n := 591) rfl ?_
  refine k_aload_n Xc d_L_law_591 rfl rfl (n := 592) rfl ?_
  refine k_iload Xc d_L_law_592 rfl (n := 594) rfl ?_
  refine k_iconst Xc d_L_law_594 (n := 595) rfl ?_
  refine k_iadd Xc d_L_law_595 (n := 596) rfl ?_
  refine k_sld Xc hX hbl hA1 d_L_law_596 (n := 597) rfl (by omega) (by omega) (by omega) ?_
  refine k_aload_n Xc d_L_law_597 rfl rfl (n := 598) rfl ?_
  refine k_iload Xc d_L_law_598 rfl (n := 600) rfl ?_
  refine k_iconst Xc d_L_law_600 (n := 601) rfl ?_
  refine k_iadd Xc d_L_law_601 (n := 602) rfl ?_
  refine k_sld Xc hX hbl hA1 d_L_law_602 (n := 603) rfl (by omega) (by omega) (by omega) ?_
  refine k_aload_n Xc d_L_law_603 rfl rfl (n := 604) rfl ?_
  refine k_iload Xc d_L_law_604 rfl (n := 606) rfl ?_
  refine k_iconst Xc d_L_law_606 (n := 607) rfl ?_
  refine k_iadd Xc d_L_law_607 (n := 608) rfl ?_
  refine k_sld Xc hX hbl hA1 d_L_law_608 (n := 609) rfl (by omega) (by omega) (by omega) ?_
  refine k_aload_n Xc d_L_law_609 rfl rfl (n := 610) rfl ?_
  refine k_iload Xc d_L_law_610 rfl (n := 612) rfl ?_
  refine k_iconst Xc d_L_law_612 (n := 613) rfl ?_
  refine k_iadd Xc d_L_law_613 (n := 614) rfl ?_
  refine k_sld Xc hX hbl hA1 d_L_law_614 (n := 615) rfl (by omega) (by omega) (by omega) ?_
  refine k_wV (na := 4) Xc (m_M_put l D G hM1 (zRel_mI hr) _ _ _ _ (zO_of _) (zO_of _) (zO_of _) (zO_of _)) hM1.1 hM1.2.2.1 rfl wd_761 wd_758 wd_759 wd_760 wd_6 (by decide +kernel) ⟨by decide, by decide⟩ rfl rfl (Nat.le_of_ble_eq_true rfl) d_L_law_615 (n := 618) rfl ⟨by show cells + 1 ≤ 621125; omega, by show slots + 6 ≤ 7232728; omega⟩ (fun v_615 L_615 f_615 e_615 => ?_)
  obtain ⟨rfl, hF2, hx⟩ := e_615
  obtain ⟨bb, w2, h2, z2, k2, mn2, om2, R2, rfl, hM2, hkb, hk3, hr2⟩ := p_put hr hC hx
  have hR2 := zRm_keep hR1 (fun q hq => hF2 (ad q) (Ne.symm (a2 q hq)) (fun k hk => Ne.symm (a3 k hk q hq)))
  have hfo2 := (hF2 ol a4 a5).trans hfo1
  refine k_istore Xc d_L_law_618 (by decide) (n := 620) rfl ?_
  refine k_aload_n Xc d_L_law_620 rfl rfl (n := 621) rfl ?_
  refine k_qV (na := 0) Xc (m_M_thrown l D G hM2) hM2.1 hM2.2.2.1 rfl wd_644 wd_641 wd_642 wd_643 wd_6 (by decide +kernel) ⟨by decide, by decide⟩ rfl rfl (Nat.le_of_ble_eq_true rfl) d_L_law_621 (n := 624) rfl ⟨by show cells + 1 ≤ 621125; omega, by show slots + 6 ≤ 7232728; omega⟩ (fun r_621 e_621 => ?_)
  subst e_621
  refine k_iload Xc d_L_law_624 rfl (n := 626) rfl ?_
  refine k_icmp_eq Xc d_L_law_626 (t := 631) (n := 629) rfl rfl (by omega) (by omega) (fun _ => ?_) (fun h_626 => absurd h_626 (by omega))
  refine k_iload Xc d_L_law_631 rfl (n := 633) rfl ?_
  refine k_if_ne Xc d_L_law_633 (t := 648) (n := 636) rfl rfl (by omega) (fun h_633 => ?_) (fun h_633 => ?_)
  · refine k_goto Xc d_L_law_648 (t := 814) rfl ?_
    exact k_loc (kk _ ⟨T1, V1, w2, h2, z2, k2, R2, _, mn2, om2, g1, hR2, hM2, hfo2, hr2⟩) rfl
  · refine k_aload_n Xc d_L_law_636 rfl rfl (n := 637) rfl ?_
    refine k_iconst Xc d_L_law_637 (n := 638) rfl ?_
    refine k_lald Xc d_L_law_638 (n := 639) rfl hol hfo2 ?_
    refine k_iload Xc d_L_law_639 rfl (n := 641) rfl ?_
    refine k_i2l Xc d_L_law_641 (n := 642) rfl ?_
    refine k_lcmp0 Xc d_L_law_642 (n := 643) rfl (by rw [hg (by omega), hkb (by omega)]) ?_
    refine k_if_eq Xc d_L_law_643 (t := 648) (n := 646) rfl rfl (by omega) (fun _ => ?_) (fun h_643 => absurd h_643 (by omega))
    refine k_goto Xc d_L_law_648 (t := 814) rfl ?_
    exact k_loc (kk _ ⟨T1, V1, w2, h2, z2, k2, R2, _, mn2, om2, g1, hR2, hM2, hfo2, hr2⟩) rfl
set_option maxRecDepth 100000 in
set_option maxHeartbeats 4000000 in
theorem o_take (Xc : zX p s m #[Value.ref b] meth c D G (lA s) c_L_law "LeatherRoomLaw" 7) (hlt : l.stackTraces = false) (hTh : zTh (lA s) s s.heap) (hX : va_X b N xs s s.heap) (hbl : b < s.heap.size) (hN : N ≤ 2560) {L : List Nat} {f : Nat → va_E} {ad : Nat → Nat} {ol o : Nat} {ra : Nat → Nat} (I : lI G L f ad ol o ra) (hap : lAp L ad ol o ra) {j : Int} (hj : 0 ≤ j ∧ j + 5 ≤ (N : Int)) {cells slots : Nat} (hcs : cells + 1 ≤ 621125 ∧ slots + 6 ≤ 7232728)
    (kk : ∀ f1 : Nat → va_E, lI G L f1 ad ol o ra → zG p l e room_1 s m #[Value.ref b] below meth c D (lA s) 7 (cells + 1) (slots + 6) Q 814 [(0, .ref b), (1, .ref (ad 0)), (2, .ref o), (3, .ref ol), (4, .int (zI j))] [] L f1) : zG p l e room_1 s m #[Value.ref b] below meth c D (lA s) 7 cells slots Q 651 [(0, .ref b), (1, .ref (ad 0)), (2, .ref o), (3, .ref ol), (4, .int (zI j))] [] L f := by
  have hA1 : ¬ lA s b := by show ¬ s.heap.size ≤ b; omega
  obtain ⟨hol, a1, a2, a3, a4, a5⟩ := hap
  obtain ⟨T, V, w, h, z9, k9, R, cd, mn, om, g, hR, hM, hfo, hr⟩ := I
  refine k_aload_n Xc d_L_law_651 rfl rfl (n := 652) rfl ?_
  refine k_aload_n Xc d_L_law_652 rfl rfl (n := 653) rfl ?_
  refine k_iload Xc d_L_law_653 rfl (n := 655) rfl ?_
  refine k_iconst Xc d_L_law_655 (n := 656) rfl ?_
  refine k_iadd Xc d_L_law_656 (n := 657) rfl ?_
  refine k_sld Xc hX hbl hA1 d_L_law_657 (n := 658) rfl (by omega) (by omega) (by omega) ?_
  refine k_aload_n Xc d_L_law_658 rfl rfl (n := 659) rfl ?_
  refine k_callSW (na := 3) Xc hTh (m_L_take l hlt D G hR z9 k9 (zRel_all hr) _ (zO_of _) hol hfo a1) wd_526 wd_524 wd_525 wd_0 (by decide +kernel) ⟨by decide, by decide⟩ rfl rfl (Nat.le_of_ble_eq_true rfl) d_L_law_659 (n := 662) rfl ⟨by show _ + 1 ≤ 621125; omega, by show _ + 6 ≤ 7232728; omega⟩ (fun v_659 L_659 f_659 e_659 => ?_)
  obtain ⟨rfl, k, r, T1, V1, g1, rfl, hC, hR1, hfr, hfo1, hg⟩ := e_659
  have hM1 := zMo_keep hM (hfr o a2 (Ne.symm a4)) (fun q hq => hfr (ra q) (a3 q hq) (Ne.symm (a5 q hq)))
  refine k_istore Xc d_L_law_662 (by decide) (n := 664) rfl ?_
  refine k_aload_n Xc d_L_law_664 rfl rfl (n := 665) rfl ?_
  refine k_aload_n Xc d_L_law_665 rfl rfl (n := 666) rfl ?_
  refine k_iload Xc d_L_law_666 rfl (n := 668) rfl ?_
  refine k_iconst Xc d_L_law_668 (n := 669) rfl ?_
  refine k_iadd Xc d_L_law_669 (n := 670) rfl ?_
  refine k_sld Xc hX hbl hA1 d_L_law_670 (n := 671) rfl (by omega) (by omega) (by omega) ?_
  refine k_wV (na := 1) Xc (m_M_take l D G hM1 (zRel_hp hr) _ (zO_of _)) hM1.1 hM1.2.2.1 rfl wd_765 wd_762 wd_763 wd_764 wd_6 (by decide +kernel) ⟨by decide, by decide⟩ rfl rfl (Nat.le_of_ble_eq_true rfl) d_L_law_671 (n := 674) rfl ⟨by show cells + 1 ≤ 621125; omega, by show slots + 6 ≤ 7232728; omega⟩ (fun v_671 L_671 f_671 e_671 => ?_)
  obtain ⟨rfl, hF2, hx⟩ := e_671
  obtain ⟨bb, w2, h2, z2, k2, mn2, om2, R2, rfl, hM2, hkb, hk3, hr2⟩ := p_tak hr hC hx
  have hR2 := zRm_keep hR1 (fun q hq => hF2 (ad q) (Ne.symm (a2 q hq)) (fun k hk => Ne.symm (a3 k hk q hq)))
  have hfo2 := (hF2 ol a4 a5).trans hfo1
  refine k_istore Xc d_L_law_674 (by decide) (n := 676) rfl ?_
  refine k_aload_n Xc d_L_law_676 rfl rfl (n := 677) rfl ?_
  refine k_qV (na := 0) Xc (m_M_thrown l D G hM2) hM2.1 hM2.2.2.1 rfl wd_644 wd_641 wd_642 wd_643 wd_6 (by decide +kernel) ⟨by decide, by decide⟩ rfl rfl (Nat.le_of_ble_eq_true rfl) d_L_law_677 (n := 680) rfl ⟨by show cells + 1 ≤ 621125; omega, by show slots + 6 ≤ 7232728; omega⟩ (fun r_677 e_677 => ?_)
  subst e_677
  refine k_iload Xc d_L_law_680 rfl (n := 682) rfl ?_
  refine k_icmp_eq Xc d_L_law_682 (t := 687) (n := 685) rfl rfl (by omega) (by omega) (fun _ => ?_) (fun h_682 => absurd h_682 (by omega))
  refine k_iload Xc d_L_law_687 rfl (n := 689) rfl ?_
  refine k_if_ne Xc d_L_law_689 (t := 704) (n := 692) rfl rfl (by omega) (fun h_689 => ?_) (fun h_689 => ?_)
  · refine k_goto Xc d_L_law_704 (t := 814) rfl ?_
    exact k_loc (kk _ ⟨T1, V1, w2, h2, z2, k2, R2, _, mn2, om2, g1, hR2, hM2, hfo2, hr2⟩) rfl
  · refine k_aload_n Xc d_L_law_692 rfl rfl (n := 693) rfl ?_
    refine k_iconst Xc d_L_law_693 (n := 694) rfl ?_
    refine k_lald Xc d_L_law_694 (n := 695) rfl hol hfo2 ?_
    refine k_iload Xc d_L_law_695 rfl (n := 697) rfl ?_
    refine k_i2l Xc d_L_law_697 (n := 698) rfl ?_
    refine k_lcmp0 Xc d_L_law_698 (n := 699) rfl (by rw [hg (by omega), hkb (by omega)]) ?_
    refine k_if_eq Xc d_L_law_699 (t := 704) (n := 702) rfl rfl (by omega) (fun _ => ?_) (fun h_699 => absurd h_699 (by omega))
    refine k_goto Xc d_L_law_704 (t := 814) rfl ?_
    exact k_loc (kk _ ⟨T1, V1, w2, h2, z2, k2, R2, _, mn2, om2, g1, hR2, hM2, hfo2, hr2⟩) rfl
set_option maxRecDepth 100000 in
set_option maxHeartbeats 4000000 in
theorem o_part (Xc : zX p s m #[Value.ref b] meth c D G (lA s) c_L_law "LeatherRoomLaw" 7) (hlt : l.stackTraces = false) (hTh : zTh (lA s) s s.heap) (hX : va_X b N xs s s.heap) (hbl : b < s.heap.size) (hN : N ≤ 2560) {L : List Nat} {f : Nat → va_E} {ad : Nat → Nat} {ol o : Nat} {ra : Nat → Nat} (I : lI G L f ad ol o ra) (hap : lAp L ad ol o ra) {j : Int} (hj : 0 ≤ j ∧ j + 5 ≤ (N : Int)) {cells slots : Nat} (hcs : cells + 1 ≤ 621125 ∧ slots + 6 ≤ 7232728)
    (kk : ∀ f1 : Nat → va_E, lI G L f1 ad ol o ra → zG p l e room_1 s m #[Value.ref b] below meth c D (lA s) 7 (cells + 1) (slots + 6) Q 814 [(0, .ref b), (1, .ref (ad 0)), (2, .ref o), (3, .ref ol), (4, .int (zI j))] [] L f1) : zG p l e room_1 s m #[Value.ref b] below meth c D (lA s) 7 cells slots Q 720 [(0, .ref b), (1, .ref (ad 0)), (2, .ref o), (3, .ref ol), (4, .int (zI j))] [] L f := by
  have hA1 : ¬ lA s b := by show ¬ s.heap.size ≤ b; omega
  obtain ⟨hol, a1, a2, a3, a4, a5⟩ := hap
  obtain ⟨T, V, w, h, z9, k9, R, cd, mn, om, g, hR, hM, hfo, hr⟩ := I
  refine k_aload_n Xc d_L_law_720 rfl rfl (n := 721) rfl ?_
  refine k_aload_n Xc d_L_law_721 rfl rfl (n := 722) rfl ?_
  refine k_iload Xc d_L_law_722 rfl (n := 724) rfl ?_
  refine k_iconst Xc d_L_law_724 (n := 725) rfl ?_
  refine k_iadd Xc d_L_law_725 (n := 726) rfl ?_
  refine k_sld Xc hX hbl hA1 d_L_law_726 (n := 727) rfl (by omega) (by omega) (by omega) ?_
  refine k_aload_n Xc d_L_law_727 rfl rfl (n := 728) rfl ?_
  refine k_iload Xc d_L_law_728 rfl (n := 730) rfl ?_
  refine k_iconst Xc d_L_law_730 (n := 731) rfl ?_
  refine k_iadd Xc d_L_law_731 (n := 732) rfl ?_
  refine k_sld Xc hX hbl hA1 d_L_law_732 (n := 733) rfl (by omega) (by omega) (by omega) ?_
  refine k_aload_n Xc d_L_law_733 rfl rfl (n := 734) rfl ?_
  refine k_callSW (na := 4) Xc hTh (m_L_part l hlt D G hR z9 k9 (zRel_all hr) _ _ (zO_of _) (zO_of _) hol hfo a1) wd_538 wd_536 wd_537 wd_0 (by decide +kernel) ⟨by decide, by decide⟩ rfl rfl (Nat.le_of_ble_eq_true rfl) d_L_law_734 (n := 737) rfl ⟨by show _ + 1 ≤ 621125; omega, by show _ + 6 ≤ 7232728; omega⟩ (fun v_734 L_734 f_734 e_734 => ?_)
  obtain ⟨rfl, k, r, T1, V1, g1, rfl, hC, hR1, hfr, hfo1, hg⟩ := e_734
  have hM1 := zMo_keep hM (hfr o a2 (Ne.symm a4)) (fun q hq => hfr (ra q) (a3 q hq) (Ne.symm (a5 q hq)))
  refine k_istore Xc d_L_law_737 (by decide) (n := 739) rfl ?_
  refine k_aload_n Xc d_L_law_739 rfl rfl (n := 740) rfl ?_
  refine k_aload_n Xc d_L_law_740 rfl rfl (n := 741) rfl ?_
  refine k_iload Xc d_L_law_741 rfl (n := 743) rfl ?_
  refine k_iconst Xc d_L_law_743 (n := 744) rfl ?_
  refine k_iadd Xc d_L_law_744 (n := 745) rfl ?_
  refine k_sld Xc hX hbl hA1 d_L_law_745 (n := 746) rfl (by omega) (by omega) (by omega) ?_
  refine k_aload_n Xc d_L_law_746 rfl rfl (n := 747) rfl ?_
  refine k_iload Xc d_L_law_747 rfl (n := 749) rfl ?_
  refine k_iconst Xc d_L_law_749 (n := 750) rfl ?_
  refine k_iadd Xc d_L_law_750 (n := 751) rfl ?_
  refine k_sld Xc hX hbl hA1 d_L_law_751 (n := 752) rfl (by omega) (by omega) (by omega) ?_
  refine k_wV (na := 2) Xc (m_M_part l D G hM1 (zRel_hp hr) _ _ (zO_of _) (zO_of _)) hM1.1 hM1.2.2.1 rfl wd_777 wd_774 wd_775 wd_776 wd_6 (by decide +kernel) ⟨by decide, by decide⟩ rfl rfl (Nat.le_of_ble_eq_true rfl) d_L_law_752 (n := 755) rfl ⟨by show cells + 1 ≤ 621125; omega, by show slots + 6 ≤ 7232728; omega⟩ (fun v_752 L_752 f_752 e_752 => ?_)
  obtain ⟨rfl, hF2, hx⟩ := e_752
  obtain ⟨bb, w2, h2, z2, k2, mn2, om2, R2, rfl, hM2, hkb, hk3, hr2⟩ := p_prt hr hC hx
  have hR2 := zRm_keep hR1 (fun q hq => hF2 (ad q) (Ne.symm (a2 q hq)) (fun k hk => Ne.symm (a3 k hk q hq)))
  have hfo2 := (hF2 ol a4 a5).trans hfo1
  refine k_istore Xc d_L_law_755 (by decide) (n := 757) rfl ?_
  refine k_aload_n Xc d_L_law_757 rfl rfl (n := 758) rfl ?_
  refine k_qV (na := 0) Xc (m_M_thrown l D G hM2) hM2.1 hM2.2.2.1 rfl wd_644 wd_641 wd_642 wd_643 wd_6 (by decide +kernel) ⟨by decide, by decide⟩ rfl rfl (Nat.le_of_ble_eq_true rfl) d_L_law_758 (n := 761) rfl ⟨by show cells + 1 ≤ 621125; omega, by show slots + 6 ≤ 7232728; omega⟩ (fun r_758 e_758 => ?_)
  subst e_758
  refine k_iload Xc d_L_law_761 rfl (n := 763) rfl ?_
  refine k_icmp_eq Xc d_L_law_763 (t := 768) (n := 766) rfl rfl (by omega) (by omega) (fun _ => ?_) (fun h_763 => absurd h_763 (by omega))
  refine k_iload Xc d_L_law_768 rfl (n := 770) rfl ?_
  refine k_if_ne Xc d_L_law_770 (t := 785) (n := 773) rfl rfl (by omega) (fun h_770 => ?_) (fun h_770 => ?_)
  · refine k_goto Xc d_L_law_785 (t := 814) rfl ?_
    exact k_loc (kk _ ⟨T1, V1, w2, h2, z2, k2, R2, _, mn2, om2, g1, hR2, hM2, hfo2, hr2⟩) rfl
  · refine k_aload_n Xc d_L_law_773 rfl rfl (n := 774) rfl ?_
    refine k_iconst Xc d_L_law_774 (n := 775) rfl ?_
    refine k_lald Xc d_L_law_775 (n := 776) rfl hol hfo2 ?_
    refine k_iload Xc d_L_law_776 rfl (n := 778) rfl ?_
    refine k_i2l Xc d_L_law_778 (n := 779) rfl ?_
    refine k_lcmp0 Xc d_L_law_779 (n := 780) rfl (by rw [hg (by omega), hkb (by omega)]) ?_
    refine k_if_eq Xc d_L_law_780 (t := 785) (n := 783) rfl rfl (by omega) (fun _ => ?_) (fun h_780 => absurd h_780 (by omega))
    refine k_goto Xc d_L_law_785 (t := 814) rfl ?_
    exact k_loc (kk _ ⟨T1, V1, w2, h2, z2, k2, R2, _, mn2, om2, g1, hR2, hM2, hfo2, hr2⟩) rfl
set_option maxRecDepth 100000 in
set_option maxHeartbeats 4000000 in
theorem o_strip (Xc : zX p s m #[Value.ref b] meth c D G (lA s) c_L_law "LeatherRoomLaw" 7) (hlt : l.stackTraces = false) (hTh : zTh (lA s) s s.heap) (hX : va_X b N xs s s.heap) (hbl : b < s.heap.size) (hN : N ≤ 2560) {L : List Nat} {f : Nat → va_E} {ad : Nat → Nat} {ol o : Nat} {ra : Nat → Nat} (I : lI G L f ad ol o ra) (hap : lAp L ad ol o ra) {j : Int} (hj : 0 ≤ j ∧ j + 5 ≤ (N : Int)) {cells slots : Nat} (hcs : cells + 1 ≤ 621125 ∧ slots + 6 ≤ 7232728)
    (kk : ∀ f1 : Nat → va_E, lI G L f1 ad ol o ra → zG p l e room_1 s m #[Value.ref b] below meth c D (lA s) 7 (cells + 1) (slots + 6) Q 814 [(0, .ref b), (1, .ref (ad 0)), (2, .ref o), (3, .ref ol), (4, .int (zI j))] [] L f1) : zG p l e room_1 s m #[Value.ref b] below meth c D (lA s) 7 cells slots Q 707 [(0, .ref b), (1, .ref (ad 0)), (2, .ref o), (3, .ref ol), (4, .int (zI j))] [] L f := by
  have hA1 : ¬ lA s b := by show ¬ s.heap.size ≤ b; omega
  obtain ⟨hol, a1, a2, a3, a4, a5⟩ := hap
  obtain ⟨T, V, w, h, z9, k9, R, cd, mn, om, g, hR, hM, hfo, hr⟩ := I
  refine k_aload_n Xc d_L_law_707 rfl rfl (n := 708) rfl ?_
  refine k_wV (na := 0) Xc (m_R_strip l D G hR) hR.2.2.2.2.2.1.1 hR.2.2.2.2.2.1.2 rfl wd_165 wd_162 wd_163 wd_164 wd_1 (by decide +kernel) ⟨by decide, by decide⟩ rfl rfl (Nat.le_of_ble_eq_true rfl) d_L_law_708 (n := 711) rfl ⟨by show _ ≤ 621125; omega, by show _ ≤ 7232728; omega⟩ (fun v_708 L_708 f_708 e_708 => ?_)
  obtain ⟨rfl, hfr, rfl, V1, v1, v2, v3, hR1⟩ := e_708
  have hM1 := zMo_keep hM (hfr o a2) (fun q hq => hfr (ra q) (a3 q hq))
  have hfo1 := (hfr ol a1).trans hfo
  refine k_aload_n Xc d_L_law_711 rfl rfl (n := 712) rfl ?_
  refine k_wV (na := 0) Xc (m_M_strip l D G hM1 (zRel_hp hr)) hM1.1 hM1.2.2.1 rfl wd_773 wd_770 wd_771 wd_772 wd_6 (by decide +kernel) ⟨by decide, by decide⟩ rfl rfl (Nat.le_of_ble_eq_true rfl) d_L_law_712 (n := 715) rfl ⟨by show _ ≤ 621125; omega, by show _ ≤ 7232728; omega⟩ (fun v_712 L_712 f_712 e_712 => ?_)
  obtain ⟨rfl, hF2, rfl, R2, r1, r2, hM2⟩ := e_712
  have hR2 := zRm_keep hR1 (fun q hq => hF2 (ad q) (Ne.symm (a2 q hq)) (fun k hk => Ne.symm (a3 k hk q hq)))
  have hfo2 := (hF2 ol a4 a5).trans hfo1
  refine k_eqs Xc d_L_law_715 (t := 814) rfl hr.2.2.2.2.2 ?_
  exact k_wid (by omega) (by omega) (k_loc (kk _ ⟨T, V1, w, h, z9, k9, R2, _, _, _, g, hR2, hM2, hfo2, p_str hr v1 v2 v3 r1 r2⟩) rfl)
set_option maxRecDepth 100000 in
set_option maxHeartbeats 4000000 in
theorem o_parts (Xc : zX p s m #[Value.ref b] meth c D G (lA s) c_L_law "LeatherRoomLaw" 7) (hlt : l.stackTraces = false) (hTh : zTh (lA s) s s.heap) (hX : va_X b N xs s s.heap) (hbl : b < s.heap.size) (hN : N ≤ 2560) {L : List Nat} {f : Nat → va_E} {ad : Nat → Nat} {ol o : Nat} {ra : Nat → Nat} (I : lI G L f ad ol o ra) (hap : lAp L ad ol o ra) {j : Int} (hj : 0 ≤ j ∧ j + 5 ≤ (N : Int)) {cells slots : Nat} (hcs : cells + 1 ≤ 621125 ∧ slots + 6 ≤ 7232728)
    (kk : ∀ f1 : Nat → va_E, lI G L f1 ad ol o ra → zG p l e room_1 s m #[Value.ref b] below meth c D (lA s) 7 (cells + 1) (slots + 6) Q 814 [(0, .ref b), (1, .ref (ad 0)), (2, .ref o), (3, .ref ol), (4, .int (zI j))] [] L f1) : zG p l e room_1 s m #[Value.ref b] below meth c D (lA s) 7 cells slots Q 788 [(0, .ref b), (1, .ref (ad 0)), (2, .ref o), (3, .ref ol), (4, .int (zI j))] [] L f := by
  have hA1 : ¬ lA s b := by show ¬ s.heap.size ≤ b; omega
  obtain ⟨hol, a1, a2, a3, a4, a5⟩ := hap
  obtain ⟨T, V, w, h, z9, k9, R, cd, mn, om, g, hR, hM, hfo, hr⟩ := I
  refine k_aload_n Xc d_L_law_788 rfl rfl (n := 789) rfl ?_
  refine k_qV (na := 0) Xc (m_R_parts l D G hR) hR.2.2.2.2.2.1.1 hR.2.2.2.2.2.1.2 rfl wd_169 wd_166 wd_167 wd_168 wd_1 (by decide +kernel) ⟨by decide, by decide⟩ rfl rfl (Nat.le_of_ble_eq_true rfl) d_L_law_789 (n := 792) rfl ⟨by show _ ≤ 621125; omega, by show _ ≤ 7232728; omega⟩ (fun r_789 e_789 => ?_)
  subst e_789
  refine k_aload_n Xc d_L_law_792 rfl rfl (n := 793) rfl ?_
  refine k_wV (na := 0) Xc (m_M_parts l D G hM (zRel_hp hr)) hM.1 hM.2.2.1 rfl wd_781 wd_778 wd_779 wd_780 wd_6 (by decide +kernel) ⟨by decide, by decide⟩ rfl rfl (Nat.le_of_ble_eq_true rfl) d_L_law_793 (n := 796) rfl ⟨by show _ ≤ 621125; omega, by show _ ≤ 7232728; omega⟩ (fun v_793 L_793 f_793 e_793 => ?_)
  obtain ⟨rfl, hF2, rfl, hM2⟩ := e_793
  have hR2 := zRm_keep hR (fun q hq => hF2 (ad q) (Ne.symm (a2 q hq)) (fun k hk => Ne.symm (a3 k hk q hq)))
  have hfo2 := (hF2 ol a4 a5).trans hfo
  refine k_eqs Xc d_L_law_796 (t := 814) rfl hr.2.2.2.2.2 ?_
  exact k_wid (by omega) (by omega) (k_loc (kk _ ⟨T, V, w, h, z9, k9, R, _, _, _, g, hR2, hM2, hfo2, hr⟩) rfl)
set_option maxRecDepth 100000 in
set_option maxHeartbeats 4000000 in
theorem o_free (Xc : zX p s m #[Value.ref b] meth c D G (lA s) c_L_law "LeatherRoomLaw" 7) (hlt : l.stackTraces = false) (hTh : zTh (lA s) s s.heap) (hX : va_X b N xs s s.heap) (hbl : b < s.heap.size) (hN : N ≤ 2560) {L : List Nat} {f : Nat → va_E} {ad : Nat → Nat} {ol o : Nat} {ra : Nat → Nat} (I : lI G L f ad ol o ra) (hap : lAp L ad ol o ra) {j : Int} (hj : 0 ≤ j ∧ j + 5 ≤ (N : Int)) {cells slots : Nat} (hcs : cells + 1 ≤ 621125 ∧ slots + 6 ≤ 7232728)
    (kk : ∀ f1 : Nat → va_E, lI G L f1 ad ol o ra → zG p l e room_1 s m #[Value.ref b] below meth c D (lA s) 7 (cells + 1) (slots + 6) Q 814 [(0, .ref b), (1, .ref (ad 0)), (2, .ref o), (3, .ref ol), (4, .int (zI j))] [] L f1) : zG p l e room_1 s m #[Value.ref b] below meth c D (lA s) 7 cells slots Q 801 [(0, .ref b), (1, .ref (ad 0)), (2, .ref o), (3, .ref ol), (4, .int (zI j))] [] L f := by
  have hA1 : ¬ lA s b := by show ¬ s.heap.size ≤ b; omega
  obtain ⟨hol, a1, a2, a3, a4, a5⟩ := hap
  obtain ⟨T, V, w, h, z9, k9, R, cd, mn, om, g, hR, hM, hfo, hr⟩ := I
  refine k_aload_n Xc d_L_law_801 rfl rfl (n := 802) rfl ?_
  refine k_qV (na := 0) Xc (m_R_free l D G hR (zRel_all hr).2.1.2.2.2.2.2.2.2.1 (zRel_all hr).2.1.1 (zRel_all hr).2.1.2.2.2.2.2.2.2.2) hR.2.2.2.2.2.1.1 hR.2.2.2.2.2.1.2 rfl wd_173 wd_170 wd_171 wd_172 wd_1 (by decide +kernel) ⟨by decide, by decide⟩ rfl rfl (Nat.le_of_ble_eq_true rfl) d_L_law_802 (n := 805) rfl ⟨by show _ ≤ 621125; omega, by show _ ≤ 7232728; omega⟩ (fun r_802 e_802 => ?_)
  subst e_802
  refine k_aload_n Xc d_L_law_805 rfl rfl (n := 806) rfl ?_
  refine k_wV (na := 0) Xc (m_M_free l D G hM (zRel_hB hr) (zRel_mI hr).2.2.2.2.2.2) hM.1 hM.2.2.1 rfl wd_785 wd_782 wd_783 wd_784 wd_6 (by decide +kernel) ⟨by decide, by decide⟩ rfl rfl (Nat.le_of_ble_eq_true rfl) d_L_law_806 (n := 809) rfl ⟨by show _ ≤ 621125; omega, by show _ ≤ 7232728; omega⟩ (fun v_806 L_806 f_806 e_806 => ?_)
  obtain ⟨rfl, hF2, rfl, hM2⟩ := e_806
  have hR2 := zRm_keep hR (fun q hq => hF2 (ad q) (Ne.symm (a2 q hq)) (fun k hk => Ne.symm (a3 k hk q hq)))
  have hfo2 := (hF2 ol a4 a5).trans hfo
  refine k_eqs Xc d_L_law_809 (t := 814) rfl (p_fre hr 12 (Nat.le_refl _)) ?_
  exact k_wid (by omega) (by omega) (k_loc (kk _ ⟨T, V, w, h, z9, k9, R, _, _, _, g, hR2, hM2, hfo2, hr⟩) rfl)
end ZOP
