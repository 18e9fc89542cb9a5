-- MODEL: parted, overlaps, the middle
def mv (X Y : Int → Int) (dx dy : Int) (j : Nat) : Int := X (j : Int) * dx + Y (j : Int) * dy
theorem mv_bd {n : Nat} {X Y : Int → Int} (h : sB n X Y) {j : Nat} (hj : j < n) {dx dy : Int} (h1 : -200 ≤ dx) (h2 : dx ≤ 200) (h3 : -200 ≤ dy) (h4 : dy ≤ 200) : -40000 ≤ mv X Y dx dy j ∧ mv X Y dx dy j ≤ 40000 := by
  have a := h.2 j hj
  have u := mul_bd (a := X (j : Int)) (b := dx) (A := 100) (B := 200) (by omega) (by omega) (by omega) (by omega)
  have v := mul_bd (a := Y (j : Int)) (b := dy) (A := 100) (B := 200) (by omega) (by omega) (by omega) (by omega)
  unfold mv
  omega
theorem mv_all {n : Nat} {X Y : Int → Int} (h : sB n X Y) {dx dy : Int} (h1 : -200 ≤ dx) (h2 : dx ≤ 200) (h3 : -200 ≤ dy) (h4 : dy ≤ 200) : ∀ j : Nat, j < n → -40000 ≤ mv X Y dx dy j ∧ mv X Y dx dy j ≤ 40000 := fun _ hj => mv_bd h hj h1 h2 h3 h4
def lo_ok (v : Nat → Int) (k : Nat) (low : Int) : Prop := (k = 0 ∧ low = 1000000) ∨ (0 < k ∧ (∀ j, j < k → low ≤ v j) ∧ ∃ j, j < k ∧ low = v j)
def hi_ok (v : Nat → Int) (k : Nat) (high : Int) : Prop := (k = 0 ∧ high = -1000000) ∨ (0 < k ∧ (∀ j, j < k → v j ≤ high) ∧ ∃ j, j < k ∧ high = v j)
theorem lo_bd {v : Nat → Int} {k : Nat} {low : Int} (h : lo_ok v k low) (hv : ∀ j, j < k → -40000 ≤ v j ∧ v j ≤ 40000) : -1000000 ≤ low ∧ low ≤ 1000000 := by
  rcases h with ⟨-, h⟩ | ⟨-, -, j, hj, h⟩
  · omega
  · have := hv j hj; omega
theorem hi_bd {v : Nat → Int} {k : Nat} {high : Int} (h : hi_ok v k high) (hv : ∀ j, j < k → -40000 ≤ v j ∧ v j ≤ 40000) : -1000000 ≤ high ∧ high ≤ 1000000 := by
  rcases h with ⟨-, h⟩ | ⟨-, -, j, hj, h⟩
  · omega
  · have := hv j hj; omega
theorem lo_new {v : Nat → Int} {k : Nat} {low w : Int} (h : lo_ok v k low) (hw : w = v k) (hlt : w < low) : lo_ok v (k + 1) w := by
  refine Or.inr ⟨by omega, fun j hj => ?_, k, by omega, hw⟩
  rcases Nat.lt_or_ge j k with q | q
  · rcases h with ⟨h, -⟩ | ⟨-, h, -⟩
    · omega
    · have := h j q; omega
  · have e : j = k := by omega
    subst e; omega
theorem lo_old {v : Nat → Int} {k : Nat} {low w : Int} (h : lo_ok v k low) (hw : w = v k) (hb : w ≤ 999999) (hge : ¬ w < low) : lo_ok v (k + 1) low := by
  rcases h with ⟨-, h⟩ | ⟨h0, h, j0, hj0, e0⟩
  · omega
  · refine Or.inr ⟨by omega, fun j hj => ?_, j0, by omega, e0⟩
    rcases Nat.lt_or_ge j k with q | q
    · exact h j q
    · have e : j = k := by omega
      subst e; omega
theorem hi_new {v : Nat → Int} {k : Nat} {high w : Int} (h : hi_ok v k high) (hw : w = v k) (hlt : high < w) : hi_ok v (k + 1) w := by
  refine Or.inr ⟨by omega, fun j hj => ?_, k, by omega, hw⟩
  rcases Nat.lt_or_ge j k with q | q
  · rcases h with ⟨h, -⟩ | ⟨-, h, -⟩
    · omega
    · have := h j q; omega
  · have e : j = k := by omega
    subst e; omega
theorem hi_old {v : Nat → Int} {k : Nat} {high w : Int} (h : hi_ok v k high) (hw : w = v k) (hb : -999999 ≤ w) (hge : ¬ high < w) : hi_ok v (k + 1) high := by
  rcases h with ⟨-, h⟩ | ⟨h0, h, j0, hj0, e0⟩
  · omega
  · refine Or.inr ⟨by omega, fun j hj => ?_, j0, by omega, e0⟩
    rcases Nat.lt_or_ge j k with q | q
    · exact h j q
    · have e : j = k := by omega
      subst e; omega
theorem mv_d (X Y : Int → Int) (dx dy : Int) (j : Nat) : ge_d (dx, dy) (sP X Y j) = mv X Y dx dy j := by
  unfold ge_d mv sP; dsimp only; rw [Int.mul_comm dx, Int.mul_comm dy]
theorem pt_iff {X Y U V : Int → Int} {dx dy : Int} {a b : Nat} {low high lo2 hi2 : Int} (h1 : lo_ok (mv X Y dx dy) a low) (h2 : hi_ok (mv X Y dx dy) a high) (h3 : lo_ok (mv U V dx dy) b lo2) (h4 : hi_ok (mv U V dx dy) b hi2) (ha : 1 ≤ a) (hb : 1 ≤ b) :
    (high ≤ lo2 ∨ hi2 ≤ low) ↔ ge_pt a (sP X Y) b (sP U V) (dx, dy) := by
  rcases h1 with ⟨h, -⟩ | ⟨-, p1, i1, q1, e1⟩
  · omega
  rcases h2 with ⟨h, -⟩ | ⟨-, p2, i2, q2, e2⟩
  · omega
  rcases h3 with ⟨h, -⟩ | ⟨-, p3, i3, q3, e3⟩
  · omega
  rcases h4 with ⟨h, -⟩ | ⟨-, p4, i4, q4, e4⟩
  · omega
  unfold ge_pt
  constructor
  · rintro (h | h)
    · refine Or.inl fun i k hi hk => ?_
      rw [mv_d, mv_d]
      have := p2 i hi; have := p3 k hk; omega
    · refine Or.inr fun i k hi hk => ?_
      rw [mv_d, mv_d]
      have := p4 k hk; have := p1 i hi; omega
  · rintro (h | h)
    · have z := h i2 i3 q2 q3
      rw [mv_d, mv_d] at z
      omega
    · have z := h i1 i4 q1 q4
      rw [mv_d, mv_d] at z
      omega
/-- the parity, by the reference's question -/
noncomputable def ge_odM (n : Nat) (V : Nat → Int × Int) (m : Int × Int) : Nat → Prop
  | 0 => False
  | k + 1 => ¬ (ge_odM n V m k ↔ ge_hitM m (V k) (V (ge_nx n k)))
theorem odM_flip {n : Nat} {V : Nat → Int × Int} {m : Int × Int} {i : Nat} {o o2 : Int} (h : zB (ge_odM n V m i) o) (hh : ge_hitM m (V i) (V (ge_nx n i))) (e : o2 = 1 - o) : zB (ge_odM n V m (i + 1)) o2 := by
  unfold zB at *
  simp only [ge_odM]
  rcases h with ⟨h, q⟩ | ⟨h, q⟩
  · exact Or.inr ⟨fun z => z ⟨fun _ => hh, fun _ => h⟩, by omega⟩
  · exact Or.inl ⟨fun z => h (z.mpr hh), by omega⟩
theorem odM_keep {n : Nat} {V : Nat → Int × Int} {m : Int × Int} {i : Nat} {o : Int} (h : zB (ge_odM n V m i) o) (hh : ¬ ge_hitM m (V i) (V (ge_nx n i))) : zB (ge_odM n V m (i + 1)) o := by
  unfold zB at *
  simp only [ge_odM]
  rcases h with ⟨h, q⟩ | ⟨h, q⟩
  · exact Or.inl ⟨fun z => hh (z.mp h), q⟩
  · exact Or.inr ⟨fun z => z ⟨fun w => absurd w h, fun w => absurd w hh⟩, q⟩
theorem hitM3 {X Y : Int → Int} {i j : Nat} {tx ty w : Int} (h : w = (3 * X (j : Int) - 3 * X (i : Int)) * (ty - 3 * Y (i : Int)) - (3 * Y (j : Int) - 3 * Y (i : Int)) * (tx - 3 * X (i : Int))) :
    ge_hitM (tx, ty) (ge_3 (sP X Y) i) (ge_3 (sP X Y) j) ↔ (¬ (ty < 3 * Y (i : Int) ↔ ty < 3 * Y (j : Int)) ∧ (0 < w ↔ 3 * Y (i : Int) < 3 * Y (j : Int))) := by
  unfold ge_hitM ge_3 sP ge_cr
  dsimp only
  rw [← h]
theorem hitM_no {X Y : Int → Int} {i j : Nat} {tx ty : Int} (h : ty < 3 * Y (i : Int) ↔ ty < 3 * Y (j : Int)) : ¬ ge_hitM (tx, ty) (ge_3 (sP X Y) i) (ge_3 (sP X Y) j) := fun q => q.1 h
set_option maxRecDepth 100000 in
set_option maxHeartbeats 4000000 in
/-- a direction parts the two -/
theorem m_M_isParted (l : Launch) (D : va_G) (G : Nat → ClassId) {L : List Nat} {f : Nat → va_E} {o : Nat} {ra : Nat → Nat} {cd wt hc zn kn : Int} {a b : Nat} {R : Nat → Int → Int} (hM : zMo G L f o ra cd wt hc zn kn (a : Int) (b : Int) R) (hA : sB a (R 19) (R 20)) (hB : sB b (R 21) (R 22)) (ha : 1 ≤ a) (ha6 : a ≤ 6) (hb : 1 ≤ b) (dx dy : Int) (hx1 : -200 ≤ dx) (hx2 : dx ≤ 200) (hy1 : -200 ≤ dy) (hy2 : dy ≤ 200) : zM l D G y_M_isParted (.code y_M_isParted c_M_isParted 9 (some .boolean) :: BG) (zR0 0 0) [.ref o, .int (zI dx), .int (zI dy)] L f (zA L f (fun r => zB (ge_pt a (sP (R 19) (R 20)) b (sP (R 21) (R 22)) (dx, dy)) r)) := by
  refine zM.of (by decide) (Nat.le_of_ble_eq_true rfl) rfl (fun p e s m args below meth c A Xc hr hnm => ?_)
  have hb12 := hB.1
  have second : ∀ (low high : Int), lo_ok (mv (R 19) (R 20) dx dy) a low → hi_ok (mv (R 19) (R 20) dx dy) a high → ∀ (d k : Nat) (lo2 hi2 : Int), b < k + d → k ≤ b → lo_ok (mv (R 21) (R 22) dx dy) k lo2 → hi_ok (mv (R 21) (R 22) dx dy) k hi2 → zG p l e (zR0 0 0) s m args below meth c D A 9 0 0 (MQ below (zE D A (zA L f (fun r => zB (ge_pt a (sP (R 19) (R 20)) b (sP (R 21) (R 22)) (dx, dy)) r))) args s (zR0 0 0).cells (zR0 0 0).slots A) 86 [(0, .ref o), (1, .int (zI dx)), (2, .int (zI dy)), (3, .int (zI low)), (4, .int (zI high)), (5, .int (zI lo2)), (6, .int (zI hi2)), (7, .int (zI (k : Int)))] [] L f := by
    intro low high hlo hhi d
    have y1 := lo_bd hlo (mv_all hA hx1 hx2 hy1 hy2)
    have y2 := hi_bd hhi (mv_all hA hx1 hx2 hy1 hy2)
    induction d with
    | zero => intro k lo2 hi2 h1 h2; omega
    | succ d ih =>
      intro k lo2 hi2 h1 h2 hl hh
      have y3 := lo_bd hl (fun j hj => mv_all hB hx1 hx2 hy1 hy2 j (by omega))
      have y4 := hi_bd hh (fun j hj => mv_all hB hx1 hx2 hy1 hy2 j (by omega))
      refine k_iload Xc d_M_isParted_86 rfl (n := 88) rfl ?_
      refine k_aload_n Xc d_M_isParted_88 rfl rfl (n := 89) rfl ?_
      refine k_get Xc u_M rfl 27 (by decide) wd_577 rfl d_M_isParted_89 (n := 92) rfl hM.1 hM.2.2.1 rfl ?_
      refine k_icmp_ge Xc d_M_isParted_92 (t := 154) (n := 95) rfl rfl (by omega) (by omega) (fun h_92 => ?_) (fun h_92 => ?_)
      · refine k_iload Xc d_M_isParted_154 rfl (n := 156) rfl ?_
        refine k_iload Xc d_M_isParted_156 rfl (n := 158) rfl ?_
        refine k_icmp_le Xc d_M_isParted_158 (t := 167) (n := 161) rfl rfl (by omega) (by omega) (fun h_158 => ?_) (fun h_158 => ?_)
        · refine k_iconst Xc d_M_isParted_167 (n := 168) rfl ?_
          refine k_goto Xc d_M_isParted_168 (t := 172) rfl ?_
          refine k_iret Xc d_M_isParted_172 hr rfl (Nat.le_refl _) (Nat.le_refl _) ⟨_, rfl, ?_, rfl, rfl⟩
          have ek : k = b := by omega
          subst ek
          have pt := pt_iff hlo hhi hl hh (by omega) (by omega)
          exact Or.inl ⟨pt.mp (by omega), rfl⟩
        · refine k_iload Xc d_M_isParted_161 rfl (n := 163) rfl ?_
          refine k_iload_n Xc d_M_isParted_163 rfl rfl (n := 164) rfl ?_
          refine k_icmp_gt Xc d_M_isParted_164 (t := 171) (n := 167) rfl rfl (by omega) (by omega) (fun h_164 => ?_) (fun h_164 => ?_)
          · refine k_iconst Xc d_M_isParted_171 (n := 172) rfl ?_
            refine k_iret Xc d_M_isParted_172 hr rfl (Nat.le_refl _) (Nat.le_refl _) ⟨_, rfl, ?_, rfl, rfl⟩
            have ek : k = b := by omega
            subst ek
            have pt := pt_iff hlo hhi hl hh (by omega) (by omega)
            exact Or.inr ⟨fun q => by have := pt.mpr q; omega, rfl⟩
          · refine k_iconst Xc d_M_isParted_167 (n := 168) rfl ?_
            refine k_goto Xc d_M_isParted_168 (t := 172) rfl ?_
            refine k_iret Xc d_M_isParted_172 hr rfl (Nat.le_refl _) (Nat.le_refl _) ⟨_, rfl, ?_, rfl, rfl⟩
            have ek : k = b := by omega
            subst ek
            have pt := pt_iff hlo hhi hl hh (by omega) (by omega)
            exact Or.inl ⟨pt.mp (by omega), rfl⟩
      · refine k_aload_n Xc d_M_isParted_95 rfl rfl (n := 96) rfl ?_
        refine k_get Xc u_M rfl 28 (by decide) wd_578 rfl d_M_isParted_96 (n := 99) rfl hM.1 hM.2.2.1 rfl ?_
        refine k_iload Xc d_M_isParted_99 rfl (n := 101) rfl ?_
        refine k_iald Xc d_M_isParted_101 (n := 102) rfl (hM.2.1 21 (by decide)) (mr_21 hM) (by omega) (by omega) (by decide) ?_
        refine k_iload_n Xc d_M_isParted_102 rfl rfl (n := 103) rfl ?_
        refine k_imul Xc d_M_isParted_103 (n := 104) rfl ?_
        refine k_aload_n Xc d_M_isParted_104 rfl rfl (n := 105) rfl ?_
        refine k_get Xc u_M rfl 29 (by decide) wd_579 rfl d_M_isParted_105 (n := 108) rfl hM.1 hM.2.2.1 rfl ?_
        refine k_iload Xc d_M_isParted_108 rfl (n := 110) rfl ?_
        refine k_iald Xc d_M_isParted_110 (n := 111) rfl (hM.2.1 22 (by decide)) (mr_22 hM) (by omega) (by omega) (by decide) ?_
        refine k_iload_n Xc d_M_isParted_111 rfl rfl (n := 112) rfl ?_
        refine k_imul Xc d_M_isParted_112 (n := 113) rfl ?_
        refine k_iadd Xc d_M_isParted_113 (n := 114) rfl ?_
        refine k_top (fun w hw => ?_)
        have w1 := mv_bd hB (j := k) (by omega) hx1 hx2 hy1 hy2
        have hw : w = mv _ _ dx dy k := hw
        rw [← hw] at w1
        refine k_istore Xc d_M_isParted_114 (by decide) (n := 116) rfl ?_
        refine k_iload Xc d_M_isParted_116 rfl (n := 118) rfl ?_
        refine k_iload Xc d_M_isParted_118 rfl (n := 120) rfl ?_
        refine k_icmp_ge Xc d_M_isParted_120 (t := 128) (n := 123) rfl rfl (by omega) (by omega) (fun h_120 => ?_) (fun h_120 => ?_)
        · refine k_iload Xc d_M_isParted_128 rfl (n := 130) rfl ?_
          refine k_istore Xc d_M_isParted_130 (by decide) (n := 132) rfl ?_
          refine k_iload Xc d_M_isParted_132 rfl (n := 134) rfl ?_
          refine k_iload Xc d_M_isParted_134 rfl (n := 136) rfl ?_
          refine k_icmp_le Xc d_M_isParted_136 (t := 144) (n := 139) rfl rfl (by omega) (by omega) (fun h_136 => ?_) (fun h_136 => ?_)
          · refine k_iload Xc d_M_isParted_144 rfl (n := 146) rfl ?_
            refine k_istore Xc d_M_isParted_146 (by decide) (n := 148) rfl ?_
            refine k_iinc Xc d_M_isParted_148 rfl (by decide) (n := 151) rfl ?_
            refine k_goto Xc d_M_isParted_151 (t := 86) rfl ?_
            exact k_loc (ih (k + 1) _ _ (by omega) (by omega) (by first | exact lo_new hl hw (by omega) | exact lo_old hl hw (by omega) (by omega)) (by first | exact hi_new hh hw (by omega) | exact hi_old hh hw (by omega) (by omega))) rfl
          · refine k_iload Xc d_M_isParted_139 rfl (n := 141) rfl ?_
            refine k_goto Xc d_M_isParted_141 (t := 146) rfl ?_
            refine k_istore Xc d_M_isParted_146 (by decide) (n := 148) rfl ?_
            refine k_iinc Xc d_M_isParted_148 rfl (by decide) (n := 151) rfl ?_
            refine k_goto Xc d_M_isParted_151 (t := 86) rfl ?_
            exact k_loc (ih (k + 1) _ _ (by omega) (by omega) (by first | exact lo_new hl hw (by omega) | exact lo_old hl hw (by omega) (by omega)) (by first | exact hi_new hh hw (by omega) | exact hi_old hh hw (by omega) (by omega))) rfl
        · refine k_iload Xc d_M_isParted_123 rfl (n := 125) rfl ?_
          refine k_goto Xc d_M_isParted_125 (t := 130) rfl ?_
          refine k_istore Xc d_M_isParted_130 (by decide) (n := 132) rfl ?_
          refine k_iload Xc d_M_isParted_132 rfl (n := 134) rfl ?_
          refine k_iload Xc d_M_isParted_134 rfl (n := 136) rfl ?_
          refine k_icmp_le Xc d_M_isParted_136 (t := 144) (n := 139) rfl rfl (by omega) (by omega) (fun h_136 => ?_) (fun h_136 => ?_)
          · refine k_iload Xc d_M_isParted_144 rfl (n := 146) rfl ?_
            refine k_istore Xc d_M_isParted_146 (by decide) (n := 148) rfl ?_
            refine k_iinc Xc d_M_isParted_148 rfl (by decide) (n := 151) rfl ?_
            refine k_goto Xc d_M_isParted_151 (t := 86) rfl ?_
            exact k_loc (ih (k + 1) _ _ (by omega) (by omega) (by first | exact lo_new hl hw (by omega) | exact lo_old hl hw (by omega) (by omega)) (by first | exact hi_new hh hw (by omega) | exact hi_old hh hw (by omega) (by omega))) rfl
          · refine k_iload Xc d_M_isParted_139 rfl (n := 141) rfl ?_
            refine k_goto Xc d_M_isParted_141 (t := 146) rfl ?_
            refine k_istore Xc d_M_isParted_146 (by decide) (n := 148) rfl ?_
            refine k_iinc Xc d_M_isParted_148 rfl (by decide) (n := 151) rfl ?_
            refine k_goto Xc d_M_isParted_151 (t := 86) rfl ?_
            exact k_loc (ih (k + 1) _ _ (by omega) (by omega) (by first | exact lo_new hl hw (by omega) | exact lo_old hl hw (by omega) (by omega)) (by first | exact hi_new hh hw (by omega) | exact hi_old hh hw (by omega) (by omega))) rfl
  have first : ∀ (d k : Nat) (low high : Int), a < k + d → k ≤ a → lo_ok (mv (R 19) (R 20) dx dy) k low → hi_ok (mv (R 19) (R 20) dx dy) k high → zG p l e (zR0 0 0) s m args below meth c D A 9 0 0 (MQ below (zE D A (zA L f (fun r => zB (ge_pt a (sP (R 19) (R 20)) b (sP (R 21) (R 22)) (dx, dy)) r))) args s (zR0 0 0).cells (zR0 0 0).slots A) 10 [(0, .ref o), (1, .int (zI dx)), (2, .int (zI dy)), (3, .int (zI low)), (4, .int (zI high)), (5, .int (zI (k : Int)))] [] L f := by
    intro d
    induction d with
    | zero => intro k low high h1 h2; omega
    | succ d ih =>
      intro k low high h1 h2 hl hh
      have y3 := lo_bd hl (fun j hj => mv_all hA hx1 hx2 hy1 hy2 j (by omega))
      have y4 := hi_bd hh (fun j hj => mv_all hA hx1 hx2 hy1 hy2 j (by omega))
      refine k_iload Xc d_M_isParted_10 rfl (n := 12) rfl ?_
      refine k_aload_n Xc d_M_isParted_12 rfl rfl (n := 13) rfl ?_
      refine k_get Xc u_M rfl 24 (by decide) wd_574 rfl d_M_isParted_13 (n := 16) rfl hM.1 hM.2.2.1 rfl ?_
      refine k_icmp_ge Xc d_M_isParted_16 (t := 75) (n := 19) rfl rfl (by omega) (by omega) (fun h_16 => ?_) (fun h_16 => ?_)
      · refine k_ldc Xc wd_728 (z := 1000000) (by decide) d_M_isParted_75 (n := 77) rfl ?_
        refine k_istore Xc d_M_isParted_77 (by decide) (n := 79) rfl ?_
        refine k_ldc Xc wd_729 (z := (-1000000)) (by decide) d_M_isParted_79 (n := 81) rfl ?_
        refine k_istore Xc d_M_isParted_81 (by decide) (n := 83) rfl ?_
        refine k_iconst Xc d_M_isParted_83 (n := 84) rfl ?_
        refine k_istore Xc d_M_isParted_84 (by decide) (n := 86) rfl ?_
        have ek : k = a := by omega
        subst ek
        exact k_loc (second low high hl hh (b + 1) 0 1000000 (-1000000) (by omega) (by omega) (Or.inl ⟨rfl, rfl⟩) (Or.inl ⟨rfl, rfl⟩)) rfl
      · refine k_aload_n Xc d_M_isParted_19 rfl rfl (n := 20) rfl ?_
        refine k_get Xc u_M rfl 25 (by decide) wd_575 rfl d_M_isParted_20 (n := 23) rfl hM.1 hM.2.2.1 rfl ?_
        refine k_iload Xc d_M_isParted_23 rfl (n := 25) rfl ?_
        refine k_iald Xc d_M_isParted_25 (n := 26) rfl (hM.2.1 19 (by decide)) (mr_19 hM) (by omega) (by omega) (by decide) ?_
        refine k_iload_n Xc d_M_isParted_26 rfl rfl (n := 27) rfl ?_
        refine k_imul Xc d_M_isParted_27 (n := 28) rfl ?_
        refine k_aload_n Xc d_M_isParted_28 rfl rfl (n := 29) rfl ?_
        refine k_get Xc u_M rfl 26 (by decide) wd_576 rfl d_M_isParted_29 (n := 32) rfl hM.1 hM.2.2.1 rfl ?_
        refine k_iload Xc d_M_isParted_32 rfl (n := 34) rfl ?_
        refine k_iald Xc d_M_isParted_34 (n := 35) rfl (hM.2.1 20 (by decide)) (mr_20 hM) (by omega) (by omega) (by decide) ?_
        refine k_iload_n Xc d_M_isParted_35 rfl rfl (n := 36) rfl ?_
        refine k_imul Xc d_M_isParted_36 (n := 37) rfl ?_
        refine k_iadd Xc d_M_isParted_37 (n := 38) rfl ?_
        refine k_top (fun w hw => ?_)
        have w1 := mv_bd hA (j := k) (by omega) hx1 hx2 hy1 hy2
        have hw : w = mv _ _ dx dy k := hw
        rw [← hw] at w1
        refine k_istore Xc d_M_isParted_38 (by decide) (n := 40) rfl ?_
        refine k_iload Xc d_M_isParted_40 rfl (n := 42) rfl ?_
        refine k_iload_n Xc d_M_isParted_42 rfl rfl (n := 43) rfl ?_
        refine k_icmp_ge Xc d_M_isParted_43 (t := 51) (n := 46) rfl rfl (by omega) (by omega) (fun h_43 => ?_) (fun h_43 => ?_)
        · refine k_iload_n Xc d_M_isParted_51 rfl rfl (n := 52) rfl ?_
          refine k_istore_n Xc d_M_isParted_52 rfl (by decide) (n := 53) rfl ?_
          refine k_iload Xc d_M_isParted_53 rfl (n := 55) rfl ?_
          refine k_iload Xc d_M_isParted_55 rfl (n := 57) rfl ?_
          refine k_icmp_le Xc d_M_isParted_57 (t := 65) (n := 60) rfl rfl (by omega) (by omega) (fun h_57 => ?_) (fun h_57 => ?_)
          · refine k_iload Xc d_M_isParted_65 rfl (n := 67) rfl ?_
            refine k_istore Xc d_M_isParted_67 (by decide) (n := 69) rfl ?_
            refine k_iinc Xc d_M_isParted_69 rfl (by decide) (n := 72) rfl ?_
            refine k_goto Xc d_M_isParted_72 (t := 10) rfl ?_
            exact k_loc (ih (k + 1) _ _ (by omega) (by omega) (by first | exact lo_new hl hw (by omega) | exact lo_old hl hw (by omega) (by omega)) (by first | exact hi_new hh hw (by omega) | exact hi_old hh hw (by omega) (by omega))) rfl
          · refine k_iload Xc d_M_isParted_60 rfl (n := 62) rfl ?_
            refine k_goto Xc d_M_isParted_62 (t := 67) rfl ?_
            refine k_istore Xc d_M_isParted_67 (by decide) (n := 69) rfl ?_
            refine k_iinc Xc d_M_isParted_69 rfl (by decide) (n := 72) rfl ?_
            refine k_goto Xc d_M_isParted_72 (t := 10) rfl ?_
            exact k_loc (ih (k + 1) _ _ (by omega) (by omega) (by first | exact lo_new hl hw (by omega) | exact lo_old hl hw (by omega) (by omega)) (by first | exact hi_new hh hw (by omega) | exact hi_old hh hw (by omega) (by omega))) rfl
        · refine k_iload Xc d_M_isParted_46 rfl (n := 48) rfl ?_
          refine k_goto Xc d_M_isParted_48 (t := 52) rfl ?_
          refine k_istore_n Xc d_M_isParted_52 rfl (by decide) (n := 53) rfl ?_
          refine k_iload Xc d_M_isParted_53 rfl (n := 55) rfl ?_
          refine k_iload Xc d_M_isParted_55 rfl (n := 57) rfl ?_
          refine k_icmp_le Xc d_M_isParted_57 (t := 65) (n := 60) rfl rfl (by omega) (by omega) (fun h_57 => ?_) (fun h_57 => ?_)
          · refine k_iload Xc d_M_isParted_65 rfl (n := 67) rfl ?_
            refine k_istore Xc d_M_isParted_67 (by decide) (n := 69) rfl ?_
            refine k_iinc Xc d_M_isParted_69 rfl (by decide) (n := 72) rfl ?_
            refine k_goto Xc d_M_isParted_72 (t := 10) rfl ?_
            exact k_loc (ih (k + 1) _ _ (by omega) (by omega) (by first | exact lo_new hl hw (by omega) | exact lo_old hl hw (by omega) (by omega)) (by first | exact hi_new hh hw (by omega) | exact hi_old hh hw (by omega) (by omega))) rfl
          · refine k_iload Xc d_M_isParted_60 rfl (n := 62) rfl ?_
            refine k_goto Xc d_M_isParted_62 (t := 67) rfl ?_
            refine k_istore Xc d_M_isParted_67 (by decide) (n := 69) rfl ?_
            refine k_iinc Xc d_M_isParted_69 rfl (by decide) (n := 72) rfl ?_
            refine k_goto Xc d_M_isParted_72 (t := 10) rfl ?_
            exact k_loc (ih (k + 1) _ _ (by omega) (by omega) (by first | exact lo_new hl hw (by omega) | exact lo_old hl hw (by omega) (by omega)) (by first | exact hi_new hh hw (by omega) | exact hi_old hh hw (by omega) (by omega))) rfl
  refine k_ldc Xc wd_728 (z := 1000000) (by decide) d_M_isParted_0 (n := 2) rfl ?_
  refine k_istore_n Xc d_M_isParted_2 rfl (by decide) (n := 3) rfl ?_
  refine k_ldc Xc wd_729 (z := (-1000000)) (by decide) d_M_isParted_3 (n := 5) rfl ?_
  refine k_istore Xc d_M_isParted_5 (by decide) (n := 7) rfl ?_
  refine k_iconst Xc d_M_isParted_7 (n := 8) rfl ?_
  refine k_istore Xc d_M_isParted_8 (by decide) (n := 10) rfl ?_
  exact k_loc (first (a + 1) 0 1000000 (-1000000) (by omega) (by omega) (Or.inl ⟨rfl, rfl⟩) (Or.inl ⟨rfl, rfl⟩)) rfl
set_option maxRecDepth 100000 in
set_option maxHeartbeats 4000000 in
/-- points are inside both -/
theorem m_M_overlaps (l : Launch) (D : va_G) (G : Nat → ClassId) {L : List Nat} {f : Nat → va_E} {o : Nat} {ra : Nat → Nat} {cd wt hc zn kn : Int} {a b : Nat} {R : Nat → Int → Int} (hM : zMo G L f o ra cd wt hc zn kn (a : Int) (b : Int) R) (hA : sB a (R 19) (R 20)) (hB : sB b (R 21) (R 22)) (ha : 1 ≤ a) (ha6 : a ≤ 6) (hb : 1 ≤ b) : zM l D G y_M_overlaps (.code y_M_overlaps c_M_overlaps 3 (some .boolean) :: BG) (zR0 1 28) [.ref o] L f (zA L f (fun r => zB (ge_ov a (sP (R 19) (R 20)) b (sP (R 21) (R 22))) r)) := by
  refine zM.of (by decide) (Nat.le_of_ble_eq_true rfl) rfl (fun p e s m args below meth c A Xc hr hnm => ?_)
  have hb12 := hB.1
  have second : (∀ i, i < a → ¬ ge_pt a (sP (R 19) (R 20)) b (sP (R 21) (R 22)) (ge_nv (sP (R 19) (R 20)) a i)) → ∀ (d k : Nat), b < k + d → k ≤ b → (∀ i, i < k → ¬ ge_pt a (sP (R 19) (R 20)) b (sP (R 21) (R 22)) (ge_nv (sP (R 21) (R 22)) b i)) → zG p l e (zR0 1 28) s m args below meth c D A 3 0 0 (MQ below (zE D A (zA L f (fun r => zB (ge_ov a (sP (R 19) (R 20)) b (sP (R 21) (R 22))) r))) args s (zR0 1 28).cells (zR0 1 28).slots A) 62 [(0, .ref o), (1, .int (zI (k : Int)))] [] L f := by
    intro hI d
    induction d with
    | zero => intro k h1 h2; omega
    | succ d ih =>
      intro k h1 h2 hJ
      refine k_iload_n Xc d_M_overlaps_62 rfl rfl (n := 63) rfl ?_
      refine k_aload_n Xc d_M_overlaps_63 rfl rfl (n := 64) rfl ?_
      refine k_get Xc u_M rfl 27 (by decide) wd_577 rfl d_M_overlaps_64 (n := 67) rfl hM.1 hM.2.2.1 rfl ?_
      refine k_icmp_ge Xc d_M_overlaps_67 (t := 120) (n := 70) rfl rfl (by omega) (by omega) (fun h_67 => ?_) (fun h_67 => ?_)
      · refine k_iconst Xc d_M_overlaps_120 (n := 121) rfl ?_
        refine k_iret Xc d_M_overlaps_121 hr rfl (Nat.le_refl _) (Nat.le_refl _) ⟨_, rfl, ?_, rfl, rfl⟩
        exact Or.inl ⟨⟨hI, fun i q => hJ i (by omega)⟩, rfl⟩
      · refine k_iload_n Xc d_M_overlaps_70 rfl rfl (n := 71) rfl ?_
        refine k_iconst Xc d_M_overlaps_71 (n := 72) rfl ?_
        refine k_iadd Xc d_M_overlaps_72 (n := 73) rfl ?_
        refine k_aload_n Xc d_M_overlaps_73 rfl rfl (n := 74) rfl ?_
        refine k_get Xc u_M rfl 27 (by decide) wd_577 rfl d_M_overlaps_74 (n := 77) rfl hM.1 hM.2.2.1 rfl ?_
        refine k_irem Xc d_M_overlaps_77 (n := 78) rfl (by omega) (by omega) (by omega) (by omega) ?_
        refine k_val (md_nx (n := b) (i := k) (by omega)) ?_
        have l1 : ge_nx b k < b := nx_lt (by omega)
        have b0 := hB.2 k (by omega)
        have b1 := hB.2 _ l1
        refine k_istore_n Xc d_M_overlaps_78 rfl (by decide) (n := 79) rfl ?_
        refine k_aload_n Xc d_M_overlaps_79 rfl rfl (n := 80) rfl ?_
        refine k_aload_n Xc d_M_overlaps_80 rfl rfl (n := 81) rfl ?_
        refine k_get Xc u_M rfl 29 (by decide) wd_579 rfl d_M_overlaps_81 (n := 84) rfl hM.1 hM.2.2.1 rfl ?_
        refine k_iload_n Xc d_M_overlaps_84 rfl rfl (n := 85) rfl ?_
        refine k_iald Xc d_M_overlaps_85 (n := 86) rfl (hM.2.1 22 (by decide)) (mr_22 hM) (by omega) (by omega) (by decide) ?_
        refine k_aload_n Xc d_M_overlaps_86 rfl rfl (n := 87) rfl ?_
        refine k_get Xc u_M rfl 29 (by decide) wd_579 rfl d_M_overlaps_87 (n := 90) rfl hM.1 hM.2.2.1 rfl ?_
        refine k_iload_n Xc d_M_overlaps_90 rfl rfl (n := 91) rfl ?_
        refine k_iald Xc d_M_overlaps_91 (n := 92) rfl (hM.2.1 22 (by decide)) (mr_22 hM) (by omega) (by omega) (by decide) ?_
        refine k_isub Xc d_M_overlaps_92 (n := 93) rfl ?_
        refine k_aload_n Xc d_M_overlaps_93 rfl rfl (n := 94) rfl ?_
        refine k_get Xc u_M rfl 28 (by decide) wd_578 rfl d_M_overlaps_94 (n := 97) rfl hM.1 hM.2.2.1 rfl ?_
        refine k_iload_n Xc d_M_overlaps_97 rfl rfl (n := 98) rfl ?_
        refine k_iald Xc d_M_overlaps_98 (n := 99) rfl (hM.2.1 21 (by decide)) (mr_21 hM) (by omega) (by omega) (by decide) ?_
        refine k_aload_n Xc d_M_overlaps_99 rfl rfl (n := 100) rfl ?_
        refine k_get Xc u_M rfl 28 (by decide) wd_578 rfl d_M_overlaps_100 (n := 103) rfl hM.1 hM.2.2.1 rfl ?_
        refine k_iload_n Xc d_M_overlaps_103 rfl rfl (n := 104) rfl ?_
        refine k_iald Xc d_M_overlaps_104 (n := 105) rfl (hM.2.1 21 (by decide)) (mr_21 hM) (by omega) (by omega) (by decide) ?_
        refine k_isub Xc d_M_overlaps_105 (n := 106) rfl ?_
        refine k_qV (na := 2) Xc (m_M_isParted l D G hM hA hB ha ha6 hb _ _ (by omega) (by omega) (by omega) (by omega)) hM.1 hM.2.2.1 rfl wd_727 wd_724 wd_726 ws_22 wd_6 (by decide +kernel) ⟨by decide, by decide⟩ rfl rfl (Nat.le_of_ble_eq_true rfl) d_M_overlaps_106 (n := 109) rfl ⟨Nat.zero_le _, Nat.zero_le _⟩ (fun r_106 e_106 => ?_)
        rcases e_106 with ⟨e_106, rfl⟩ | ⟨e_106, rfl⟩
        · refine k_if_eq Xc d_M_overlaps_109 (t := 114) (n := 112) rfl rfl (by omega) (fun h_109 => absurd h_109 (by omega)) (fun _ => ?_)
          refine k_iconst Xc d_M_overlaps_112 (n := 113) rfl ?_
          refine k_iret Xc d_M_overlaps_113 hr rfl (Nat.le_refl _) (Nat.le_refl _) ⟨_, rfl, ?_, rfl, rfl⟩
          exact Or.inr ⟨fun q => q.2 k (by omega) e_106, rfl⟩
        · refine k_if_eq Xc d_M_overlaps_109 (t := 114) (n := 112) rfl rfl (by omega) (fun _ => ?_) (fun h_109 => absurd h_109 (by omega))
          refine k_iinc Xc d_M_overlaps_114 rfl (by decide) (n := 117) rfl ?_
          refine k_goto Xc d_M_overlaps_117 (t := 62) rfl ?_
          exact k_loc (ih (k + 1) (by omega) (by omega) (fun i2 q => by
            rcases Nat.lt_or_ge i2 k with q1 | q1
            · exact hJ i2 q1
            · have e : i2 = k := by omega
              subst e
              exact e_106)) rfl
  have first : ∀ (d k : Nat), a < k + d → k ≤ a → (∀ i, i < k → ¬ ge_pt a (sP (R 19) (R 20)) b (sP (R 21) (R 22)) (ge_nv (sP (R 19) (R 20)) a i)) → zG p l e (zR0 1 28) s m args below meth c D A 3 0 0 (MQ below (zE D A (zA L f (fun r => zB (ge_ov a (sP (R 19) (R 20)) b (sP (R 21) (R 22))) r))) args s (zR0 1 28).cells (zR0 1 28).slots A) 2 [(0, .ref o), (1, .int (zI (k : Int)))] [] L f := by
    intro d
    induction d with
    | zero => intro k h1 h2; omega
    | succ d ih =>
      intro k h1 h2 hI
      refine k_iload_n Xc d_M_overlaps_2 rfl rfl (n := 3) rfl ?_
      refine k_aload_n Xc d_M_overlaps_3 rfl rfl (n := 4) rfl ?_
      refine k_get Xc u_M rfl 24 (by decide) wd_574 rfl d_M_overlaps_4 (n := 7) rfl hM.1 hM.2.2.1 rfl ?_
      refine k_icmp_ge Xc d_M_overlaps_7 (t := 60) (n := 10) rfl rfl (by omega) (by omega) (fun h_7 => ?_) (fun h_7 => ?_)
      · refine k_iconst Xc d_M_overlaps_60 (n := 61) rfl ?_
        refine k_istore_n Xc d_M_overlaps_61 rfl (by decide) (n := 62) rfl ?_
        exact k_loc (second (fun i q => hI i (by omega)) (b + 1) 0 (by omega) (by omega) (fun i q => absurd q (by omega))) rfl
      · refine k_iload_n Xc d_M_overlaps_10 rfl rfl (n := 11) rfl ?_
        refine k_iconst Xc d_M_overlaps_11 (n := 12) rfl ?_
        refine k_iadd Xc d_M_overlaps_12 (n := 13) rfl ?_
        refine k_aload_n Xc d_M_overlaps_13 rfl rfl (n := 14) rfl ?_
        refine k_get Xc u_M rfl 24 (by decide) wd_574 rfl d_M_overlaps_14 (n := 17) rfl hM.1 hM.2.2.1 rfl ?_
        refine k_irem Xc d_M_overlaps_17 (n := 18) rfl (by omega) (by omega) (by omega) (by omega) ?_
        refine k_val (md_nx (n := a) (i := k) (by omega)) ?_
        have l1 : ge_nx a k < a := nx_lt (by omega)
        have b0 := hA.2 k (by omega)
        have b1 := hA.2 _ l1
        refine k_istore_n Xc d_M_overlaps_18 rfl (by decide) (n := 19) rfl ?_
        refine k_aload_n Xc d_M_overlaps_19 rfl rfl (n := 20) rfl ?_
        refine k_aload_n Xc d_M_overlaps_20 rfl rfl (n := 21) rfl ?_
        refine k_get Xc u_M rfl 26 (by decide) wd_576 rfl d_M_overlaps_21 (n := 24) rfl hM.1 hM.2.2.1 rfl ?_
        refine k_iload_n Xc d_M_overlaps_24 rfl rfl (n := 25) rfl ?_
        refine k_iald Xc d_M_overlaps_25 (n := 26) rfl (hM.2.1 20 (by decide)) (mr_20 hM) (by omega) (by omega) (by decide) ?_
        refine k_aload_n Xc d_M_overlaps_26 rfl rfl (n := 27) rfl ?_
        refine k_get Xc u_M rfl 26 (by decide) wd_576 rfl d_M_overlaps_27 (n := 30) rfl hM.1 hM.2.2.1 rfl ?_
        refine k_iload_n Xc d_M_overlaps_30 rfl rfl (n := 31) rfl ?_
        refine k_iald Xc d_M_overlaps_31 (n := 32) rfl (hM.2.1 20 (by decide)) (mr_20 hM) (by omega) (by omega) (by decide) ?_
        refine k_isub Xc d_M_overlaps_32 (n := 33) rfl ?_
        refine k_aload_n Xc d_M_overlaps_33 rfl rfl (n := 34) rfl ?_
        refine k_get Xc u_M rfl 25 (by decide) wd_575 rfl d_M_overlaps_34 (n := 37) rfl hM.1 hM.2.2.1 rfl ?_
        refine k_iload_n Xc d_M_overlaps_37 rfl rfl (n := 38) rfl ?_
        refine k_iald Xc d_M_overlaps_38 (n := 39) rfl (hM.2.1 19 (by decide)) (mr_19 hM) (by omega) (by omega) (by decide) ?_
        refine k_aload_n Xc d_M_overlaps_39 rfl rfl (n := 40) rfl ?_
        refine k_get Xc u_M rfl 25 (by decide) wd_575 rfl d_M_overlaps_40 (n := 43) rfl hM.1 hM.2.2.1 rfl ?_
        refine k_iload_n Xc d_M_overlaps_43 rfl rfl (n := 44) rfl ?_
        refine k_iald Xc d_M_overlaps_44 (n := 45) rfl (hM.2.1 19 (by decide)) (mr_19 hM) (by omega) (by omega) (by decide) ?_
        refine k_isub Xc d_M_overlaps_45 (n := 46) rfl ?_
        refine k_qV (na := 2) Xc (m_M_isParted l D G hM hA hB ha ha6 hb _ _ (by omega) (by omega) (by omega) (by omega)) hM.1 hM.2.2.1 rfl wd_727 wd_724 wd_726 ws_22 wd_6 (by decide +kernel) ⟨by decide, by decide⟩ rfl rfl (Nat.le_of_ble_eq_true rfl) d_M_overlaps_46 (n := 49) rfl ⟨Nat.zero_le _, Nat.zero_le _⟩ (fun r_46 e_46 => ?_)
        rcases e_46 with ⟨e_46, rfl⟩ | ⟨e_46, rfl⟩
        · refine k_if_eq Xc d_M_overlaps_49 (t := 54) (n := 52) rfl rfl (by omega) (fun h_49 => absurd h_49 (by omega)) (fun _ => ?_)
          refine k_iconst Xc d_M_overlaps_52 (n := 53) rfl ?_
          refine k_iret Xc d_M_overlaps_53 hr rfl (Nat.le_refl _) (Nat.le_refl _) ⟨_, rfl, ?_, rfl, rfl⟩
          exact Or.inr ⟨fun q => q.1 k (by omega) e_46, rfl⟩
        · refine k_if_eq Xc d_M_overlaps_49 (t := 54) (n := 52) rfl rfl (by omega) (fun _ => ?_) (fun h_49 => absurd h_49 (by omega))
          refine k_iinc Xc d_M_overlaps_54 rfl (by decide) (n := 57) rfl ?_
          refine k_goto Xc d_M_overlaps_57 (t := 2) rfl ?_
          exact k_loc (ih (k + 1) (by omega) (by omega) (fun i2 q => by
            rcases Nat.lt_or_ge i2 k with q1 | q1
            · exact hI i2 q1
            · have e : i2 = k := by omega
              subst e
              exact e_46)) rfl
  refine k_iconst Xc d_M_overlaps_0 (n := 1) rfl ?_
  refine k_istore_n Xc d_M_overlaps_1 rfl (by decide) (n := 2) rfl ?_
  exact k_loc (first (a + 1) 0 (by omega) (by omega) (fun i q => absurd q (by omega))) rfl
set_option maxRecDepth 100000 in
set_option maxHeartbeats 4000000 in
/-- the middle of the first three corners is inside -/
theorem m_M_isMiddleInside (l : Launch) (D : va_G) (G : Nat → ClassId) {L : List Nat} {f : Nat → va_E} {o : Nat} {ra : Nat → Nat} {cd wt zn kn mn om : Int} {h : Nat} {R : Nat → Int → Int} (hM : zMo G L f o ra cd wt (h : Int) zn kn mn om R) (hA : sB 3 (R 19) (R 20)) (hH : sB h (R 2) (R 3)) : zM l D G y_M_isMiddleInside (.code y_M_isMiddleInside c_M_isMiddleInside 11 (some .boolean) :: BG) (zR0 0 0) [.ref o] L f (zA L f (fun r => zB (ge_odM h (ge_3 (sP (R 2) (R 3))) (R 19 0 + R 19 1 + R 19 2, R 20 0 + R 20 1 + R 20 2) h) r)) := by
  refine zM.of (by decide) (Nat.le_of_ble_eq_true rfl) rfl (fun p e s m args below meth c A Xc hr hnm => ?_)
  have hh := hH.1
  have a0 := hA.2 0 (by omega)
  have a1 := hA.2 1 (by omega)
  have a2 := hA.2 2 (by omega)
  obtain ⟨ma, hma⟩ : ∃ x, x = R 19 0 + R 19 1 + R 19 2 := ⟨_, rfl⟩
  obtain ⟨mb, hmb⟩ : ∃ x, x = R 20 0 + R 20 1 + R 20 2 := ⟨_, rfl⟩
  have z1 : -300 ≤ ma ∧ ma ≤ 300 ∧ -300 ≤ mb ∧ mb ≤ 300 := by
    have q0 : R 19 0 = R 19 ((0 : Nat) : Int) := rfl
    have q1 : R 19 1 = R 19 ((1 : Nat) : Int) := rfl
    have q2 : R 19 2 = R 19 ((2 : Nat) : Int) := rfl
    have q3 : R 20 0 = R 20 ((0 : Nat) : Int) := rfl
    have q4 : R 20 1 = R 20 ((1 : Nat) : Int) := rfl
    have q5 : R 20 2 = R 20 ((2 : Nat) : Int) := rfl
    omega
  rw [← hma, ← hmb]
  have loop : ∀ (d i : Nat) (t : Int), h < i + d → i ≤ h → zB (ge_odM h (ge_3 (sP (R 2) (R 3))) (ma, mb) i) t → zG p l e (zR0 0 0) s m args below meth c D A 11 0 0 (MQ below (zE D A (zA L f (fun r => zB (ge_odM h (ge_3 (sP (R 2) (R 3))) (ma, mb) h) r))) args s (zR0 0 0).cells (zR0 0 0).slots A) 47 [(0, .ref o), (1, .int (zI ma)), (2, .int (zI mb)), (3, .int (zI t)), (4, .int (zI (i : Int)))] [] L f := by
    intro d
    induction d with
    | zero => intro i t h1 h2; omega
    | succ d ih =>
      intro i t h1 h2 ho
      have o1 := zB_01 ho
      refine k_iload Xc d_M_isMiddleInside_47 rfl (n := 49) rfl ?_
      refine k_aload_n Xc d_M_isMiddleInside_49 rfl rfl (n := 50) rfl ?_
      refine k_get Xc u_M rfl 4 (by decide) wd_554 rfl d_M_isMiddleInside_50 (n := 53) rfl hM.1 hM.2.2.1 rfl ?_
      refine k_icmp_ge Xc d_M_isMiddleInside_53 (t := 204) (n := 56) rfl rfl (by omega) (by omega) (fun h_53 => ?_) (fun h_53 => ?_)
      · refine k_iload_n Xc d_M_isMiddleInside_204 rfl rfl (n := 205) rfl ?_
        refine k_iret Xc d_M_isMiddleInside_205 hr (nar_b o1) (Nat.le_refl _) (Nat.le_refl _) ⟨_, rfl, ?_, rfl, rfl⟩
        rw [show i = h by omega] at ho
        exact ho
      · refine k_iload Xc d_M_isMiddleInside_56 rfl (n := 58) rfl ?_
        refine k_iconst Xc d_M_isMiddleInside_58 (n := 59) rfl ?_
        refine k_iadd Xc d_M_isMiddleInside_59 (n := 60) rfl ?_
        refine k_aload_n Xc d_M_isMiddleInside_60 rfl rfl (n := 61) rfl ?_
        refine k_get Xc u_M rfl 4 (by decide) wd_554 rfl d_M_isMiddleInside_61 (n := 64) rfl hM.1 hM.2.2.1 rfl ?_
        refine k_irem Xc d_M_isMiddleInside_64 (n := 65) rfl (by omega) (by omega) (by omega) (by omega) ?_
        refine k_val (md_nx (n := h) (i := i) (by omega)) ?_
        have l1 : ge_nx h i < h := nx_lt (by omega)
        have b0 := hH.2 i (by omega)
        have b1 := hH.2 _ l1
        have u := mul_bd (a := 3 * R 2 ((ge_nx h i : Nat) : Int) - 3 * R 2 (i : Int)) (b := mb - 3 * R 3 (i : Int)) (A := 600) (B := 600) (by omega) (by omega) (by omega) (by omega)
        have v := mul_bd (a := 3 * R 3 ((ge_nx h i : Nat) : Int) - 3 * R 3 (i : Int)) (b := ma - 3 * R 2 (i : Int)) (A := 600) (B := 600) (by omega) (by omega) (by omega) (by omega)
        refine k_istore Xc d_M_isMiddleInside_65 (by decide) (n := 67) rfl ?_
        refine k_iconst Xc d_M_isMiddleInside_67 (n := 68) rfl ?_
        refine k_aload_n Xc d_M_isMiddleInside_68 rfl rfl (n := 69) rfl ?_
        refine k_get Xc u_M rfl 5 (by decide) wd_555 rfl d_M_isMiddleInside_69 (n := 72) rfl hM.1 hM.2.2.1 rfl ?_
        refine k_iload Xc d_M_isMiddleInside_72 rfl (n := 74) rfl ?_
        refine k_iald Xc d_M_isMiddleInside_74 (n := 75) rfl (hM.2.1 2 (by decide)) (mr_2 hM) (by omega) (by omega) (by decide) ?_
        refine k_imul Xc d_M_isMiddleInside_75 (n := 76) rfl ?_
        refine k_istore Xc d_M_isMiddleInside_76 (by decide) (n := 78) rfl ?_
        refine k_iconst Xc d_M_isMiddleInside_78 (n := 79) rfl ?_
        refine k_aload_n Xc d_M_isMiddleInside_79 rfl rfl (n := 80) rfl ?_
        refine k_get Xc u_M rfl 6 (by decide) wd_556 rfl d_M_isMiddleInside_80 (n := 83) rfl hM.1 hM.2.2.1 rfl ?_
        refine k_iload Xc d_M_isMiddleInside_83 rfl (n := 85) rfl ?_
        refine k_iald Xc d_M_isMiddleInside_85 (n := 86) rfl (hM.2.1 3 (by decide)) (mr_3 hM) (by omega) (by omega) (by decide) ?_
        refine k_imul Xc d_M_isMiddleInside_86 (n := 87) rfl ?_
        refine k_istore Xc d_M_isMiddleInside_87 (by decide) (n := 89) rfl ?_
        refine k_iconst Xc d_M_isMiddleInside_89 (n := 90) rfl ?_
        refine k_aload_n Xc d_M_isMiddleInside_90 rfl rfl (n := 91) rfl ?_
        refine k_get Xc u_M rfl 5 (by decide) wd_555 rfl d_M_isMiddleInside_91 (n := 94) rfl hM.1 hM.2.2.1 rfl ?_
        refine k_iload Xc d_M_isMiddleInside_94 rfl (n := 96) rfl ?_
        refine k_iald Xc d_M_isMiddleInside_96 (n := 97) rfl (hM.2.1 2 (by decide)) (mr_2 hM) (by omega) (by omega) (by decide) ?_
        refine k_imul Xc d_M_isMiddleInside_97 (n := 98) rfl ?_
        refine k_istore Xc d_M_isMiddleInside_98 (by decide) (n := 100) rfl ?_
        refine k_iconst Xc d_M_isMiddleInside_100 (n := 101) rfl ?_
        refine k_aload_n Xc d_M_isMiddleInside_101 rfl rfl (n := 102) rfl ?_
        refine k_get Xc u_M rfl 6 (by decide) wd_556 rfl d_M_isMiddleInside_102 (n := 105) rfl hM.1 hM.2.2.1 rfl ?_
        refine k_iload Xc d_M_isMiddleInside_105 rfl (n := 107) rfl ?_
        refine k_iald Xc d_M_isMiddleInside_107 (n := 108) rfl (hM.2.1 3 (by decide)) (mr_3 hM) (by omega) (by omega) (by decide) ?_
        refine k_imul Xc d_M_isMiddleInside_108 (n := 109) rfl ?_
        refine k_istore Xc d_M_isMiddleInside_109 (by decide) (n := 111) rfl ?_
        refine k_iload Xc d_M_isMiddleInside_111 rfl (n := 113) rfl ?_
        refine k_iload_n Xc d_M_isMiddleInside_113 rfl rfl (n := 114) rfl ?_
        refine k_icmp_le Xc d_M_isMiddleInside_114 (t := 121) (n := 117) rfl rfl (by omega) (by omega) (fun h_114 => ?_) (fun h_114 => ?_)
        · refine k_iconst Xc d_M_isMiddleInside_121 (n := 122) rfl ?_
          refine k_iload Xc d_M_isMiddleInside_122 rfl (n := 124) rfl ?_
          refine k_iload_n Xc d_M_isMiddleInside_124 rfl rfl (n := 125) rfl ?_
          refine k_icmp_le Xc d_M_isMiddleInside_125 (t := 132) (n := 128) rfl rfl (by omega) (by omega) (fun h_125 => ?_) (fun h_125 => ?_)
          · refine k_iconst Xc d_M_isMiddleInside_132 (n := 133) rfl ?_
            refine k_icmp_eq Xc d_M_isMiddleInside_133 (t := 198) (n := 136) rfl rfl (by omega) (by omega) (fun _ => ?_) (fun h_133 => absurd h_133 (by omega))
            refine k_iinc Xc d_M_isMiddleInside_198 rfl (by decide) (n := 201) rfl ?_
            refine k_goto Xc d_M_isMiddleInside_201 (t := 47) rfl ?_
            exact k_loc (ih (i + 1) t (by omega) (by omega) (odM_keep ho (by first | (intro q; have := hh3.mp q; omega) | exact hitM_no (by omega)))) rfl
          · refine k_iconst Xc d_M_isMiddleInside_128 (n := 129) rfl ?_
            refine k_goto Xc d_M_isMiddleInside_129 (t := 133) rfl ?_
            refine k_icmp_eq Xc d_M_isMiddleInside_133 (t := 198) (n := 136) rfl rfl (by omega) (by omega) (fun h_133 => absurd h_133 (by omega)) (fun _ => ?_)
            refine k_iload Xc d_M_isMiddleInside_136 rfl (n := 138) rfl ?_
            refine k_iload Xc d_M_isMiddleInside_138 rfl (n := 140) rfl ?_
            refine k_isub Xc d_M_isMiddleInside_140 (n := 141) rfl ?_
            refine k_iload_n Xc d_M_isMiddleInside_141 rfl rfl (n := 142) rfl ?_
            refine k_iload Xc d_M_isMiddleInside_142 rfl (n := 144) rfl ?_
            refine k_isub Xc d_M_isMiddleInside_144 (n := 145) rfl ?_
            refine k_imul Xc d_M_isMiddleInside_145 (n := 146) rfl ?_
            refine k_iload Xc d_M_isMiddleInside_146 rfl (n := 148) rfl ?_
            refine k_iload Xc d_M_isMiddleInside_148 rfl (n := 150) rfl ?_
            refine k_isub Xc d_M_isMiddleInside_150 (n := 151) rfl ?_
            refine k_iload_n Xc d_M_isMiddleInside_151 rfl rfl (n := 152) rfl ?_
            refine k_iload Xc d_M_isMiddleInside_152 rfl (n := 154) rfl ?_
            refine k_isub Xc d_M_isMiddleInside_154 (n := 155) rfl ?_
            refine k_imul Xc d_M_isMiddleInside_155 (n := 156) rfl ?_
            refine k_isub Xc d_M_isMiddleInside_156 (n := 157) rfl ?_
            refine k_top (fun w hat => ?_)
            have hh3 := hitM3 hat
            refine k_istore Xc d_M_isMiddleInside_157 (by decide) (n := 159) rfl ?_
            refine k_iload Xc d_M_isMiddleInside_159 rfl (n := 161) rfl ?_
            refine k_if_le Xc d_M_isMiddleInside_161 (t := 168) (n := 164) rfl rfl (by omega) (fun h_161 => ?_) (fun h_161 => ?_)
            · refine k_iconst Xc d_M_isMiddleInside_168 (n := 169) rfl ?_
              refine k_iload Xc d_M_isMiddleInside_169 rfl (n := 171) rfl ?_
              refine k_iload Xc d_M_isMiddleInside_171 rfl (n := 173) rfl ?_
              refine k_icmp_le Xc d_M_isMiddleInside_173 (t := 180) (n := 176) rfl rfl (by omega) (by omega) (fun h_173 => ?_) (fun h_173 => ?_)
              · refine k_iconst Xc d_M_isMiddleInside_180 (n := 181) rfl ?_
                refine k_icmp_ne Xc d_M_isMiddleInside_181 (t := 196) (n := 184) rfl rfl (by omega) (by omega) (fun h_181 => absurd h_181 (by omega)) (fun _ => ?_)
                refine k_iload_n Xc d_M_isMiddleInside_184 rfl rfl (n := 185) rfl ?_
                refine k_if_ne Xc d_M_isMiddleInside_185 (t := 192) (n := 188) rfl rfl (by omega) (fun h_185 => ?_) (fun h_185 => ?_)
                · refine k_iconst Xc d_M_isMiddleInside_192 (n := 193) rfl ?_
                  refine k_goto Xc d_M_isMiddleInside_193 (t := 197) rfl ?_
                  refine k_istore_n Xc d_M_isMiddleInside_197 rfl (by decide) (n := 198) rfl ?_
                  refine k_iinc Xc d_M_isMiddleInside_198 rfl (by decide) (n := 201) rfl ?_
                  refine k_goto Xc d_M_isMiddleInside_201 (t := 47) rfl ?_
                  exact k_loc (ih (i + 1) 0 (by omega) (by omega) (odM_flip ho (hh3.mpr (by omega)) (by omega))) rfl
                · refine k_iconst Xc d_M_isMiddleInside_188 (n := 189) rfl ?_
                  refine k_goto Xc d_M_isMiddleInside_189 (t := 197) rfl ?_
                  refine k_istore_n Xc d_M_isMiddleInside_197 rfl (by decide) (n := 198) rfl ?_
                  refine k_iinc Xc d_M_isMiddleInside_198 rfl (by decide) (n := 201) rfl ?_
                  refine k_goto Xc d_M_isMiddleInside_201 (t := 47) rfl ?_
                  exact k_loc (ih (i + 1) 1 (by omega) (by omega) (odM_flip ho (hh3.mpr (by omega)) (by omega))) rfl
              · refine k_iconst Xc d_M_isMiddleInside_176 (n := 177) rfl ?_
                refine k_goto Xc d_M_isMiddleInside_177 (t := 181) rfl ?_
                refine k_icmp_ne Xc d_M_isMiddleInside_181 (t := 196) (n := 184) rfl rfl (by omega) (by omega) (fun _ => ?_) (fun h_181 => absurd h_181 (by omega))
                refine k_iload_n Xc d_M_isMiddleInside_196 rfl rfl (n := 197) rfl ?_
                refine k_istore_n Xc d_M_isMiddleInside_197 rfl (by decide) (n := 198) rfl ?_
                refine k_iinc Xc d_M_isMiddleInside_198 rfl (by decide) (n := 201) rfl ?_
                refine k_goto Xc d_M_isMiddleInside_201 (t := 47) rfl ?_
                exact k_loc (ih (i + 1) t (by omega) (by omega) (odM_keep ho (by first | (intro q; have := hh3.mp q; omega) | exact hitM_no (by omega)))) rfl
            · refine k_iconst Xc d_M_isMiddleInside_164 (n := 165) rfl ?_
              refine k_goto Xc d_M_isMiddleInside_165 (t := 169) rfl ?_
              refine k_iload Xc d_M_isMiddleInside_169 rfl (n := 171) rfl ?_
              refine k_iload Xc d_M_isMiddleInside_171 rfl (n := 173) rfl ?_
              refine k_icmp_le Xc d_M_isMiddleInside_173 (t := 180) (n := 176) rfl rfl (by omega) (by omega) (fun h_173 => ?_) (fun h_173 => ?_)
              · refine k_iconst Xc d_M_isMiddleInside_180 (n := 181) rfl ?_
                refine k_icmp_ne Xc d_M_isMiddleInside_181 (t := 196) (n := 184) rfl rfl (by omega) (by omega) (fun _ => ?_) (fun h_181 => absurd h_181 (by omega))
                refine k_iload_n Xc d_M_isMiddleInside_196 rfl rfl (n := 197) rfl ?_
                refine k_istore_n Xc d_M_isMiddleInside_197 rfl (by decide) (n := 198) rfl ?_
                refine k_iinc Xc d_M_isMiddleInside_198 rfl (by decide) (n := 201) rfl ?_
                refine k_goto Xc d_M_isMiddleInside_201 (t := 47) rfl ?_
                exact k_loc (ih (i + 1) t (by omega) (by omega) (odM_keep ho (by first | (intro q; have := hh3.mp q; omega) | exact hitM_no (by omega)))) rfl
              · refine k_iconst Xc d_M_isMiddleInside_176 (n := 177) rfl ?_
                refine k_goto Xc d_M_isMiddleInside_177 (t := 181) rfl ?_
                refine k_icmp_ne Xc d_M_isMiddleInside_181 (t := 196) (n := 184) rfl rfl (by omega) (by omega) (fun h_181 => absurd h_181 (by omega)) (fun _ => ?_)
                refine k_iload_n Xc d_M_isMiddleInside_184 rfl rfl (n := 185) rfl ?_
                refine k_if_ne Xc d_M_isMiddleInside_185 (t := 192) (n := 188) rfl rfl (by omega) (fun h_185 => ?_) (fun h_185 => ?_)
                · refine k_iconst Xc d_M_isMiddleInside_192 (n := 193) rfl ?_
                  refine k_goto Xc d_M_isMiddleInside_193 (t := 197) rfl ?_
                  refine k_istore_n Xc d_M_isMiddleInside_197 rfl (by decide) (n := 198) rfl ?_
                  refine k_iinc Xc d_M_isMiddleInside_198 rfl (by decide) (n := 201) rfl ?_
                  refine k_goto Xc d_M_isMiddleInside_201 (t := 47) rfl ?_
                  exact k_loc (ih (i + 1) 0 (by omega) (by omega) (odM_flip ho (hh3.mpr (by omega)) (by omega))) rfl
                · refine k_iconst Xc d_M_isMiddleInside_188 (n := 189) rfl ?_
                  refine k_goto Xc d_M_isMiddleInside_189 (t := 197) rfl ?_
                  refine k_istore_n Xc d_M_isMiddleInside_197 rfl (by decide) (n := 198) rfl ?_
                  refine k_iinc Xc d_M_isMiddleInside_198 rfl (by decide) (n := 201) rfl ?_
                  refine k_goto Xc d_M_isMiddleInside_201 (t := 47) rfl ?_
                  exact k_loc (ih (i + 1) 1 (by omega) (by omega) (odM_flip ho (hh3.mpr (by omega)) (by omega))) rfl
        · refine k_iconst Xc d_M_isMiddleInside_117 (n := 118) rfl ?_
          refine k_goto Xc d_M_isMiddleInside_118 (t := 122) rfl ?_
          refine k_iload Xc d_M_isMiddleInside_122 rfl (n := 124) rfl ?_
          refine k_iload_n Xc d_M_isMiddleInside_124 rfl rfl (n := 125) rfl ?_
          refine k_icmp_le Xc d_M_isMiddleInside_125 (t := 132) (n := 128) rfl rfl (by omega) (by omega) (fun h_125 => ?_) (fun h_125 => ?_)
          · refine k_iconst Xc d_M_isMiddleInside_132 (n := 133) rfl ?_
            refine k_icmp_eq Xc d_M_isMiddleInside_133 (t := 198) (n := 136) rfl rfl (by omega) (by omega) (fun h_133 => absurd h_133 (by omega)) (fun _ => ?_)
            refine k_iload Xc d_M_isMiddleInside_136 rfl (n := 138) rfl ?_
            refine k_iload Xc d_M_isMiddleInside_138 rfl (n := 140) rfl ?_
            refine k_isub Xc d_M_isMiddleInside_140 (n := 141) rfl ?_
            refine k_iload_n Xc d_M_isMiddleInside_141 rfl rfl (n := 142) rfl ?_
            refine k_iload Xc d_M_isMiddleInside_142 rfl (n := 144) rfl ?_
            refine k_isub Xc d_M_isMiddleInside_144 (n := 145) rfl ?_
            refine k_imul Xc d_M_isMiddleInside_145 (n := 146) rfl ?_
            refine k_iload Xc d_M_isMiddleInside_146 rfl (n := 148) rfl ?_
            refine k_iload Xc d_M_isMiddleInside_148 rfl (n := 150) rfl ?_
            refine k_isub Xc d_M_isMiddleInside_150 (n := 151) rfl ?_
            refine k_iload_n Xc d_M_isMiddleInside_151 rfl rfl (n := 152) rfl ?_
            refine k_iload Xc d_M_isMiddleInside_152 rfl (n := 154) rfl ?_
            refine k_isub Xc d_M_isMiddleInside_154 (n := 155) rfl ?_
            refine k_imul Xc d_M_isMiddleInside_155 (n := 156) rfl ?_
            refine k_isub Xc d_M_isMiddleInside_156 (n := 157) rfl ?_
            refine k_top (fun w hat => ?_)
            have hh3 := hitM3 hat
            refine k_istore Xc d_M_isMiddleInside_157 (by decide) (n := 159) rfl ?_
            refine k_iload Xc d_M_isMiddleInside_159 rfl (n := 161) rfl ?_
            refine k_if_le Xc d_M_isMiddleInside_161 (t := 168) (n := 164) rfl rfl (by omega) (fun h_161 => ?_) (fun h_161 => ?_)
            · refine k_iconst Xc d_M_isMiddleInside_168 (n := 169) rfl ?_
              refine k_iload Xc d_M_isMiddleInside_169 rfl (n := 171) rfl ?_
              refine k_iload Xc d_M_isMiddleInside_171 rfl (n := 173) rfl ?_
              refine k_icmp_le Xc d_M_isMiddleInside_173 (t := 180) (n := 176) rfl rfl (by omega) (by omega) (fun h_173 => ?_) (fun h_173 => ?_)
              · refine k_iconst Xc d_M_isMiddleInside_180 (n := 181) rfl ?_
                refine k_icmp_ne Xc d_M_isMiddleInside_181 (t := 196) (n := 184) rfl rfl (by omega) (by omega) (fun h_181 => absurd h_181 (by omega)) (fun _ => ?_)
                refine k_iload_n Xc d_M_isMiddleInside_184 rfl rfl (n := 185) rfl ?_
                refine k_if_ne Xc d_M_isMiddleInside_185 (t := 192) (n := 188) rfl rfl (by omega) (fun h_185 => ?_) (fun h_185 => ?_)
                · refine k_iconst Xc d_M_isMiddleInside_192 (n := 193) rfl ?_
                  refine k_goto Xc d_M_isMiddleInside_193 (t := 197) rfl ?_
                  refine k_istore_n Xc d_M_isMiddleInside_197 rfl (by decide) (n := 198) rfl ?_
                  refine k_iinc Xc d_M_isMiddleInside_198 rfl (by decide) (n := 201) rfl ?_
                  refine k_goto Xc d_M_isMiddleInside_201 (t := 47) rfl ?_
                  exact k_loc (ih (i + 1) 0 (by omega) (by omega) (odM_flip ho (hh3.mpr (by omega)) (by omega))) rfl
                · refine k_iconst Xc d_M_isMiddleInside_188 (n := 189) rfl ?_
                  refine k_goto Xc d_M_isMiddleInside_189 (t := 197) rfl ?_
                  refine k_istore_n Xc d_M_isMiddleInside_197 rfl (by decide) (n := 198) rfl ?_
                  refine k_iinc Xc d_M_isMiddleInside_198 rfl (by decide) (n := 201) rfl ?_
                  refine k_goto Xc d_M_isMiddleInside_201 (t := 47) rfl ?_
                  exact k_loc (ih (i + 1) 1 (by omega) (by omega) (odM_flip ho (hh3.mpr (by omega)) (by omega))) rfl
              · refine k_iconst Xc d_M_isMiddleInside_176 (n := 177) rfl ?_
                refine k_goto Xc d_M_isMiddleInside_177 (t := 181) rfl ?_
                refine k_icmp_ne Xc d_M_isMiddleInside_181 (t := 196) (n := 184) rfl rfl (by omega) (by omega) (fun _ => ?_) (fun h_181 => absurd h_181 (by omega))
                refine k_iload_n Xc d_M_isMiddleInside_196 rfl rfl (n := 197) rfl ?_
                refine k_istore_n Xc d_M_isMiddleInside_197 rfl (by decide) (n := 198) rfl ?_
                refine k_iinc Xc d_M_isMiddleInside_198 rfl (by decide) (n := 201) rfl ?_
                refine k_goto Xc d_M_isMiddleInside_201 (t := 47) rfl ?_
                exact k_loc (ih (i + 1) t (by omega) (by omega) (odM_keep ho (by first | (intro q; have := hh3.mp q; omega) | exact hitM_no (by omega)))) rfl
            · refine k_iconst Xc d_M_isMiddleInside_164 (n := 165) rfl ?_
              refine k_goto Xc d_M_isMiddleInside_165 (t := 169) rfl ?_
              refine k_iload Xc d_M_isMiddleInside_169 rfl (n := 171) rfl ?_
              refine k_iload Xc d_M_isMiddleInside_171 rfl (n := 173) rfl ?_
              refine k_icmp_le Xc d_M_isMiddleInside_173 (t := 180) (n := 176) rfl rfl (by omega) (by omega) (fun h_173 => ?_) (fun h_173 => ?_)
              · refine k_iconst Xc d_M_isMiddleInside_180 (n := 181) rfl ?_
                refine k_icmp_ne Xc d_M_isMiddleInside_181 (t := 196) (n := 184) rfl rfl (by omega) (by omega) (fun _ => ?_) (fun h_181 => absurd h_181 (by omega))
                refine k_iload_n Xc d_M_isMiddleInside_196 rfl rfl (n := 197) rfl ?_
                refine k_istore_n Xc d_M_isMiddleInside_197 rfl (by decide) (n := 198) rfl ?_
                refine k_iinc Xc d_M_isMiddleInside_198 rfl (by decide) (n := 201) rfl ?_
                refine k_goto Xc d_M_isMiddleInside_201 (t := 47) rfl ?_
                exact k_loc (ih (i + 1) t (by omega) (by omega) (odM_keep ho (by first | (intro q; have := hh3.mp q; omega) | exact hitM_no (by omega)))) rfl
              · refine k_iconst Xc d_M_isMiddleInside_176 (n := 177) rfl ?_
                refine k_goto Xc d_M_isMiddleInside_177 (t := 181) rfl ?_
                refine k_icmp_ne Xc d_M_isMiddleInside_181 (t := 196) (n := 184) rfl rfl (by omega) (by omega) (fun h_181 => absurd h_181 (by omega)) (fun _ => ?_)
                refine k_iload_n Xc d_M_isMiddleInside_184 rfl rfl (n := 185) rfl ?_
                refine k_if_ne Xc d_M_isMiddleInside_185 (t := 192) (n := 188) rfl rfl (by omega) (fun h_185 => ?_) (fun h_185 => ?_)
                · refine k_iconst Xc d_M_isMiddleInside_192 (n := 193) rfl ?_
                  refine k_goto Xc d_M_isMiddleInside_193 (t := 197) rfl ?_
                  refine k_istore_n Xc d_M_isMiddleInside_197 rfl (by decide) (n := 198) rfl ?_
                  refine k_iinc Xc d_M_isMiddleInside_198 rfl (by decide) (n := 201) rfl ?_
                  refine k_goto Xc d_M_isMiddleInside_201 (t := 47) rfl ?_
                  exact k_loc (ih (i + 1) 0 (by omega) (by omega) (odM_flip ho (hh3.mpr (by omega)) (by omega))) rfl
                · refine k_iconst Xc d_M_isMiddleInside_188 (n := 189) rfl ?_
                  refine k_goto Xc d_M_isMiddleInside_189 (t := 197) rfl ?_
                  refine k_istore_n Xc d_M_isMiddleInside_197 rfl (by decide) (n := 198) rfl ?_
                  refine k_iinc Xc d_M_isMiddleInside_198 rfl (by decide) (n := 201) rfl ?_
                  refine k_goto Xc d_M_isMiddleInside_201 (t := 47) rfl ?_
                  exact k_loc (ih (i + 1) 1 (by omega) (by omega) (odM_flip ho (hh3.mpr (by omega)) (by omega))) rfl
          · refine k_iconst Xc d_M_isMiddleInside_128 (n := 129) rfl ?_
            refine k_goto Xc d_M_isMiddleInside_129 (t := 133) rfl ?_
            refine k_icmp_eq Xc d_M_isMiddleInside_133 (t := 198) (n := 136) rfl rfl (by omega) (by omega) (fun _ => ?_) (fun h_133 => absurd h_133 (by omega))
            refine k_iinc Xc d_M_isMiddleInside_198 rfl (by decide) (n := 201) rfl ?_
            refine k_goto Xc d_M_isMiddleInside_201 (t := 47) rfl ?_
            exact k_loc (ih (i + 1) t (by omega) (by omega) (odM_keep ho (by first | (intro q; have := hh3.mp q; omega) | exact hitM_no (by omega)))) rfl
  refine k_aload_n Xc d_M_isMiddleInside_0 rfl rfl (n := 1) rfl ?_
  refine k_get Xc u_M rfl 25 (by decide) wd_575 rfl d_M_isMiddleInside_1 (n := 4) rfl hM.1 hM.2.2.1 rfl ?_
  refine k_iconst Xc d_M_isMiddleInside_4 (n := 5) rfl ?_
  refine k_iald Xc d_M_isMiddleInside_5 (n := 6) rfl (hM.2.1 19 (by decide)) (mr_19 hM) (by omega) (by omega) (by decide) ?_
  refine k_aload_n Xc d_M_isMiddleInside_6 rfl rfl (n := 7) rfl ?_
  refine k_get Xc u_M rfl 25 (by decide) wd_575 rfl d_M_isMiddleInside_7 (n := 10) rfl hM.1 hM.2.2.1 rfl ?_
  refine k_iconst Xc d_M_isMiddleInside_10 (n := 11) rfl ?_
  refine k_iald Xc d_M_isMiddleInside_11 (n := 12) rfl (hM.2.1 19 (by decide)) (mr_19 hM) (by omega) (by omega) (by decide) ?_
  refine k_iadd Xc d_M_isMiddleInside_12 (n := 13) rfl ?_
  refine k_aload_n Xc d_M_isMiddleInside_13 rfl rfl (n := 14) rfl ?_
  refine k_get Xc u_M rfl 25 (by decide) wd_575 rfl d_M_isMiddleInside_14 (n := 17) rfl hM.1 hM.2.2.1 rfl ?_
  refine k_iconst Xc d_M_isMiddleInside_17 (n := 18) rfl ?_
  refine k_iald Xc d_M_isMiddleInside_18 (n := 19) rfl (hM.2.1 19 (by decide)) (mr_19 hM) (by omega) (by omega) (by decide) ?_
  refine k_iadd Xc d_M_isMiddleInside_19 (n := 20) rfl ?_
  refine k_val hma.symm ?_
  refine k_istore_n Xc d_M_isMiddleInside_20 rfl (by decide) (n := 21) rfl ?_
  refine k_aload_n Xc d_M_isMiddleInside_21 rfl rfl (n := 22) rfl ?_
  refine k_get Xc u_M rfl 26 (by decide) wd_576 rfl d_M_isMiddleInside_22 (n := 25) rfl hM.1 hM.2.2.1 rfl ?_
  refine k_iconst Xc d_M_isMiddleInside_25 (n := 26) rfl ?_
  refine k_iald Xc d_M_isMiddleInside_26 (n := 27) rfl (hM.2.1 20 (by decide)) (mr_20 hM) (by omega) (by omega) (by decide) ?_
  refine k_aload_n Xc d_M_isMiddleInside_27 rfl rfl (n := 28) rfl ?_
  refine k_get Xc u_M rfl 26 (by decide) wd_576 rfl d_M_isMiddleInside_28 (n := 31) rfl hM.1 hM.2.2.1 rfl ?_
  refine k_iconst Xc d_M_isMiddleInside_31 (n := 32) rfl ?_
  refine k_iald Xc d_M_isMiddleInside_32 (n := 33) rfl (hM.2.1 20 (by decide)) (mr_20 hM) (by omega) (by omega) (by decide) ?_
  refine k_iadd Xc d_M_isMiddleInside_33 (n := 34) rfl ?_
  refine k_aload_n Xc d_M_isMiddleInside_34 rfl rfl (n := 35) rfl ?_
  refine k_get Xc u_M rfl 26 (by decide) wd_576 rfl d_M_isMiddleInside_35 (n := 38) rfl hM.1 hM.2.2.1 rfl ?_
  refine k_iconst Xc d_M_isMiddleInside_38 (n := 39) rfl ?_
  refine k_iald Xc d_M_isMiddleInside_39 (n := 40) rfl (hM.2.1 20 (by decide)) (mr_20 hM) (by omega) (by omega) (by decide) ?_
  refine k_iadd Xc d_M_isMiddleInside_40 (n := 41) rfl ?_
  refine k_val hmb.symm ?_
  refine k_istore_n Xc d_M_isMiddleInside_41 rfl (by decide) (n := 42) rfl ?_
  refine k_iconst Xc d_M_isMiddleInside_42 (n := 43) rfl ?_
  refine k_istore_n Xc d_M_isMiddleInside_43 rfl (by decide) (n := 44) rfl ?_
  refine k_iconst Xc d_M_isMiddleInside_44 (n := 45) rfl ?_
  refine k_istore Xc d_M_isMiddleInside_45 (by decide) (n := 47) rfl ?_
  exact k_loc (loop (h + 1) 0 0 (by omega) (by omega) (Or.inr ⟨fun q => q, rfl⟩)) rfl
