-- MODEL: plain and round
def mPl (n : Nat) (P : Nat → Int × Int) (i : Nat) : Prop := (¬ ge_onI P i (ge_nx n i) (ge_nx n (ge_nx n i)) ∧ ¬ ge_onI P (ge_nx n i) (ge_nx n (ge_nx n i)) i) ∧ ∀ k, k < n → ¬ ((k ≠ i ∧ k ≠ ge_nx n i ∧ ge_nx n k ≠ i) ∧ ge_mtM n P i k)
theorem md_nx2 {n i : Nat} (h : i < n) (h2 : 2 ≤ n) : ((i : Int) + 2) % (n : Int) = ((ge_nx n (ge_nx n i) : Nat) : Int) := by
  unfold ge_nx
  by_cases a : i + 2 < n
  · rw [if_pos (show i + 1 < n by omega), if_pos (by omega), Int.emod_eq_of_lt (by omega) (by omega)]; omega
  · by_cases b : i + 2 = n
    · rw [if_pos (show i + 1 < n by omega), if_neg (by omega), show (i : Int) + 2 = (n : Int) by omega, Int.emod_self]; rfl
    · rw [if_neg (show ¬ i + 1 < n by omega), if_pos (by omega), show (i : Int) + 2 = 1 + (n : Int) by omega, Int.add_emod_right, Int.emod_eq_of_lt (by omega) (by omega)]; rfl
/-- what a corner counts: true: to the left, false: to the right -/
def mrc (n : Nat) (P : Nat → Int × Int) (b : Bool) (i k : Nat) : Nat := if k ≠ i ∧ k ≠ ge_nx n i then (if (if b = true then decide (0 < ge_crI P i (ge_nx n i) k) else decide (ge_crI P i (ge_nx n i) k < 0)) = true then 1 else 0) else 0
def mri (n : Nat) (P : Nat → Int × Int) (b : Bool) (i k : Nat) : Nat := ge_sumN (mrc n P b i) k
def mrs (n : Nat) (P : Nat → Int × Int) (b : Bool) (i : Nat) : Nat := ge_sumN (fun i => mri n P b i n) i
theorem mri_s (n : Nat) (P : Nat → Int × Int) (b : Bool) (i k : Nat) : mri n P b i (k + 1) = mri n P b i k + mrc n P b i k := rfl
theorem mrs_s (n : Nat) (P : Nat → Int × Int) (b : Bool) (i : Nat) : mrs n P b (i + 1) = mrs n P b i + mri n P b i n := rfl
theorem mrc_le (n : Nat) (P : Nat → Int × Int) (b : Bool) (i k : Nat) : mrc n P b i k ≤ 1 := by
  unfold mrc
  repeat' split
  all_goals omega
theorem mri_le (n : Nat) (P : Nat → Int × Int) (b : Bool) (i : Nat) : ∀ k, mri n P b i k ≤ k
  | 0 => Nat.le_refl 0
  | k + 1 => by have a := mri_le n P b i k; have c := mrc_le n P b i k; rw [mri_s]; omega
theorem mrs_le (n : Nat) (P : Nat → Int × Int) (b : Bool) : ∀ i, mrs n P b i ≤ i * n
  | 0 => by show 0 ≤ _; omega
  | i + 1 => by have a := mrs_le n P b i; have c := mri_le n P b i n; rw [mrs_s, Nat.succ_mul]; omega
theorem mrs_bd (n : Nat) (P : Nat → Int × Int) (b : Bool) (i : Nat) (hi : i ≤ 6 ∧ n ≤ 6) : mrs n P b i ≤ 36 := Nat.le_trans (mrs_le n P b i) (Nat.mul_le_mul hi.1 hi.2)
theorem mrc_0 {n : Nat} {P : Nat → Int × Int} {b : Bool} {i k : Nat} (h : k = i ∨ k = ge_nx n i) : mrc n P b i k = 0 := by
  unfold mrc; rw [if_neg (by omega)]
theorem mrc_t {n : Nat} {P : Nat → Int × Int} {i k : Nat} (h1 : k ≠ i) (h2 : k ≠ ge_nx n i) (h3 : 0 < ge_crI P i (ge_nx n i) k) : mrc n P true i k = 1 := by
  unfold mrc; rw [if_pos ⟨h1, h2⟩]; simp [h3]
theorem mrc_tn {n : Nat} {P : Nat → Int × Int} {i k : Nat} (h1 : k ≠ i) (h2 : k ≠ ge_nx n i) (h3 : ¬ 0 < ge_crI P i (ge_nx n i) k) : mrc n P true i k = 0 := by
  unfold mrc; rw [if_pos ⟨h1, h2⟩]; simp [h3]
theorem mrc_f {n : Nat} {P : Nat → Int × Int} {i k : Nat} (h1 : k ≠ i) (h2 : k ≠ ge_nx n i) (h3 : ge_crI P i (ge_nx n i) k < 0) : mrc n P false i k = 1 := by
  unfold mrc; rw [if_pos ⟨h1, h2⟩]; simp [h3]
theorem mrc_fn {n : Nat} {P : Nat → Int × Int} {i k : Nat} (h1 : k ≠ i) (h2 : k ≠ ge_nx n i) (h3 : ¬ ge_crI P i (ge_nx n i) k < 0) : mrc n P false i k = 0 := by
  unfold mrc; rw [if_pos ⟨h1, h2⟩]; simp [h3]
theorem mn2 {n : Nat} (h : 3 ≤ n) : (n : Int) * ((n : Int) - 2) = ((n * (n - 2) : Nat) : Int) := by
  rw [Int.natCast_mul, Int.natCast_sub (by omega)]; rfl
theorem mn3 {n : Nat} (h : 3 ≤ n) (h6 : n ≤ 6) : n * (n - 2) ≤ 24 := Nat.mul_le_mul h6 (by omega : n - 2 ≤ 4)
set_option maxRecDepth 100000 in
set_option maxHeartbeats 4000000 in
/-- plain -/
theorem m_M_isPlain (l : Launch) (D : va_G) (G : Nat → ClassId) {L : List Nat} {f : Nat → va_E} {o : Nat} {ra : Nat → Nat} {cd wt hc zn kn mn om : Int} {R : Nat → Int → Int} (hM : zMo G L f o ra cd wt hc zn kn mn om R) (hW : sB 12 (R 0) (R 1)) (n : Nat) (h3 : 3 ≤ n) (hn : n ≤ 12) : zM l D G y_M_isPlain (.code y_M_isPlain c_M_isPlain 8 (some .boolean) :: BG) (zR0 3 77) [.ref o, .int (zI (n : Int))] L f (zA L f (fun r => zB (ge_plM n (sP (R 0) (R 1))) r)) := by
  refine zM.of (by decide) (Nat.le_of_ble_eq_true rfl) rfl (fun p e s m args below meth c A Xc hr hnm => ?_)
  have loop : ∀ (d i : Nat) (b : Int), n < i + d → i ≤ n → zB (∀ i2, i2 < i → mPl n (sP (R 0) (R 1)) i2) b → zG p l e (zR0 3 77) s m args below meth c D A 8 0 0 (MQ below (zE D A (zA L f (fun r => zB (ge_plM n (sP (R 0) (R 1))) r))) args s (zR0 3 77).cells (zR0 3 77).slots A) 4 [(0, .ref o), (1, .int (zI (n : Int))), (2, .int (zI b)), (3, .int (zI (i : Int)))] [] L f := by
    intro d
    induction d with
    | zero => intro i b h1 h2; omega
    | succ d ih =>
      intro i b h1 h2 hb
      have hb1 := zB_01 hb
      have inner : i < n → ∀ (d2 k : Nat) (b : Int), n < k + d2 → k ≤ n → zB ((∀ i2, i2 < i → mPl n (sP (R 0) (R 1)) i2) ∧ (¬ ge_onI (sP (R 0) (R 1)) i (ge_nx n i) (ge_nx n (ge_nx n i)) ∧ ¬ ge_onI (sP (R 0) (R 1)) (ge_nx n i) (ge_nx n (ge_nx n i)) i) ∧ ∀ k2, k2 < k → ¬ ((k2 ≠ i ∧ k2 ≠ ge_nx n i ∧ ge_nx n k2 ≠ i) ∧ ge_mtM n (sP (R 0) (R 1)) i k2)) b → zG p l e (zR0 3 77) s m args below meth c D A 8 0 0 (MQ below (zE D A (zA L f (fun r => zB (ge_plM n (sP (R 0) (R 1))) r))) args s (zR0 3 77).cells (zR0 3 77).slots A) 60 [(0, .ref o), (1, .int (zI (n : Int))), (2, .int (zI b)), (3, .int (zI (i : Int))), (4, .int (zI ((ge_nx n i : Nat) : Int))), (5, .int (zI ((ge_nx n (ge_nx n i) : Nat) : Int))), (6, .int (zI (k : Int)))] [] L f := by
        intro hi d2
        induction d2 with
        | zero => intro k b g1 g2; omega
        | succ d2 ih2 =>
          intro k b g1 g2 hb
          have hb1 := zB_01 hb
          have l1 : ge_nx n i < n := nx_lt (by omega)
          have l9 : ge_nx n k < n := nx_lt (by omega)
          refine k_iload Xc d_M_isPlain_60 rfl (n := 62) rfl ?_
          refine k_iload_n Xc d_M_isPlain_62 rfl rfl (n := 63) rfl ?_
          refine k_icmp_ge Xc d_M_isPlain_63 (t := 128) (n := 66) rfl rfl (by omega) (by omega) (fun h_63 => ?_) (fun h_63 => ?_)
          · refine k_iinc Xc d_M_isPlain_128 rfl (by decide) (n := 131) rfl ?_
            refine k_goto Xc d_M_isPlain_131 (t := 4) rfl ?_
            have ek : k = n := by omega
            subst ek
            refine k_loc (ih (i + 1) b (by omega) (by omega) ?_) rfl
            rcases hb with ⟨q, z⟩ | ⟨q, z⟩
            · refine Or.inl ⟨fun i2 y => ?_, z⟩
              rcases Nat.lt_or_ge i2 i with q1 | q1
              · exact q.1 i2 q1
              · have e : i2 = i := by omega
                subst e
                exact ⟨q.2.1, q.2.2⟩
            · exact Or.inr ⟨fun y => q ⟨fun i2 y2 => y i2 (by omega), (y i (by omega)).1, (y i (by omega)).2⟩, z⟩
          · refine k_iload Xc d_M_isPlain_66 rfl (n := 68) rfl ?_
            refine k_iload_n Xc d_M_isPlain_68 rfl rfl (n := 69) rfl ?_
            refine k_icmp_eq Xc d_M_isPlain_69 (t := 93) (n := 72) rfl rfl (by omega) (by omega) (fun h_69 => ?_) (fun h_69 => ?_)
            · refine k_iconst Xc d_M_isPlain_93 (n := 94) rfl ?_
              refine k_istore Xc d_M_isPlain_94 (by decide) (n := 96) rfl ?_
              refine k_iload_n Xc d_M_isPlain_96 rfl rfl (n := 97) rfl ?_
              refine k_if_eq Xc d_M_isPlain_97 (t := 120) (n := 100) rfl rfl (by omega) (fun h_97 => ?_) (fun h_97 => ?_)
              · refine k_iconst Xc d_M_isPlain_120 (n := 121) rfl ?_
                refine k_istore_n Xc d_M_isPlain_121 rfl (by decide) (n := 122) rfl ?_
                refine k_iinc Xc d_M_isPlain_122 rfl (by decide) (n := 125) rfl ?_
                refine k_goto Xc d_M_isPlain_125 (t := 60) rfl ?_
                exact k_loc (ih2 (k + 1) 0 (by omega) (by omega) (Or.inr ⟨fun q => by
                  first | exact zB_f hb (by omega) ⟨q.1, q.2.1, fun k2 z => q.2.2 k2 (by omega)⟩ | exact q.2.2 k (by omega) ⟨⟨by omega, by omega, by omega⟩, e_110⟩, rfl⟩)) rfl
              · refine k_iload Xc d_M_isPlain_100 rfl (n := 102) rfl ?_
                refine k_if_eq Xc d_M_isPlain_102 (t := 116) (n := 105) rfl rfl (by omega) (fun _ => ?_) (fun h_102 => absurd h_102 (by omega))
                refine k_iconst Xc d_M_isPlain_116 (n := 117) rfl ?_
                refine k_goto Xc d_M_isPlain_117 (t := 121) rfl ?_
                refine k_istore_n Xc d_M_isPlain_121 rfl (by decide) (n := 122) rfl ?_
                refine k_iinc Xc d_M_isPlain_122 rfl (by decide) (n := 125) rfl ?_
                refine k_goto Xc d_M_isPlain_125 (t := 60) rfl ?_
                exact k_loc (ih2 (k + 1) 1 (by omega) (by omega) (Or.inl ⟨⟨(zB_t hb (by omega)).1, (zB_t hb (by omega)).2.1, fun k2 q => by
                  rcases Nat.lt_or_ge k2 k with q3 | q3
                  · exact (zB_t hb (by omega)).2.2 k2 q3
                  · have e : k2 = k := by omega
                    subst e
                    intro z
                    obtain ⟨⟨z1, z2, z3⟩, z4⟩ := z
                    first | contradiction | omega⟩, rfl⟩)) rfl
            · refine k_iload Xc d_M_isPlain_72 rfl (n := 74) rfl ?_
              refine k_iload Xc d_M_isPlain_74 rfl (n := 76) rfl ?_
              refine k_icmp_eq Xc d_M_isPlain_76 (t := 93) (n := 79) rfl rfl (by omega) (by omega) (fun h_76 => ?_) (fun h_76 => ?_)
              · refine k_iconst Xc d_M_isPlain_93 (n := 94) rfl ?_
                refine k_istore Xc d_M_isPlain_94 (by decide) (n := 96) rfl ?_
                refine k_iload_n Xc d_M_isPlain_96 rfl rfl (n := 97) rfl ?_
                refine k_if_eq Xc d_M_isPlain_97 (t := 120) (n := 100) rfl rfl (by omega) (fun h_97 => ?_) (fun h_97 => ?_)
                · refine k_iconst Xc d_M_isPlain_120 (n := 121) rfl ?_
                  refine k_istore_n Xc d_M_isPlain_121 rfl (by decide) (n := 122) rfl ?_
                  refine k_iinc Xc d_M_isPlain_122 rfl (by decide) (n := 125) rfl ?_
                  refine k_goto Xc d_M_isPlain_125 (t := 60) rfl ?_
                  exact k_loc (ih2 (k + 1) 0 (by omega) (by omega) (Or.inr ⟨fun q => by
                    first | exact zB_f hb (by omega) ⟨q.1, q.2.1, fun k2 z => q.2.2 k2 (by omega)⟩ | exact q.2.2 k (by omega) ⟨⟨by omega, by omega, by omega⟩, e_110⟩, rfl⟩)) rfl
                · refine k_iload Xc d_M_isPlain_100 rfl (n := 102) rfl ?_
                  refine k_if_eq Xc d_M_isPlain_102 (t := 116) (n := 105) rfl rfl (by omega) (fun _ => ?_) (fun h_102 => absurd h_102 (by omega))
                  refine k_iconst Xc d_M_isPlain_116 (n := 117) rfl ?_
                  refine k_goto Xc d_M_isPlain_117 (t := 121) rfl ?_
                  refine k_istore_n Xc d_M_isPlain_121 rfl (by decide) (n := 122) rfl ?_
                  refine k_iinc Xc d_M_isPlain_122 rfl (by decide) (n := 125) rfl ?_
                  refine k_goto Xc d_M_isPlain_125 (t := 60) rfl ?_
                  exact k_loc (ih2 (k + 1) 1 (by omega) (by omega) (Or.inl ⟨⟨(zB_t hb (by omega)).1, (zB_t hb (by omega)).2.1, fun k2 q => by
                    rcases Nat.lt_or_ge k2 k with q3 | q3
                    · exact (zB_t hb (by omega)).2.2 k2 q3
                    · have e : k2 = k := by omega
                      subst e
                      intro z
                      obtain ⟨⟨z1, z2, z3⟩, z4⟩ := z
                      first | contradiction | omega⟩, rfl⟩)) rfl
              · refine k_iload Xc d_M_isPlain_79 rfl (n := 81) rfl ?_
                refine k_iconst Xc d_M_isPlain_81 (n := 82) rfl ?_
                refine k_iadd Xc d_M_isPlain_82 (n := 83) rfl ?_
                refine k_iload_n Xc d_M_isPlain_83 rfl rfl (n := 84) rfl ?_
                refine k_irem Xc d_M_isPlain_84 (n := 85) rfl (by omega) (by omega) (by omega) (by omega) ?_
                refine k_val (md_nx (n := n) (i := k) (by omega)) ?_
                refine k_iload_n Xc d_M_isPlain_85 rfl rfl (n := 86) rfl ?_
                refine k_icmp_eq Xc d_M_isPlain_86 (t := 93) (n := 89) rfl rfl (by omega) (by omega) (fun h_86 => ?_) (fun h_86 => ?_)
                · refine k_iconst Xc d_M_isPlain_93 (n := 94) rfl ?_
                  refine k_istore Xc d_M_isPlain_94 (by decide) (n := 96) rfl ?_
                  refine k_iload_n Xc d_M_isPlain_96 rfl rfl (n := 97) rfl ?_
                  refine k_if_eq Xc d_M_isPlain_97 (t := 120) (n := 100) rfl rfl (by omega) (fun h_97 => ?_) (fun h_97 => ?_)
                  · refine k_iconst Xc d_M_isPlain_120 (n := 121) rfl ?_
                    refine k_istore_n Xc d_M_isPlain_121 rfl (by decide) (n := 122) rfl ?_
                    refine k_iinc Xc d_M_isPlain_122 rfl (by decide) (n := 125) rfl ?_
                    refine k_goto Xc d_M_isPlain_125 (t := 60) rfl ?_
                    exact k_loc (ih2 (k + 1) 0 (by omega) (by omega) (Or.inr ⟨fun q => by
                      first | exact zB_f hb (by omega) ⟨q.1, q.2.1, fun k2 z => q.2.2 k2 (by omega)⟩ | exact q.2.2 k (by omega) ⟨⟨by omega, by omega, by omega⟩, e_110⟩, rfl⟩)) rfl
                  · refine k_iload Xc d_M_isPlain_100 rfl (n := 102) rfl ?_
                    refine k_if_eq Xc d_M_isPlain_102 (t := 116) (n := 105) rfl rfl (by omega) (fun _ => ?_) (fun h_102 => absurd h_102 (by omega))
                    refine k_iconst Xc d_M_isPlain_116 (n := 117) rfl ?_
                    refine k_goto Xc d_M_isPlain_117 (t := 121) rfl ?_
                    refine k_istore_n Xc d_M_isPlain_121 rfl (by decide) (n := 122) rfl ?_
                    refine k_iinc Xc d_M_isPlain_122 rfl (by decide) (n := 125) rfl ?_
                    refine k_goto Xc d_M_isPlain_125 (t := 60) rfl ?_
                    exact k_loc (ih2 (k + 1) 1 (by omega) (by omega) (Or.inl ⟨⟨(zB_t hb (by omega)).1, (zB_t hb (by omega)).2.1, fun k2 q => by
                      rcases Nat.lt_or_ge k2 k with q3 | q3
                      · exact (zB_t hb (by omega)).2.2 k2 q3
                      · have e : k2 = k := by omega
                        subst e
                        intro z
                        obtain ⟨⟨z1, z2, z3⟩, z4⟩ := z
                        first | contradiction | omega⟩, rfl⟩)) rfl
                · refine k_iconst Xc d_M_isPlain_89 (n := 90) rfl ?_
                  refine k_goto Xc d_M_isPlain_90 (t := 94) rfl ?_
                  refine k_istore Xc d_M_isPlain_94 (by decide) (n := 96) rfl ?_
                  refine k_iload_n Xc d_M_isPlain_96 rfl rfl (n := 97) rfl ?_
                  refine k_if_eq Xc d_M_isPlain_97 (t := 120) (n := 100) rfl rfl (by omega) (fun h_97 => ?_) (fun h_97 => ?_)
                  · refine k_iconst Xc d_M_isPlain_120 (n := 121) rfl ?_
                    refine k_istore_n Xc d_M_isPlain_121 rfl (by decide) (n := 122) rfl ?_
                    refine k_iinc Xc d_M_isPlain_122 rfl (by decide) (n := 125) rfl ?_
                    refine k_goto Xc d_M_isPlain_125 (t := 60) rfl ?_
                    exact k_loc (ih2 (k + 1) 0 (by omega) (by omega) (Or.inr ⟨fun q => by
                      first | exact zB_f hb (by omega) ⟨q.1, q.2.1, fun k2 z => q.2.2 k2 (by omega)⟩ | exact q.2.2 k (by omega) ⟨⟨by omega, by omega, by omega⟩, e_110⟩, rfl⟩)) rfl
                  · refine k_iload Xc d_M_isPlain_100 rfl (n := 102) rfl ?_
                    refine k_if_eq Xc d_M_isPlain_102 (t := 116) (n := 105) rfl rfl (by omega) (fun h_102 => absurd h_102 (by omega)) (fun _ => ?_)
                    refine k_aload_n Xc d_M_isPlain_105 rfl rfl (n := 106) rfl ?_
                    refine k_iload_n Xc d_M_isPlain_106 rfl rfl (n := 107) rfl ?_
                    refine k_iload Xc d_M_isPlain_107 rfl (n := 109) rfl ?_
                    refine k_iload_n Xc d_M_isPlain_109 rfl rfl (n := 110) rfl ?_
                    refine k_qV (na := 3) Xc (m_M_meet l D G hM hW _ _ _ (by omega) (by omega) (by omega)) hM.1 hM.2.2.1 rfl wd_676 wd_673 wd_675 ws_14 wd_6 (by decide +kernel) ⟨by decide, by decide⟩ rfl rfl (Nat.le_of_ble_eq_true rfl) d_M_isPlain_110 (n := 113) rfl ⟨Nat.zero_le _, Nat.zero_le _⟩ (fun r_110 e_110 => ?_)
                    rcases e_110 with ⟨e_110, rfl⟩ | ⟨e_110, rfl⟩
                    · refine k_if_ne Xc d_M_isPlain_113 (t := 120) (n := 116) rfl rfl (by omega) (fun _ => ?_) (fun h_113 => absurd h_113 (by omega))
                      refine k_iconst Xc d_M_isPlain_120 (n := 121) rfl ?_
                      refine k_istore_n Xc d_M_isPlain_121 rfl (by decide) (n := 122) rfl ?_
                      refine k_iinc Xc d_M_isPlain_122 rfl (by decide) (n := 125) rfl ?_
                      refine k_goto Xc d_M_isPlain_125 (t := 60) rfl ?_
                      exact k_loc (ih2 (k + 1) 0 (by omega) (by omega) (Or.inr ⟨fun q => by
                        first | exact zB_f hb (by omega) ⟨q.1, q.2.1, fun k2 z => q.2.2 k2 (by omega)⟩ | exact q.2.2 k (by omega) ⟨⟨by omega, by omega, by omega⟩, e_110⟩, rfl⟩)) rfl
                    · refine k_if_ne Xc d_M_isPlain_113 (t := 120) (n := 116) rfl rfl (by omega) (fun h_113 => absurd h_113 (by omega)) (fun _ => ?_)
                      refine k_iconst Xc d_M_isPlain_116 (n := 117) rfl ?_
                      refine k_goto Xc d_M_isPlain_117 (t := 121) rfl ?_
                      refine k_istore_n Xc d_M_isPlain_121 rfl (by decide) (n := 122) rfl ?_
                      refine k_iinc Xc d_M_isPlain_122 rfl (by decide) (n := 125) rfl ?_
                      refine k_goto Xc d_M_isPlain_125 (t := 60) rfl ?_
                      exact k_loc (ih2 (k + 1) 1 (by omega) (by omega) (Or.inl ⟨⟨(zB_t hb (by omega)).1, (zB_t hb (by omega)).2.1, fun k2 q => by
                        rcases Nat.lt_or_ge k2 k with q3 | q3
                        · exact (zB_t hb (by omega)).2.2 k2 q3
                        · have e : k2 = k := by omega
                          subst e
                          intro z
                          obtain ⟨⟨z1, z2, z3⟩, z4⟩ := z
                          first | contradiction | omega⟩, rfl⟩)) rfl
      refine k_iload_n Xc d_M_isPlain_4 rfl rfl (n := 5) rfl ?_
      refine k_iload_n Xc d_M_isPlain_5 rfl rfl (n := 6) rfl ?_
      refine k_icmp_ge Xc d_M_isPlain_6 (t := 134) (n := 9) rfl rfl (by omega) (by omega) (fun h_6 => ?_) (fun h_6 => ?_)
      · refine k_iload_n Xc d_M_isPlain_134 rfl rfl (n := 135) rfl ?_
        refine k_iret Xc d_M_isPlain_135 hr (nar_b hb1) (Nat.le_refl _) (Nat.le_refl _) ⟨_, rfl, ?_, rfl, rfl⟩
        have ei : i = n := by omega
        subst ei
        exact hb
      · refine k_iload_n Xc d_M_isPlain_9 rfl rfl (n := 10) rfl ?_
        refine k_iconst Xc d_M_isPlain_10 (n := 11) rfl ?_
        refine k_iadd Xc d_M_isPlain_11 (n := 12) rfl ?_
        refine k_iload_n Xc d_M_isPlain_12 rfl rfl (n := 13) rfl ?_
        refine k_irem Xc d_M_isPlain_13 (n := 14) rfl (by omega) (by omega) (by omega) (by omega) ?_
        refine k_val (md_nx (n := n) (i := i) (by omega)) ?_
        refine k_istore Xc d_M_isPlain_14 (by decide) (n := 16) rfl ?_
        refine k_iload_n Xc d_M_isPlain_16 rfl rfl (n := 17) rfl ?_
        refine k_iconst Xc d_M_isPlain_17 (n := 18) rfl ?_
        refine k_iadd Xc d_M_isPlain_18 (n := 19) rfl ?_
        refine k_iload_n Xc d_M_isPlain_19 rfl rfl (n := 20) rfl ?_
        refine k_irem Xc d_M_isPlain_20 (n := 21) rfl (by omega) (by omega) (by omega) (by omega) ?_
        refine k_val (md_nx2 (n := n) (i := i) (by omega) (by omega)) ?_
        have l1 : ge_nx n i < n := nx_lt (by omega)
        have l2 : ge_nx n (ge_nx n i) < n := nx_lt (by omega)
        refine k_istore Xc d_M_isPlain_21 (by decide) (n := 23) rfl ?_
        refine k_iload_n Xc d_M_isPlain_23 rfl rfl (n := 24) rfl ?_
        refine k_if_eq Xc d_M_isPlain_24 (t := 55) (n := 27) rfl rfl (by omega) (fun h_24 => ?_) (fun h_24 => ?_)
        · refine k_iconst Xc d_M_isPlain_55 (n := 56) rfl ?_
          refine k_istore_n Xc d_M_isPlain_56 rfl (by decide) (n := 57) rfl ?_
          refine k_iconst Xc d_M_isPlain_57 (n := 58) rfl ?_
          refine k_istore Xc d_M_isPlain_58 (by decide) (n := 60) rfl ?_
          exact k_loc (inner (by omega) (n + 1) 0 0 (by omega) (by omega) (Or.inr ⟨fun q => by first | exact zB_f hb (by omega) q.1 | exact q.2.1.1 e_33 | exact q.2.1.2 e_45, rfl⟩)) rfl
        · refine k_aload_n Xc d_M_isPlain_27 rfl rfl (n := 28) rfl ?_
          refine k_iload_n Xc d_M_isPlain_28 rfl rfl (n := 29) rfl ?_
          refine k_iload Xc d_M_isPlain_29 rfl (n := 31) rfl ?_
          refine k_iload Xc d_M_isPlain_31 rfl (n := 33) rfl ?_
          refine k_qV (na := 3) Xc (m_M_isOn l D G hM hW _ _ _ (by omega) (by omega) (by omega)) hM.1 hM.2.2.1 rfl wd_664 wd_661 wd_663 ws_11 wd_6 (by decide +kernel) ⟨by decide, by decide⟩ rfl rfl (Nat.le_of_ble_eq_true rfl) d_M_isPlain_33 (n := 36) rfl ⟨Nat.zero_le _, Nat.zero_le _⟩ (fun r_33 e_33 => ?_)
          rcases e_33 with ⟨e_33, rfl⟩ | ⟨e_33, rfl⟩
          · refine k_if_ne Xc d_M_isPlain_36 (t := 55) (n := 39) rfl rfl (by omega) (fun _ => ?_) (fun h_36 => absurd h_36 (by omega))
            refine k_iconst Xc d_M_isPlain_55 (n := 56) rfl ?_
            refine k_istore_n Xc d_M_isPlain_56 rfl (by decide) (n := 57) rfl ?_
            refine k_iconst Xc d_M_isPlain_57 (n := 58) rfl ?_
            refine k_istore Xc d_M_isPlain_58 (by decide) (n := 60) rfl ?_
            exact k_loc (inner (by omega) (n + 1) 0 0 (by omega) (by omega) (Or.inr ⟨fun q => by first | exact zB_f hb (by omega) q.1 | exact q.2.1.1 e_33 | exact q.2.1.2 e_45, rfl⟩)) rfl
          · refine k_if_ne Xc d_M_isPlain_36 (t := 55) (n := 39) rfl rfl (by omega) (fun h_36 => absurd h_36 (by omega)) (fun _ => ?_)
            refine k_aload_n Xc d_M_isPlain_39 rfl rfl (n := 40) rfl ?_
            refine k_iload Xc d_M_isPlain_40 rfl (n := 42) rfl ?_
            refine k_iload Xc d_M_isPlain_42 rfl (n := 44) rfl ?_
            refine k_iload_n Xc d_M_isPlain_44 rfl rfl (n := 45) rfl ?_
            refine k_qV (na := 3) Xc (m_M_isOn l D G hM hW _ _ _ (by omega) (by omega) (by omega)) hM.1 hM.2.2.1 rfl wd_664 wd_661 wd_663 ws_11 wd_6 (by decide +kernel) ⟨by decide, by decide⟩ rfl rfl (Nat.le_of_ble_eq_true rfl) d_M_isPlain_45 (n := 48) rfl ⟨Nat.zero_le _, Nat.zero_le _⟩ (fun r_45 e_45 => ?_)
            rcases e_45 with ⟨e_45, rfl⟩ | ⟨e_45, rfl⟩
            · refine k_if_ne Xc d_M_isPlain_48 (t := 55) (n := 51) rfl rfl (by omega) (fun _ => ?_) (fun h_48 => absurd h_48 (by omega))
              refine k_iconst Xc d_M_isPlain_55 (n := 56) rfl ?_
              refine k_istore_n Xc d_M_isPlain_56 rfl (by decide) (n := 57) rfl ?_
              refine k_iconst Xc d_M_isPlain_57 (n := 58) rfl ?_
              refine k_istore Xc d_M_isPlain_58 (by decide) (n := 60) rfl ?_
              exact k_loc (inner (by omega) (n + 1) 0 0 (by omega) (by omega) (Or.inr ⟨fun q => by first | exact zB_f hb (by omega) q.1 | exact q.2.1.1 e_33 | exact q.2.1.2 e_45, rfl⟩)) rfl
            · refine k_if_ne Xc d_M_isPlain_48 (t := 55) (n := 51) rfl rfl (by omega) (fun h_48 => absurd h_48 (by omega)) (fun _ => ?_)
              refine k_iconst Xc d_M_isPlain_51 (n := 52) rfl ?_
              refine k_goto Xc d_M_isPlain_52 (t := 56) rfl ?_
              refine k_istore_n Xc d_M_isPlain_56 rfl (by decide) (n := 57) rfl ?_
              refine k_iconst Xc d_M_isPlain_57 (n := 58) rfl ?_
              refine k_istore Xc d_M_isPlain_58 (by decide) (n := 60) rfl ?_
              exact k_loc (inner (by omega) (n + 1) 0 1 (by omega) (by omega) (Or.inl ⟨⟨zB_t hb (by omega), ⟨e_33, e_45⟩, fun k2 q => absurd q (by omega)⟩, rfl⟩)) rfl
  refine k_iconst Xc d_M_isPlain_0 (n := 1) rfl ?_
  refine k_istore_n Xc d_M_isPlain_1 rfl (by decide) (n := 2) rfl ?_
  refine k_iconst Xc d_M_isPlain_2 (n := 3) rfl ?_
  refine k_istore_n Xc d_M_isPlain_3 rfl (by decide) (n := 4) rfl ?_
  exact k_loc (loop (n + 1) 0 1 (by omega) (by omega) (Or.inl ⟨fun i2 q => absurd q (by omega), rfl⟩)) rfl
set_option maxRecDepth 100000 in
set_option maxHeartbeats 4000000 in
/-- round: counts -/
theorem m_M_isRound (l : Launch) (D : va_G) (G : Nat → ClassId) {L : List Nat} {f : Nat → va_E} {o : Nat} {ra : Nat → Nat} {cd wt hc zn kn mn om : Int} {R : Nat → Int → Int} (hM : zMo G L f o ra cd wt hc zn kn mn om R) (hW : sB 12 (R 0) (R 1)) (n : Nat) (h3 : 3 ≤ n) (hn : n ≤ 6) : zM l D G y_M_isRound (.code y_M_isRound c_M_isRound 7 (some .boolean) :: BG) (zR0 1 23) [.ref o, .int (zI (n : Int))] L f (zA L f (fun r => zB (mrs n (sP (R 0) (R 1)) true n = n * (n - 2) ∨ mrs n (sP (R 0) (R 1)) false n = n * (n - 2)) r)) := by
  refine zM.of (by decide) (Nat.le_of_ble_eq_true rfl) rfl (fun p e s m args below meth c A Xc hr hnm => ?_)
  have loop : ∀ (d i : Nat), n < i + d → i ≤ n → zG p l e (zR0 1 23) s m args below meth c D A 7 0 0 (MQ below (zE D A (zA L f (fun r => zB (mrs n (sP (R 0) (R 1)) true n = n * (n - 2) ∨ mrs n (sP (R 0) (R 1)) false n = n * (n - 2)) r))) args s (zR0 1 23).cells (zR0 1 23).slots A) 7 [(0, .ref o), (1, .int (zI (n : Int))), (2, .int (zI ((mrs n (sP (R 0) (R 1)) true i : Nat) : Int))), (3, .int (zI ((mrs n (sP (R 0) (R 1)) false i : Nat) : Int))), (4, .int (zI (i : Int)))] [] L f := by
    intro d
    induction d with
    | zero => intro i h1 h2; omega
    | succ d ih =>
      intro i h1 h2
      have inner : i < n → ∀ (d2 k : Nat), n < k + d2 → k ≤ n → zG p l e (zR0 1 23) s m args below meth c D A 7 0 0 (MQ below (zE D A (zA L f (fun r => zB (mrs n (sP (R 0) (R 1)) true n = n * (n - 2) ∨ mrs n (sP (R 0) (R 1)) false n = n * (n - 2)) r))) args s (zR0 1 23).cells (zR0 1 23).slots A) 24 [(0, .ref o), (1, .int (zI (n : Int))), (2, .int (zI ((mrs n (sP (R 0) (R 1)) true i + mri n (sP (R 0) (R 1)) true i k : Nat) : Int))), (3, .int (zI ((mrs n (sP (R 0) (R 1)) false i + mri n (sP (R 0) (R 1)) false i k : Nat) : Int))), (4, .int (zI (i : Int))), (5, .int (zI ((ge_nx n i : Nat) : Int))), (6, .int (zI (k : Int)))] [] L f := by
        intro hi d2
        induction d2 with
        | zero => intro k g1 g2; omega
        | succ d2 ih2 =>
          intro k g1 g2
          have l1 : ge_nx n i < n := nx_lt (by omega)
          refine k_iload Xc d_M_isRound_24 rfl (n := 26) rfl ?_
          refine k_iload_n Xc d_M_isRound_26 rfl rfl (n := 27) rfl ?_
          refine k_icmp_ge Xc d_M_isRound_27 (t := 92) (n := 30) rfl rfl (by omega) (by omega) (fun h_27 => ?_) (fun h_27 => ?_)
          · refine k_iinc Xc d_M_isRound_92 rfl (by decide) (n := 95) rfl ?_
            refine k_goto Xc d_M_isRound_95 (t := 7) rfl ?_
            have ek : k = n := by omega
            subst ek
            exact k_loc (ih (i + 1) (by omega) (by omega)) (by rw [mrs_s, mrs_s]; rfl)
          · refine k_iload Xc d_M_isRound_30 rfl (n := 32) rfl ?_
            refine k_iload Xc d_M_isRound_32 rfl (n := 34) rfl ?_
            refine k_icmp_eq Xc d_M_isRound_34 (t := 86) (n := 37) rfl rfl (by omega) (by omega) (fun h_34 => ?_) (fun h_34 => ?_)
            · refine k_iinc Xc d_M_isRound_86 rfl (by decide) (n := 89) rfl ?_
              refine k_goto Xc d_M_isRound_89 (t := 24) rfl ?_
              refine k_loc (ih2 (k + 1) (by omega) (by omega)) ?_
              rw [mri_s, mri_s]
              first | (rw [mrc_0 (by omega), mrc_0 (by omega)]; rfl) | (rw [mrc_t (by omega) (by omega) (by omega), mrc_fn (by omega) (by omega) (by omega)]; rfl) | (rw [mrc_tn (by omega) (by omega) (by omega), mrc_f (by omega) (by omega) (by omega)]; rfl) | (rw [mrc_tn (by omega) (by omega) (by omega), mrc_fn (by omega) (by omega) (by omega)]; rfl) | (exfalso; omega)
            · refine k_iload Xc d_M_isRound_37 rfl (n := 39) rfl ?_
              refine k_iload Xc d_M_isRound_39 rfl (n := 41) rfl ?_
              refine k_icmp_eq Xc d_M_isRound_41 (t := 86) (n := 44) rfl rfl (by omega) (by omega) (fun h_41 => ?_) (fun h_41 => ?_)
              · refine k_iinc Xc d_M_isRound_86 rfl (by decide) (n := 89) rfl ?_
                refine k_goto Xc d_M_isRound_89 (t := 24) rfl ?_
                refine k_loc (ih2 (k + 1) (by omega) (by omega)) ?_
                rw [mri_s, mri_s]
                first | (rw [mrc_0 (by omega), mrc_0 (by omega)]; rfl) | (rw [mrc_t (by omega) (by omega) (by omega), mrc_fn (by omega) (by omega) (by omega)]; rfl) | (rw [mrc_tn (by omega) (by omega) (by omega), mrc_f (by omega) (by omega) (by omega)]; rfl) | (rw [mrc_tn (by omega) (by omega) (by omega), mrc_fn (by omega) (by omega) (by omega)]; rfl) | (exfalso; omega)
              · refine k_iload_n Xc d_M_isRound_44 rfl rfl (n := 45) rfl ?_
                refine k_aload_n Xc d_M_isRound_45 rfl rfl (n := 46) rfl ?_
                refine k_iload Xc d_M_isRound_46 rfl (n := 48) rfl ?_
                refine k_iload Xc d_M_isRound_48 rfl (n := 50) rfl ?_
                refine k_iload Xc d_M_isRound_50 rfl (n := 52) rfl ?_
                have c1 := crI_bd hW (i := i) (j := ge_nx n i) (k := k) (by omega) (by omega) (by omega)
                refine k_qV (na := 3) Xc (m_M_side l D G hM _ _ _ (by omega) (by omega) (by omega)) hM.1 hM.2.2.1 rfl wd_668 wd_665 wd_667 ws_12 wd_6 (by decide +kernel) ⟨by decide, by decide⟩ rfl rfl (Nat.le_of_ble_eq_true rfl) d_M_isRound_52 (n := 55) rfl ⟨Nat.zero_le _, Nat.zero_le _⟩ (fun r_52 e_52 => ?_)
                subst e_52
                refine k_if_le Xc d_M_isRound_55 (t := 62) (n := 58) rfl rfl (by omega) (fun h_55 => ?_) (fun h_55 => ?_)
                · refine k_iconst Xc d_M_isRound_62 (n := 63) rfl ?_
                  refine k_iadd Xc d_M_isRound_63 (n := 64) rfl ?_
                  refine k_istore_n Xc d_M_isRound_64 rfl (by decide) (n := 65) rfl ?_
                  refine k_iload_n Xc d_M_isRound_65 rfl rfl (n := 66) rfl ?_
                  refine k_aload_n Xc d_M_isRound_66 rfl rfl (n := 67) rfl ?_
                  refine k_iload Xc d_M_isRound_67 rfl (n := 69) rfl ?_
                  refine k_iload Xc d_M_isRound_69 rfl (n := 71) rfl ?_
                  refine k_iload Xc d_M_isRound_71 rfl (n := 73) rfl ?_
                  refine k_qV (na := 3) Xc (m_M_side l D G hM _ _ _ (by omega) (by omega) (by omega)) hM.1 hM.2.2.1 rfl wd_668 wd_665 wd_667 ws_12 wd_6 (by decide +kernel) ⟨by decide, by decide⟩ rfl rfl (Nat.le_of_ble_eq_true rfl) d_M_isRound_73 (n := 76) rfl ⟨Nat.zero_le _, Nat.zero_le _⟩ (fun r_73 e_73 => ?_)
                  subst e_73
                  refine k_if_ge Xc d_M_isRound_76 (t := 83) (n := 79) rfl rfl (by omega) (fun h_76 => ?_) (fun h_76 => ?_)
                  · refine k_iconst Xc d_M_isRound_83 (n := 84) rfl ?_
                    refine k_iadd Xc d_M_isRound_84 (n := 85) rfl ?_
                    refine k_istore_n Xc d_M_isRound_85 rfl (by decide) (n := 86) rfl ?_
                    refine k_iinc Xc d_M_isRound_86 rfl (by decide) (n := 89) rfl ?_
                    refine k_goto Xc d_M_isRound_89 (t := 24) rfl ?_
                    refine k_loc (ih2 (k + 1) (by omega) (by omega)) ?_
                    rw [mri_s, mri_s]
                    first | (rw [mrc_0 (by omega), mrc_0 (by omega)]; rfl) | (rw [mrc_t (by omega) (by omega) (by omega), mrc_fn (by omega) (by omega) (by omega)]; rfl) | (rw [mrc_tn (by omega) (by omega) (by omega), mrc_f (by omega) (by omega) (by omega)]; rfl) | (rw [mrc_tn (by omega) (by omega) (by omega), mrc_fn (by omega) (by omega) (by omega)]; rfl) | (exfalso; omega)
                  · refine k_iconst Xc d_M_isRound_79 (n := 80) rfl ?_
                    refine k_goto Xc d_M_isRound_80 (t := 84) rfl ?_
                    refine k_iadd Xc d_M_isRound_84 (n := 85) rfl ?_
                    refine k_istore_n Xc d_M_isRound_85 rfl (by decide) (n := 86) rfl ?_
                    refine k_iinc Xc d_M_isRound_86 rfl (by decide) (n := 89) rfl ?_
                    refine k_goto Xc d_M_isRound_89 (t := 24) rfl ?_
                    refine k_loc (ih2 (k + 1) (by omega) (by omega)) ?_
                    rw [mri_s, mri_s]
                    first | (rw [mrc_0 (by omega), mrc_0 (by omega)]; rfl) | (rw [mrc_t (by omega) (by omega) (by omega), mrc_fn (by omega) (by omega) (by omega)]; rfl) | (rw [mrc_tn (by omega) (by omega) (by omega), mrc_f (by omega) (by omega) (by omega)]; rfl) | (rw [mrc_tn (by omega) (by omega) (by omega), mrc_fn (by omega) (by omega) (by omega)]; rfl) | (exfalso; omega)
                · refine k_iconst Xc d_M_isRound_58 (n := 59) rfl ?_
                  refine k_goto Xc d_M_isRound_59 (t := 63) rfl ?_
                  refine k_iadd Xc d_M_isRound_63 (n := 64) rfl ?_
                  refine k_istore_n Xc d_M_isRound_64 rfl (by decide) (n := 65) rfl ?_
                  refine k_iload_n Xc d_M_isRound_65 rfl rfl (n := 66) rfl ?_
                  refine k_aload_n Xc d_M_isRound_66 rfl rfl (n := 67) rfl ?_
                  refine k_iload Xc d_M_isRound_67 rfl (n := 69) rfl ?_
                  refine k_iload Xc d_M_isRound_69 rfl (n := 71) rfl ?_
                  refine k_iload Xc d_M_isRound_71 rfl (n := 73) rfl ?_
                  refine k_qV (na := 3) Xc (m_M_side l D G hM _ _ _ (by omega) (by omega) (by omega)) hM.1 hM.2.2.1 rfl wd_668 wd_665 wd_667 ws_12 wd_6 (by decide +kernel) ⟨by decide, by decide⟩ rfl rfl (Nat.le_of_ble_eq_true rfl) d_M_isRound_73 (n := 76) rfl ⟨Nat.zero_le _, Nat.zero_le _⟩ (fun r_73 e_73 => ?_)
                  subst e_73
                  refine k_if_ge Xc d_M_isRound_76 (t := 83) (n := 79) rfl rfl (by omega) (fun h_76 => ?_) (fun h_76 => ?_)
                  · refine k_iconst Xc d_M_isRound_83 (n := 84) rfl ?_
                    refine k_iadd Xc d_M_isRound_84 (n := 85) rfl ?_
                    refine k_istore_n Xc d_M_isRound_85 rfl (by decide) (n := 86) rfl ?_
                    refine k_iinc Xc d_M_isRound_86 rfl (by decide) (n := 89) rfl ?_
                    refine k_goto Xc d_M_isRound_89 (t := 24) rfl ?_
                    refine k_loc (ih2 (k + 1) (by omega) (by omega)) ?_
                    rw [mri_s, mri_s]
                    first | (rw [mrc_0 (by omega), mrc_0 (by omega)]; rfl) | (rw [mrc_t (by omega) (by omega) (by omega), mrc_fn (by omega) (by omega) (by omega)]; rfl) | (rw [mrc_tn (by omega) (by omega) (by omega), mrc_f (by omega) (by omega) (by omega)]; rfl) | (rw [mrc_tn (by omega) (by omega) (by omega), mrc_fn (by omega) (by omega) (by omega)]; rfl) | (exfalso; omega)
                  · refine k_iconst Xc d_M_isRound_79 (n := 80) rfl ?_
                    refine k_goto Xc d_M_isRound_80 (t := 84) rfl ?_
                    refine k_iadd Xc d_M_isRound_84 (n := 85) rfl ?_
                    refine k_istore_n Xc d_M_isRound_85 rfl (by decide) (n := 86) rfl ?_
                    refine k_iinc Xc d_M_isRound_86 rfl (by decide) (n := 89) rfl ?_
                    refine k_goto Xc d_M_isRound_89 (t := 24) rfl ?_
                    refine k_loc (ih2 (k + 1) (by omega) (by omega)) ?_
                    rw [mri_s, mri_s]
                    first | (rw [mrc_0 (by omega), mrc_0 (by omega)]; rfl) | (rw [mrc_t (by omega) (by omega) (by omega), mrc_fn (by omega) (by omega) (by omega)]; rfl) | (rw [mrc_tn (by omega) (by omega) (by omega), mrc_f (by omega) (by omega) (by omega)]; rfl) | (rw [mrc_tn (by omega) (by omega) (by omega), mrc_fn (by omega) (by omega) (by omega)]; rfl) | (exfalso; omega)
      refine k_iload Xc d_M_isRound_7 rfl (n := 9) rfl ?_
      refine k_iload_n Xc d_M_isRound_9 rfl rfl (n := 10) rfl ?_
      refine k_icmp_ge Xc d_M_isRound_10 (t := 98) (n := 13) rfl rfl (by omega) (by omega) (fun h_10 => ?_) (fun h_10 => ?_)
      · have ei : i = n := by omega
        subst ei
        have b1 := mrs_bd i (sP (R 0) (R 1)) true i (by omega)
        have b2 := mrs_bd i (sP (R 0) (R 1)) false i (by omega)
        have b3 := mn2 h3
        have b4 := mn3 h3 hn
        refine k_iload_n Xc d_M_isRound_98 rfl rfl (n := 99) rfl ?_
        refine k_iload_n Xc d_M_isRound_99 rfl rfl (n := 100) rfl ?_
        refine k_iload_n Xc d_M_isRound_100 rfl rfl (n := 101) rfl ?_
        refine k_iconst Xc d_M_isRound_101 (n := 102) rfl ?_
        refine k_isub Xc d_M_isRound_102 (n := 103) rfl ?_
        refine k_imul Xc d_M_isRound_103 (n := 104) rfl ?_
        refine k_icmp_eq Xc d_M_isRound_104 (t := 116) (n := 107) rfl rfl (by omega) (by omega) (fun h_104 => ?_) (fun h_104 => ?_)
        · refine k_iconst Xc d_M_isRound_116 (n := 117) rfl ?_
          refine k_goto Xc d_M_isRound_117 (t := 121) rfl ?_
          refine k_iret Xc d_M_isRound_121 hr rfl (Nat.le_refl _) (Nat.le_refl _) ⟨_, rfl, ?_, rfl, rfl⟩
          exact Or.inl ⟨by first | exact Or.inl (by omega) | exact Or.inr (by omega), rfl⟩
        · refine k_iload_n Xc d_M_isRound_107 rfl rfl (n := 108) rfl ?_
          refine k_iload_n Xc d_M_isRound_108 rfl rfl (n := 109) rfl ?_
          refine k_iload_n Xc d_M_isRound_109 rfl rfl (n := 110) rfl ?_
          refine k_iconst Xc d_M_isRound_110 (n := 111) rfl ?_
          refine k_isub Xc d_M_isRound_111 (n := 112) rfl ?_
          refine k_imul Xc d_M_isRound_112 (n := 113) rfl ?_
          refine k_icmp_ne Xc d_M_isRound_113 (t := 120) (n := 116) rfl rfl (by omega) (by omega) (fun h_113 => ?_) (fun h_113 => ?_)
          · refine k_iconst Xc d_M_isRound_120 (n := 121) rfl ?_
            refine k_iret Xc d_M_isRound_121 hr rfl (Nat.le_refl _) (Nat.le_refl _) ⟨_, rfl, ?_, rfl, rfl⟩
            exact Or.inr ⟨by omega, rfl⟩
          · refine k_iconst Xc d_M_isRound_116 (n := 117) rfl ?_
            refine k_goto Xc d_M_isRound_117 (t := 121) rfl ?_
            refine k_iret Xc d_M_isRound_121 hr rfl (Nat.le_refl _) (Nat.le_refl _) ⟨_, rfl, ?_, rfl, rfl⟩
            exact Or.inl ⟨by first | exact Or.inl (by omega) | exact Or.inr (by omega), rfl⟩
      · refine k_iload Xc d_M_isRound_13 rfl (n := 15) rfl ?_
        refine k_iconst Xc d_M_isRound_15 (n := 16) rfl ?_
        refine k_iadd Xc d_M_isRound_16 (n := 17) rfl ?_
        refine k_iload_n Xc d_M_isRound_17 rfl rfl (n := 18) rfl ?_
        refine k_irem Xc d_M_isRound_18 (n := 19) rfl (by omega) (by omega) (by omega) (by omega) ?_
        refine k_val (md_nx (n := n) (i := i) (by omega)) ?_
        refine k_istore Xc d_M_isRound_19 (by decide) (n := 21) rfl ?_
        refine k_iconst Xc d_M_isRound_21 (n := 22) rfl ?_
        refine k_istore Xc d_M_isRound_22 (by decide) (n := 24) rfl ?_
        exact k_loc (inner (by omega) (n + 1) 0 (by omega) (by omega)) rfl
  refine k_iconst Xc d_M_isRound_0 (n := 1) rfl ?_
  refine k_istore_n Xc d_M_isRound_1 rfl (by decide) (n := 2) rfl ?_
  refine k_iconst Xc d_M_isRound_2 (n := 3) rfl ?_
  refine k_istore_n Xc d_M_isRound_3 rfl (by decide) (n := 4) rfl ?_
  refine k_iconst Xc d_M_isRound_4 (n := 5) rfl ?_
  refine k_istore Xc d_M_isRound_5 (by decide) (n := 7) rfl ?_
  exact k_loc (loop (n + 1) 0 (by omega) (by omega)) rfl
