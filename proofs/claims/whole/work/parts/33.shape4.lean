-- SHAPE: queries
set_option maxRecDepth 100000 in
set_option maxHeartbeats 4000000 in
/-- some side has no corner of the other on its inner side -/
theorem m_S_sideParts (l : Launch) (D : va_G) (G : Nat → ClassId) {L : List Nat} {f : Nat → va_E} {a ax ay n : Nat} {X Y : Int → Int} {lx hx ly hy : Int} (hS : zS G L f a ax ay n X Y lx hx ly hy) (hB : sB n X Y) {b bx b_y k2 : Nat} {U V : Int → Int} {lu hu lv hv : Int} (hT : zS G L f b bx b_y k2 U V lu hu lv hv) (hC : sB k2 U V) (dx dy : Int) (q3 : -100 ≤ dx ∧ dx ≤ 100 ∧ -100 ≤ dy ∧ dy ≤ 100) : zM l D G y_S_sideParts (.code y_S_sideParts c_S_sideParts 7 (some .boolean) :: BG) (zR0 1 24) [.ref a, .ref b, .int (zI dx), .int (zI dy)] L f (zA L f (fun r => zB (ge_sp n (sP X Y) k2 (sP (fun q => U q + dx) (fun q => V q + dy))) r)) := by
  refine zM.of (by decide) (Nat.le_of_ble_eq_true rfl) rfl (fun p e s m args below meth c A Xc hr hnm => ?_)
  have hn := hB.1
  have hm := hC.1
  have loop : ∀ (d i : Nat), n < i + d → i ≤ n → (∀ i2, i2 < i → ∃ k, k < k2 ∧ 0 < ge_bs (sP X Y) n i2 (U (k : Int) + dx, V (k : Int) + dy)) → zG p l e (zR0 1 24) s m args below meth c D A 7 0 0 (MQ below (zE D A (zA L f (fun r => zB (ge_sp n (sP X Y) k2 (sP (fun q => U q + dx) (fun q => V q + dy))) r))) args s (zR0 1 24).cells (zR0 1 24).slots A) 3 [(0, .ref a), (1, .ref b), (2, .int (zI dx)), (3, .int (zI dy)), (4, .int (zI (i : Int)))] [] L f := by
    intro d
    induction d with
    | zero => intro i h1 h2; omega
    | succ d ih =>
      intro i h1 h2 hI
      have inner : i < n → ∀ (d2 k : Nat) (o : Int), k2 < k + d2 → k ≤ k2 → ((o = 1 ∧ ∀ k3, k3 < k → ge_bs (sP X Y) n i (U (k3 : Int) + dx, V (k3 : Int) + dy) ≤ 0) ∨ (o = 0 ∧ ∃ k3, k3 < k2 ∧ 0 < ge_bs (sP X Y) n i (U (k3 : Int) + dx, V (k3 : Int) + dy))) → zG p l e (zR0 1 24) s m args below meth c D A 7 0 0 (MQ below (zE D A (zA L f (fun r => zB (ge_sp n (sP X Y) k2 (sP (fun q => U q + dx) (fun q => V q + dy))) r))) args s (zR0 1 24).cells (zR0 1 24).slots A) 18 [(0, .ref a), (1, .ref b), (2, .int (zI dx)), (3, .int (zI dy)), (4, .int (zI (i : Int))), (5, .int (zI o)), (6, .int (zI (k : Int)))] [] L f := by
        intro hi d2
        induction d2 with
        | zero => intro k o g1 g2; omega
        | succ d2 ih2 =>
          intro k o g1 g2 hJ
          have ho : o = 1 ∨ o = 0 := by rcases hJ with z | z; exact Or.inl z.1; exact Or.inr z.1
          refine k_iload Xc d_S_sideParts_18 rfl (n := 20) rfl ?_
          refine k_aload_n Xc d_S_sideParts_20 rfl rfl (n := 21) rfl ?_
          refine k_get Xc u_S rfl 2 (by decide) wd_32 rfl d_S_sideParts_21 (n := 24) rfl hT.1 hT.2.2.2.1 rfl ?_
          refine k_icmp_ge Xc d_S_sideParts_24 (t := 72) (n := 27) rfl rfl (by omega) (by omega) (fun h_24 => ?_) (fun h_24 => ?_)
          · refine k_iload Xc d_S_sideParts_72 rfl (n := 74) rfl ?_
            refine k_if_eq Xc d_S_sideParts_74 (t := 79) (n := 77) rfl rfl (by omega) (fun h_74 => ?_) (fun h_74 => ?_)
            · refine k_iinc Xc d_S_sideParts_79 rfl (by decide) (n := 82) rfl ?_
              refine k_goto Xc d_S_sideParts_82 (t := 3) rfl ?_
              exact k_loc (ih (i + 1) (by omega) (by omega) (fun i2 q => by
                rcases Nat.lt_or_ge i2 i with q1 | q1
                · exact hI i2 q1
                · have e : i2 = i := by omega
                  subst e
                  rcases hJ with z | z
                  · exact absurd z.1 (by omega)
                  · exact z.2)) rfl
            · refine k_iconst Xc d_S_sideParts_77 (n := 78) rfl ?_
              refine k_iret Xc d_S_sideParts_78 hr rfl (Nat.le_refl _) (Nat.le_refl _) ⟨_, rfl, ?_, rfl, rfl⟩
              exact Or.inl ⟨⟨i, hi, fun k3 q => by
                rcases hJ with z | z
                · exact z.2 k3 (by omega)
                · exact absurd z.1 (by omega)⟩, rfl⟩
          · refine k_iload Xc d_S_sideParts_27 rfl (n := 29) rfl ?_
            refine k_if_eq Xc d_S_sideParts_29 (t := 72) (n := 32) rfl rfl (by omega) (fun h_29 => ?_) (fun h_29 => ?_)
            · refine k_iload Xc d_S_sideParts_72 rfl (n := 74) rfl ?_
              refine k_if_eq Xc d_S_sideParts_74 (t := 79) (n := 77) rfl rfl (by omega) (fun h_74 => ?_) (fun h_74 => ?_)
              · refine k_iinc Xc d_S_sideParts_79 rfl (by decide) (n := 82) rfl ?_
                refine k_goto Xc d_S_sideParts_82 (t := 3) rfl ?_
                exact k_loc (ih (i + 1) (by omega) (by omega) (fun i2 q => by
                  rcases Nat.lt_or_ge i2 i with q1 | q1
                  · exact hI i2 q1
                  · have e : i2 = i := by omega
                    subst e
                    rcases hJ with z | z
                    · exact absurd z.1 (by omega)
                    · exact z.2)) rfl
              · refine k_iconst Xc d_S_sideParts_77 (n := 78) rfl ?_
                refine k_iret Xc d_S_sideParts_78 hr rfl (Nat.le_refl _) (Nat.le_refl _) ⟨_, rfl, ?_, rfl, rfl⟩
                exact Or.inl ⟨⟨i, hi, fun k3 q => by
                  rcases hJ with z | z
                  · exact z.2 k3 (by omega)
                  · exact absurd z.1 (by omega)⟩, rfl⟩
            · refine k_aload_n Xc d_S_sideParts_32 rfl rfl (n := 33) rfl ?_
              refine k_iload Xc d_S_sideParts_33 rfl (n := 35) rfl ?_
              refine k_aload_n Xc d_S_sideParts_35 rfl rfl (n := 36) rfl ?_
              refine k_get Xc u_S rfl 0 (by decide) wd_30 rfl d_S_sideParts_36 (n := 39) rfl hT.1 hT.2.2.2.1 rfl ?_
              refine k_iload Xc d_S_sideParts_39 rfl (n := 41) rfl ?_
              refine k_iald Xc d_S_sideParts_41 (n := 42) rfl hT.2.1 hT.2.2.2.2.1 (by omega) (by omega) (by decide) ?_
              refine k_iload_n Xc d_S_sideParts_42 rfl rfl (n := 43) rfl ?_
              refine k_iadd Xc d_S_sideParts_43 (n := 44) rfl ?_
              refine k_aload_n Xc d_S_sideParts_44 rfl rfl (n := 45) rfl ?_
              refine k_get Xc u_S rfl 1 (by decide) wd_31 rfl d_S_sideParts_45 (n := 48) rfl hT.1 hT.2.2.2.1 rfl ?_
              refine k_iload Xc d_S_sideParts_48 rfl (n := 50) rfl ?_
              refine k_iald Xc d_S_sideParts_50 (n := 51) rfl hT.2.2.1 hT.2.2.2.2.2 (by omega) (by omega) (by decide) ?_
              refine k_iload_n Xc d_S_sideParts_51 rfl rfl (n := 52) rfl ?_
              refine k_iadd Xc d_S_sideParts_52 (n := 53) rfl ?_
              have c1 := hC.2 k (by omega)
              have c2 := bs_bd hB hi (px := U (k : Int) + dx) (py := V (k : Int) + dy) (by omega) (by omega) (by omega) (by omega)
              refine k_qV (na := 3) Xc (m_S_beside l D G hS hB _ (by omega) _ _ (by omega) (by omega) (by omega) (by omega)) hS.1 hS.2.2.2.1 rfl wd_325 wd_322 wd_323 wd_324 wd_2 (by decide +kernel) ⟨by decide, by decide⟩ rfl rfl (Nat.le_of_ble_eq_true rfl) d_S_sideParts_53 (n := 56) rfl ⟨Nat.zero_le _, Nat.zero_le _⟩ (fun r_53 e_53 => ?_)
              subst e_53
              refine k_if_gt Xc d_S_sideParts_56 (t := 63) (n := 59) rfl rfl (by omega) (fun h_56 => ?_) (fun h_56 => ?_)
              · refine k_iconst Xc d_S_sideParts_63 (n := 64) rfl ?_
                refine k_istore Xc d_S_sideParts_64 (by decide) (n := 66) rfl ?_
                refine k_iinc Xc d_S_sideParts_66 rfl (by decide) (n := 69) rfl ?_
                refine k_goto Xc d_S_sideParts_69 (t := 18) rfl ?_
                exact k_loc (ih2 (k + 1) 0 (by omega) (by omega) (Or.inr ⟨rfl, k, by omega, by omega⟩)) rfl
              · refine k_iconst Xc d_S_sideParts_59 (n := 60) rfl ?_
                refine k_goto Xc d_S_sideParts_60 (t := 64) rfl ?_
                refine k_istore Xc d_S_sideParts_64 (by decide) (n := 66) rfl ?_
                refine k_iinc Xc d_S_sideParts_66 rfl (by decide) (n := 69) rfl ?_
                refine k_goto Xc d_S_sideParts_69 (t := 18) rfl ?_
                exact k_loc (ih2 (k + 1) 1 (by omega) (by omega) (Or.inl ⟨rfl, fun k3 q => by
                  rcases Nat.lt_or_ge k3 k with q3 | q3
                  · rcases hJ with z | z
                    · exact z.2 k3 q3
                    · exact absurd z.1 (by omega)
                  · have e : k3 = k := by omega
                    subst e
                    omega⟩)) rfl
      refine k_iload Xc d_S_sideParts_3 rfl (n := 5) rfl ?_
      refine k_aload_n Xc d_S_sideParts_5 rfl rfl (n := 6) rfl ?_
      refine k_get Xc u_S rfl 2 (by decide) wd_32 rfl d_S_sideParts_6 (n := 9) rfl hS.1 hS.2.2.2.1 rfl ?_
      refine k_icmp_ge Xc d_S_sideParts_9 (t := 85) (n := 12) rfl rfl (by omega) (by omega) (fun h_9 => ?_) (fun h_9 => ?_)
      · refine k_iconst Xc d_S_sideParts_85 (n := 86) rfl ?_
        refine k_iret Xc d_S_sideParts_86 hr rfl (Nat.le_refl _) (Nat.le_refl _) ⟨_, rfl, ?_, rfl, rfl⟩
        exact Or.inr ⟨fun q => by
          obtain ⟨i2, z1, z2⟩ := q
          obtain ⟨k, z3, z4⟩ := hI i2 (by omega)
          have z5 : ge_bs (sP X Y) n i2 (U (k : Int) + dx, V (k : Int) + dy) ≤ 0 := z2 k z3
          omega, rfl⟩
      · refine k_iconst Xc d_S_sideParts_12 (n := 13) rfl ?_
        refine k_istore Xc d_S_sideParts_13 (by decide) (n := 15) rfl ?_
        refine k_iconst Xc d_S_sideParts_15 (n := 16) rfl ?_
        refine k_istore Xc d_S_sideParts_16 (by decide) (n := 18) rfl ?_
        exact k_loc (inner (by omega) (k2 + 1) 0 1 (by omega) (by omega) (Or.inl ⟨rfl, fun k3 q => absurd q (by omega)⟩)) rfl
  refine k_iconst Xc d_S_sideParts_0 (n := 1) rfl ?_
  refine k_istore Xc d_S_sideParts_1 (by decide) (n := 3) rfl ?_
  exact k_loc (loop (n + 1) 0 (by omega) (by omega) (fun i2 q => absurd q (by omega))) rfl
set_option maxRecDepth 100000 in
set_option maxHeartbeats 4000000 in
/-- points are inside both -/
theorem m_S_overlaps (l : Launch) (D : va_G) (G : Nat → ClassId) {L : List Nat} {f : Nat → va_E} {a ax ay n : Nat} {X Y : Int → Int} {lx hx ly hy : Int} (hS : zS G L f a ax ay n X Y lx hx ly hy) (hB : sB n X Y) {b bx b_y k2 : Nat} {U V : Int → Int} {lu hu lv hv : Int} (hT : zS G L f b bx b_y k2 U V lu hu lv hv) (hC : sB k2 U V) (q1 : -1000 ≤ lx ∧ lx ≤ 1000 ∧ -1000 ≤ hx ∧ hx ≤ 1000 ∧ -1000 ≤ ly ∧ ly ≤ 1000 ∧ -1000 ≤ hy ∧ hy ≤ 1000) (q2 : -1000 ≤ lu ∧ lu ≤ 1000 ∧ -1000 ≤ hu ∧ hu ≤ 1000 ∧ -1000 ≤ lv ∧ lv ≤ 1000 ∧ -1000 ≤ hv ∧ hv ≤ 1000) (dx dy : Int) (q3 : -100 ≤ dx ∧ dx ≤ 100 ∧ -100 ≤ dy ∧ dy ≤ 100) : zM l D G y_S_overlaps (.code y_S_overlaps c_S_overlaps 5 (some .boolean) :: BG) (zR0 2 50) [.ref a, .ref b, .int (zI dx), .int (zI dy)] L f (zA L f (fun r => zB (¬ (hu + dx ≤ lx ∨ hx ≤ lu + dx ∨ hv + dy ≤ ly ∨ hy ≤ lv + dy) ∧ ¬ ge_sp n (sP X Y) k2 (sP (fun q => U q + dx) (fun q => V q + dy)) ∧ ¬ ge_sp k2 (sP U V) n (sP (fun q => X q + -dx) (fun q => Y q + -dy))) r)) := by
  refine zM.of (by decide) (Nat.le_of_ble_eq_true rfl) rfl (fun p e s m args below meth c A Xc hr hnm => ?_)
  refine k_aload_n Xc d_S_overlaps_0 rfl rfl (n := 1) rfl ?_
  refine k_get Xc u_S rfl 4 (by decide) wd_37 rfl d_S_overlaps_1 (n := 4) rfl hT.1 hT.2.2.2.1 rfl ?_
  refine k_iload_n Xc d_S_overlaps_4 rfl rfl (n := 5) rfl ?_
  refine k_iadd Xc d_S_overlaps_5 (n := 6) rfl ?_
  refine k_aload_n Xc d_S_overlaps_6 rfl rfl (n := 7) rfl ?_
  refine k_get Xc u_S rfl 3 (by decide) wd_35 rfl d_S_overlaps_7 (n := 10) rfl hS.1 hS.2.2.2.1 rfl ?_
  refine k_icmp_le Xc d_S_overlaps_10 (t := 52) (n := 13) rfl rfl (by omega) (by omega) (fun h_10 => ?_) (fun h_10 => ?_)
  · refine k_iconst Xc d_S_overlaps_52 (n := 53) rfl ?_
    refine k_goto Xc d_S_overlaps_53 (t := 57) rfl ?_
    refine k_istore Xc d_S_overlaps_57 (by decide) (n := 59) rfl ?_
    refine k_iload Xc d_S_overlaps_59 rfl (n := 61) rfl ?_
    refine k_if_ne Xc d_S_overlaps_61 (t := 90) (n := 64) rfl rfl (by omega) (fun _ => ?_) (fun h_61 => absurd h_61 (by omega))
    refine k_iconst Xc d_S_overlaps_90 (n := 91) rfl ?_
    refine k_iret Xc d_S_overlaps_91 hr rfl (Nat.le_refl _) (Nat.le_refl _) ⟨_, rfl, ?_, rfl, rfl⟩
    exact Or.inr ⟨fun q => by first | exact q.2.1 e_68 | exact q.2.2 e_80 | (have z := q.1; omega), rfl⟩
  · refine k_aload_n Xc d_S_overlaps_13 rfl rfl (n := 14) rfl ?_
    refine k_get Xc u_S rfl 3 (by decide) wd_35 rfl d_S_overlaps_14 (n := 17) rfl hT.1 hT.2.2.2.1 rfl ?_
    refine k_iload_n Xc d_S_overlaps_17 rfl rfl (n := 18) rfl ?_
    refine k_iadd Xc d_S_overlaps_18 (n := 19) rfl ?_
    refine k_aload_n Xc d_S_overlaps_19 rfl rfl (n := 20) rfl ?_
    refine k_get Xc u_S rfl 4 (by decide) wd_37 rfl d_S_overlaps_20 (n := 23) rfl hS.1 hS.2.2.2.1 rfl ?_
    refine k_icmp_ge Xc d_S_overlaps_23 (t := 52) (n := 26) rfl rfl (by omega) (by omega) (fun h_23 => ?_) (fun h_23 => ?_)
    · refine k_iconst Xc d_S_overlaps_52 (n := 53) rfl ?_
      refine k_goto Xc d_S_overlaps_53 (t := 57) rfl ?_
      refine k_istore Xc d_S_overlaps_57 (by decide) (n := 59) rfl ?_
      refine k_iload Xc d_S_overlaps_59 rfl (n := 61) rfl ?_
      refine k_if_ne Xc d_S_overlaps_61 (t := 90) (n := 64) rfl rfl (by omega) (fun _ => ?_) (fun h_61 => absurd h_61 (by omega))
      refine k_iconst Xc d_S_overlaps_90 (n := 91) rfl ?_
      refine k_iret Xc d_S_overlaps_91 hr rfl (Nat.le_refl _) (Nat.le_refl _) ⟨_, rfl, ?_, rfl, rfl⟩
      exact Or.inr ⟨fun q => by first | exact q.2.1 e_68 | exact q.2.2 e_80 | (have z := q.1; omega), rfl⟩
    · refine k_aload_n Xc d_S_overlaps_26 rfl rfl (n := 27) rfl ?_
      refine k_get Xc u_S rfl 6 (by decide) wd_42 rfl d_S_overlaps_27 (n := 30) rfl hT.1 hT.2.2.2.1 rfl ?_
      refine k_iload_n Xc d_S_overlaps_30 rfl rfl (n := 31) rfl ?_
      refine k_iadd Xc d_S_overlaps_31 (n := 32) rfl ?_
      refine k_aload_n Xc d_S_overlaps_32 rfl rfl (n := 33) rfl ?_
      refine k_get Xc u_S rfl 5 (by decide) wd_40 rfl d_S_overlaps_33 (n := 36) rfl hS.1 hS.2.2.2.1 rfl ?_
      refine k_icmp_le Xc d_S_overlaps_36 (t := 52) (n := 39) rfl rfl (by omega) (by omega) (fun h_36 => ?_) (fun h_36 => ?_)
      · refine k_iconst Xc d_S_overlaps_52 (n := 53) rfl ?_
        refine k_goto Xc d_S_overlaps_53 (t := 57) rfl ?_
        refine k_istore Xc d_S_overlaps_57 (by decide) (n := 59) rfl ?_
        refine k_iload Xc d_S_overlaps_59 rfl (n := 61) rfl ?_
        refine k_if_ne Xc d_S_overlaps_61 (t := 90) (n := 64) rfl rfl (by omega) (fun _ => ?_) (fun h_61 => absurd h_61 (by omega))
        refine k_iconst Xc d_S_overlaps_90 (n := 91) rfl ?_
        refine k_iret Xc d_S_overlaps_91 hr rfl (Nat.le_refl _) (Nat.le_refl _) ⟨_, rfl, ?_, rfl, rfl⟩
        exact Or.inr ⟨fun q => by first | exact q.2.1 e_68 | exact q.2.2 e_80 | (have z := q.1; omega), rfl⟩
      · refine k_aload_n Xc d_S_overlaps_39 rfl rfl (n := 40) rfl ?_
        refine k_get Xc u_S rfl 5 (by decide) wd_40 rfl d_S_overlaps_40 (n := 43) rfl hT.1 hT.2.2.2.1 rfl ?_
        refine k_iload_n Xc d_S_overlaps_43 rfl rfl (n := 44) rfl ?_
        refine k_iadd Xc d_S_overlaps_44 (n := 45) rfl ?_
        refine k_aload_n Xc d_S_overlaps_45 rfl rfl (n := 46) rfl ?_
        refine k_get Xc u_S rfl 6 (by decide) wd_42 rfl d_S_overlaps_46 (n := 49) rfl hS.1 hS.2.2.2.1 rfl ?_
        refine k_icmp_lt Xc d_S_overlaps_49 (t := 56) (n := 52) rfl rfl (by omega) (by omega) (fun h_49 => ?_) (fun h_49 => ?_)
        · refine k_iconst Xc d_S_overlaps_56 (n := 57) rfl ?_
          refine k_istore Xc d_S_overlaps_57 (by decide) (n := 59) rfl ?_
          refine k_iload Xc d_S_overlaps_59 rfl (n := 61) rfl ?_
          refine k_if_ne Xc d_S_overlaps_61 (t := 90) (n := 64) rfl rfl (by omega) (fun h_61 => absurd h_61 (by omega)) (fun _ => ?_)
          refine k_aload_n Xc d_S_overlaps_64 rfl rfl (n := 65) rfl ?_
          refine k_aload_n Xc d_S_overlaps_65 rfl rfl (n := 66) rfl ?_
          refine k_iload_n Xc d_S_overlaps_66 rfl rfl (n := 67) rfl ?_
          refine k_iload_n Xc d_S_overlaps_67 rfl rfl (n := 68) rfl ?_
          refine k_qV (na := 3) Xc (m_S_sideParts l D G hS hB hT hC _ _ (by omega)) hS.1 hS.2.2.2.1 rfl wd_430 wd_427 wd_428 wd_429 wd_2 (by decide +kernel) ⟨by decide, by decide⟩ rfl rfl (Nat.le_of_ble_eq_true rfl) d_S_overlaps_68 (n := 71) rfl ⟨Nat.zero_le _, Nat.zero_le _⟩ (fun r_68 e_68 => ?_)
          rcases e_68 with ⟨e_68, rfl⟩ | ⟨e_68, rfl⟩
          · refine k_if_ne Xc d_S_overlaps_71 (t := 90) (n := 74) rfl rfl (by omega) (fun _ => ?_) (fun h_71 => absurd h_71 (by omega))
            refine k_iconst Xc d_S_overlaps_90 (n := 91) rfl ?_
            refine k_iret Xc d_S_overlaps_91 hr rfl (Nat.le_refl _) (Nat.le_refl _) ⟨_, rfl, ?_, rfl, rfl⟩
            exact Or.inr ⟨fun q => by first | exact q.2.1 e_68 | exact q.2.2 e_80 | (have z := q.1; omega), rfl⟩
          · refine k_if_ne Xc d_S_overlaps_71 (t := 90) (n := 74) rfl rfl (by omega) (fun h_71 => absurd h_71 (by omega)) (fun _ => ?_)
            refine k_aload_n Xc d_S_overlaps_74 rfl rfl (n := 75) rfl ?_
            refine k_aload_n Xc d_S_overlaps_75 rfl rfl (n := 76) rfl ?_
            refine k_iload_n Xc d_S_overlaps_76 rfl rfl (n := 77) rfl ?_
            refine k_ineg Xc d_S_overlaps_77 (n := 78) rfl ?_
            refine k_iload_n Xc d_S_overlaps_78 rfl rfl (n := 79) rfl ?_
            refine k_ineg Xc d_S_overlaps_79 (n := 80) rfl ?_
            refine k_qV (na := 3) Xc (m_S_sideParts l D G hT hC hS hB _ _ (by omega)) hT.1 hT.2.2.2.1 rfl wd_430 wd_427 wd_428 wd_429 wd_2 (by decide +kernel) ⟨by decide, by decide⟩ rfl rfl (Nat.le_of_ble_eq_true rfl) d_S_overlaps_80 (n := 83) rfl ⟨Nat.zero_le _, Nat.zero_le _⟩ (fun r_80 e_80 => ?_)
            rcases e_80 with ⟨e_80, rfl⟩ | ⟨e_80, rfl⟩
            · refine k_if_ne Xc d_S_overlaps_83 (t := 90) (n := 86) rfl rfl (by omega) (fun _ => ?_) (fun h_83 => absurd h_83 (by omega))
              refine k_iconst Xc d_S_overlaps_90 (n := 91) rfl ?_
              refine k_iret Xc d_S_overlaps_91 hr rfl (Nat.le_refl _) (Nat.le_refl _) ⟨_, rfl, ?_, rfl, rfl⟩
              exact Or.inr ⟨fun q => by first | exact q.2.1 e_68 | exact q.2.2 e_80 | (have z := q.1; omega), rfl⟩
            · refine k_if_ne Xc d_S_overlaps_83 (t := 90) (n := 86) rfl rfl (by omega) (fun h_83 => absurd h_83 (by omega)) (fun _ => ?_)
              refine k_iconst Xc d_S_overlaps_86 (n := 87) rfl ?_
              refine k_goto Xc d_S_overlaps_87 (t := 91) rfl ?_
              refine k_iret Xc d_S_overlaps_91 hr rfl (Nat.le_refl _) (Nat.le_refl _) ⟨_, rfl, ?_, rfl, rfl⟩
              exact Or.inl ⟨⟨by omega, e_68, e_80⟩, rfl⟩
        · refine k_iconst Xc d_S_overlaps_52 (n := 53) rfl ?_
          refine k_goto Xc d_S_overlaps_53 (t := 57) rfl ?_
          refine k_istore Xc d_S_overlaps_57 (by decide) (n := 59) rfl ?_
          refine k_iload Xc d_S_overlaps_59 rfl (n := 61) rfl ?_
          refine k_if_ne Xc d_S_overlaps_61 (t := 90) (n := 64) rfl rfl (by omega) (fun _ => ?_) (fun h_61 => absurd h_61 (by omega))
          refine k_iconst Xc d_S_overlaps_90 (n := 91) rfl ?_
          refine k_iret Xc d_S_overlaps_91 hr rfl (Nat.le_refl _) (Nat.le_refl _) ⟨_, rfl, ?_, rfl, rfl⟩
          exact Or.inr ⟨fun q => by first | exact q.2.1 e_68 | exact q.2.2 e_80 | (have z := q.1; omega), rfl⟩
set_option maxRecDepth 100000 in
set_option maxHeartbeats 4000000 in
/-- corners on both sides of a line -/
theorem m_S_lineCuts (l : Launch) (D : va_G) (G : Nat → ClassId) {L : List Nat} {f : Nat → va_E} {a ax ay n : Nat} {X Y : Int → Int} {lx hx ly hy : Int} (hS : zS G L f a ax ay n X Y lx hx ly hy) (hB : sB n X Y) {b bx b_y k2 : Nat} {U V : Int → Int} {lu hu lv hv : Int} (hT : zS G L f b bx b_y k2 U V lu hu lv hv) (hC : sB k2 U V) (i : Nat) (hi : i < n) (dx dy : Int) (q3 : -100 ≤ dx ∧ dx ≤ 100 ∧ -100 ≤ dy ∧ dy ≤ 100) : zM l D G y_S_lineCuts (.code y_S_lineCuts c_S_lineCuts 9 (some .boolean) :: BG) (zR0 1 24) [.ref a, .int (zI (i : Int)), .ref b, .int (zI dx), .int (zI dy)] L f (zA L f (fun r => zB ((∃ k3 : Nat, k3 < k2 ∧ 0 < ge_bs (sP X Y) n i (U (k3 : Int) + dx, V (k3 : Int) + dy)) ∧ ∃ k3 : Nat, k3 < k2 ∧ ge_bs (sP X Y) n i (U (k3 : Int) + dx, V (k3 : Int) + dy) < 0) r)) := by
  refine zM.of (by decide) (Nat.le_of_ble_eq_true rfl) rfl (fun p e s m args below meth c A Xc hr hnm => ?_)
  have hn := hB.1
  have hm := hC.1
  have loop : ∀ (d k : Nat) (lf rg : Int), k2 < k + d → k ≤ k2 → zB (∃ k3 : Nat, k3 < k ∧ 0 < ge_bs (sP X Y) n i (U (k3 : Int) + dx, V (k3 : Int) + dy)) lf → zB (∃ k3 : Nat, k3 < k ∧ ge_bs (sP X Y) n i (U (k3 : Int) + dx, V (k3 : Int) + dy) < 0) rg → zG p l e (zR0 1 24) s m args below meth c D A 9 0 0 (MQ below (zE D A (zA L f (fun r => zB ((∃ k3 : Nat, k3 < k2 ∧ 0 < ge_bs (sP X Y) n i (U (k3 : Int) + dx, V (k3 : Int) + dy)) ∧ ∃ k3 : Nat, k3 < k2 ∧ ge_bs (sP X Y) n i (U (k3 : Int) + dx, V (k3 : Int) + dy) < 0) r))) args s (zR0 1 24).cells (zR0 1 24).slots A) 9 [(0, .ref a), (1, .int (zI (i : Int))), (2, .ref b), (3, .int (zI dx)), (4, .int (zI dy)), (5, .int (zI lf)), (6, .int (zI rg)), (7, .int (zI (k : Int)))] [] L f := by
    intro d
    induction d with
    | zero => intro k lf rg h1 h2; omega
    | succ d ih =>
      intro k lf rg h1 h2 hl hg
      have o1 := zB_01 hl
      have o2 := zB_01 hg
      refine k_iload Xc d_S_lineCuts_9 rfl (n := 11) rfl ?_
      refine k_aload_n Xc d_S_lineCuts_11 rfl rfl (n := 12) rfl ?_
      refine k_get Xc u_S rfl 2 (by decide) wd_32 rfl d_S_lineCuts_12 (n := 15) rfl hT.1 hT.2.2.2.1 rfl ?_
      refine k_icmp_ge Xc d_S_lineCuts_15 (t := 84) (n := 18) rfl rfl (by omega) (by omega) (fun h_15 => ?_) (fun h_15 => ?_)
      · refine k_iload Xc d_S_lineCuts_84 rfl (n := 86) rfl ?_
        refine k_if_eq Xc d_S_lineCuts_86 (t := 98) (n := 89) rfl rfl (by omega) (fun h_86 => ?_) (fun h_86 => ?_)
        · refine k_iconst Xc d_S_lineCuts_98 (n := 99) rfl ?_
          refine k_iret Xc d_S_lineCuts_99 hr rfl (Nat.le_refl _) (Nat.le_refl _) ⟨_, rfl, ?_, rfl, rfl⟩
          have ek : k = k2 := by omega
          subst ek
          exact Or.inr ⟨fun q => by first | exact zB_f hl (by omega) q.1 | exact zB_f hg (by omega) q.2, rfl⟩
        · refine k_iload Xc d_S_lineCuts_89 rfl (n := 91) rfl ?_
          refine k_if_eq Xc d_S_lineCuts_91 (t := 98) (n := 94) rfl rfl (by omega) (fun h_91 => ?_) (fun h_91 => ?_)
          · refine k_iconst Xc d_S_lineCuts_98 (n := 99) rfl ?_
            refine k_iret Xc d_S_lineCuts_99 hr rfl (Nat.le_refl _) (Nat.le_refl _) ⟨_, rfl, ?_, rfl, rfl⟩
            have ek : k = k2 := by omega
            subst ek
            exact Or.inr ⟨fun q => by first | exact zB_f hl (by omega) q.1 | exact zB_f hg (by omega) q.2, rfl⟩
          · refine k_iconst Xc d_S_lineCuts_94 (n := 95) rfl ?_
            refine k_goto Xc d_S_lineCuts_95 (t := 99) rfl ?_
            refine k_iret Xc d_S_lineCuts_99 hr rfl (Nat.le_refl _) (Nat.le_refl _) ⟨_, rfl, ?_, rfl, rfl⟩
            have ek : k = k2 := by omega
            subst ek
            exact Or.inl ⟨⟨zB_t hl (by omega), zB_t hg (by omega)⟩, rfl⟩
      · refine k_aload_n Xc d_S_lineCuts_18 rfl rfl (n := 19) rfl ?_
        refine k_iload_n Xc d_S_lineCuts_19 rfl rfl (n := 20) rfl ?_
        refine k_aload_n Xc d_S_lineCuts_20 rfl rfl (n := 21) rfl ?_
        refine k_get Xc u_S rfl 0 (by decide) wd_30 rfl d_S_lineCuts_21 (n := 24) rfl hT.1 hT.2.2.2.1 rfl ?_
        refine k_iload Xc d_S_lineCuts_24 rfl (n := 26) rfl ?_
        refine k_iald Xc d_S_lineCuts_26 (n := 27) rfl hT.2.1 hT.2.2.2.2.1 (by omega) (by omega) (by decide) ?_
        refine k_iload_n Xc d_S_lineCuts_27 rfl rfl (n := 28) rfl ?_
        refine k_iadd Xc d_S_lineCuts_28 (n := 29) rfl ?_
        refine k_aload_n Xc d_S_lineCuts_29 rfl rfl (n := 30) rfl ?_
        refine k_get Xc u_S rfl 1 (by decide) wd_31 rfl d_S_lineCuts_30 (n := 33) rfl hT.1 hT.2.2.2.1 rfl ?_
        refine k_iload Xc d_S_lineCuts_33 rfl (n := 35) rfl ?_
        refine k_iald Xc d_S_lineCuts_35 (n := 36) rfl hT.2.2.1 hT.2.2.2.2.2 (by omega) (by omega) (by decide) ?_
        refine k_iload Xc d_S_lineCuts_36 rfl (n := 38) rfl ?_
        refine k_iadd Xc d_S_lineCuts_38 (n := 39) rfl ?_
        have c1 := hC.2 k (by omega)
        have c2 := bs_bd hB hi (px := U (k : Int) + dx) (py := V (k : Int) + dy) (by omega) (by omega) (by omega) (by omega)
        refine k_qV (na := 3) Xc (m_S_beside l D G hS hB _ (by omega) _ _ (by omega) (by omega) (by omega) (by omega)) hS.1 hS.2.2.2.1 rfl wd_325 wd_322 wd_323 wd_324 wd_2 (by decide +kernel) ⟨by decide, by decide⟩ rfl rfl (Nat.le_of_ble_eq_true rfl) d_S_lineCuts_39 (n := 42) rfl ⟨Nat.zero_le _, Nat.zero_le _⟩ (fun r_39 e_39 => ?_)
        subst e_39
        refine k_istore Xc d_S_lineCuts_42 (by decide) (n := 44) rfl ?_
        refine k_iload Xc d_S_lineCuts_44 rfl (n := 46) rfl ?_
        refine k_if_ne Xc d_S_lineCuts_46 (t := 54) (n := 49) rfl rfl (by omega) (fun h_46 => ?_) (fun h_46 => ?_)
        · refine k_iconst Xc d_S_lineCuts_54 (n := 55) rfl ?_
          refine k_goto Xc d_S_lineCuts_55 (t := 59) rfl ?_
          refine k_istore Xc d_S_lineCuts_59 (by decide) (n := 61) rfl ?_
          refine k_iload Xc d_S_lineCuts_61 rfl (n := 63) rfl ?_
          refine k_if_ne Xc d_S_lineCuts_63 (t := 71) (n := 66) rfl rfl (by omega) (fun h_63 => ?_) (fun h_63 => ?_)
          · refine k_iconst Xc d_S_lineCuts_71 (n := 72) rfl ?_
            refine k_goto Xc d_S_lineCuts_72 (t := 76) rfl ?_
            refine k_istore Xc d_S_lineCuts_76 (by decide) (n := 78) rfl ?_
            refine k_iinc Xc d_S_lineCuts_78 rfl (by decide) (n := 81) rfl ?_
            refine k_goto Xc d_S_lineCuts_81 (t := 9) rfl ?_
            exact k_loc (ih (k + 1) 1 1 (by omega) (by omega) (zB_yes hl (by first | exact Or.inl (by omega) | exact Or.inr (by omega))) (zB_yes hg (by first | exact Or.inl (by omega) | exact Or.inr (by omega)))) rfl
          · refine k_iload Xc d_S_lineCuts_66 rfl (n := 68) rfl ?_
            refine k_if_ge Xc d_S_lineCuts_68 (t := 75) (n := 71) rfl rfl (by omega) (fun h_68 => ?_) (fun h_68 => ?_)
            · refine k_iconst Xc d_S_lineCuts_75 (n := 76) rfl ?_
              refine k_istore Xc d_S_lineCuts_76 (by decide) (n := 78) rfl ?_
              refine k_iinc Xc d_S_lineCuts_78 rfl (by decide) (n := 81) rfl ?_
              refine k_goto Xc d_S_lineCuts_81 (t := 9) rfl ?_
              exact k_loc (ih (k + 1) 1 0 (by omega) (by omega) (zB_yes hl (by first | exact Or.inl (by omega) | exact Or.inr (by omega))) (zB_no hg (by omega) (by omega))) rfl
            · refine k_iconst Xc d_S_lineCuts_71 (n := 72) rfl ?_
              refine k_goto Xc d_S_lineCuts_72 (t := 76) rfl ?_
              refine k_istore Xc d_S_lineCuts_76 (by decide) (n := 78) rfl ?_
              refine k_iinc Xc d_S_lineCuts_78 rfl (by decide) (n := 81) rfl ?_
              refine k_goto Xc d_S_lineCuts_81 (t := 9) rfl ?_
              exact k_loc (ih (k + 1) 1 1 (by omega) (by omega) (zB_yes hl (by first | exact Or.inl (by omega) | exact Or.inr (by omega))) (zB_yes hg (by first | exact Or.inl (by omega) | exact Or.inr (by omega)))) rfl
        · refine k_iload Xc d_S_lineCuts_49 rfl (n := 51) rfl ?_
          refine k_if_le Xc d_S_lineCuts_51 (t := 58) (n := 54) rfl rfl (by omega) (fun h_51 => ?_) (fun h_51 => ?_)
          · refine k_iconst Xc d_S_lineCuts_58 (n := 59) rfl ?_
            refine k_istore Xc d_S_lineCuts_59 (by decide) (n := 61) rfl ?_
            refine k_iload Xc d_S_lineCuts_61 rfl (n := 63) rfl ?_
            refine k_if_ne Xc d_S_lineCuts_63 (t := 71) (n := 66) rfl rfl (by omega) (fun h_63 => ?_) (fun h_63 => ?_)
            · refine k_iconst Xc d_S_lineCuts_71 (n := 72) rfl ?_
              refine k_goto Xc d_S_lineCuts_72 (t := 76) rfl ?_
              refine k_istore Xc d_S_lineCuts_76 (by decide) (n := 78) rfl ?_
              refine k_iinc Xc d_S_lineCuts_78 rfl (by decide) (n := 81) rfl ?_
              refine k_goto Xc d_S_lineCuts_81 (t := 9) rfl ?_
              exact k_loc (ih (k + 1) 0 1 (by omega) (by omega) (zB_no hl (by omega) (by omega)) (zB_yes hg (by first | exact Or.inl (by omega) | exact Or.inr (by omega)))) rfl
            · refine k_iload Xc d_S_lineCuts_66 rfl (n := 68) rfl ?_
              refine k_if_ge Xc d_S_lineCuts_68 (t := 75) (n := 71) rfl rfl (by omega) (fun h_68 => ?_) (fun h_68 => ?_)
              · refine k_iconst Xc d_S_lineCuts_75 (n := 76) rfl ?_
                refine k_istore Xc d_S_lineCuts_76 (by decide) (n := 78) rfl ?_
                refine k_iinc Xc d_S_lineCuts_78 rfl (by decide) (n := 81) rfl ?_
                refine k_goto Xc d_S_lineCuts_81 (t := 9) rfl ?_
                exact k_loc (ih (k + 1) 0 0 (by omega) (by omega) (zB_no hl (by omega) (by omega)) (zB_no hg (by omega) (by omega))) rfl
              · refine k_iconst Xc d_S_lineCuts_71 (n := 72) rfl ?_
                refine k_goto Xc d_S_lineCuts_72 (t := 76) rfl ?_
                refine k_istore Xc d_S_lineCuts_76 (by decide) (n := 78) rfl ?_
                refine k_iinc Xc d_S_lineCuts_78 rfl (by decide) (n := 81) rfl ?_
                refine k_goto Xc d_S_lineCuts_81 (t := 9) rfl ?_
                exact k_loc (ih (k + 1) 0 1 (by omega) (by omega) (zB_no hl (by omega) (by omega)) (zB_yes hg (by first | exact Or.inl (by omega) | exact Or.inr (by omega)))) rfl
          · refine k_iconst Xc d_S_lineCuts_54 (n := 55) rfl ?_
            refine k_goto Xc d_S_lineCuts_55 (t := 59) rfl ?_
            refine k_istore Xc d_S_lineCuts_59 (by decide) (n := 61) rfl ?_
            refine k_iload Xc d_S_lineCuts_61 rfl (n := 63) rfl ?_
            refine k_if_ne Xc d_S_lineCuts_63 (t := 71) (n := 66) rfl rfl (by omega) (fun h_63 => ?_) (fun h_63 => ?_)
            · refine k_iconst Xc d_S_lineCuts_71 (n := 72) rfl ?_
              refine k_goto Xc d_S_lineCuts_72 (t := 76) rfl ?_
              refine k_istore Xc d_S_lineCuts_76 (by decide) (n := 78) rfl ?_
              refine k_iinc Xc d_S_lineCuts_78 rfl (by decide) (n := 81) rfl ?_
              refine k_goto Xc d_S_lineCuts_81 (t := 9) rfl ?_
              exact k_loc (ih (k + 1) 1 1 (by omega) (by omega) (zB_yes hl (by first | exact Or.inl (by omega) | exact Or.inr (by omega))) (zB_yes hg (by first | exact Or.inl (by omega) | exact Or.inr (by omega)))) rfl
            · refine k_iload Xc d_S_lineCuts_66 rfl (n := 68) rfl ?_
              refine k_if_ge Xc d_S_lineCuts_68 (t := 75) (n := 71) rfl rfl (by omega) (fun h_68 => ?_) (fun h_68 => ?_)
              · refine k_iconst Xc d_S_lineCuts_75 (n := 76) rfl ?_
                refine k_istore Xc d_S_lineCuts_76 (by decide) (n := 78) rfl ?_
                refine k_iinc Xc d_S_lineCuts_78 rfl (by decide) (n := 81) rfl ?_
                refine k_goto Xc d_S_lineCuts_81 (t := 9) rfl ?_
                exact k_loc (ih (k + 1) 1 0 (by omega) (by omega) (zB_yes hl (by first | exact Or.inl (by omega) | exact Or.inr (by omega))) (zB_no hg (by omega) (by omega))) rfl
              · refine k_iconst Xc d_S_lineCuts_71 (n := 72) rfl ?_
                refine k_goto Xc d_S_lineCuts_72 (t := 76) rfl ?_
                refine k_istore Xc d_S_lineCuts_76 (by decide) (n := 78) rfl ?_
                refine k_iinc Xc d_S_lineCuts_78 rfl (by decide) (n := 81) rfl ?_
                refine k_goto Xc d_S_lineCuts_81 (t := 9) rfl ?_
                exact k_loc (ih (k + 1) 1 1 (by omega) (by omega) (zB_yes hl (by first | exact Or.inl (by omega) | exact Or.inr (by omega))) (zB_yes hg (by first | exact Or.inl (by omega) | exact Or.inr (by omega)))) rfl
  refine k_iconst Xc d_S_lineCuts_0 (n := 1) rfl ?_
  refine k_istore Xc d_S_lineCuts_1 (by decide) (n := 3) rfl ?_
  refine k_iconst Xc d_S_lineCuts_3 (n := 4) rfl ?_
  refine k_istore Xc d_S_lineCuts_4 (by decide) (n := 6) rfl ?_
  refine k_iconst Xc d_S_lineCuts_6 (n := 7) rfl ?_
  refine k_istore Xc d_S_lineCuts_7 (by decide) (n := 9) rfl ?_
  exact k_loc (loop (k2 + 1) 0 0 0 (by omega) (by omega) (Or.inr ⟨fun ⟨_, q, _⟩ => absurd q (by omega), rfl⟩) (Or.inr ⟨fun ⟨_, q, _⟩ => absurd q (by omega), rfl⟩)) rfl
set_option maxRecDepth 100000 in
set_option maxHeartbeats 4000000 in
/-- some side has neither of two points on its inner side -/
theorem m_S_isBeyond (l : Launch) (D : va_G) (G : Nat → ClassId) {L : List Nat} {f : Nat → va_E} {a ax ay n : Nat} {X Y : Int → Int} {lx hx ly hy : Int} (hS : zS G L f a ax ay n X Y lx hx ly hy) (hB : sB n X Y) (px py qx qy : Int) (q3 : -200 ≤ px ∧ px ≤ 200 ∧ -200 ≤ py ∧ py ≤ 200 ∧ -200 ≤ qx ∧ qx ≤ 200 ∧ -200 ≤ qy ∧ qy ≤ 200) : zM l D G y_S_isBeyond (.code y_S_isBeyond c_S_isBeyond 6 (some .boolean) :: BG) (zR0 1 24) [.ref a, .int (zI px), .int (zI py), .int (zI qx), .int (zI qy)] L f (zA L f (fun r => zB (∃ i : Nat, i < n ∧ ge_bs (sP X Y) n i (px, py) ≤ 0 ∧ ge_bs (sP X Y) n i (qx, qy) ≤ 0) r)) := by
  refine zM.of (by decide) (Nat.le_of_ble_eq_true rfl) rfl (fun p e s m args below meth c A Xc hr hnm => ?_)
  have hn := hB.1
  have loop : ∀ (d i : Nat), n < i + d → i ≤ n → (∀ i2, i2 < i → ¬ (ge_bs (sP X Y) n i2 (px, py) ≤ 0 ∧ ge_bs (sP X Y) n i2 (qx, qy) ≤ 0)) → zG p l e (zR0 1 24) s m args below meth c D A 6 0 0 (MQ below (zE D A (zA L f (fun r => zB (∃ i : Nat, i < n ∧ ge_bs (sP X Y) n i (px, py) ≤ 0 ∧ ge_bs (sP X Y) n i (qx, qy) ≤ 0) r))) args s (zR0 1 24).cells (zR0 1 24).slots A) 3 [(0, .ref a), (1, .int (zI px)), (2, .int (zI py)), (3, .int (zI qx)), (4, .int (zI qy)), (5, .int (zI (i : Int)))] [] L f := by
    intro d
    induction d with
    | zero => intro i h1 h2; omega
    | succ d ih =>
      intro i h1 h2 hI
      refine k_iload Xc d_S_isBeyond_3 rfl (n := 5) rfl ?_
      refine k_aload_n Xc d_S_isBeyond_5 rfl rfl (n := 6) rfl ?_
      refine k_get Xc u_S rfl 2 (by decide) wd_32 rfl d_S_isBeyond_6 (n := 9) rfl hS.1 hS.2.2.2.1 rfl ?_
      refine k_icmp_ge Xc d_S_isBeyond_9 (t := 43) (n := 12) rfl rfl (by omega) (by omega) (fun h_9 => ?_) (fun h_9 => ?_)
      · refine k_iconst Xc d_S_isBeyond_43 (n := 44) rfl ?_
        refine k_iret Xc d_S_isBeyond_44 hr rfl (Nat.le_refl _) (Nat.le_refl _) ⟨_, rfl, ?_, rfl, rfl⟩
        exact Or.inr ⟨fun ⟨i2, z1, z2⟩ => hI i2 (by omega) z2, rfl⟩
      · refine k_aload_n Xc d_S_isBeyond_12 rfl rfl (n := 13) rfl ?_
        refine k_iload Xc d_S_isBeyond_13 rfl (n := 15) rfl ?_
        refine k_iload_n Xc d_S_isBeyond_15 rfl rfl (n := 16) rfl ?_
        refine k_iload_n Xc d_S_isBeyond_16 rfl rfl (n := 17) rfl ?_
        have c1 := bs_bd hB (i := i) (by omega) (px := px) (py := py) (by omega) (by omega) (by omega) (by omega)
        have c2 := bs_bd hB (i := i) (by omega) (px := qx) (py := qy) (by omega) (by omega) (by omega) (by omega)
        refine k_qV (na := 3) Xc (m_S_beside l D G hS hB _ (by omega) _ _ (by omega) (by omega) (by omega) (by omega)) hS.1 hS.2.2.2.1 rfl wd_325 wd_322 wd_323 wd_324 wd_2 (by decide +kernel) ⟨by decide, by decide⟩ rfl rfl (Nat.le_of_ble_eq_true rfl) d_S_isBeyond_17 (n := 20) rfl ⟨Nat.zero_le _, Nat.zero_le _⟩ (fun r_17 e_17 => ?_)
        subst e_17
        refine k_if_gt Xc d_S_isBeyond_20 (t := 37) (n := 23) rfl rfl (by omega) (fun h_20 => ?_) (fun h_20 => ?_)
        · refine k_iinc Xc d_S_isBeyond_37 rfl (by decide) (n := 40) rfl ?_
          refine k_goto Xc d_S_isBeyond_40 (t := 3) rfl ?_
          exact k_loc (ih (i + 1) (by omega) (by omega) (fun i2 q => by
            rcases Nat.lt_or_ge i2 i with q1 | q1
            · exact hI i2 q1
            · have e : i2 = i := by omega
              subst e
              omega)) rfl
        · refine k_aload_n Xc d_S_isBeyond_23 rfl rfl (n := 24) rfl ?_
          refine k_iload Xc d_S_isBeyond_24 rfl (n := 26) rfl ?_
          refine k_iload_n Xc d_S_isBeyond_26 rfl rfl (n := 27) rfl ?_
          refine k_iload Xc d_S_isBeyond_27 rfl (n := 29) rfl ?_
          refine k_qV (na := 3) Xc (m_S_beside l D G hS hB _ (by omega) _ _ (by omega) (by omega) (by omega) (by omega)) hS.1 hS.2.2.2.1 rfl wd_325 wd_322 wd_323 wd_324 wd_2 (by decide +kernel) ⟨by decide, by decide⟩ rfl rfl (Nat.le_of_ble_eq_true rfl) d_S_isBeyond_29 (n := 32) rfl ⟨Nat.zero_le _, Nat.zero_le _⟩ (fun r_29 e_29 => ?_)
          subst e_29
          refine k_if_gt Xc d_S_isBeyond_32 (t := 37) (n := 35) rfl rfl (by omega) (fun h_32 => ?_) (fun h_32 => ?_)
          · refine k_iinc Xc d_S_isBeyond_37 rfl (by decide) (n := 40) rfl ?_
            refine k_goto Xc d_S_isBeyond_40 (t := 3) rfl ?_
            exact k_loc (ih (i + 1) (by omega) (by omega) (fun i2 q => by
              rcases Nat.lt_or_ge i2 i with q1 | q1
              · exact hI i2 q1
              · have e : i2 = i := by omega
                subst e
                omega)) rfl
          · refine k_iconst Xc d_S_isBeyond_35 (n := 36) rfl ?_
            refine k_iret Xc d_S_isBeyond_36 hr rfl (Nat.le_refl _) (Nat.le_refl _) ⟨_, rfl, ?_, rfl, rfl⟩
            exact Or.inl ⟨⟨i, by omega, by omega, by omega⟩, rfl⟩
  refine k_iconst Xc d_S_isBeyond_0 (n := 1) rfl ?_
  refine k_istore Xc d_S_isBeyond_1 (by decide) (n := 3) rfl ?_
  exact k_loc (loop (n + 1) 0 (by omega) (by omega) (fun i2 q => absurd q (by omega))) rfl
