-- MODEL: the shape of a kind; inside, off zones, beside parts
section MN
variable {G : Nat → ClassId} {L : List Nat} {f : Nat → va_E} {o : Nat} {ra : Nat → Nat} {cd wt hc zn kn mn om : Int} {R : Nat → Int → Int}
variable {p : Program} {l : Launch} {e : Env} {Rm : Room} {s : State} {m : MethodId} {args : Array Value} {below : List Frame} {meth : Method} {c : Code} {D : va_G} {A : Nat → Prop} {nL cells slots : Nat} {Q : State → Prop} {cc : ByteArray} {own : String}
variable {pc n t : Nat} {lv : List (Nat × Value)} {st : List Value}
theorem k_iastN (X : zX p s m args meth c D G A cc own nL) (hM : zMo G L f o ra cd wt hc zn kn mn om R) (k : Nat) (hk : k < 23) {z v : Int} (hd : decode cc pc = .ok (.iastore, 1)) (hn : pc + 1 = n) (h0 : 0 ≤ z) (h1 : z < (msz k : Nat))
    (kk : ∀ (f1 : Nat → va_E) (R1 : Nat → Int → Int), R1 k = iu (R k) z v → (∀ j : Nat, j ≠ k → R1 j = R j) → zMo G L f1 o ra cd wt hc zn kn mn om R1 → mFr f f1 o ra → zG p l e Rm s m args below meth c D A nL cells slots Q n lv st L f1) : zG p l e Rm s m args below meth c D A nL cells slots Q pc lv (.int (zI v) :: .int (zI z) :: .ref (ra k) :: st) L f :=
  k_iastM X hM k hk hd hn h0 h1 (fun f1 h hF => kk f1 _ (va_up_self _ _ _) (fun j hj => va_up_ne _ _ hj) h hF)
end MN
/-- t turns -/
def rot : Nat → Int × Int → Int × Int
  | 0, p => p
  | t + 1, p => (-(rot t p).2, (rot t p).1)
theorem rot_bd : ∀ (t : Nat) (p : Int × Int), -12 ≤ p.1 ∧ p.1 ≤ 12 ∧ -12 ≤ p.2 ∧ p.2 ≤ 12 → -12 ≤ (rot t p).1 ∧ (rot t p).1 ≤ 12 ∧ -12 ≤ (rot t p).2 ∧ (rot t p).2 ≤ 12
  | 0, p, h => h
  | t + 1, p, h => by
    have := rot_bd t p h
    show -12 ≤ -(rot t p).2 ∧ -(rot t p).2 ≤ 12 ∧ -12 ≤ (rot t p).1 ∧ (rot t p).1 ≤ 12
    omega
/-- the least, or 100 -/
def mlo (v : Nat → Int) : Nat → Int
  | 0 => 100
  | k + 1 => if v k < mlo v k then v k else mlo v k
theorem mlo_t {v : Nat → Int} {k : Nat} (h : v k < mlo v k) : mlo v (k + 1) = v k := if_pos h
theorem mlo_f {v : Nat → Int} {k : Nat} (h : ¬ v k < mlo v k) : mlo v (k + 1) = mlo v k := if_neg h
theorem mlo_bd {v : Nat → Int} : ∀ {k : Nat}, (∀ j, j < k → -100 ≤ v j ∧ v j ≤ 100) → -100 ≤ mlo v k ∧ mlo v k ≤ 100
  | 0, _ => by show -100 ≤ (100 : Int) ∧ (100 : Int) ≤ 100; omega
  | k + 1, h => by
    have a := mlo_bd (k := k) (fun j hj => h j (by omega))
    have b := h k (by omega)
    by_cases c : v k < mlo v k
    · rw [mlo_t c]; exact b
    · rw [mlo_f c]; exact a
def kq (R : Nat → Int → Int) (kd t j : Nat) : Int × Int := rot t (R 8 (6 * (kd : Int) + (j : Int)), R 9 (6 * (kd : Int) + (j : Int)))
/-- corner j of kind kd after t turns, its least coordinates at (ax, ay) -/
def kp (R : Nat → Int → Int) (kd t : Nat) (ax ay : Int) (a j : Nat) : Int × Int := ((kq R kd t j).1 + (ax - mlo (fun j : Nat => (kq R kd t j).1) a), (kq R kd t j).2 + (ay - mlo (fun j : Nat => (kq R kd t j).2) a))
def kOk (R : Nat → Int → Int) (kd a : Nat) : Prop := ∀ j : Nat, j < a → 0 ≤ R 8 (6 * (kd : Int) + (j : Int)) ∧ R 8 (6 * (kd : Int) + (j : Int)) ≤ 12 ∧ 0 ≤ R 9 (6 * (kd : Int) + (j : Int)) ∧ R 9 (6 * (kd : Int) + (j : Int)) ≤ 12
/-- the reference: a shape is inside the hide -/
def fHide (h : Nat) (V : Nat → Int × Int) (a : Nat) (P : Nat → Int × Int) : Prop := (∀ k, k < h → ¬ ge_ov a P 2 (ge_two2 (V k) (V (ge_nx h k)))) ∧ 0 < h ∧ ge_odM h (ge_3 V) (ge_mid3 (P 0) (P 1) (P 2)) h
set_option maxRecDepth 100000 in
set_option maxHeartbeats 4000000 in
/-- the corners of a kind, turned, at a point -/
theorem m_M_shape (l : Launch) (D : va_G) (G : Nat → ClassId) {L : List Nat} {f : Nat → va_E} {o : Nat} {ra : Nat → Nat} {cd wt hc zn kn mn om : Int} {R : Nat → Int → Int} (hM : zMo G L f o ra cd wt hc zn kn mn om R) (kd a t : Nat) (hkd : kd < 6) (ha : 1 ≤ a) (ha6 : a ≤ 6) (h10 : R 10 (kd : Int) = (a : Int)) (hq : kOk R kd a) (ht : t ≤ 3) (ax ay : Int) (hx : 0 ≤ ax ∧ ax ≤ 30) (hy : 0 ≤ ay ∧ ay ≤ 30) : zM l D G y_M_shape (.code y_M_shape c_M_shape 12 none :: BG) (zR0 0 0) [.ref o, .int (zI (kd : Int)), .int (zI (t : Int)), .int (zI ax), .int (zI ay)] L f (fun v L1 f1 => L = L1 ∧ v = none ∧ mFr f f1 o ra ∧ ∃ R1 : Nat → Int → Int, (∀ k : Nat, k ≠ 19 → k ≠ 20 → R1 k = R k) ∧ (∀ j : Nat, j < a → R1 19 (j : Int) = (kp R kd t ax ay a j).1 ∧ R1 20 (j : Int) = (kp R kd t ax ay a j).2) ∧ zMo G L f1 o ra cd wt hc zn kn (a : Int) om R1) := by
  refine zM.of (by decide) (Nat.le_of_ble_eq_true rfl) rfl (fun p e s m args below meth c A Xc hr hnm => ?_)
  have bq : ∀ j : Nat, j < a → -12 ≤ (kq R kd t j).1 ∧ (kq R kd t j).1 ≤ 12 ∧ -12 ≤ (kq R kd t j).2 ∧ (kq R kd t j).2 ≤ 12 := fun j hj => by
    have := hq j hj
    exact rot_bd t _ (by dsimp only; omega)
  have second : ∀ (d i : Nat) (g : Nat → va_E) (R1 : Nat → Int → Int), a < i + d → i ≤ a → zMo G L g o ra cd wt hc zn kn (a : Int) om R1 → mFr f g o ra → (∀ k : Nat, k ≠ 19 → k ≠ 20 → R1 k = R k) → (∀ j : Nat, j < i → R1 19 (j : Int) = (kp R kd t ax ay a j).1 ∧ R1 20 (j : Int) = (kp R kd t ax ay a j).2) → (∀ j : Nat, i ≤ j → j < a → R1 19 (j : Int) = (kq R kd t j).1 ∧ R1 20 (j : Int) = (kq R kd t j).2) → zG p l e (zR0 0 0) s m args below meth c D A 12 0 0 (MQ below (zE D A (fun v L1 f1 => L = L1 ∧ v = none ∧ mFr f f1 o ra ∧ ∃ R1 : Nat → Int → Int, (∀ k : Nat, k ≠ 19 → k ≠ 20 → R1 k = R k) ∧ (∀ j : Nat, j < a → R1 19 (j : Int) = (kp R kd t ax ay a j).1 ∧ R1 20 (j : Int) = (kp R kd t ax ay a j).2) ∧ zMo G L f1 o ra cd wt hc zn kn (a : Int) om R1)) args s (zR0 0 0).cells (zR0 0 0).slots A) 145 [(0, .ref o), (1, .int (zI (kd : Int))), (2, .int (zI (t : Int))), (3, .int (zI ax)), (4, .int (zI ay)), (5, .int (zI (mlo (fun j : Nat => (kq R kd t j).1) a))), (6, .int (zI (mlo (fun j : Nat => (kq R kd t j).2) a))), (7, .int (zI (i : Int)))] [] L g := by
    intro d
    induction d with
    | zero => intro i g R1 h1 h2; omega
    | succ d ih =>
      intro i g R1 h1 h2 hG hF hK hJ hU
      refine k_iload Xc d_M_shape_145 rfl (n := 147) rfl ?_
      refine k_aload_n Xc d_M_shape_147 rfl rfl (n := 148) rfl ?_
      refine k_get Xc u_M rfl 24 (by decide) wd_574 rfl d_M_shape_148 (n := 151) rfl hG.1 hG.2.2.1 rfl ?_
      refine k_icmp_ge Xc d_M_shape_151 (t := 189) (n := 154) rfl rfl (by omega) (by omega) (fun h_151 => ?_) (fun h_151 => ?_)
      · refine k_vret Xc d_M_shape_189 hr (Nat.le_refl _) (Nat.le_refl _) ?_
        have ei : i = a := by omega
        subst ei
        exact ⟨rfl, rfl, hF, R1, hK, hJ, hG⟩
      · refine k_aload_n Xc d_M_shape_154 rfl rfl (n := 155) rfl ?_
        refine k_get Xc u_M rfl 25 (by decide) wd_575 rfl d_M_shape_155 (n := 158) rfl hG.1 hG.2.2.1 rfl ?_
        refine k_iload Xc d_M_shape_158 rfl (n := 160) rfl ?_
        refine k_dup2 Xc d_M_shape_160 rfl rfl (n := 161) rfl ?_
        refine k_iald Xc d_M_shape_161 (n := 162) rfl (hG.2.1 19 (by decide)) (mr_19 hG) (by omega) (by omega) (by decide) ?_
        refine k_iload_n Xc d_M_shape_162 rfl rfl (n := 163) rfl ?_
        refine k_iload Xc d_M_shape_163 rfl (n := 165) rfl ?_
        refine k_isub Xc d_M_shape_165 (n := 166) rfl ?_
        refine k_iadd Xc d_M_shape_166 (n := 167) rfl ?_
        refine k_iastN Xc hG 19 (by decide) d_M_shape_167 (n := 168) rfl (by omega) (by show _ < ((6 : Nat) : Int); omega) (fun f_167 R_167 hr_167 hk_167 hM_167 hF_167 => ?_)
        refine k_aload_n Xc d_M_shape_168 rfl rfl (n := 169) rfl ?_
        refine k_get Xc u_M rfl 26 (by decide) wd_576 rfl d_M_shape_169 (n := 172) rfl hM_167.1 hM_167.2.2.1 rfl ?_
        refine k_iload Xc d_M_shape_172 rfl (n := 174) rfl ?_
        refine k_dup2 Xc d_M_shape_174 rfl rfl (n := 175) rfl ?_
        refine k_iald Xc d_M_shape_175 (n := 176) rfl (hM_167.2.1 20 (by decide)) (mr_20 hM_167) (by omega) (by omega) (by decide) ?_
        refine k_iload Xc d_M_shape_176 rfl (n := 178) rfl ?_
        refine k_iload Xc d_M_shape_178 rfl (n := 180) rfl ?_
        refine k_isub Xc d_M_shape_180 (n := 181) rfl ?_
        refine k_iadd Xc d_M_shape_181 (n := 182) rfl ?_
        refine k_iastN Xc hM_167 20 (by decide) d_M_shape_182 (n := 183) rfl (by omega) (by show _ < ((6 : Nat) : Int); omega) (fun f_182 R_182 hr_182 hk_182 hM_182 hF_182 => ?_)
        refine k_iinc Xc d_M_shape_183 rfl (by decide) (n := 186) rfl ?_
        refine k_goto Xc d_M_shape_186 (t := 145) rfl ?_
        exact k_loc (ih (i + 1) _ _ (by omega) (by omega) hM_182 (mFr_tr (mFr_tr hF hF_167) hF_182) (fun k q1 q2 => by rw [hk_182 k q2, hk_167 k q1]; exact hK k q1 q2) (fun j hj => by
          rw [hr_182, hk_182 19 (by decide), hr_167, hk_167 20 (by decide)]
          rcases Nat.lt_or_ge j i with q | q
          · rw [iu_nat q, iu_nat q]; exact hJ j q
          · have ej : j = i := by omega
            subst ej
            rw [iu_at, iu_at, (hU j (by omega) (by omega)).1, (hU j (by omega) (by omega)).2]; exact ⟨rfl, rfl⟩) (fun j q1 q2 => by
          rw [hr_182, hk_182 19 (by decide), hr_167, hk_167 20 (by decide), iu_ne (by omega), iu_ne (by omega)]
          exact hU j (by omega) q2)) rfl
  have first : ∀ (d i : Nat) (g : Nat → va_E) (R1 : Nat → Int → Int), a < i + d → i ≤ a → zMo G L g o ra cd wt hc zn kn (a : Int) om R1 → mFr f g o ra → (∀ k : Nat, k ≠ 19 → k ≠ 20 → R1 k = R k) → (∀ j : Nat, j < i → R1 19 (j : Int) = (kq R kd t j).1 ∧ R1 20 (j : Int) = (kq R kd t j).2) → zG p l e (zR0 0 0) s m args below meth c D A 12 0 0 (MQ below (zE D A (fun v L1 f1 => L = L1 ∧ v = none ∧ mFr f f1 o ra ∧ ∃ R1 : Nat → Int → Int, (∀ k : Nat, k ≠ 19 → k ≠ 20 → R1 k = R k) ∧ (∀ j : Nat, j < a → R1 19 (j : Int) = (kp R kd t ax ay a j).1 ∧ R1 20 (j : Int) = (kp R kd t ax ay a j).2) ∧ zMo G L f1 o ra cd wt hc zn kn (a : Int) om R1)) args s (zR0 0 0).cells (zR0 0 0).slots A) 21 [(0, .ref o), (1, .int (zI (kd : Int))), (2, .int (zI (t : Int))), (3, .int (zI ax)), (4, .int (zI ay)), (5, .int (zI (mlo (fun j : Nat => (kq R kd t j).1) i))), (6, .int (zI (mlo (fun j : Nat => (kq R kd t j).2) i))), (7, .int (zI (i : Int)))] [] L g := by
    intro d
    induction d with
    | zero => intro i g R1 h1 h2; omega
    | succ d ih =>
      intro i g R1 h1 h2 hG hF hK hJ
      have m1 := mlo_bd (v := (fun j : Nat => (kq R kd t j).1)) (k := i) (fun j hj => by have := bq j (by omega); omega)
      have m2 := mlo_bd (v := (fun j : Nat => (kq R kd t j).2)) (k := i) (fun j hj => by have := bq j (by omega); omega)
      have inner : i < a → ∀ (d2 u : Nat), t < u + d2 → u ≤ t → zG p l e (zR0 0 0) s m args below meth c D A 12 0 0 (MQ below (zE D A (fun v L1 f1 => L = L1 ∧ v = none ∧ mFr f f1 o ra ∧ ∃ R1 : Nat → Int → Int, (∀ k : Nat, k ≠ 19 → k ≠ 20 → R1 k = R k) ∧ (∀ j : Nat, j < a → R1 19 (j : Int) = (kp R kd t ax ay a j).1 ∧ R1 20 (j : Int) = (kp R kd t ax ay a j).2) ∧ zMo G L f1 o ra cd wt hc zn kn (a : Int) om R1)) args s (zR0 0 0).cells (zR0 0 0).slots A) 61 [(0, .ref o), (1, .int (zI (kd : Int))), (2, .int (zI (t : Int))), (3, .int (zI ax)), (4, .int (zI ay)), (5, .int (zI (mlo (fun j : Nat => (kq R kd t j).1) i))), (6, .int (zI (mlo (fun j : Nat => (kq R kd t j).2) i))), (7, .int (zI (i : Int))), (8, .int (zI (rot u (R 8 (6 * (kd : Int) + (i : Int)), R 9 (6 * (kd : Int) + (i : Int)))).1)), (9, .int (zI (rot u (R 8 (6 * (kd : Int) + (i : Int)), R 9 (6 * (kd : Int) + (i : Int)))).2)), (10, .int (zI (u : Int)))] [] L g := by
        intro hi d2
        induction d2 with
        | zero => intro u g1 g2; omega
        | succ d2 ih2 =>
          intro u g1 g2
          refine k_iload Xc d_M_shape_61 rfl (n := 63) rfl ?_
          refine k_iload_n Xc d_M_shape_63 rfl rfl (n := 64) rfl ?_
          refine k_icmp_ge Xc d_M_shape_64 (t := 86) (n := 67) rfl rfl (by omega) (by omega) (fun h_64 => ?_) (fun h_64 => ?_)
          · have eu : u = t := by omega
            subst eu
            have e0 : rot u (R 8 (6 * (kd : Int) + (i : Int)), R 9 (6 * (kd : Int) + (i : Int))) = kq R kd u i := rfl
            rw [e0]
            have bi := bq i hi
            refine k_aload_n Xc d_M_shape_86 rfl rfl (n := 87) rfl ?_
            refine k_get Xc u_M rfl 25 (by decide) wd_575 rfl d_M_shape_87 (n := 90) rfl hG.1 hG.2.2.1 rfl ?_
            refine k_iload Xc d_M_shape_90 rfl (n := 92) rfl ?_
            refine k_iload Xc d_M_shape_92 rfl (n := 94) rfl ?_
            refine k_iastN Xc hG 19 (by decide) d_M_shape_94 (n := 95) rfl (by omega) (by show _ < ((6 : Nat) : Int); omega) (fun f_94 R_94 hr_94 hk_94 hM_94 hF_94 => ?_)
            refine k_aload_n Xc d_M_shape_95 rfl rfl (n := 96) rfl ?_
            refine k_get Xc u_M rfl 26 (by decide) wd_576 rfl d_M_shape_96 (n := 99) rfl hM_94.1 hM_94.2.2.1 rfl ?_
            refine k_iload Xc d_M_shape_99 rfl (n := 101) rfl ?_
            refine k_iload Xc d_M_shape_101 rfl (n := 103) rfl ?_
            refine k_iastN Xc hM_94 20 (by decide) d_M_shape_103 (n := 104) rfl (by omega) (by show _ < ((6 : Nat) : Int); omega) (fun f_103 R_103 hr_103 hk_103 hM_103 hF_103 => ?_)
            refine k_iload Xc d_M_shape_104 rfl (n := 106) rfl ?_
            refine k_iload Xc d_M_shape_106 rfl (n := 108) rfl ?_
            refine k_icmp_ge Xc d_M_shape_108 (t := 116) (n := 111) rfl rfl (by omega) (by omega) (fun h_108 => ?_) (fun h_108 => ?_)
            · refine k_iload Xc d_M_shape_116 rfl (n := 118) rfl ?_
              refine k_istore Xc d_M_shape_118 (by decide) (n := 120) rfl ?_
              refine k_iload Xc d_M_shape_120 rfl (n := 122) rfl ?_
              refine k_iload Xc d_M_shape_122 rfl (n := 124) rfl ?_
              refine k_icmp_ge Xc d_M_shape_124 (t := 132) (n := 127) rfl rfl (by omega) (by omega) (fun h_124 => ?_) (fun h_124 => ?_)
              · refine k_iload Xc d_M_shape_132 rfl (n := 134) rfl ?_
                refine k_istore Xc d_M_shape_134 (by decide) (n := 136) rfl ?_
                refine k_iinc Xc d_M_shape_136 rfl (by decide) (n := 139) rfl ?_
                refine k_goto Xc d_M_shape_139 (t := 21) rfl ?_
                refine k_loc (ih (i + 1) _ _ (by omega) (by omega) hM_103 (mFr_tr (mFr_tr hF hF_94) hF_103) (fun k q1 q2 => by rw [hk_103 k q2, hk_94 k q1]; exact hK k q1 q2) (fun j hj => by
                  rw [hr_103, hk_103 19 (by decide), hr_94, hk_94 20 (by decide)]
                  rcases Nat.lt_or_ge j i with q | q
                  · rw [iu_nat q, iu_nat q]; exact hJ j q
                  · have ej : j = i := by omega
                    subst ej
                    rw [iu_at, iu_at]; exact ⟨rfl, rfl⟩)) ?_
                first | (rw [mlo_t (v := (fun j : Nat => (kq R kd u j).1)) (by omega), mlo_t (v := (fun j : Nat => (kq R kd u j).2)) (by omega)]; rfl) | (rw [mlo_t (v := (fun j : Nat => (kq R kd u j).1)) (by omega), mlo_f (v := (fun j : Nat => (kq R kd u j).2)) (by omega)]; rfl) | (rw [mlo_f (v := (fun j : Nat => (kq R kd u j).1)) (by omega), mlo_t (v := (fun j : Nat => (kq R kd u j).2)) (by omega)]; rfl) | (rw [mlo_f (v := (fun j : Nat => (kq R kd u j).1)) (by omega), mlo_f (v := (fun j : Nat => (kq R kd u j).2)) (by omega)]; rfl)
              · refine k_iload Xc d_M_shape_127 rfl (n := 129) rfl ?_
                refine k_goto Xc d_M_shape_129 (t := 134) rfl ?_
                refine k_istore Xc d_M_shape_134 (by decide) (n := 136) rfl ?_
                refine k_iinc Xc d_M_shape_136 rfl (by decide) (n := 139) rfl ?_
                refine k_goto Xc d_M_shape_139 (t := 21) rfl ?_
                refine k_loc (ih (i + 1) _ _ (by omega) (by omega) hM_103 (mFr_tr (mFr_tr hF hF_94) hF_103) (fun k q1 q2 => by rw [hk_103 k q2, hk_94 k q1]; exact hK k q1 q2) (fun j hj => by
                  rw [hr_103, hk_103 19 (by decide), hr_94, hk_94 20 (by decide)]
                  rcases Nat.lt_or_ge j i with q | q
                  · rw [iu_nat q, iu_nat q]; exact hJ j q
                  · have ej : j = i := by omega
                    subst ej
                    rw [iu_at, iu_at]; exact ⟨rfl, rfl⟩)) ?_
                first | (rw [mlo_t (v := (fun j : Nat => (kq R kd u j).1)) (by omega), mlo_t (v := (fun j : Nat => (kq R kd u j).2)) (by omega)]; rfl) | (rw [mlo_t (v := (fun j : Nat => (kq R kd u j).1)) (by omega), mlo_f (v := (fun j : Nat => (kq R kd u j).2)) (by omega)]; rfl) | (rw [mlo_f (v := (fun j : Nat => (kq R kd u j).1)) (by omega), mlo_t (v := (fun j : Nat => (kq R kd u j).2)) (by omega)]; rfl) | (rw [mlo_f (v := (fun j : Nat => (kq R kd u j).1)) (by omega), mlo_f (v := (fun j : Nat => (kq R kd u j).2)) (by omega)]; rfl)
            · refine k_iload Xc d_M_shape_111 rfl (n := 113) rfl ?_
              refine k_goto Xc d_M_shape_113 (t := 118) rfl ?_
              refine k_istore Xc d_M_shape_118 (by decide) (n := 120) rfl ?_
              refine k_iload Xc d_M_shape_120 rfl (n := 122) rfl ?_
              refine k_iload Xc d_M_shape_122 rfl (n := 124) rfl ?_
              refine k_icmp_ge Xc d_M_shape_124 (t := 132) (n := 127) rfl rfl (by omega) (by omega) (fun h_124 => ?_) (fun h_124 => ?_)
              · refine k_iload Xc d_M_shape_132 rfl (n := 134) rfl ?_
                refine k_istore Xc d_M_shape_134 (by decide) (n := 136) rfl ?_
                refine k_iinc Xc d_M_shape_136 rfl (by decide) (n := 139) rfl ?_
                refine k_goto Xc d_M_shape_139 (t := 21) rfl ?_
                refine k_loc (ih (i + 1) _ _ (by omega) (by omega) hM_103 (mFr_tr (mFr_tr hF hF_94) hF_103) (fun k q1 q2 => by rw [hk_103 k q2, hk_94 k q1]; exact hK k q1 q2) (fun j hj => by
                  rw [hr_103, hk_103 19 (by decide), hr_94, hk_94 20 (by decide)]
                  rcases Nat.lt_or_ge j i with q | q
                  · rw [iu_nat q, iu_nat q]; exact hJ j q
                  · have ej : j = i := by omega
                    subst ej
                    rw [iu_at, iu_at]; exact ⟨rfl, rfl⟩)) ?_
                first | (rw [mlo_t (v := (fun j : Nat => (kq R kd u j).1)) (by omega), mlo_t (v := (fun j : Nat => (kq R kd u j).2)) (by omega)]; rfl) | (rw [mlo_t (v := (fun j : Nat => (kq R kd u j).1)) (by omega), mlo_f (v := (fun j : Nat => (kq R kd u j).2)) (by omega)]; rfl) | (rw [mlo_f (v := (fun j : Nat => (kq R kd u j).1)) (by omega), mlo_t (v := (fun j : Nat => (kq R kd u j).2)) (by omega)]; rfl) | (rw [mlo_f (v := (fun j : Nat => (kq R kd u j).1)) (by omega), mlo_f (v := (fun j : Nat => (kq R kd u j).2)) (by omega)]; rfl)
              · refine k_iload Xc d_M_shape_127 rfl (n := 129) rfl ?_
                refine k_goto Xc d_M_shape_129 (t := 134) rfl ?_
                refine k_istore Xc d_M_shape_134 (by decide) (n := 136) rfl ?_
                refine k_iinc Xc d_M_shape_136 rfl (by decide) (n := 139) rfl ?_
                refine k_goto Xc d_M_shape_139 (t := 21) rfl ?_
                refine k_loc (ih (i + 1) _ _ (by omega) (by omega) hM_103 (mFr_tr (mFr_tr hF hF_94) hF_103) (fun k q1 q2 => by rw [hk_103 k q2, hk_94 k q1]; exact hK k q1 q2) (fun j hj => by
                  rw [hr_103, hk_103 19 (by decide), hr_94, hk_94 20 (by decide)]
                  rcases Nat.lt_or_ge j i with q | q
                  · rw [iu_nat q, iu_nat q]; exact hJ j q
                  · have ej : j = i := by omega
                    subst ej
                    rw [iu_at, iu_at]; exact ⟨rfl, rfl⟩)) ?_
                first | (rw [mlo_t (v := (fun j : Nat => (kq R kd u j).1)) (by omega), mlo_t (v := (fun j : Nat => (kq R kd u j).2)) (by omega)]; rfl) | (rw [mlo_t (v := (fun j : Nat => (kq R kd u j).1)) (by omega), mlo_f (v := (fun j : Nat => (kq R kd u j).2)) (by omega)]; rfl) | (rw [mlo_f (v := (fun j : Nat => (kq R kd u j).1)) (by omega), mlo_t (v := (fun j : Nat => (kq R kd u j).2)) (by omega)]; rfl) | (rw [mlo_f (v := (fun j : Nat => (kq R kd u j).1)) (by omega), mlo_f (v := (fun j : Nat => (kq R kd u j).2)) (by omega)]; rfl)
          · refine k_iload Xc d_M_shape_67 rfl (n := 69) rfl ?_
            refine k_istore Xc d_M_shape_69 (by decide) (n := 71) rfl ?_
            refine k_iload Xc d_M_shape_71 rfl (n := 73) rfl ?_
            refine k_ineg Xc d_M_shape_73 (n := 74) rfl ?_
            refine k_istore Xc d_M_shape_74 (by decide) (n := 76) rfl ?_
            refine k_iload Xc d_M_shape_76 rfl (n := 78) rfl ?_
            refine k_istore Xc d_M_shape_78 (by decide) (n := 80) rfl ?_
            refine k_iinc Xc d_M_shape_80 rfl (by decide) (n := 83) rfl ?_
            refine k_goto Xc d_M_shape_83 (t := 61) rfl ?_
            exact k_loc (ih2 (u + 1) (by omega) (by omega)) rfl
      refine k_iload Xc d_M_shape_21 rfl (n := 23) rfl ?_
      refine k_aload_n Xc d_M_shape_23 rfl rfl (n := 24) rfl ?_
      refine k_get Xc u_M rfl 24 (by decide) wd_574 rfl d_M_shape_24 (n := 27) rfl hG.1 hG.2.2.1 rfl ?_
      refine k_icmp_ge Xc d_M_shape_27 (t := 142) (n := 30) rfl rfl (by omega) (by omega) (fun h_27 => ?_) (fun h_27 => ?_)
      · refine k_iconst Xc d_M_shape_142 (n := 143) rfl ?_
        refine k_istore Xc d_M_shape_143 (by decide) (n := 145) rfl ?_
        have ei : i = a := by omega
        subst ei
        exact k_loc (second (i + 1) 0 g R1 (by omega) (by omega) hG hF hK (fun j q => absurd q (by omega)) (fun j _ q => hJ j q)) rfl
      · refine k_aload_n Xc d_M_shape_30 rfl rfl (n := 31) rfl ?_
        refine k_get Xc u_M rfl 13 (by decide) wd_563 rfl d_M_shape_31 (n := 34) rfl hG.1 hG.2.2.1 rfl ?_
        refine k_bipush Xc d_M_shape_34 rfl (n := 36) rfl ?_
        refine k_iload_n Xc d_M_shape_36 rfl rfl (n := 37) rfl ?_
        refine k_imul Xc d_M_shape_37 (n := 38) rfl ?_
        refine k_iload Xc d_M_shape_38 rfl (n := 40) rfl ?_
        refine k_iadd Xc d_M_shape_40 (n := 41) rfl ?_
        refine k_iald Xc d_M_shape_41 (n := 42) rfl (hG.2.1 8 (by decide)) (mr_8 hG) (by omega) (by omega) (by decide) ?_
        refine k_val (congrFun (hK 8 (by decide) (by decide)) _) ?_
        refine k_istore Xc d_M_shape_42 (by decide) (n := 44) rfl ?_
        refine k_aload_n Xc d_M_shape_44 rfl rfl (n := 45) rfl ?_
        refine k_get Xc u_M rfl 14 (by decide) wd_564 rfl d_M_shape_45 (n := 48) rfl hG.1 hG.2.2.1 rfl ?_
        refine k_bipush Xc d_M_shape_48 rfl (n := 50) rfl ?_
        refine k_iload_n Xc d_M_shape_50 rfl rfl (n := 51) rfl ?_
        refine k_imul Xc d_M_shape_51 (n := 52) rfl ?_
        refine k_iload Xc d_M_shape_52 rfl (n := 54) rfl ?_
        refine k_iadd Xc d_M_shape_54 (n := 55) rfl ?_
        refine k_iald Xc d_M_shape_55 (n := 56) rfl (hG.2.1 9 (by decide)) (mr_9 hG) (by omega) (by omega) (by decide) ?_
        refine k_val (congrFun (hK 9 (by decide) (by decide)) _) ?_
        refine k_istore Xc d_M_shape_56 (by decide) (n := 58) rfl ?_
        refine k_iconst Xc d_M_shape_58 (n := 59) rfl ?_
        refine k_istore Xc d_M_shape_59 (by decide) (n := 61) rfl ?_
        exact k_loc (inner (by omega) (t + 1) 0 (by omega) (by omega)) rfl
  refine k_aload_n Xc d_M_shape_0 rfl rfl (n := 1) rfl ?_
  refine k_aload_n Xc d_M_shape_1 rfl rfl (n := 2) rfl ?_
  refine k_get Xc u_M rfl 15 (by decide) wd_565 rfl d_M_shape_2 (n := 5) rfl hM.1 hM.2.2.1 rfl ?_
  refine k_iload_n Xc d_M_shape_5 rfl rfl (n := 6) rfl ?_
  refine k_iald Xc d_M_shape_6 (n := 7) rfl (hM.2.1 10 (by decide)) (mr_10 hM) (by omega) (by omega) (by decide) ?_
  refine k_val h10 ?_
  refine k_putM_many Xc hM wd_574 d_M_shape_7 (n := 10) rfl (fun f_7 hM_7 hF_7 => ?_)
  refine k_bipush Xc d_M_shape_10 rfl (n := 12) rfl ?_
  refine k_istore Xc d_M_shape_12 (by decide) (n := 14) rfl ?_
  refine k_bipush Xc d_M_shape_14 rfl (n := 16) rfl ?_
  refine k_istore Xc d_M_shape_16 (by decide) (n := 18) rfl ?_
  refine k_iconst Xc d_M_shape_18 (n := 19) rfl ?_
  refine k_istore Xc d_M_shape_19 (by decide) (n := 21) rfl ?_
  exact k_loc (first (a + 1) 0 _ R (by omega) (by omega) hM_7 (mFr_tr mFr_rf hF_7) (fun k _ _ => rfl) (fun j q => absurd q (by omega))) rfl
set_option maxRecDepth 100000 in
set_option maxHeartbeats 4000000 in
/-- the shape is inside the hide -/
theorem m_M_isInHide (l : Launch) (D : va_G) (G : Nat → ClassId) {L : List Nat} {f : Nat → va_E} {o : Nat} {ra : Nat → Nat} {cd wt zn kn om : Int} {h a : Nat} {R : Nat → Int → Int} (hM : zMo G L f o ra cd wt (h : Int) zn kn (a : Int) om R) (hA : sB a (R 19) (R 20)) (hH : sB h (R 2) (R 3)) (ha : 3 ≤ a) (ha6 : a ≤ 6) : zM l D G y_M_isInHide (.code y_M_isInHide c_M_isInHide 3 (some .boolean) :: BG) (zR0 2 50) [.ref o] L f (fun v L1 f1 => L = L1 ∧ mFr f f1 o ra ∧ ∃ (R1 : Nat → Int → Int) (om1 r : Int), (∀ k : Nat, k ≠ 21 → k ≠ 22 → R1 k = R k) ∧ zMo G L f1 o ra cd wt (h : Int) zn kn (a : Int) om1 R1 ∧ v = some (.int (zI r)) ∧ zB (fHide h (sP (R 2) (R 3)) a (sP (R 19) (R 20))) r) := by
  refine zM.of (by decide) (Nat.le_of_ble_eq_true rfl) rfl (fun p e s m args below meth c A Xc hr hnm => ?_)
  have hh := hH.1
  have loop : ∀ (d i : Nat) (g : Nat → va_E) (R1 : Nat → Int → Int), h < i + d → i ≤ h → zMo G L g o ra cd wt (h : Int) zn kn (a : Int) 2 R1 → mFr f g o ra → (∀ k : Nat, k ≠ 21 → k ≠ 22 → R1 k = R k) → (∀ k, k < i → ¬ ge_ov a (sP (R 19) (R 20)) 2 (ge_two2 ((sP (R 2) (R 3)) k) ((sP (R 2) (R 3)) (ge_nx h k)))) → zG p l e (zR0 2 50) s m args below meth c D A 3 0 0 (MQ below (zE D A (fun v L1 f1 => L = L1 ∧ mFr f f1 o ra ∧ ∃ (R1 : Nat → Int → Int) (om1 r : Int), (∀ k : Nat, k ≠ 21 → k ≠ 22 → R1 k = R k) ∧ zMo G L f1 o ra cd wt (h : Int) zn kn (a : Int) om1 R1 ∧ v = some (.int (zI r)) ∧ zB (fHide h (sP (R 2) (R 3)) a (sP (R 19) (R 20))) r)) args s (zR0 2 50).cells (zR0 2 50).slots A) 7 [(0, .ref o), (1, .int (zI (i : Int)))] [] L g := by
    intro d
    induction d with
    | zero => intro i g R1 h1 h2; omega
    | succ d ih =>
      intro i g R1 h1 h2 hG hF hK hJ
      refine k_iload_n Xc d_M_isInHide_7 rfl rfl (n := 8) rfl ?_
      refine k_aload_n Xc d_M_isInHide_8 rfl rfl (n := 9) rfl ?_
      refine k_get Xc u_M rfl 4 (by decide) wd_554 rfl d_M_isInHide_9 (n := 12) rfl hG.1 hG.2.2.1 rfl ?_
      refine k_icmp_ge Xc d_M_isInHide_12 (t := 87) (n := 15) rfl rfl (by omega) (by omega) (fun h_12 => ?_) (fun h_12 => ?_)
      · refine k_aload_n Xc d_M_isInHide_87 rfl rfl (n := 88) rfl ?_
        refine k_get Xc u_M rfl 4 (by decide) wd_554 rfl d_M_isInHide_88 (n := 91) rfl hG.1 hG.2.2.1 rfl ?_
        refine k_if_le Xc d_M_isInHide_91 (t := 105) (n := 94) rfl rfl (by omega) (fun h_91 => ?_) (fun h_91 => ?_)
        · refine k_iconst Xc d_M_isInHide_105 (n := 106) rfl ?_
          refine k_iret Xc d_M_isInHide_106 hr rfl (Nat.le_refl _) (Nat.le_refl _) ?_
          first | exact ⟨rfl, hF, R1, 2, 0, hK, hG, rfl, Or.inr ⟨fun q => by have z := q.2.1; omega, rfl⟩⟩ | (
            rw [hK 2 (by decide) (by decide), hK 3 (by decide) (by decide)] at e_95
            have em : (R1 19 0 + R1 19 1 + R1 19 2, R1 20 0 + R1 20 1 + R1 20 2) = ge_mid3 ((sP (R 19) (R 20)) 0) ((sP (R 19) (R 20)) 1) ((sP (R 19) (R 20)) 2) := by rw [hK 19 (by decide) (by decide), hK 20 (by decide) (by decide)]; rfl
            rw [em] at e_95
            exact ⟨rfl, hF, R1, 2, 0, hK, hG, rfl, Or.inr ⟨fun q => e_95 q.2.2, rfl⟩⟩)
        · refine k_aload_n Xc d_M_isInHide_94 rfl rfl (n := 95) rfl ?_
          have hA3 : sB 3 (R1 19) (R1 20) := by rw [hK 19 (by decide) (by decide), hK 20 (by decide) (by decide)]; exact ⟨by decide, fun j hj => hA.2 j (by omega)⟩
          have hH3 : sB h (R1 2) (R1 3) := by rw [hK 2 (by decide) (by decide), hK 3 (by decide) (by decide)]; exact hH
          refine k_qV (na := 0) Xc (m_M_isMiddleInside l D G hG hA3 hH3) hG.1 hG.2.2.1 rfl wd_733 wd_730 wd_732 ws_23 wd_6 (by decide +kernel) ⟨by decide, by decide⟩ rfl rfl (Nat.le_of_ble_eq_true rfl) d_M_isInHide_95 (n := 98) rfl ⟨Nat.zero_le _, Nat.zero_le _⟩ (fun r_95 e_95 => ?_)
          rcases e_95 with ⟨e_95, rfl⟩ | ⟨e_95, rfl⟩
          · refine k_if_eq Xc d_M_isInHide_98 (t := 105) (n := 101) rfl rfl (by omega) (fun h_98 => absurd h_98 (by omega)) (fun _ => ?_)
            refine k_iconst Xc d_M_isInHide_101 (n := 102) rfl ?_
            refine k_goto Xc d_M_isInHide_102 (t := 106) rfl ?_
            refine k_iret Xc d_M_isInHide_106 hr rfl (Nat.le_refl _) (Nat.le_refl _) ?_
            rw [hK 2 (by decide) (by decide), hK 3 (by decide) (by decide)] at e_95
            have em : (R1 19 0 + R1 19 1 + R1 19 2, R1 20 0 + R1 20 1 + R1 20 2) = ge_mid3 ((sP (R 19) (R 20)) 0) ((sP (R 19) (R 20)) 1) ((sP (R 19) (R 20)) 2) := by rw [hK 19 (by decide) (by decide), hK 20 (by decide) (by decide)]; rfl
            rw [em] at e_95
            exact ⟨rfl, hF, R1, 2, 1, hK, hG, rfl, Or.inl ⟨⟨fun k q => hJ k (by omega), by omega, e_95⟩, rfl⟩⟩
          · refine k_if_eq Xc d_M_isInHide_98 (t := 105) (n := 101) rfl rfl (by omega) (fun _ => ?_) (fun h_98 => absurd h_98 (by omega))
            refine k_iconst Xc d_M_isInHide_105 (n := 106) rfl ?_
            refine k_iret Xc d_M_isInHide_106 hr rfl (Nat.le_refl _) (Nat.le_refl _) ?_
            first | exact ⟨rfl, hF, R1, 2, 0, hK, hG, rfl, Or.inr ⟨fun q => by have z := q.2.1; omega, rfl⟩⟩ | (
              rw [hK 2 (by decide) (by decide), hK 3 (by decide) (by decide)] at e_95
              have em : (R1 19 0 + R1 19 1 + R1 19 2, R1 20 0 + R1 20 1 + R1 20 2) = ge_mid3 ((sP (R 19) (R 20)) 0) ((sP (R 19) (R 20)) 1) ((sP (R 19) (R 20)) 2) := by rw [hK 19 (by decide) (by decide), hK 20 (by decide) (by decide)]; rfl
              rw [em] at e_95
              exact ⟨rfl, hF, R1, 2, 0, hK, hG, rfl, Or.inr ⟨fun q => e_95 q.2.2, rfl⟩⟩)
      · refine k_iload_n Xc d_M_isInHide_15 rfl rfl (n := 16) rfl ?_
        refine k_iconst Xc d_M_isInHide_16 (n := 17) rfl ?_
        refine k_iadd Xc d_M_isInHide_17 (n := 18) rfl ?_
        refine k_aload_n Xc d_M_isInHide_18 rfl rfl (n := 19) rfl ?_
        refine k_get Xc u_M rfl 4 (by decide) wd_554 rfl d_M_isInHide_19 (n := 22) rfl hG.1 hG.2.2.1 rfl ?_
        refine k_irem Xc d_M_isInHide_22 (n := 23) rfl (by omega) (by omega) (by omega) (by omega) ?_
        refine k_val (md_nx (n := h) (i := i) (by omega)) ?_
        have l1 : ge_nx h i < h := nx_lt (by omega)
        have b0 := hH.2 i (by omega)
        have b1 := hH.2 _ l1
        refine k_istore_n Xc d_M_isInHide_23 rfl (by decide) (n := 24) rfl ?_
        refine k_aload_n Xc d_M_isInHide_24 rfl rfl (n := 25) rfl ?_
        refine k_get Xc u_M rfl 28 (by decide) wd_578 rfl d_M_isInHide_25 (n := 28) rfl hG.1 hG.2.2.1 rfl ?_
        refine k_iconst Xc d_M_isInHide_28 (n := 29) rfl ?_
        refine k_aload_n Xc d_M_isInHide_29 rfl rfl (n := 30) rfl ?_
        refine k_get Xc u_M rfl 5 (by decide) wd_555 rfl d_M_isInHide_30 (n := 33) rfl hG.1 hG.2.2.1 rfl ?_
        refine k_iload_n Xc d_M_isInHide_33 rfl rfl (n := 34) rfl ?_
        refine k_iald Xc d_M_isInHide_34 (n := 35) rfl (hG.2.1 2 (by decide)) (mr_2 hG) (by omega) (by omega) (by decide) ?_
        refine k_iastN Xc hG 21 (by decide) d_M_isInHide_35 (n := 36) rfl (by omega) (by show _ < ((12 : Nat) : Int); omega) (fun f_35 R_35 hr_35 hk_35 hM_35 hF_35 => ?_)
        refine k_aload_n Xc d_M_isInHide_36 rfl rfl (n := 37) rfl ?_
        refine k_get Xc u_M rfl 29 (by decide) wd_579 rfl d_M_isInHide_37 (n := 40) rfl hM_35.1 hM_35.2.2.1 rfl ?_
        refine k_iconst Xc d_M_isInHide_40 (n := 41) rfl ?_
        refine k_aload_n Xc d_M_isInHide_41 rfl rfl (n := 42) rfl ?_
        refine k_get Xc u_M rfl 6 (by decide) wd_556 rfl d_M_isInHide_42 (n := 45) rfl hM_35.1 hM_35.2.2.1 rfl ?_
        refine k_iload_n Xc d_M_isInHide_45 rfl rfl (n := 46) rfl ?_
        refine k_iald Xc d_M_isInHide_46 (n := 47) rfl (hM_35.2.1 3 (by decide)) (mr_3 hM_35) (by omega) (by omega) (by decide) ?_
        refine k_iastN Xc hM_35 22 (by decide) d_M_isInHide_47 (n := 48) rfl (by omega) (by show _ < ((12 : Nat) : Int); omega) (fun f_47 R_47 hr_47 hk_47 hM_47 hF_47 => ?_)
        refine k_aload_n Xc d_M_isInHide_48 rfl rfl (n := 49) rfl ?_
        refine k_get Xc u_M rfl 28 (by decide) wd_578 rfl d_M_isInHide_49 (n := 52) rfl hM_47.1 hM_47.2.2.1 rfl ?_
        refine k_iconst Xc d_M_isInHide_52 (n := 53) rfl ?_
        refine k_aload_n Xc d_M_isInHide_53 rfl rfl (n := 54) rfl ?_
        refine k_get Xc u_M rfl 5 (by decide) wd_555 rfl d_M_isInHide_54 (n := 57) rfl hM_47.1 hM_47.2.2.1 rfl ?_
        refine k_iload_n Xc d_M_isInHide_57 rfl rfl (n := 58) rfl ?_
        refine k_iald Xc d_M_isInHide_58 (n := 59) rfl (hM_47.2.1 2 (by decide)) (mr_2 hM_47) (by omega) (by omega) (by decide) ?_
        refine k_iastN Xc hM_47 21 (by decide) d_M_isInHide_59 (n := 60) rfl (by omega) (by show _ < ((12 : Nat) : Int); omega) (fun f_59 R_59 hr_59 hk_59 hM_59 hF_59 => ?_)
        refine k_aload_n Xc d_M_isInHide_60 rfl rfl (n := 61) rfl ?_
        refine k_get Xc u_M rfl 29 (by decide) wd_579 rfl d_M_isInHide_61 (n := 64) rfl hM_59.1 hM_59.2.2.1 rfl ?_
        refine k_iconst Xc d_M_isInHide_64 (n := 65) rfl ?_
        refine k_aload_n Xc d_M_isInHide_65 rfl rfl (n := 66) rfl ?_
        refine k_get Xc u_M rfl 6 (by decide) wd_556 rfl d_M_isInHide_66 (n := 69) rfl hM_59.1 hM_59.2.2.1 rfl ?_
        refine k_iload_n Xc d_M_isInHide_69 rfl rfl (n := 70) rfl ?_
        refine k_iald Xc d_M_isInHide_70 (n := 71) rfl (hM_59.2.1 3 (by decide)) (mr_3 hM_59) (by omega) (by omega) (by decide) ?_
        refine k_iastN Xc hM_59 22 (by decide) d_M_isInHide_71 (n := 72) rfl (by omega) (by show _ < ((12 : Nat) : Int); omega) (fun f_71 R_71 hr_71 hk_71 hM_71 hF_71 => ?_)
        refine k_aload_n Xc d_M_isInHide_72 rfl rfl (n := 73) rfl ?_
        have ks : ∀ k : Nat, k ≠ 21 → k ≠ 22 → R_71 k = R k := fun k q1 q2 => by rw [hk_71 k q2, hk_59 k q1, hk_47 k q2, hk_35 k q1]; exact hK k q1 q2
        have x0 : R_71 21 0 = R 2 (i : Int) := by rw [hk_71 21 (by decide), hr_59, iu_ne (by decide), hk_47 21 (by decide), hr_35, iu_at, hK 2 (by decide) (by decide)]
        have x1 : R_71 21 1 = R 2 ((ge_nx h i : Nat) : Int) := by rw [hk_71 21 (by decide), hr_59, iu_at, hk_47 2 (by decide), hk_35 2 (by decide), hK 2 (by decide) (by decide)]
        have y0 : R_71 22 0 = R 3 (i : Int) := by rw [hr_71, iu_ne (by decide), hk_59 22 (by decide), hr_47, iu_at, hk_35 3 (by decide), hK 3 (by decide) (by decide)]
        have y1 : R_71 22 1 = R 3 ((ge_nx h i : Nat) : Int) := by rw [hr_71, iu_at, hk_59 3 (by decide), hk_47 3 (by decide), hk_35 3 (by decide), hK 3 (by decide) (by decide)]
        have hA2 : sB a (R_71 19) (R_71 20) := by rw [ks 19 (by decide) (by decide), ks 20 (by decide) (by decide)]; exact hA
        have hB2 : sB 2 (R_71 21) (R_71 22) := ⟨by decide, fun j hj => by
          rcases (show j = 0 ∨ j = 1 by omega) with rfl | rfl
          · show -100 ≤ R_71 21 0 ∧ R_71 21 0 ≤ 100 ∧ -100 ≤ R_71 22 0 ∧ R_71 22 0 ≤ 100
            omega
          · show -100 ≤ R_71 21 1 ∧ R_71 21 1 ≤ 100 ∧ -100 ≤ R_71 22 1 ∧ R_71 22 1 ≤ 100
            omega⟩
        have cg : ge_ov a (sP (R_71 19) (R_71 20)) 2 (sP (R_71 21) (R_71 22)) ↔ ge_ov a (sP (R 19) (R 20)) 2 (ge_two2 ((sP (R 2) (R 3)) i) ((sP (R 2) (R 3)) (ge_nx h i))) := by
          have q1 : ∀ j, j < a → sP (R_71 19) (R_71 20) j = (sP (R 19) (R 20)) j := fun j _ => by rw [ks 19 (by decide) (by decide), ks 20 (by decide) (by decide)]
          have q2 : ∀ j, j < 2 → sP (R_71 21) (R_71 22) j = ge_two2 ((sP (R 2) (R 3)) i) ((sP (R 2) (R 3)) (ge_nx h i)) j := fun j hj => by
            rcases (show j = 0 ∨ j = 1 by omega) with rfl | rfl
            · show (R_71 21 0, R_71 22 0) = (R 2 (i : Int), R 3 (i : Int))
              rw [x0, y0]
            · show (R_71 21 1, R_71 22 1) = (R 2 ((ge_nx h i : Nat) : Int), R 3 ((ge_nx h i : Nat) : Int))
              rw [x1, y1]
          exact ⟨ge_ov_congr (fun j hj => (q1 j hj).symm) (fun j hj => (q2 j hj).symm), ge_ov_congr q1 q2⟩
        refine k_qV (na := 0) Xc (m_M_overlaps l D G (b := 2) hM_71 hA2 hB2 (by omega) ha6 (by decide)) hM_71.1 hM_71.2.2.1 rfl wd_723 wd_720 wd_722 ws_21 wd_6 (by decide +kernel) ⟨by decide, by decide⟩ rfl rfl (Nat.le_of_ble_eq_true rfl) d_M_isInHide_73 (n := 76) rfl ⟨Nat.zero_le _, Nat.zero_le _⟩ (fun r_73 e_73 => ?_)
        rcases e_73 with ⟨e_73, rfl⟩ | ⟨e_73, rfl⟩
        · refine k_if_eq Xc d_M_isInHide_76 (t := 81) (n := 79) rfl rfl (by omega) (fun h_76 => absurd h_76 (by omega)) (fun _ => ?_)
          refine k_iconst Xc d_M_isInHide_79 (n := 80) rfl ?_
          refine k_iret Xc d_M_isInHide_80 hr rfl (Nat.le_refl _) (Nat.le_refl _) ?_
          exact ⟨rfl, (mFr_tr (mFr_tr (mFr_tr (mFr_tr hF hF_35) hF_47) hF_59) hF_71), _, 2, 0, ks, hM_71, rfl, Or.inr ⟨fun q => q.1 i (by omega) (cg.mp e_73), rfl⟩⟩
        · refine k_if_eq Xc d_M_isInHide_76 (t := 81) (n := 79) rfl rfl (by omega) (fun _ => ?_) (fun h_76 => absurd h_76 (by omega))
          refine k_iinc Xc d_M_isInHide_81 rfl (by decide) (n := 84) rfl ?_
          refine k_goto Xc d_M_isInHide_84 (t := 7) rfl ?_
          exact k_loc (ih (i + 1) _ _ (by omega) (by omega) hM_71 (mFr_tr (mFr_tr (mFr_tr (mFr_tr hF hF_35) hF_47) hF_59) hF_71) ks (fun k q => by
            rcases Nat.lt_or_ge k i with q1 | q1
            · exact hJ k q1
            · have ek : k = i := by omega
              subst ek
              exact fun z => e_73 (cg.mpr z))) rfl
  refine k_aload_n Xc d_M_isInHide_0 rfl rfl (n := 1) rfl ?_
  refine k_iconst Xc d_M_isInHide_1 (n := 2) rfl ?_
  refine k_putM_otherMany Xc hM wd_577 d_M_isInHide_2 (n := 5) rfl (fun f_2 hM_2 hF_2 => ?_)
  refine k_iconst Xc d_M_isInHide_5 (n := 6) rfl ?_
  refine k_istore_n Xc d_M_isInHide_6 rfl (by decide) (n := 7) rfl ?_
  exact k_loc (loop (h + 1) 0 _ R (by omega) (by omega) hM_2 (mFr_tr mFr_rf hF_2) (fun k _ _ => rfl) (fun k q => absurd q (by omega))) rfl
