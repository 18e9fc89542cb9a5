-- NEW: the constructor of the reference
abbrev rmM : Room := { frames := 1, cells := 23, slots := 436, locals := 12 }
abbrev fsM : List Value := [.int (zI 0), .int (zI 0), .null, .null, .int (zI 0), .null, .null, .int (zI 0), .null, .null, .null, .null, .int (zI 0), .null, .null, .null, .null, .null, .null, .null, .null, .null, .null, .null, .int (zI 0), .null, .null, .int (zI 0), .null, .null]
def rowF : Nat → Option Nat := fun i => match i with
  | 2 => some 0
  | 3 => some 1
  | 5 => some 2
  | 6 => some 3
  | 8 => some 4
  | 9 => some 5
  | 10 => some 6
  | 11 => some 7
  | 13 => some 8
  | 14 => some 9
  | 15 => some 10
  | 16 => some 11
  | 17 => some 12
  | 18 => some 13
  | 19 => some 14
  | 20 => some 15
  | 21 => some 16
  | 22 => some 17
  | 23 => some 18
  | 25 => some 19
  | 26 => some 20
  | 28 => some 21
  | 29 => some 22
  | _ => none
def mvl (b : Nat → Nat) (k i : Nat) : Value := match rowF i with
  | none => .int (zI 0)
  | some j => if j < k then .ref (b j) else .null
def mpt (b : Nat → Nat) (k : Nat) : List Value := (List.range 30).map (mvl b k)
theorem set_map {n fi : Nat} {g h : Nat → Value} {v : Value} (h1 : h fi = v) (h2 : ∀ i, i < n → i ≠ fi → h i = g i) : ((List.range n).map g).set fi v = (List.range n).map h := by
  apply List.ext_getElem?
  intro i
  rw [List.getElem?_set, List.length_map, List.length_range, List.getElem?_map, List.getElem?_map]
  by_cases c : fi = i
  · subst c
    rw [if_pos rfl]
    by_cases d : fi < n
    · rw [if_pos d, List.getElem?_range d]
      show some v = some (h fi)
      rw [h1]
    · rw [if_neg d, List.getElem?_eq_none (by rw [List.length_range]; omega)]; rfl
  · rw [if_neg c]
    by_cases d : i < n
    · rw [List.getElem?_range d]
      show some (g i) = some (h i)
      rw [h2 i d (Ne.symm c)]
    · rw [List.getElem?_eq_none (by rw [List.length_range]; omega)]; rfl
theorem mpt_s {b b1 : Nat → Nat} {k fi q : Nat} (hfi : fi < 30) (hrf : rowF fi = some k) (hrg : ∀ i, i < 30 → rowF i = some k → i = fi) (h1 : ∀ j, j < k → b1 j = b j) (h2 : b1 k = q) : (mpt b k).set fi (.ref q) = mpt b1 (k + 1) := by
  refine set_map ?_ (fun i hi hne => ?_)
  · unfold mvl
    rw [hrf]
    show (if k < k + 1 then Value.ref (b1 k) else Value.null) = _
    rw [if_pos (by omega), h2]
  · unfold mvl
    cases hr : rowF i with
    | none => rfl
    | some j =>
      have jk : j ≠ k := fun e => hne (hrg i hi (by rw [hr, e]))
      show (if j < k + 1 then Value.ref (b1 j) else Value.null) = (if j < k then Value.ref (b j) else Value.null)
      by_cases c : j < k
      · rw [if_pos c, if_pos (by omega), h1 j c]
      · rw [if_neg c, if_neg (by omega)]
section ZM
variable {p : Program} {l : Launch} {e : Env} {R : Room} {s : State} {m : MethodId} {args : Array Value} {below : List Frame} {meth : Method} {c : Code} {D : va_G} {G : Nat → ClassId} {A : Nat → Prop} {nL cells slots : Nat} {Q : State → Prop} {cc : ByteArray}
variable {pc n t : Nat} {lv lv' : List (Nat × Value)} {st : List Value} {L : List Nat} {f : Nat → va_E}
theorem v_mrow (X : zX p s m args meth c D G A cc "LeatherRoomModel" nL) (hnm : meth.name = "<init>") {L0 : List Nat} {g : Nat → va_E} {o k N fi index : Nat} {b : Nat → Nat} (ho : o ∈ L0) (hb : nw k b L0 L) (hrow : ∀ j, j < k → f (b j) = zr G (msz j) (fun _ => 0)) (hfo : f o = .inr (5, mpt b k)) (hfr : ∀ z, z ∈ L0 → z ≠ o → f z = g z) (hN : msz k = N) (hN9 : N < 1000) (hfi : fi < 30) (hrf : rowF fi = some k) (hrg : ∀ i, i < 30 → rowF i = some k → i = fi) (hw : Cond.fieldLink "LeatherRoomModel" index "LeatherRoomModel" (F_M fi).2.1 (F_M fi).2.2.1 ∈ BG) (hsame : (F_M fi).1 = "LeatherRoomModel") (hfin : (F_M fi).2.2.2 = true) (hty : t_M fi = .array .int) (d0 : decode cc pc = .ok (.newarray .int, 2)) (d1 : decode cc (pc + 2) = .ok (.putfield index, 3)) (hn : pc + 5 = n) (hcs : cells + 1 ≤ R.cells ∧ slots + N ≤ R.slots)
    (kk : ∀ (b1 : Nat → Nat) (L1 : List Nat) (f1 : Nat → va_E), nw (k + 1) b1 L0 L1 → (∀ j, j < k + 1 → f1 (b1 j) = zr G (msz j) (fun _ => 0)) → f1 o = .inr (5, mpt b1 (k + 1)) → (∀ z, z ∈ L0 → z ≠ o → f1 z = g z) → zG p l e R s m args below meth c D A nL (cells + 1) (slots + N) Q n lv st L1 f1) : zG p l e R s m args below meth c D A nL cells slots Q pc lv (.int (zI (N : Int)) :: .ref o :: st) L f := by
  subst hn
  have mo := hb.1 o ho
  refine v_newI X d0 rfl hN9 hcs (fun q f1 h1 g1 r1 => ?_)
  refine v_putF X u_M t_M_ok n_M rfl fi hfi hw hsame hfin hnm hsame (by rw [hty]; rfl) (by rw [hty]; rfl) d1 (n := pc + 5) rfl (in_l mo) ((r1 o (ne_of mo h1)).trans hfo) (by unfold mpt; rw [List.length_map, List.length_range]; exact hfi) (fun f2 g2 r2 => ?_)
  refine kk (nwb k b (fun _ => q)) (L ++ [q]) f2 (nw_tr hb (nw_1 h1)) (fun j hj => ?_) (g2.trans ?_) (fun z hz hzo => (r2 z hzo).trans ((r1 z (ne_of (hb.1 z hz) h1)).trans (hfr z hz hzo)))
  · rcases Nat.lt_or_ge j k with c1 | c1
    · rw [nwb_l c1, r2 _ (Ne.symm (ne_of ho (hb.2.1 j c1).2)), r1 _ (ne_of (hb.2.1 j c1).1 h1)]
      exact hrow j c1
    · have ej : j = k := by omega
      subst ej
      rw [nwb_r (Nat.le_refl _), r2 _ (Ne.symm (ne_of mo h1)), g1, hN]
  · have z := mpt_s (b := b) (b1 := nwb k b (fun _ => q)) (q := q) hfi hrf hrg (fun j hj => nwb_l hj) (nwb_r (Nat.le_refl _))
    rw [z]
end ZM
def R0 : Nat → Int → Int := fun _ _ => 0
set_option maxRecDepth 100000 in
set_option maxHeartbeats 8000000 in
theorem m_M_init (l : Launch) (D : va_G) (G : Nat → ClassId) {L : List Nat} {f : Nat → va_E} {a : Nat} (ha : a ∈ L) (hf : f a = .inr (5, fsM)) : zMn l D G y_M_init (.code y_M_init c_M_init 2 none :: BG) rmM [.ref a] L f (fun v L1 f1 => v = none ∧ ∃ (ra : Nat → Nat) (R : Nat → Int → Int), nw 23 ra L L1 ∧ (∀ j : Nat, j < 12 → R 13 (j : Int) = -1) ∧ (∀ k, k ≠ 13 → R k = fun _ => 0) ∧ zMo G L1 f1 a ra 0 0 0 0 0 0 0 R ∧ ∀ z, z ∈ L → z ≠ a → f1 z = f z) := by
  refine zMn.of (by decide) (Nat.le_of_ble_eq_true rfl) rfl (fun p e s m args below meth c A Xc hNe hr hnm => ?_)
  have loop : ∀ (ra : Nat → Nat) (L1 : List Nat), nw 23 ra L L1 → ∀ (d i : Nat) (f1 : Nat → va_E) (R : Nat → Int → Int), 12 < i + d → i ≤ 12 → zMo G L1 f1 a ra 0 0 0 0 0 0 0 R → (∀ k, k ≠ 13 → R k = fun _ => 0) → (∀ j : Nat, j < i → R 13 (j : Int) = -1) → (∀ z, z ∈ L → z ≠ a → f1 z = f z) → zG p l e rmM s m args below meth c D A 2 23 436 (MQ below (zE D A (fun v L1 f1 => v = none ∧ ∃ (ra : Nat → Nat) (R : Nat → Int → Int), nw 23 ra L L1 ∧ (∀ j : Nat, j < 12 → R 13 (j : Int) = -1) ∧ (∀ k, k ≠ 13 → R k = fun _ => 0) ∧ zMo G L1 f1 a ra 0 0 0 0 0 0 0 R ∧ ∀ z, z ∈ L → z ≠ a → f1 z = f z)) args s rmM.cells rmM.slots A) 188 [(0, .ref a), (1, .int (zI (i : Int)))] [] L1 f1 := by
    intro ra L1 hb d
    induction d with
    | zero => intro i f1 R h1 h2; omega
    | succ d ih =>
      intro i f1 R h1 h2 hM hR hJ hk
      refine k_iload_n Xc d_M_init_188 rfl rfl (n := 189) rfl ?_
      refine k_bipush Xc d_M_init_189 rfl (n := 191) rfl ?_
      refine k_icmp_ge Xc d_M_init_191 (t := 207) (n := 194) rfl rfl (by omega) (by omega) (fun q => ?_) (fun q => ?_)
      · exact k_vret Xc d_M_init_207 hr (Nat.le_refl _) (Nat.le_refl _) ⟨rfl, ra, R, hb, fun j hj => hJ j (by omega), hR, hM, hk⟩
      · refine k_aload_n Xc d_M_init_194 rfl rfl (n := 195) rfl ?_
        refine k_get Xc u_M rfl 18 (by decide) wd_568 rfl d_M_init_195 (n := 198) rfl hM.1 hM.2.2.1 rfl ?_
        refine k_iload_n Xc d_M_init_198 rfl rfl (n := 199) rfl ?_
        refine k_iconst Xc d_M_init_199 (n := 200) rfl ?_
        refine k_iastN Xc hM 13 (by decide) d_M_init_200 (n := 201) rfl (by omega) (by show _ < ((12 : Nat) : Int); omega) (fun f2 R2 hr2 hk2 hM2 hF2 => ?_)
        refine k_iinc Xc d_M_init_201 rfl (by decide) (n := 204) rfl ?_
        refine k_goto Xc d_M_init_204 (t := 188) rfl ?_
        refine k_loc (ih (i + 1) f2 R2 (by omega) (by omega) hM2 (fun k hk9 => by rw [hk2 k hk9]; exact hR k hk9) (fun j hj => ?_) (fun z hz hza => (hF2 z hza (fun k hk9 => ne_of hz (hb.2.1 k hk9).2)).trans (hk z hz hza))) rfl
        rw [hr2]
        rcases Nat.lt_or_ge j i with c1 | c1
        · rw [iu_nat c1]; exact hJ j c1
        · have ej : j = i := by omega
          subst ej
          exact iu_at _ _ _
  refine k_aload_n Xc d_M_init_0 rfl rfl (n := 1) rfl ?_
  refine k_objInit Xc wd_549 d_M_init_1 (n := 4) rfl ⟨by decide, Nat.le_of_ble_eq_true rfl⟩ ?_
  have n0 : nw 0 (fun _ => 0) L L := nw_0 _ L
  have hf0 : f a = .inr (5, mpt (fun _ => 0) 0) := hf
  refine k_aload_n Xc d_M_init_4 rfl rfl (n := 5) rfl ?_
  refine k_bipush Xc d_M_init_5 rfl (n := 7) rfl ?_
  refine k_val (show (12 : Int) = ((12 : Nat) : Int) from rfl) ?_
  refine v_mrow Xc hnm (k := 0) (N := 12) (fi := 2) ha n0 (fun j hj => absurd hj (by omega)) hf0 (fun _ _ _ => rfl) rfl (by decide) (by decide) rfl (by decide) wd_552 rfl rfl rfl d_M_init_7 d_M_init_9 (n := 12) rfl ⟨Nat.le_of_ble_eq_true rfl, Nat.le_of_ble_eq_true rfl⟩ (fun q0 L0 f0 hb0 hw0 ho0 hf0 => ?_)
  refine k_aload_n Xc d_M_init_12 rfl rfl (n := 13) rfl ?_
  refine k_bipush Xc d_M_init_13 rfl (n := 15) rfl ?_
  refine k_val (show (12 : Int) = ((12 : Nat) : Int) from rfl) ?_
  refine v_mrow Xc hnm (k := 1) (N := 12) (fi := 3) ha hb0 hw0 ho0 hf0 rfl (by decide) (by decide) rfl (by decide) wd_553 rfl rfl rfl d_M_init_15 d_M_init_17 (n := 20) rfl ⟨Nat.le_of_ble_eq_true rfl, Nat.le_of_ble_eq_true rfl⟩ (fun q1 L1 f1 hb1 hw1 ho1 hf1 => ?_)
  refine k_aload_n Xc d_M_init_20 rfl rfl (n := 21) rfl ?_
  refine k_bipush Xc d_M_init_21 rfl (n := 23) rfl ?_
  refine k_val (show (12 : Int) = ((12 : Nat) : Int) from rfl) ?_
  refine v_mrow Xc hnm (k := 2) (N := 12) (fi := 5) ha hb1 hw1 ho1 hf1 rfl (by decide) (by decide) rfl (by decide) wd_555 rfl rfl rfl d_M_init_23 d_M_init_25 (n := 28) rfl ⟨Nat.le_of_ble_eq_true rfl, Nat.le_of_ble_eq_true rfl⟩ (fun q2 L2 f2 hb2 hw2 ho2 hf2 => ?_)
  refine k_aload_n Xc d_M_init_28 rfl rfl (n := 29) rfl ?_
  refine k_bipush Xc d_M_init_29 rfl (n := 31) rfl ?_
  refine k_val (show (12 : Int) = ((12 : Nat) : Int) from rfl) ?_
  refine v_mrow Xc hnm (k := 3) (N := 12) (fi := 6) ha hb2 hw2 ho2 hf2 rfl (by decide) (by decide) rfl (by decide) wd_556 rfl rfl rfl d_M_init_31 d_M_init_33 (n := 36) rfl ⟨Nat.le_of_ble_eq_true rfl, Nat.le_of_ble_eq_true rfl⟩ (fun q3 L3 f3 hb3 hw3 ho3 hf3 => ?_)
  refine k_aload_n Xc d_M_init_36 rfl rfl (n := 37) rfl ?_
  refine k_bipush Xc d_M_init_37 rfl (n := 39) rfl ?_
  refine k_val (show (30 : Int) = ((30 : Nat) : Int) from rfl) ?_
  refine v_mrow Xc hnm (k := 4) (N := 30) (fi := 8) ha hb3 hw3 ho3 hf3 rfl (by decide) (by decide) rfl (by decide) wd_558 rfl rfl rfl d_M_init_39 d_M_init_41 (n := 44) rfl ⟨Nat.le_of_ble_eq_true rfl, Nat.le_of_ble_eq_true rfl⟩ (fun q4 L4 f4 hb4 hw4 ho4 hf4 => ?_)
  refine k_aload_n Xc d_M_init_44 rfl rfl (n := 45) rfl ?_
  refine k_bipush Xc d_M_init_45 rfl (n := 47) rfl ?_
  refine k_val (show (30 : Int) = ((30 : Nat) : Int) from rfl) ?_
  refine v_mrow Xc hnm (k := 5) (N := 30) (fi := 9) ha hb4 hw4 ho4 hf4 rfl (by decide) (by decide) rfl (by decide) wd_559 rfl rfl rfl d_M_init_47 d_M_init_49 (n := 52) rfl ⟨Nat.le_of_ble_eq_true rfl, Nat.le_of_ble_eq_true rfl⟩ (fun q5 L5 f5 hb5 hw5 ho5 hf5 => ?_)
  refine k_aload_n Xc d_M_init_52 rfl rfl (n := 53) rfl ?_
  refine k_iconst Xc d_M_init_53 (n := 54) rfl ?_
  refine k_val (show (5 : Int) = ((5 : Nat) : Int) from rfl) ?_
  refine v_mrow Xc hnm (k := 6) (N := 5) (fi := 10) ha hb5 hw5 ho5 hf5 rfl (by decide) (by decide) rfl (by decide) wd_560 rfl rfl rfl d_M_init_54 d_M_init_56 (n := 59) rfl ⟨Nat.le_of_ble_eq_true rfl, Nat.le_of_ble_eq_true rfl⟩ (fun q6 L6 f6 hb6 hw6 ho6 hf6 => ?_)
  refine k_aload_n Xc d_M_init_59 rfl rfl (n := 60) rfl ?_
  refine k_iconst Xc d_M_init_60 (n := 61) rfl ?_
  refine k_val (show (5 : Int) = ((5 : Nat) : Int) from rfl) ?_
  refine v_mrow Xc hnm (k := 7) (N := 5) (fi := 11) ha hb6 hw6 ho6 hf6 rfl (by decide) (by decide) rfl (by decide) wd_561 rfl rfl rfl d_M_init_61 d_M_init_63 (n := 66) rfl ⟨Nat.le_of_ble_eq_true rfl, Nat.le_of_ble_eq_true rfl⟩ (fun q7 L7 f7 hb7 hw7 ho7 hf7 => ?_)
  refine k_aload_n Xc d_M_init_66 rfl rfl (n := 67) rfl ?_
  refine k_bipush Xc d_M_init_67 rfl (n := 69) rfl ?_
  refine k_val (show (36 : Int) = ((36 : Nat) : Int) from rfl) ?_
  refine v_mrow Xc hnm (k := 8) (N := 36) (fi := 13) ha hb7 hw7 ho7 hf7 rfl (by decide) (by decide) rfl (by decide) wd_563 rfl rfl rfl d_M_init_69 d_M_init_71 (n := 74) rfl ⟨Nat.le_of_ble_eq_true rfl, Nat.le_of_ble_eq_true rfl⟩ (fun q8 L8 f8 hb8 hw8 ho8 hf8 => ?_)
  refine k_aload_n Xc d_M_init_74 rfl rfl (n := 75) rfl ?_
  refine k_bipush Xc d_M_init_75 rfl (n := 77) rfl ?_
  refine k_val (show (36 : Int) = ((36 : Nat) : Int) from rfl) ?_
  refine v_mrow Xc hnm (k := 9) (N := 36) (fi := 14) ha hb8 hw8 ho8 hf8 rfl (by decide) (by decide) rfl (by decide) wd_564 rfl rfl rfl d_M_init_77 d_M_init_79 (n := 82) rfl ⟨Nat.le_of_ble_eq_true rfl, Nat.le_of_ble_eq_true rfl⟩ (fun q9 L9 f9 hb9 hw9 ho9 hf9 => ?_)
  refine k_aload_n Xc d_M_init_82 rfl rfl (n := 83) rfl ?_
  refine k_bipush Xc d_M_init_83 rfl (n := 85) rfl ?_
  refine k_val (show (6 : Int) = ((6 : Nat) : Int) from rfl) ?_
  refine v_mrow Xc hnm (k := 10) (N := 6) (fi := 15) ha hb9 hw9 ho9 hf9 rfl (by decide) (by decide) rfl (by decide) wd_565 rfl rfl rfl d_M_init_85 d_M_init_87 (n := 90) rfl ⟨Nat.le_of_ble_eq_true rfl, Nat.le_of_ble_eq_true rfl⟩ (fun q10 L10 f10 hb10 hw10 ho10 hf10 => ?_)
  refine k_aload_n Xc d_M_init_90 rfl rfl (n := 91) rfl ?_
  refine k_bipush Xc d_M_init_91 rfl (n := 93) rfl ?_
  refine k_val (show (6 : Int) = ((6 : Nat) : Int) from rfl) ?_
  refine v_mrow Xc hnm (k := 11) (N := 6) (fi := 16) ha hb10 hw10 ho10 hf10 rfl (by decide) (by decide) rfl (by decide) wd_566 rfl rfl rfl d_M_init_93 d_M_init_95 (n := 98) rfl ⟨Nat.le_of_ble_eq_true rfl, Nat.le_of_ble_eq_true rfl⟩ (fun q11 L11 f11 hb11 hw11 ho11 hf11 => ?_)
  refine k_aload_n Xc d_M_init_98 rfl rfl (n := 99) rfl ?_
  refine k_bipush Xc d_M_init_99 rfl (n := 101) rfl ?_
  refine k_val (show (6 : Int) = ((6 : Nat) : Int) from rfl) ?_
  refine v_mrow Xc hnm (k := 12) (N := 6) (fi := 17) ha hb11 hw11 ho11 hf11 rfl (by decide) (by decide) rfl (by decide) wd_567 rfl rfl rfl d_M_init_101 d_M_init_103 (n := 106) rfl ⟨Nat.le_of_ble_eq_true rfl, Nat.le_of_ble_eq_true rfl⟩ (fun q12 L12 f12 hb12 hw12 ho12 hf12 => ?_)
  refine k_aload_n Xc d_M_init_106 rfl rfl (n := 107) rfl ?_
  refine k_bipush Xc d_M_init_107 rfl (n := 109) rfl ?_
  refine k_val (show (12 : Int) = ((12 : Nat) : Int) from rfl) ?_
  refine v_mrow Xc hnm (k := 13) (N := 12) (fi := 18) ha hb12 hw12 ho12 hf12 rfl (by decide) (by decide) rfl (by decide) wd_568 rfl rfl rfl d_M_init_109 d_M_init_111 (n := 114) rfl ⟨Nat.le_of_ble_eq_true rfl, Nat.le_of_ble_eq_true rfl⟩ (fun q13 L13 f13 hb13 hw13 ho13 hf13 => ?_)
  refine k_aload_n Xc d_M_init_114 rfl rfl (n := 115) rfl ?_
  refine k_bipush Xc d_M_init_115 rfl (n := 117) rfl ?_
  refine k_val (show (12 : Int) = ((12 : Nat) : Int) from rfl) ?_
  refine v_mrow Xc hnm (k := 14) (N := 12) (fi := 19) ha hb13 hw13 ho13 hf13 rfl (by decide) (by decide) rfl (by decide) wd_569 rfl rfl rfl d_M_init_117 d_M_init_119 (n := 122) rfl ⟨Nat.le_of_ble_eq_true rfl, Nat.le_of_ble_eq_true rfl⟩ (fun q14 L14 f14 hb14 hw14 ho14 hf14 => ?_)
  refine k_aload_n Xc d_M_init_122 rfl rfl (n := 123) rfl ?_
  refine k_bipush Xc d_M_init_123 rfl (n := 125) rfl ?_
  refine k_val (show (12 : Int) = ((12 : Nat) : Int) from rfl) ?_
  refine v_mrow Xc hnm (k := 15) (N := 12) (fi := 20) ha hb14 hw14 ho14 hf14 rfl (by decide) (by decide) rfl (by decide) wd_570 rfl rfl rfl d_M_init_125 d_M_init_127 (n := 130) rfl ⟨Nat.le_of_ble_eq_true rfl, Nat.le_of_ble_eq_true rfl⟩ (fun q15 L15 f15 hb15 hw15 ho15 hf15 => ?_)
  refine k_aload_n Xc d_M_init_130 rfl rfl (n := 131) rfl ?_
  refine k_bipush Xc d_M_init_131 rfl (n := 133) rfl ?_
  refine k_val (show (12 : Int) = ((12 : Nat) : Int) from rfl) ?_
  refine v_mrow Xc hnm (k := 16) (N := 12) (fi := 21) ha hb15 hw15 ho15 hf15 rfl (by decide) (by decide) rfl (by decide) wd_571 rfl rfl rfl d_M_init_133 d_M_init_135 (n := 138) rfl ⟨Nat.le_of_ble_eq_true rfl, Nat.le_of_ble_eq_true rfl⟩ (fun q16 L16 f16 hb16 hw16 ho16 hf16 => ?_)
  refine k_aload_n Xc d_M_init_138 rfl rfl (n := 139) rfl ?_
  refine k_bipush Xc d_M_init_139 rfl (n := 141) rfl ?_
  refine k_val (show (72 : Int) = ((72 : Nat) : Int) from rfl) ?_
  refine v_mrow Xc hnm (k := 17) (N := 72) (fi := 22) ha hb16 hw16 ho16 hf16 rfl (by decide) (by decide) rfl (by decide) wd_572 rfl rfl rfl d_M_init_141 d_M_init_143 (n := 146) rfl ⟨Nat.le_of_ble_eq_true rfl, Nat.le_of_ble_eq_true rfl⟩ (fun q17 L17 f17 hb17 hw17 ho17 hf17 => ?_)
  refine k_aload_n Xc d_M_init_146 rfl rfl (n := 147) rfl ?_
  refine k_bipush Xc d_M_init_147 rfl (n := 149) rfl ?_
  refine k_val (show (72 : Int) = ((72 : Nat) : Int) from rfl) ?_
  refine v_mrow Xc hnm (k := 18) (N := 72) (fi := 23) ha hb17 hw17 ho17 hf17 rfl (by decide) (by decide) rfl (by decide) wd_573 rfl rfl rfl d_M_init_149 d_M_init_151 (n := 154) rfl ⟨Nat.le_of_ble_eq_true rfl, Nat.le_of_ble_eq_true rfl⟩ (fun q18 L18 f18 hb18 hw18 ho18 hf18 => ?_)
  refine k_aload_n Xc d_M_init_154 rfl rfl (n := 155) rfl ?_
  refine k_bipush Xc d_M_init_155 rfl (n := 157) rfl ?_
  refine k_val (show (6 : Int) = ((6 : Nat) : Int) from rfl) ?_
  refine v_mrow Xc hnm (k := 19) (N := 6) (fi := 25) ha hb18 hw18 ho18 hf18 rfl (by decide) (by decide) rfl (by decide) wd_575 rfl rfl rfl d_M_init_157 d_M_init_159 (n := 162) rfl ⟨Nat.le_of_ble_eq_true rfl, Nat.le_of_ble_eq_true rfl⟩ (fun q19 L19 f19 hb19 hw19 ho19 hf19 => ?_)
  refine k_aload_n Xc d_M_init_162 rfl rfl (n := 163) rfl ?_
  refine k_bipush Xc d_M_init_163 rfl (n := 165) rfl ?_
  refine k_val (show (6 : Int) = ((6 : Nat) : Int) from rfl) ?_
  refine v_mrow Xc hnm (k := 20) (N := 6) (fi := 26) ha hb19 hw19 ho19 hf19 rfl (by decide) (by decide) rfl (by decide) wd_576 rfl rfl rfl d_M_init_165 d_M_init_167 (n := 170) rfl ⟨Nat.le_of_ble_eq_true rfl, Nat.le_of_ble_eq_true rfl⟩ (fun q20 L20 f20 hb20 hw20 ho20 hf20 => ?_)
  refine k_aload_n Xc d_M_init_170 rfl rfl (n := 171) rfl ?_
  refine k_bipush Xc d_M_init_171 rfl (n := 173) rfl ?_
  refine k_val (show (12 : Int) = ((12 : Nat) : Int) from rfl) ?_
  refine v_mrow Xc hnm (k := 21) (N := 12) (fi := 28) ha hb20 hw20 ho20 hf20 rfl (by decide) (by decide) rfl (by decide) wd_578 rfl rfl rfl d_M_init_173 d_M_init_175 (n := 178) rfl ⟨Nat.le_of_ble_eq_true rfl, Nat.le_of_ble_eq_true rfl⟩ (fun q21 L21 f21 hb21 hw21 ho21 hf21 => ?_)
  refine k_aload_n Xc d_M_init_178 rfl rfl (n := 179) rfl ?_
  refine k_bipush Xc d_M_init_179 rfl (n := 181) rfl ?_
  refine k_val (show (12 : Int) = ((12 : Nat) : Int) from rfl) ?_
  refine v_mrow Xc hnm (k := 22) (N := 12) (fi := 29) ha hb21 hw21 ho21 hf21 rfl (by decide) (by decide) rfl (by decide) wd_579 rfl rfl rfl d_M_init_181 d_M_init_183 (n := 186) rfl ⟨Nat.le_of_ble_eq_true rfl, Nat.le_of_ble_eq_true rfl⟩ (fun q22 L22 f22 hb22 hw22 ho22 hf22 => ?_)
  refine k_iconst Xc d_M_init_186 (n := 187) rfl ?_
  refine k_istore_n Xc d_M_init_187 rfl (by decide) (n := 188) rfl ?_
  have hoz : f22 a = .inr (5, mfs q22 0 0 0 0 0 0 0) := ho22
  exact k_loc (loop _ _ hb22 13 0 f22 R0 (by omega) (by omega) ⟨hb22.1 a ha, fun k hk => (hb22.2.1 k hk).1, hoz, hw22, hb22.2.2⟩ (fun _ _ => rfl) (fun j hj => absurd hj (by omega)) hf22) rfl
