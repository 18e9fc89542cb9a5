-- PURE: a shape of the class and its corners in the reference
def mvP (P : Nat → Int × Int) (x y : Int) : Nat → Int × Int := fun j => ((P j).1 + x, (P j).2 + y)
theorem bs_mv (P : Nat → Int × Int) (n i : Nat) (x y a b : Int) : ge_bs (mvP P x y) n i (a, b) = ge_bs P n i (a - x, b - y) := by
  unfold ge_bs mvP
  dsimp only
  rw [show (P (ge_nx n i)).1 + x - ((P i).1 + x) = (P (ge_nx n i)).1 - (P i).1 by omega, show (P (ge_nx n i)).2 + y - ((P i).2 + y) = (P (ge_nx n i)).2 - (P i).2 by omega, show b - ((P i).2 + y) = b - y - (P i).2 by omega, show a - ((P i).1 + x) = a - x - (P i).1 by omega]
theorem bs_cg {P Q : Nat → Int × Int} {n i : Nat} (h : ∀ j, j < n → P j = Q j) (hi : i < n) (p : Int × Int) : ge_bs P n i p = ge_bs Q n i p := by
  unfold ge_bs
  rw [h i hi, h _ (ge_nx_lt (by omega))]
theorem ccw_cg {P Q : Nat → Int × Int} {n : Nat} (h : ∀ j, j < n → P j = Q j) (hc : ge_ccw n P) : ge_ccw n Q := fun i k hi hk a b => by
  rw [← bs_cg h hi, ← h k hk]; exact hc i k hi hk a b
theorem cw_cg {P Q : Nat → Int × Int} {n : Nat} (h : ∀ j, j < n → P j = Q j) (hc : ge_cw n P) : ge_cw n Q := fun i k hi hk a b => by
  rw [← bs_cg h hi, ← h k hk]; exact hc i k hi hk a b
theorem ccw_mv {P : Nat → Int × Int} {n : Nat} (x y : Int) (hc : ge_ccw n P) : ge_ccw n (mvP P x y) := fun i k hi hk a b => by
  have e := bs_mv P n i x y ((P k).1 + x) ((P k).2 + y)
  show 0 < ge_bs (mvP P x y) n i ((P k).1 + x, (P k).2 + y)
  rw [e, show (P k).1 + x - x = (P k).1 by omega, show (P k).2 + y - y = (P k).2 by omega]
  exact hc i k hi hk a b
/-- the corners in their order, or the other way round -/
def eor (n : Nat) (A B : Nat → Int × Int) : Prop := (∀ j, j < n → A j = B j) ∨ ∀ j, j < n → A j = ge_rev n B j
theorem eor_mv {n : Nat} {A B : Nat → Int × Int} (h : eor n A B) (x y : Int) : eor n (mvP A x y) (mvP B x y) := by
  rcases h with h | h
  · exact Or.inl fun j hj => by unfold mvP; rw [h j hj]
  · refine Or.inr fun j hj => ?_
    have := h j hj
    unfold ge_rev at this
    unfold mvP ge_rev
    rw [this]
theorem eor_ov1 {n m : Nat} {A B C : Nat → Int × Int} (h : eor n A B) : ge_ov n A m C ↔ ge_ov n B m C := by
  rcases h with h | h
  · exact ⟨ge_ov_congr (fun i hi => (h i hi).symm) (fun _ _ => rfl), ge_ov_congr h (fun _ _ => rfl)⟩
  · rw [← ge_ov_rev (P := B)]
    exact ⟨ge_ov_congr (fun i hi => (h i hi).symm) (fun _ _ => rfl), ge_ov_congr h (fun _ _ => rfl)⟩
theorem eor_ov2 {n m : Nat} {A B C : Nat → Int × Int} (h : eor n A B) : ge_ov m C n A ↔ ge_ov m C n B := by
  rw [ge_ov_swap, eor_ov1 h, ge_ov_swap]
theorem eor_ar {n : Nat} {A B : Nat → Int × Int} (hn : 3 ≤ n) (hA : ge_ccw n A) (h : eor n A B) : ge_ar n A n = zab (ge_ar n B n) := by
  have p := ge_ar_pos hn hA
  have cg : ∀ {P Q : Nat → Int × Int}, (∀ j, j < n → P j = Q j) → ge_ar n P n = ge_ar n Q n := fun {P Q} e => by
    unfold ge_ar
    refine ge_sm_congr n (fun k hk => ?_)
    unfold ge_sd
    rw [e k hk, e _ (ge_nx_lt (by omega))]
  rcases h with h | h
  · have e := cg h
    unfold zab
    rw [← e, if_neg (by omega)]
  · have e := cg h
    rw [ge_ar_rev (by omega)] at e
    unfold zab
    rw [if_pos (by omega)]
    exact e
/-- a shape of the class stands for n corners P -/
def zRep (q : TT) (n : Nat) (P : Nat → Int × Int) : Prop := q.1 = n ∧ (3 ≤ n ∧ n ≤ 6) ∧ ge_ccw n (sP q.2.1 q.2.2.1) ∧ eor n (sP q.2.1 q.2.2.1) P ∧ sBx n q.2.1 q.2.2.1 q.2.2.2.1 q.2.2.2.2.1 q.2.2.2.2.2.1 q.2.2.2.2.2.2
theorem zRep_cg {q : TT} {n : Nat} {P Q : Nat → Int × Int} (h : ∀ j, j < n → P j = Q j) (r : zRep q n P) : zRep q n Q := by
  obtain ⟨h1, h2, h3, h4, h5⟩ := r
  refine ⟨h1, h2, h3, ?_, h5⟩
  rcases h4 with h4 | h4
  · exact Or.inl fun j hj => (h4 j hj).trans (h j hj)
  · refine Or.inr fun j hj => (h4 j hj).trans ?_
    unfold ge_rev
    exact h _ (by omega)
/-- overlaps -/
theorem cOv_iff {T : Nat → TT} {s u n m : Nat} {P Q : Nat → Int × Int} (hs : zRep (T s) n P) (hu : zRep (T u) m Q) (x y : Int) : cOv T s u x y ↔ ge_ov m (mvP Q x y) n P := by
  obtain ⟨s1, s2, s3, s4, s5⟩ := hs
  obtain ⟨u1, u2, u3, u4, u5⟩ := hu
  obtain ⟨sa, ⟨i1, a1, b1⟩, ⟨i2, a2, b2⟩, ⟨i3, a3, b3⟩, ⟨i4, a4, b4⟩⟩ := s5 (by omega)
  obtain ⟨ua, ⟨j1, c1, d1⟩, ⟨j2, c2, d2⟩, ⟨j3, c3, d3⟩, ⟨j4, c4, d4⟩⟩ := u5 (by omega)
  have key : cOv T s u x y ↔ ge_ov2 n (sP (T s).2.1 (T s).2.2.1) m (mvP (sP (T u).2.1 (T u).2.2.1) x y) := by
    unfold cOv ge_ov2
    rw [s1, u1]
    refine and_congr (not_congr ?_) (and_congr (not_congr Iff.rfl) (not_congr ?_))
    · unfold ge_apart mvP sP
      dsimp only
      constructor
      · rintro (h | h | h | h)
        · exact Or.inl fun i k hi hk => by have := sa i hi; have := ua k hk; omega
        · exact Or.inr (Or.inl fun i k hi hk => by have := sa i hi; have := ua k hk; omega)
        · exact Or.inr (Or.inr (Or.inl fun i k hi hk => by have := sa i hi; have := ua k hk; omega))
        · exact Or.inr (Or.inr (Or.inr fun i k hi hk => by have := sa i hi; have := ua k hk; omega))
      · rintro (h | h | h | h)
        · have := h i1 j2 a1 c2; exact Or.inl (by omega)
        · have := h i2 j1 a2 c1; exact Or.inr (Or.inl (by omega))
        · have := h i3 j4 a3 c4; exact Or.inr (Or.inr (Or.inl (by omega)))
        · have := h i4 j3 a4 c3; exact Or.inr (Or.inr (Or.inr (by omega)))
    · unfold ge_sp
      have e : ∀ i k, ge_bs (sP (T u).2.1 (T u).2.2.1) m i (sP (fun q => (T s).2.1 q + -x) (fun q => (T s).2.2.1 q + -y) k) = ge_bs (mvP (sP (T u).2.1 (T u).2.2.1) x y) m i (sP (T s).2.1 (T s).2.2.1 k) := fun i k => by
        have := bs_mv (sP (T u).2.1 (T u).2.2.1) m i x y ((T s).2.1 (k : Int)) ((T s).2.2.1 (k : Int))
        rw [show sP (T s).2.1 (T s).2.2.1 k = ((T s).2.1 (k : Int), (T s).2.2.1 (k : Int)) from rfl, this]
        rfl
      constructor
      · rintro ⟨i, hi, h⟩; exact ⟨i, hi, fun k hk => by rw [← e]; exact h k hk⟩
      · rintro ⟨i, hi, h⟩; exact ⟨i, hi, fun k hk => by rw [e]; exact h k hk⟩
  rw [key, ge_ov_eq s2.1 u2.1 s3 (ccw_mv x y u3), ge_ov_swap, eor_ov1 (eor_mv u4 x y), eor_ov2 s4]
theorem odM_eq {h : Nat} {V : Nat → Int × Int} {m m' : Int × Int} (hd : ∀ k, k < h → ge_dj (V k) (V (ge_nx h k)) m m') : ∀ k, k ≤ h → (ge_odM h V m k ↔ ge_odd h V m k)
  | 0, _ => Iff.rfl
  | k + 1, hk => by
    have a := odM_eq hd k (by omega)
    have b := ge_hitM_eq (hd k (by omega))
    show ¬ (ge_odM h V m k ↔ ge_hitM m (V k) (V (ge_nx h k))) ↔ ¬ (ge_odd h V m k ↔ ge_hit m (V k) (V (ge_nx h k)))
    rw [a, b]
/-- what the hide has: h corners V, in the class's shape 2 too -/
def hRep (T : Nat → TT) (h : Nat) (V : Nat → Int × Int) : Prop := (T 2).1 = h ∧ (∀ j, j < h → sP (T 2).2.1 (T 2).2.2.1 j = V j) ∧ (∀ j, j < h → 0 ≤ (V j).1 ∧ (V j).1 ≤ 30 ∧ 0 ≤ (V j).2 ∧ (V j).2 ≤ 30) ∧ 3 ≤ h ∧ ge_plM h V ∧ sBx h (T 2).2.1 (T 2).2.2.1 (T 2).2.2.2.1 (T 2).2.2.2.2.1 (T 2).2.2.2.2.2.1 (T 2).2.2.2.2.2.2
theorem sCut_iff {T : Nat → TT} {u m h : Nat} {V : Nat → Int × Int} {Q : Nat → Int × Int} (hH : hRep T h V) (hu : zRep (T u) m Q) (x y : Int) {i : Nat} (hi : i < h) :
    sCut (T 2).1 (T 2).2.1 (T 2).2.2.1 (T u).1 (T u).2.1 (T u).2.2.1 (T u).2.2.2.1 (T u).2.2.2.2.1 (T u).2.2.2.2.2.1 (T u).2.2.2.2.2.2 x y i ↔ ge_ov m (mvP Q x y) 2 (ge_two2 (V i) (V (ge_nx h i))) := by
  obtain ⟨h1, h2, h3, h4, h5, h6⟩ := hH
  obtain ⟨u1, u2, u3, u4, u5⟩ := hu
  obtain ⟨ua, ⟨j1, c1, d1⟩, ⟨j2, c2, d2⟩, ⟨j3, c3, d3⟩, ⟨j4, c4, d4⟩⟩ := u5 (by omega)
  have hn := ge_nx_lt (i := i) (show 0 < h by omega)
  have vi := h2 i hi
  have vn := h2 _ hn
  have v1 : (T 2).2.1 (i : Int) = (V i).1 := congrArg Prod.fst vi
  have v2 : (T 2).2.2.1 (i : Int) = (V i).2 := congrArg Prod.snd vi
  have w1 : (T 2).2.1 ((ge_nx h i : Nat) : Int) = (V (ge_nx h i)).1 := congrArg Prod.fst vn
  have w2 : (T 2).2.2.1 ((ge_nx h i : Nat) : Int) = (V (ge_nx h i)).2 := congrArg Prod.snd vn
  rw [← eor_ov1 (eor_mv u4 x y), ← ge_cut_eq u2.1 (ccw_mv x y u3) (ge_pl_ne (ge_pl_eq.mpr h5) hi)]
  unfold sCut ge_cut
  rw [h1, u1, v1, v2, w1, w2]
  have um : ∀ k : Nat, mvP (sP (T u).2.1 (T u).2.2.1) x y k = ((T u).2.1 (k : Int) + x, (T u).2.2.1 (k : Int) + y) := fun k => rfl
  refine and_congr (not_congr ?_) ?_
  · simp only [um]
    constructor
    · rintro (q | q | q | q)
      · exact Or.inl fun k hk => by have := ua k hk; omega
      · exact Or.inr (Or.inl fun k hk => by have := ua k hk; omega)
      · exact Or.inr (Or.inr (Or.inl fun k hk => by have := ua k hk; omega))
      · exact Or.inr (Or.inr (Or.inr fun k hk => by have := ua k hk; omega))
    · rintro (q | q | q | q)
      · have := q j1 c1; exact Or.inl (by omega)
      · have := q j2 c2; exact Or.inr (Or.inl (by omega))
      · have := q j3 c3; exact Or.inr (Or.inr (Or.inl (by omega)))
      · have := q j4 c4; exact Or.inr (Or.inr (Or.inr (by omega)))
  · have e1 : ∀ k : Nat, ge_bs (sP (T 2).2.1 (T 2).2.2.1) h i ((T u).2.1 (k : Int) + x, (T u).2.2.1 (k : Int) + y) = ge_cr (V i).1 (V i).2 (V (ge_nx h i)).1 (V (ge_nx h i)).2 (mvP (sP (T u).2.1 (T u).2.2.1) x y k).1 (mvP (sP (T u).2.1 (T u).2.2.1) x y k).2 := fun k => by rw [bs_cg h2 hi, ge_bs_cr]; rfl
    have e2 : ∀ (k : Nat) (p : Int × Int), ge_bs (sP (T u).2.1 (T u).2.2.1) m k (p.1 - x, p.2 - y) = ge_bs (mvP (sP (T u).2.1 (T u).2.2.1) x y) m k p := fun k p => (bs_mv _ _ _ _ _ _ _).symm
    simp only [e1, e2]
    rw [and_assoc]
theorem mid_mv (P : Nat → Int × Int) (x y : Int) : ((P 0).1 + (P 1).1 + (P 2).1 + 3 * x, (P 0).2 + (P 1).2 + (P 2).2 + 3 * y) = ge_mid3 (mvP P x y 0) (mvP P x y 1) (mvP P x y 2) := by
  unfold ge_mid3 mvP
  exact Prod.ext (by dsimp only; omega) (by dsimp only; omega)
theorem odd_cg {h : Nat} {V W : Nat → Int × Int} {m : Int × Int} (e : ∀ j, j < h → V j = W j) (h0 : 0 < h) : ∀ k, k ≤ h → (ge_odd h (ge_3 V) m k ↔ ge_odd h (ge_3 W) m k)
  | 0, _ => Iff.rfl
  | k + 1, hk => by
    have a := odd_cg (m := m) e h0 k (by omega)
    have e1 : ge_3 V k = ge_3 W k := by unfold ge_3; rw [e k (by omega)]
    have e2 : ge_3 V (ge_nx h k) = ge_3 W (ge_nx h k) := by unfold ge_3; rw [e _ (ge_nx_lt h0)]
    show ¬ (ge_odd h (ge_3 V) m k ↔ ge_hit m (ge_3 V k) (ge_3 V (ge_nx h k))) ↔ ¬ (ge_odd h (ge_3 W) m k ↔ ge_hit m (ge_3 W k) (ge_3 W (ge_nx h k)))
    rw [a, e1, e2]
theorem tri0 {m : Nat} {Q : Nat → Int × Int} (hm : 3 ≤ m) (h : ge_ccw m Q) : ge_cr (Q 0).1 (Q 0).2 (Q 1).1 (Q 1).2 (Q 2).1 (Q 2).2 ≠ 0 := by
  have e : ge_nx m 0 = 1 := by unfold ge_nx; rw [if_pos (by omega)]
  have := h 0 2 (by omega) (by omega) (by omega) (by rw [e]; omega)
  rw [ge_bs_cr, e] at this
  omega
theorem tri1 {m : Nat} {Q : Nat → Int × Int} (hm : 3 ≤ m) (h : ge_ccw m Q) : ge_cr (Q (m - 1)).1 (Q (m - 1)).2 (Q (m - 1 - 1)).1 (Q (m - 1 - 1)).2 (Q (m - 1 - 2)).1 (Q (m - 1 - 2)).2 ≠ 0 := by
  have e : ge_nx m (m - 1 - 1) = m - 1 := by unfold ge_nx; rw [if_pos (by omega)]; omega
  have := h (m - 1 - 1) (m - 1 - 2) (by omega) (by omega) (by omega) (by rw [e]; omega)
  rw [ge_bs_cr, e, ge_cr_rev] at this
  intro q
  rw [q] at this
  omega
/-- within the hide -/
theorem cHo_iff {T : Nat → TT} {u m h : Nat} {V : Nat → Int × Int} {Q : Nat → Int × Int} (hH : hRep T h V) (hu : zRep (T u) m Q) (x y : Int) :
    (cBx T 2 u x y ∧ cHo T 2 u x y) ↔ (∀ j : Nat, j < m → (mvP Q x y j).1 ≤ 30 ∧ (mvP Q x y j).2 ≤ 30) ∧ fHide h V m (mvP Q x y) := by
  have hH2 := hH
  have hu2 := hu
  obtain ⟨h1, h2, h3, h4, h5, h6⟩ := hH
  obtain ⟨u1, u2, u3, u4, u5⟩ := hu
  obtain ⟨ua, ⟨j1, c1, d1⟩, ⟨j2, c2, d2⟩, ⟨j3, c3, d3⟩, ⟨j4, c4, d4⟩⟩ := u5 (by omega)
  obtain ⟨ha, ⟨i1, a1, b1⟩, ⟨i2, a2, b2⟩, ⟨i3, a3, b3⟩, ⟨i4, a4, b4⟩⟩ := h6 (by omega)
  have hne : ∀ k, k < h → V k ≠ V (ge_nx h k) := fun k hk => ge_pl_ne (ge_pl_eq.mpr h5) hk
  have ccU := ccw_mv x y u3
  have vX : ∀ j : Nat, j < h → (T 2).2.1 (j : Int) = (V j).1 ∧ (T 2).2.2.1 (j : Int) = (V j).2 := fun j hj => ⟨congrArg Prod.fst (h2 j hj), congrArg Prod.snd (h2 j hj)⟩
  have um : ∀ k : Nat, mvP (sP (T u).2.1 (T u).2.2.1) x y k = ((T u).2.1 (k : Int) + x, (T u).2.2.1 (k : Int) + y) := fun k => rfl
  have cuts : (∀ i : Nat, i < (T 2).1 → ¬ sCut (T 2).1 (T 2).2.1 (T 2).2.2.1 (T u).1 (T u).2.1 (T u).2.2.1 (T u).2.2.2.1 (T u).2.2.2.2.1 (T u).2.2.2.2.2.1 (T u).2.2.2.2.2.2 x y i) ↔ ∀ k, k < h → ¬ ge_ov m (mvP Q x y) 2 (ge_two2 (V k) (V (ge_nx h k))) := by
    constructor
    · intro q k hk z; exact q k (by omega) ((sCut_iff hH2 hu2 x y hk).mpr z)
    · intro q k hk z; exact q k (by omega) ((sCut_iff hH2 hu2 x y (by omega)).mp z)
  have cutsU : (∀ k, k < h → ¬ ge_ov m (mvP Q x y) 2 (ge_two2 (V k) (V (ge_nx h k)))) → ∀ k, k < h → ¬ ge_ov m (mvP (sP (T u).2.1 (T u).2.2.1) x y) 2 (ge_two2 (V k) (V (ge_nx h k))) := fun q k hk z => q k hk ((eor_ov1 (eor_mv u4 x y)).mp z)
  have par : (∀ k, k < h → ¬ ge_ov m (mvP Q x y) 2 (ge_two2 (V k) (V (ge_nx h k)))) →
      (ge_odd (T 2).1 (ge_3 (sP (T 2).2.1 (T 2).2.2.1)) ((T u).2.1 0 + (T u).2.1 1 + (T u).2.1 2 + 3 * x, (T u).2.2.1 0 + (T u).2.2.1 1 + (T u).2.2.1 2 + 3 * y) (T 2).1 ↔ ge_odM h (ge_3 V) (ge_mid3 (mvP Q x y 0) (mvP Q x y 1) (mvP Q x y 2)) h) := by
    intro q
    have ins := (ge_inside (V := V) (show 0 < h by omega) u2.1 ccU hne (cutsU q)).1
    have t0 := tri0 u2.1 ccU
    have t1 := tri1 u2.1 ccU
    have d0 := ins 0 1 2 0 1 2 (by omega) (by omega) (by omega) (by omega) (by omega) (by omega) t0 t0
    have m0 : ((T u).2.1 0 + (T u).2.1 1 + (T u).2.1 2 + 3 * x, (T u).2.2.1 0 + (T u).2.2.1 1 + (T u).2.2.1 2 + 3 * y) = ge_mid3 (mvP (sP (T u).2.1 (T u).2.2.1) x y 0) (mvP (sP (T u).2.1 (T u).2.2.1) x y 1) (mvP (sP (T u).2.1 (T u).2.2.1) x y 2) := mid_mv (sP (T u).2.1 (T u).2.2.1) x y
    rw [m0, h1, odd_cg h2 (by omega) h (Nat.le_refl _)]
    rcases eor_mv u4 x y with e | e
    · rw [← e 0 (by omega), ← e 1 (by omega), ← e 2 (by omega), odM_eq d0 h (Nat.le_refl _)]
    · have r : ∀ j, j < m → mvP Q x y j = mvP (sP (T u).2.1 (T u).2.2.1) x y (m - 1 - j) := fun j hj => by
        rw [e _ (by omega)]
        unfold ge_rev
        rw [show m - 1 - (m - 1 - j) = j by omega]
      have d1 := ins (m - 1) (m - 1 - 1) (m - 1 - 2) 0 1 2 (by omega) (by omega) (by omega) (by omega) (by omega) (by omega) t1 t0
      rw [r 0 (by omega), r 1 (by omega), r 2 (by omega), Nat.sub_zero, odM_eq d1 h (Nat.le_refl _)]
      exact (ge_odd_same (by omega) d1).symm
  constructor
  · rintro ⟨hb, hc, ho⟩
    have q := cuts.mp hc
    refine ⟨fun j hj => ?_, q, by omega, (par q).mp ho⟩
    obtain ⟨g1, g2, g3, g4⟩ := hb
    have s2 := h3 i2 a2
    have s4 := h3 i4 a4
    have w2 := (vX i2 a2).1
    have w4 := (vX i4 a4).2
    obtain ⟨k, hk, e⟩ : ∃ k, k < m ∧ mvP Q x y j = mvP (sP (T u).2.1 (T u).2.2.1) x y k := by
      rcases eor_mv u4 x y with e | e
      · exact ⟨j, hj, (e j hj).symm⟩
      · refine ⟨m - 1 - j, by omega, ?_⟩
        rw [e _ (by omega)]
        unfold ge_rev
        rw [show m - 1 - (m - 1 - j) = j by omega]
    rw [e, um]
    have := ua k hk
    dsimp only
    omega
  · rintro ⟨hb, q, h0, ho⟩
    have od := (par q).mpr ho
    have t0 := tri0 u2.1 ccU
    have out := (ge_inside (V := V) (show 0 < h by omega) u2.1 ccU hne (cutsU q)).2
    have m0 : ((T u).2.1 0 + (T u).2.1 1 + (T u).2.1 2 + 3 * x, (T u).2.2.1 0 + (T u).2.2.1 1 + (T u).2.2.1 2 + 3 * y) = ge_mid3 (mvP (sP (T u).2.1 (T u).2.2.1) x y 0) (mvP (sP (T u).2.1 (T u).2.2.1) x y 1) (mvP (sP (T u).2.1 (T u).2.2.1) x y 2) := mid_mv (sP (T u).2.1 (T u).2.2.1) x y
    have od2 := od
    rw [m0, h1, odd_cg h2 (by omega) h (Nat.le_refl _)] at od2
    refine ⟨⟨?_, ?_, ?_, ?_⟩, cuts.mpr q, od⟩
    · refine Decidable.byContradiction fun n => out 0 1 2 j1 (by omega) (by omega) (by omega) c1 t0 (Or.inl fun k hk => ?_) od2
      rw [um]; have := ha k hk; have := vX k hk; dsimp only; omega
    · refine Decidable.byContradiction fun n => out 0 1 2 j2 (by omega) (by omega) (by omega) c2 t0 (Or.inr (Or.inl fun k hk => ?_)) od2
      rw [um]; have := ha k hk; have := vX k hk; dsimp only; omega
    · refine Decidable.byContradiction fun n => out 0 1 2 j3 (by omega) (by omega) (by omega) c3 t0 (Or.inr (Or.inr (Or.inl fun k hk => ?_))) od2
      rw [um]; have := ha k hk; have := vX k hk; dsimp only; omega
    · refine Decidable.byContradiction fun n => out 0 1 2 j4 (by omega) (by omega) (by omega) c4 t0 (Or.inr (Or.inr (Or.inr fun k hk => ?_))) od2
      rw [um]; have := ha k hk; have := vX k hk; dsimp only; omega
