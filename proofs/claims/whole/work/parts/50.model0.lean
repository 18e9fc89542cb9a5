-- MODEL: the reference's cells: its object o, its rows ra 0 .. ra 22 with contents R
def mfs (ra : Nat → Nat) (cd wt hc zn kn mn om : Int) : List Value := [.int (zI cd), .int (zI wt), .ref (ra 0), .ref (ra 1), .int (zI hc), .ref (ra 2), .ref (ra 3), .int (zI zn), .ref (ra 4), .ref (ra 5), .ref (ra 6), .ref (ra 7), .int (zI kn), .ref (ra 8), .ref (ra 9), .ref (ra 10), .ref (ra 11), .ref (ra 12), .ref (ra 13), .ref (ra 14), .ref (ra 15), .ref (ra 16), .ref (ra 17), .ref (ra 18), .int (zI mn), .ref (ra 19), .ref (ra 20), .int (zI om), .ref (ra 21), .ref (ra 22)]
def msz : Nat → Nat := fun k => match k with
  | 0 => 12
  | 1 => 12
  | 2 => 12
  | 3 => 12
  | 4 => 30
  | 5 => 30
  | 6 => 5
  | 7 => 5
  | 8 => 36
  | 9 => 36
  | 10 => 6
  | 11 => 6
  | 12 => 6
  | 13 => 12
  | 14 => 12
  | 15 => 12
  | 16 => 12
  | 17 => 72
  | 18 => 72
  | 19 => 6
  | 20 => 6
  | 21 => 12
  | _ => 12
theorem msz_lt : ∀ k, msz k < 2 ^ 31 := by
  intro k
  unfold msz
  split <;> decide
def zMo (G : Nat → ClassId) (L : List Nat) (f : Nat → va_E) (o : Nat) (ra : Nat → Nat) (cd wt hc zn kn mn om : Int) (R : Nat → Int → Int) : Prop :=
  o ∈ L ∧ (∀ k : Nat, k < 23 → ra k ∈ L) ∧ f o = .inr (5, mfs ra cd wt hc zn kn mn om) ∧ (∀ k : Nat, k < 23 → f (ra k) = zr G (msz k) (R k)) ∧ (∀ j k : Nat, j < 23 → k < 23 → ra j = ra k → j = k)
def mFr (f f1 : Nat → va_E) (o : Nat) (ra : Nat → Nat) : Prop := ∀ q : Nat, q ≠ o → (∀ k : Nat, k < 23 → q ≠ ra k) → f1 q = f q
theorem mFr_rf {f : Nat → va_E} {o : Nat} {ra : Nat → Nat} : mFr f f o ra := fun _ _ _ => rfl
theorem mFr_tr {f g h : Nat → va_E} {o : Nat} {ra : Nat → Nat} (h1 : mFr f g o ra) (h2 : mFr g h o ra) : mFr f h o ra := fun q q1 q2 => (h2 q q1 q2).trans (h1 q q1 q2)
section MO
variable {G : Nat → ClassId} {L : List Nat} {f : Nat → va_E} {o : Nat} {ra : Nat → Nat} {cd wt hc zn kn mn om : Int} {R : Nat → Int → Int}
theorem zMo_ne (h : zMo G L f o ra cd wt hc zn kn mn om R) {k : Nat} (hk : k < 23) : o ≠ ra k := by
  obtain ⟨-, -, h1, h2, -⟩ := h
  intro e
  have h3 := h2 k hk
  rw [← e, h1] at h3; unfold zr at h3; cases h3
theorem mr_0 (h : zMo G L f o ra cd wt hc zn kn mn om R) : f (ra 0) = zr G 12 (R 0) := h.2.2.2.1 0 (by decide)
theorem mr_1 (h : zMo G L f o ra cd wt hc zn kn mn om R) : f (ra 1) = zr G 12 (R 1) := h.2.2.2.1 1 (by decide)
theorem mr_2 (h : zMo G L f o ra cd wt hc zn kn mn om R) : f (ra 2) = zr G 12 (R 2) := h.2.2.2.1 2 (by decide)
theorem mr_3 (h : zMo G L f o ra cd wt hc zn kn mn om R) : f (ra 3) = zr G 12 (R 3) := h.2.2.2.1 3 (by decide)
theorem mr_4 (h : zMo G L f o ra cd wt hc zn kn mn om R) : f (ra 4) = zr G 30 (R 4) := h.2.2.2.1 4 (by decide)
theorem mr_5 (h : zMo G L f o ra cd wt hc zn kn mn om R) : f (ra 5) = zr G 30 (R 5) := h.2.2.2.1 5 (by decide)
theorem mr_6 (h : zMo G L f o ra cd wt hc zn kn mn om R) : f (ra 6) = zr G 5 (R 6) := h.2.2.2.1 6 (by decide)
theorem mr_7 (h : zMo G L f o ra cd wt hc zn kn mn om R) : f (ra 7) = zr G 5 (R 7) := h.2.2.2.1 7 (by decide)
theorem mr_8 (h : zMo G L f o ra cd wt hc zn kn mn om R) : f (ra 8) = zr G 36 (R 8) := h.2.2.2.1 8 (by decide)
theorem mr_9 (h : zMo G L f o ra cd wt hc zn kn mn om R) : f (ra 9) = zr G 36 (R 9) := h.2.2.2.1 9 (by decide)
theorem mr_10 (h : zMo G L f o ra cd wt hc zn kn mn om R) : f (ra 10) = zr G 6 (R 10) := h.2.2.2.1 10 (by decide)
theorem mr_11 (h : zMo G L f o ra cd wt hc zn kn mn om R) : f (ra 11) = zr G 6 (R 11) := h.2.2.2.1 11 (by decide)
theorem mr_12 (h : zMo G L f o ra cd wt hc zn kn mn om R) : f (ra 12) = zr G 6 (R 12) := h.2.2.2.1 12 (by decide)
theorem mr_13 (h : zMo G L f o ra cd wt hc zn kn mn om R) : f (ra 13) = zr G 12 (R 13) := h.2.2.2.1 13 (by decide)
theorem mr_14 (h : zMo G L f o ra cd wt hc zn kn mn om R) : f (ra 14) = zr G 12 (R 14) := h.2.2.2.1 14 (by decide)
theorem mr_15 (h : zMo G L f o ra cd wt hc zn kn mn om R) : f (ra 15) = zr G 12 (R 15) := h.2.2.2.1 15 (by decide)
theorem mr_16 (h : zMo G L f o ra cd wt hc zn kn mn om R) : f (ra 16) = zr G 12 (R 16) := h.2.2.2.1 16 (by decide)
theorem mr_17 (h : zMo G L f o ra cd wt hc zn kn mn om R) : f (ra 17) = zr G 72 (R 17) := h.2.2.2.1 17 (by decide)
theorem mr_18 (h : zMo G L f o ra cd wt hc zn kn mn om R) : f (ra 18) = zr G 72 (R 18) := h.2.2.2.1 18 (by decide)
theorem mr_19 (h : zMo G L f o ra cd wt hc zn kn mn om R) : f (ra 19) = zr G 6 (R 19) := h.2.2.2.1 19 (by decide)
theorem mr_20 (h : zMo G L f o ra cd wt hc zn kn mn om R) : f (ra 20) = zr G 6 (R 20) := h.2.2.2.1 20 (by decide)
theorem mr_21 (h : zMo G L f o ra cd wt hc zn kn mn om R) : f (ra 21) = zr G 12 (R 21) := h.2.2.2.1 21 (by decide)
theorem mr_22 (h : zMo G L f o ra cd wt hc zn kn mn om R) : f (ra 22) = zr G 12 (R 22) := h.2.2.2.1 22 (by decide)
theorem zMo_row (h : zMo G L f o ra cd wt hc zn kn mn om R) (k : Nat) (hk : k < 23) (Y : Int → Int) : zMo G L (va_up f (ra k) (zr G (msz k) Y)) o ra cd wt hc zn kn mn om (va_up R k Y) := by
  have ne := zMo_ne h hk
  obtain ⟨h1, h2, h3, h4, h5⟩ := h
  refine ⟨h1, h2, (va_up_ne _ _ ne).trans h3, fun j hj => ?_, h5⟩
  by_cases e : j = k
  · subst e; rw [va_up_self, va_up_self]
  · rw [va_up_ne _ _ (fun q => e (h5 j k hj hk q)), va_up_ne _ _ e]; exact h4 j hj
theorem zMo_obj (h : zMo G L f o ra cd wt hc zn kn mn om R) (cd2 wt2 hc2 zn2 kn2 mn2 om2 : Int) : zMo G L (va_up f o (.inr (5, mfs ra cd2 wt2 hc2 zn2 kn2 mn2 om2))) o ra cd2 wt2 hc2 zn2 kn2 mn2 om2 R := by
  have ne := @zMo_ne _ _ _ _ _ _ _ _ _ _ _ _ _ h
  obtain ⟨h1, h2, h3, h4, h5⟩ := h
  exact ⟨h1, h2, va_up_self _ _ _, fun j hj => (va_up_ne _ _ (Ne.symm (ne hj))).trans (h4 j hj), h5⟩
variable {p : Program} {l : Launch} {e : Env} {Rm : Room} {s : State} {m : MethodId} {args : Array Value} {below : List Frame} {meth : Method} {c : Code} {D : va_G} {A : Nat → Prop} {nL cells slots : Nat} {Q : State → Prop} {cc : ByteArray} {own : String}
variable {pc n t : Nat} {lv lv' : List (Nat × Value)} {st : List Value}
theorem k_iastM (X : zX p s m args meth c D G A cc own nL) (hM : zMo G L f o ra cd wt hc zn kn mn om R) (k : Nat) (hk : k < 23) {z v : Int} (hd : decode cc pc = .ok (.iastore, 1)) (hn : pc + 1 = n) (h0 : 0 ≤ z) (h1 : z < (msz k : Nat)) (kk : ∀ f1 : Nat → va_E, zMo G L f1 o ra cd wt hc zn kn mn om (va_up R k (iu (R k) z v)) → mFr f f1 o ra → zG p l e Rm s m args below meth c D A nL cells slots Q n lv (st) L f1) : zG p l e Rm s m args below meth c D A nL cells slots Q pc lv (.int (zI v) :: .int (zI z) :: .ref (ra k) :: st) L f :=
  k_iast X hd hn (hM.2.1 k hk) (hM.2.2.2.1 k hk) h0 h1 (msz_lt k) (kk _ (zMo_row hM k hk _) (fun q _ h2 => va_up_ne _ _ (h2 k hk)))
theorem k_putM_code (X : zX p s m args meth c D G A cc own nL) (hM : zMo G L f o ra cd wt hc zn kn mn om R) {z : Int} {index : Nat} (hw : Cond.fieldLink own index "LeatherRoomModel" "code" "I" ∈ BG) (hd : decode cc pc = .ok (.putfield index, 3)) (hn : pc + 3 = n) (kk : ∀ f1 : Nat → va_E, zMo G L f1 o ra z wt hc zn kn mn om R → mFr f f1 o ra → zG p l e Rm s m args below meth c D A nL cells slots Q n lv (st) L f1) : zG p l e Rm s m args below meth c D A nL cells slots Q pc lv (.int (zI z) :: .ref o :: st) L f :=
  k_put X u_M t_M_ok n_M rfl 0 (by decide) hw rfl rfl rfl rfl hd hn hM.1 hM.2.2.1 (Nat.le_of_ble_eq_true rfl) (kk _ (zMo_obj hM z wt hc zn kn mn om) (fun q h1 _ => va_up_ne _ _ h1))
theorem k_putM_waiting (X : zX p s m args meth c D G A cc own nL) (hM : zMo G L f o ra cd wt hc zn kn mn om R) {z : Int} {index : Nat} (hw : Cond.fieldLink own index "LeatherRoomModel" "waiting" "I" ∈ BG) (hd : decode cc pc = .ok (.putfield index, 3)) (hn : pc + 3 = n) (kk : ∀ f1 : Nat → va_E, zMo G L f1 o ra cd z hc zn kn mn om R → mFr f f1 o ra → zG p l e Rm s m args below meth c D A nL cells slots Q n lv (st) L f1) : zG p l e Rm s m args below meth c D A nL cells slots Q pc lv (.int (zI z) :: .ref o :: st) L f :=
  k_put X u_M t_M_ok n_M rfl 1 (by decide) hw rfl rfl rfl rfl hd hn hM.1 hM.2.2.1 (Nat.le_of_ble_eq_true rfl) (kk _ (zMo_obj hM cd z hc zn kn mn om) (fun q h1 _ => va_up_ne _ _ h1))
theorem k_putM_hideCorners (X : zX p s m args meth c D G A cc own nL) (hM : zMo G L f o ra cd wt hc zn kn mn om R) {z : Int} {index : Nat} (hw : Cond.fieldLink own index "LeatherRoomModel" "hideCorners" "I" ∈ BG) (hd : decode cc pc = .ok (.putfield index, 3)) (hn : pc + 3 = n) (kk : ∀ f1 : Nat → va_E, zMo G L f1 o ra cd wt z zn kn mn om R → mFr f f1 o ra → zG p l e Rm s m args below meth c D A nL cells slots Q n lv (st) L f1) : zG p l e Rm s m args below meth c D A nL cells slots Q pc lv (.int (zI z) :: .ref o :: st) L f :=
  k_put X u_M t_M_ok n_M rfl 4 (by decide) hw rfl rfl rfl rfl hd hn hM.1 hM.2.2.1 (Nat.le_of_ble_eq_true rfl) (kk _ (zMo_obj hM cd wt z zn kn mn om) (fun q h1 _ => va_up_ne _ _ h1))
theorem k_putM_zones (X : zX p s m args meth c D G A cc own nL) (hM : zMo G L f o ra cd wt hc zn kn mn om R) {z : Int} {index : Nat} (hw : Cond.fieldLink own index "LeatherRoomModel" "zones" "I" ∈ BG) (hd : decode cc pc = .ok (.putfield index, 3)) (hn : pc + 3 = n) (kk : ∀ f1 : Nat → va_E, zMo G L f1 o ra cd wt hc z kn mn om R → mFr f f1 o ra → zG p l e Rm s m args below meth c D A nL cells slots Q n lv (st) L f1) : zG p l e Rm s m args below meth c D A nL cells slots Q pc lv (.int (zI z) :: .ref o :: st) L f :=
  k_put X u_M t_M_ok n_M rfl 7 (by decide) hw rfl rfl rfl rfl hd hn hM.1 hM.2.2.1 (Nat.le_of_ble_eq_true rfl) (kk _ (zMo_obj hM cd wt hc z kn mn om) (fun q h1 _ => va_up_ne _ _ h1))
theorem k_putM_kinds (X : zX p s m args meth c D G A cc own nL) (hM : zMo G L f o ra cd wt hc zn kn mn om R) {z : Int} {index : Nat} (hw : Cond.fieldLink own index "LeatherRoomModel" "kinds" "I" ∈ BG) (hd : decode cc pc = .ok (.putfield index, 3)) (hn : pc + 3 = n) (kk : ∀ f1 : Nat → va_E, zMo G L f1 o ra cd wt hc zn z mn om R → mFr f f1 o ra → zG p l e Rm s m args below meth c D A nL cells slots Q n lv (st) L f1) : zG p l e Rm s m args below meth c D A nL cells slots Q pc lv (.int (zI z) :: .ref o :: st) L f :=
  k_put X u_M t_M_ok n_M rfl 12 (by decide) hw rfl rfl rfl rfl hd hn hM.1 hM.2.2.1 (Nat.le_of_ble_eq_true rfl) (kk _ (zMo_obj hM cd wt hc zn z mn om) (fun q h1 _ => va_up_ne _ _ h1))
theorem k_putM_many (X : zX p s m args meth c D G A cc own nL) (hM : zMo G L f o ra cd wt hc zn kn mn om R) {z : Int} {index : Nat} (hw : Cond.fieldLink own index "LeatherRoomModel" "many" "I" ∈ BG) (hd : decode cc pc = .ok (.putfield index, 3)) (hn : pc + 3 = n) (kk : ∀ f1 : Nat → va_E, zMo G L f1 o ra cd wt hc zn kn z om R → mFr f f1 o ra → zG p l e Rm s m args below meth c D A nL cells slots Q n lv (st) L f1) : zG p l e Rm s m args below meth c D A nL cells slots Q pc lv (.int (zI z) :: .ref o :: st) L f :=
  k_put X u_M t_M_ok n_M rfl 24 (by decide) hw rfl rfl rfl rfl hd hn hM.1 hM.2.2.1 (Nat.le_of_ble_eq_true rfl) (kk _ (zMo_obj hM cd wt hc zn kn z om) (fun q h1 _ => va_up_ne _ _ h1))
theorem k_putM_otherMany (X : zX p s m args meth c D G A cc own nL) (hM : zMo G L f o ra cd wt hc zn kn mn om R) {z : Int} {index : Nat} (hw : Cond.fieldLink own index "LeatherRoomModel" "otherMany" "I" ∈ BG) (hd : decode cc pc = .ok (.putfield index, 3)) (hn : pc + 3 = n) (kk : ∀ f1 : Nat → va_E, zMo G L f1 o ra cd wt hc zn kn mn z R → mFr f f1 o ra → zG p l e Rm s m args below meth c D A nL cells slots Q n lv (st) L f1) : zG p l e Rm s m args below meth c D A nL cells slots Q pc lv (.int (zI z) :: .ref o :: st) L f :=
  k_put X u_M t_M_ok n_M rfl 27 (by decide) hw rfl rfl rfl rfl hd hn hM.1 hM.2.2.1 (Nat.le_of_ble_eq_true rfl) (kk _ (zMo_obj hM cd wt hc zn kn mn z) (fun q h1 _ => va_up_ne _ _ h1))
end MO
