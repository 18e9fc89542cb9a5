-- BASE: ints as zI z; locals as a list read by zg; the judgement zG (the machine at pc, locals lv, stack st, all cells in one pool L f) and its rows
def zI (z : Int) : Int32 := Int32.ofInt z
abbrev zO (z : Int) : Prop := -2147483648 ≤ z ∧ z ≤ 2147483647
theorem zI_add (a b : Int) : zI a + zI b = zI (a + b) := (Int32.ofInt_add a b).symm
theorem zI_sub (a b : Int) : zI a - zI b = zI (a - b) := (Int32.ofInt_sub a b).symm
theorem zI_mul (a b : Int) : zI a * zI b = zI (a * b) := (Int32.ofInt_mul a b).symm
theorem zI_neg (a : Int) : -zI a = zI (-a) := (Int32.ofInt_neg a).symm
theorem zI_0 : zI 0 = 0 := rfl
theorem zI_1 : zI 1 = 1 := rfl
theorem zI_toInt {a : Int} (h : zO a) : (zI a).toInt = a := Int32.toInt_ofInt_of_le (by have := h.1; omega) (by have := h.2; omega)
theorem zI_of (x : Int32) : x = zI x.toInt := (Int32.ofInt_toInt x).symm
theorem zO_of (x : Int32) : zO x.toInt := ⟨by have := x.le_toInt; omega, by have := x.toInt_lt; omega⟩
theorem zI_ex (x : Int32) : ∃ z, zO z ∧ x = zI z := ⟨x.toInt, zO_of x, zI_of x⟩
theorem zI_nat (n : Nat) : zI (n : Int) = nI n := Int32.ofInt_eq_ofNat
theorem zI_lt {a b : Int} (ha : zO a) (hb : zO b) : zI a < zI b ↔ a < b := by rw [Int32.lt_iff_toInt_lt, zI_toInt ha, zI_toInt hb]
theorem zI_le {a b : Int} (ha : zO a) (hb : zO b) : zI a ≤ zI b ↔ a ≤ b := by rw [Int32.le_iff_toInt_le, zI_toInt ha, zI_toInt hb]
theorem zI_eq {a b : Int} (ha : zO a) (hb : zO b) : zI a = zI b ↔ a = b := by
  rw [← Int32.toInt_inj, zI_toInt ha, zI_toInt hb]
theorem zO_0 : zO 0 := by omega
theorem zI_in {z : Int} {n : Nat} (h0 : 0 ≤ z) (h1 : z < n) (hn : n < 2 ^ 31) : vp_in (zI z) n := by
  rw [vp_in_iff, zI_toInt (by omega)]; exact ⟨h0, h1⟩
theorem zI_cl {z : Int} {n : Nat} (h0 : 0 ≤ z) (h1 : z < n) (hn : n < 2 ^ 31) : (zI z).toNatClampNeg = z.toNat := by
  obtain ⟨k, rfl⟩ : ∃ k : Nat, z = k := ⟨z.toNat, by omega⟩
  rw [zI_nat, nI_clamp (by omega)]; rfl
-- locals
def zg : List (Nat × Value) → Nat → Option Value
  | [], _ => none
  | q :: t, i => cond (Nat.beq i q.1) (some q.2) (zg t i)
theorem zg_cons (j : Nat) (v : Value) (t : List (Nat × Value)) (i : Nat) : zg ((j, v) :: t) i = if i = j then some v else zg t i := by
  show cond (Nat.beq i j) (some v) (zg t i) = _
  by_cases h : i = j
  · subst h; simp
  · have : Nat.beq i j = false := by
      cases hb : Nat.beq i j with
      | false => rfl
      | true => exact absurd (Nat.eq_of_beq_eq_true hb) h
    rw [this, if_neg h]; rfl
theorem zg_mem {v : Value} {i : Nat} : ∀ {l : List (Nat × Value)}, zg l i = some v → i ∈ l.map Prod.fst
  | [], h => by cases h
  | (j, w) :: t, h => by
    rw [zg_cons] at h
    by_cases e : i = j
    · subst e; simp
    · rw [if_neg e] at h
      exact List.mem_cons_of_mem _ (zg_mem h)
def zd (l : List (Nat × Value)) : List (Nat × Value) := (l.map Prod.fst).filterMap (fun j => (zg l j).map (fun v => (j, v)))
theorem zd_mem {l : List (Nat × Value)} {i : Nat} {v : Value} : (i, v) ∈ zd l ↔ zg l i = some v := by
  unfold zd
  rw [List.mem_filterMap]
  constructor
  · rintro ⟨j, -, h⟩
    cases hj : zg l j with
    | none => rw [hj] at h; cases h
    | some w =>
      rw [hj] at h
      have := Option.some.inj h
      obtain ⟨rfl, rfl⟩ := Prod.mk.inj this
      exact hj
  · intro h
    exact ⟨i, zg_mem h, by rw [h]; rfl⟩
def zL (ls : Array Slot) (nL : Nat) (lv : List (Nat × Value)) : Prop := ls.size = nL ∧ lv_wf ls ∧ ∀ i v, zg lv i = some v → ls[i]? = some (.val v) ∧ v.category = 1
theorem zL_has {ls : Array Slot} {nL : Nat} {lv : List (Nat × Value)} (h : zL ls nL lv) : lv_has ls nL (zd lv) := ⟨h.1, h.2.1, fun q hq => (h.2.2 q.1 q.2 (zd_mem.mp hq)).1⟩
theorem zL_at {ls : Array Slot} {nL : Nat} {lv : List (Nat × Value)} (h : zL ls nL lv) {i : Nat} {v : Value} (hi : zg lv i = some v) : ls[i]? = some (.val v) := (h.2.2 i v hi).1
theorem zL_put {ls ls' : Array Slot} {nL : Nat} {lv : List (Nat × Value)} (h : zL ls nL lv) {i : Nat} {x : Value} (hx : x.category = 1) (h' : lv_has ls' nL ((i, x) :: (zd lv).filter (fun q => !(q.1 == i) && !(q.1 + 1 == i && q.2.category == 2)))) : zL ls' nL ((i, x) :: lv) := by
  refine ⟨h'.1, h'.2.1, fun j v hj => ?_⟩
  rw [zg_cons] at hj
  by_cases e : j = i
  · subst e
    rw [if_pos rfl] at hj
    obtain rfl := Option.some.inj hj
    exact ⟨h'.2.2 (j, x) List.mem_cons_self, hx⟩
  · rw [if_neg e] at hj
    have hc := (h.2.2 j v hj).2
    refine ⟨h'.2.2 (j, v) (List.mem_cons_of_mem _ (List.mem_filter.mpr ⟨zd_mem.mpr hj, ?_⟩)), hc⟩
    simp [e, hc]
/-- fewer or the same locals -/
theorem zL_sub {ls : Array Slot} {nL : Nat} {lv lv' : List (Nat × Value)} (h : zL ls nL lv) (hs : lv'.map (fun q => zg lv q.1) = lv'.map (fun q => some q.2)) : zL ls nL lv' := by
  refine ⟨h.1, h.2.1, fun i v hi => h.2.2 i v ?_⟩
  have key : ∀ l : List (Nat × Value), l.map (fun q => zg lv q.1) = l.map (fun q => some q.2) → zg l i = some v → zg lv i = some v := by
    intro l
    induction l with
    | nil => intro _ h; cases h
    | cons q t ih =>
      intro h1 h2
      obtain ⟨j, w⟩ := q
      rw [List.map_cons, List.map_cons] at h1
      have h3 := List.cons.inj h1
      rw [zg_cons] at h2
      by_cases e : i = j
      · subst e
        rw [if_pos rfl] at h2
        rw [← h2]; exact h3.1
      · rw [if_neg e] at h2
        exact ih h3.2 h2
  exact key lv' hs hi
theorem zL_entry {vs : List Value} {n : Nat} (h : (lg_sl vs).length ≤ n) (hc : (lv_args 0 vs).all (fun q => q.2.category == 1) = true) : zL ((lg_sl vs ++ List.replicate (n - (lg_sl vs).length) Slot.unset).toArray) n (lv_args 0 vs) := by
  have e := lv_entry vs h
  have key : ∀ (l : List (Nat × Value)) (i : Nat) (v : Value), zg l i = some v → (i, v) ∈ l := by
    intro l
    induction l with
    | nil => intro i v h; cases h
    | cons q t ih =>
      intro i v h
      obtain ⟨j, w⟩ := q
      rw [zg_cons] at h
      by_cases e : i = j
      · subst e
        rw [if_pos rfl] at h
        obtain rfl := Option.some.inj h
        exact List.mem_cons_self
      · rw [if_neg e] at h
        exact List.mem_cons_of_mem _ (ih i v h)
  exact ⟨e.1, e.2.1, fun i v hi => ⟨e.2.2 (i, v) (key _ i v hi), by have := List.all_eq_true.mp hc (i, v) (key _ i v hi); simpa using this⟩⟩
-- the world
abbrev zc : List vw_C := cls_all
abbrev zt (G : Nat → ClassId) : List (ClassId × FieldType) := [(G 0, .int), (G 1, .long), (G 2, .object "LeatherRoom$Shape"), (G 3, .object "LeatherRoom$Zone"), (G 4, .object "LeatherRoom$Kind"), (G 5, .object "LeatherRoom$Part")]
/-- a row of ints -/
def zr (G : Nat → ClassId) (N : Nat) (X : Int → Int) : va_E := .inl (G 0, N, .inl (fun j : Nat => zI (X (j : Int))))
/-- a row of references -/
def zq (G : Nat → ClassId) (k N : Nat) (X : Int → Nat) : va_E := .inl (G k, N, .inr (.inr (.inr (.inr (fun j : Nat => some (X (j : Int)))))))
def iu (X : Int → Int) (z v : Int) : Int → Int := fun q => if q = z then v else X q
theorem zr_up (X : Int → Int) (z v : Int) (h0 : 0 ≤ z) : upd (fun j : Nat => zI (X (j : Int))) z.toNat (zI v) = fun j : Nat => zI (iu X z v (j : Int)) := by
  funext j
  unfold upd iu
  by_cases e : j = z.toNat
  · rw [if_pos e, if_pos (by omega)]
  · rw [if_neg e, if_neg (by omega)]
abbrev zW (D : va_G) (G : Nat → ClassId) (L : List Nat) (f : Nat → va_E) (sz : Nat) (U : State) : Prop := U.heap.size = sz ∧ va_P D zc (va_pl L f) U.heap ∧ va_K D zc (zt G) U ∧ va_D (fun _ => True) (va_pl L f)
/-- an end: an answer, a pool -/
def zE (D : va_G) (A : Nat → Prop) (Q : Option Value → List Nat → (Nat → va_E) → Prop) : Array Value → State → Outcome → State → Prop := fun _ st oc t =>
  (∃ (v : Option Value) (L : List Nat) (f : Nat → va_E), oc = .returned v ∧ Q v L f ∧ va_P D zc (va_pl L f) t.heap ∧ va_D A (va_pl L f)) ∧ va_F A st t
/-- a contract: from the pool L f, with these arguments, the method answers and leaves a pool, with Q -/
def zM (l : Launch) (D : va_G) (G : Nat → ClassId) (y : MethodName) (ws : List Cond) (rm : Room) (av : List Value) (L : List Nat) (f : Nat → va_E) (Q : Option Value → List Nat → (Nat → va_E) → Prop) : Prop :=
  ∀ sz : Nat, Met l y ws rm (va_Pc av (zW D G L f sz)) (zE D (va_A (va_pl L f) sz) Q) rm.cells rm.slots (va_A (va_pl L f) sz)
def zX (p : Program) (s : State) (m : MethodId) (args : Array Value) (meth : Method) (c : Code) (D : va_G) (G : Nat → ClassId) (A : Nat → Prop) (cc : ByteArray) (own : String) (nL : Nat) : Prop :=
  p.tables.exec = Jvm.exec ∧ c.code = cc ∧ c.maxLocals = nL ∧ s.vm.findClass own = some m.cls ∧ (∀ w ∈ BG, w.before args s = true) ∧ va_K D zc (zt G) s ∧ (∀ q, s.heap.size ≤ q → A q) ∧ meth.locks = false
def zG (p : Program) (l : Launch) (e : Env) (R : Room) (s : State) (m : MethodId) (args : Array Value) (below : List Frame) (meth : Method) (c : Code) (D : va_G) (A : Nat → Prop) (nL cells slots : Nat) (Q : State → Prop) (pc : Nat) (lv : List (Nat × Value)) (st : List Value) (L : List Nat) (f : Nat → va_E) : Prop :=
  ∀ (H : Heap) (locs : List Loc) (ls : Array Slot), zL ls nL lv → va_P D zc (va_pl L f) H → va_D A (va_pl L f) → va_S A s.heap H locs → W p l e R s m args below meth c H locs cells slots Q (F0 m pc ls st)
theorem zM.of {l : Launch} {D : va_G} {G : Nat → ClassId} {y : MethodName} {cc : ByteArray} {maxL : Nat} {ret : Option FieldType} {rm : Room} {av : List Value} {L : List Nat} {f : Nat → va_E} {Qc : Option Value → List Nat → (Nat → va_E) → Prop} (hy : plainName y.cls = true) (hlen : (lg_sl av).length ≤ maxL) (hcat : (lv_args 0 av).all (fun q => q.2.category == 1) = true)
    (body : ∀ (p : Program) (e : Env) (s : State) (m : MethodId) (args : Array Value) (below : List Frame) (meth : Method) (c : Code) (A : Nat → Prop), zX p s m args meth c D G A cc y.cls maxL → meth.sig.returnType = ret → meth.name = y.name → zG p l e rm s m args below meth c D A maxL 0 0 (MQ below (zE D A Qc) args s rm.cells rm.slots A) 0 (lv_args 0 av) [] L f) :
    zM l D G y (.code y cc maxL ret :: BG) rm av L f Qc := by
  intro sz
  refine Met.ofW (cc := cc) (maxL := maxL) (ret := ret) hy rfl ?_
  intro p e s m args below meth c s₁ B hml hv
  obtain ⟨rfl, hsz, hP, hK, hD0⟩ := hv
  have hts := atoms_spec (ws := .code y cc maxL ret :: BG) B.pre
  subst hsz
  have hD := hD0.self (sz := s.heap.size)
  have hA : ∀ q : Nat, s.heap.size ≤ q → va_A (va_pl L f) s.heap.size q := fun q h => Or.inr h
  rw [lg_entry_eq]
  exact body p e s m av.toArray below meth c _ ⟨B.exec, B.bytes, hml, findClass_of_methodNamed B.named, fun w h => hts w (List.mem_cons_of_mem _ h), hK, hA, B.notSynchronized⟩ B.returns (name_of_methodNamed B.named B.method).1 s.heap [] _ (zL_entry hlen hcat) hP hD va_S.rf
section ZG
variable {p : Program} {l : Launch} {e : Env} {R : Room} {s : State} {m : MethodId} {args : Array Value} {below : List Frame} {meth : Method} {c : Code} {D : va_G} {G : Nat → ClassId} {A : Nat → Prop} {nL cells slots : Nat} {Q : State → Prop} {cc : ByteArray} {own : String}
variable {pc n t : Nat} {lv lv' : List (Nat × Value)} {st : List Value} {L : List Nat} {f : Nat → va_E}
/-- other words for the same locals -/
theorem k_loc (k : zG p l e R s m args below meth c D A nL cells slots Q pc lv' st L f) (hs : lv'.map (fun q => zg lv q.1) = lv'.map (fun q => some q.2)) : zG p l e R s m args below meth c D A nL cells slots Q pc lv st L f := fun H locs ls hl hP hD hS => k H locs ls (zL_sub hl hs) hP hD hS
theorem k_iconst (X : zX p s m args meth c D G A cc own nL) {z : Int} (hd : decode cc pc = .ok (.iconst z, 1)) (hn : pc + 1 = n) (k : zG p l e R s m args below meth c D A nL cells slots Q n lv (.int (zI z) :: st) L f) : zG p l e R s m args below meth c D A nL cells slots Q pc lv st L f := by
  subst hn; exact fun H locs ls hl hP hD hS => lv_iconst X.1 X.2.1 hd rfl (k H locs ls hl hP hD hS)
theorem k_bipush (X : zX p s m args meth c D G A cc own nL) {z : Int} (hd : decode cc pc = .ok (.bipush z, 2)) (hz : (Int8.ofInt z).toInt32 = zI z) (hn : pc + 2 = n) (k : zG p l e R s m args below meth c D A nL cells slots Q n lv (.int (zI z) :: st) L f) : zG p l e R s m args below meth c D A nL cells slots Q pc lv st L f := by
  subst hn; exact fun H locs ls hl hP hD hS => lv_bipush X.1 X.2.1 hd hz (k H locs ls hl hP hD hS)
theorem k_sipush (X : zX p s m args meth c D G A cc own nL) {z : Int} (hd : decode cc pc = .ok (.sipush z, 3)) (hz : (Int16.ofInt z).toInt32 = zI z) (hn : pc + 3 = n) (k : zG p l e R s m args below meth c D A nL cells slots Q n lv (.int (zI z) :: st) L f) : zG p l e R s m args below meth c D A nL cells slots Q pc lv st L f := by
  subst hn; exact fun H locs ls hl hP hD hS => lv_sipush X.1 X.2.1 hd hz (k H locs ls hl hP hD hS)
theorem k_iload_n (X : zX p s m args meth c D G A cc own nL) {k : Fin 4} {i : Nat} {x : Int32} (hd : decode cc pc = .ok (.iload_n k, 1)) (hi : (k : Nat) = i) (hg : zg lv i = some (.int x)) (hn : pc + 1 = n) (k : zG p l e R s m args below meth c D A nL cells slots Q n lv (.int x :: st) L f) : zG p l e R s m args below meth c D A nL cells slots Q pc lv st L f := by
  subst hn; exact fun H locs ls hl hP hD hS => lv_iload_n X.1 X.2.1 hd hi (zL_at hl hg) (k H locs ls hl hP hD hS)
theorem k_iload (X : zX p s m args meth c D G A cc own nL) {i : Nat} {x : Int32} (hd : decode cc pc = .ok (.iload i, 2)) (hg : zg lv i = some (.int x)) (hn : pc + 2 = n) (k : zG p l e R s m args below meth c D A nL cells slots Q n lv (.int x :: st) L f) : zG p l e R s m args below meth c D A nL cells slots Q pc lv st L f := by
  subst hn; exact fun H locs ls hl hP hD hS => lv_iload X.1 X.2.1 hd (zL_at hl hg) (k H locs ls hl hP hD hS)
theorem k_aload_n (X : zX p s m args meth c D G A cc own nL) {k : Fin 4} {i x : Nat} (hd : decode cc pc = .ok (.aload_n k, 1)) (hi : (k : Nat) = i) (hg : zg lv i = some (.ref x)) (hn : pc + 1 = n) (k : zG p l e R s m args below meth c D A nL cells slots Q n lv (.ref x :: st) L f) : zG p l e R s m args below meth c D A nL cells slots Q pc lv st L f := by
  subst hn; exact fun H locs ls hl hP hD hS => lv_aload_n X.1 X.2.1 hd hi (zL_at hl hg) (k H locs ls hl hP hD hS)
theorem k_aload (X : zX p s m args meth c D G A cc own nL) {i x : Nat} (hd : decode cc pc = .ok (.aload i, 2)) (hg : zg lv i = some (.ref x)) (hn : pc + 2 = n) (k : zG p l e R s m args below meth c D A nL cells slots Q n lv (.ref x :: st) L f) : zG p l e R s m args below meth c D A nL cells slots Q pc lv st L f := by
  subst hn; exact fun H locs ls hl hP hD hS => lv_aload X.1 X.2.1 hd (zL_at hl hg) (k H locs ls hl hP hD hS)
theorem k_istore_n (X : zX p s m args meth c D G A cc own nL) {k : Fin 4} {i : Nat} {x : Int32} (hd : decode cc pc = .ok (.istore_n k, 1)) (hi : (k : Nat) = i) (hL : i < nL) (hn : pc + 1 = n) (k : zG p l e R s m args below meth c D A nL cells slots Q n ((i, .int x) :: lv) st L f) : zG p l e R s m args below meth c D A nL cells slots Q pc lv (.int x :: st) L f := by
  subst hn; exact fun H locs ls hl hP hD hS => lv_istore_n X.1 X.2.1 hd hi (zL_has hl) hL rfl (fun ls' h' => k H locs ls' (zL_put hl rfl h') hP hD hS)
theorem k_istore (X : zX p s m args meth c D G A cc own nL) {i : Nat} {x : Int32} (hd : decode cc pc = .ok (.istore i, 2)) (hL : i < nL) (hn : pc + 2 = n) (k : zG p l e R s m args below meth c D A nL cells slots Q n ((i, .int x) :: lv) st L f) : zG p l e R s m args below meth c D A nL cells slots Q pc lv (.int x :: st) L f := by
  subst hn; exact fun H locs ls hl hP hD hS => lv_istore X.1 X.2.1 hd (zL_has hl) hL rfl (fun ls' h' => k H locs ls' (zL_put hl rfl h') hP hD hS)
theorem k_astore_n (X : zX p s m args meth c D G A cc own nL) {k : Fin 4} {i x : Nat} (hd : decode cc pc = .ok (.astore_n k, 1)) (hi : (k : Nat) = i) (hL : i < nL) (hn : pc + 1 = n) (k : zG p l e R s m args below meth c D A nL cells slots Q n ((i, .ref x) :: lv) st L f) : zG p l e R s m args below meth c D A nL cells slots Q pc lv (.ref x :: st) L f := by
  subst hn; exact fun H locs ls hl hP hD hS => lv_astore_n X.1 X.2.1 hd hi (zL_has hl) hL rfl (fun ls' h' => k H locs ls' (zL_put hl rfl h') hP hD hS)
theorem k_astore (X : zX p s m args meth c D G A cc own nL) {i x : Nat} (hd : decode cc pc = .ok (.astore i, 2)) (hL : i < nL) (hn : pc + 2 = n) (k : zG p l e R s m args below meth c D A nL cells slots Q n ((i, .ref x) :: lv) st L f) : zG p l e R s m args below meth c D A nL cells slots Q pc lv (.ref x :: st) L f := by
  subst hn; exact fun H locs ls hl hP hD hS => lv_astore X.1 X.2.1 hd (zL_has hl) hL rfl (fun ls' h' => k H locs ls' (zL_put hl rfl h') hP hD hS)
theorem k_iinc (X : zX p s m args meth c D G A cc own nL) {i : Nat} {z w : Int} (hd : decode cc pc = .ok (.iinc i w, 3)) (hg : zg lv i = some (.int (zI z))) (hL : i < nL) (hn : pc + 3 = n) (k : zG p l e R s m args below meth c D A nL cells slots Q n ((i, .int (zI (z + w))) :: lv) st L f) : zG p l e R s m args below meth c D A nL cells slots Q pc lv st L f := by
  subst hn
  intro H locs ls hl hP hD hS
  obtain ⟨q, hq⟩ := List.getElem?_of_mem (zd_mem.mpr hg)
  exact lv_iinc X.1 X.2.1 hd (zL_has hl) hq (zI_add z w) hL rfl (fun ls' h' => k H locs ls' (zL_put hl rfl h') hP hD hS)
theorem k_iadd (X : zX p s m args meth c D G A cc own nL) {a b : Int} (hd : decode cc pc = .ok (.iadd, 1)) (hn : pc + 1 = n) (k : zG p l e R s m args below meth c D A nL cells slots Q n lv (.int (zI (a + b)) :: st) L f) : zG p l e R s m args below meth c D A nL cells slots Q pc lv (.int (zI b) :: .int (zI a) :: st) L f := by
  subst hn; exact fun H locs ls hl hP hD hS => lv_iadd X.1 X.2.1 hd (by rw [zI_add]; exact k H locs ls hl hP hD hS)
theorem k_isub (X : zX p s m args meth c D G A cc own nL) {a b : Int} (hd : decode cc pc = .ok (.isub, 1)) (hn : pc + 1 = n) (k : zG p l e R s m args below meth c D A nL cells slots Q n lv (.int (zI (a - b)) :: st) L f) : zG p l e R s m args below meth c D A nL cells slots Q pc lv (.int (zI b) :: .int (zI a) :: st) L f := by
  subst hn; exact fun H locs ls hl hP hD hS => lv_isub X.1 X.2.1 hd (by rw [zI_sub]; exact k H locs ls hl hP hD hS)
theorem k_imul (X : zX p s m args meth c D G A cc own nL) {a b : Int} (hd : decode cc pc = .ok (.imul, 1)) (hn : pc + 1 = n) (k : zG p l e R s m args below meth c D A nL cells slots Q n lv (.int (zI (a * b)) :: st) L f) : zG p l e R s m args below meth c D A nL cells slots Q pc lv (.int (zI b) :: .int (zI a) :: st) L f := by
  subst hn; exact fun H locs ls hl hP hD hS => lv_imul X.1 X.2.1 hd (by rw [zI_mul]; exact k H locs ls hl hP hD hS)
theorem k_ineg (X : zX p s m args meth c D G A cc own nL) {a : Int} (hd : decode cc pc = .ok (.ineg, 1)) (hn : pc + 1 = n) (k : zG p l e R s m args below meth c D A nL cells slots Q n lv (.int (zI (-a)) :: st) L f) : zG p l e R s m args below meth c D A nL cells slots Q pc lv (.int (zI a) :: st) L f := by
  subst hn; exact fun H locs ls hl hP hD hS => lv_ineg X.1 X.2.1 hd (by rw [zI_neg]; exact k H locs ls hl hP hD hS)
theorem k_dup (X : zX p s m args meth c D G A cc own nL) {v : Value} (hd : decode cc pc = .ok (.dup, 1)) (hv : v.category = 1) (hn : pc + 1 = n) (k : zG p l e R s m args below meth c D A nL cells slots Q n lv (v :: v :: st) L f) : zG p l e R s m args below meth c D A nL cells slots Q pc lv (v :: st) L f := by
  subst hn; exact fun H locs ls hl hP hD hS => lv_dup X.1 X.2.1 hd hv (k H locs ls hl hP hD hS)
theorem k_pop (X : zX p s m args meth c D G A cc own nL) {v : Value} (hd : decode cc pc = .ok (.pop, 1)) (hv : v.category = 1) (hn : pc + 1 = n) (k : zG p l e R s m args below meth c D A nL cells slots Q n lv st L f) : zG p l e R s m args below meth c D A nL cells slots Q pc lv (v :: st) L f := by
  subst hn; exact fun H locs ls hl hP hD hS => lv_pop X.1 X.2.1 hd hv (k H locs ls hl hP hD hS)
theorem k_dup2 (X : zX p s m args meth c D G A cc own nL) {v w : Value} (hd : decode cc pc = .ok (.dup2, 1)) (hv : v.category = 1) (hw : w.category = 1) (hn : pc + 1 = n) (k : zG p l e R s m args below meth c D A nL cells slots Q n lv (v :: w :: v :: w :: st) L f) : zG p l e R s m args below meth c D A nL cells slots Q pc lv (v :: w :: st) L f := by
  subst hn; exact fun H locs ls hl hP hD hS => lv_dup2_11 X.1 X.2.1 hd hv hw (k H locs ls hl hP hD hS)
theorem k_goto (X : zX p s m args meth c D G A cc own nL) {off : Int} (hd : decode cc pc = .ok (.goto off, 3)) (ht : (pc : Int) + off = (t : Int)) (k : zG p l e R s m args below meth c D A nL cells slots Q t lv st L f) : zG p l e R s m args below meth c D A nL cells slots Q pc lv st L f :=
  fun H locs ls hl hP hD hS => lv_goto X.1 X.2.1 hd ht (k H locs ls hl hP hD hS)
theorem k_if_eq (X : zX p s m args meth c D G A cc own nL) {a off : Int} (hd : decode cc pc = .ok (.ifCond .eq off, 3)) (ht : (pc : Int) + off = (t : Int)) (hn : pc + 3 = n) (ha : zO a) (kt : a = 0 → zG p l e R s m args below meth c D A nL cells slots Q t lv st L f) (kf : ¬ (a = 0) → zG p l e R s m args below meth c D A nL cells slots Q n lv st L f) : zG p l e R s m args below meth c D A nL cells slots Q pc lv (.int (zI a) :: st) L f := by
  subst hn
  have i := zI_eq ha zO_0
  rw [zI_0] at i
  exact fun H locs ls hl hP hD hS => lv_if_eq X.1 X.2.1 hd ht (fun h => kt (i.mp h) H locs ls hl hP hD hS) (fun h => kf (fun q => h (i.mpr q)) H locs ls hl hP hD hS)
theorem k_if_ne (X : zX p s m args meth c D G A cc own nL) {a off : Int} (hd : decode cc pc = .ok (.ifCond .ne off, 3)) (ht : (pc : Int) + off = (t : Int)) (hn : pc + 3 = n) (ha : zO a) (kt : ¬ a = 0 → zG p l e R s m args below meth c D A nL cells slots Q t lv st L f) (kf : a = 0 → zG p l e R s m args below meth c D A nL cells slots Q n lv st L f) : zG p l e R s m args below meth c D A nL cells slots Q pc lv (.int (zI a) :: st) L f := by
  subst hn
  have i := zI_eq ha zO_0
  rw [zI_0] at i
  exact fun H locs ls hl hP hD hS => lv_if_ne X.1 X.2.1 hd ht (fun h => kt (fun q => h (i.mpr q)) H locs ls hl hP hD hS) (fun h => kf (i.mp h) H locs ls hl hP hD hS)
theorem k_if_lt (X : zX p s m args meth c D G A cc own nL) {a off : Int} (hd : decode cc pc = .ok (.ifCond .lt off, 3)) (ht : (pc : Int) + off = (t : Int)) (hn : pc + 3 = n) (ha : zO a) (kt : a < 0 → zG p l e R s m args below meth c D A nL cells slots Q t lv st L f) (kf : ¬ (a < 0) → zG p l e R s m args below meth c D A nL cells slots Q n lv st L f) : zG p l e R s m args below meth c D A nL cells slots Q pc lv (.int (zI a) :: st) L f := by
  subst hn
  have i := zI_lt ha zO_0
  rw [zI_0] at i
  exact fun H locs ls hl hP hD hS => lv_if_lt X.1 X.2.1 hd ht (fun h => kt (i.mp h) H locs ls hl hP hD hS) (fun h => kf (fun q => h (i.mpr q)) H locs ls hl hP hD hS)
theorem k_if_ge (X : zX p s m args meth c D G A cc own nL) {a off : Int} (hd : decode cc pc = .ok (.ifCond .ge off, 3)) (ht : (pc : Int) + off = (t : Int)) (hn : pc + 3 = n) (ha : zO a) (kt : 0 ≤ a → zG p l e R s m args below meth c D A nL cells slots Q t lv st L f) (kf : ¬ (0 ≤ a) → zG p l e R s m args below meth c D A nL cells slots Q n lv st L f) : zG p l e R s m args below meth c D A nL cells slots Q pc lv (.int (zI a) :: st) L f := by
  subst hn
  have i := zI_le zO_0 ha
  rw [zI_0] at i
  exact fun H locs ls hl hP hD hS => lv_if_ge X.1 X.2.1 hd ht (fun h => kt (i.mp h) H locs ls hl hP hD hS) (fun h => kf (fun q => h (i.mpr q)) H locs ls hl hP hD hS)
theorem k_if_gt (X : zX p s m args meth c D G A cc own nL) {a off : Int} (hd : decode cc pc = .ok (.ifCond .gt off, 3)) (ht : (pc : Int) + off = (t : Int)) (hn : pc + 3 = n) (ha : zO a) (kt : 0 < a → zG p l e R s m args below meth c D A nL cells slots Q t lv st L f) (kf : ¬ (0 < a) → zG p l e R s m args below meth c D A nL cells slots Q n lv st L f) : zG p l e R s m args below meth c D A nL cells slots Q pc lv (.int (zI a) :: st) L f := by
  subst hn
  have i := zI_lt zO_0 ha
  rw [zI_0] at i
  exact fun H locs ls hl hP hD hS => lv_if_gt X.1 X.2.1 hd ht (fun h => kt (i.mp h) H locs ls hl hP hD hS) (fun h => kf (fun q => h (i.mpr q)) H locs ls hl hP hD hS)
theorem k_if_le (X : zX p s m args meth c D G A cc own nL) {a off : Int} (hd : decode cc pc = .ok (.ifCond .le off, 3)) (ht : (pc : Int) + off = (t : Int)) (hn : pc + 3 = n) (ha : zO a) (kt : a ≤ 0 → zG p l e R s m args below meth c D A nL cells slots Q t lv st L f) (kf : ¬ (a ≤ 0) → zG p l e R s m args below meth c D A nL cells slots Q n lv st L f) : zG p l e R s m args below meth c D A nL cells slots Q pc lv (.int (zI a) :: st) L f := by
  subst hn
  have i := zI_le ha zO_0
  rw [zI_0] at i
  exact fun H locs ls hl hP hD hS => lv_if_le X.1 X.2.1 hd ht (fun h => kt (i.mp h) H locs ls hl hP hD hS) (fun h => kf (fun q => h (i.mpr q)) H locs ls hl hP hD hS)
theorem k_icmp_eq (X : zX p s m args meth c D G A cc own nL) {a b off : Int} (hd : decode cc pc = .ok (.if_icmp .eq off, 3)) (ht : (pc : Int) + off = (t : Int)) (hn : pc + 3 = n) (ha : zO a) (hb : zO b) (kt : a = b → zG p l e R s m args below meth c D A nL cells slots Q t lv st L f) (kf : ¬ (a = b) → zG p l e R s m args below meth c D A nL cells slots Q n lv st L f) : zG p l e R s m args below meth c D A nL cells slots Q pc lv (.int (zI b) :: .int (zI a) :: st) L f := by
  subst hn
  have i := zI_eq ha hb
  exact fun H locs ls hl hP hD hS => lv_icmp_eq X.1 X.2.1 hd ht (fun h => kt (i.mp h) H locs ls hl hP hD hS) (fun h => kf (fun q => h (i.mpr q)) H locs ls hl hP hD hS)
theorem k_icmp_ne (X : zX p s m args meth c D G A cc own nL) {a b off : Int} (hd : decode cc pc = .ok (.if_icmp .ne off, 3)) (ht : (pc : Int) + off = (t : Int)) (hn : pc + 3 = n) (ha : zO a) (hb : zO b) (kt : ¬ a = b → zG p l e R s m args below meth c D A nL cells slots Q t lv st L f) (kf : a = b → zG p l e R s m args below meth c D A nL cells slots Q n lv st L f) : zG p l e R s m args below meth c D A nL cells slots Q pc lv (.int (zI b) :: .int (zI a) :: st) L f := by
  subst hn
  have i := zI_eq ha hb
  exact fun H locs ls hl hP hD hS => lv_icmp_ne X.1 X.2.1 hd ht (fun h => kt (fun q => h (i.mpr q)) H locs ls hl hP hD hS) (fun h => kf (i.mp h) H locs ls hl hP hD hS)
theorem k_icmp_lt (X : zX p s m args meth c D G A cc own nL) {a b off : Int} (hd : decode cc pc = .ok (.if_icmp .lt off, 3)) (ht : (pc : Int) + off = (t : Int)) (hn : pc + 3 = n) (ha : zO a) (hb : zO b) (kt : a < b → zG p l e R s m args below meth c D A nL cells slots Q t lv st L f) (kf : ¬ (a < b) → zG p l e R s m args below meth c D A nL cells slots Q n lv st L f) : zG p l e R s m args below meth c D A nL cells slots Q pc lv (.int (zI b) :: .int (zI a) :: st) L f := by
  subst hn
  have i := zI_lt ha hb
  exact fun H locs ls hl hP hD hS => lv_icmp_lt X.1 X.2.1 hd ht (fun h => kt (i.mp h) H locs ls hl hP hD hS) (fun h => kf (fun q => h (i.mpr q)) H locs ls hl hP hD hS)
theorem k_icmp_ge (X : zX p s m args meth c D G A cc own nL) {a b off : Int} (hd : decode cc pc = .ok (.if_icmp .ge off, 3)) (ht : (pc : Int) + off = (t : Int)) (hn : pc + 3 = n) (ha : zO a) (hb : zO b) (kt : b ≤ a → zG p l e R s m args below meth c D A nL cells slots Q t lv st L f) (kf : ¬ (b ≤ a) → zG p l e R s m args below meth c D A nL cells slots Q n lv st L f) : zG p l e R s m args below meth c D A nL cells slots Q pc lv (.int (zI b) :: .int (zI a) :: st) L f := by
  subst hn
  have i := zI_le hb ha
  exact fun H locs ls hl hP hD hS => lv_icmp_ge X.1 X.2.1 hd ht (fun h => kt (i.mp h) H locs ls hl hP hD hS) (fun h => kf (fun q => h (i.mpr q)) H locs ls hl hP hD hS)
theorem k_icmp_gt (X : zX p s m args meth c D G A cc own nL) {a b off : Int} (hd : decode cc pc = .ok (.if_icmp .gt off, 3)) (ht : (pc : Int) + off = (t : Int)) (hn : pc + 3 = n) (ha : zO a) (hb : zO b) (kt : b < a → zG p l e R s m args below meth c D A nL cells slots Q t lv st L f) (kf : ¬ (b < a) → zG p l e R s m args below meth c D A nL cells slots Q n lv st L f) : zG p l e R s m args below meth c D A nL cells slots Q pc lv (.int (zI b) :: .int (zI a) :: st) L f := by
  subst hn
  have i := zI_lt hb ha
  exact fun H locs ls hl hP hD hS => lv_icmp_gt X.1 X.2.1 hd ht (fun h => kt (i.mp h) H locs ls hl hP hD hS) (fun h => kf (fun q => h (i.mpr q)) H locs ls hl hP hD hS)
theorem k_icmp_le (X : zX p s m args meth c D G A cc own nL) {a b off : Int} (hd : decode cc pc = .ok (.if_icmp .le off, 3)) (ht : (pc : Int) + off = (t : Int)) (hn : pc + 3 = n) (ha : zO a) (hb : zO b) (kt : a ≤ b → zG p l e R s m args below meth c D A nL cells slots Q t lv st L f) (kf : ¬ (a ≤ b) → zG p l e R s m args below meth c D A nL cells slots Q n lv st L f) : zG p l e R s m args below meth c D A nL cells slots Q pc lv (.int (zI b) :: .int (zI a) :: st) L f := by
  subst hn
  have i := zI_le ha hb
  exact fun H locs ls hl hP hD hS => lv_icmp_le X.1 X.2.1 hd ht (fun h => kt (i.mp h) H locs ls hl hP hD hS) (fun h => kf (fun q => h (i.mpr q)) H locs ls hl hP hD hS)
-- cells
theorem pl_at {a : Nat} {E : va_E} (ha : a ∈ L) (hf : f a = E) : ∃ q : Nat, (va_pl L f)[q]? = some (a, E) := by
  obtain ⟨q, hq⟩ := va_pl_get (X := []) (f := f) ha
  exact ⟨q, by rw [← hf]; exact hq⟩
theorem pl_set {a q : Nat} {E E' : va_E} (hD : va_D A (va_pl L f)) (ha : a ∈ L) (hf : f a = E) (hq : (va_pl L f)[q]? = some (a, E)) : (va_pl L f).set q (a, E') = va_pl L (va_up f a E') :=
  va_pl_set (X := []) hD ha (by rw [hf]; exact hq)
theorem k_get (X : zX p s m args meth c D G A cc own nL) {C : String} {T : u_T} {N ci index : Nat} (hin : ∀ w ∈ u_ws C T N, w ∈ BG) (hc : zc[ci]? = some (C, T, N)) {a : Nat} {fs : List Value} {v : Value} (k : Nat) (hk : k < N) (hw : Cond.fieldLink own index C (T k).2.1 (T k).2.2.1 ∈ BG) (hsame : (T k).1 = C) (hd : decode cc pc = .ok (.getfield index, 3)) (hn : pc + 3 = n) (ha : a ∈ L) (hf : f a = .inr (ci, fs)) (hv : fs[k]? = some v) (kk : zG p l e R s m args below meth c D A nL cells slots Q n lv (v :: st) L f) : zG p l e R s m args below meth c D A nL cells slots Q pc lv (.ref a :: st) L f := by
  subst hn
  intro H locs ls hl hP hD hS
  obtain ⟨q, hq⟩ := pl_at ha hf
  exact va_get (D := D) (ci := ci) (v := v) (C := C) (T := T) (N := N) X.1 X.2.1 X.2.2.2.2.1 hin X.2.2.2.1 X.2.2.2.2.2.1 hP q hq hc k hk (X.2.2.2.2.1 _ hw) (fun x h => by rw [hsame] at h; exact h) hv hd (kk H locs ls hl hP hD hS)
theorem k_put (X : zX p s m args meth c D G A cc own nL) {C : String} {T : u_T} {N ci index : Nat} (hin : ∀ w ∈ u_ws C T N, w ∈ BG) {ty0 : Nat → FieldType} (hty : ∀ k, k < N → parseFieldDescriptor (T k).2.2.1 = some (ty0 k)) (hnm : ∀ a, a < N → ∀ b, b < N → a ≠ b → (T a).2.1 ≠ (T b).2.1) (hc : zc[ci]? = some (C, T, N)) {a : Nat} {fs : List Value} {v : Value} (k : Nat) (hk : k < N) (hw : Cond.fieldLink own index C (T k).2.1 (T k).2.2.1 ∈ BG) (hsame : (T k).1 = C) (hfin : (T k).2.2.2 = false) (hnar : narrow (ty0 k) v = v) (hfit : fits (ty0 k) v = true) (hd : decode cc pc = .ok (.putfield index, 3)) (hn : pc + 3 = n) (ha : a ∈ L) (hf : f a = .inr (ci, fs)) (hl : k < fs.length) (kk : zG p l e R s m args below meth c D A nL cells slots Q n lv st L (va_up f a (.inr (ci, fs.set k v)))) : zG p l e R s m args below meth c D A nL cells slots Q pc lv (v :: .ref a :: st) L f := by
  subst hn
  intro H locs ls hl' hP hD hS
  obtain ⟨q, hq⟩ := pl_at ha hf
  exact va_put (D := D) (ci := ci) (v := v) (ty := ty0 k) (C := C) (T := T) (N := N) X.1 X.2.1 X.2.2.2.2.1 hin ty0 hty hnm X.2.2.2.1 X.2.2.2.2.2.1 hP hD hS q hq hc k hk (X.2.2.2.2.1 _ hw) (fun x h => by rw [hsame] at h; exact h) hfin (hty k hk) hnar hfit hl hd (fun H1 locs1 hP1 hD1 hS1 => kk H1 locs1 ls hl' (by rw [← pl_set hD ha hf hq]; exact hP1) (by rw [← pl_set hD ha hf hq]; exact hD1) hS1)
theorem k_iald (X : zX p s m args meth c D G A cc own nL) {a N : Nat} {Y : Int → Int} {z : Int} (hd : decode cc pc = .ok (.iaload, 1)) (hn : pc + 1 = n) (ha : a ∈ L) (hf : f a = zr G N Y) (h0 : 0 ≤ z) (h1 : z < N) (hN : N < 2 ^ 31) (kk : zG p l e R s m args below meth c D A nL cells slots Q n lv (.int (zI (Y z)) :: st) L f) : zG p l e R s m args below meth c D A nL cells slots Q pc lv (.int (zI z) :: .ref a :: st) L f := by
  subst hn
  intro H locs ls hl hP hD hS
  obtain ⟨q, hq⟩ := pl_at ha hf
  refine va_iald X.1 X.2.1 X.2.2.2.2.2.1 hP q 0 hq rfl (zI_in h0 h1 hN) hd ?_
  rw [zI_cl h0 h1 hN, show ((z.toNat : Nat) : Int) = z from Int.toNat_of_nonneg h0]
  exact kk H locs ls hl hP hD hS
theorem k_iast (X : zX p s m args meth c D G A cc own nL) {a N : Nat} {Y : Int → Int} {z v : Int} (hd : decode cc pc = .ok (.iastore, 1)) (hn : pc + 1 = n) (ha : a ∈ L) (hf : f a = zr G N Y) (h0 : 0 ≤ z) (h1 : z < N) (hN : N < 2 ^ 31) (kk : zG p l e R s m args below meth c D A nL cells slots Q n lv st L (va_up f a (zr G N (iu Y z v)))) : zG p l e R s m args below meth c D A nL cells slots Q pc lv (.int (zI v) :: .int (zI z) :: .ref a :: st) L f := by
  subst hn
  intro H locs ls hl hP hD hS
  obtain ⟨q, hq⟩ := pl_at ha hf
  refine va_iast X.1 X.2.1 X.2.2.2.2.2.1 hP hD hS q 0 hq rfl (zI_in h0 h1 hN) hd (fun H1 locs1 hP1 hD1 hS1 => ?_)
  rw [zI_cl h0 h1 hN, zr_up Y z v h0] at hP1 hD1
  exact kk H1 locs1 ls hl (by rw [← pl_set hD ha hf hq]; exact hP1) (by rw [← pl_set hD ha hf hq]; exact hD1) hS1
theorem k_aald (X : zX p s m args meth c D G A cc own nL) {a N g : Nat} {C : String} {Y : Int → Nat} {z : Int} (hd : decode cc pc = .ok (.aaload, 1)) (hn : pc + 1 = n) (ha : a ∈ L) (hf : f a = zq G g N Y) (hg : (zt G)[g]? = some (G g, .object C)) (h0 : 0 ≤ z) (h1 : z < N) (hN : N < 2 ^ 31) (kk : zG p l e R s m args below meth c D A nL cells slots Q n lv (.ref (Y z) :: st) L f) : zG p l e R s m args below meth c D A nL cells slots Q pc lv (.int (zI z) :: .ref a :: st) L f := by
  subst hn
  intro H locs ls hl hP hD hS
  obtain ⟨q, hq⟩ := pl_at ha hf
  refine va_aldq X.1 X.2.1 X.2.2.2.2.2.1 hP q g hq hg (zI_in h0 h1 hN) hd ?_
  rw [zI_cl h0 h1 hN, show ((z.toNat : Nat) : Int) = z from Int.toNat_of_nonneg h0]
  exact kk H locs ls hl hP hD hS
-- ends
theorem k_iret (X : zX p s m args meth c D G A cc own nL) {Qc : Option Value → List Nat → (Nat → va_E) → Prop} {mc ms : Nat} {ty : FieldType} {v : Int32} (hd : decode cc pc = .ok (.ireturn, 1)) (hr : meth.sig.returnType = some ty) (hnar : narrow ty (.int v) = .int v) (h1 : cells ≤ mc) (h2 : slots ≤ ms) (hq : Qc (some (.int v)) L f) : zG p l e R s m args below meth c D A nL cells slots (MQ below (zE D A Qc) args s mc ms A) pc lv [.int v] L f := by
  intro H locs ls hl hP hD hS
  refine W.widen h1 h2 ?_
  exact W.zret (hlocks := X.2.2.2.2.2.2.2) X.1 X.2.1 hr hnar (fun t ht _ => ⟨⟨_, L, f, rfl, hq, by rw [ht]; exact hP, hD⟩, hS.F ht⟩) hS.2.2 hd
theorem k_vret (X : zX p s m args meth c D G A cc own nL) {Qc : Option Value → List Nat → (Nat → va_E) → Prop} {mc ms : Nat} (hd : decode cc pc = .ok (.return_, 1)) (hr : meth.sig.returnType = none) (h1 : cells ≤ mc) (h2 : slots ≤ ms) (hq : Qc none L f) : zG p l e R s m args below meth c D A nL cells slots (MQ below (zE D A Qc) args s mc ms A) pc lv [] L f := by
  intro H locs ls hl hP hD hS
  refine W.widen h1 h2 ?_
  exact W.vret (hlocks := X.2.2.2.2.2.2.2) X.1 X.2.1 hr (fun t ht _ => ⟨⟨_, L, f, rfl, hq, by rw [ht]; exact hP, hD⟩, hS.F ht⟩) hS.2.2 hd
theorem k_aret (X : zX p s m args meth c D G A cc own nL) {Qc : Option Value → List Nat → (Nat → va_E) → Prop} {mc ms : Nat} {C : String} {a : Nat} (hd : decode cc pc = .ok (.areturn, 1)) (hr : meth.sig.returnType = some (.object C)) (h1 : cells ≤ mc) (h2 : slots ≤ ms) (hq : Qc (some (.ref a)) L f) : zG p l e R s m args below meth c D A nL cells slots (MQ below (zE D A Qc) args s mc ms A) pc lv [.ref a] L f := by
  intro H locs ls hl hP hD hS
  refine W.widen h1 h2 ?_
  exact W.aret (hlocks := X.2.2.2.2.2.2.2) X.1 X.2.1 hr (Or.inl ⟨C, rfl⟩) (Or.inr ⟨a, rfl⟩) (fun t ht _ => ⟨⟨_, L, f, rfl, hq, by rw [ht]; exact hP, hD⟩, hS.F ht⟩) hS.2.2 hd
-- calls
theorem zM_blind {av : List Value} {sz : Nat} : FrameBlind (va_Pc av (zW D G L f sz)) := fun a U g mk q => by
  obtain ⟨q0, q1, qP, qK, qD⟩ := q
  exact ⟨q0, q1, qP, va_K.moved (u := U) (U := U.calling g mk a) (Vm.Alike.refl U.vm) qK, qD⟩
theorem zA_sub {H : Heap} {locs : List Loc} (hD : va_D A (va_pl L f)) (hS : va_S A s.heap H locs) (hA : ∀ q, s.heap.size ≤ q → A q) : ∀ q, va_A (va_pl L f) H.size q → A q := by
  intro q h
  rcases h with ⟨k, e, h⟩ | h
  · exact hD.2 k (q, e) h
  · exact hA q (Nat.le_trans hS.1 h)
theorem k_ran (X : zX p s m args meth c D G A cc own nL) {Qc : Option Value → List Nat → (Nat → va_E) → Prop} {mc ms : Nat} {st0 : List Value} {av : Array Value} (hn : pc + 3 = n)
    (hr : ∀ (H : Heap) (locs : List Loc) (ls : Array Slot), ls.size = nL → va_P D zc (va_pl L f) H → va_D A (va_pl L f) → va_Run p l e R s m args below meth c H locs cells slots mc ms (F0 m pc ls st0) st (zE D (va_A (va_pl L f) H.size) Qc av) (va_A (va_pl L f) H.size))
    (kk : ∀ (v : Option Value) (L1 : List Nat) (f1 : Nat → va_E), Qc v L1 f1 → zG p l e R s m args below meth c D A nL (cells + mc) (slots + ms) Q n lv (v.toList ++ st) L1 f1) : zG p l e R s m args below meth c D A nL cells slots Q pc lv st0 L f := by
  subst hn
  intro H locs ls hl hP hD hS T hT X'
  have hF := zA_sub hD hS X.2.2.2.2.2.2.1
  obtain ⟨v, st₀, t, T', Lc, h0, X2, hL, e1, e2, ⟨⟨v', L1, f1, hv, hq, hP1, hD1⟩, hz, hk⟩, hst⟩ := hr H locs ls hl.1 hP hD T hT X'
  cases hv
  have hS1 : va_S A s.heap t.heap (locs ++ Lc) := by
    refine ⟨Nat.le_trans hS.1 (by rw [← h0]; exact hz), fun q hq1 hq2 => ?_, fun q hq1 => ?_⟩
    · rw [hk q (by rw [h0]; exact Nat.lt_of_lt_of_le hq1 hS.1) (fun h => hq2 (hF q h)), h0]
      exact hS.2.1 q hq1 hq2
    · rcases List.mem_append.mp hq1 with h | h
      · exact hS.2.2 q h
      · exact hF _ (hL q h)
  obtain ⟨t2, a1, b1⟩ := kk v L1 f1 hq t.heap (locs ++ Lc) ls hl hP1 (hD1.weaken (fun _ q _ h => hF q.1 h)) hS1 T' e1 X2
  exact ⟨t2, hst t2 a1, b1⟩
theorem k_callV (X : zX p s m args meth c D G A cc own nL) {Qc : Option Value → List Nat → (Nat → va_E) → Prop} {C : String} {T : u_T} {N ci index maxL na b : Nat} {y : MethodName} {bytes : ByteArray} {ret : Option FieldType} {rm : Room} {As st0 : List Value} {fs : List Value}
    (hM : zM l D G y (.code y bytes maxL ret :: BG) rm (.ref b :: As) L f Qc) (hb : b ∈ L) (hfb : f b = .inr (ci, fs)) (hc : zc[ci]? = some (C, T, N)) (w1 : Cond.code y bytes maxL ret ∈ BG) (w2 : Cond.methodLink own index y ∈ BG) (w3 : Cond.instanceMethod y ∈ BG) (w4 : Cond.selects C y y ∈ BG) (w5 : Cond.initialized C ∈ BG)
    (hy : y.cls = C ∧ y.cls ≠ "java/lang/invoke/MethodHandle" ∧ y.cls ≠ "java/lang/invoke/VarHandle" ∧ (parseMethodDescriptor y.desc).map (fun d => d.parameters.length) = some na) (hR : rm.frames + 1 ≤ R.frames ∧ 8 + (maxL + 11) + rm.locals ≤ R.locals) (hna : As.length = na) (hst : st0 = As.reverse ++ .ref b :: st) (hcat : (st.map fun v => v.category).sum ≤ 8) (hd : decode cc pc = .ok (.invokevirtual index, 3)) (hn : pc + 3 = n) (hf : cells + rm.cells ≤ R.cells ∧ slots + rm.slots ≤ R.slots)
    (kk : ∀ (v : Option Value) (L1 : List Nat) (f1 : Nat → va_E), Qc v L1 f1 → zG p l e R s m args below meth c D A nL (cells + rm.cells) (slots + rm.slots) Q n lv (v.toList ++ st) L1 f1) : zG p l e R s m args below meth c D A nL cells slots Q pc lv st0 L f := by
  refine k_ran X (mc := rm.cells) (ms := rm.slots) (av := (Value.ref b :: As).toArray) hn (fun H locs ls hls hP hD => ?_) kk
  obtain ⟨q, hq⟩ := pl_at hb hfb
  have hts := X.2.2.2.2.1
  have hg : GoodIn BG (wsV own index C y (.code y bytes maxL ret :: BG)) := fun w hw => by
    rcases List.mem_append.mp hw with hw | hw
    · simp only [List.mem_cons, List.not_mem_nil, or_false] at hw
      rcases hw with rfl | rfl | rfl | rfl
      · exact ⟨w2, bg_good w2⟩
      · exact ⟨w3, bg_good w3⟩
      · exact ⟨w4, bg_good w4⟩
      · exact ⟨w5, bg_good w5⟩
    · rcases List.mem_cons.mp hw with rfl | hw
      · exact ⟨w1, bg_good w1⟩
      · exact ⟨hw, bg_good hw⟩
  exact va_runV (As := As) (rest := st) ⟨X.1, X.2.1, X.2.2.1, X.2.2.2.1, hts⟩ (hM H.size) (cwV na hts hg rfl rfl rfl hy hR)
    ⟨zM_blind, va_recv X.2.2.2.2.2.1 hP hc hq, fun U hU hW => ⟨rfl, by rw [hU], by rw [hU]; exact hP, va_K.moved hW.alike X.2.2.2.2.2.1, hD.weaken (fun _ _ _ _ => trivial)⟩⟩ rfl hna hls hst (lv_room hcat) hd hf
theorem k_callS (X : zX p s m args meth c D G A cc own nL) {Qc : Option Value → List Nat → (Nat → va_E) → Prop} {index maxL na : Nat} {y : MethodName} {bytes : ByteArray} {ret : Option FieldType} {rm : Room} {As st0 : List Value}
    (hM : zM l D G y (.code y bytes maxL ret :: BG) rm As L f Qc) (w1 : Cond.code y bytes maxL ret ∈ BG) (w2 : Cond.methodLink own index y ∈ BG) (w3 : Cond.static y ∈ BG) (w5 : Cond.initialized y.cls ∈ BG)
    (hy : y.cls ≠ "java/lang/invoke/MethodHandle" ∧ y.cls ≠ "java/lang/invoke/VarHandle" ∧ (parseMethodDescriptor y.desc).map (fun d => d.parameters.length) = some na) (hR : rm.frames + 1 ≤ R.frames ∧ 8 + (maxL + 11) + rm.locals ≤ R.locals) (hna : As.length = na) (hst : st0 = As.reverse ++ st) (hcat : (st.map fun v => v.category).sum ≤ 8) (hd : decode cc pc = .ok (.invokestatic index, 3)) (hn : pc + 3 = n) (hf : cells + rm.cells ≤ R.cells ∧ slots + rm.slots ≤ R.slots)
    (kk : ∀ (v : Option Value) (L1 : List Nat) (f1 : Nat → va_E), Qc v L1 f1 → zG p l e R s m args below meth c D A nL (cells + rm.cells) (slots + rm.slots) Q n lv (v.toList ++ st) L1 f1) : zG p l e R s m args below meth c D A nL cells slots Q pc lv st0 L f := by
  refine k_ran X (mc := rm.cells) (ms := rm.slots) (av := As.toArray) hn (fun H locs ls hls hP hD => ?_) kk
  have hts := X.2.2.2.2.1
  have hg : GoodIn BG (va_wsS own index y (.code y bytes maxL ret :: BG)) := fun w hw => by
    rcases List.mem_append.mp hw with hw | hw
    · simp only [List.mem_cons, List.not_mem_nil, or_false] at hw
      rcases hw with rfl | rfl | rfl
      · exact ⟨w2, bg_good w2⟩
      · exact ⟨w3, bg_good w3⟩
      · exact ⟨w5, bg_good w5⟩
    · rcases List.mem_cons.mp hw with rfl | hw
      · exact ⟨w1, bg_good w1⟩
      · exact ⟨hw, bg_good hw⟩
  exact va_runS (As := As) (rest := st) ⟨X.1, X.2.1, X.2.2.1, X.2.2.2.1, hts⟩ (hM H.size) (va_cwS na hts hg rfl rfl rfl hy hR)
    ⟨zM_blind, fun U hU hW => ⟨rfl, by rw [hU], by rw [hU]; exact hP, va_K.moved hW.alike X.2.2.2.2.2.1, hD.weaken (fun _ _ _ _ => trivial)⟩⟩ rfl hna hls hst (lv_room hcat) hd hf
end ZG
/-- what a query's end says: an int answer, the pool as it was -/
def zA (L : List Nat) (f : Nat → va_E) (post : Int → Prop) : Option Value → List Nat → (Nat → va_E) → Prop := fun v L1 f1 => ∃ r : Int, v = some (.int (zI r)) ∧ post r ∧ L1 = L ∧ f1 = f
/-- yes or no -/
def zB (P : Prop) (r : Int) : Prop := (P ∧ r = 1) ∨ (¬ P ∧ r = 0)
abbrev zR0 (fr lo : Nat) : Room := { frames := fr, cells := 0, slots := 0, locals := lo }
section ZQ
variable {p : Program} {l : Launch} {e : Env} {R : Room} {s : State} {m : MethodId} {args : Array Value} {below : List Frame} {meth : Method} {c : Code} {D : va_G} {G : Nat → ClassId} {A : Nat → Prop} {nL cells slots : Nat} {Q : State → Prop} {cc : ByteArray} {own : String}
variable {pc n t : Nat} {lv lv' : List (Nat × Value)} {st : List Value} {L : List Nat} {f : Nat → va_E}
/-- a call that makes no cell -/
theorem k_wV (X : zX p s m args meth c D G A cc own nL) {Qc : Option Value → List Nat → (Nat → va_E) → Prop} {C : String} {T : u_T} {N ci index maxL na b fr lo : Nat} {y : MethodName} {bytes : ByteArray} {ret : Option FieldType} {As st0 : List Value} {fs : List Value}
    (hM : zM l D G y (.code y bytes maxL ret :: BG) (zR0 fr lo) (.ref b :: As) L f Qc) (hb : b ∈ L) (hfb : f b = .inr (ci, fs)) (hc : zc[ci]? = some (C, T, N)) (w1 : Cond.code y bytes maxL ret ∈ BG) (w2 : Cond.methodLink own index y ∈ BG) (w3 : Cond.instanceMethod y ∈ BG) (w4 : Cond.selects C y y ∈ BG) (w5 : Cond.initialized C ∈ BG)
    (hy : y.cls = C ∧ y.cls ≠ "java/lang/invoke/MethodHandle" ∧ y.cls ≠ "java/lang/invoke/VarHandle" ∧ (parseMethodDescriptor y.desc).map (fun d => d.parameters.length) = some na) (hR : fr + 1 ≤ R.frames ∧ 8 + (maxL + 11) + lo ≤ R.locals) (hna : As.length = na) (hst : st0 = As.reverse ++ .ref b :: st) (hcat : (st.map fun v => v.category).sum ≤ 8) (hd : decode cc pc = .ok (.invokevirtual index, 3)) (hn : pc + 3 = n) (hf : cells ≤ R.cells ∧ slots ≤ R.slots)
    (kk : ∀ (v : Option Value) (L1 : List Nat) (f1 : Nat → va_E), Qc v L1 f1 → zG p l e R s m args below meth c D A nL cells slots Q n lv (v.toList ++ st) L1 f1) : zG p l e R s m args below meth c D A nL cells slots Q pc lv st0 L f :=
  k_callV X hM hb hfb hc w1 w2 w3 w4 w5 hy hR hna hst hcat hd hn hf kk
theorem k_wS (X : zX p s m args meth c D G A cc own nL) {Qc : Option Value → List Nat → (Nat → va_E) → Prop} {index maxL na fr lo : Nat} {y : MethodName} {bytes : ByteArray} {ret : Option FieldType} {As st0 : List Value}
    (hM : zM l D G y (.code y bytes maxL ret :: BG) (zR0 fr lo) As L f Qc) (w1 : Cond.code y bytes maxL ret ∈ BG) (w2 : Cond.methodLink own index y ∈ BG) (w3 : Cond.static y ∈ BG) (w5 : Cond.initialized y.cls ∈ BG)
    (hy : y.cls ≠ "java/lang/invoke/MethodHandle" ∧ y.cls ≠ "java/lang/invoke/VarHandle" ∧ (parseMethodDescriptor y.desc).map (fun d => d.parameters.length) = some na) (hR : fr + 1 ≤ R.frames ∧ 8 + (maxL + 11) + lo ≤ R.locals) (hna : As.length = na) (hst : st0 = As.reverse ++ st) (hcat : (st.map fun v => v.category).sum ≤ 8) (hd : decode cc pc = .ok (.invokestatic index, 3)) (hn : pc + 3 = n) (hf : cells ≤ R.cells ∧ slots ≤ R.slots)
    (kk : ∀ (v : Option Value) (L1 : List Nat) (f1 : Nat → va_E), Qc v L1 f1 → zG p l e R s m args below meth c D A nL cells slots Q n lv (v.toList ++ st) L1 f1) : zG p l e R s m args below meth c D A nL cells slots Q pc lv st0 L f :=
  k_callS X hM w1 w2 w3 w5 hy hR hna hst hcat hd hn hf kk
/-- the call of a query -/
theorem k_qV (X : zX p s m args meth c D G A cc own nL) {post : Int → Prop} {C : String} {T : u_T} {N ci index maxL na b fr lo : Nat} {y : MethodName} {bytes : ByteArray} {ret : Option FieldType} {As st0 : List Value} {fs : List Value}
    (hM : zM l D G y (.code y bytes maxL ret :: BG) (zR0 fr lo) (.ref b :: As) L f (zA L f post)) (hb : b ∈ L) (hfb : f b = .inr (ci, fs)) (hc : zc[ci]? = some (C, T, N)) (w1 : Cond.code y bytes maxL ret ∈ BG) (w2 : Cond.methodLink own index y ∈ BG) (w3 : Cond.instanceMethod y ∈ BG) (w4 : Cond.selects C y y ∈ BG) (w5 : Cond.initialized C ∈ BG)
    (hy : y.cls = C ∧ y.cls ≠ "java/lang/invoke/MethodHandle" ∧ y.cls ≠ "java/lang/invoke/VarHandle" ∧ (parseMethodDescriptor y.desc).map (fun d => d.parameters.length) = some na) (hR : fr + 1 ≤ R.frames ∧ 8 + (maxL + 11) + lo ≤ R.locals) (hna : As.length = na) (hst : st0 = As.reverse ++ .ref b :: st) (hcat : (st.map fun v => v.category).sum ≤ 8) (hd : decode cc pc = .ok (.invokevirtual index, 3)) (hn : pc + 3 = n) (hf : cells ≤ R.cells ∧ slots ≤ R.slots)
    (kk : ∀ r : Int, post r → zG p l e R s m args below meth c D A nL cells slots Q n lv (.int (zI r) :: st) L f) : zG p l e R s m args below meth c D A nL cells slots Q pc lv st0 L f :=
  k_wV X hM hb hfb hc w1 w2 w3 w4 w5 hy hR hna hst hcat hd hn hf (fun v L1 f1 hq => by
    obtain ⟨r, rfl, hp, rfl, rfl⟩ := hq
    exact kk r hp)
theorem k_qS (X : zX p s m args meth c D G A cc own nL) {post : Int → Prop} {index maxL na fr lo : Nat} {y : MethodName} {bytes : ByteArray} {ret : Option FieldType} {As st0 : List Value}
    (hM : zM l D G y (.code y bytes maxL ret :: BG) (zR0 fr lo) As L f (zA L f post)) (w1 : Cond.code y bytes maxL ret ∈ BG) (w2 : Cond.methodLink own index y ∈ BG) (w3 : Cond.static y ∈ BG) (w5 : Cond.initialized y.cls ∈ BG)
    (hy : y.cls ≠ "java/lang/invoke/MethodHandle" ∧ y.cls ≠ "java/lang/invoke/VarHandle" ∧ (parseMethodDescriptor y.desc).map (fun d => d.parameters.length) = some na) (hR : fr + 1 ≤ R.frames ∧ 8 + (maxL + 11) + lo ≤ R.locals) (hna : As.length = na) (hst : st0 = As.reverse ++ st) (hcat : (st.map fun v => v.category).sum ≤ 8) (hd : decode cc pc = .ok (.invokestatic index, 3)) (hn : pc + 3 = n) (hf : cells ≤ R.cells ∧ slots ≤ R.slots)
    (kk : ∀ r : Int, post r → zG p l e R s m args below meth c D A nL cells slots Q n lv (.int (zI r) :: st) L f) : zG p l e R s m args below meth c D A nL cells slots Q pc lv st0 L f :=
  k_wS X hM w1 w2 w3 w5 hy hR hna hst hcat hd hn hf (fun v L1 f1 hq => by
    obtain ⟨r, rfl, hp, rfl, rfl⟩ := hq
    exact kk r hp)
/-- a number gets a name -/
theorem k_top {a : Int} (k : ∀ x, x = a → zG p l e R s m args below meth c D A nL cells slots Q pc lv (.int (zI x) :: st) L f) : zG p l e R s m args below meth c D A nL cells slots Q pc lv (.int (zI a) :: st) L f := k a rfl
/-- the same number in other words -/
theorem k_val {a b : Int} (h : a = b) (k : zG p l e R s m args below meth c D A nL cells slots Q pc lv (.int (zI b) :: st) L f) : zG p l e R s m args below meth c D A nL cells slots Q pc lv (.int (zI a) :: st) L f := by rw [h]; exact k
end ZQ
