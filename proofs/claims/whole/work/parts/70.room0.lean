-- ROOM: the class's cells: addresses by a code, shapes T, numbers V
/-- a row of references -/
def zw (G : Nat → ClassId) (k N : Nat) (X : Nat → Nat) : va_E := .inl (G k, N, .inr (.inr (.inr (.inr (fun j : Nat => some (X j))))))
section ZW
variable {p : Program} {l : Launch} {e : Env} {R : Room} {s : State} {m : MethodId} {args : Array Value} {below : List Frame} {meth : Method} {c : Code} {D : va_G} {G : Nat → ClassId} {A : Nat → Prop} {nL cells slots : Nat} {Q : State → Prop} {cc : ByteArray} {own : String}
variable {pc n t : Nat} {lv lv' : List (Nat × Value)} {st : List Value} {L : List Nat} {f : Nat → va_E}
theorem k_aaldN (X : zX p s m args meth c D G A cc own nL) {a N g i : Nat} {C : String} {Y : Nat → Nat} (hd : decode cc pc = .ok (.aaload, 1)) (hn : pc + 1 = n) (ha : a ∈ L) (hf : f a = zw G g N Y) (hg : (zt G)[g]? = some (G g, .object C)) (h1 : i < N) (hN : N < 2 ^ 31) (kk : zG p l e R s m args below meth c D A nL cells slots Q n lv (.ref (Y i) :: st) L f) : zG p l e R s m args below meth c D A nL cells slots Q pc lv (.int (zI (i : Int)) :: .ref a :: st) L f := by
  subst hn
  intro H locs ls hl hP hD hS
  obtain ⟨q, hq⟩ := pl_at ha hf
  have hz : (zI (i : Int)).toNatClampNeg = i := zI_cl (n := N) (by omega) (by omega) hN
  refine va_aldq X.1 X.2.1 X.2.2.2.2.2.1 hP q g hq hg (zI_in (by omega) (by omega) hN) hd ?_
  rw [hz]
  exact kk H locs ls hl hP hD hS
/-- the same heap in other words -/
theorem k_heap {g : Nat → va_E} (h : f = g) (k : zG p l e R s m args below meth c D A nL cells slots Q pc lv st L g) : zG p l e R s m args below meth c D A nL cells slots Q pc lv st L f := by rw [h]; exact k
end ZW
abbrev TT : Type := Nat × (Int → Int) × (Int → Int) × Int × Int × Int × Int
def zSt (G : Nat → ClassId) (L : List Nat) (f : Nat → va_E) (ad : Nat → Nat) (s : Nat) (q : TT) : Prop := zS G L f (ad (100 + s)) (ad (200 + s)) (ad (300 + s)) q.1 q.2.1 q.2.2.1 q.2.2.2.1 q.2.2.2.2.1 q.2.2.2.2.2.1 q.2.2.2.2.2.2
def zRi (ad : Nat → Nat) : Prop := ∀ i j : Nat, i < 400 → j < 400 → ad i = ad j → i = j
def zR1 (G : Nat → ClassId) (L : List Nat) (f : Nat → va_E) (ad : Nat → Nat) (V : Nat → Int) (i : Nat) : Prop := ad (10 + i) ∈ L ∧ f (ad (10 + i)) = .inr (3, [.ref (ad (100 + (3 + i))), .int (zI (V (10 + i)))])
def zR2 (G : Nat → ClassId) (L : List Nat) (f : Nat → va_E) (ad : Nat → Nat) (V : Nat → Int) (i : Nat) : Prop := ad (20 + i) ∈ L ∧ f (ad (20 + i)) = .inr (0, [.ref (ad (30 + i)), .int (zI (V (20 + i))), .int (zI (V (30 + i)))]) ∧ ad (30 + i) ∈ L ∧ f (ad (30 + i)) = zw G 2 4 (fun t => ad (100 + (8 + 4 * i + t)))
def zR3 (G : Nat → ClassId) (L : List Nat) (f : Nat → va_E) (ad : Nat → Nat) (V : Nat → Int) (i : Nat) : Prop := ad (40 + i) ∈ L ∧ f (ad (40 + i)) = .inr (1, [.ref (ad (100 + (32 + i))), .int (zI (V (40 + i))), .int (zI (V (60 + i))), .int (zI (V (80 + i))), .int (zI (V (100 + i))), .int (zI (V (120 + i)))])
def zR4 (G : Nat → ClassId) (L : List Nat) (f : Nat → va_E) (ad : Nat → Nat) (V : Nat → Int) : Prop := ad 0 ∈ L ∧ f (ad 0) = .inr (4, [.ref (ad (100 + 0)), .ref (ad (100 + 1)), .ref (ad (100 + 2)), .ref (ad 1), .ref (ad 2), .ref (ad 3), .int (zI (V 0)), .int (zI (V 1)), .int (zI (V 2))])
def zR5 (G : Nat → ClassId) (L : List Nat) (f : Nat → va_E) (ad : Nat → Nat) : Prop := (ad 1 ∈ L ∧ f (ad 1) = zw G 3 5 (fun i => ad (10 + i))) ∧ (ad 2 ∈ L ∧ f (ad 2) = zw G 4 6 (fun i => ad (20 + i))) ∧ (ad 3 ∈ L ∧ f (ad 3) = zw G 5 12 (fun i => ad (40 + i)))
def zRm (G : Nat → ClassId) (L : List Nat) (f : Nat → va_E) (ad : Nat → Nat) (T : Nat → TT) (V : Nat → Int) : Prop :=
  zRi ad ∧ (∀ s, s < 44 → zSt G L f ad s (T s)) ∧ (∀ i, i < 5 → zR1 G L f ad V i) ∧ (∀ i, i < 6 → zR2 G L f ad V i) ∧ (∀ i, i < 12 → zR3 G L f ad V i) ∧ zR4 G L f ad V ∧ zR5 G L f ad
def rFr (f f1 : Nat → va_E) (ad : Nat → Nat) : Prop := ∀ q : Nat, (∀ c : Nat, c < 400 → q ≠ ad c) → f1 q = f q
theorem rFr_rf {f : Nat → va_E} {ad : Nat → Nat} : rFr f f ad := fun _ _ => rfl
theorem rFr_tr {f g h : Nat → va_E} {ad : Nat → Nat} (h1 : rFr f g ad) (h2 : rFr g h ad) : rFr f h ad := fun q z => (h2 q z).trans (h1 q z)
section RM
variable {G : Nat → ClassId} {L : List Nat} {f : Nat → va_E} {ad : Nat → Nat} {T : Nat → TT} {V : Nat → Int}
theorem zRi_ne (h : zRi ad) {i j : Nat} (hi : i < 400) (hj : j < 400) (hij : i ≠ j) : ad i ≠ ad j := fun q => hij (h i j hi hj q)
/-- two different shapes are apart -/
theorem zRi_ap (h : zRi ad) {s t : Nat} (hs : s < 44) (ht : t < 44) (hst : t ≠ s) : sAp (ad (100 + s)) (ad (200 + s)) (ad (300 + s)) (ad (100 + t)) (ad (200 + t)) (ad (300 + t)) :=
  ⟨zRi_ne h (by omega) (by omega) (by omega), zRi_ne h (by omega) (by omega) (by omega), zRi_ne h (by omega) (by omega) (by omega), zRi_ne h (by omega) (by omega) (by omega), zRi_ne h (by omega) (by omega) (by omega)⟩
theorem zRi_xy (h : zRi ad) {s : Nat} (hs : s < 44) : ad (200 + s) ≠ ad (300 + s) := zRi_ne h (by omega) (by omega) (by omega)
/-- one shape changes -/
theorem zRm_sh (h : zRm G L f ad T V) {s : Nat} (hs : s < 44) {f1 : Nat → va_E} (hF : sFr f f1 (ad (100 + s)) (ad (200 + s)) (ad (300 + s))) {q : TT} (hS : zSt G L f1 ad s q) :
    (∃ T1 : Nat → TT, T1 s = q ∧ (∀ t, t ≠ s → T1 t = T t) ∧ zRm G L f1 ad T1 V) ∧ rFr f f1 ad := by
  obtain ⟨h0, h1, h2, h3, h4, h5, h6⟩ := h
  have kp : ∀ c, c < 400 → c ≠ 100 + s → c ≠ 200 + s → c ≠ 300 + s → f1 (ad c) = f (ad c) := fun c a b d e => hF _ (zRi_ne h0 a (by omega) b) (zRi_ne h0 a (by omega) d) (zRi_ne h0 a (by omega) e)
  refine ⟨⟨va_up T s q, va_up_self _ _ _, fun t ht => va_up_ne _ _ ht, h0, fun t ht => ?_, fun i hi => ?_, fun i hi => ?_, fun i hi => ?_, ?_, ?_⟩, fun z hz => hF z (hz _ (by omega)) (hz _ (by omega)) (hz _ (by omega))⟩
  · by_cases e : t = s
    · subst e; rw [va_up_self]; exact hS
    · rw [va_up_ne _ _ e]
      obtain ⟨m1, m2, m3, e1, e2, e3⟩ := h1 t ht
      exact ⟨m1, m2, m3, (kp _ (by omega) (by omega) (by omega) (by omega)).trans e1, (kp _ (by omega) (by omega) (by omega) (by omega)).trans e2, (kp _ (by omega) (by omega) (by omega) (by omega)).trans e3⟩
  · obtain ⟨m1, e1⟩ := h2 i hi
    exact ⟨m1, (kp _ (by omega) (by omega) (by omega) (by omega)).trans e1⟩
  · obtain ⟨m1, e1, m2, e2⟩ := h3 i hi
    exact ⟨m1, (kp _ (by omega) (by omega) (by omega) (by omega)).trans e1, m2, (kp _ (by omega) (by omega) (by omega) (by omega)).trans e2⟩
  · obtain ⟨m1, e1⟩ := h4 i hi
    exact ⟨m1, (kp _ (by omega) (by omega) (by omega) (by omega)).trans e1⟩
  · exact ⟨h5.1, (kp _ (by omega) (by omega) (by omega) (by omega)).trans h5.2⟩
  · obtain ⟨⟨m1, e1⟩, ⟨m2, e2⟩, ⟨m3, e3⟩⟩ := h6
    exact ⟨⟨m1, (kp _ (by omega) (by omega) (by omega) (by omega)).trans e1⟩, ⟨m2, (kp _ (by omega) (by omega) (by omega) (by omega)).trans e2⟩, ⟨m3, (kp _ (by omega) (by omega) (by omega) (by omega)).trans e3⟩⟩
/-- all but one cell stay: the facts that a change of one object needs -/
theorem zRm_up (h : zRm G L f ad T V) {c : Nat} (hc : c < 100) (E : va_E) : (∀ s, s < 44 → zSt G L (va_up f (ad c) E) ad s (T s)) ∧ (∀ d, d < 400 → d ≠ c → va_up f (ad c) E (ad d) = f (ad d)) ∧ va_up f (ad c) E (ad c) = E ∧ rFr f (va_up f (ad c) E) ad := by
  obtain ⟨h0, h1, -⟩ := h
  have kp : ∀ d, d < 400 → d ≠ c → va_up f (ad c) E (ad d) = f (ad d) := fun d a b => va_up_ne _ _ (zRi_ne h0 a (by omega) b)
  refine ⟨fun s hs => ?_, kp, va_up_self _ _ _, fun q hq => va_up_ne _ _ (hq c (by omega))⟩
  obtain ⟨m1, m2, m3, e1, e2, e3⟩ := h1 s hs
  exact ⟨m1, m2, m3, (kp _ (by omega) (by omega)).trans e1, (kp _ (by omega) (by omega)).trans e2, (kp _ (by omega) (by omega)).trans e3⟩
theorem zRm_zone (h : zRm G L f ad T V) {i : Nat} (hi : i < 5) (g : Int) :
    (∃ V1 : Nat → Int, V1 (10 + i) = g ∧ (∀ c, c ≠ 10 + i → V1 c = V c) ∧ zRm G L (va_up f (ad (10 + i)) (.inr (3, [.ref (ad (100 + (3 + i))), .int (zI g)]))) ad T V1) ∧ rFr f (va_up f (ad (10 + i)) (.inr (3, [.ref (ad (100 + (3 + i))), .int (zI g)]))) ad := by
  obtain ⟨u1, u2, u3, u4⟩ := zRm_up h (c := 10 + i) (by omega) (.inr (3, [.ref (ad (100 + (3 + i))), .int (zI g)]))
  obtain ⟨h0, h1, h2, h3, h4, h5, h6⟩ := h
  refine ⟨⟨va_up V (10 + i) g, va_up_self _ _ _, fun c hc => va_up_ne _ _ hc, h0, u1, fun j hj => ?_, fun j hj => ?_, fun j hj => ?_, ?_, ?_⟩, u4⟩
  · by_cases e : j = i
    · subst e; exact ⟨(h2 j hj).1, by rw [u3, va_up_self]⟩
    · exact ⟨(h2 j hj).1, by rw [u2 _ (by omega) (by omega), va_up_ne _ _ (by omega)]; exact (h2 j hj).2⟩
  · obtain ⟨m1, e1, m2, e2⟩ := h3 j hj
    exact ⟨m1, by rw [u2 _ (by omega) (by omega), va_up_ne _ _ (by omega), va_up_ne _ _ (by omega)]; exact e1, m2, by rw [u2 _ (by omega) (by omega)]; exact e2⟩
  · exact ⟨(h4 j hj).1, by rw [u2 _ (by omega) (by omega), va_up_ne _ _ (by omega), va_up_ne _ _ (by omega), va_up_ne _ _ (by omega), va_up_ne _ _ (by omega), va_up_ne _ _ (by omega)]; exact (h4 j hj).2⟩
  · exact ⟨h5.1, by rw [u2 _ (by omega) (by omega), va_up_ne _ _ (by omega), va_up_ne _ _ (by omega), va_up_ne _ _ (by omega)]; exact h5.2⟩
  · obtain ⟨⟨m1, e1⟩, ⟨m2, e2⟩, ⟨m3, e3⟩⟩ := h6
    exact ⟨⟨m1, (u2 _ (by omega) (by omega)).trans e1⟩, ⟨m2, (u2 _ (by omega) (by omega)).trans e2⟩, ⟨m3, (u2 _ (by omega) (by omega)).trans e3⟩⟩
def up2 (V : Nat → Int) (c d : Nat) (x y : Int) : Nat → Int := va_up (va_up V c x) d y
theorem zRm_kind (h : zRm G L f ad T V) {i : Nat} (hi : i < 6) (g t : Int) :
    (∃ V1 : Nat → Int, V1 (20 + i) = g ∧ V1 (30 + i) = t ∧ (∀ c, c ≠ 20 + i → c ≠ 30 + i → V1 c = V c) ∧ zRm G L (va_up f (ad (20 + i)) (.inr (0, [.ref (ad (30 + i)), .int (zI g), .int (zI t)]))) ad T V1) ∧ rFr f (va_up f (ad (20 + i)) (.inr (0, [.ref (ad (30 + i)), .int (zI g), .int (zI t)]))) ad := by
  obtain ⟨u1, u2, u3, u4⟩ := zRm_up h (c := 20 + i) (by omega) (.inr (0, [.ref (ad (30 + i)), .int (zI g), .int (zI t)]))
  obtain ⟨h0, h1, h2, h3, h4, h5, h6⟩ := h
  have w1 : up2 V (20 + i) (30 + i) g t (20 + i) = g := by unfold up2; rw [va_up_ne _ _ (by omega), va_up_self]
  have w2 : up2 V (20 + i) (30 + i) g t (30 + i) = t := va_up_self _ _ _
  have w3 : ∀ c, c ≠ 20 + i → c ≠ 30 + i → up2 V (20 + i) (30 + i) g t c = V c := fun c a b => by unfold up2; rw [va_up_ne _ _ b, va_up_ne _ _ a]
  refine ⟨⟨up2 V (20 + i) (30 + i) g t, w1, w2, w3, h0, u1, fun j hj => ?_, fun j hj => ?_, fun j hj => ?_, ?_, ?_⟩, u4⟩
  · exact ⟨(h2 j hj).1, by rw [u2 _ (by omega) (by omega), w3 _ (by omega) (by omega)]; exact (h2 j hj).2⟩
  · obtain ⟨m1, e1, m2, e2⟩ := h3 j hj
    refine ⟨m1, ?_, m2, by rw [u2 _ (by omega) (by omega)]; exact e2⟩
    by_cases e : j = i
    · subst e; rw [u3, w1, w2]
    · rw [u2 _ (by omega) (by omega), w3 _ (by omega) (by omega), w3 _ (by omega) (by omega)]; exact e1
  · exact ⟨(h4 j hj).1, by rw [u2 _ (by omega) (by omega), w3 _ (by omega) (by omega), w3 _ (by omega) (by omega), w3 _ (by omega) (by omega), w3 _ (by omega) (by omega), w3 _ (by omega) (by omega)]; exact (h4 j hj).2⟩
  · exact ⟨h5.1, by rw [u2 _ (by omega) (by omega), w3 _ (by omega) (by omega), w3 _ (by omega) (by omega), w3 _ (by omega) (by omega)]; exact h5.2⟩
  · obtain ⟨⟨m1, e1⟩, ⟨m2, e2⟩, ⟨m3, e3⟩⟩ := h6
    exact ⟨⟨m1, (u2 _ (by omega) (by omega)).trans e1⟩, ⟨m2, (u2 _ (by omega) (by omega)).trans e2⟩, ⟨m3, (u2 _ (by omega) (by omega)).trans e3⟩⟩
def up5 (V : Nat → Int) (i : Nat) (a b c d e : Int) : Nat → Int := va_up (va_up (va_up (va_up (va_up V (40 + i) a) (60 + i) b) (80 + i) c) (100 + i) d) (120 + i) e
theorem zRm_part (h : zRm G L f ad T V) {i : Nat} (hi : i < 12) (a b c d e : Int) :
    (∃ V1 : Nat → Int, V1 (40 + i) = a ∧ V1 (60 + i) = b ∧ V1 (80 + i) = c ∧ V1 (100 + i) = d ∧ V1 (120 + i) = e ∧ (∀ q, q ≠ 40 + i → q ≠ 60 + i → q ≠ 80 + i → q ≠ 100 + i → q ≠ 120 + i → V1 q = V q) ∧ zRm G L (va_up f (ad (40 + i)) (.inr (1, [.ref (ad (100 + (32 + i))), .int (zI a), .int (zI b), .int (zI c), .int (zI d), .int (zI e)]))) ad T V1) ∧ rFr f (va_up f (ad (40 + i)) (.inr (1, [.ref (ad (100 + (32 + i))), .int (zI a), .int (zI b), .int (zI c), .int (zI d), .int (zI e)]))) ad := by
  obtain ⟨u1, u2, u3, u4⟩ := zRm_up h (c := 40 + i) (by omega) (.inr (1, [.ref (ad (100 + (32 + i))), .int (zI a), .int (zI b), .int (zI c), .int (zI d), .int (zI e)]))
  obtain ⟨h0, h1, h2, h3, h4, h5, h6⟩ := h
  have w5 : up5 V i a b c d e (120 + i) = e := va_up_self _ _ _
  have w4 : up5 V i a b c d e (100 + i) = d := by unfold up5; rw [va_up_ne _ _ (by omega), va_up_self]
  have w3 : up5 V i a b c d e (80 + i) = c := by unfold up5; rw [va_up_ne _ _ (by omega), va_up_ne _ _ (by omega), va_up_self]
  have w2 : up5 V i a b c d e (60 + i) = b := by unfold up5; rw [va_up_ne _ _ (by omega), va_up_ne _ _ (by omega), va_up_ne _ _ (by omega), va_up_self]
  have w1 : up5 V i a b c d e (40 + i) = a := by unfold up5; rw [va_up_ne _ _ (by omega), va_up_ne _ _ (by omega), va_up_ne _ _ (by omega), va_up_ne _ _ (by omega), va_up_self]
  have w0 : ∀ q, q ≠ 40 + i → q ≠ 60 + i → q ≠ 80 + i → q ≠ 100 + i → q ≠ 120 + i → up5 V i a b c d e q = V q := fun q a1 a2 a3 a4 a5 => by unfold up5; rw [va_up_ne _ _ a5, va_up_ne _ _ a4, va_up_ne _ _ a3, va_up_ne _ _ a2, va_up_ne _ _ a1]
  refine ⟨⟨up5 V i a b c d e, w1, w2, w3, w4, w5, w0, h0, u1, fun j hj => ?_, fun j hj => ?_, fun j hj => ?_, ?_, ?_⟩, u4⟩
  · exact ⟨(h2 j hj).1, by rw [u2 _ (by omega) (by omega), w0 _ (by omega) (by omega) (by omega) (by omega) (by omega)]; exact (h2 j hj).2⟩
  · obtain ⟨m1, e1, m2, e2⟩ := h3 j hj
    exact ⟨m1, by rw [u2 _ (by omega) (by omega), w0 _ (by omega) (by omega) (by omega) (by omega) (by omega), w0 _ (by omega) (by omega) (by omega) (by omega) (by omega)]; exact e1, m2, by rw [u2 _ (by omega) (by omega)]; exact e2⟩
  · refine ⟨(h4 j hj).1, ?_⟩
    by_cases z : j = i
    · subst z; rw [u3, w1, w2, w3, w4, w5]
    · rw [u2 _ (by omega) (by omega), w0 _ (by omega) (by omega) (by omega) (by omega) (by omega), w0 _ (by omega) (by omega) (by omega) (by omega) (by omega), w0 _ (by omega) (by omega) (by omega) (by omega) (by omega), w0 _ (by omega) (by omega) (by omega) (by omega) (by omega), w0 _ (by omega) (by omega) (by omega) (by omega) (by omega)]; exact (h4 j hj).2
  · exact ⟨h5.1, by rw [u2 _ (by omega) (by omega), w0 _ (by omega) (by omega) (by omega) (by omega) (by omega), w0 _ (by omega) (by omega) (by omega) (by omega) (by omega), w0 _ (by omega) (by omega) (by omega) (by omega) (by omega)]; exact h5.2⟩
  · obtain ⟨⟨m1, e1⟩, ⟨m2, e2⟩, ⟨m3, e3⟩⟩ := h6
    exact ⟨⟨m1, (u2 _ (by omega) (by omega)).trans e1⟩, ⟨m2, (u2 _ (by omega) (by omega)).trans e2⟩, ⟨m3, (u2 _ (by omega) (by omega)).trans e3⟩⟩
theorem zRm_cnt (h : zRm G L f ad T V) (a b c : Int) :
    (∃ V1 : Nat → Int, V1 0 = a ∧ V1 1 = b ∧ V1 2 = c ∧ (∀ q, 3 ≤ q → V1 q = V q) ∧ zRm G L (va_up f (ad 0) (.inr (4, [.ref (ad (100 + 0)), .ref (ad (100 + 1)), .ref (ad (100 + 2)), .ref (ad 1), .ref (ad 2), .ref (ad 3), .int (zI a), .int (zI b), .int (zI c)]))) ad T V1) ∧ rFr f (va_up f (ad 0) (.inr (4, [.ref (ad (100 + 0)), .ref (ad (100 + 1)), .ref (ad (100 + 2)), .ref (ad 1), .ref (ad 2), .ref (ad 3), .int (zI a), .int (zI b), .int (zI c)]))) ad := by
  obtain ⟨u1, u2, u3, u4⟩ := zRm_up h (c := 0) (by omega) (.inr (4, [.ref (ad (100 + 0)), .ref (ad (100 + 1)), .ref (ad (100 + 2)), .ref (ad 1), .ref (ad 2), .ref (ad 3), .int (zI a), .int (zI b), .int (zI c)]))
  obtain ⟨h0, h1, h2, h3, h4, h5, h6⟩ := h
  have w0 : ∀ q, 3 ≤ q → va_up (va_up (va_up V 0 a) 1 b) 2 c q = V q := fun q z => by rw [va_up_ne _ _ (by omega), va_up_ne _ _ (by omega), va_up_ne _ _ (by omega)]
  refine ⟨⟨va_up (va_up (va_up V 0 a) 1 b) 2 c, rfl, rfl, rfl, w0, h0, u1, fun j hj => ?_, fun j hj => ?_, fun j hj => ?_, ⟨h5.1, u3⟩, ?_⟩, u4⟩
  · exact ⟨(h2 j hj).1, by rw [u2 _ (by omega) (by omega), w0 _ (by omega)]; exact (h2 j hj).2⟩
  · obtain ⟨m1, e1, m2, e2⟩ := h3 j hj
    exact ⟨m1, by rw [u2 _ (by omega) (by omega), w0 _ (by omega), w0 _ (by omega)]; exact e1, m2, by rw [u2 _ (by omega) (by omega)]; exact e2⟩
  · exact ⟨(h4 j hj).1, by rw [u2 _ (by omega) (by omega), w0 _ (by omega), w0 _ (by omega), w0 _ (by omega), w0 _ (by omega), w0 _ (by omega)]; exact (h4 j hj).2⟩
  · obtain ⟨⟨m1, e1⟩, ⟨m2, e2⟩, ⟨m3, e3⟩⟩ := h6
    exact ⟨⟨m1, (u2 _ (by omega) (by omega)).trans e1⟩, ⟨m2, (u2 _ (by omega) (by omega)).trans e2⟩, ⟨m3, (u2 _ (by omega) (by omega)).trans e3⟩⟩
end RM
