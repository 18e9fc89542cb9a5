-- LAW: the helpers
theorem zRm_keep {G : Nat → ClassId} {L : List Nat} {f f1 : Nat → va_E} {ad : Nat → Nat} {T : Nat → TT} {V : Nat → Int} (h : zRm G L f ad T V) (k : ∀ c, c < 400 → f1 (ad c) = f (ad c)) : zRm G L f1 ad T V := by
  obtain ⟨h0, h1, h2, h3, h4, h5, h6⟩ := h
  refine ⟨h0, fun s hs => ?_, fun i hi => ?_, fun i hi => ?_, fun i hi => ?_, ?_, ?_⟩
  · obtain ⟨m1, m2, m3, e1, e2, e3⟩ := h1 s hs
    exact ⟨m1, m2, m3, (k _ (by omega)).trans e1, (k _ (by omega)).trans e2, (k _ (by omega)).trans e3⟩
  · obtain ⟨m1, e1⟩ := h2 i hi
    exact ⟨m1, (k _ (by omega)).trans e1⟩
  · obtain ⟨m1, e1, m2, e2⟩ := h3 i hi
    exact ⟨m1, (k _ (by omega)).trans e1, m2, (k _ (by omega)).trans e2⟩
  · obtain ⟨m1, e1⟩ := h4 i hi
    exact ⟨m1, (k _ (by omega)).trans e1⟩
  · exact ⟨h5.1, (k _ (by omega)).trans h5.2⟩
  · obtain ⟨⟨m1, e1⟩, ⟨m2, e2⟩, ⟨m3, e3⟩⟩ := h6
    exact ⟨⟨m1, (k _ (by omega)).trans e1⟩, ⟨m2, (k _ (by omega)).trans e2⟩, ⟨m3, (k _ (by omega)).trans e3⟩⟩
def hQ (G : Nat → ClassId) (L : List Nat) (f : Nat → va_E) (ad : Nat → Nat) (ol : Nat) (C : cT) : Option Value → List Nat → (Nat → va_E) → Prop := fun v L1 f1 => L = L1 ∧ ∃ (k : Nat) (r : Int) (T1 : Nat → TT) (V1 : Nat → Int) (g1 : Nat → Int64), v = some (.int (zI (k : Int))) ∧ C k r T1 V1 ∧ zRm G L f1 ad T1 V1 ∧ (∀ q : Nat, (∀ c : Nat, c < 400 → q ≠ ad c) → q ≠ ol → f1 q = f q) ∧ f1 ol = zlo G g1 ∧ (k = 0 → g1 0 = (zI r).toInt64)
def hV (G : Nat → ClassId) (L : List Nat) (f : Nat → va_E) (ad : Nat → Nat) (C : cT) : Option Value → List Nat → (Nat → va_E) → Prop := fun v L1 f1 => L = L1 ∧ rFr f f1 ad ∧ ∃ (k : Nat) (T1 : Nat → TT) (V1 : Nat → Int), v = some (.int (zI (k : Int))) ∧ C k 0 T1 V1 ∧ zRm G L f1 ad T1 V1
theorem cFit_01 {T : Nat → TT} {V : Nat → Int} {z9 k9 : Nat} {kd x y t r : Int} {T1 : Nat → TT} {V1 : Nat → Int} (h : cFit T V z9 k9 kd x y t 0 r T1 V1) : r = 1 ∨ r = 0 := by
  obtain ⟨-, -, ⟨-, q⟩ | ⟨-, -, q⟩⟩ := h
  · cases q
  · rcases q with ⟨-, q⟩ | ⟨-, q⟩
    · exact Or.inl q
    · exact Or.inr q
section ZLC
variable {p : Program} {l : Launch} {e : Env} {R : Room} {s : State} {m : MethodId} {args : Array Value} {below : List Frame} {meth : Method} {c : Code} {D : va_G} {G : Nat → ClassId} {A : Nat → Prop} {nL cells slots : Nat} {Q : State → Prop} {cc : ByteArray} {own : String}
variable {pc n t : Nat} {lv lv' : List (Nat × Value)} {st : List Value} {L : List Nat} {f : Nat → va_E}
theorem k_lconst (X : zX p s m args meth c D G A cc own nL) {z : Fin 2} {v : Int64} (hd : decode cc pc = .ok (.lconst z, 1)) (hv : Int64.ofNat (z : Nat) = v) (hn : pc + 1 = n) (k : zG p l e R s m args below meth c D A nL cells slots Q n lv (.long v :: st) L f) : zG p l e R s m args below meth c D A nL cells slots Q pc lv st L f := by
  subst hn; exact fun H locs ls hl hP hD hS => lv_lconst X.1 X.2.1 hd hv (k H locs ls hl hP hD hS)
end ZLC
set_option maxRecDepth 100000 in
set_option maxHeartbeats 4000000 in
theorem m_L_corner (l : Launch) (hlt : l.stackTraces = false) (D : va_G) (G : Nat → ClassId) {L : List Nat} {f : Nat → va_E} {ad : Nat → Nat} {T : Nat → TT} {V : Nat → Int} (hR : zRm G L f ad T V) (z9 k9 : Nat) (hA : rAll T V z9 k9) (a b : Int) (ha : zO a) (hb : zO b) {ol : Nat} {g : Nat → Int64} (hol : ol ∈ L) (hfo : f ol = zlo G g) (hne : ∀ c, c < 400 → ol ≠ ad c) : zMt l D G y_L_corner (.codeWith y_L_corner c_L_corner 5 (some .int) [((0 : Nat), (10 : Nat), (13 : Nat), (13 : Nat)), ((0 : Nat), (10 : Nat), (17 : Nat), (15 : Nat))] :: BG) (zRx 7 104) [.ref (ad 0), .int (zI a), .int (zI b), .ref ol] L f (hQ G L f ad ol (cCor T V a b)) := by
  refine zMt.of (by decide) (Nat.le_of_ble_eq_true rfl) rfl (fun p e s m args below meth c A Xc hTh htab hr => ?_)
  refine k_aload_n Xc d_L_corner_0 rfl rfl (n := 1) rfl ?_
  refine k_iconst Xc d_L_corner_1 (n := 2) rfl ?_
  refine k_aload_n Xc d_L_corner_2 rfl rfl (n := 3) rfl ?_
  refine k_iload_n Xc d_L_corner_3 rfl rfl (n := 4) rfl ?_
  refine k_iload_n Xc d_L_corner_4 rfl rfl (n := 5) rfl ?_
  refine k_callX (na := 2) Xc hTh (m_R_corner l hlt D G hR z9 k9 hA a b ha hb) hR.2.2.2.2.2.1.1 hR.2.2.2.2.2.1.2 rfl wd_193 wd_190 wd_191 wd_192 wd_1 (by decide +kernel) ⟨by decide, by decide⟩ rfl rfl (Nat.le_of_ble_eq_true rfl) d_L_corner_5 (n := 8) rfl ⟨by decide, by decide⟩ ?_ ?_
  · intro E L1 f1 hx
    obtain ⟨rfl, hF, k, T1, V1, hk, he, hC, hR1⟩ := hx
    match k, hk, he, hC with
    | 1, _, he, hC =>
      obtain rfl := Option.some.inj he
      refine ⟨[], ⟨0, 10, 13, 13⟩, [⟨0, 10, 17, 15⟩], "java/lang/IllegalArgumentException", htab, (fun z hz => absurd hz (List.not_mem_nil)), rfl, by decide, wd_188, List.mem_of_getElem? (i := 0) rfl, fun q => ?_⟩
      refine k_astore Xc d_L_corner_13 (by decide) (n := 15) rfl ?_
      refine k_iconst Xc d_L_corner_15 (n := 16) rfl ?_
      refine k_iret Xc d_L_corner_16 hr rfl (Nat.le_refl _) (Nat.le_refl _) ?_
      exact ⟨rfl, 1, 0, T1, V1, g, rfl, hC, hR1, fun q h1 _ => hF q h1, (hF ol hne).trans hfo, fun h => absurd h (by decide)⟩
    | 2, _, he, hC =>
      obtain rfl := Option.some.inj he
      refine ⟨[⟨0, 10, 13, 13⟩], ⟨0, 10, 17, 15⟩, [], "java/lang/IllegalStateException", htab, ?_, rfl, by decide, wd_189, List.mem_of_getElem? (i := 7) rfl, fun q => ?_⟩
      · intro z hz
        simp only [List.mem_cons, List.not_mem_nil, or_false] at hz
        subst hz
        exact Or.inr ⟨by decide, "java/lang/IllegalArgumentException", wd_188, by decide⟩
      · refine k_astore Xc d_L_corner_17 (by decide) (n := 19) rfl ?_
        refine k_iconst Xc d_L_corner_19 (n := 20) rfl ?_
        refine k_iret Xc d_L_corner_20 hr rfl (Nat.le_refl _) (Nat.le_refl _) ?_
        exact ⟨rfl, 2, 0, T1, V1, g, rfl, hC, hR1, fun q h1 _ => hF q h1, (hF ol hne).trans hfo, fun h => absurd h (by decide)⟩
    | k + 3, _, he, _ => cases he
  · intro v L1 f1 hx
    obtain ⟨rfl, hF, r, T1, V1, rfl, hC, hR1⟩ := hx
    refine k_i2l Xc d_L_corner_8 (n := 9) rfl ?_
    refine k_last Xc d_L_corner_9 (n := 10) rfl hol ((hF ol hne).trans hfo) ?_
    refine k_goto Xc d_L_corner_10 (t := 21) rfl ?_
    refine k_iconst Xc d_L_corner_21 (n := 22) rfl ?_
    refine k_iret Xc d_L_corner_22 hr rfl (Nat.le_refl _) (Nat.le_refl _) ?_
    refine ⟨rfl, 0, r, T1, V1, _, rfl, hC, zRm_keep hR1 (fun c hc => va_up_ne _ _ (Ne.symm (hne c hc))), fun q h1 h2 => (va_up_ne _ _ h2).trans (hF q h1), va_up_self _ _ _, fun _ => ?_⟩
    exact rfl
set_option maxRecDepth 100000 in
set_option maxHeartbeats 4000000 in
theorem m_L_hide (l : Launch) (hlt : l.stackTraces = false) (D : va_G) (G : Nat → ClassId) {L : List Nat} {f : Nat → va_E} {ad : Nat → Nat} {T : Nat → TT} {V : Nat → Int} (hR : zRm G L f ad T V) (z9 k9 : Nat) (hA : rAll T V z9 k9)  : zMt l D G y_L_hide (.codeWith y_L_hide c_L_hide 2 (some .int) [((0 : Nat), (4 : Nat), (7 : Nat), (15 : Nat)), ((0 : Nat), (4 : Nat), (10 : Nat), (13 : Nat))] :: BG) (zRx 7 115) [.ref (ad 0)] L f (hV G L f ad (cHid T V)) := by
  refine zMt.of (by decide) (Nat.le_of_ble_eq_true rfl) rfl (fun p e s m args below meth c A Xc hTh htab hr => ?_)
  refine k_aload_n Xc d_L_hide_0 rfl rfl (n := 1) rfl ?_
  refine k_callX (na := 0) Xc hTh (m_R_hide l hlt D G hR z9 k9 hA ) hR.2.2.2.2.2.1.1 hR.2.2.2.2.2.1.2 rfl wd_298 wd_295 wd_296 wd_297 wd_1 (by decide +kernel) ⟨by decide, by decide⟩ rfl rfl (Nat.le_of_ble_eq_true rfl) d_L_hide_1 (n := 4) rfl ⟨by decide, by decide⟩ ?_ ?_
  · intro E L1 f1 hx
    obtain ⟨rfl, hF, k, T1, V1, hk, he, hC, hR1⟩ := hx
    match k, hk, he, hC with
    | 1, _, he, hC =>
      obtain rfl := Option.some.inj he
      refine ⟨[], ⟨0, 4, 7, 15⟩, [⟨0, 4, 10, 13⟩], "java/lang/IllegalStateException", htab, (fun z hz => absurd hz (List.not_mem_nil)), rfl, by decide, wd_189, List.mem_of_getElem? (i := 7) rfl, fun q => ?_⟩
      refine k_astore_n Xc d_L_hide_7 rfl (by decide) (n := 8) rfl ?_
      refine k_iconst Xc d_L_hide_8 (n := 9) rfl ?_
      refine k_iret Xc d_L_hide_9 hr rfl (Nat.le_refl _) (Nat.le_refl _) ?_
      exact ⟨rfl, hF, 1, T1, V1, rfl, hC, hR1⟩
    | 2, _, he, hC =>
      obtain rfl := Option.some.inj he
      refine ⟨[⟨0, 4, 7, 15⟩], ⟨0, 4, 10, 13⟩, [], "java/lang/IllegalArgumentException", htab, ?_, rfl, by decide, wd_188, List.mem_of_getElem? (i := 0) rfl, fun q => ?_⟩
      · intro z hz
        simp only [List.mem_cons, List.not_mem_nil, or_false] at hz
        subst hz
        exact Or.inr ⟨by decide, "java/lang/IllegalStateException", wd_189, by decide⟩
      · refine k_astore_n Xc d_L_hide_10 rfl (by decide) (n := 11) rfl ?_
        refine k_iconst Xc d_L_hide_11 (n := 12) rfl ?_
        refine k_iret Xc d_L_hide_12 hr rfl (Nat.le_refl _) (Nat.le_refl _) ?_
        exact ⟨rfl, hF, 2, T1, V1, rfl, hC, hR1⟩
    | k + 3, _, he, _ => cases he
  · intro v L1 f1 hx
    obtain ⟨rfl, hF, T1, V1, rfl, hC, hR1⟩ := hx
    refine k_goto Xc d_L_hide_4 (t := 13) rfl ?_
    refine k_iconst Xc d_L_hide_13 (n := 14) rfl ?_
    refine k_iret Xc d_L_hide_14 hr rfl (Nat.le_refl _) (Nat.le_refl _) ?_
    exact ⟨rfl, hF, 0, T1, V1, rfl, hC, hR1⟩
set_option maxRecDepth 100000 in
set_option maxHeartbeats 4000000 in
theorem m_L_zone (l : Launch) (hlt : l.stackTraces = false) (D : va_G) (G : Nat → ClassId) {L : List Nat} {f : Nat → va_E} {ad : Nat → Nat} {T : Nat → TT} {V : Nat → Int} (hR : zRm G L f ad T V) (z9 k9 : Nat) (hA : rAll T V z9 k9) (g : Int) (hg : zO g) {ol : Nat} {g0 : Nat → Int64} (hol : ol ∈ L) (hfo : f ol = zlo G g0) (hne : ∀ c, c < 400 → ol ≠ ad c) : zMt l D G y_L_zone (.codeWith y_L_zone c_L_zone 4 (some .int) [((0 : Nat), (9 : Nat), (12 : Nat), (13 : Nat)), ((0 : Nat), (9 : Nat), (15 : Nat), (15 : Nat))] :: BG) (zRx 7 135) [.ref (ad 0), .int (zI g), .ref ol] L f (hQ G L f ad ol (cZon T V g)) := by
  refine zMt.of (by decide) (Nat.le_of_ble_eq_true rfl) rfl (fun p e s m args below meth c A Xc hTh htab hr => ?_)
  refine k_aload_n Xc d_L_zone_0 rfl rfl (n := 1) rfl ?_
  refine k_iconst Xc d_L_zone_1 (n := 2) rfl ?_
  refine k_aload_n Xc d_L_zone_2 rfl rfl (n := 3) rfl ?_
  refine k_iload_n Xc d_L_zone_3 rfl rfl (n := 4) rfl ?_
  refine k_callX (na := 1) Xc hTh (m_R_zone l hlt D G hR z9 k9 hA g hg) hR.2.2.2.2.2.1.1 hR.2.2.2.2.2.1.2 rfl wd_347 wd_344 wd_345 wd_346 wd_1 (by decide +kernel) ⟨by decide, by decide⟩ rfl rfl (Nat.le_of_ble_eq_true rfl) d_L_zone_4 (n := 7) rfl ⟨by decide, by decide⟩ ?_ ?_
  · intro E L1 f1 hx
    obtain ⟨rfl, hF, k, T1, V1, hk, he, hC, hR1⟩ := hx
    match k, hk, he, hC with
    | 1, _, he, hC =>
      obtain rfl := Option.some.inj he
      refine ⟨[], ⟨0, 9, 12, 13⟩, [⟨0, 9, 15, 15⟩], "java/lang/IllegalArgumentException", htab, (fun z hz => absurd hz (List.not_mem_nil)), rfl, by decide, wd_188, List.mem_of_getElem? (i := 0) rfl, fun q => ?_⟩
      refine k_astore_n Xc d_L_zone_12 rfl (by decide) (n := 13) rfl ?_
      refine k_iconst Xc d_L_zone_13 (n := 14) rfl ?_
      refine k_iret Xc d_L_zone_14 hr rfl (Nat.le_refl _) (Nat.le_refl _) ?_
      exact ⟨rfl, 1, 0, T1, V1, g0, rfl, hC, hR1, fun q h1 _ => hF q h1, (hF ol hne).trans hfo, fun h => absurd h (by decide)⟩
    | 2, _, he, hC =>
      obtain rfl := Option.some.inj he
      refine ⟨[⟨0, 9, 12, 13⟩], ⟨0, 9, 15, 15⟩, [], "java/lang/IllegalStateException", htab, ?_, rfl, by decide, wd_189, List.mem_of_getElem? (i := 7) rfl, fun q => ?_⟩
      · intro z hz
        simp only [List.mem_cons, List.not_mem_nil, or_false] at hz
        subst hz
        exact Or.inr ⟨by decide, "java/lang/IllegalArgumentException", wd_188, by decide⟩
      · refine k_astore_n Xc d_L_zone_15 rfl (by decide) (n := 16) rfl ?_
        refine k_iconst Xc d_L_zone_16 (n := 17) rfl ?_
        refine k_iret Xc d_L_zone_17 hr rfl (Nat.le_refl _) (Nat.le_refl _) ?_
        exact ⟨rfl, 2, 0, T1, V1, g0, rfl, hC, hR1, fun q h1 _ => hF q h1, (hF ol hne).trans hfo, fun h => absurd h (by decide)⟩
    | k + 3, _, he, _ => cases he
  · intro v L1 f1 hx
    obtain ⟨rfl, hF, r, T1, V1, rfl, hC, hR1⟩ := hx
    refine k_i2l Xc d_L_zone_7 (n := 8) rfl ?_
    refine k_last Xc d_L_zone_8 (n := 9) rfl hol ((hF ol hne).trans hfo) ?_
    refine k_goto Xc d_L_zone_9 (t := 18) rfl ?_
    refine k_iconst Xc d_L_zone_18 (n := 19) rfl ?_
    refine k_iret Xc d_L_zone_19 hr rfl (Nat.le_refl _) (Nat.le_refl _) ?_
    refine ⟨rfl, 0, r, T1, V1, _, rfl, hC, zRm_keep hR1 (fun c hc => va_up_ne _ _ (Ne.symm (hne c hc))), fun q h1 h2 => (va_up_ne _ _ h2).trans (hF q h1), va_up_self _ _ _, fun _ => ?_⟩
    exact rfl
set_option maxRecDepth 100000 in
set_option maxHeartbeats 4000000 in
theorem m_L_clear (l : Launch) (hlt : l.stackTraces = false) (D : va_G) (G : Nat → ClassId) {L : List Nat} {f : Nat → va_E} {ad : Nat → Nat} {T : Nat → TT} {V : Nat → Int} (hR : zRm G L f ad T V) (z9 k9 : Nat) (hA : rAll T V z9 k9)  : zMt l D G y_L_clear (.codeWith y_L_clear c_L_clear 2 (some .int) [((0 : Nat), (4 : Nat), (7 : Nat), (15 : Nat))] :: BG) (zRx 7 102) [.ref (ad 0)] L f (hV G L f ad (cClr T V)) := by
  refine zMt.of (by decide) (Nat.le_of_ble_eq_true rfl) rfl (fun p e s m args below meth c A Xc hTh htab hr => ?_)
  refine k_aload_n Xc d_L_clear_0 rfl rfl (n := 1) rfl ?_
  refine k_callX (na := 0) Xc hTh (m_R_clear l hlt D G hR z9 k9 hA ) hR.2.2.2.2.2.1.1 hR.2.2.2.2.2.1.2 rfl wd_371 wd_368 wd_369 wd_370 wd_1 (by decide +kernel) ⟨by decide, by decide⟩ rfl rfl (Nat.le_of_ble_eq_true rfl) d_L_clear_1 (n := 4) rfl ⟨by decide, by decide⟩ ?_ ?_
  · intro E L1 f1 hx
    obtain ⟨rfl, hF, k, T1, V1, hk, he, hC, hR1⟩ := hx
    match k, hk, he, hC with
    | 1, _, he, hC =>
      obtain rfl := Option.some.inj he
      refine ⟨[], ⟨0, 4, 7, 15⟩, [], "java/lang/IllegalStateException", htab, (fun z hz => absurd hz (List.not_mem_nil)), rfl, by decide, wd_189, List.mem_of_getElem? (i := 7) rfl, fun q => ?_⟩
      refine k_astore_n Xc d_L_clear_7 rfl (by decide) (n := 8) rfl ?_
      refine k_iconst Xc d_L_clear_8 (n := 9) rfl ?_
      refine k_iret Xc d_L_clear_9 hr rfl (Nat.le_refl _) (Nat.le_refl _) ?_
      exact ⟨rfl, hF, 1, T1, V1, rfl, hC, hR1⟩
    | k + 2, _, he, _ => cases he
  · intro v L1 f1 hx
    obtain ⟨rfl, hF, T1, V1, rfl, hC, hR1⟩ := hx
    refine k_goto Xc d_L_clear_4 (t := 10) rfl ?_
    refine k_iconst Xc d_L_clear_10 (n := 11) rfl ?_
    refine k_iret Xc d_L_clear_11 hr rfl (Nat.le_refl _) (Nat.le_refl _) ?_
    exact ⟨rfl, hF, 0, T1, V1, rfl, hC, hR1⟩
set_option maxRecDepth 100000 in
set_option maxHeartbeats 4000000 in
theorem m_L_kind (l : Launch) (hlt : l.stackTraces = false) (D : va_G) (G : Nat → ClassId) {L : List Nat} {f : Nat → va_E} {ad : Nat → Nat} {T : Nat → TT} {V : Nat → Int} (hR : zRm G L f ad T V) (z9 k9 : Nat) (hA : rAll T V z9 k9) (g tt : Int) (hg : zO g) (ht : zO tt) {ol : Nat} {g0 : Nat → Int64} (hol : ol ∈ L) (hfo : f ol = zlo G g0) (hne : ∀ c, c < 400 → ol ≠ ad c) : zMt l D G y_L_kind (.codeWith y_L_kind c_L_kind 5 (some .int) [((0 : Nat), (10 : Nat), (13 : Nat), (13 : Nat)), ((0 : Nat), (10 : Nat), (17 : Nat), (15 : Nat))] :: BG) (zRx 7 138) [.ref (ad 0), .int (zI g), .int (zI tt), .ref ol] L f (hQ G L f ad ol (cKin T V g tt)) := by
  refine zMt.of (by decide) (Nat.le_of_ble_eq_true rfl) rfl (fun p e s m args below meth c A Xc hTh htab hr => ?_)
  refine k_aload_n Xc d_L_kind_0 rfl rfl (n := 1) rfl ?_
  refine k_iconst Xc d_L_kind_1 (n := 2) rfl ?_
  refine k_aload_n Xc d_L_kind_2 rfl rfl (n := 3) rfl ?_
  refine k_iload_n Xc d_L_kind_3 rfl rfl (n := 4) rfl ?_
  refine k_iload_n Xc d_L_kind_4 rfl rfl (n := 5) rfl ?_
  refine k_callX (na := 2) Xc hTh (m_R_kind l hlt D G hR z9 k9 hA g tt hg ht) hR.2.2.2.2.2.1.1 hR.2.2.2.2.2.1.2 rfl wd_378 wd_375 wd_376 wd_377 wd_1 (by decide +kernel) ⟨by decide, by decide⟩ rfl rfl (Nat.le_of_ble_eq_true rfl) d_L_kind_5 (n := 8) rfl ⟨by decide, by decide⟩ ?_ ?_
  · intro E L1 f1 hx
    obtain ⟨rfl, hF, k, T1, V1, hk, he, hC, hR1⟩ := hx
    match k, hk, he, hC with
    | 1, _, he, hC =>
      obtain rfl := Option.some.inj he
      refine ⟨[], ⟨0, 10, 13, 13⟩, [⟨0, 10, 17, 15⟩], "java/lang/IllegalArgumentException", htab, (fun z hz => absurd hz (List.not_mem_nil)), rfl, by decide, wd_188, List.mem_of_getElem? (i := 0) rfl, fun q => ?_⟩
      refine k_astore Xc d_L_kind_13 (by decide) (n := 15) rfl ?_
      refine k_iconst Xc d_L_kind_15 (n := 16) rfl ?_
      refine k_iret Xc d_L_kind_16 hr rfl (Nat.le_refl _) (Nat.le_refl _) ?_
      exact ⟨rfl, 1, 0, T1, V1, g0, rfl, hC, hR1, fun q h1 _ => hF q h1, (hF ol hne).trans hfo, fun h => absurd h (by decide)⟩
    | 2, _, he, hC =>
      obtain rfl := Option.some.inj he
      refine ⟨[⟨0, 10, 13, 13⟩], ⟨0, 10, 17, 15⟩, [], "java/lang/IllegalStateException", htab, ?_, rfl, by decide, wd_189, List.mem_of_getElem? (i := 7) rfl, fun q => ?_⟩
      · intro z hz
        simp only [List.mem_cons, List.not_mem_nil, or_false] at hz
        subst hz
        exact Or.inr ⟨by decide, "java/lang/IllegalArgumentException", wd_188, by decide⟩
      · refine k_astore Xc d_L_kind_17 (by decide) (n := 19) rfl ?_
        refine k_iconst Xc d_L_kind_19 (n := 20) rfl ?_
        refine k_iret Xc d_L_kind_20 hr rfl (Nat.le_refl _) (Nat.le_refl _) ?_
        exact ⟨rfl, 2, 0, T1, V1, g0, rfl, hC, hR1, fun q h1 _ => hF q h1, (hF ol hne).trans hfo, fun h => absurd h (by decide)⟩
    | k + 3, _, he, _ => cases he
  · intro v L1 f1 hx
    obtain ⟨rfl, hF, r, T1, V1, rfl, hC, hR1⟩ := hx
    refine k_i2l Xc d_L_kind_8 (n := 9) rfl ?_
    refine k_last Xc d_L_kind_9 (n := 10) rfl hol ((hF ol hne).trans hfo) ?_
    refine k_goto Xc d_L_kind_10 (t := 21) rfl ?_
    refine k_iconst Xc d_L_kind_21 (n := 22) rfl ?_
    refine k_iret Xc d_L_kind_22 hr rfl (Nat.le_refl _) (Nat.le_refl _) ?_
    refine ⟨rfl, 0, r, T1, V1, _, rfl, hC, zRm_keep hR1 (fun c hc => va_up_ne _ _ (Ne.symm (hne c hc))), fun q h1 h2 => (va_up_ne _ _ h2).trans (hF q h1), va_up_self _ _ _, fun _ => ?_⟩
    exact rfl
set_option maxRecDepth 100000 in
set_option maxHeartbeats 4000000 in
theorem m_L_fits (l : Launch) (hlt : l.stackTraces = false) (D : va_G) (G : Nat → ClassId) {L : List Nat} {f : Nat → va_E} {ad : Nat → Nat} {T : Nat → TT} {V : Nat → Int} (hR : zRm G L f ad T V) (z9 k9 : Nat) (hA : rAll T V z9 k9) (kd x y t : Int) (hkd : zO kd) (hx : zO x) (hy : zO y) (ht : zO t) {ol : Nat} {g : Nat → Int64} (hol : ol ∈ L) (hfo : f ol = zlo G g) (hne : ∀ c, c < 400 → ol ≠ ad c) : zMt l D G y_L_fits (.codeWith y_L_fits c_L_fits 7 (some .int) [((0 : Nat), (21 : Nat), (24 : Nat), (13 : Nat))] :: BG) (zRx 7 156) [.ref (ad 0), .int (zI kd), .int (zI x), .int (zI y), .int (zI t), .ref ol] L f (hQ G L f ad ol (cFit T V z9 k9 kd x y t)) := by
  refine zMt.of (by decide) (Nat.le_of_ble_eq_true rfl) rfl (fun p e s m args below meth c A Xc hTh htab hr => ?_)
  refine k_aload Xc d_L_fits_0 rfl (n := 2) rfl ?_
  refine k_iconst Xc d_L_fits_2 (n := 3) rfl ?_
  refine k_aload_n Xc d_L_fits_3 rfl rfl (n := 4) rfl ?_
  refine k_iload_n Xc d_L_fits_4 rfl rfl (n := 5) rfl ?_
  refine k_iload_n Xc d_L_fits_5 rfl rfl (n := 6) rfl ?_
  refine k_iload_n Xc d_L_fits_6 rfl rfl (n := 7) rfl ?_
  refine k_iload Xc d_L_fits_7 rfl (n := 9) rfl ?_
  refine k_callX (na := 4) Xc hTh (m_R_fits l hlt D G hR z9 k9 hA kd x y t hkd hx hy ht) hR.2.2.2.2.2.1.1 hR.2.2.2.2.2.1.2 rfl wd_398 wd_395 wd_396 wd_397 wd_1 (by decide +kernel) ⟨by decide, by decide⟩ rfl rfl (Nat.le_of_ble_eq_true rfl) d_L_fits_9 (n := 12) rfl ⟨by decide, by decide⟩ ?_ ?_
  · intro E L1 f1 hx
    obtain ⟨rfl, hF, k, T1, V1, hk, he, hC, hR1⟩ := hx
    match k, hk, he, hC with
    | 1, _, he, hC =>
      obtain rfl := Option.some.inj he
      refine ⟨[], ⟨0, 21, 24, 13⟩, [], "java/lang/IllegalArgumentException", htab, (fun z hz => absurd hz (List.not_mem_nil)), rfl, by decide, wd_188, List.mem_of_getElem? (i := 0) rfl, fun q => ?_⟩
      refine k_astore Xc d_L_fits_24 (by decide) (n := 26) rfl ?_
      refine k_iconst Xc d_L_fits_26 (n := 27) rfl ?_
      refine k_iret Xc d_L_fits_27 hr rfl (Nat.le_refl _) (Nat.le_refl _) ?_
      exact ⟨rfl, 1, 0, T1, V1, g, rfl, hC, hR1, fun q h1 _ => hF q h1, (hF ol hne).trans hfo, fun h => absurd h (by decide)⟩
    | k + 2, _, he, _ => cases he
  · intro v L1 f1 hx
    obtain ⟨rfl, hF, r, T1, V1, rfl, hC, hR1⟩ := hx
    rcases cFit_01 hC with hr1 | hr1
    · subst hr1
      refine k_if_eq Xc d_L_fits_12 (t := 19) (n := 15) rfl rfl (by omega) (fun h => absurd h (by omega)) (fun _ => ?_)
      refine k_lconst Xc d_L_fits_15 (v := 1) rfl (n := 16) rfl ?_
      refine k_goto Xc d_L_fits_16 (t := 20) rfl ?_
      refine k_last Xc d_L_fits_20 (n := 21) rfl hol ((hF ol hne).trans hfo) ?_
      refine k_goto Xc d_L_fits_21 (t := 28) rfl ?_
      refine k_iconst Xc d_L_fits_28 (n := 29) rfl ?_
      refine k_iret Xc d_L_fits_29 hr rfl (Nat.le_refl _) (Nat.le_refl _) ?_
      refine ⟨rfl, 0, _, T1, V1, _, rfl, hC, zRm_keep hR1 (fun c hc => va_up_ne _ _ (Ne.symm (hne c hc))), fun q h1 h2 => (va_up_ne _ _ h2).trans (hF q h1), va_up_self _ _ _, fun _ => ?_⟩
      rfl
    · subst hr1
      refine k_if_eq Xc d_L_fits_12 (t := 19) (n := 15) rfl rfl (by omega) (fun _ => ?_) (fun h => absurd h (by omega))
      refine k_lconst Xc d_L_fits_19 (v := 0) rfl (n := 20) rfl ?_
      refine k_last Xc d_L_fits_20 (n := 21) rfl hol ((hF ol hne).trans hfo) ?_
      refine k_goto Xc d_L_fits_21 (t := 28) rfl ?_
      refine k_iconst Xc d_L_fits_28 (n := 29) rfl ?_
      refine k_iret Xc d_L_fits_29 hr rfl (Nat.le_refl _) (Nat.le_refl _) ?_
      refine ⟨rfl, 0, _, T1, V1, _, rfl, hC, zRm_keep hR1 (fun c hc => va_up_ne _ _ (Ne.symm (hne c hc))), fun q h1 h2 => (va_up_ne _ _ h2).trans (hF q h1), va_up_self _ _ _, fun _ => ?_⟩
      rfl
set_option maxRecDepth 100000 in
set_option maxHeartbeats 4000000 in
theorem m_L_best (l : Launch) (hlt : l.stackTraces = false) (D : va_G) (G : Nat → ClassId) {L : List Nat} {f : Nat → va_E} {ad : Nat → Nat} {T : Nat → TT} {V : Nat → Int} (hR : zRm G L f ad T V) (z9 k9 : Nat) (hA : rAll T V z9 k9) (kd : Int) (hkd : zO kd) {ol : Nat} {g : Nat → Int64} (hol : ol ∈ L) (hfo : f ol = zlo G g) (hne : ∀ c, c < 400 → ol ≠ ad c) : zMt l D G y_L_best (.codeWith y_L_best c_L_best 4 (some .int) [((0 : Nat), (9 : Nat), (12 : Nat), (13 : Nat)), ((0 : Nat), (9 : Nat), (15 : Nat), (37 : Nat))] :: BG) (zRx 7 178) [.ref (ad 0), .int (zI kd), .ref ol] L f (hQ G L f ad ol (cBes T V z9 k9 kd)) := by
  refine zMt.of (by decide) (Nat.le_of_ble_eq_true rfl) rfl (fun p e s m args below meth c A Xc hTh htab hr => ?_)
  refine k_aload_n Xc d_L_best_0 rfl rfl (n := 1) rfl ?_
  refine k_iconst Xc d_L_best_1 (n := 2) rfl ?_
  refine k_aload_n Xc d_L_best_2 rfl rfl (n := 3) rfl ?_
  refine k_iload_n Xc d_L_best_3 rfl rfl (n := 4) rfl ?_
  refine k_callX (na := 1) Xc hTh (m_R_best l hlt D G hR z9 k9 hA kd hkd) hR.2.2.2.2.2.1.1 hR.2.2.2.2.2.1.2 rfl wd_462 wd_459 wd_460 wd_461 wd_1 (by decide +kernel) ⟨by decide, by decide⟩ rfl rfl (Nat.le_of_ble_eq_true rfl) d_L_best_4 (n := 7) rfl ⟨by decide, by decide⟩ ?_ ?_
  · intro E L1 f1 hx
    obtain ⟨rfl, hF, k, T1, V1, hk, he, hC, hR1⟩ := hx
    match k, hk, he, hC with
    | 1, _, he, hC =>
      obtain rfl := Option.some.inj he
      refine ⟨[], ⟨0, 9, 12, 13⟩, [⟨0, 9, 15, 37⟩], "java/lang/IllegalArgumentException", htab, (fun z hz => absurd hz (List.not_mem_nil)), rfl, by decide, wd_188, List.mem_of_getElem? (i := 0) rfl, fun q => ?_⟩
      refine k_astore_n Xc d_L_best_12 rfl (by decide) (n := 13) rfl ?_
      refine k_iconst Xc d_L_best_13 (n := 14) rfl ?_
      refine k_iret Xc d_L_best_14 hr rfl (Nat.le_refl _) (Nat.le_refl _) ?_
      exact ⟨rfl, 1, 0, T1, V1, g, rfl, hC, hR1, fun q h1 _ => hF q h1, (hF ol hne).trans hfo, fun h => absurd h (by decide)⟩
    | 2, _, he, hC =>
      obtain rfl := Option.some.inj he
      refine ⟨[⟨0, 9, 12, 13⟩], ⟨0, 9, 15, 37⟩, [], "java/util/NoSuchElementException", htab, ?_, rfl, by decide, wd_458, List.mem_of_getElem? (i := 8) rfl, fun q => ?_⟩
      · intro z hz
        simp only [List.mem_cons, List.not_mem_nil, or_false] at hz
        subst hz
        exact Or.inr ⟨by decide, "java/lang/IllegalArgumentException", wd_188, by decide⟩
      · refine k_astore_n Xc d_L_best_15 rfl (by decide) (n := 16) rfl ?_
        refine k_iconst Xc d_L_best_16 (n := 17) rfl ?_
        refine k_iret Xc d_L_best_17 hr rfl (Nat.le_refl _) (Nat.le_refl _) ?_
        exact ⟨rfl, 2, 0, T1, V1, g, rfl, hC, hR1, fun q h1 _ => hF q h1, (hF ol hne).trans hfo, fun h => absurd h (by decide)⟩
    | k + 3, _, he, _ => cases he
  · intro v L1 f1 hx
    obtain ⟨rfl, hF, r, T1, V1, rfl, hC, hR1⟩ := hx
    refine k_i2l Xc d_L_best_7 (n := 8) rfl ?_
    refine k_last Xc d_L_best_8 (n := 9) rfl hol ((hF ol hne).trans hfo) ?_
    refine k_goto Xc d_L_best_9 (t := 18) rfl ?_
    refine k_iconst Xc d_L_best_18 (n := 19) rfl ?_
    refine k_iret Xc d_L_best_19 hr rfl (Nat.le_refl _) (Nat.le_refl _) ?_
    refine ⟨rfl, 0, r, T1, V1, _, rfl, hC, zRm_keep hR1 (fun c hc => va_up_ne _ _ (Ne.symm (hne c hc))), fun q h1 h2 => (va_up_ne _ _ h2).trans (hF q h1), va_up_self _ _ _, fun _ => ?_⟩
    exact rfl
set_option maxRecDepth 100000 in
set_option maxHeartbeats 4000000 in
theorem m_L_lay (l : Launch) (hlt : l.stackTraces = false) (D : va_G) (G : Nat → ClassId) {L : List Nat} {f : Nat → va_E} {ad : Nat → Nat} {T : Nat → TT} {V : Nat → Int} (hR : zRm G L f ad T V) (z9 k9 : Nat) (hA : rAll T V z9 k9) (kd : Int) (hkd : zO kd) {ol : Nat} {g : Nat → Int64} (hol : ol ∈ L) (hfo : f ol = zlo G g) (hne : ∀ c, c < 400 → ol ≠ ad c) : zMt l D G y_L_lay (.codeWith y_L_lay c_L_lay 4 (some .int) [((0 : Nat), (9 : Nat), (12 : Nat), (13 : Nat)), ((0 : Nat), (9 : Nat), (15 : Nat), (15 : Nat)), ((0 : Nat), (9 : Nat), (18 : Nat), (37 : Nat))] :: BG) (zRx 7 181) [.ref (ad 0), .int (zI kd), .ref ol] L f (hQ G L f ad ol (cLay T V z9 k9 kd)) := by
  refine zMt.of (by decide) (Nat.le_of_ble_eq_true rfl) rfl (fun p e s m args below meth c A Xc hTh htab hr => ?_)
  refine k_aload_n Xc d_L_lay_0 rfl rfl (n := 1) rfl ?_
  refine k_iconst Xc d_L_lay_1 (n := 2) rfl ?_
  refine k_aload_n Xc d_L_lay_2 rfl rfl (n := 3) rfl ?_
  refine k_iload_n Xc d_L_lay_3 rfl rfl (n := 4) rfl ?_
  refine k_callX (na := 1) Xc hTh (m_R_lay l hlt D G hR z9 k9 hA kd hkd) hR.2.2.2.2.2.1.1 hR.2.2.2.2.2.1.2 rfl wd_490 wd_487 wd_488 wd_489 wd_1 (by decide +kernel) ⟨by decide, by decide⟩ rfl rfl (Nat.le_of_ble_eq_true rfl) d_L_lay_4 (n := 7) rfl ⟨by decide, by decide⟩ ?_ ?_
  · intro E L1 f1 hx
    obtain ⟨rfl, hF, k, T1, V1, hk, he, hC, hR1⟩ := hx
    match k, hk, he, hC with
    | 1, _, he, hC =>
      obtain rfl := Option.some.inj he
      refine ⟨[], ⟨0, 9, 12, 13⟩, [⟨0, 9, 15, 15⟩, ⟨0, 9, 18, 37⟩], "java/lang/IllegalArgumentException", htab, (fun z hz => absurd hz (List.not_mem_nil)), rfl, by decide, wd_188, List.mem_of_getElem? (i := 0) rfl, fun q => ?_⟩
      refine k_astore_n Xc d_L_lay_12 rfl (by decide) (n := 13) rfl ?_
      refine k_iconst Xc d_L_lay_13 (n := 14) rfl ?_
      refine k_iret Xc d_L_lay_14 hr rfl (Nat.le_refl _) (Nat.le_refl _) ?_
      exact ⟨rfl, 1, 0, T1, V1, g, rfl, hC, hR1, fun q h1 _ => hF q h1, (hF ol hne).trans hfo, fun h => absurd h (by decide)⟩
    | 2, _, he, hC =>
      obtain rfl := Option.some.inj he
      refine ⟨[⟨0, 9, 12, 13⟩], ⟨0, 9, 15, 15⟩, [⟨0, 9, 18, 37⟩], "java/lang/IllegalStateException", htab, ?_, rfl, by decide, wd_189, List.mem_of_getElem? (i := 7) rfl, fun q => ?_⟩
      · intro z hz
        simp only [List.mem_cons, List.not_mem_nil, or_false] at hz
        subst hz
        exact Or.inr ⟨by decide, "java/lang/IllegalArgumentException", wd_188, by decide⟩
      · refine k_astore_n Xc d_L_lay_15 rfl (by decide) (n := 16) rfl ?_
        refine k_iconst Xc d_L_lay_16 (n := 17) rfl ?_
        refine k_iret Xc d_L_lay_17 hr rfl (Nat.le_refl _) (Nat.le_refl _) ?_
        exact ⟨rfl, 2, 0, T1, V1, g, rfl, hC, hR1, fun q h1 _ => hF q h1, (hF ol hne).trans hfo, fun h => absurd h (by decide)⟩
    | 3, _, he, hC =>
      obtain rfl := Option.some.inj he
      refine ⟨[⟨0, 9, 12, 13⟩, ⟨0, 9, 15, 15⟩], ⟨0, 9, 18, 37⟩, [], "java/util/NoSuchElementException", htab, ?_, rfl, by decide, wd_458, List.mem_of_getElem? (i := 8) rfl, fun q => ?_⟩
      · intro z hz
        simp only [List.mem_cons, List.not_mem_nil, or_false] at hz
        rcases hz with rfl | rfl
        · exact Or.inr ⟨by decide, "java/lang/IllegalArgumentException", wd_188, by decide⟩
        · exact Or.inr ⟨by decide, "java/lang/IllegalStateException", wd_189, by decide⟩
      · refine k_astore_n Xc d_L_lay_18 rfl (by decide) (n := 19) rfl ?_
        refine k_iconst Xc d_L_lay_19 (n := 20) rfl ?_
        refine k_iret Xc d_L_lay_20 hr rfl (Nat.le_refl _) (Nat.le_refl _) ?_
        exact ⟨rfl, 3, 0, T1, V1, g, rfl, hC, hR1, fun q h1 _ => hF q h1, (hF ol hne).trans hfo, fun h => absurd h (by decide)⟩
    | k + 4, _, he, _ => cases he
  · intro v L1 f1 hx
    obtain ⟨rfl, hF, r, T1, V1, rfl, hC, hR1⟩ := hx
    refine k_i2l Xc d_L_lay_7 (n := 8) rfl ?_
    refine k_last Xc d_L_lay_8 (n := 9) rfl hol ((hF ol hne).trans hfo) ?_
    refine k_goto Xc d_L_lay_9 (t := 21) rfl ?_
    refine k_iconst Xc d_L_lay_21 (n := 22) rfl ?_
    refine k_iret Xc d_L_lay_22 hr rfl (Nat.le_refl _) (Nat.le_refl _) ?_
    refine ⟨rfl, 0, r, T1, V1, _, rfl, hC, zRm_keep hR1 (fun c hc => va_up_ne _ _ (Ne.symm (hne c hc))), fun q h1 h2 => (va_up_ne _ _ h2).trans (hF q h1), va_up_self _ _ _, fun _ => ?_⟩
    exact rfl
set_option maxRecDepth 100000 in
set_option maxHeartbeats 4000000 in
theorem m_L_put (l : Launch) (hlt : l.stackTraces = false) (D : va_G) (G : Nat → ClassId) {L : List Nat} {f : Nat → va_E} {ad : Nat → Nat} {T : Nat → TT} {V : Nat → Int} (hR : zRm G L f ad T V) (z9 k9 : Nat) (hA : rAll T V z9 k9) (kd x y t : Int) (hkd : zO kd) (hx : zO x) (hy : zO y) (ht : zO t) {ol : Nat} {g : Nat → Int64} (hol : ol ∈ L) (hfo : f ol = zlo G g) (hne : ∀ c, c < 400 → ol ≠ ad c) : zMt l D G y_L_put (.codeWith y_L_put c_L_put 7 (some .int) [((0 : Nat), (14 : Nat), (17 : Nat), (13 : Nat)), ((0 : Nat), (14 : Nat), (21 : Nat), (15 : Nat)), ((0 : Nat), (14 : Nat), (25 : Nat), (46 : Nat))] :: BG) (zRx 7 156) [.ref (ad 0), .int (zI kd), .int (zI x), .int (zI y), .int (zI t), .ref ol] L f (hQ G L f ad ol (cPut T V z9 k9 kd x y t)) := by
  refine zMt.of (by decide) (Nat.le_of_ble_eq_true rfl) rfl (fun p e s m args below meth c A Xc hTh htab hr => ?_)
  refine k_aload Xc d_L_put_0 rfl (n := 2) rfl ?_
  refine k_iconst Xc d_L_put_2 (n := 3) rfl ?_
  refine k_aload_n Xc d_L_put_3 rfl rfl (n := 4) rfl ?_
  refine k_iload_n Xc d_L_put_4 rfl rfl (n := 5) rfl ?_
  refine k_iload_n Xc d_L_put_5 rfl rfl (n := 6) rfl ?_
  refine k_iload_n Xc d_L_put_6 rfl rfl (n := 7) rfl ?_
  refine k_iload Xc d_L_put_7 rfl (n := 9) rfl ?_
  refine k_callX (na := 4) Xc hTh (m_R_put l hlt D G hR z9 k9 hA kd x y t hkd hx hy ht) hR.2.2.2.2.2.1.1 hR.2.2.2.2.2.1.2 rfl wd_507 wd_504 wd_505 wd_506 wd_1 (by decide +kernel) ⟨by decide, by decide⟩ rfl rfl (Nat.le_of_ble_eq_true rfl) d_L_put_9 (n := 12) rfl ⟨by decide, by decide⟩ ?_ ?_
  · intro E L1 f1 hx
    obtain ⟨rfl, hF, k, T1, V1, hk, he, hC, hR1⟩ := hx
    match k, hk, he, hC with
    | 1, _, he, hC =>
      obtain rfl := Option.some.inj he
      refine ⟨[], ⟨0, 14, 17, 13⟩, [⟨0, 14, 21, 15⟩, ⟨0, 14, 25, 46⟩], "java/lang/IllegalArgumentException", htab, (fun z hz => absurd hz (List.not_mem_nil)), rfl, by decide, wd_188, List.mem_of_getElem? (i := 0) rfl, fun q => ?_⟩
      refine k_astore Xc d_L_put_17 (by decide) (n := 19) rfl ?_
      refine k_iconst Xc d_L_put_19 (n := 20) rfl ?_
      refine k_iret Xc d_L_put_20 hr rfl (Nat.le_refl _) (Nat.le_refl _) ?_
      exact ⟨rfl, 1, 0, T1, V1, g, rfl, hC, hR1, fun q h1 _ => hF q h1, (hF ol hne).trans hfo, fun h => absurd h (by decide)⟩
    | 2, _, he, hC =>
      obtain rfl := Option.some.inj he
      refine ⟨[⟨0, 14, 17, 13⟩], ⟨0, 14, 21, 15⟩, [⟨0, 14, 25, 46⟩], "java/lang/IllegalStateException", htab, ?_, rfl, by decide, wd_189, List.mem_of_getElem? (i := 7) rfl, fun q => ?_⟩
      · intro z hz
        simp only [List.mem_cons, List.not_mem_nil, or_false] at hz
        subst hz
        exact Or.inr ⟨by decide, "java/lang/IllegalArgumentException", wd_188, by decide⟩
      · refine k_astore Xc d_L_put_21 (by decide) (n := 23) rfl ?_
        refine k_iconst Xc d_L_put_23 (n := 24) rfl ?_
        refine k_iret Xc d_L_put_24 hr rfl (Nat.le_refl _) (Nat.le_refl _) ?_
        exact ⟨rfl, 2, 0, T1, V1, g, rfl, hC, hR1, fun q h1 _ => hF q h1, (hF ol hne).trans hfo, fun h => absurd h (by decide)⟩
    | 3, _, he, hC =>
      obtain rfl := Option.some.inj he
      refine ⟨[⟨0, 14, 17, 13⟩, ⟨0, 14, 21, 15⟩], ⟨0, 14, 25, 46⟩, [], "java/lang/UnsupportedOperationException", htab, ?_, rfl, by decide, wd_503, List.mem_of_getElem? (i := 9) rfl, fun q => ?_⟩
      · intro z hz
        simp only [List.mem_cons, List.not_mem_nil, or_false] at hz
        rcases hz with rfl | rfl
        · exact Or.inr ⟨by decide, "java/lang/IllegalArgumentException", wd_188, by decide⟩
        · exact Or.inr ⟨by decide, "java/lang/IllegalStateException", wd_189, by decide⟩
      · refine k_astore Xc d_L_put_25 (by decide) (n := 27) rfl ?_
        refine k_iconst Xc d_L_put_27 (n := 28) rfl ?_
        refine k_iret Xc d_L_put_28 hr rfl (Nat.le_refl _) (Nat.le_refl _) ?_
        exact ⟨rfl, 3, 0, T1, V1, g, rfl, hC, hR1, fun q h1 _ => hF q h1, (hF ol hne).trans hfo, fun h => absurd h (by decide)⟩
    | k + 4, _, he, _ => cases he
  · intro v L1 f1 hx
    obtain ⟨rfl, hF, r, T1, V1, rfl, hC, hR1⟩ := hx
    refine k_i2l Xc d_L_put_12 (n := 13) rfl ?_
    refine k_last Xc d_L_put_13 (n := 14) rfl hol ((hF ol hne).trans hfo) ?_
    refine k_goto Xc d_L_put_14 (t := 29) rfl ?_
    refine k_iconst Xc d_L_put_29 (n := 30) rfl ?_
    refine k_iret Xc d_L_put_30 hr rfl (Nat.le_refl _) (Nat.le_refl _) ?_
    refine ⟨rfl, 0, r, T1, V1, _, rfl, hC, zRm_keep hR1 (fun c hc => va_up_ne _ _ (Ne.symm (hne c hc))), fun q h1 h2 => (va_up_ne _ _ h2).trans (hF q h1), va_up_self _ _ _, fun _ => ?_⟩
    exact rfl
set_option maxRecDepth 100000 in
set_option maxHeartbeats 4000000 in
theorem m_L_take (l : Launch) (hlt : l.stackTraces = false) (D : va_G) (G : Nat → ClassId) {L : List Nat} {f : Nat → va_E} {ad : Nat → Nat} {T : Nat → TT} {V : Nat → Int} (hR : zRm G L f ad T V) (z9 k9 : Nat) (hA : rAll T V z9 k9) (q : Int) (hq : zO q) {ol : Nat} {g : Nat → Int64} (hol : ol ∈ L) (hfo : f ol = zlo G g) (hne : ∀ c, c < 400 → ol ≠ ad c) : zMt l D G y_L_take (.codeWith y_L_take c_L_take 4 (some .int) [((0 : Nat), (9 : Nat), (12 : Nat), (37 : Nat))] :: BG) (zRx 7 103) [.ref (ad 0), .int (zI q), .ref ol] L f (hQ G L f ad ol (cTak T V q)) := by
  refine zMt.of (by decide) (Nat.le_of_ble_eq_true rfl) rfl (fun p e s m args below meth c A Xc hTh htab hr => ?_)
  refine k_aload_n Xc d_L_take_0 rfl rfl (n := 1) rfl ?_
  refine k_iconst Xc d_L_take_1 (n := 2) rfl ?_
  refine k_aload_n Xc d_L_take_2 rfl rfl (n := 3) rfl ?_
  refine k_iload_n Xc d_L_take_3 rfl rfl (n := 4) rfl ?_
  refine k_callX (na := 1) Xc hTh (m_R_take l hlt D G hR z9 k9 hA q hq) hR.2.2.2.2.2.1.1 hR.2.2.2.2.2.1.2 rfl wd_530 wd_527 wd_528 wd_529 wd_1 (by decide +kernel) ⟨by decide, by decide⟩ rfl rfl (Nat.le_of_ble_eq_true rfl) d_L_take_4 (n := 7) rfl ⟨by decide, by decide⟩ ?_ ?_
  · intro E L1 f1 hx
    obtain ⟨rfl, hF, k, T1, V1, hk, he, hC, hR1⟩ := hx
    match k, hk, he, hC with
    | 1, _, he, hC =>
      obtain rfl := Option.some.inj he
      refine ⟨[], ⟨0, 9, 12, 37⟩, [], "java/util/NoSuchElementException", htab, (fun z hz => absurd hz (List.not_mem_nil)), rfl, by decide, wd_458, List.mem_of_getElem? (i := 8) rfl, fun q => ?_⟩
      refine k_astore_n Xc d_L_take_12 rfl (by decide) (n := 13) rfl ?_
      refine k_iconst Xc d_L_take_13 (n := 14) rfl ?_
      refine k_iret Xc d_L_take_14 hr rfl (Nat.le_refl _) (Nat.le_refl _) ?_
      exact ⟨rfl, 1, 0, T1, V1, g, rfl, hC, hR1, fun q h1 _ => hF q h1, (hF ol hne).trans hfo, fun h => absurd h (by decide)⟩
    | k + 2, _, he, _ => cases he
  · intro v L1 f1 hx
    obtain ⟨rfl, hF, r, T1, V1, rfl, hC, hR1⟩ := hx
    refine k_i2l Xc d_L_take_7 (n := 8) rfl ?_
    refine k_last Xc d_L_take_8 (n := 9) rfl hol ((hF ol hne).trans hfo) ?_
    refine k_goto Xc d_L_take_9 (t := 15) rfl ?_
    refine k_iconst Xc d_L_take_15 (n := 16) rfl ?_
    refine k_iret Xc d_L_take_16 hr rfl (Nat.le_refl _) (Nat.le_refl _) ?_
    refine ⟨rfl, 0, r, T1, V1, _, rfl, hC, zRm_keep hR1 (fun c hc => va_up_ne _ _ (Ne.symm (hne c hc))), fun q h1 h2 => (va_up_ne _ _ h2).trans (hF q h1), va_up_self _ _ _, fun _ => ?_⟩
    exact rfl
set_option maxRecDepth 100000 in
set_option maxHeartbeats 4000000 in
theorem m_L_part (l : Launch) (hlt : l.stackTraces = false) (D : va_G) (G : Nat → ClassId) {L : List Nat} {f : Nat → va_E} {ad : Nat → Nat} {T : Nat → TT} {V : Nat → Int} (hR : zRm G L f ad T V) (z9 k9 : Nat) (hA : rAll T V z9 k9) (q w : Int) (hq : zO q) (hw : zO w) {ol : Nat} {g : Nat → Int64} (hol : ol ∈ L) (hfo : f ol = zlo G g) (hne : ∀ c, c < 400 → ol ≠ ad c) : zMt l D G y_L_part (.codeWith y_L_part c_L_part 5 (some .int) [((0 : Nat), (10 : Nat), (13 : Nat), (13 : Nat)), ((0 : Nat), (10 : Nat), (17 : Nat), (37 : Nat))] :: BG) (zRx 7 104) [.ref (ad 0), .int (zI q), .int (zI w), .ref ol] L f (hQ G L f ad ol (cPrt T V q w)) := by
  refine zMt.of (by decide) (Nat.le_of_ble_eq_true rfl) rfl (fun p e s m args below meth c A Xc hTh htab hr => ?_)
  refine k_aload_n Xc d_L_part_0 rfl rfl (n := 1) rfl ?_
  refine k_iconst Xc d_L_part_1 (n := 2) rfl ?_
  refine k_aload_n Xc d_L_part_2 rfl rfl (n := 3) rfl ?_
  refine k_iload_n Xc d_L_part_3 rfl rfl (n := 4) rfl ?_
  refine k_iload_n Xc d_L_part_4 rfl rfl (n := 5) rfl ?_
  refine k_callX (na := 2) Xc hTh (m_R_part l hlt D G hR z9 k9 hA q w hq hw) hR.2.2.2.2.2.1.1 hR.2.2.2.2.2.1.2 rfl wd_542 wd_539 wd_540 wd_541 wd_1 (by decide +kernel) ⟨by decide, by decide⟩ rfl rfl (Nat.le_of_ble_eq_true rfl) d_L_part_5 (n := 8) rfl ⟨by decide, by decide⟩ ?_ ?_
  · intro E L1 f1 hx
    obtain ⟨rfl, hF, k, T1, V1, hk, he, hC, hR1⟩ := hx
    match k, hk, he, hC with
    | 1, _, he, hC =>
      obtain rfl := Option.some.inj he
      refine ⟨[], ⟨0, 10, 13, 13⟩, [⟨0, 10, 17, 37⟩], "java/lang/IllegalArgumentException", htab, (fun z hz => absurd hz (List.not_mem_nil)), rfl, by decide, wd_188, List.mem_of_getElem? (i := 0) rfl, fun q => ?_⟩
      refine k_astore Xc d_L_part_13 (by decide) (n := 15) rfl ?_
      refine k_iconst Xc d_L_part_15 (n := 16) rfl ?_
      refine k_iret Xc d_L_part_16 hr rfl (Nat.le_refl _) (Nat.le_refl _) ?_
      exact ⟨rfl, 1, 0, T1, V1, g, rfl, hC, hR1, fun q h1 _ => hF q h1, (hF ol hne).trans hfo, fun h => absurd h (by decide)⟩
    | 2, _, he, hC =>
      obtain rfl := Option.some.inj he
      refine ⟨[⟨0, 10, 13, 13⟩], ⟨0, 10, 17, 37⟩, [], "java/util/NoSuchElementException", htab, ?_, rfl, by decide, wd_458, List.mem_of_getElem? (i := 8) rfl, fun q => ?_⟩
      · intro z hz
        simp only [List.mem_cons, List.not_mem_nil, or_false] at hz
        subst hz
        exact Or.inr ⟨by decide, "java/lang/IllegalArgumentException", wd_188, by decide⟩
      · refine k_astore Xc d_L_part_17 (by decide) (n := 19) rfl ?_
        refine k_iconst Xc d_L_part_19 (n := 20) rfl ?_
        refine k_iret Xc d_L_part_20 hr rfl (Nat.le_refl _) (Nat.le_refl _) ?_
        exact ⟨rfl, 2, 0, T1, V1, g, rfl, hC, hR1, fun q h1 _ => hF q h1, (hF ol hne).trans hfo, fun h => absurd h (by decide)⟩
    | k + 3, _, he, _ => cases he
  · intro v L1 f1 hx
    obtain ⟨rfl, hF, r, T1, V1, rfl, hC, hR1⟩ := hx
    refine k_i2l Xc d_L_part_8 (n := 9) rfl ?_
    refine k_last Xc d_L_part_9 (n := 10) rfl hol ((hF ol hne).trans hfo) ?_
    refine k_goto Xc d_L_part_10 (t := 21) rfl ?_
    refine k_iconst Xc d_L_part_21 (n := 22) rfl ?_
    refine k_iret Xc d_L_part_22 hr rfl (Nat.le_refl _) (Nat.le_refl _) ?_
    refine ⟨rfl, 0, r, T1, V1, _, rfl, hC, zRm_keep hR1 (fun c hc => va_up_ne _ _ (Ne.symm (hne c hc))), fun q h1 h2 => (va_up_ne _ _ h2).trans (hF q h1), va_up_self _ _ _, fun _ => ?_⟩
    exact rfl
