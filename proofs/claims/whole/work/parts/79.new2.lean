-- NEW: the room
def TT0 : TT := (0, fun _ => 0, fun _ => 0, 0, 0, 0, 0)
def V0 : Nat → Int := fun _ => 0
/-- which shapes, which codes are made -/
def bS (nz nk np s : Nat) : Prop := s < 3 + nz ∨ (8 ≤ s ∧ s < 8 + 4 * nk) ∨ (32 ≤ s ∧ s < 32 + np)
def bU (nz nk np c : Nat) : Prop := c ≤ 3 ∨ (10 ≤ c ∧ c < 10 + nz) ∨ (20 ≤ c ∧ c < 20 + nk) ∨ (30 ≤ c ∧ c < 30 + nk) ∨ (40 ≤ c ∧ c < 40 + np) ∨ (100 ≤ c ∧ c < 200 ∧ (c < 103 + nz ∨ (108 ≤ c ∧ c < 108 + 4 * nk) ∨ (132 ≤ c ∧ c < 132 + np))) ∨ (200 ≤ c ∧ c < 300 ∧ (c < 203 + nz ∨ (208 ≤ c ∧ c < 208 + 4 * nk) ∨ (232 ≤ c ∧ c < 232 + np))) ∨ (300 ≤ c ∧ c < 400 ∧ (c < 303 + nz ∨ (308 ≤ c ∧ c < 308 + 4 * nk) ∨ (332 ≤ c ∧ c < 332 + np)))
def zBd (G : Nat → ClassId) (L : List Nat) (f : Nat → va_E) (ad : Nat → Nat) (nz nk np : Nat) : Prop :=
  (∀ c, bU nz nk np c → ad c ∈ L) ∧ (∀ c d, bU nz nk np c → bU nz nk np d → ad c = ad d → c = d) ∧ (∀ s, bS nz nk np s → shp G f (ad (100 + s)) (ad (200 + s)) (ad (300 + s))) ∧
  (∀ i, i < nz → f (ad (10 + i)) = .inr (3, [.ref (ad (103 + i)), .int (zI 0)])) ∧ (∀ i, i < nk → f (ad (20 + i)) = .inr (0, [.ref (ad (30 + i)), .int (zI 0), .int (zI 0)]) ∧ f (ad (30 + i)) = zwo G 2 4 (ptn 4 (fun t => ad (108 + 4 * i + t)))) ∧
  (∀ i, i < np → f (ad (40 + i)) = .inr (1, [.ref (ad (132 + i)), .int (zI 0), .int (zI 0), .int (zI 0), .int (zI 0), .int (zI 0)])) ∧
  f (ad 0) = .inr (4, [.ref (ad 100), .ref (ad 101), .ref (ad 102), .ref (ad 1), .ref (ad 2), .ref (ad 3), .int (zI 0), .int (zI 0), .int (zI 0)]) ∧
  f (ad 1) = zwo G 3 5 (ptn nz (fun i => ad (10 + i))) ∧ f (ad 2) = zwo G 4 6 (ptn nk (fun i => ad (20 + i))) ∧ f (ad 3) = zwo G 5 12 (ptn np (fun i => ad (40 + i)))
theorem ptn_congr {n : Nat} {X Y : Nat → Nat} (h : ∀ j, j < n → X j = Y j) : ptn n X = ptn n Y := by
  funext j
  unfold ptn
  by_cases c : j < n
  · rw [if_pos c, if_pos c, h j c]
  · rw [if_neg c, if_neg c]
section BD
variable {G : Nat → ClassId} {L L1 : List Nat} {f f1 f2 : Nat → va_E} {ad ad' : Nat → Nat} {nz nk np : Nat}
theorem bS_U {s : Nat} (hz : nz ≤ 5) (hk : nk ≤ 6) (hp : np ≤ 12) (hs : bS nz nk np s) : bU nz nk np (100 + s) ∧ bU nz nk np (200 + s) ∧ bU nz nk np (300 + s) := by unfold bS at hs; unfold bU; omega
theorem zBd_keep (h : zBd G L f ad nz nk np) (hz : nz ≤ 5) (hk : nk ≤ 6) (hp : np ≤ 12) (hL : ∀ z, z ∈ L → z ∈ L1) (ha : ∀ c, bU nz nk np c → ad' c = ad c) (hf : ∀ z, z ∈ L → f1 z = f z) : zBd G L1 f1 ad' nz nk np := by
  obtain ⟨h1, h2, h3, h4, h5, h6, h7, h8, h9, h10⟩ := h
  have k : ∀ c, bU nz nk np c → f1 (ad' c) = f (ad c) := fun c hc => by rw [ha c hc]; exact hf _ (h1 c hc)
  refine ⟨fun c hc => by rw [ha c hc]; exact hL _ (h1 c hc), fun c d hc hd => by rw [ha c hc, ha d hd]; exact h2 c d hc hd, fun s hs => ?_, fun i hi => ?_, fun i hi => ⟨?_, ?_⟩, fun i hi => ?_, ?_, ?_, ?_, ?_⟩
  · obtain ⟨u1, u2, u3⟩ := bS_U hz hk hp hs
    obtain ⟨a1, a2, a3⟩ := h3 s hs
    refine ⟨?_, (k _ u2).trans a2, (k _ u3).trans a3⟩
    rw [k _ u1, ha _ u2, ha _ u3]; exact a1
  · rw [k _ (by unfold bU; omega), ha _ (by unfold bU; omega)]; exact h4 i hi
  · rw [k _ (by unfold bU; omega), ha _ (by unfold bU; omega)]; exact (h5 i hi).1
  · rw [k _ (by unfold bU; omega), (h5 i hi).2]
    exact congrArg _ (ptn_congr (fun j hj => (ha _ (by unfold bU; omega)).symm))
  · rw [k _ (by unfold bU; omega), ha _ (by unfold bU; omega)]; exact h6 i hi
  · rw [k _ (by unfold bU; omega), ha 100 (by unfold bU; omega), ha 101 (by unfold bU; omega), ha 102 (by unfold bU; omega), ha 1 (by unfold bU; omega), ha 2 (by unfold bU; omega), ha 3 (by unfold bU; omega)]; exact h7
  · rw [k _ (by unfold bU; omega), h8]
    exact congrArg _ (ptn_congr (fun j hj => (ha _ (by unfold bU; omega)).symm))
  · rw [k _ (by unfold bU; omega), h9]
    exact congrArg _ (ptn_congr (fun j hj => (ha _ (by unfold bU; omega)).symm))
  · rw [k _ (by unfold bU; omega), h10]
    exact congrArg _ (ptn_congr (fun j hj => (ha _ (by unfold bU; omega)).symm))
/-- one of the three rows changes -/
theorem zBd_row (h : zBd G L f ad nz nk np) (hz : nz ≤ 5) (hk : nk ≤ 6) (hp : np ≤ 12) {c : Nat} (hc : c = 1 ∨ c = 2 ∨ c = 3) (hf : ∀ z, z ≠ ad c → f1 z = f z) : ∀ d, bU nz nk np d → d ≠ c → f1 (ad d) = f (ad d) := fun d hd hdc => hf _ (fun e => hdc (h.2.1 d c hd (by unfold bU; omega) e))
/-- the new codes: their addresses are new and apart -/
def nwc (U U' : Nat → Prop) (ad : Nat → Nat) (L L1 : List Nat) : Prop := (∀ c, U' c → ¬ U c → ad c ∈ L1 ∧ ad c ∉ L) ∧ ∀ c d, U' c → ¬ U c → U' d → ¬ U d → ad c = ad d → c = d
theorem inj_ext {U U' : Nat → Prop} (hL : ∀ z, z ∈ L → z ∈ L1) (hm : ∀ c, U c → ad c ∈ L) (hi : ∀ c d, U c → U d → ad c = ad d → c = d) (hn : nwc U U' ad L L1) : (∀ c, U' c → ad c ∈ L1) ∧ ∀ c d, U' c → U' d → ad c = ad d → c = d := by
  refine ⟨fun c hc => ?_, fun c d hc hd e => ?_⟩
  · by_cases q : U c
    · exact hL _ (hm c q)
    · exact (hn.1 c hc q).1
  · by_cases q : U c <;> by_cases r : U d
    · exact hi c d q r e
    · exact absurd (e ▸ hm c q) (hn.1 d hd r).2
    · exact absurd (e ▸ hm d r) (hn.1 c hc q).2
    · exact hn.2 c d hc q hd r e
end BD
/-- the addresses with one zone more -/
def adZ (ad b : Nat → Nat) (i : Nat) : Nat → Nat := fun c => if c = 10 + i then b 0 else if c = 103 + i then b 1 else if c = 203 + i then b 2 else if c = 303 + i then b 3 else ad c
def adP (ad b : Nat → Nat) (i : Nat) : Nat → Nat := fun c => if c = 40 + i then b 0 else if c = 132 + i then b 1 else if c = 232 + i then b 2 else if c = 332 + i then b 3 else ad c
def adK (ad b : Nat → Nat) (i : Nat) : Nat → Nat := fun c => if c = 20 + i then b 0 else if c = 30 + i then b 1 else if 108 + 4 * i ≤ c ∧ c < 112 + 4 * i then b (2 + 3 * (c - (108 + 4 * i))) else if 208 + 4 * i ≤ c ∧ c < 212 + 4 * i then b (3 + 3 * (c - (208 + 4 * i))) else if 308 + 4 * i ≤ c ∧ c < 312 + 4 * i then b (4 + 3 * (c - (308 + 4 * i))) else ad c
section BD2
variable {G : Nat → ClassId} {L L1 : List Nat} {f f1 f2 : Nat → va_E} {ad b : Nat → Nat} {nz nk np : Nat}
theorem adZ_0 {i : Nat} : adZ ad b i (10 + i) = b 0 := if_pos rfl
theorem adZ_1 {i : Nat} : adZ ad b i (103 + i) = b 1 := by unfold adZ; rw [if_neg (by omega), if_pos rfl]
theorem adZ_2 {i : Nat} : adZ ad b i (203 + i) = b 2 := by unfold adZ; rw [if_neg (by omega), if_neg (by omega), if_pos rfl]
theorem adZ_3 {i : Nat} : adZ ad b i (303 + i) = b 3 := by unfold adZ; rw [if_neg (by omega), if_neg (by omega), if_neg (by omega), if_pos rfl]
theorem adZ_n {i c : Nat} (h0 : c ≠ 10 + i) (h1 : c ≠ 103 + i) (h2 : c ≠ 203 + i) (h3 : c ≠ 303 + i) : adZ ad b i c = ad c := by unfold adZ; rw [if_neg h0, if_neg h1, if_neg h2, if_neg h3]
theorem adP_0 {i : Nat} : adP ad b i (40 + i) = b 0 := if_pos rfl
theorem adP_1 {i : Nat} : adP ad b i (132 + i) = b 1 := by unfold adP; rw [if_neg (by omega), if_pos rfl]
theorem adP_2 {i : Nat} : adP ad b i (232 + i) = b 2 := by unfold adP; rw [if_neg (by omega), if_neg (by omega), if_pos rfl]
theorem adP_3 {i : Nat} : adP ad b i (332 + i) = b 3 := by unfold adP; rw [if_neg (by omega), if_neg (by omega), if_neg (by omega), if_pos rfl]
theorem adP_n {i c : Nat} (h0 : c ≠ 40 + i) (h1 : c ≠ 132 + i) (h2 : c ≠ 232 + i) (h3 : c ≠ 332 + i) : adP ad b i c = ad c := by unfold adP; rw [if_neg h0, if_neg h1, if_neg h2, if_neg h3]
theorem adK_0 {i : Nat} : adK ad b i (20 + i) = b 0 := if_pos rfl
theorem adK_1 {i : Nat} (h : i < 6) : adK ad b i (30 + i) = b 1 := by unfold adK; rw [if_neg (by omega), if_pos rfl]
theorem adK_2 {i t : Nat} (h : i < 6) (ht : t < 4) : adK ad b i (108 + 4 * i + t) = b (2 + 3 * t) := by unfold adK; rw [if_neg (by omega), if_neg (by omega), if_pos (by omega), show 108 + 4 * i + t - (108 + 4 * i) = t by omega]
theorem adK_3 {i t : Nat} (h : i < 6) (ht : t < 4) : adK ad b i (208 + 4 * i + t) = b (3 + 3 * t) := by unfold adK; rw [if_neg (by omega), if_neg (by omega), if_neg (by omega), if_pos (by omega), show 208 + 4 * i + t - (208 + 4 * i) = t by omega]
theorem adK_4 {i t : Nat} (h : i < 6) (ht : t < 4) : adK ad b i (308 + 4 * i + t) = b (4 + 3 * t) := by unfold adK; rw [if_neg (by omega), if_neg (by omega), if_neg (by omega), if_neg (by omega), if_pos (by omega), show 308 + 4 * i + t - (308 + 4 * i) = t by omega]
theorem adK_n {i c : Nat} (h0 : c ≠ 20 + i) (h1 : c ≠ 30 + i) (h2 : ¬ (108 + 4 * i ≤ c ∧ c < 112 + 4 * i)) (h3 : ¬ (208 + 4 * i ≤ c ∧ c < 212 + 4 * i)) (h4 : ¬ (308 + 4 * i ≤ c ∧ c < 312 + 4 * i)) : adK ad b i c = ad c := by unfold adK; rw [if_neg h0, if_neg h1, if_neg h2, if_neg h3, if_neg h4]
/-- one zone more -/
theorem zBd_Z (h : zBd G L f ad nz nk np) (hz : nz < 5) (hk : nk ≤ 6) (hp : np ≤ 12) (hb : nw 4 b L L1) (hf : ∀ z, z ∈ L → f1 z = f z) (g0 : f1 (b 0) = .inr (3, [.ref (b 1), .int (zI 0)])) (gs : shp G f1 (b 1) (b 2) (b 3)) (g1 : f2 (ad 1) = zwo G 3 5 (va_up (ptn nz (fun i => ad (10 + i))) nz (some (b 0)))) (r2 : ∀ z, z ≠ ad 1 → f2 z = f1 z) : zBd G L1 f2 (adZ ad b nz) (nz + 1) nk np := by
  have old : ∀ c, bU nz nk np c → adZ ad b nz c = ad c := fun c hc => adZ_n (by unfold bU at hc; omega) (by unfold bU at hc; omega) (by unfold bU at hc; omega) (by unfold bU at hc; omega)
  have h' := zBd_keep h (by omega) hk hp hb.1 old hf
  have new : ∀ c, bU (nz + 1) nk np c → ¬ bU nz nk np c → c = 10 + nz ∨ c = 103 + nz ∨ c = 203 + nz ∨ c = 303 + nz := fun c h1 h2 => by unfold bU at h1 h2; omega
  have val : ∀ c, bU (nz + 1) nk np c → ¬ bU nz nk np c → ∃ k, k < 4 ∧ adZ ad b nz c = b k ∧ c = (if k = 0 then 10 + nz else if k = 1 then 103 + nz else if k = 2 then 203 + nz else 303 + nz) := fun c h1 h2 => by
    rcases new c h1 h2 with rfl | rfl | rfl | rfl
    · exact ⟨0, by omega, adZ_0, rfl⟩
    · exact ⟨1, by omega, adZ_1, rfl⟩
    · exact ⟨2, by omega, adZ_2, rfl⟩
    · exact ⟨3, by omega, adZ_3, rfl⟩
  have hn : nwc (bU nz nk np) (bU (nz + 1) nk np) (adZ ad b nz) L L1 := by
    refine ⟨fun c h1 h2 => ?_, fun c d h1 h2 h3 h4 e => ?_⟩
    · obtain ⟨k, hk, e, -⟩ := val c h1 h2
      rw [e]; exact hb.2.1 k hk
    · obtain ⟨k, hk, e1, c1⟩ := val c h1 h2
      obtain ⟨j, hj, e2, c2⟩ := val d h3 h4
      rw [e1, e2] at e
      have := hb.2.2 k j hk hj e
      subst this
      exact c1.trans c2.symm
  obtain ⟨q1, q2⟩ := inj_ext hb.1 (fun c hc => by rw [old c hc]; exact h.1 c hc) (fun c d hc hd => by rw [old c hc, old d hd]; exact h.2.1 c d hc hd) hn
  have o1 : adZ ad b nz 1 = ad 1 := old 1 (by unfold bU; omega)
  have m1 : ad 1 ∈ L := h.1 1 (by unfold bU; omega)
  have keep : ∀ c, bU nz nk np c → c ≠ 1 → f2 (adZ ad b nz c) = f1 (adZ ad b nz c) := fun c hc h1 => r2 _ (fun e => h1 (q2 c 1 (by unfold bU at *; omega) (by unfold bU; omega) (e.trans o1.symm)))
  have kb : ∀ k, k < 4 → f2 (b k) = f1 (b k) := fun k hk => r2 _ (Ne.symm (ne_of m1 (hb.2.1 k hk).2))
  obtain ⟨-, -, h3, h4, h5, h6, h7, h8, h9, h10⟩ := h'
  refine ⟨q1, q2, fun s hs => ?_, fun i hi => ?_, fun i hi => ⟨?_, ?_⟩, fun i hi => ?_, ?_, ?_, ?_, ?_⟩
  · by_cases e : s = 3 + nz
    · subst e
      rw [show 100 + (3 + nz) = 103 + nz by omega, show 200 + (3 + nz) = 203 + nz by omega, show 300 + (3 + nz) = 303 + nz by omega, adZ_1, adZ_2, adZ_3]
      exact shp_keep gs (kb 1 (by omega)) (kb 2 (by omega)) (kb 3 (by omega))
    · have hs' : bS nz nk np s := by unfold bS at *; omega
      obtain ⟨u1, u2, u3⟩ := bS_U (by omega) hk hp hs'
      exact shp_keep (h3 s hs') (keep _ u1 (by omega)) (keep _ u2 (by omega)) (keep _ u3 (by omega))
  · by_cases e : i = nz
    · subst e
      rw [adZ_0, adZ_1, kb 0 (by omega)]; exact g0
    · rw [keep _ (by unfold bU; omega) (by omega)]; exact h4 i (by omega)
  · rw [keep _ (by unfold bU; omega) (by omega)]; exact (h5 i hi).1
  · rw [keep _ (by unfold bU; omega) (by omega)]; exact (h5 i hi).2
  · rw [keep _ (by unfold bU; omega) (by omega)]; exact h6 i hi
  · rw [keep _ (by unfold bU; omega) (by omega)]; exact h7
  · rw [o1, g1]
    exact congrArg _ (ptn_s (fun j hj => adZ_n (by omega) (by omega) (by omega) (by omega)) adZ_0)
  · rw [keep _ (by unfold bU; omega) (by omega)]; exact h9
  · rw [keep _ (by unfold bU; omega) (by omega)]; exact h10
/-- one part more -/
theorem zBd_P (h : zBd G L f ad nz nk np) (hz : nz ≤ 5) (hk : nk ≤ 6) (hp : np < 12) (hb : nw 4 b L L1) (hf : ∀ z, z ∈ L → f1 z = f z) (g0 : f1 (b 0) = .inr (1, [.ref (b 1), .int (zI 0), .int (zI 0), .int (zI 0), .int (zI 0), .int (zI 0)])) (gs : shp G f1 (b 1) (b 2) (b 3)) (g1 : f2 (ad 3) = zwo G 5 12 (va_up (ptn np (fun i => ad (40 + i))) np (some (b 0)))) (r2 : ∀ z, z ≠ ad 3 → f2 z = f1 z) : zBd G L1 f2 (adP ad b np) nz nk (np + 1) := by
  have old : ∀ c, bU nz nk np c → adP ad b np c = ad c := fun c hc => adP_n (by unfold bU at hc; omega) (by unfold bU at hc; omega) (by unfold bU at hc; omega) (by unfold bU at hc; omega)
  have h' := zBd_keep h hz hk (by omega) hb.1 old hf
  have new : ∀ c, bU nz nk (np + 1) c → ¬ bU nz nk np c → c = 40 + np ∨ c = 132 + np ∨ c = 232 + np ∨ c = 332 + np := fun c h1 h2 => by unfold bU at h1 h2; omega
  have val : ∀ c, bU nz nk (np + 1) c → ¬ bU nz nk np c → ∃ k, k < 4 ∧ adP ad b np c = b k ∧ c = (if k = 0 then 40 + np else if k = 1 then 132 + np else if k = 2 then 232 + np else 332 + np) := fun c h1 h2 => by
    rcases new c h1 h2 with rfl | rfl | rfl | rfl
    · exact ⟨0, by omega, adP_0, rfl⟩
    · exact ⟨1, by omega, adP_1, rfl⟩
    · exact ⟨2, by omega, adP_2, rfl⟩
    · exact ⟨3, by omega, adP_3, rfl⟩
  have hn : nwc (bU nz nk np) (bU nz nk (np + 1)) (adP ad b np) L L1 := by
    refine ⟨fun c h1 h2 => ?_, fun c d h1 h2 h3 h4 e => ?_⟩
    · obtain ⟨k, hk, e, -⟩ := val c h1 h2
      rw [e]; exact hb.2.1 k hk
    · obtain ⟨k, hk, e1, c1⟩ := val c h1 h2
      obtain ⟨j, hj, e2, c2⟩ := val d h3 h4
      rw [e1, e2] at e
      have := hb.2.2 k j hk hj e
      subst this
      exact c1.trans c2.symm
  obtain ⟨q1, q2⟩ := inj_ext hb.1 (fun c hc => by rw [old c hc]; exact h.1 c hc) (fun c d hc hd => by rw [old c hc, old d hd]; exact h.2.1 c d hc hd) hn
  have o1 : adP ad b np 3 = ad 3 := old 3 (by unfold bU; omega)
  have m1 : ad 3 ∈ L := h.1 3 (by unfold bU; omega)
  have keep : ∀ c, bU nz nk np c → c ≠ 3 → f2 (adP ad b np c) = f1 (adP ad b np c) := fun c hc h1 => r2 _ (fun e => h1 (q2 c 3 (by unfold bU at *; omega) (by unfold bU; omega) (e.trans o1.symm)))
  have kb : ∀ k, k < 4 → f2 (b k) = f1 (b k) := fun k hk => r2 _ (Ne.symm (ne_of m1 (hb.2.1 k hk).2))
  obtain ⟨-, -, h3, h4, h5, h6, h7, h8, h9, h10⟩ := h'
  refine ⟨q1, q2, fun s hs => ?_, fun i hi => ?_, fun i hi => ⟨?_, ?_⟩, fun i hi => ?_, ?_, ?_, ?_, ?_⟩
  · by_cases e : s = 32 + np
    · subst e
      rw [show 100 + (32 + np) = 132 + np by omega, show 200 + (32 + np) = 232 + np by omega, show 300 + (32 + np) = 332 + np by omega, adP_1, adP_2, adP_3]
      exact shp_keep gs (kb 1 (by omega)) (kb 2 (by omega)) (kb 3 (by omega))
    · have hs' : bS nz nk np s := by unfold bS at *; omega
      obtain ⟨u1, u2, u3⟩ := bS_U hz hk (by omega) hs'
      exact shp_keep (h3 s hs') (keep _ u1 (by omega)) (keep _ u2 (by omega)) (keep _ u3 (by omega))
  · rw [keep _ (by unfold bU; omega) (by omega)]; exact h4 i hi
  · rw [keep _ (by unfold bU; omega) (by omega)]; exact (h5 i hi).1
  · rw [keep _ (by unfold bU; omega) (by omega)]; exact (h5 i hi).2
  · by_cases e : i = np
    · subst e
      rw [adP_0, adP_1, kb 0 (by omega)]; exact g0
    · rw [keep _ (by unfold bU; omega) (by omega)]; exact h6 i (by omega)
  · rw [keep _ (by unfold bU; omega) (by omega)]; exact h7
  · rw [keep _ (by unfold bU; omega) (by omega)]; exact h8
  · rw [keep _ (by unfold bU; omega) (by omega)]; exact h9
  · rw [o1, g1]
    exact congrArg _ (ptn_s (fun j hj => adP_n (by omega) (by omega) (by omega) (by omega)) adP_0)
/-- one kind more -/
theorem zBd_K (h : zBd G L f ad nz nk np) (hz : nz ≤ 5) (hk : nk < 6) (hp : np ≤ 12) (hb : nw 14 b L L1) (hf : ∀ z, z ∈ L → f1 z = f z) (g0 : f1 (b 0) = .inr (0, [.ref (b 1), .int (zI 0), .int (zI 0)])) (g9 : f1 (b 1) = zwo G 2 4 (ptn 4 (fun t => b (2 + 3 * t)))) (gs : ∀ t, t < 4 → shp G f1 (b (2 + 3 * t)) (b (3 + 3 * t)) (b (4 + 3 * t))) (g1 : f2 (ad 2) = zwo G 4 6 (va_up (ptn nk (fun i => ad (20 + i))) nk (some (b 0)))) (r2 : ∀ z, z ≠ ad 2 → f2 z = f1 z) : zBd G L1 f2 (adK ad b nk) nz (nk + 1) np := by
  have old : ∀ c, bU nz nk np c → adK ad b nk c = ad c := fun c hc => adK_n (by unfold bU at hc; omega) (by unfold bU at hc; omega) (by unfold bU at hc; omega) (by unfold bU at hc; omega) (by unfold bU at hc; omega)
  have h' := zBd_keep h hz (by omega) hp hb.1 old hf
  have new : ∀ c, bU nz (nk + 1) np c → ¬ bU nz nk np c → c = 20 + nk ∨ c = 30 + nk ∨ (∃ t, t < 4 ∧ c = 108 + 4 * nk + t) ∨ (∃ t, t < 4 ∧ c = 208 + 4 * nk + t) ∨ (∃ t, t < 4 ∧ c = 308 + 4 * nk + t) := fun c h1 h2 => by
    unfold bU at h1 h2
    rcases (show c = 20 + nk ∨ c = 30 + nk ∨ (108 + 4 * nk ≤ c ∧ c < 112 + 4 * nk) ∨ (208 + 4 * nk ≤ c ∧ c < 212 + 4 * nk) ∨ (308 + 4 * nk ≤ c ∧ c < 312 + 4 * nk) by omega) with q | q | q | q | q
    · exact Or.inl q
    · exact Or.inr (Or.inl q)
    · exact Or.inr (Or.inr (Or.inl ⟨c - (108 + 4 * nk), by omega, by omega⟩))
    · exact Or.inr (Or.inr (Or.inr (Or.inl ⟨c - (208 + 4 * nk), by omega, by omega⟩)))
    · exact Or.inr (Or.inr (Or.inr (Or.inr ⟨c - (308 + 4 * nk), by omega, by omega⟩)))
  have val : ∀ c, bU nz (nk + 1) np c → ¬ bU nz nk np c → ∃ k, k < 14 ∧ adK ad b nk c = b k ∧ ((k = 0 ∧ c = 20 + nk) ∨ (k = 1 ∧ c = 30 + nk) ∨ (∃ t, t < 4 ∧ k = 2 + 3 * t ∧ c = 108 + 4 * nk + t) ∨ (∃ t, t < 4 ∧ k = 3 + 3 * t ∧ c = 208 + 4 * nk + t) ∨ (∃ t, t < 4 ∧ k = 4 + 3 * t ∧ c = 308 + 4 * nk + t)) := fun c h1 h2 => by
    rcases new c h1 h2 with rfl | rfl | ⟨t, ht, rfl⟩ | ⟨t, ht, rfl⟩ | ⟨t, ht, rfl⟩
    · exact ⟨0, by omega, adK_0, Or.inl ⟨rfl, rfl⟩⟩
    · exact ⟨1, by omega, adK_1 hk, Or.inr (Or.inl ⟨rfl, rfl⟩)⟩
    · exact ⟨2 + 3 * t, by omega, adK_2 hk ht, Or.inr (Or.inr (Or.inl ⟨t, ht, rfl, rfl⟩))⟩
    · exact ⟨3 + 3 * t, by omega, adK_3 hk ht, Or.inr (Or.inr (Or.inr (Or.inl ⟨t, ht, rfl, rfl⟩)))⟩
    · exact ⟨4 + 3 * t, by omega, adK_4 hk ht, Or.inr (Or.inr (Or.inr (Or.inr ⟨t, ht, rfl, rfl⟩)))⟩
  have hn : nwc (bU nz nk np) (bU nz (nk + 1) np) (adK ad b nk) L L1 := by
    refine ⟨fun c h1 h2 => ?_, fun c d h1 h2 h3 h4 e => ?_⟩
    · obtain ⟨k, hk, e, -⟩ := val c h1 h2
      rw [e]; exact hb.2.1 k hk
    · obtain ⟨k, hk, e1, c1⟩ := val c h1 h2
      obtain ⟨j, hj, e2, c2⟩ := val d h3 h4
      rw [e1, e2] at e
      have := hb.2.2 k j hk hj e
      subst this
      rcases c1 with ⟨a, a'⟩ | ⟨a, a'⟩ | ⟨t, ht, a, a'⟩ | ⟨t, ht, a, a'⟩ | ⟨t, ht, a, a'⟩ <;> rcases c2 with ⟨b, b'⟩ | ⟨b, b'⟩ | ⟨u, hu, b, b'⟩ | ⟨u, hu, b, b'⟩ | ⟨u, hu, b, b'⟩ <;> omega
  obtain ⟨q1, q2⟩ := inj_ext hb.1 (fun c hc => by rw [old c hc]; exact h.1 c hc) (fun c d hc hd => by rw [old c hc, old d hd]; exact h.2.1 c d hc hd) hn
  have o1 : adK ad b nk 2 = ad 2 := old 2 (by unfold bU; omega)
  have m1 : ad 2 ∈ L := h.1 2 (by unfold bU; omega)
  have keep : ∀ c, bU nz nk np c → c ≠ 2 → f2 (adK ad b nk c) = f1 (adK ad b nk c) := fun c hc h1 => r2 _ (fun e => h1 (q2 c 2 (by unfold bU at *; omega) (by unfold bU; omega) (e.trans o1.symm)))
  have kb : ∀ k, k < 14 → f2 (b k) = f1 (b k) := fun k hk => r2 _ (Ne.symm (ne_of m1 (hb.2.1 k hk).2))
  obtain ⟨-, -, h3, h4, h5, h6, h7, h8, h9, h10⟩ := h'
  refine ⟨q1, q2, fun s hs => ?_, fun i hi => ?_, fun i hi => ⟨?_, ?_⟩, fun i hi => ?_, ?_, ?_, ?_, ?_⟩
  · by_cases e : 8 + 4 * nk ≤ s ∧ s < 12 + 4 * nk
    · obtain ⟨t, ht, rfl⟩ : ∃ t, t < 4 ∧ s = 8 + 4 * nk + t := ⟨s - (8 + 4 * nk), by omega, by omega⟩
      rw [show 100 + (8 + 4 * nk + t) = 108 + 4 * nk + t by omega, show 200 + (8 + 4 * nk + t) = 208 + 4 * nk + t by omega, show 300 + (8 + 4 * nk + t) = 308 + 4 * nk + t by omega, adK_2 hk ht, adK_3 hk ht, adK_4 hk ht]
      exact shp_keep (gs t ht) (kb _ (by omega)) (kb _ (by omega)) (kb _ (by omega))
    · have hs' : bS nz nk np s := by unfold bS at *; omega
      obtain ⟨u1, u2, u3⟩ := bS_U hz (by omega) hp hs'
      exact shp_keep (h3 s hs') (keep _ u1 (by omega)) (keep _ u2 (by omega)) (keep _ u3 (by omega))
  · rw [keep _ (by unfold bU; omega) (by omega)]; exact h4 i hi
  · by_cases e : i = nk
    · subst e
      rw [adK_0, adK_1 hk, kb 0 (by omega)]; exact g0
    · rw [keep _ (by unfold bU; omega) (by omega)]; exact (h5 i (by omega)).1
  · by_cases e : i = nk
    · subst e
      rw [adK_1 hk, kb 1 (by omega), g9]
      exact congrArg _ (ptn_congr (fun j hj => (adK_2 hk hj).symm))
    · rw [keep _ (by unfold bU; omega) (by omega)]; exact (h5 i (by omega)).2
  · rw [keep _ (by unfold bU; omega) (by omega)]; exact h6 i hi
  · rw [keep _ (by unfold bU; omega) (by omega)]; exact h7
  · rw [keep _ (by unfold bU; omega) (by omega)]; exact h8
  · rw [o1, g1]
    exact congrArg _ (ptn_s (fun j hj => adK_n (by omega) (by omega) (by omega) (by omega) (by omega)) adK_0)
  · rw [keep _ (by unfold bU; omega) (by omega)]; exact h10
end BD2
