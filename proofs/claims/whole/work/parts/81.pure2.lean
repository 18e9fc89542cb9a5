-- PURE: the class's state and the reference's rows
def zP (R : Nat → Int → Int) (z : Nat) : Nat → Int × Int := fun j => (R 4 (6 * (z : Int) + (j : Int)), R 5 (6 * (z : Int) + (j : Int)))
theorem kp_mv (R : Nat → Int → Int) (kd t : Nat) (x y : Int) (a : Nat) : kp R kd t x y a = mvP (kp R kd t 0 0 a) x y := by
  funext j
  unfold kp mvP
  exact Prod.ext (by dsimp only; omega) (by dsimp only; omega)
def wRel (T : Nat → TT) (w : Nat) (R : Nat → Int → Int) : Prop := w ≤ 12 ∧ (T 0).1 = w ∧ (∀ j : Nat, j < w → (T 0).2.1 (j : Int) = R 0 (j : Int) ∧ (T 0).2.2.1 (j : Int) = R 1 (j : Int)) ∧ sBx w (T 0).2.1 (T 0).2.2.1 (T 0).2.2.2.1 (T 0).2.2.2.2.1 (T 0).2.2.2.2.2.1 (T 0).2.2.2.2.2.2 ∧ ∀ j : Nat, j < 12 → 0 ≤ R 0 (j : Int) ∧ R 0 (j : Int) ≤ 30 ∧ 0 ≤ R 1 (j : Int) ∧ R 1 (j : Int) ≤ 30
def hRel (T : Nat → TT) (h : Nat) (R : Nat → Int → Int) : Prop := h ≤ 12 ∧ (((T 2).1 = 0 ∧ h = 0 ∧ (T 2).2.2.2.1 = 0 ∧ (T 2).2.2.2.2.1 = 0 ∧ (T 2).2.2.2.2.2.1 = 0 ∧ (T 2).2.2.2.2.2.2 = 0) ∨ hRep T h (sP (R 2) (R 3)))
def oRel (T : Nat → TT) (V : Nat → Int) (z9 : Nat) (R : Nat → Int → Int) : Prop := V 0 = (z9 : Int) ∧ z9 ≤ 5 ∧ mZ R z9 ∧ ∀ z : Nat, z < z9 → V (10 + z) = R 7 (z : Int) ∧ rS T (3 + z) ∧ zRep (T (3 + z)) (R 6 (z : Int)).toNat (zP R z)
def kOkR (R : Nat → Int → Int) (k9 : Nat) : Prop := ∀ k : Nat, k < k9 → 3 ≤ R 10 (k : Int) ∧ R 10 (k : Int) ≤ 6 ∧ 1 ≤ R 11 (k : Int) ∧ R 11 (k : Int) ≤ 4 ∧ 1 ≤ R 12 (k : Int) ∧ R 12 (k : Int) ≤ 15 ∧
    ∀ j : Nat, (j : Int) < R 10 (k : Int) → 0 ≤ R 8 (6 * (k : Int) + (j : Int)) ∧ R 8 (6 * (k : Int) + (j : Int)) ≤ 12 ∧ 0 ≤ R 9 (6 * (k : Int) + (j : Int)) ∧ R 9 (6 * (k : Int) + (j : Int)) ≤ 12
def kRel (T : Nat → TT) (V : Nat → Int) (k9 : Nat) (R : Nat → Int → Int) : Prop := V 1 = (k9 : Int) ∧ k9 ≤ 6 ∧ kOkR R k9 ∧ ∀ k : Nat, k < k9 → V (20 + k) = R 11 (k : Int) ∧ V (30 + k) = R 12 (k : Int) ∧ ∀ t : Nat, t ≤ 3 → rT (T (8 + 4 * k + t)) ∧ zRep (T (8 + 4 * k + t)) (R 10 (k : Int)).toNat (kp R k t 0 0 (R 10 (k : Int)).toNat)
def pRel1 (T : Nat → TT) (V : Nat → Int) (k9 : Nat) (R : Nat → Int → Int) (p : Nat) : Prop := (V (40 + p) = 0 ∧ R 13 (p : Int) = -1) ∨ (V (40 + p) = 1 ∧ ∃ kd : Nat, kd < k9 ∧ R 13 (p : Int) = (kd : Int) ∧ V (60 + p) = R 13 (p : Int) ∧ V (80 + p) = R 14 (p : Int) ∧ V (100 + p) = R 15 (p : Int) ∧ V (120 + p) = R 16 (p : Int) ∧ rS T (32 + p) ∧ zRep (T (32 + p)) (R 10 (kd : Int)).toNat (mPt R p))
def pRel (T : Nat → TT) (V : Nat → Int) (k9 : Nat) (R : Nat → Int → Int) : Prop := (∀ p : Nat, p < 12 → pRel1 T V k9 R p) ∧ V 2 = mcnt (R 13) 12
def zRel (T : Nat → TT) (V : Nat → Int) (w h z9 k9 : Nat) (R : Nat → Int → Int) : Prop := wRel T w R ∧ hRel T h R ∧ oRel T V z9 R ∧ kRel T V k9 R ∧ pRel T V k9 R
theorem rT_rS {T : Nat → TT} {s : Nat} (h : rT (T s)) : rS T s := by
  have b := rT_box h
  exact ⟨h.1, rT_sB h, by omega⟩
theorem rcnt_bd (K : Int → Int) : ∀ n : Nat, 0 ≤ mcnt K n ∧ mcnt K n ≤ (n : Int)
  | 0 => by show 0 ≤ (0 : Int) ∧ (0 : Int) ≤ ((0 : Nat) : Int); omega
  | n + 1 => by
    have := rcnt_bd K n
    show 0 ≤ mcnt K (n + 1) ∧ mcnt K (n + 1) ≤ ((n + 1 : Nat) : Int)
    unfold mcnt
    split <;> omega
theorem mcnt_lt {K : Int → Int} : ∀ {n : Nat}, mcnt K n < (n : Int) → ∃ p : Nat, p < n ∧ K (p : Int) < 0
  | 0, h => by unfold mcnt at h; omega
  | n + 1, h => by
    unfold mcnt at h
    by_cases c : 0 ≤ K (n : Int)
    · rw [if_pos c] at h
      obtain ⟨p, hp, q⟩ := mcnt_lt (K := K) (n := n) (by omega)
      exact ⟨p, by omega, q⟩
    · exact ⟨n, by omega, by omega⟩
section REL
variable {T : Nat → TT} {V : Nat → Int} {w h z9 k9 : Nat} {R : Nat → Int → Int}
theorem pRel_mP (hk : kRel T V k9 R) (hp : pRel T V k9 R) : mP R := by
  intro p hp9
  rcases hp.1 p hp9 with ⟨-, e⟩ | ⟨-, kd, hkd, e, -, -, -, -, rs, rp⟩
  · exact ⟨by omega, by omega, fun q => absurd q (by omega)⟩
  · have k6 := hk.2.1
    have ok := hk.2.2.1 kd hkd
    refine ⟨by omega, by omega, fun _ => ?_⟩
    rw [e]
    refine ⟨ok.1, ok.2.1, fun j hj => ?_⟩
    obtain ⟨r1, r2, r3, r4, r5⟩ := rp
    have jn : j < (R 10 (kd : Int)).toNat := by omega
    have sb := rs.2.1.2
    rcases r4 with q | q
    · have a := q j jn
      have b := sb j (by omega)
      have a1 : (T (32 + p)).2.1 (j : Int) = R 17 (6 * (p : Int) + (j : Int)) := congrArg Prod.fst a
      have a2 : (T (32 + p)).2.2.1 (j : Int) = R 18 (6 * (p : Int) + (j : Int)) := congrArg Prod.snd a
      omega
    · have a := q ((R 10 (kd : Int)).toNat - 1 - j) (by omega)
      have b := sb ((R 10 (kd : Int)).toNat - 1 - j) (by omega)
      unfold ge_rev at a
      rw [show (R 10 (kd : Int)).toNat - 1 - ((R 10 (kd : Int)).toNat - 1 - j) = j by omega] at a
      have a1 : (T (32 + p)).2.1 (((R 10 (kd : Int)).toNat - 1 - j : Nat) : Int) = R 17 (6 * (p : Int) + (j : Int)) := congrArg Prod.fst a
      have a2 : (T (32 + p)).2.2.1 (((R 10 (kd : Int)).toNat - 1 - j : Nat) : Int) = R 18 (6 * (p : Int) + (j : Int)) := congrArg Prod.snd a
      omega
theorem zRel_mI (hr : zRel T V w h z9 k9 R) : mI R h z9 k9 := by
  obtain ⟨-, hh, ho, hk, hp⟩ := hr
  refine ⟨hh.1, fun j hj => ?_, ho.2.1, ho.2.2.1, hk.2.1, hk.2.2.1, pRel_mP hk hp⟩
  rcases hh.2 with ⟨-, e, -⟩ | q
  · omega
  · exact q.2.2.1 j hj
theorem zRel_hp (hr : zRel T V w h z9 k9 R) : ∀ j : Int, 0 ≤ j → j < 12 → -1 ≤ R 13 j ∧ R 13 j ≤ 5 := fun j h0 h1 => by
  obtain ⟨-, -, -, hk, hp⟩ := hr
  have k6 := hk.2.1
  obtain ⟨q, rfl⟩ : ∃ q : Nat, j = (q : Int) := ⟨j.toNat, by omega⟩
  rcases hp.1 q (by omega) with ⟨-, e⟩ | ⟨-, kd, hkd, e, -⟩
  · omega
  · omega
theorem zRel_sB (hr : zRel T V w h z9 k9 R) : sB 12 (R 0) (R 1) := ⟨Nat.le_refl _, fun j hj => by have := hr.1.2.2.2.2 j hj; omega⟩
theorem zRel_hB (hr : zRel T V w h z9 k9 R) : sB h (R 2) (R 3) := ⟨hr.2.1.1, fun j hj => by have := (zRel_mI hr).2.1 j hj; omega⟩
theorem zRel_all (hr : zRel T V w h z9 k9 R) : rAll T V z9 k9 := by
  have hp9 := zRel_hp hr
  obtain ⟨hw, hh, ho, hk, hp⟩ := hr
  have vv : V 2 = mcnt (R 13) 12 := hp.2
  have cb := rcnt_bd (R 13) 12
  refine ⟨⟨by rw [hw.2.1]; exact hw.1, fun j hj => ?_, by rw [hw.2.1]; exact hw.2.2.2.1⟩, ?_, hk.1, by omega, fun q => ?_⟩
  · rw [hw.2.1] at hj
    have a := hw.2.2.1 j hj
    have b := hw.2.2.2.2 j (by have := hw.1; omega)
    rw [a.1, a.2]; exact b
  · have k6 := hk.2.1
    have lies : ∀ i : Nat, i < 12 → V (40 + i) = 0 ∨ V (40 + i) = 1 := fun i hi => by
      rcases hp.1 i hi with ⟨e, -⟩ | ⟨e, -⟩
      · exact Or.inl e
      · exact Or.inr e
    have prt : ∀ i : Nat, i < 12 → V (40 + i) ≠ 0 → rS T (32 + i) := fun i hi h0 => by
      rcases hp.1 i hi with ⟨e, -⟩ | ⟨-, kd, -, -, -, -, -, -, rs, -⟩
      · exact absurd e h0
      · exact rs
    have zon : ∀ i : Nat, i < z9 → rS T (3 + i) ∧ 1 ≤ V (10 + i) ∧ V (10 + i) ≤ 3 := fun i hi => by
      have a := ho.2.2.2 i hi
      have b := ho.2.2.1 i hi
      exact ⟨a.2.1, by omega, by omega⟩
    have knd : ∀ k : Nat, k < k9 → 1 ≤ V (20 + k) ∧ V (20 + k) ≤ 4 ∧ 1 ≤ V (30 + k) ∧ V (30 + k) ≤ 15 ∧ ∀ t : Nat, t ≤ 3 → rS T (8 + 4 * k + t) := fun k hk9 => by
      have a := hk.2.2.2 k hk9
      have b := hk.2.2.1 k hk9
      exact ⟨by omega, by omega, by omega, by omega, fun t ht => rT_rS (a.2.2 t ht).1⟩
    rcases hh.2 with ⟨e0, e1, b1, b2, b3, b4⟩ | q
    · exact ⟨⟨by omega, fun j hj => absurd hj (by omega)⟩, by omega, by omega, ho.1, ho.2.1, zon, knd, lies, prt⟩
    · have hl := hh.1
      obtain ⟨q1, q2, q3, q4, q5, q6⟩ := q
      have cor : ∀ j : Nat, j < h → 0 ≤ (T 2).2.1 (j : Int) ∧ (T 2).2.1 (j : Int) ≤ 30 ∧ 0 ≤ (T 2).2.2.1 (j : Int) ∧ (T 2).2.2.1 (j : Int) ≤ 30 := fun j hj => by
        have a1 : (T 2).2.1 (j : Int) = (sP (R 2) (R 3) j).1 := congrArg Prod.fst (q2 j hj)
        have a2 : (T 2).2.2.1 (j : Int) = (sP (R 2) (R 3) j).2 := congrArg Prod.snd (q2 j hj)
        have := q3 j hj
        omega
      have bd := bx_bd q6 (by omega) cor
      exact ⟨⟨by omega, fun j hj => by have := cor j (by omega); omega⟩, by omega, by omega, ho.1, ho.2.1, zon, knd, lies, prt⟩
  · rw [vv] at q
    obtain ⟨p, hp8, e⟩ := mcnt_lt q
    refine ⟨p, hp8, ?_⟩
    rcases hp.1 p hp8 with ⟨e1, -⟩ | ⟨-, kd, -, e2, -⟩
    · exact e1
    · omega
/-- a kind can lie there -/
theorem cLie_iff (hr : zRel T V w h z9 k9 R) {kd t : Nat} (hkd : kd < k9) (ht : t ≤ 3) (x y : Int) : cLie T V z9 kd t x y ↔ fFit R h z9 kd (R 10 (kd : Int)).toNat t x y := by
  obtain ⟨hw, hh, ho, hk, hp⟩ := hr
  obtain ⟨v1, v2, vt⟩ := hk.2.2.2 kd hkd
  obtain ⟨tT, tR⟩ := vt t ht
  have zo : cZo T V z9 (V (20 + kd)) (8 + 4 * kd + t) x y ↔ fZone R z9 (R 11 (kd : Int)) (R 10 (kd : Int)).toNat (kp R kd t x y (R 10 (kd : Int)).toNat) := by
    unfold cZo fZone fZ1
    rw [v1, kp_mv]
    constructor
    · intro q z hz hg c
      have a := ho.2.2.2 z hz
      exact q z hz (by rw [a.1]; exact hg) ((cOv_iff a.2.2 tR x y).mpr c)
    · intro q z hz hg c
      have a := ho.2.2.2 z hz
      exact q z hz (by rw [← a.1]; exact hg) ((cOv_iff a.2.2 tR x y).mp c)
  have pa : cPa T V (8 + 4 * kd + t) x y ↔ fPart R (R 10 (kd : Int)).toNat (kp R kd t x y (R 10 (kd : Int)).toNat) := by
    unfold cPa fPart fP1
    rw [kp_mv]
    constructor
    · intro q p hp9 h0 c
      rcases hp.1 p hp9 with ⟨-, e⟩ | ⟨e1, kd2, hk2, e2, -, -, -, -, -, rp⟩
      · omega
      · rw [e2] at c
        exact q p hp9 (by omega) ((cOv_iff rp tR x y).mpr c)
    · intro q p hp9 h0 c
      rcases hp.1 p hp9 with ⟨e, -⟩ | ⟨e1, kd2, hk2, e2, -, -, -, -, -, rp⟩
      · exact absurd e h0
      · refine q p hp9 (by omega) ?_
        rw [e2]
        exact (cOv_iff rp tR x y).mp c
  unfold cLie fFit
  rw [v2, zo, pa]
  rcases hh.2 with ⟨e0, e1, -⟩ | hR
  · constructor
    · rintro ⟨-, -, -, -, -, o⟩
      rw [e0] at o
      exact o.elim
    · rintro ⟨-, -, ⟨-, o, -⟩, -⟩
      omega
  · have hi := cHo_iff hR tR x y
    rw [← kp_mv] at hi
    constructor
    · rintro ⟨a, b, c, d, e⟩
      obtain ⟨f1, f2⟩ := hi.mp ⟨b, e⟩
      exact ⟨a, f1, f2, d, c⟩
    · rintro ⟨a, b, c, d, e⟩
      obtain ⟨f1, f2⟩ := hi.mpr ⟨b, c⟩
      exact ⟨a, f1, e, d, f2⟩
theorem mlo_is {v : Nat → Int} : ∀ {k : Nat}, 0 < k → (∀ j, j < k → v j ≤ 100) → (∀ j, j < k → mlo v k ≤ v j) ∧ ∃ j, j < k ∧ v j = mlo v k
  | 0, h, _ => absurd h (by omega)
  | k + 1, _, hb => by
    by_cases c : v k < mlo v k
    · rw [mlo_t c]
      refine ⟨fun j hj => ?_, k, by omega, rfl⟩
      rcases Nat.lt_or_ge j k with d | d
      · have := (mlo_is (v := v) (k := k) (by omega) (fun j hj => hb j (by omega))).1 j d
        omega
      · rw [show j = k by omega]; omega
    · rw [mlo_f c]
      rcases Nat.eq_zero_or_pos k with e | e
      · subst e
        have : mlo v 0 = 100 := rfl
        have b0 := hb 0 (by omega)
        refine ⟨fun j hj => ?_, 0, by omega, ?_⟩
        · rw [show j = 0 by omega]; omega
        · omega
      · obtain ⟨p, j, q, r⟩ := mlo_is (v := v) (k := k) e (fun j hj => hb j (by omega))
        refine ⟨fun i hi => ?_, j, by omega, r⟩
        rcases Nat.lt_or_ge i k with d | d
        · exact p i d
        · rw [show i = k by omega]; omega
/-- the least coordinates of a turned kind are 0, and it isn't flat -/
theorem kp_low (hr : zRel T V w h z9 k9 R) {kd t : Nat} (hkd : kd < k9) (ht : t ≤ 3) : (T (8 + 4 * kd + t)).2.2.2.1 = 0 ∧ (T (8 + 4 * kd + t)).2.2.2.2.2.1 = 0 ∧ 0 < (T (8 + 4 * kd + t)).2.2.2.2.1 ∧ 0 < (T (8 + 4 * kd + t)).2.2.2.2.2.2 := by
  obtain ⟨hw, hh, ho, hk, hp⟩ := hr
  obtain ⟨v1, v2, vt⟩ := hk.2.2.2 kd hkd
  obtain ⟨tT, tR⟩ := vt t ht
  have ok := hk.2.2.1 kd hkd
  obtain ⟨r1, r2, r3, r4, r5⟩ := tR
  generalize hn : (R 10 (kd : Int)).toNat = n at *
  generalize hU : T (8 + 4 * kd + t) = U at *
  have bq : ∀ j : Nat, j < n → -12 ≤ (kq R kd t j).1 ∧ (kq R kd t j).1 ≤ 12 ∧ -12 ≤ (kq R kd t j).2 ∧ (kq R kd t j).2 ≤ 12 := fun j hj => by
    have := ok.2.2.2.2.2.2 j (by omega)
    exact rot_bd t _ ⟨by dsimp only; omega, by dsimp only; omega, by dsimp only; omega, by dsimp only; omega⟩
  have m1 := mlo_is (v := fun j : Nat => (kq R kd t j).1) (k := n) (by omega) (fun j hj => by have := bq j hj; omega)
  have m2 := mlo_is (v := fun j : Nat => (kq R kd t j).2) (k := n) (by omega) (fun j hj => by have := bq j hj; omega)
  obtain ⟨m1a, i1, m1b, m1c⟩ := m1
  obtain ⟨m2a, i2, m2b, m2c⟩ := m2
  have kv : ∀ j : Nat, j < n → 0 ≤ (kp R kd t 0 0 n j).1 ∧ 0 ≤ (kp R kd t 0 0 n j).2 := fun j hj => by
    have a := m1a j hj
    have b := m2a j hj
    unfold kp
    dsimp only
    omega
  have z1 : (kp R kd t 0 0 n i1).1 = 0 := by unfold kp; dsimp only; omega
  have z2 : (kp R kd t 0 0 n i2).2 = 0 := by unfold kp; dsimp only; omega
  obtain ⟨ua, ⟨j1, c1, d1⟩, ⟨j2, c2, d2⟩, ⟨j3, c3, d3⟩, ⟨j4, c4, d4⟩⟩ := r5 (by omega)
  have to : ∀ j : Nat, j < n → ∃ k : Nat, k < n ∧ sP U.2.1 U.2.2.1 j = kp R kd t 0 0 n k := fun j hj => by
    rcases r4 with e | e
    · exact ⟨j, hj, e j hj⟩
    · exact ⟨n - 1 - j, by omega, e j hj⟩
  have fr : ∀ j : Nat, j < n → ∃ k : Nat, k < n ∧ sP U.2.1 U.2.2.1 k = kp R kd t 0 0 n j := fun j hj => by
    rcases r4 with e | e
    · exact ⟨j, hj, e j hj⟩
    · refine ⟨n - 1 - j, by omega, ?_⟩
      rw [e _ (by omega)]
      unfold ge_rev
      rw [show n - 1 - (n - 1 - j) = j by omega]
  have lo1 : U.2.2.2.1 = 0 := by
    obtain ⟨k, hk1, e⟩ := to j1 c1
    have e1 : U.2.1 (j1 : Int) = (kp R kd t 0 0 n k).1 := congrArg Prod.fst e
    have a := kv k hk1
    obtain ⟨k2, hk2, e2⟩ := fr i1 m1b
    have e3 : U.2.1 (k2 : Int) = (kp R kd t 0 0 n i1).1 := congrArg Prod.fst e2
    have b := ua k2 hk2
    omega
  have lo2 : U.2.2.2.2.2.1 = 0 := by
    obtain ⟨k, hk1, e⟩ := to j3 c3
    have e1 : U.2.2.1 (j3 : Int) = (kp R kd t 0 0 n k).2 := congrArg Prod.snd e
    have a := kv k hk1
    obtain ⟨k2, hk2, e2⟩ := fr i2 m2b
    have e3 : U.2.2.1 (k2 : Int) = (kp R kd t 0 0 n i2).2 := congrArg Prod.snd e2
    have b := ua k2 hk2
    omega
  have cc := tri0 (Q := sP U.2.1 U.2.2.1) r2.1 r3
  have x0 := ua 0 (by omega)
  have x1 := ua 1 (by omega)
  have x2 := ua 2 (by omega)
  refine ⟨lo1, lo2, ?_, ?_⟩
  · refine Decidable.byContradiction fun q => cc ?_
    have y0 : (sP U.2.1 U.2.2.1 0).1 = 0 := by show U.2.1 ((0 : Nat) : Int) = 0; omega
    have y1 : (sP U.2.1 U.2.2.1 1).1 = 0 := by show U.2.1 ((1 : Nat) : Int) = 0; omega
    have y2 : (sP U.2.1 U.2.2.1 2).1 = 0 := by show U.2.1 ((2 : Nat) : Int) = 0; omega
    unfold ge_cr
    rw [y0, y1, y2]
    simp
  · refine Decidable.byContradiction fun q => cc ?_
    have y0 : (sP U.2.1 U.2.2.1 0).2 = 0 := by show U.2.2.1 ((0 : Nat) : Int) = 0; omega
    have y1 : (sP U.2.1 U.2.2.1 1).2 = 0 := by show U.2.2.1 ((1 : Nat) : Int) = 0; omega
    have y2 : (sP U.2.1 U.2.2.1 2).2 = 0 := by show U.2.2.1 ((2 : Nat) : Int) = 0; omega
    unfold ge_cr
    rw [y0, y1, y2]
    simp
theorem cF_iff (hr : zRel T V w h z9 k9 R) {kd : Nat} (hkd : kd < k9) (y x t : Int) : cF T V z9 kd y x t ↔ fF R h z9 kd (R 10 (kd : Int)).toNat y x t := by
  have al := zRel_all hr
  have bx := al.2.1.2.1
  constructor
  · rintro ⟨a, b⟩
    exact ⟨by omega, (cLie_iff hr hkd (by omega) x y).mp b⟩
  · rintro ⟨a, b⟩
    have c := (cLie_iff hr hkd (by omega) x y).mpr b
    have d := kp_low hr hkd (t := t.toNat) (by omega)
    obtain ⟨-, ⟨g1, g2, g3, g4⟩, -⟩ := c
    have c := (cLie_iff hr hkd (by omega) x y).mpr b
    exact ⟨by omega, c⟩
end REL
