-- ROOM: queries
/-- a round shape of moderate size, with its box -/
def rS (T : Nat → TT) (s : Nat) : Prop := 3 ≤ (T s).1 ∧ sB (T s).1 (T s).2.1 (T s).2.2.1 ∧ (-1000 ≤ (T s).2.2.2.1 ∧ (T s).2.2.2.1 ≤ 1000 ∧ -1000 ≤ (T s).2.2.2.2.1 ∧ (T s).2.2.2.2.1 ≤ 1000 ∧ -1000 ≤ (T s).2.2.2.2.2.1 ∧ (T s).2.2.2.2.2.1 ≤ 1000 ∧ -1000 ≤ (T s).2.2.2.2.2.2 ∧ (T s).2.2.2.2.2.2 ≤ 1000)
/-- the class: points are inside both, the second moved -/
def cOv (T : Nat → TT) (s u : Nat) (dx dy : Int) : Prop := ¬ ((T u).2.2.2.2.1 + dx ≤ (T s).2.2.2.1 ∨ (T s).2.2.2.2.1 ≤ (T u).2.2.2.1 + dx ∨ (T u).2.2.2.2.2.2 + dy ≤ (T s).2.2.2.2.2.1 ∨ (T s).2.2.2.2.2.2 ≤ (T u).2.2.2.2.2.1 + dy) ∧
  ¬ ge_sp (T s).1 (sP (T s).2.1 (T s).2.2.1) (T u).1 (sP (fun q => (T u).2.1 q + dx) (fun q => (T u).2.2.1 q + dy)) ∧ ¬ ge_sp (T u).1 (sP (T u).2.1 (T u).2.2.1) (T s).1 (sP (fun q => (T s).2.1 q + -dx) (fun q => (T s).2.2.1 q + -dy))
def cBx (T : Nat → TT) (s u : Nat) (dx dy : Int) : Prop := (T s).2.2.2.1 ≤ (T u).2.2.2.1 + dx ∧ (T u).2.2.2.2.1 + dx ≤ (T s).2.2.2.2.1 ∧ (T s).2.2.2.2.2.1 ≤ (T u).2.2.2.2.2.1 + dy ∧ (T u).2.2.2.2.2.2 + dy ≤ (T s).2.2.2.2.2.2
def cHo (T : Nat → TT) (s u : Nat) (dx dy : Int) : Prop := (∀ i : Nat, i < (T s).1 → ¬ sCut (T s).1 (T s).2.1 (T s).2.2.1 (T u).1 (T u).2.1 (T u).2.2.1 (T u).2.2.2.1 (T u).2.2.2.2.1 (T u).2.2.2.2.2.1 (T u).2.2.2.2.2.2 dx dy i) ∧
  ge_odd (T s).1 (ge_3 (sP (T s).2.1 (T s).2.2.1)) ((T u).2.1 0 + (T u).2.1 1 + (T u).2.1 2 + 3 * dx, (T u).2.2.1 0 + (T u).2.2.1 1 + (T u).2.2.1 2 + 3 * dy) (T s).1
def cPa (T : Nat → TT) (V : Nat → Int) (u : Nat) (x y : Int) : Prop := ∀ i : Nat, i < 12 → V (40 + i) ≠ 0 → ¬ cOv T (32 + i) u x y
def cZo (T : Nat → TT) (V : Nat → Int) (z9 : Nat) (g : Int) (u : Nat) (x y : Int) : Prop := ∀ i : Nat, i < z9 → V (10 + i) < g → ¬ cOv T (3 + i) u x y
def cLie (T : Nat → TT) (V : Nat → Int) (z9 kd t : Nat) (x y : Int) : Prop := (∃ xx : Nat, V (30 + kd) = (xx : Int) ∧ xx / 2 ^ t % 2 = 1) ∧ cBx T 2 (8 + 4 * kd + t) x y ∧ cPa T V (8 + 4 * kd + t) x y ∧ cZo T V z9 (V (20 + kd)) (8 + 4 * kd + t) x y ∧ cHo T 2 (8 + 4 * kd + t) x y
def cF (T : Nat → TT) (V : Nat → Int) (z9 kd : Nat) (y x t : Int) : Prop := ((T 2).2.2.2.2.2.1 ≤ y ∧ y < (T 2).2.2.2.2.2.2 ∧ (T 2).2.2.2.1 ≤ x ∧ x < (T 2).2.2.2.2.1 ∧ 0 ≤ t ∧ t ≤ 3) ∧ cLie T V z9 kd t.toNat x y
/-- the class's numbers are as they should be -/
def rOk (T : Nat → TT) (V : Nat → Int) (z9 k9 : Nat) : Prop := sB (T 2).1 (T 2).2.1 (T 2).2.2.1 ∧ (k9 ≤ 6 ∧ 0 ≤ (T 2).2.2.2.1 ∧ (T 2).2.2.2.2.1 ≤ 30 ∧ 0 ≤ (T 2).2.2.2.2.2.1 ∧ (T 2).2.2.2.2.2.2 ≤ 30 ∧ (T 2).2.2.2.1 ≤ 30 ∧ 0 ≤ (T 2).2.2.2.2.1 ∧ (T 2).2.2.2.2.2.1 ≤ 30 ∧ 0 ≤ (T 2).2.2.2.2.2.2) ∧
  (-1000 ≤ (T 2).2.2.2.1 ∧ (T 2).2.2.2.1 ≤ 1000 ∧ -1000 ≤ (T 2).2.2.2.2.1 ∧ (T 2).2.2.2.2.1 ≤ 1000 ∧ -1000 ≤ (T 2).2.2.2.2.2.1 ∧ (T 2).2.2.2.2.2.1 ≤ 1000 ∧ -1000 ≤ (T 2).2.2.2.2.2.2 ∧ (T 2).2.2.2.2.2.2 ≤ 1000) ∧
  V 0 = (z9 : Int) ∧ z9 ≤ 5 ∧ (∀ i : Nat, i < z9 → rS T (3 + i) ∧ 1 ≤ V (10 + i) ∧ V (10 + i) ≤ 3) ∧ (∀ k : Nat, k < k9 → 1 ≤ V (20 + k) ∧ V (20 + k) ≤ 4 ∧ 1 ≤ V (30 + k) ∧ V (30 + k) ≤ 15 ∧ ∀ t : Nat, t ≤ 3 → rS T (8 + 4 * k + t)) ∧
  (∀ i : Nat, i < 12 → V (40 + i) = 0 ∨ V (40 + i) = 1) ∧ (∀ i : Nat, i < 12 → V (40 + i) ≠ 0 → rS T (32 + i))
def cFree (T : Nat → TT) (V : Nat → Int) : Nat → Int
  | 0 => if 0 ≤ ge_ar (T 2).1 (sP (T 2).2.1 (T 2).2.2.1) (T 2).1 then ge_ar (T 2).1 (sP (T 2).2.1 (T 2).2.2.1) (T 2).1 else - ge_ar (T 2).1 (sP (T 2).2.1 (T 2).2.2.1) (T 2).1
  | i + 1 => if V (40 + i) ≠ 0 then cFree T V i - ge_ar (T (32 + i)).1 (sP (T (32 + i)).2.1 (T (32 + i)).2.2.1) (T (32 + i)).1 else cFree T V i
theorem cFree_s (T : Nat → TT) (V : Nat → Int) (i : Nat) : cFree T V (i + 1) = if V (40 + i) ≠ 0 then cFree T V i - ge_ar (T (32 + i)).1 (sP (T (32 + i)).2.1 (T (32 + i)).2.2.1) (T (32 + i)).1 else cFree T V i := rfl
set_option maxRecDepth 100000 in
set_option maxHeartbeats 4000000 in
theorem m_R_isPoint (l : Launch) (D : va_G) (G : Nat → ClassId) {L : List Nat} {f : Nat → va_E} (x y : Int) (hx : zO x) (hy : zO y) : zM l D G y_R_isPoint (.code y_R_isPoint c_R_isPoint 2 (some .boolean) :: BG) (zR0 0 0) [.int (zI x), .int (zI y)] L f (zA L f (fun r => zB (0 ≤ x ∧ x ≤ 30 ∧ 0 ≤ y ∧ y ≤ 30) r)) := by
  refine zM.of (by decide) (Nat.le_of_ble_eq_true rfl) rfl (fun p e s m args below meth c A Xc hr hnm => ?_)
  refine k_iload_n Xc d_R_isPoint_0 rfl rfl (n := 1) rfl ?_
  refine k_if_lt Xc d_R_isPoint_1 (t := 24) (n := 4) rfl rfl (by omega) (fun h_1 => ?_) (fun h_1 => ?_)
  · refine k_iconst Xc d_R_isPoint_24 (n := 25) rfl ?_
    refine k_iret Xc d_R_isPoint_25 hr rfl (Nat.le_refl _) (Nat.le_refl _) ⟨_, rfl, ?_, rfl, rfl⟩
    exact Or.inr ⟨by omega, rfl⟩
  · refine k_iload_n Xc d_R_isPoint_4 rfl rfl (n := 5) rfl ?_
    refine k_bipush Xc d_R_isPoint_5 rfl (n := 7) rfl ?_
    refine k_icmp_gt Xc d_R_isPoint_7 (t := 24) (n := 10) rfl rfl (by omega) (by omega) (fun h_7 => ?_) (fun h_7 => ?_)
    · refine k_iconst Xc d_R_isPoint_24 (n := 25) rfl ?_
      refine k_iret Xc d_R_isPoint_25 hr rfl (Nat.le_refl _) (Nat.le_refl _) ⟨_, rfl, ?_, rfl, rfl⟩
      exact Or.inr ⟨by omega, rfl⟩
    · refine k_iload_n Xc d_R_isPoint_10 rfl rfl (n := 11) rfl ?_
      refine k_if_lt Xc d_R_isPoint_11 (t := 24) (n := 14) rfl rfl (by omega) (fun h_11 => ?_) (fun h_11 => ?_)
      · refine k_iconst Xc d_R_isPoint_24 (n := 25) rfl ?_
        refine k_iret Xc d_R_isPoint_25 hr rfl (Nat.le_refl _) (Nat.le_refl _) ⟨_, rfl, ?_, rfl, rfl⟩
        exact Or.inr ⟨by omega, rfl⟩
      · refine k_iload_n Xc d_R_isPoint_14 rfl rfl (n := 15) rfl ?_
        refine k_bipush Xc d_R_isPoint_15 rfl (n := 17) rfl ?_
        refine k_icmp_gt Xc d_R_isPoint_17 (t := 24) (n := 20) rfl rfl (by omega) (by omega) (fun h_17 => ?_) (fun h_17 => ?_)
        · refine k_iconst Xc d_R_isPoint_24 (n := 25) rfl ?_
          refine k_iret Xc d_R_isPoint_25 hr rfl (Nat.le_refl _) (Nat.le_refl _) ⟨_, rfl, ?_, rfl, rfl⟩
          exact Or.inr ⟨by omega, rfl⟩
        · refine k_iconst Xc d_R_isPoint_20 (n := 21) rfl ?_
          refine k_goto Xc d_R_isPoint_21 (t := 25) rfl ?_
          refine k_iret Xc d_R_isPoint_25 hr rfl (Nat.le_refl _) (Nat.le_refl _) ⟨_, rfl, ?_, rfl, rfl⟩
          exact Or.inl ⟨by omega, rfl⟩
set_option maxRecDepth 100000 in
set_option maxHeartbeats 4000000 in
theorem m_R_isTurn (l : Launch) (D : va_G) (G : Nat → ClassId) {L : List Nat} {f : Nat → va_E} (t : Int) (ht : zO t) : zM l D G y_R_isTurn (.code y_R_isTurn c_R_isTurn 1 (some .boolean) :: BG) (zR0 0 0) [.int (zI t)] L f (zA L f (fun r => zB (0 ≤ t ∧ t ≤ 3) r)) := by
  refine zM.of (by decide) (Nat.le_of_ble_eq_true rfl) rfl (fun p e s m args below meth c A Xc hr hnm => ?_)
  refine k_iload_n Xc d_R_isTurn_0 rfl rfl (n := 1) rfl ?_
  refine k_if_lt Xc d_R_isTurn_1 (t := 13) (n := 4) rfl rfl (by omega) (fun h_1 => ?_) (fun h_1 => ?_)
  · refine k_iconst Xc d_R_isTurn_13 (n := 14) rfl ?_
    refine k_iret Xc d_R_isTurn_14 hr rfl (Nat.le_refl _) (Nat.le_refl _) ⟨_, rfl, ?_, rfl, rfl⟩
    exact Or.inr ⟨by omega, rfl⟩
  · refine k_iload_n Xc d_R_isTurn_4 rfl rfl (n := 5) rfl ?_
    refine k_iconst Xc d_R_isTurn_5 (n := 6) rfl ?_
    refine k_icmp_ge Xc d_R_isTurn_6 (t := 13) (n := 9) rfl rfl (by omega) (by omega) (fun h_6 => ?_) (fun h_6 => ?_)
    · refine k_iconst Xc d_R_isTurn_13 (n := 14) rfl ?_
      refine k_iret Xc d_R_isTurn_14 hr rfl (Nat.le_refl _) (Nat.le_refl _) ⟨_, rfl, ?_, rfl, rfl⟩
      exact Or.inr ⟨by omega, rfl⟩
    · refine k_iconst Xc d_R_isTurn_9 (n := 10) rfl ?_
      refine k_goto Xc d_R_isTurn_10 (t := 14) rfl ?_
      refine k_iret Xc d_R_isTurn_14 hr rfl (Nat.le_refl _) (Nat.le_refl _) ⟨_, rfl, ?_, rfl, rfl⟩
      exact Or.inl ⟨by omega, rfl⟩
set_option maxRecDepth 100000 in
set_option maxHeartbeats 4000000 in
theorem m_R_isKind (l : Launch) (D : va_G) (G : Nat → ClassId) {L : List Nat} {f : Nat → va_E} {ad : Nat → Nat} {T : Nat → TT} {V : Nat → Int} (hR : zRm G L f ad T V) (k : Int) (hk : zO k) (h1 : zO (V 1)) : zM l D G y_R_isKind (.code y_R_isKind c_R_isKind 2 (some .boolean) :: BG) (zR0 0 0) [.ref (ad 0), .int (zI k)] L f (zA L f (fun r => zB (0 ≤ k ∧ k < V 1) r)) := by
  refine zM.of (by decide) (Nat.le_of_ble_eq_true rfl) rfl (fun p e s m args below meth c A Xc hr hnm => ?_)
  refine k_iload_n Xc d_R_isKind_0 rfl rfl (n := 1) rfl ?_
  refine k_if_lt Xc d_R_isKind_1 (t := 16) (n := 4) rfl rfl (by omega) (fun h_1 => ?_) (fun h_1 => ?_)
  · refine k_iconst Xc d_R_isKind_16 (n := 17) rfl ?_
    refine k_iret Xc d_R_isKind_17 hr rfl (Nat.le_refl _) (Nat.le_refl _) ⟨_, rfl, ?_, rfl, rfl⟩
    exact Or.inr ⟨by omega, rfl⟩
  · refine k_iload_n Xc d_R_isKind_4 rfl rfl (n := 5) rfl ?_
    refine k_aload_n Xc d_R_isKind_5 rfl rfl (n := 6) rfl ?_
    refine k_get Xc u_R rfl 7 (by decide) wd_141 rfl d_R_isKind_6 (n := 9) rfl hR.2.2.2.2.2.1.1 hR.2.2.2.2.2.1.2 rfl ?_
    refine k_icmp_ge Xc d_R_isKind_9 (t := 16) (n := 12) rfl rfl (by omega) (by omega) (fun h_9 => ?_) (fun h_9 => ?_)
    · refine k_iconst Xc d_R_isKind_16 (n := 17) rfl ?_
      refine k_iret Xc d_R_isKind_17 hr rfl (Nat.le_refl _) (Nat.le_refl _) ⟨_, rfl, ?_, rfl, rfl⟩
      exact Or.inr ⟨by omega, rfl⟩
    · refine k_iconst Xc d_R_isKind_12 (n := 13) rfl ?_
      refine k_goto Xc d_R_isKind_13 (t := 17) rfl ?_
      refine k_iret Xc d_R_isKind_17 hr rfl (Nat.le_refl _) (Nat.le_refl _) ⟨_, rfl, ?_, rfl, rfl⟩
      exact Or.inl ⟨by omega, rfl⟩
set_option maxRecDepth 100000 in
set_option maxHeartbeats 4000000 in
theorem m_R_isPart (l : Launch) (D : va_G) (G : Nat → ClassId) {L : List Nat} {f : Nat → va_E} {ad : Nat → Nat} {T : Nat → TT} {V : Nat → Int} (hR : zRm G L f ad T V) (hl : ∀ i : Nat, i < 12 → V (40 + i) = 0 ∨ V (40 + i) = 1) (k : Int) (hk : zO k) : zM l D G y_R_isPart (.code y_R_isPart c_R_isPart 2 (some .boolean) :: BG) (zR0 0 0) [.ref (ad 0), .int (zI k)] L f (zA L f (fun r => zB (0 ≤ k ∧ k < 12 ∧ V (40 + k.toNat) ≠ 0) r)) := by
  refine zM.of (by decide) (Nat.le_of_ble_eq_true rfl) rfl (fun p e s m args below meth c A Xc hr hnm => ?_)
  refine k_iload_n Xc d_R_isPart_0 rfl rfl (n := 1) rfl ?_
  refine k_if_lt Xc d_R_isPart_1 (t := 26) (n := 4) rfl rfl (by omega) (fun h_1 => ?_) (fun h_1 => ?_)
  · refine k_iconst Xc d_R_isPart_26 (n := 27) rfl ?_
    refine k_iret Xc d_R_isPart_27 hr rfl (Nat.le_refl _) (Nat.le_refl _) ⟨_, rfl, ?_, rfl, rfl⟩
    exact Or.inr ⟨fun q => by first | omega | (have z := q.2.2; rw [Int.toNat_natCast] at z; omega), rfl⟩
  · refine k_iload_n Xc d_R_isPart_4 rfl rfl (n := 5) rfl ?_
    refine k_bipush Xc d_R_isPart_5 rfl (n := 7) rfl ?_
    refine k_icmp_ge Xc d_R_isPart_7 (t := 26) (n := 10) rfl rfl (by omega) (by omega) (fun h_7 => ?_) (fun h_7 => ?_)
    · refine k_iconst Xc d_R_isPart_26 (n := 27) rfl ?_
      refine k_iret Xc d_R_isPart_27 hr rfl (Nat.le_refl _) (Nat.le_refl _) ⟨_, rfl, ?_, rfl, rfl⟩
      exact Or.inr ⟨fun q => by first | omega | (have z := q.2.2; rw [Int.toNat_natCast] at z; omega), rfl⟩
    · obtain ⟨i, rfl⟩ : ∃ i : Nat, k = (i : Int) := ⟨k.toNat, by omega⟩
      have li := hl i (by omega)
      refine k_aload_n Xc d_R_isPart_10 rfl rfl (n := 11) rfl ?_
      refine k_get Xc u_R rfl 5 (by decide) wd_139 rfl d_R_isPart_11 (n := 14) rfl hR.2.2.2.2.2.1.1 hR.2.2.2.2.2.1.2 rfl ?_
      refine k_iload_n Xc d_R_isPart_14 rfl rfl (n := 15) rfl ?_
      refine k_aaldN Xc d_R_isPart_15 (n := 16) rfl hR.2.2.2.2.2.2.2.2.1 hR.2.2.2.2.2.2.2.2.2 rfl (by omega) (by decide) ?_
      refine k_get Xc u_P rfl 1 (by decide) wd_112 rfl d_R_isPart_16 (n := 19) rfl (hR.2.2.2.2.1 i (by omega)).1 (hR.2.2.2.2.1 i (by omega)).2 rfl ?_
      refine k_if_eq Xc d_R_isPart_19 (t := 26) (n := 22) rfl rfl (by omega) (fun h_19 => ?_) (fun h_19 => ?_)
      · refine k_iconst Xc d_R_isPart_26 (n := 27) rfl ?_
        refine k_iret Xc d_R_isPart_27 hr rfl (Nat.le_refl _) (Nat.le_refl _) ⟨_, rfl, ?_, rfl, rfl⟩
        exact Or.inr ⟨fun q => by first | omega | (have z := q.2.2; rw [Int.toNat_natCast] at z; omega), rfl⟩
      · refine k_iconst Xc d_R_isPart_22 (n := 23) rfl ?_
        refine k_goto Xc d_R_isPart_23 (t := 27) rfl ?_
        refine k_iret Xc d_R_isPart_27 hr rfl (Nat.le_refl _) (Nat.le_refl _) ⟨_, rfl, ?_, rfl, rfl⟩
        exact Or.inl ⟨⟨by omega, by omega, by rw [Int.toNat_natCast]; omega⟩, rfl⟩
set_option maxRecDepth 100000 in
set_option maxHeartbeats 4000000 in
theorem m_K_hasTurn (l : Launch) (D : va_G) (G : Nat → ClassId) {L : List Nat} {f : Nat → va_E} {ad : Nat → Nat} {T : Nat → TT} {V : Nat → Int} (hR : zRm G L f ad T V) (kd : Nat) (hkd : kd < 6) (x : Nat) (hx : V (30 + kd) = (x : Int)) (hx2 : x < 2147483648) (t : Nat) (ht : t ≤ 3) : zM l D G y_K_hasTurn (.code y_K_hasTurn c_K_hasTurn 2 (some .boolean) :: BG) (zR0 0 0) [.ref (ad (20 + kd)), .int (zI (t : Int))] L f (zA L f (fun r => zB (x / 2 ^ t % 2 = 1) r)) := by
  refine zM.of (by decide) (Nat.le_of_ble_eq_true rfl) rfl (fun p e s m args below meth c A Xc hr hnm => ?_)
  refine k_aload_n Xc d_K_hasTurn_0 rfl rfl (n := 1) rfl ?_
  refine k_get Xc u_K rfl 2 (by decide) wd_94 rfl d_K_hasTurn_1 (n := 4) rfl (hR.2.2.2.1 kd (by omega)).1 (hR.2.2.2.1 kd (by omega)).2.1 rfl ?_
  refine k_iload_n Xc d_K_hasTurn_4 rfl rfl (n := 5) rfl ?_
  refine k_ishr Xc d_K_hasTurn_5 (n := 6) rfl ?_
  refine k_iconst Xc d_K_hasTurn_6 (n := 7) rfl ?_
  refine k_iand Xc d_K_hasTurn_7 (n := 8) rfl ?_
  refine k_va32 (bit_lem hx hx2 ht) ?_
  have b2 : x / 2 ^ t % 2 < 2 := Nat.mod_lt _ (by decide)
  refine k_iconst Xc d_K_hasTurn_8 (n := 9) rfl ?_
  refine k_icmp_ne Xc d_K_hasTurn_9 (t := 16) (n := 12) rfl rfl (by omega) (by omega) (fun h_9 => ?_) (fun h_9 => ?_)
  · refine k_iconst Xc d_K_hasTurn_16 (n := 17) rfl ?_
    refine k_iret Xc d_K_hasTurn_17 hr rfl (Nat.le_refl _) (Nat.le_refl _) ⟨_, rfl, ?_, rfl, rfl⟩
    exact Or.inr ⟨by omega, rfl⟩
  · refine k_iconst Xc d_K_hasTurn_12 (n := 13) rfl ?_
    refine k_goto Xc d_K_hasTurn_13 (t := 17) rfl ?_
    refine k_iret Xc d_K_hasTurn_17 hr rfl (Nat.le_refl _) (Nat.le_refl _) ⟨_, rfl, ?_, rfl, rfl⟩
    exact Or.inl ⟨by omega, rfl⟩
set_option maxRecDepth 100000 in
set_option maxHeartbeats 4000000 in
/-- beside all parts -/
theorem m_R_isOffParts (l : Launch) (D : va_G) (G : Nat → ClassId) {L : List Nat} {f : Nat → va_E} {ad : Nat → Nat} {T : Nat → TT} {V : Nat → Int} (hR : zRm G L f ad T V) (hl : ∀ i : Nat, i < 12 → V (40 + i) = 0 ∨ V (40 + i) = 1) (hp : ∀ i : Nat, i < 12 → V (40 + i) ≠ 0 → rS T (32 + i)) (u : Nat) (hu : u < 44) (hU : rS T u) (x y : Int) (hxy : -100 ≤ x ∧ x ≤ 100 ∧ -100 ≤ y ∧ y ≤ 100) : zM l D G y_R_isOffParts (.code y_R_isOffParts c_R_isOffParts 5 (some .boolean) :: BG) (zR0 3 74) [.ref (ad 0), .ref (ad (100 + u)), .int (zI x), .int (zI y)] L f (zA L f (fun r => zB (cPa T V u x y) r)) := by
  refine zM.of (by decide) (Nat.le_of_ble_eq_true rfl) rfl (fun p e s m args below meth c A Xc hr hnm => ?_)
  have loop : ∀ (d i : Nat), 12 < i + d → i ≤ 12 → (∀ j : Nat, j < i → V (40 + j) ≠ 0 → ¬ cOv T (32 + j) u x y) → zG p l e (zR0 3 74) s m args below meth c D A 5 0 0 (MQ below (zE D A (zA L f (fun r => zB (cPa T V u x y) r))) args s (zR0 3 74).cells (zR0 3 74).slots A) 3 [(0, .ref (ad 0)), (1, .ref (ad (100 + u))), (2, .int (zI x)), (3, .int (zI y)), (4, .int (zI (i : Int)))] [] L f := by
    intro d
    induction d with
    | zero => intro i h1 h2; omega
    | succ d ih =>
      intro i h1 h2 hJ
      refine k_iload Xc d_R_isOffParts_3 rfl (n := 5) rfl ?_
      refine k_bipush Xc d_R_isOffParts_5 rfl (n := 7) rfl ?_
      refine k_icmp_ge Xc d_R_isOffParts_7 (t := 50) (n := 10) rfl rfl (by omega) (by omega) (fun h_7 => ?_) (fun h_7 => ?_)
      · refine k_iconst Xc d_R_isOffParts_50 (n := 51) rfl ?_
        refine k_iret Xc d_R_isOffParts_51 hr rfl (Nat.le_refl _) (Nat.le_refl _) ⟨_, rfl, ?_, rfl, rfl⟩
        exact Or.inl ⟨fun j hj => hJ j (by omega), rfl⟩
      · refine k_aload_n Xc d_R_isOffParts_10 rfl rfl (n := 11) rfl ?_
        have li := hl i (by omega)
        refine k_get Xc u_R rfl 5 (by decide) wd_139 rfl d_R_isOffParts_11 (n := 14) rfl hR.2.2.2.2.2.1.1 hR.2.2.2.2.2.1.2 rfl ?_
        refine k_iload Xc d_R_isOffParts_14 rfl (n := 16) rfl ?_
        refine k_aaldN Xc d_R_isOffParts_16 (n := 17) rfl hR.2.2.2.2.2.2.2.2.1 hR.2.2.2.2.2.2.2.2.2 rfl (by omega) (by decide) ?_
        refine k_get Xc u_P rfl 1 (by decide) wd_112 rfl d_R_isOffParts_17 (n := 20) rfl (hR.2.2.2.2.1 i (by omega)).1 (hR.2.2.2.2.1 i (by omega)).2 rfl ?_
        refine k_if_eq Xc d_R_isOffParts_20 (t := 44) (n := 23) rfl rfl (by omega) (fun h_20 => ?_) (fun h_20 => ?_)
        · refine k_iinc Xc d_R_isOffParts_44 rfl (by decide) (n := 47) rfl ?_
          refine k_goto Xc d_R_isOffParts_47 (t := 3) rfl ?_
          exact k_loc (ih (i + 1) (by omega) (by omega) (fun j hj => by
            rcases Nat.lt_or_ge j i with q | q
            · exact hJ j q
            · have ej : j = i := by omega
              subst ej
              intro z
              first | exact e_36 | omega)) rfl
        · refine k_aload_n Xc d_R_isOffParts_23 rfl rfl (n := 24) rfl ?_
          refine k_get Xc u_R rfl 5 (by decide) wd_139 rfl d_R_isOffParts_24 (n := 27) rfl hR.2.2.2.2.2.1.1 hR.2.2.2.2.2.1.2 rfl ?_
          refine k_iload Xc d_R_isOffParts_27 rfl (n := 29) rfl ?_
          refine k_aaldN Xc d_R_isOffParts_29 (n := 30) rfl hR.2.2.2.2.2.2.2.2.1 hR.2.2.2.2.2.2.2.2.2 rfl (by omega) (by decide) ?_
          refine k_get Xc u_P rfl 0 (by decide) wd_110 rfl d_R_isOffParts_30 (n := 33) rfl (hR.2.2.2.2.1 i (by omega)).1 (hR.2.2.2.2.1 i (by omega)).2 rfl ?_
          refine k_aload_n Xc d_R_isOffParts_33 rfl rfl (n := 34) rfl ?_
          refine k_iload_n Xc d_R_isOffParts_34 rfl rfl (n := 35) rfl ?_
          refine k_iload_n Xc d_R_isOffParts_35 rfl rfl (n := 36) rfl ?_
          refine k_qV (na := 3) Xc (m_S_overlaps l D G (hR.2.1 (32 + i) (by omega)) (hp i (by omega) (by omega)).2.1 (hR.2.1 u hu) (hU).2.1 (hp i (by omega) (by omega)).2.2 (hU).2.2 _ _ (by omega)) (hR.2.1 (32 + i) (by omega)).1 (hR.2.1 (32 + i) (by omega)).2.2.2.1 rfl wd_426 wd_423 wd_424 wd_425 wd_2 (by decide +kernel) ⟨by decide, by decide⟩ rfl rfl (Nat.le_of_ble_eq_true rfl) d_R_isOffParts_36 (n := 39) rfl ⟨Nat.zero_le _, Nat.zero_le _⟩ (fun r_36 e_36 => ?_)
          rcases e_36 with ⟨e_36, rfl⟩ | ⟨e_36, rfl⟩
          · refine k_if_eq Xc d_R_isOffParts_39 (t := 44) (n := 42) rfl rfl (by omega) (fun h_39 => absurd h_39 (by omega)) (fun _ => ?_)
            refine k_iconst Xc d_R_isOffParts_42 (n := 43) rfl ?_
            refine k_iret Xc d_R_isOffParts_43 hr rfl (Nat.le_refl _) (Nat.le_refl _) ⟨_, rfl, ?_, rfl, rfl⟩
            exact Or.inr ⟨fun q => q i (by omega) (by omega) e_36, rfl⟩
          · refine k_if_eq Xc d_R_isOffParts_39 (t := 44) (n := 42) rfl rfl (by omega) (fun _ => ?_) (fun h_39 => absurd h_39 (by omega))
            refine k_iinc Xc d_R_isOffParts_44 rfl (by decide) (n := 47) rfl ?_
            refine k_goto Xc d_R_isOffParts_47 (t := 3) rfl ?_
            exact k_loc (ih (i + 1) (by omega) (by omega) (fun j hj => by
              rcases Nat.lt_or_ge j i with q | q
              · exact hJ j q
              · have ej : j = i := by omega
                subst ej
                intro z
                first | exact e_36 | omega)) rfl
  refine k_iconst Xc d_R_isOffParts_0 (n := 1) rfl ?_
  refine k_istore Xc d_R_isOffParts_1 (by decide) (n := 3) rfl ?_
  exact k_loc (loop 13 0 (by omega) (by omega) (fun j q => absurd q (by omega))) rfl
set_option maxRecDepth 100000 in
set_option maxHeartbeats 4000000 in
/-- off all zones that are not good enough -/
theorem m_R_isOffZones (l : Launch) (D : va_G) (G : Nat → ClassId) {L : List Nat} {f : Nat → va_E} {ad : Nat → Nat} {T : Nat → TT} {V : Nat → Int} (hR : zRm G L f ad T V) (z9 : Nat) (hz : V 0 = (z9 : Int)) (hz9 : z9 ≤ 5) (hp : ∀ i : Nat, i < z9 → rS T (3 + i) ∧ 1 ≤ V (10 + i) ∧ V (10 + i) ≤ 3) (u : Nat) (hu : u < 44) (hU : rS T u) (x y : Int) (hxy : -100 ≤ x ∧ x ≤ 100 ∧ -100 ≤ y ∧ y ≤ 100) (g : Int) (hg : zO g) : zM l D G y_R_isOffZones (.code y_R_isOffZones c_R_isOffZones 6 (some .boolean) :: BG) (zR0 3 74) [.ref (ad 0), .ref (ad (100 + u)), .int (zI x), .int (zI y), .int (zI g)] L f (zA L f (fun r => zB (cZo T V z9 g u x y) r)) := by
  refine zM.of (by decide) (Nat.le_of_ble_eq_true rfl) rfl (fun p e s m args below meth c A Xc hr hnm => ?_)
  have loop : ∀ (d i : Nat), z9 < i + d → i ≤ z9 → (∀ j : Nat, j < i → V (10 + j) < g → ¬ cOv T (3 + j) u x y) → zG p l e (zR0 3 74) s m args below meth c D A 6 0 0 (MQ below (zE D A (zA L f (fun r => zB (cZo T V z9 g u x y) r))) args s (zR0 3 74).cells (zR0 3 74).slots A) 3 [(0, .ref (ad 0)), (1, .ref (ad (100 + u))), (2, .int (zI x)), (3, .int (zI y)), (4, .int (zI g)), (5, .int (zI (i : Int)))] [] L f := by
    intro d
    induction d with
    | zero => intro i h1 h2; omega
    | succ d ih =>
      intro i h1 h2 hJ
      refine k_iload Xc d_R_isOffZones_3 rfl (n := 5) rfl ?_
      refine k_aload_n Xc d_R_isOffZones_5 rfl rfl (n := 6) rfl ?_
      refine k_get Xc u_R rfl 6 (by decide) wd_140 rfl d_R_isOffZones_6 (n := 9) rfl hR.2.2.2.2.2.1.1 hR.2.2.2.2.2.1.2 rfl ?_
      refine k_icmp_ge Xc d_R_isOffZones_9 (t := 54) (n := 12) rfl rfl (by omega) (by omega) (fun h_9 => ?_) (fun h_9 => ?_)
      · refine k_iconst Xc d_R_isOffZones_54 (n := 55) rfl ?_
        refine k_iret Xc d_R_isOffZones_55 hr rfl (Nat.le_refl _) (Nat.le_refl _) ⟨_, rfl, ?_, rfl, rfl⟩
        exact Or.inl ⟨fun j hj => hJ j (by omega), rfl⟩
      · refine k_aload_n Xc d_R_isOffZones_12 rfl rfl (n := 13) rfl ?_
        refine k_get Xc u_R rfl 3 (by decide) wd_137 rfl d_R_isOffZones_13 (n := 16) rfl hR.2.2.2.2.2.1.1 hR.2.2.2.2.2.1.2 rfl ?_
        refine k_iload Xc d_R_isOffZones_16 rfl (n := 18) rfl ?_
        have li := hp i (by omega)
        refine k_aaldN Xc d_R_isOffZones_18 (n := 19) rfl hR.2.2.2.2.2.2.1.1 hR.2.2.2.2.2.2.1.2 rfl (by omega) (by decide) ?_
        refine k_get Xc u_Z rfl 1 (by decide) wd_76 rfl d_R_isOffZones_19 (n := 22) rfl (hR.2.2.1 i (by omega)).1 (hR.2.2.1 i (by omega)).2 rfl ?_
        refine k_iload Xc d_R_isOffZones_22 rfl (n := 24) rfl ?_
        refine k_icmp_ge Xc d_R_isOffZones_24 (t := 48) (n := 27) rfl rfl (by omega) (by omega) (fun h_24 => ?_) (fun h_24 => ?_)
        · refine k_iinc Xc d_R_isOffZones_48 rfl (by decide) (n := 51) rfl ?_
          refine k_goto Xc d_R_isOffZones_51 (t := 3) rfl ?_
          exact k_loc (ih (i + 1) (by omega) (by omega) (fun j hj => by
            rcases Nat.lt_or_ge j i with q | q
            · exact hJ j q
            · have ej : j = i := by omega
              subst ej
              intro z
              first | exact e_40 | omega)) rfl
        · refine k_aload_n Xc d_R_isOffZones_27 rfl rfl (n := 28) rfl ?_
          refine k_get Xc u_R rfl 3 (by decide) wd_137 rfl d_R_isOffZones_28 (n := 31) rfl hR.2.2.2.2.2.1.1 hR.2.2.2.2.2.1.2 rfl ?_
          refine k_iload Xc d_R_isOffZones_31 rfl (n := 33) rfl ?_
          refine k_aaldN Xc d_R_isOffZones_33 (n := 34) rfl hR.2.2.2.2.2.2.1.1 hR.2.2.2.2.2.2.1.2 rfl (by omega) (by decide) ?_
          refine k_get Xc u_Z rfl 0 (by decide) wd_74 rfl d_R_isOffZones_34 (n := 37) rfl (hR.2.2.1 i (by omega)).1 (hR.2.2.1 i (by omega)).2 rfl ?_
          refine k_aload_n Xc d_R_isOffZones_37 rfl rfl (n := 38) rfl ?_
          refine k_iload_n Xc d_R_isOffZones_38 rfl rfl (n := 39) rfl ?_
          refine k_iload_n Xc d_R_isOffZones_39 rfl rfl (n := 40) rfl ?_
          refine k_qV (na := 3) Xc (m_S_overlaps l D G (hR.2.1 (3 + i) (by omega)) ((hp i (by omega)).1).2.1 (hR.2.1 u hu) (hU).2.1 ((hp i (by omega)).1).2.2 (hU).2.2 _ _ (by omega)) (hR.2.1 (3 + i) (by omega)).1 (hR.2.1 (3 + i) (by omega)).2.2.2.1 rfl wd_426 wd_423 wd_424 wd_425 wd_2 (by decide +kernel) ⟨by decide, by decide⟩ rfl rfl (Nat.le_of_ble_eq_true rfl) d_R_isOffZones_40 (n := 43) rfl ⟨Nat.zero_le _, Nat.zero_le _⟩ (fun r_40 e_40 => ?_)
          rcases e_40 with ⟨e_40, rfl⟩ | ⟨e_40, rfl⟩
          · refine k_if_eq Xc d_R_isOffZones_43 (t := 48) (n := 46) rfl rfl (by omega) (fun h_43 => absurd h_43 (by omega)) (fun _ => ?_)
            refine k_iconst Xc d_R_isOffZones_46 (n := 47) rfl ?_
            refine k_iret Xc d_R_isOffZones_47 hr rfl (Nat.le_refl _) (Nat.le_refl _) ⟨_, rfl, ?_, rfl, rfl⟩
            exact Or.inr ⟨fun q => q i (by omega) (by omega) e_40, rfl⟩
          · refine k_if_eq Xc d_R_isOffZones_43 (t := 48) (n := 46) rfl rfl (by omega) (fun _ => ?_) (fun h_43 => absurd h_43 (by omega))
            refine k_iinc Xc d_R_isOffZones_48 rfl (by decide) (n := 51) rfl ?_
            refine k_goto Xc d_R_isOffZones_51 (t := 3) rfl ?_
            exact k_loc (ih (i + 1) (by omega) (by omega) (fun j hj => by
              rcases Nat.lt_or_ge j i with q | q
              · exact hJ j q
              · have ej : j = i := by omega
                subst ej
                intro z
                first | exact e_40 | omega)) rfl
  refine k_iconst Xc d_R_isOffZones_0 (n := 1) rfl ?_
  refine k_istore Xc d_R_isOffZones_1 (by decide) (n := 3) rfl ?_
  exact k_loc (loop (z9 + 1) 0 (by omega) (by omega) (fun j q => absurd q (by omega))) rfl
set_option maxRecDepth 100000 in
set_option maxHeartbeats 4000000 in
/-- a kind can lie there -/
theorem m_R_canLie (l : Launch) (D : va_G) (G : Nat → ClassId) {L : List Nat} {f : Nat → va_E} {ad : Nat → Nat} {T : Nat → TT} {V : Nat → Int} (hR : zRm G L f ad T V) (z9 k9 : Nat) (hO : rOk T V z9 k9) (kd : Nat) (hkd : kd < k9) (x y : Int) (hx : 0 ≤ x ∧ x ≤ 30) (hy : 0 ≤ y ∧ y ≤ 30) (t : Nat) (ht : t ≤ 3) : zM l D G y_R_canLie (.code y_R_canLie c_R_canLie 6 (some .boolean) :: BG) (zR0 4 107) [.ref (ad 0), .ref (ad (20 + kd)), .int (zI x), .int (zI y), .int (zI (t : Int))] L f (zA L f (fun r => zB (cLie T V z9 kd t x y) r)) := by
  refine zM.of (by decide) (Nat.le_of_ble_eq_true rfl) rfl (fun p e s m args below meth c A Xc hr hnm => ?_)
  obtain ⟨o1, o2, o3, o4, o5, o6, o7, o8, o9⟩ := hO
  have kk := o7 kd hkd
  obtain ⟨xx, hxx⟩ : ∃ xx : Nat, V (30 + kd) = (xx : Int) := ⟨(V (30 + kd)).toNat, by omega⟩
  have hU := kk.2.2.2.2 t ht
  refine k_aload_n Xc d_R_canLie_0 rfl rfl (n := 1) rfl ?_
  refine k_iload Xc d_R_canLie_1 rfl (n := 3) rfl ?_
  refine k_qV (na := 1) Xc (m_K_hasTurn l D G hR kd (by omega) xx hxx (by omega) t ht) (hR.2.2.2.1 kd (by omega)).1 (hR.2.2.2.1 kd (by omega)).2.1 rfl wd_414 wd_411 wd_412 wd_413 wd_4 (by decide +kernel) ⟨by decide, by decide⟩ rfl rfl (Nat.le_of_ble_eq_true rfl) d_R_canLie_3 (n := 6) rfl ⟨Nat.zero_le _, Nat.zero_le _⟩ (fun r_3 e_3 => ?_)
  rcases e_3 with ⟨e_3, rfl⟩ | ⟨e_3, rfl⟩
  · refine k_if_ne Xc d_R_canLie_6 (t := 11) (n := 9) rfl rfl (by omega) (fun _ => ?_) (fun h_6 => absurd h_6 (by omega))
    refine k_aload_n Xc d_R_canLie_11 rfl rfl (n := 12) rfl ?_
    refine k_get Xc u_K rfl 0 (by decide) wd_91 rfl d_R_canLie_12 (n := 15) rfl (hR.2.2.2.1 kd (by omega)).1 (hR.2.2.2.1 kd (by omega)).2.1 rfl ?_
    refine k_iload Xc d_R_canLie_15 rfl (n := 17) rfl ?_
    refine k_aaldN Xc d_R_canLie_17 (n := 18) rfl (hR.2.2.2.1 kd (by omega)).2.2.1 (hR.2.2.2.1 kd (by omega)).2.2.2 rfl (by omega) (by decide) ?_
    refine k_astore Xc d_R_canLie_18 (by decide) (n := 20) rfl ?_
    refine k_aload_n Xc d_R_canLie_20 rfl rfl (n := 21) rfl ?_
    refine k_get Xc u_R rfl 2 (by decide) wd_136 rfl d_R_canLie_21 (n := 24) rfl hR.2.2.2.2.2.1.1 hR.2.2.2.2.2.1.2 rfl ?_
    refine k_aload Xc d_R_canLie_24 rfl (n := 26) rfl ?_
    refine k_iload_n Xc d_R_canLie_26 rfl rfl (n := 27) rfl ?_
    refine k_iload_n Xc d_R_canLie_27 rfl rfl (n := 28) rfl ?_
    refine k_qV (na := 3) Xc (m_S_boxHolds l D G (hR.2.1 2 (by omega)) (hR.2.1 (8 + 4 * kd + t) (by omega)) o3 hU.2.2 _ _ (by omega)) (hR.2.1 2 (by omega)).1 (hR.2.1 2 (by omega)).2.2.2.1 rfl wd_418 wd_415 wd_416 wd_417 wd_2 (by decide +kernel) ⟨by decide, by decide⟩ rfl rfl (Nat.le_of_ble_eq_true rfl) d_R_canLie_28 (n := 31) rfl ⟨Nat.zero_le _, Nat.zero_le _⟩ (fun r_28 e_28 => ?_)
    rcases e_28 with ⟨e_28, rfl⟩ | ⟨e_28, rfl⟩
    · refine k_if_eq Xc d_R_canLie_31 (t := 78) (n := 34) rfl rfl (by omega) (fun h_31 => absurd h_31 (by omega)) (fun _ => ?_)
      refine k_aload_n Xc d_R_canLie_34 rfl rfl (n := 35) rfl ?_
      refine k_aload Xc d_R_canLie_35 rfl (n := 37) rfl ?_
      refine k_iload_n Xc d_R_canLie_37 rfl rfl (n := 38) rfl ?_
      refine k_iload_n Xc d_R_canLie_38 rfl rfl (n := 39) rfl ?_
      refine k_qV (na := 3) Xc (m_R_isOffParts l D G hR o8 o9 (8 + 4 * kd + t) (by omega) hU _ _ (by omega)) hR.2.2.2.2.2.1.1 hR.2.2.2.2.2.1.2 rfl wd_422 wd_419 wd_421 ws_4 wd_1 (by decide +kernel) ⟨by decide, by decide⟩ rfl rfl (Nat.le_of_ble_eq_true rfl) d_R_canLie_39 (n := 42) rfl ⟨Nat.zero_le _, Nat.zero_le _⟩ (fun r_39 e_39 => ?_)
      rcases e_39 with ⟨e_39, rfl⟩ | ⟨e_39, rfl⟩
      · refine k_if_eq Xc d_R_canLie_42 (t := 78) (n := 45) rfl rfl (by omega) (fun h_42 => absurd h_42 (by omega)) (fun _ => ?_)
        refine k_aload_n Xc d_R_canLie_45 rfl rfl (n := 46) rfl ?_
        refine k_aload Xc d_R_canLie_46 rfl (n := 48) rfl ?_
        refine k_iload_n Xc d_R_canLie_48 rfl rfl (n := 49) rfl ?_
        refine k_iload_n Xc d_R_canLie_49 rfl rfl (n := 50) rfl ?_
        refine k_aload_n Xc d_R_canLie_50 rfl rfl (n := 51) rfl ?_
        refine k_get Xc u_K rfl 1 (by decide) wd_93 rfl d_R_canLie_51 (n := 54) rfl (hR.2.2.2.1 kd (by omega)).1 (hR.2.2.2.1 kd (by omega)).2.1 rfl ?_
        refine k_qV (na := 4) Xc (m_R_isOffZones l D G hR z9 o4 o5 o6 (8 + 4 * kd + t) (by omega) hU _ _ (by omega) _ (by omega)) hR.2.2.2.2.2.1.1 hR.2.2.2.2.2.1.2 rfl wd_434 wd_431 wd_433 ws_5 wd_1 (by decide +kernel) ⟨by decide, by decide⟩ rfl rfl (Nat.le_of_ble_eq_true rfl) d_R_canLie_54 (n := 57) rfl ⟨Nat.zero_le _, Nat.zero_le _⟩ (fun r_54 e_54 => ?_)
        rcases e_54 with ⟨e_54, rfl⟩ | ⟨e_54, rfl⟩
        · refine k_if_eq Xc d_R_canLie_57 (t := 78) (n := 60) rfl rfl (by omega) (fun h_57 => absurd h_57 (by omega)) (fun _ => ?_)
          refine k_aload_n Xc d_R_canLie_60 rfl rfl (n := 61) rfl ?_
          refine k_get Xc u_R rfl 2 (by decide) wd_136 rfl d_R_canLie_61 (n := 64) rfl hR.2.2.2.2.2.1.1 hR.2.2.2.2.2.1.2 rfl ?_
          refine k_aload Xc d_R_canLie_64 rfl (n := 66) rfl ?_
          refine k_iload_n Xc d_R_canLie_66 rfl rfl (n := 67) rfl ?_
          refine k_iload_n Xc d_R_canLie_67 rfl rfl (n := 68) rfl ?_
          refine k_qV (na := 3) Xc (m_S_holds l D G (hR.2.1 2 (by omega)) o1 (hR.2.1 (8 + 4 * kd + t) (by omega)) hU.2.1 hU.1 hU.2.2 _ _ (by omega)) (hR.2.1 2 (by omega)).1 (hR.2.1 2 (by omega)).2.2.2.1 rfl wd_438 wd_435 wd_436 wd_437 wd_2 (by decide +kernel) ⟨by decide, by decide⟩ rfl rfl (Nat.le_of_ble_eq_true rfl) d_R_canLie_68 (n := 71) rfl ⟨Nat.zero_le _, Nat.zero_le _⟩ (fun r_68 e_68 => ?_)
          rcases e_68 with ⟨e_68, rfl⟩ | ⟨e_68, rfl⟩
          · refine k_if_eq Xc d_R_canLie_71 (t := 78) (n := 74) rfl rfl (by omega) (fun h_71 => absurd h_71 (by omega)) (fun _ => ?_)
            refine k_iconst Xc d_R_canLie_74 (n := 75) rfl ?_
            refine k_goto Xc d_R_canLie_75 (t := 79) rfl ?_
            refine k_iret Xc d_R_canLie_79 hr rfl (Nat.le_refl _) (Nat.le_refl _) ⟨_, rfl, ?_, rfl, rfl⟩
            exact Or.inl ⟨⟨⟨xx, hxx, e_3⟩, e_28, e_39, e_54, e_68⟩, rfl⟩
          · refine k_if_eq Xc d_R_canLie_71 (t := 78) (n := 74) rfl rfl (by omega) (fun _ => ?_) (fun h_71 => absurd h_71 (by omega))
            refine k_iconst Xc d_R_canLie_78 (n := 79) rfl ?_
            refine k_iret Xc d_R_canLie_79 hr rfl (Nat.le_refl _) (Nat.le_refl _) ⟨_, rfl, ?_, rfl, rfl⟩
            exact Or.inr ⟨fun q => by
              obtain ⟨⟨x2, y1, y2⟩, q2, q3, q4, q5⟩ := q
              have ex : x2 = xx := by omega
              subst ex
              first | exact e_3 y2 | exact e_28 q2 | exact e_39 q3 | exact e_54 q4 | exact e_68 q5, rfl⟩
        · refine k_if_eq Xc d_R_canLie_57 (t := 78) (n := 60) rfl rfl (by omega) (fun _ => ?_) (fun h_57 => absurd h_57 (by omega))
          refine k_iconst Xc d_R_canLie_78 (n := 79) rfl ?_
          refine k_iret Xc d_R_canLie_79 hr rfl (Nat.le_refl _) (Nat.le_refl _) ⟨_, rfl, ?_, rfl, rfl⟩
          exact Or.inr ⟨fun q => by
            obtain ⟨⟨x2, y1, y2⟩, q2, q3, q4, q5⟩ := q
            have ex : x2 = xx := by omega
            subst ex
            first | exact e_3 y2 | exact e_28 q2 | exact e_39 q3 | exact e_54 q4 | exact e_68 q5, rfl⟩
      · refine k_if_eq Xc d_R_canLie_42 (t := 78) (n := 45) rfl rfl (by omega) (fun _ => ?_) (fun h_42 => absurd h_42 (by omega))
        refine k_iconst Xc d_R_canLie_78 (n := 79) rfl ?_
        refine k_iret Xc d_R_canLie_79 hr rfl (Nat.le_refl _) (Nat.le_refl _) ⟨_, rfl, ?_, rfl, rfl⟩
        exact Or.inr ⟨fun q => by
          obtain ⟨⟨x2, y1, y2⟩, q2, q3, q4, q5⟩ := q
          have ex : x2 = xx := by omega
          subst ex
          first | exact e_3 y2 | exact e_28 q2 | exact e_39 q3 | exact e_54 q4 | exact e_68 q5, rfl⟩
    · refine k_if_eq Xc d_R_canLie_31 (t := 78) (n := 34) rfl rfl (by omega) (fun _ => ?_) (fun h_31 => absurd h_31 (by omega))
      refine k_iconst Xc d_R_canLie_78 (n := 79) rfl ?_
      refine k_iret Xc d_R_canLie_79 hr rfl (Nat.le_refl _) (Nat.le_refl _) ⟨_, rfl, ?_, rfl, rfl⟩
      exact Or.inr ⟨fun q => by
        obtain ⟨⟨x2, y1, y2⟩, q2, q3, q4, q5⟩ := q
        have ex : x2 = xx := by omega
        subst ex
        first | exact e_3 y2 | exact e_28 q2 | exact e_39 q3 | exact e_54 q4 | exact e_68 q5, rfl⟩
  · refine k_if_ne Xc d_R_canLie_6 (t := 11) (n := 9) rfl rfl (by omega) (fun h_6 => absurd h_6 (by omega)) (fun _ => ?_)
    refine k_iconst Xc d_R_canLie_9 (n := 10) rfl ?_
    refine k_iret Xc d_R_canLie_10 hr rfl (Nat.le_refl _) (Nat.le_refl _) ⟨_, rfl, ?_, rfl, rfl⟩
    exact Or.inr ⟨fun q => by
      obtain ⟨⟨x2, y1, y2⟩, q2, q3, q4, q5⟩ := q
      have ex : x2 = xx := by omega
      subst ex
      first | exact e_3 y2 | exact e_28 q2 | exact e_39 q3 | exact e_54 q4 | exact e_68 q5, rfl⟩
set_option maxRecDepth 100000 in
set_option maxHeartbeats 4000000 in
/-- the first place that fits -/
theorem m_R_findPlace (l : Launch) (D : va_G) (G : Nat → ClassId) {L : List Nat} {f : Nat → va_E} {ad : Nat → Nat} {T : Nat → TT} {V : Nat → Int} (hR : zRm G L f ad T V) (z9 k9 : Nat) (hO : rOk T V z9 k9) (kd : Nat) (hkd : kd < k9) : zM l D G y_R_findPlace (.code y_R_findPlace c_R_findPlace 5 (some .int) :: BG) (zR0 5 132) [.ref (ad 0), .ref (ad (20 + kd))] L f (zA L f (fun r => ge_first (cF T V z9 kd) r)) := by
  refine zM.of (by decide) (Nat.le_of_ble_eq_true rfl) rfl (fun p e s m args below meth c A Xc hr hnm => ?_)
  have hO2 := hO
  obtain ⟨o1, o2, o3, o4, o5, o6, o7, o8, o9⟩ := hO2
  have h6 := o2.1
  have ob := o2.2
  obtain ⟨lx, hlx⟩ : ∃ z, z = (T 2).2.2.2.1 := ⟨_, rfl⟩
  obtain ⟨hx, hhx⟩ : ∃ z, z = (T 2).2.2.2.2.1 := ⟨_, rfl⟩
  obtain ⟨ly, hly⟩ : ∃ z, z = (T 2).2.2.2.2.2.1 := ⟨_, rfl⟩
  obtain ⟨hy, hhy⟩ : ∃ z, z = (T 2).2.2.2.2.2.2 := ⟨_, rfl⟩
  rw [← hlx, ← hhx, ← hly, ← hhy] at ob
  have l1 : ∀ (d : Nat) (y : Int), (hy - y).toNat < d → ly ≤ y ∧ y ≤ 31 → (∀ y2 x2 t2 : Int, ge_bf y2 x2 t2 y lx 0 → ¬ cF T V z9 kd y2 x2 t2) → zG p l e (zR0 5 132) s m args below meth c D A 5 0 0 (MQ below (zE D A (zA L f (fun r => ge_first (cF T V z9 kd) r))) args s (zR0 5 132).cells (zR0 5 132).slots A) 8 [(0, .ref (ad 0)), (1, .ref (ad (20 + kd))), (2, .int (zI y))] [] L f := by
    intro d
    induction d with
    | zero => intro y q1; omega
    | succ d ih =>
      intro y q1 q2 hJ
      have l2 : y < hy → ∀ (d : Nat) (x : Int), (hx - x).toNat < d → lx ≤ x ∧ x ≤ 31 → (∀ y2 x2 t2 : Int, ge_bf y2 x2 t2 y x 0 → ¬ cF T V z9 kd y2 x2 t2) → zG p l e (zR0 5 132) s m args below meth c D A 5 0 0 (MQ below (zE D A (zA L f (fun r => ge_first (cF T V z9 kd) r))) args s (zR0 5 132).cells (zR0 5 132).slots A) 27 [(0, .ref (ad 0)), (1, .ref (ad (20 + kd))), (2, .int (zI y)), (3, .int (zI x))] [] L f := by
        intro hy1 d
        induction d with
        | zero => intro x q1; omega
        | succ d ih2 =>
          intro x q1 q2 hJ
          have l3 : x < hx → ∀ (d t : Nat), 4 < t + d → t ≤ 4 → (∀ y2 x2 t2 : Int, ge_bf y2 x2 t2 y x (t : Int) → ¬ cF T V z9 kd y2 x2 t2) → zG p l e (zR0 5 132) s m args below meth c D A 5 0 0 (MQ below (zE D A (zA L f (fun r => ge_first (cF T V z9 kd) r))) args s (zR0 5 132).cells (zR0 5 132).slots A) 41 [(0, .ref (ad 0)), (1, .ref (ad (20 + kd))), (2, .int (zI y)), (3, .int (zI x)), (4, .int (zI (t : Int)))] [] L f := by
            intro hx1 d
            induction d with
            | zero => intro t q1 q2; omega
            | succ d ih3 =>
              intro t q1 q2 hJ
              refine k_iload Xc d_R_findPlace_41 rfl (n := 43) rfl ?_
              refine k_iconst Xc d_R_findPlace_43 (n := 44) rfl ?_
              refine k_icmp_ge Xc d_R_findPlace_44 (t := 79) (n := 47) rfl rfl (by omega) (by omega) (fun h_44 => ?_) (fun h_44 => ?_)
              · refine k_iinc Xc d_R_findPlace_79 rfl (by decide) (n := 82) rfl ?_
                refine k_goto Xc d_R_findPlace_82 (t := 27) rfl ?_
                exact k_loc (ih2 (x + 1) (by omega) (by omega) (fun y2 x2 t2 q z => by
                  unfold ge_bf at q
                  have z1 := z.1
                  exact hJ y2 x2 t2 (by unfold ge_bf; omega) z)) rfl
              · refine k_aload_n Xc d_R_findPlace_47 rfl rfl (n := 48) rfl ?_
                refine k_aload_n Xc d_R_findPlace_48 rfl rfl (n := 49) rfl ?_
                refine k_iload_n Xc d_R_findPlace_49 rfl rfl (n := 50) rfl ?_
                refine k_iload_n Xc d_R_findPlace_50 rfl rfl (n := 51) rfl ?_
                refine k_iload Xc d_R_findPlace_51 rfl (n := 53) rfl ?_
                refine k_qV (na := 4) Xc (m_R_canLie l D G hR z9 k9 hO kd hkd _ _ (by omega) (by omega) _ (by omega)) hR.2.2.2.2.2.1.1 hR.2.2.2.2.2.1.2 rfl wd_410 wd_407 wd_409 ws_3 wd_1 (by decide +kernel) ⟨by decide, by decide⟩ rfl rfl (Nat.le_of_ble_eq_true rfl) d_R_findPlace_53 (n := 56) rfl ⟨Nat.zero_le _, Nat.zero_le _⟩ (fun r_53 e_53 => ?_)
                rcases e_53 with ⟨e_53, rfl⟩ | ⟨e_53, rfl⟩
                · refine k_if_eq Xc d_R_findPlace_56 (t := 73) (n := 59) rfl rfl (by omega) (fun h_56 => absurd h_56 (by omega)) (fun _ => ?_)
                  refine k_iload_n Xc d_R_findPlace_59 rfl rfl (n := 60) rfl ?_
                  refine k_bipush Xc d_R_findPlace_60 rfl (n := 62) rfl ?_
                  refine k_iload_n Xc d_R_findPlace_62 rfl rfl (n := 63) rfl ?_
                  refine k_imul Xc d_R_findPlace_63 (n := 64) rfl ?_
                  refine k_iadd Xc d_R_findPlace_64 (n := 65) rfl ?_
                  refine k_sipush Xc d_R_findPlace_65 rfl (n := 68) rfl ?_
                  refine k_iload Xc d_R_findPlace_68 rfl (n := 70) rfl ?_
                  refine k_imul Xc d_R_findPlace_70 (n := 71) rfl ?_
                  refine k_iadd Xc d_R_findPlace_71 (n := 72) rfl ?_
                  refine k_iret Xc d_R_findPlace_72 hr rfl (Nat.le_refl _) (Nat.le_refl _) ⟨_, rfl, ?_, rfl, rfl⟩
                  exact Or.inr ⟨y, x, (t : Int), ⟨by omega, e_53⟩, rfl, hJ⟩
                · refine k_if_eq Xc d_R_findPlace_56 (t := 73) (n := 59) rfl rfl (by omega) (fun _ => ?_) (fun h_56 => absurd h_56 (by omega))
                  refine k_iinc Xc d_R_findPlace_73 rfl (by decide) (n := 76) rfl ?_
                  refine k_goto Xc d_R_findPlace_76 (t := 41) rfl ?_
                  exact k_loc (ih3 (t + 1) (by omega) (by omega) (fun y2 x2 t2 q z => by
                    unfold ge_bf at q
                    by_cases c : y2 = y ∧ x2 = x ∧ t2 = (t : Int)
                    · obtain ⟨rfl, rfl, rfl⟩ := c
                      exact e_53 z.2
                    · exact hJ y2 x2 t2 (by unfold ge_bf; omega) z)) rfl
          refine k_iload_n Xc d_R_findPlace_27 rfl rfl (n := 28) rfl ?_
          refine k_aload_n Xc d_R_findPlace_28 rfl rfl (n := 29) rfl ?_
          refine k_get Xc u_R rfl 2 (by decide) wd_136 rfl d_R_findPlace_29 (n := 32) rfl hR.2.2.2.2.2.1.1 hR.2.2.2.2.2.1.2 rfl ?_
          refine k_get Xc u_S rfl 4 (by decide) wd_38 rfl d_R_findPlace_32 (n := 35) rfl (hR.2.1 2 (by omega)).1 (hR.2.1 2 (by omega)).2.2.2.1 rfl ?_
          refine k_val hhx.symm ?_
          refine k_icmp_ge Xc d_R_findPlace_35 (t := 85) (n := 38) rfl rfl (by omega) (by omega) (fun h_35 => ?_) (fun h_35 => ?_)
          · refine k_iinc Xc d_R_findPlace_85 rfl (by decide) (n := 88) rfl ?_
            refine k_goto Xc d_R_findPlace_88 (t := 8) rfl ?_
            exact k_loc (ih (y + 1) (by omega) (by omega) (fun y2 x2 t2 q z => by
              unfold ge_bf at q
              have z1 := z.1
              rw [← hlx, ← hhx, ← hly, ← hhy] at z1
              exact hJ y2 x2 t2 (by unfold ge_bf; omega) z)) rfl
          · refine k_iconst Xc d_R_findPlace_38 (n := 39) rfl ?_
            refine k_istore Xc d_R_findPlace_39 (by decide) (n := 41) rfl ?_
            exact k_loc (l3 (by omega) 5 0 (by omega) (by omega) hJ) rfl
      refine k_iload_n Xc d_R_findPlace_8 rfl rfl (n := 9) rfl ?_
      refine k_aload_n Xc d_R_findPlace_9 rfl rfl (n := 10) rfl ?_
      refine k_get Xc u_R rfl 2 (by decide) wd_136 rfl d_R_findPlace_10 (n := 13) rfl hR.2.2.2.2.2.1.1 hR.2.2.2.2.2.1.2 rfl ?_
      refine k_get Xc u_S rfl 6 (by decide) wd_43 rfl d_R_findPlace_13 (n := 16) rfl (hR.2.1 2 (by omega)).1 (hR.2.1 2 (by omega)).2.2.2.1 rfl ?_
      refine k_val hhy.symm ?_
      refine k_icmp_ge Xc d_R_findPlace_16 (t := 91) (n := 19) rfl rfl (by omega) (by omega) (fun h_16 => ?_) (fun h_16 => ?_)
      · refine k_iconst Xc d_R_findPlace_91 (n := 92) rfl ?_
        refine k_iret Xc d_R_findPlace_92 hr rfl (Nat.le_refl _) (Nat.le_refl _) ⟨_, rfl, ?_, rfl, rfl⟩
        exact Or.inl ⟨rfl, fun y2 x2 t2 z => by
          have z1 := z.1
          rw [← hlx, ← hhx, ← hly, ← hhy] at z1
          exact hJ y2 x2 t2 (by unfold ge_bf; omega) z⟩
      · refine k_aload_n Xc d_R_findPlace_19 rfl rfl (n := 20) rfl ?_
        refine k_get Xc u_R rfl 2 (by decide) wd_136 rfl d_R_findPlace_20 (n := 23) rfl hR.2.2.2.2.2.1.1 hR.2.2.2.2.2.1.2 rfl ?_
        refine k_get Xc u_S rfl 3 (by decide) wd_36 rfl d_R_findPlace_23 (n := 26) rfl (hR.2.1 2 (by omega)).1 (hR.2.1 2 (by omega)).2.2.2.1 rfl ?_
        refine k_val hlx.symm ?_
        refine k_istore_n Xc d_R_findPlace_26 rfl (by decide) (n := 27) rfl ?_
        exact k_loc (l2 (by omega) ((hx - lx).toNat + 1) lx (by omega) (by omega) hJ) rfl
  refine k_aload_n Xc d_R_findPlace_0 rfl rfl (n := 1) rfl ?_
  refine k_get Xc u_R rfl 2 (by decide) wd_136 rfl d_R_findPlace_1 (n := 4) rfl hR.2.2.2.2.2.1.1 hR.2.2.2.2.2.1.2 rfl ?_
  refine k_get Xc u_S rfl 5 (by decide) wd_41 rfl d_R_findPlace_4 (n := 7) rfl (hR.2.1 2 (by omega)).1 (hR.2.1 2 (by omega)).2.2.2.1 rfl ?_
  refine k_val hly.symm ?_
  refine k_istore_n Xc d_R_findPlace_7 rfl (by decide) (n := 8) rfl ?_
  exact k_loc (l1 ((hy - ly).toNat + 1) ly (by omega) (by omega) (fun y2 x2 t2 q z => by
    unfold ge_bf at q
    have z1 := z.1
    rw [← hlx, ← hhx, ← hly, ← hhy] at z1
    omega)) rfl
set_option maxRecDepth 100000 in
set_option maxHeartbeats 4000000 in
theorem m_R_parts (l : Launch) (D : va_G) (G : Nat → ClassId) {L : List Nat} {f : Nat → va_E} {ad : Nat → Nat} {T : Nat → TT} {V : Nat → Int} (hR : zRm G L f ad T V) : zM l D G y_R_parts (.code y_R_parts c_R_parts 1 (some .int) :: BG) (zR0 0 0) [.ref (ad 0)] L f (zA L f (fun r => r = V 2)) := by
  refine zM.of (by decide) (Nat.le_of_ble_eq_true rfl) rfl (fun p e s m args below meth c A Xc hr hnm => ?_)
  refine k_aload_n Xc d_R_parts_0 rfl rfl (n := 1) rfl ?_
  refine k_get Xc u_R rfl 8 (by decide) wd_142 rfl d_R_parts_1 (n := 4) rfl hR.2.2.2.2.2.1.1 hR.2.2.2.2.2.1.2 rfl ?_
  refine k_iret Xc d_R_parts_4 hr rfl (Nat.le_refl _) (Nat.le_refl _) ⟨_, rfl, ?_, rfl, rfl⟩
  rfl
set_option maxRecDepth 100000 in
set_option maxHeartbeats 4000000 in
theorem m_R_free (l : Launch) (D : va_G) (G : Nat → ClassId) {L : List Nat} {f : Nat → va_E} {ad : Nat → Nat} {T : Nat → TT} {V : Nat → Int} (hR : zRm G L f ad T V) (hl : ∀ i : Nat, i < 12 → V (40 + i) = 0 ∨ V (40 + i) = 1) (h2 : sB (T 2).1 (T 2).2.1 (T 2).2.2.1) (hp : ∀ i : Nat, i < 12 → V (40 + i) ≠ 0 → rS T (32 + i)) : zM l D G y_R_free (.code y_R_free c_R_free 3 (some .int) :: BG) (zR0 2 44) [.ref (ad 0)] L f (zA L f (fun r => r = cFree T V 12)) := by
  refine zM.of (by decide) (Nat.le_of_ble_eq_true rfl) rfl (fun p e s m args below meth c A Xc hr hnm => ?_)
  have loop : ∀ (d i : Nat), 12 < i + d → i ≤ 12 → zG p l e (zR0 2 44) s m args below meth c D A 3 0 0 (MQ below (zE D A (zA L f (fun r => r = cFree T V 12))) args s (zR0 2 44).cells (zR0 2 44).slots A) 13 [(0, .ref (ad 0)), (1, .int (zI (cFree T V i))), (2, .int (zI (i : Int)))] [] L f := by
    intro d
    induction d with
    | zero => intro i h1 h2; omega
    | succ d ih =>
      intro i h1 h2
      refine k_iload_n Xc d_R_free_13 rfl rfl (n := 14) rfl ?_
      refine k_bipush Xc d_R_free_14 rfl (n := 16) rfl ?_
      refine k_icmp_ge Xc d_R_free_16 (t := 52) (n := 19) rfl rfl (by omega) (by omega) (fun h_16 => ?_) (fun h_16 => ?_)
      · refine k_iload_n Xc d_R_free_52 rfl rfl (n := 53) rfl ?_
        refine k_iret Xc d_R_free_53 hr rfl (Nat.le_refl _) (Nat.le_refl _) ⟨_, rfl, ?_, rfl, rfl⟩
        rw [show i = 12 by omega]
      · refine k_aload_n Xc d_R_free_19 rfl rfl (n := 20) rfl ?_
        refine k_get Xc u_R rfl 5 (by decide) wd_139 rfl d_R_free_20 (n := 23) rfl hR.2.2.2.2.2.1.1 hR.2.2.2.2.2.1.2 rfl ?_
        refine k_iload_n Xc d_R_free_23 rfl rfl (n := 24) rfl ?_
        have li := hl i (by omega)
        refine k_aaldN Xc d_R_free_24 (n := 25) rfl hR.2.2.2.2.2.2.2.2.1 hR.2.2.2.2.2.2.2.2.2 rfl (by omega) (by decide) ?_
        refine k_get Xc u_P rfl 1 (by decide) wd_112 rfl d_R_free_25 (n := 28) rfl (hR.2.2.2.2.1 i (by omega)).1 (hR.2.2.2.2.1 i (by omega)).2 rfl ?_
        refine k_if_eq Xc d_R_free_28 (t := 46) (n := 31) rfl rfl (by omega) (fun h_28 => ?_) (fun h_28 => ?_)
        · refine k_iinc Xc d_R_free_46 rfl (by decide) (n := 49) rfl ?_
          refine k_goto Xc d_R_free_49 (t := 13) rfl ?_
          exact k_loc (ih (i + 1) (by omega) (by omega)) (by rw [cFree_s]; first | (rw [if_pos (by omega)]; rfl) | (rw [if_neg (by omega)]; rfl))
        · refine k_iload_n Xc d_R_free_31 rfl rfl (n := 32) rfl ?_
          refine k_aload_n Xc d_R_free_32 rfl rfl (n := 33) rfl ?_
          refine k_get Xc u_R rfl 5 (by decide) wd_139 rfl d_R_free_33 (n := 36) rfl hR.2.2.2.2.2.1.1 hR.2.2.2.2.2.1.2 rfl ?_
          refine k_iload_n Xc d_R_free_36 rfl rfl (n := 37) rfl ?_
          refine k_aaldN Xc d_R_free_37 (n := 38) rfl hR.2.2.2.2.2.2.2.2.1 hR.2.2.2.2.2.2.2.2.2 rfl (by omega) (by decide) ?_
          refine k_get Xc u_P rfl 0 (by decide) wd_110 rfl d_R_free_38 (n := 41) rfl (hR.2.2.2.2.1 i (by omega)).1 (hR.2.2.2.2.1 i (by omega)).2 rfl ?_
          refine k_qV (na := 0) Xc (m_S_doubleArea l D G (hR.2.1 (32 + i) (by omega)) (hp i (by omega) (by omega)).2.1.1) (hR.2.1 (32 + i) (by omega)).1 (hR.2.1 (32 + i) (by omega)).2.2.2.1 rfl wd_177 wd_174 wd_175 wd_176 wd_2 (by decide +kernel) ⟨by decide, by decide⟩ rfl rfl (Nat.le_of_ble_eq_true rfl) d_R_free_41 (n := 44) rfl ⟨Nat.zero_le _, Nat.zero_le _⟩ (fun r_41 e_41 => ?_)
          subst e_41
          refine k_isub Xc d_R_free_44 (n := 45) rfl ?_
          refine k_istore_n Xc d_R_free_45 rfl (by decide) (n := 46) rfl ?_
          refine k_iinc Xc d_R_free_46 rfl (by decide) (n := 49) rfl ?_
          refine k_goto Xc d_R_free_49 (t := 13) rfl ?_
          exact k_loc (ih (i + 1) (by omega) (by omega)) (by rw [cFree_s]; first | (rw [if_pos (by omega)]; rfl) | (rw [if_neg (by omega)]; rfl))
  refine k_aload_n Xc d_R_free_0 rfl rfl (n := 1) rfl ?_
  refine k_get Xc u_R rfl 2 (by decide) wd_136 rfl d_R_free_1 (n := 4) rfl hR.2.2.2.2.2.1.1 hR.2.2.2.2.2.1.2 rfl ?_
  refine k_qV (na := 0) Xc (m_S_doubleArea l D G (hR.2.1 2 (by omega)) h2.1) (hR.2.1 2 (by omega)).1 (hR.2.1 2 (by omega)).2.2.2.1 rfl wd_177 wd_174 wd_175 wd_176 wd_2 (by decide +kernel) ⟨by decide, by decide⟩ rfl rfl (Nat.le_of_ble_eq_true rfl) d_R_free_4 (n := 7) rfl ⟨Nat.zero_le _, Nat.zero_le _⟩ (fun r_4 e_4 => ?_)
  subst e_4
  have ab := ar_bd h2 (T 2).1 (Nat.le_refl _)
  have h12 := h2.1
  refine k_abs Xc d_R_free_7 (n := 10) rfl wd_182 wd_183 wd_12 wd_184 ⟨by decide, Nat.le_of_ble_eq_true rfl⟩ ⟨Nat.zero_le _, Nat.zero_le _⟩ (by omega) ?_
  refine k_istore_n Xc d_R_free_10 rfl (by decide) (n := 11) rfl ?_
  refine k_iconst Xc d_R_free_11 (n := 12) rfl ?_
  refine k_istore_n Xc d_R_free_12 rfl (by decide) (n := 13) rfl ?_
  exact k_loc (loop 13 0 (by omega) (by omega)) rfl
