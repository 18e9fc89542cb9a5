-- LAW: its start
theorem list_bd : ∀ L : List Nat, ∃ M : Nat, ∀ z, z ∈ L → z < M
  | [] => ⟨0, fun z h => absurd h List.not_mem_nil⟩
  | a :: t => by
    obtain ⟨M, h⟩ := list_bd t
    refine ⟨M + a + 1, fun z hz => ?_⟩
    rcases List.mem_cons.mp hz with e | e
    · omega
    · have := h z e; omega
/-- the addresses by their codes, and beyond all addresses where a code stands for none -/
noncomputable def adF (ad : Nat → Nat) (M : Nat) : Nat → Nat := fun c => @ite _ (bU 5 6 12 c) (Classical.propDecidable _) (ad c) (M + c)
theorem adF_u {ad : Nat → Nat} {M c : Nat} (h : bU 5 6 12 c) : adF ad M c = ad c := if_pos h
theorem adF_n {ad : Nat → Nat} {M c : Nat} (h : ¬ bU 5 6 12 c) : adF ad M c = M + c := if_neg h
theorem adF_inj {ad : Nat → Nat} {M : Nat} (hm : ∀ c, bU 5 6 12 c → ad c < M) (hi : ∀ c d, bU 5 6 12 c → bU 5 6 12 d → ad c = ad d → c = d) : zRi (adF ad M) := by
  intro i j _ _ e
  by_cases a : bU 5 6 12 i <;> by_cases b : bU 5 6 12 j
  · rw [adF_u a, adF_u b] at e; exact hi i j a b e
  · rw [adF_u a, adF_n b] at e; have := hm i a; omega
  · rw [adF_n a, adF_u b] at e; have := hm j b; omega
  · rw [adF_n a, adF_n b] at e; omega
section ZS
variable {p : Program} {l : Launch} {e : Env} {R : Room} {s : State} {m : MethodId} {args : Array Value} {below : List Frame} {meth : Method} {c : Code} {D : va_G} {G : Nat → ClassId} {A : Nat → Prop} {nL cells slots : Nat} {Q : State → Prop}
variable {pc : Nat} {lv : List (Nat × Value)} {st : List Value} {L : List Nat} {f f1 : Nat → va_E}
/-- cells that are the same, in other words -/
def ceq (G : Nat → ClassId) (a b : va_E) : Prop := b = a ∨ ∃ (k N : Nat) (h : Nat → Option Nat) (Y : Nat → Nat), a = zwo G k N h ∧ b = zw G k N Y ∧ ∀ j, j < N → h j = some (Y j)
theorem k_all (h : ∀ z, z ∈ L → ceq G (f z) (f1 z)) (kk : zG p l e R s m args below meth c D A nL cells slots Q pc lv st L f1) : zG p l e R s m args below meth c D A nL cells slots Q pc lv st L f := by
  intro H locs ls hl hP hD hS
  refine kk H locs ls hl (fun q x hx => ?_) ⟨fun i j x y hx hy => ?_, fun q x hx => ?_⟩ hS
  · unfold va_pl at hx
    rw [List.getElem?_map] at hx
    obtain ⟨z, hz, rfl⟩ := Option.map_eq_some_iff.mp hx
    have old := hP q (z, f z) (by unfold va_pl; rw [List.getElem?_map, hz]; rfl)
    rcases h z (List.mem_of_getElem? hz) with e1 | ⟨k, N, g, Y, e1, e2, e3⟩
    · show va_at D zc (z, f1 z) H
      rw [e1]; exact old
    · rw [e1] at old
      show va_at D zc (z, f1 z) H
      rw [e2]
      show H[z]? = some (vp_cell _ _)
      have o2 : H[z]? = some (vp_cell (G k) (N, .inr (.inr (.inr (.inr g))))) := old
      rw [o2, vp_cell_q, vp_cell_q]
      exact congrArg some (arrV_congr (fun j hj => by rw [e3 j hj]))
  · unfold va_pl at hx hy
    rw [List.getElem?_map] at hx hy
    obtain ⟨z, hz, rfl⟩ := Option.map_eq_some_iff.mp hx
    obtain ⟨w, hw, rfl⟩ := Option.map_eq_some_iff.mp hy
    exact hD.1 i j (z, f z) (w, f w) (by unfold va_pl; rw [List.getElem?_map, hz]; rfl) (by unfold va_pl; rw [List.getElem?_map, hw]; rfl)
  · unfold va_pl at hx
    rw [List.getElem?_map] at hx
    obtain ⟨z, hz, rfl⟩ := Option.map_eq_some_iff.mp hx
    exact hD.2 q (z, f z) (by unfold va_pl; rw [List.getElem?_map, hz]; rfl)
end ZS
/-- full rows for rows that were filled -/
def ffu (G : Nat → ClassId) (f : Nat → va_E) (ad : Nat → Nat) : Nat → va_E := fun z =>
  if z = ad 1 then zw G 3 5 (fun i => ad (10 + i)) else if z = ad 2 then zw G 4 6 (fun i => ad (20 + i)) else if z = ad 3 then zw G 5 12 (fun i => ad (40 + i)) else
  if z = ad 30 then zw G 2 4 (fun t => ad (100 + (8 + 4 * 0 + t))) else if z = ad 31 then zw G 2 4 (fun t => ad (100 + (8 + 4 * 1 + t))) else if z = ad 32 then zw G 2 4 (fun t => ad (100 + (8 + 4 * 2 + t))) else
  if z = ad 33 then zw G 2 4 (fun t => ad (100 + (8 + 4 * 3 + t))) else if z = ad 34 then zw G 2 4 (fun t => ad (100 + (8 + 4 * 4 + t))) else if z = ad 35 then zw G 2 4 (fun t => ad (100 + (8 + 4 * 5 + t))) else f z
section FU
variable {G : Nat → ClassId} {L : List Nat} {f : Nat → va_E} {ad : Nat → Nat}
theorem ffu_ne {z : Nat} (h : ∀ c, c = 1 ∨ c = 2 ∨ c = 3 ∨ (30 ≤ c ∧ c < 36) → z ≠ ad c) : ffu G f ad z = f z := by
  unfold ffu
  rw [if_neg (h 1 (by omega)), if_neg (h 2 (by omega)), if_neg (h 3 (by omega)), if_neg (h 30 (by omega)), if_neg (h 31 (by omega)), if_neg (h 32 (by omega)), if_neg (h 33 (by omega)), if_neg (h 34 (by omega)), if_neg (h 35 (by omega))]
theorem ffu_o (hi : zRi ad) {d : Nat} (hd : d < 400) (h : ¬ (d = 1 ∨ d = 2 ∨ d = 3 ∨ (30 ≤ d ∧ d < 36))) : ffu G f ad (ad d) = f (ad d) := ffu_ne fun c hc e => by
  have := hi d c hd (by omega) e
  omega
theorem ffu_1 : ffu G f ad (ad 1) = zw G 3 5 (fun i => ad (10 + i)) := if_pos rfl
theorem ffu_2 (hi : zRi ad) : ffu G f ad (ad 2) = zw G 4 6 (fun i => ad (20 + i)) := by
  unfold ffu
  rw [if_neg (zRi_ne hi (by omega) (by omega) (by omega)), if_pos rfl]
theorem ffu_3 (hi : zRi ad) : ffu G f ad (ad 3) = zw G 5 12 (fun i => ad (40 + i)) := by
  unfold ffu
  rw [if_neg (zRi_ne hi (by omega) (by omega) (by omega)), if_neg (zRi_ne hi (by omega) (by omega) (by omega)), if_pos rfl]
theorem ffu_k (hi : zRi ad) {i : Nat} (h : i < 6) : ffu G f ad (ad (30 + i)) = zw G 2 4 (fun t => ad (100 + (8 + 4 * i + t))) := by
  have n : ∀ c d, c < 400 → d < 400 → c ≠ d → ad c ≠ ad d := fun c d h1 h2 h3 => zRi_ne hi h1 h2 h3
  unfold ffu
  rcases (show i = 0 ∨ i = 1 ∨ i = 2 ∨ i = 3 ∨ i = 4 ∨ i = 5 by omega) with rfl | rfl | rfl | rfl | rfl | rfl
  · rw [if_neg (n _ _ (by omega) (by omega) (by omega)), if_neg (n _ _ (by omega) (by omega) (by omega)), if_neg (n _ _ (by omega) (by omega) (by omega)), if_pos rfl]
  · rw [if_neg (n _ _ (by omega) (by omega) (by omega)), if_neg (n _ _ (by omega) (by omega) (by omega)), if_neg (n _ _ (by omega) (by omega) (by omega)), if_neg (n _ _ (by omega) (by omega) (by omega)), if_pos rfl]
  · rw [if_neg (n _ _ (by omega) (by omega) (by omega)), if_neg (n _ _ (by omega) (by omega) (by omega)), if_neg (n _ _ (by omega) (by omega) (by omega)), if_neg (n _ _ (by omega) (by omega) (by omega)), if_neg (n _ _ (by omega) (by omega) (by omega)), if_pos rfl]
  · rw [if_neg (n _ _ (by omega) (by omega) (by omega)), if_neg (n _ _ (by omega) (by omega) (by omega)), if_neg (n _ _ (by omega) (by omega) (by omega)), if_neg (n _ _ (by omega) (by omega) (by omega)), if_neg (n _ _ (by omega) (by omega) (by omega)), if_neg (n _ _ (by omega) (by omega) (by omega)), if_pos rfl]
  · rw [if_neg (n _ _ (by omega) (by omega) (by omega)), if_neg (n _ _ (by omega) (by omega) (by omega)), if_neg (n _ _ (by omega) (by omega) (by omega)), if_neg (n _ _ (by omega) (by omega) (by omega)), if_neg (n _ _ (by omega) (by omega) (by omega)), if_neg (n _ _ (by omega) (by omega) (by omega)), if_neg (n _ _ (by omega) (by omega) (by omega)), if_pos rfl]
  · rw [if_neg (n _ _ (by omega) (by omega) (by omega)), if_neg (n _ _ (by omega) (by omega) (by omega)), if_neg (n _ _ (by omega) (by omega) (by omega)), if_neg (n _ _ (by omega) (by omega) (by omega)), if_neg (n _ _ (by omega) (by omega) (by omega)), if_neg (n _ _ (by omega) (by omega) (by omega)), if_neg (n _ _ (by omega) (by omega) (by omega)), if_neg (n _ _ (by omega) (by omega) (by omega)), if_pos rfl]
/-- the room is made -/
theorem zRm_of (hB : zBd G L f ad 5 6 12) (hi : zRi ad) : (∀ z, z ∈ L → ceq G (f z) (ffu G f ad z)) ∧ zRm G L (ffu G f ad) ad (fun _ => TT0) V0 := by
  obtain ⟨h1, h2, h3, h4, h5, h6, h7, h8, h9, h10⟩ := hB
  have u : ∀ s, s < 44 → bS 5 6 12 s := fun s hs => by unfold bS; omega
  constructor
  · intro z _
    by_cases c1 : z = ad 1
    · subst c1; exact Or.inr ⟨3, 5, _, _, h8, ffu_1, fun j hj => ptn_lt hj⟩
    · by_cases c2 : z = ad 2
      · subst c2; exact Or.inr ⟨4, 6, _, _, h9, ffu_2 hi, fun j hj => ptn_lt hj⟩
      · by_cases c3 : z = ad 3
        · subst c3; exact Or.inr ⟨5, 12, _, _, h10, ffu_3 hi, fun j hj => ptn_lt hj⟩
        · by_cases c4 : ∃ i, i < 6 ∧ z = ad (30 + i)
          · obtain ⟨i, hi6, rfl⟩ := c4
            refine Or.inr ⟨2, 4, _, _, (h5 i hi6).2, ffu_k hi hi6, fun j hj => ?_⟩
            rw [ptn_lt hj, show 108 + 4 * i + j = 100 + (8 + 4 * i + j) by omega]
          · refine Or.inl (ffu_ne fun c hc e => ?_)
            rcases hc with rfl | rfl | rfl | hc
            · exact c1 e
            · exact c2 e
            · exact c3 e
            · exact c4 ⟨c - 30, by omega, by rw [show 30 + (c - 30) = c by omega]; exact e⟩
  · refine ⟨hi, fun s hs => ?_, fun i hi5 => ⟨h1 _ (by unfold bU; omega), ?_⟩, fun i hi6 => ⟨h1 _ (by unfold bU; omega), ?_, h1 _ (by unfold bU; omega), ffu_k hi hi6⟩, fun i hi12 => ⟨h1 _ (by unfold bU; omega), ?_⟩, ⟨h1 _ (by unfold bU; omega), ?_⟩, ⟨h1 _ (by unfold bU; omega), ffu_1⟩, ⟨h1 _ (by unfold bU; omega), ffu_2 hi⟩, ⟨h1 _ (by unfold bU; omega), ffu_3 hi⟩⟩
    · obtain ⟨u1, u2, u3⟩ := bS_U (by omega) (by omega) (by omega) (u s hs)
      obtain ⟨s1, s2, s3⟩ := h3 s (u s hs)
      exact ⟨h1 _ u1, h1 _ u2, h1 _ u3, (ffu_o hi (by omega) (by omega)).trans s1, (ffu_o hi (by omega) (by omega)).trans s2, (ffu_o hi (by omega) (by omega)).trans s3⟩
    · rw [ffu_o hi (by omega) (by omega), h4 i hi5, show 103 + i = 100 + (3 + i) by omega]; rfl
    · rw [ffu_o hi (by omega) (by omega), (h5 i hi6).1]; rfl
    · rw [ffu_o hi (by omega) (by omega), h6 i hi12, show 132 + i = 100 + (32 + i) by omega]; rfl
    · rw [ffu_o hi (by omega) (by omega), h7]; rfl
end FU
theorem zRel_0 {R : Nat → Int → Int} (h1 : ∀ j : Nat, j < 12 → R 13 (j : Int) = -1) (h2 : ∀ k, k ≠ 13 → R k = fun _ => 0) : zRel (fun _ => TT0) V0 0 0 0 0 R := by
  refine ⟨⟨by omega, rfl, fun j hj => absurd hj (by omega), fun q => absurd q (by omega), fun j _ => ?_⟩, ⟨by omega, Or.inl ⟨rfl, rfl, rfl, rfl, rfl, rfl⟩⟩, ⟨rfl, by omega, fun z hz => absurd hz (by omega), fun z hz => absurd hz (by omega)⟩, ⟨rfl, by omega, fun z hz => absurd hz (by omega), fun z hz => absurd hz (by omega)⟩, fun p hp => Or.inl ⟨rfl, h1 p hp⟩, ?_⟩
  · rw [h2 0 (by omega), h2 1 (by omega)]
    dsimp only
    exact ⟨by omega, by omega, by omega, by omega⟩
  · rw [mcnt_no 12 (fun j hj => by rw [h1 j hj]; omega)]; rfl
theorem tNW_tbl : ∀ w ∈ tNW, w ∈ lw_tbl := by decide +kernel
theorem tSt_tbl : ∀ q ∈ tSt, Cond.stringRef "LeatherRoom" q.1 q.2 ∈ lw_tbl := by decide +kernel
theorem nNW_tbl : ∀ w ∈ nNW, w ∈ lw_tbl := by decide +kernel
theorem nAO_tbl : ∀ C ∈ nAO, Cond.arrayOver (.object C) ∈ lw_tbl := by decide +kernel
theorem tNC_gv : ∀ q ∈ tNC, Cond.not (.castable q.1 q.2) ∈ flatC (Jvm.Cond.and given_1 narrow_1) := by decide +kernel
theorem zs_gv : Cond.isRef (.static Bundle.tN "UNASSIGNED_STACK" Bundle.steD) ∈ flatC (Jvm.Cond.and given_1 narrow_1) ∧ Cond.isRef (.static Bundle.tN "SUPPRESSED_SENTINEL" Bundle.listD) ∈ flatC (Jvm.Cond.and given_1 narrow_1) := ⟨by decide +kernel, by decide +kernel⟩
theorem zs_tbl : Cond.laysStatic Bundle.tN "UNASSIGNED_STACK" Bundle.steD ∈ lw_tbl ∧ Cond.laysStatic Bundle.tN "SUPPRESSED_SENTINEL" Bundle.listD ∈ lw_tbl ∧ Cond.initialized Bundle.tN ∈ lw_tbl := ⟨by decide +kernel, by decide +kernel, by decide +kernel⟩
theorem arr_p {s : State} {args : Array Value} {ty : FieldType} (h : (Cond.arrayClass ty).before args s = true) (hty : ∀ C, ty ≠ .object C) : ∃ cA, ArrOfT s cA ty ∧ va_RA s cA ty := by
  obtain ⟨cA, kA, comp, h1, h2, h3⟩ := Cond.arrayClass_spec h
  refine ⟨cA, fun n z => ⟨fun k h => (by cases h), kA, h2, comp, h3⟩, ?_⟩
  cases ty with
  | object C => exact absurd rfl (hty C)
  | _ => exact h1
theorem arr_o {s : State} {args : Array Value} {C : String} (h : (Cond.arrayOver (.object C)).before args s = true) : ∃ cA, ArrOfT s cA (.object C) ∧ va_RA s cA (.object C) := by
  obtain ⟨comp, cA, kA, h1, -, h2, h3, h4⟩ := Cond.arrayOver_spec h
  exact ⟨cA, fun n z => ⟨fun k h => (by cases h), kA, h2, comp, h3⟩, kA, comp, h2, h3, h1, h4⟩
def pick6 {α : Type} (a b c d e f : α) : Nat → α := fun k => match k with
  | 0 => a
  | 1 => b
  | 2 => c
  | 3 => d
  | 4 => e
  | _ => f
set_option maxRecDepth 100000 in
set_option maxHeartbeats 4000000 in
/-- what the start gives -/
theorem law_ctx {p : Program} {s : State} {m : MethodId} {meth : Method} {c : Code} {b N : Nat} {xs : Nat → Int32} (C0 : lw_At p s m meth c b N xs) : ∃ (D : va_G) (G : Nat → ClassId), zX p s m #[Value.ref b] meth c D G (lA s) c_L_law "LeatherRoomLaw" 7 ∧ zTh (lA s) s s.heap ∧ zNe s := by
  obtain ⟨hx, hb, hr, hml, hown, hts, hX, hbl, hlocks, hgv⟩ := C0
  have hB : ∀ w ∈ BG, w.before #[Value.ref b] s = true := fun w hw => hts w (bg_tbl hw)
  obtain ⟨c0, i0, k0⟩ := u_known (ws := BG) (C := "LeatherRoom$Kind") (T := F_K) (N := 3) hB u_K (hB _ wd_82)
  obtain ⟨c1, i1, k1⟩ := u_known (ws := BG) (C := "LeatherRoom$Part") (T := F_P) (N := 6) hB u_P (hB _ wd_102)
  obtain ⟨c2, i2, k2⟩ := u_known (ws := BG) (C := "LeatherRoom$Shape") (T := F_S) (N := 7) hB u_S (hB _ wd_25)
  obtain ⟨c3, i3, k3⟩ := u_known (ws := BG) (C := "LeatherRoom$Zone") (T := F_Z) (N := 2) hB u_Z (hB _ wd_66)
  obtain ⟨c4, i4, k4⟩ := u_known (ws := BG) (C := "LeatherRoom") (T := F_R) (N := 9) hB u_R (hB _ wd_17)
  obtain ⟨c5, i5, k5⟩ := u_known (ws := BG) (C := "LeatherRoomModel") (T := F_M) (N := 30) hB u_M (hB _ wd_545)
  obtain ⟨g0, a0, b0⟩ := arr_p (hB _ wd_59) (fun C h => by cases h)
  obtain ⟨g1, a1, b1⟩ := arr_p (hB _ wd_789) (fun C h => by cases h)
  obtain ⟨g2, a2, b2⟩ := arr_o (hts _ (nAO_tbl "LeatherRoom$Shape" (List.mem_of_getElem? (i := 0) rfl)))
  obtain ⟨g3, a3, b3⟩ := arr_o (hts _ (nAO_tbl "LeatherRoom$Zone" (List.mem_of_getElem? (i := 1) rfl)))
  obtain ⟨g4, a4, b4⟩ := arr_o (hts _ (nAO_tbl "LeatherRoom$Kind" (List.mem_of_getElem? (i := 2) rfl)))
  obtain ⟨g5, a5, b5⟩ := arr_o (hts _ (nAO_tbl "LeatherRoom$Part" (List.mem_of_getElem? (i := 3) rfl)))
  have hK : va_K (pick6 c0 c1 c2 c3 c4 c5, pick6 i0 i1 i2 i3 i4 i5) zc (zt (pick6 g0 g1 g2 g3 g4 g5)) s := by
    refine ⟨fun k q hq => ?_, fun k q hq => ?_⟩
    · match k, hq with
      | 0, hq => obtain rfl := Option.some.inj hq; exact k0
      | 1, hq => obtain rfl := Option.some.inj hq; exact k1
      | 2, hq => obtain rfl := Option.some.inj hq; exact k2
      | 3, hq => obtain rfl := Option.some.inj hq; exact k3
      | 4, hq => obtain rfl := Option.some.inj hq; exact k4
      | 5, hq => obtain rfl := Option.some.inj hq; exact k5
      | k + 6, hq => cases hq
    · match k, hq with
      | 0, hq => obtain rfl := Option.some.inj hq; exact ⟨a0, b0⟩
      | 1, hq => obtain rfl := Option.some.inj hq; exact ⟨a1, b1⟩
      | 2, hq => obtain rfl := Option.some.inj hq; exact ⟨a2, b2⟩
      | 3, hq => obtain rfl := Option.some.inj hq; exact ⟨a3, b3⟩
      | 4, hq => obtain rfl := Option.some.inj hq; exact ⟨a4, b4⟩
      | 5, hq => obtain rfl := Option.some.inj hq; exact ⟨a5, b5⟩
      | k + 6, hq => cases hq
  have hgf := flat_of_before _ hgv
  have hnA : ∀ a : Nat, a < s.heap.size → ¬ lA s a := fun a ha h => by have h' : s.heap.size ≤ a := h; omega
  refine ⟨_, _, ⟨hx, hb, hml, hown, hB, hK, fun q h => h, hlocks⟩, ⟨fun w hw => va_Nw.of (tNW_on hw) (hts w (tNW_tbl w hw)), fun q hq => ?_, fun q hq => va_Nc.of (hgf _ (tNC_gv q hq)), vx_Zqof (hts _ zs_tbl.1) (hts _ zs_tbl.2.2) (hgf _ zs_gv.1) hnA, vx_Zqof (hts _ zs_tbl.2.1) (hts _ zs_tbl.2.2) (hgf _ zs_gv.2) hnA⟩, ⟨fun w hw => va_Nw.of (nNW_on hw) (hts w (nNW_tbl w hw)), fun C hC => va_AO.of (hts _ (nAO_tbl C hC))⟩⟩
  have h1 := hts _ (tSt_tbl q hq)
  obtain ⟨k, cf, i, a, -, -, -, -, -, h2⟩ := Cond.stringRef_spec (hK.1 4 _ rfl).2.1 h1
  exact ⟨a, vk_R.of h1 h2⟩
set_option maxRecDepth 100000 in
set_option maxHeartbeats 4000000 in
theorem whole_start {p : Program} {e : Env} {s : State} {m : MethodId} {below : List Frame} {meth : Method} {c : Code} (l : Launch) (hlt : l.stackTraces = false) {b L : Nat} {xs : Nat → Int32} (hL : L ≤ 2560) (C0 : lw_At p s m meth c b L xs) : W p l e room_1 s m #[Value.ref b] below meth c s.heap [] 0 0 (lw_Z below #[Value.ref b] s) (entryFrame m ([Value.ref b] : List Value).toArray 7) := by
  obtain ⟨D, G, Xc, hTh, hNe⟩ := law_ctx C0
  obtain ⟨-, -, hr, -, -, -, hX, hbl, -, -⟩ := C0
  rw [lg_entry_eq]
  have main : zG p l e room_1 s m #[Value.ref b] below meth c D (lA s) 7 0 0 (lw_Z below #[Value.ref b] s) 0 [(0, .ref b)] [] [] (fun _ => zlo G (fun _ => 0)) := by
    refine v_newO Xc u_R t_R_ok wd_16 wd_17 wd_1 (ci := 4) rfl fsR (fun j hj => ?_) ⟨by decide, by decide⟩ d_L_law_0 (n := 3) rfl (fun a f0 h0 g0 r0 => ?_)
    · rcases (show j = 0 ∨ j = 1 ∨ j = 2 ∨ j = 3 ∨ j = 4 ∨ j = 5 ∨ j = 6 ∨ j = 7 ∨ j = 8 by omega) with rfl | rfl | rfl | rfl | rfl | rfl | rfl | rfl | rfl <;> rfl
    refine k_dup Xc d_L_law_3 rfl (n := 4) rfl ?_
    refine k_callI Xc hNe (m_R_init l D G in_r g0) wd_20 wd_18 wd_19 wd_1 rfl (by decide +kernel) ⟨by decide, by decide⟩ (Nat.le_of_ble_eq_true rfl) d_L_law_4 (n := 7) rfl ⟨by decide, by decide⟩ (fun v L1 f1 hv => ?_)
    obtain ⟨rfl, ad, e0, hB⟩ := hv
    refine k_astore_n Xc d_L_law_7 rfl (by decide) (n := 8) rfl ?_
    refine v_newO Xc u_M t_M_ok wd_544 wd_545 wd_6 (ci := 5) rfl fsM (fun j hj => ?_) ⟨by decide, by decide⟩ d_L_law_8 (n := 11) rfl (fun o f2 h2 g2 r2 => ?_)
    · rcases (show j = 0 ∨ j = 1 ∨ j = 2 ∨ j = 3 ∨ j = 4 ∨ j = 5 ∨ j = 6 ∨ j = 7 ∨ j = 8 ∨ j = 9 ∨ j = 10 ∨ j = 11 ∨ j = 12 ∨ j = 13 ∨ j = 14 ∨ j = 15 ∨ j = 16 ∨ j = 17 ∨ j = 18 ∨ j = 19 ∨ j = 20 ∨ j = 21 ∨ j = 22 ∨ j = 23 ∨ j = 24 ∨ j = 25 ∨ j = 26 ∨ j = 27 ∨ j = 28 ∨ j = 29 by omega) with rfl | rfl | rfl | rfl | rfl | rfl | rfl | rfl | rfl | rfl | rfl | rfl | rfl | rfl | rfl | rfl | rfl | rfl | rfl | rfl | rfl | rfl | rfl | rfl | rfl | rfl | rfl | rfl | rfl | rfl <;> rfl
    refine k_dup Xc d_L_law_11 rfl (n := 12) rfl ?_
    refine k_callI Xc hNe (m_M_init l D G in_r g2) wd_548 wd_546 wd_547 wd_6 rfl (by decide +kernel) ⟨by decide, by decide⟩ (Nat.le_of_ble_eq_true rfl) d_L_law_12 (n := 15) rfl ⟨by decide, by decide⟩ (fun v L2 f3 hv => ?_)
    obtain ⟨rfl, ra, R, hnw, hR13, hR0, hMo, hk3⟩ := hv
    refine k_astore_n Xc d_L_law_15 rfl (by decide) (n := 16) rfl ?_
    refine k_iconst Xc d_L_law_16 (n := 17) rfl ?_
    refine k_newL Xc d_L_law_17 (n := 19) rfl ⟨by decide, by decide⟩ (fun ol h4 => ?_)
    refine k_astore_n Xc d_L_law_19 rfl (by decide) (n := 20) rfl ?_
    refine k_iconst Xc d_L_law_20 (n := 21) rfl ?_
    refine k_istore Xc d_L_law_21 (by decide) (n := 23) rfl ?_
    obtain ⟨M, hM⟩ := list_bd (L2 ++ [ol])
    have l1 : ∀ z, z ∈ L1 → z ∈ L2 := fun z hz => hnw.1 z (in_l hz)
    have keep : ∀ z, z ∈ L1 → va_up f3 ol (zlo G (fun _ => 0)) z = f1 z := fun z hz => by
      rw [va_up_ne _ _ (ne_of (l1 z hz) h4), hk3 z (in_l hz) (ne_of hz h2), r2 z (ne_of hz h2)]
    have hi := adF_inj (ad := ad) (M := M) (fun q hq => hM _ (in_l (l1 _ (hB.1 q hq)))) hB.2.1
    have hB2 : zBd G (L2 ++ [ol]) (va_up f3 ol (zlo G (fun _ => 0))) (adF ad M) 5 6 12 := zBd_keep hB (by omega) (by omega) (by omega) (fun z hz => in_l (l1 z hz)) (fun q hq => adF_u hq) keep
    obtain ⟨ce, hRm⟩ := zRm_of hB2 hi
    have far : ∀ z, z ∈ L2 ++ [ol] → z ∉ L1 → ∀ q, q < 400 → z ≠ adF ad M q := fun z hz hz1 q _ e => by
      by_cases u : bU 5 6 12 q
      · rw [adF_u u] at e; exact hz1 (e ▸ hB.1 q u)
      · rw [adF_n u] at e; have := hM z hz; omega
    have o2 : o ∈ L2 := hnw.1 o in_r
    have olL1 : ol ∉ L1 := fun h => h4 (l1 ol h)
    have raL1 : ∀ k, k < 23 → ra k ∉ L1 := fun k hk h => (hnw.2.1 k hk).2 (in_l h)
    have hap : lAp (L2 ++ [ol]) (adF ad M) ol o ra := ⟨in_r, far ol in_r olL1, far o (in_l o2) h2, fun k hk => far (ra k) (in_l (hnw.2.1 k hk).1) (raL1 k hk), Ne.symm (ne_of o2 h4), fun k hk => Ne.symm (ne_of (hnw.2.1 k hk).1 h4)⟩
    have ff : ∀ z, z ∈ L2 ++ [ol] → z ∉ L1 → ffu G (va_up f3 ol (zlo G (fun _ => 0))) (adF ad M) z = va_up f3 ol (zlo G (fun _ => 0)) z := fun z hz hz1 => ffu_ne fun q hq => far z hz hz1 q (by omega)
    have hMo2 : zMo G (L2 ++ [ol]) (ffu G (va_up f3 ol (zlo G (fun _ => 0))) (adF ad M)) o ra 0 0 0 0 0 0 0 R := by
      obtain ⟨q1, q2, q3, q4, q5⟩ := hMo
      refine ⟨in_l q1, fun k hk => in_l (q2 k hk), ?_, fun k hk => ?_, q5⟩
      · rw [ff o (in_l o2) h2, va_up_ne _ _ (ne_of o2 h4)]; exact q3
      · rw [ff _ (in_l (q2 k hk)) (raL1 k hk), va_up_ne _ _ (ne_of (q2 k hk) h4)]; exact q4 k hk
    have hfo : ffu G (va_up f3 ol (zlo G (fun _ => 0))) (adF ad M) ol = zlo G (fun _ => 0) := by rw [ff ol in_r olL1, va_up_self]
    have I : lI G (L2 ++ [ol]) (ffu G (va_up f3 ol (zlo G (fun _ => 0))) (adF ad M)) (adF ad M) ol o ra := ⟨_, _, 0, 0, 0, 0, R, 0, 0, 0, _, hRm, hMo2, hfo, zRel_0 hR13 hR0⟩
    refine k_all ce ?_
    refine k_cs (cells' := 190 + 0) (slots' := 1987 + 6 * 0) rfl rfl ?_
    refine k_loc (law_loop Xc hlt hTh hX hbl hL hr hap (L + 1) 0 _ (by omega) (by omega) I) ?_
    rw [adF_u (show bU 5 6 12 0 from Or.inl (by omega)), e0]
    rfl
  exact main s.heap [] _ (zL_entry (Nat.le_of_ble_eq_true rfl) rfl) (fun k q h => by cases h) ⟨fun i j x y hx => (by cases hx), fun k q h => (by cases h)⟩ va_S.rf
