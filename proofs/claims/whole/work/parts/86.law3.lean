/-! THE CLAIM OUT OF ONE WALK OF THE LAW'S BODY. Your part is whole_start (and what it stands on); all else here is the same for every law, but numbers. -/
def R_law : String := "LeatherRoomLaw"
def lw_P (b : Addr) (xs : List Int32) (args : Array Value) (s : State) : Prop := args = #[.ref b] ∧ s.IntsAt b xs ∧ xs.length ≤ 2560 ∧ (Jvm.Cond.and given_1 narrow_1).before args s = true
def lw_Q (_ : Array Value) (s : State) (o : Outcome) (t : State) : Prop := o = .returned (some (.int 1)) ∧ Framed s o t [] 621125 7232728
def lw_Z (below : List Frame) (a : Array Value) (s : State) : State → Prop := fun t => ∃ o, t.status = .running ∧ Ended t below o ∧ lw_Q a s o t
/-- the law's own end, with 1 on the stack, nothing written that was there before, its room as the claim has it -/
theorem lw_ret {p : Program} {l : Launch} {e : Env} {s : State} {m : MethodId} {below : List Frame} {meth : Method} {c : Code} {b : Nat} (hx : p.tables.exec = Jvm.exec) (hb : c.code = code) (hr : meth.sig.returnType = ret) (hlocks : meth.locks = false) {pc : Nat} {H : Heap} {ls : Array Slot} (hdg : decode code pc = .ok (.ireturn, 1)) : W p l e room_1 s m #[Value.ref b] below meth c H [] 621125 7232728 (lw_Z below #[Value.ref b] s) (F0 m pc ls [.int 1]) := by
  intro T hT X
  obtain ⟨fs, hret, hrun, hended, hW, hframe⟩ := X.leave (v := some (.int 1)) (hlocks := hlocks) (fun h => by rw [hr] at h; cases h)
  have hmeth' : T.vm.method? m = some meth := X.method'
  refine ⟨T.setFrames fs, ?_, .returned (some (.int 1)), hrun, hended, rfl, ⟨_, rfl⟩, hW, hframe⟩
  jvm_step X.here [X.here.top, hx, hb, hdg, hmeth', hr, ret, narrow_b1]
  (try refine ⟨rfl, ?_⟩); (try refine ⟨rfl, ?_⟩)
  first | (intro acts; rw [hret _ acts rfl rfl rfl]) | rw [hret _ _ rfl rfl rfl]
  exact Steps.refl _
/-- what holds at the law's entry: the machine, the code, the tables' words (any of lw_tbl by 'hts w (by decide +kernel)'), the script of L ints xs at the cell b, what the Statement gives of the start (any of its parts by flat_of_before) -/
def lw_At (p : Program) (s : State) (m : MethodId) (meth : Method) (c : Code) (b L : Nat) (xs : Nat → Int32) : Prop :=
  p.tables.exec = Jvm.exec ∧ c.code = code ∧ meth.sig.returnType = ret ∧ c.maxLocals = 7 ∧ s.vm.findClass R_law = some m.cls ∧ (∀ w ∈ lw_tbl, w.before #[Value.ref b] s = true) ∧ va_X b L xs s s.heap ∧ b < s.heap.size ∧ meth.locks = false ∧ (Jvm.Cond.and given_1 narrow_1).before #[Value.ref b] s = true
section ZLR
variable {p : Program} {l : Launch} {e : Env} {s : State} {m : MethodId} {below : List Frame} {meth : Method} {c : Code} {D : va_G} {G : Nat → ClassId} {b N : Nat} {xs : Nat → Int32} {L : List Nat} {f : Nat → va_E} {pc cells slots : Nat} {lv : List (Nat × Value)}
theorem k_lret (Xc : zX p s m #[Value.ref b] meth c D G (lA s) c_L_law "LeatherRoomLaw" 7) (hr : meth.sig.returnType = ret) (hd : decode code pc = .ok (.ireturn, 1)) (h1 : cells ≤ 621125) (h2 : slots ≤ 7232728) : zG p l e room_1 s m #[Value.ref b] below meth c D (lA s) 7 cells slots (lw_Z below #[Value.ref b] s) pc lv [.int (zI 1)] L f :=
  fun H locs ls hl hP hD hS => va_forget hS.2.2 (W.widen h1 h2 (lw_ret Xc.1 Xc.2.1 hr Xc.2.2.2.2.2.2.2 hd))
set_option maxRecDepth 100000 in
set_option maxHeartbeats 4000000 in
theorem law_loop (Xc : zX p s m #[Value.ref b] meth c D G (lA s) c_L_law "LeatherRoomLaw" 7) (hlt : l.stackTraces = false) (hTh : zTh (lA s) s s.heap) (hX : va_X b N xs s s.heap) (hbl : b < s.heap.size) (hN : N ≤ 2560) (hr : meth.sig.returnType = ret) {ad : Nat → Nat} {ol o : Nat} {ra : Nat → Nat} (hap : lAp L ad ol o ra) :
    ∀ (d i : Nat) (f : Nat → va_E), N < 5 * i + 5 * d → 5 * i ≤ N → lI G L f ad ol o ra → zG p l e room_1 s m #[Value.ref b] below meth c D (lA s) 7 (190 + i) (1987 + 6 * i) (lw_Z below #[Value.ref b] s) 23 [(0, .ref b), (1, .ref (ad 0)), (2, .ref o), (3, .ref ol), (4, .int (zI ((5 * i : Nat) : Int)))] [] L f := by
  have hA1 : ¬ lA s b := by show ¬ s.heap.size ≤ b; omega
  intro d
  induction d with
  | zero => intro i f h1 h2; omega
  | succ d ih =>
    intro i f h1 h2 I
    refine k_iload Xc d_L_law_23 rfl (n := 25) rfl ?_
    refine k_aload_n Xc d_L_law_25 rfl rfl (n := 26) rfl ?_
    refine k_slen Xc hX hbl hA1 d_L_law_26 (n := 27) rfl ?_
    refine k_iconst Xc d_L_law_27 (n := 28) rfl ?_
    refine k_isub Xc d_L_law_28 (n := 29) rfl ?_
    refine k_icmp_gt Xc d_L_law_29 (t := 820) (n := 32) rfl rfl (by omega) (by omega) (fun q => ?_) (fun q => ?_)
    · refine k_iconst Xc d_L_law_820 (n := 821) rfl ?_
      exact k_lret Xc hr d_L_law_821 (by omega) (by omega)
    · refine k_aload_n Xc d_L_law_32 rfl rfl (n := 33) rfl ?_
      refine k_iload Xc d_L_law_33 rfl (n := 35) rfl ?_
      refine k_sld Xc hX hbl hA1 d_L_law_35 (n := 36) rfl (by omega) (by omega) hN ?_
      refine k_bipush Xc d_L_law_36 rfl (n := 38) rfl ?_
      refine k_iand Xc d_L_law_38 (n := 39) rfl ?_
      obtain ⟨n, hn, e9⟩ := and15 (zI (xs ((5 * i : Nat) : Int).toNat).toInt)
      refine k_va32 e9 ?_
      have kk : ∀ f1 : Nat → va_E, lI G L f1 ad ol o ra → zG p l e room_1 s m #[Value.ref b] below meth c D (lA s) 7 (190 + i + 1) (1987 + 6 * i + 6) (lw_Z below #[Value.ref b] s) 814 [(0, .ref b), (1, .ref (ad 0)), (2, .ref o), (3, .ref ol), (4, .int (zI ((5 * i : Nat) : Int)))] [] L f1 := fun f1 I1 => by
        refine k_iinc Xc d_L_law_814 rfl (by decide) (n := 817) rfl ?_
        refine k_goto Xc d_L_law_817 (t := 23) rfl ?_
        refine k_cs (cells' := 190 + (i + 1)) (slots' := 1987 + 6 * (i + 1)) (by omega) (by omega) (k_loc (ih (i + 1) f1 (by omega) (by omega) I1) ?_)
        rw [show ((5 * (i + 1) : Nat) : Int) = ((5 * i : Nat) : Int) + 5 by omega]
        rfl
      have hj : 0 ≤ ((5 * i : Nat) : Int) ∧ ((5 * i : Nat) : Int) + 5 ≤ (N : Int) := ⟨by omega, by omega⟩
      have hcs : 190 + i + 1 ≤ 621125 ∧ 1987 + 6 * i + 6 ≤ 7232728 := ⟨by omega, by omega⟩
      rcases (show n = 0 ∨ n = 1 ∨ n = 2 ∨ n = 3 ∨ n = 4 ∨ n = 5 ∨ n = 6 ∨ n = 7 ∨ n = 8 ∨ n = 9 ∨ n = 10 ∨ n = 11 ∨ n = 12 ∨ n = 13 ∨ n = 14 ∨ n = 15 by omega) with rfl | rfl | rfl | rfl | rfl | rfl | rfl | rfl | rfl | rfl | rfl | rfl | rfl | rfl | rfl | rfl
      · refine k_tin Xc d_L_law_39 (z := ((0 : Nat) : Int)) (by omega) (by decide) (by decide) (off := 69) rfl (tgt := 108) rfl ?_
        exact o_corner Xc hlt hTh hX hbl hN I hap hj hcs kk
      · refine k_tin Xc d_L_law_39 (z := ((1 : Nat) : Int)) (by omega) (by decide) (by decide) (off := 137) rfl (tgt := 176) rfl ?_
        exact o_hide Xc hlt hTh hX hbl hN I hap hj hcs kk
      · refine k_tin Xc d_L_law_39 (z := ((2 : Nat) : Int)) (by omega) (by decide) (by decide) (off := 161) rfl (tgt := 200) rfl ?_
        exact o_zone Xc hlt hTh hX hbl hN I hap hj hcs kk
      · refine k_tin Xc d_L_law_39 (z := ((3 : Nat) : Int)) (by omega) (by decide) (by decide) (off := 217) rfl (tgt := 256) rfl ?_
        exact o_clear Xc hlt hTh hX hbl hN I hap hj hcs kk
      · refine k_tin Xc d_L_law_39 (z := ((4 : Nat) : Int)) (by omega) (by decide) (by decide) (off := 241) rfl (tgt := 280) rfl ?_
        exact o_kind Xc hlt hTh hX hbl hN I hap hj hcs kk
      · refine k_tin Xc d_L_law_39 (z := ((5 : Nat) : Int)) (by omega) (by decide) (by decide) (off := 309) rfl (tgt := 348) rfl ?_
        exact o_fits Xc hlt hTh hX hbl hN I hap hj hcs kk
      · refine k_tin Xc d_L_law_39 (z := ((6 : Nat) : Int)) (by omega) (by decide) (by decide) (off := 408) rfl (tgt := 447) rfl ?_
        exact o_best Xc hlt hTh hX hbl hN I hap hj hcs kk
      · refine k_tin Xc d_L_law_39 (z := ((7 : Nat) : Int)) (by omega) (by decide) (by decide) (off := 464) rfl (tgt := 503) rfl ?_
        exact o_lay Xc hlt hTh hX hbl hN I hap hj hcs kk
      · refine k_tin Xc d_L_law_39 (z := ((8 : Nat) : Int)) (by omega) (by decide) (by decide) (off := 520) rfl (tgt := 559) rfl ?_
        exact o_put Xc hlt hTh hX hbl hN I hap hj hcs kk
      · refine k_tin Xc d_L_law_39 (z := ((9 : Nat) : Int)) (by omega) (by decide) (by decide) (off := 612) rfl (tgt := 651) rfl ?_
        exact o_take Xc hlt hTh hX hbl hN I hap hj hcs kk
      · refine k_tin Xc d_L_law_39 (z := ((10 : Nat) : Int)) (by omega) (by decide) (by decide) (off := 668) rfl (tgt := 707) rfl ?_
        exact o_strip Xc hlt hTh hX hbl hN I hap hj hcs kk
      · refine k_tin Xc d_L_law_39 (z := ((11 : Nat) : Int)) (by omega) (by decide) (by decide) (off := 681) rfl (tgt := 720) rfl ?_
        exact o_part Xc hlt hTh hX hbl hN I hap hj hcs kk
      · refine k_tin Xc d_L_law_39 (z := ((12 : Nat) : Int)) (by omega) (by decide) (by decide) (off := 749) rfl (tgt := 788) rfl ?_
        exact o_parts Xc hlt hTh hX hbl hN I hap hj hcs kk
      · refine k_tin Xc d_L_law_39 (z := ((13 : Nat) : Int)) (by omega) (by decide) (by decide) (off := 762) rfl (tgt := 801) rfl ?_
        exact o_free Xc hlt hTh hX hbl hN I hap hj hcs kk
      · refine k_tout Xc d_L_law_39 (z := ((14 : Nat) : Int)) (by omega) (by decide) (tgt := 814) rfl ?_
        exact k_wid (by omega) (by omega) (kk f I)
      · refine k_tout Xc d_L_law_39 (z := ((15 : Nat) : Int)) (by omega) (by decide) (tgt := 814) rfl ?_
        exact k_wid (by omega) (by omega) (kk f I)
end ZLR
