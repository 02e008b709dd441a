/-! The law's loop. Laid by program (wip/whole/p43.py) -/
/-! THE CLAIM OUT OF ONE WALK OF THE LAW'S BODY. Your part is whole_start (and what it stands on); all else here is the same for every law, but numbers. -/
def R_law : String := "RetentionVaultLaw"
def lw_P (b : Addr) (xs : List Int32) (args : Array Value) (s : State) : Prop := args = #[.ref b] ∧ s.IntsAt b xs ∧ xs.length ≤ 3072 ∧ (Jvm.Cond.and given_1 narrow_1).before args s = true
def lw_Q (_ : Array Value) (s : State) (o : Outcome) (t : State) : Prop := o = .returned (some (.int 1)) ∧ Framed s o t [] 601024 7293033
def lw_Z (below : List Frame) (a : Array Value) (s : State) : State → Prop := fun t => ∃ o, t.status = .running ∧ Ended t below o ∧ lw_Q a s o t
/-- the law's own end, with 1 on the stack, nothing written that was there before, its room as the claim has it -/
theorem lw_ret {p : Program} {l : Launch} {e : Env} {s : State} {m : MethodId} {below : List Frame} {meth : Method} {c : Code} {b : Nat} (hx : p.tables.exec = Jvm.exec) (hb : c.code = code) (hr : meth.sig.returnType = ret) (hlocks : meth.locks = false) {pc : Nat} {H : Heap} {ls : Array Slot} (hdg : decode code pc = .ok (.ireturn, 1)) : W p l e room_1 s m #[Value.ref b] below meth c H [] 601024 7293033 (lw_Z below #[Value.ref b] s) (F0 m pc ls [.int 1]) := by
  intro T hT X
  obtain ⟨fs, hret, hrun, hended, hW, hframe⟩ := X.leave (v := some (.int 1)) (hlocks := hlocks) (fun h => by rw [hr] at h; cases h)
  have hmeth' : T.vm.method? m = some meth := X.method'
  refine ⟨T.setFrames fs, ?_, .returned (some (.int 1)), hrun, hended, rfl, ⟨_, rfl⟩, hW, hframe⟩
  jvm_step X.here [X.here.top, hx, hb, hdg, hmeth', hr, ret, narrow_b1]
  (try refine ⟨rfl, ?_⟩); (try refine ⟨rfl, ?_⟩)
  first | (intro acts; rw [hret _ acts rfl rfl rfl]) | rw [hret _ _ rfl rfl rfl]
  exact Steps.refl _
/-- what holds at the law's entry: the machine, the code, the tables' words (any of lw_tbl by 'hts w (by decide +kernel)'), the script of L ints xs at the cell b, what the Statement gives of the start (any of its parts by flat_of_before) -/
def lw_At (p : Program) (s : State) (m : MethodId) (meth : Method) (c : Code) (b L : Nat) (xs : Nat → Int32) : Prop :=
  p.tables.exec = Jvm.exec ∧ c.code = code ∧ meth.sig.returnType = ret ∧ c.maxLocals = 7 ∧ s.vm.findClass R_law = some m.cls ∧ (∀ w ∈ lw_tbl, w.before #[Value.ref b] s = true) ∧ va_X b L xs s s.heap ∧ b < s.heap.size ∧ meth.locks = false ∧ (Jvm.Cond.and given_1 narrow_1).before #[Value.ref b] s = true
set_option maxRecDepth 100000 in
set_option maxHeartbeats 4000000 in
theorem law_loop {p : Program} {l : Launch} {e : Env} {s : State} {m : MethodId} {below : List Frame} {meth : Method} {c : Code} {D : va_G} {A : Nat → Prop} {e0 K J : Nat → Nat} {ca : Nat → ClassId} {RL : List Nat} {ao b L : Nat} {xs : Nat → Int32} (hst : l.stackTraces = false) (hx : p.tables.exec = Jvm.exec) (hb : c.code = code) (hr : meth.sig.returnType = ret) (hlk : meth.locks = false) (hml : c.maxLocals = 7) (hown : s.vm.findClass "RetentionVaultLaw" = some m.cls) (hts : ∀ z ∈ tb, z.before #[Value.ref b] s = true) (hX : va_X b L xs s s.heap) (hbl : b < s.heap.size) (hAn : ∀ q, A q → s.heap.size ≤ q) (hRL : RL.length = 6) (hRn : RL.Nodup) (hL : L ≤ 3072) : ∀ (k n : Nat), L - 6 * n = k → 6 * n ≤ L → lK p l e s m below meth c (lw_Z below #[Value.ref b] s) D A e0 K J ca RL ao b n (nI (6 * n)) (30 + 81 * n) (1081 + 2926 * n) 23 := by
  have hbA : ¬ A b := fun h => absurd (hAn b h) (by omega)
  intro k
  induction k using Nat.strongRecOn with
  | ind k ih =>
    intro n hk hle
    have hnx : 6 * n + 6 ≤ L → lK p l e s m below meth c (lw_Z below #[Value.ref b] s) D A e0 K J ca RL ao b (n + 1) (nI (6 * n)) (30 + 81 * n + 81) (1081 + 2926 * n + 2926) 1120 := by
      intro hnL code Rs day S g w H locs ls hok hoR hoD hw hC hl
      refine lv_iinc (k := 0) (v := nI (6 * (n + 1))) (lv' := [(4, .int (nI (6 * (n + 1)))), (0, .ref b), (1, .ref (K 0)), (2, .ref (J 0)), (3, .ref ao)]) hx hb d_law_1120 hl rfl (nI_add (6 * n) 6) (by decide) rfl (fun ls hl => ?_)
      refine lv_goto (tgt := 23) hx hb d_law_1123 (by decide) ?_
      exact ih (L - 6 * (n + 1)) (by omega) (n + 1) rfl (by omega) code Rs day S g w H locs ls hok hoR hoD hw hC hl
    intro code Rs day S g w H locs ls hok hoR hoD hw hC hl
    refine lv_iload hx hb d_law_23 (lv_at hl 0 rfl) ?_
    refine lv_aload_n hx hb d_law_25 rfl (lv_at hl 1 rfl) ?_
    refine va_slen hx hb hX hbl hbA hC.2.2.1 d_law_26 ?_
    refine lv_bipush (v := 6) hx hb d_law_27 (by decide) ?_
    refine lv_isub hx hb d_law_29 ?_
    refine lv_icmp_gt (tgt := 1126) hx hb d_law_30 (by decide) (fun c30 => ?_) (fun c30 => ?_)
    · refine lv_iconst (v := 1) hx hb d_law_1126 (by decide) ?_
      refine t_more (c2 := 601024) (s2 := 7293033) (by omega) (by omega) ?_
      exact va_forget (fun q hq => hAn _ (hC.2.2.1.2.2 q hq)) (lw_ret hx hb hr hlk d_law_1127)
    · have hnL : 6 * n + 6 ≤ L := more_of hL hle c30
      refine lv_aload_n hx hb d_law_33 rfl (lv_at hl 1 rfl) ?_
      refine lv_iload hx hb d_law_34 (lv_at hl 0 rfl) ?_
      refine va_sld hx hb hX hbl hbA hC.2.2.1 (i := nI (6 * n)) (vp_in_nI (by omega) (by omega)) d_law_36 ?_
      refine lv_bipush (v := 15) hx hb d_law_37 (by decide) ?_
      refine lv_iand hx hb d_law_39 ?_
      generalize xs (nI (6 * n)).toNatClampNeg &&& 15 = t9
      rcases sw0_14 t9 with rfl | rfl | rfl | rfl | rfl | rfl | rfl | rfl | rfl | rfl | rfl | rfl | rfl | rfl | rfl | hsw
      · refine lv_tableIn (off := 76) (tgt := 116) hx hb d_law_40 (by decide) (by decide) (by decide) (by decide) ?_
        exact arm_put hst hx hb hml hown hts hX hbl hbA hRL hRn hL hnL (by omega) (by omega) (hnx hnL) code Rs day S g w H locs ls hok hoR hoD hw hC hl
      · refine lv_tableIn (off := 156) (tgt := 196) hx hb d_law_40 (by decide) (by decide) (by decide) (by decide) ?_
        exact arm_mark hst hx hb hml hown hts hX hbl hbA hRL hRn hL hnL (by omega) (by omega) (hnx hnL) code Rs day S g w H locs ls hok hoR hoD hw hC hl
      · refine lv_tableIn (off := 212) (tgt := 252) hx hb d_law_40 (by decide) (by decide) (by decide) (by decide) ?_
        exact arm_erase hst hx hb hml hown hts hX hbl hbA hRL hRn hL hnL (by omega) (by omega) (hnx hnL) code Rs day S g w H locs ls hok hoR hoD hw hC hl
      · refine lv_tableIn (off := 296) (tgt := 336) hx hb d_law_40 (by decide) (by decide) (by decide) (by decide) ?_
        exact arm_retain hst hx hb hml hown hts hX hbl hbA hRL hRn hL hnL (by omega) (by omega) (hnx hnL) code Rs day S g w H locs ls hok hoR hoD hw hC hl
      · refine lv_tableIn (off := 372) (tgt := 412) hx hb d_law_40 (by decide) (by decide) (by decide) (by decide) ?_
        exact arm_hold hst hx hb hml hown hts hX hbl hbA hRL hRn hL hnL (by omega) (by omega) (hnx hnL) code Rs day S g w H locs ls hok hoR hoD hw hC hl
      · refine lv_tableIn (off := 475) (tgt := 515) hx hb d_law_40 (by decide) (by decide) (by decide) (by decide) ?_
        exact arm_rule hst hx hb hml hown hts hX hbl hbA hRL hRn hL hnL (by omega) (by omega) (hnx hnL) code Rs day S g w H locs ls hok hoR hoD hw hC hl
      · refine lv_tableIn (off := 575) (tgt := 615) hx hb d_law_40 (by decide) (by decide) (by decide) (by decide) ?_
        exact arm_unrule hst hx hb hml hown hts hX hbl hbA hRL hRn hL hnL (by omega) (by omega) (hnx hnL) code Rs day S g w H locs ls hok hoR hoD hw hC hl
      · refine lv_tableIn (off := 638) (tgt := 678) hx hb d_law_40 (by decide) (by decide) (by decide) (by decide) ?_
        exact arm_fetch hst hx hb hml hown hts hX hbl hbA hRL hRn hL hnL (by omega) (by omega) (hnx hnL) code Rs day S g w H locs ls hok hoR hoD hw hC hl
      · refine lv_tableIn (off := 706) (tgt := 746) hx hb d_law_40 (by decide) (by decide) (by decide) (by decide) ?_
        exact arm_read hst hx hb hml hown hts hX hbl hbA hRL hRn hL hnL (by omega) (by omega) (hnx hnL) code Rs day S g w H locs ls hok hoR hoD hw hC hl
      · refine lv_tableIn (off := 762) (tgt := 802) hx hb d_law_40 (by decide) (by decide) (by decide) (by decide) ?_
        exact arm_tick hst hx hb hml hown hts hX hbl hbA hRL hRn hL hnL (by omega) (by omega) (hnx hnL) code Rs day S g w H locs ls hok hoR hoD hw hC hl
      · refine lv_tableIn (off := 818) (tgt := 858) hx hb d_law_40 (by decide) (by decide) (by decide) (by decide) ?_
        exact arm_current hst hx hb hml hown hts hX hbl hbA hRL hRn hL hnL (by omega) (by omega) (hnx hnL) code Rs day S g w H locs ls hok hoR hoD hw hC hl
      · refine lv_tableIn (off := 874) (tgt := 914) hx hb d_law_40 (by decide) (by decide) (by decide) (by decide) ?_
        exact arm_about hst hx hb hml hown hts hX hbl hbA hRL hRn hL hnL (by omega) (by omega) (hnx hnL) code Rs day S g w H locs ls hok hoR hoD hw hC hl
      · refine lv_tableIn (off := 942) (tgt := 982) hx hb d_law_40 (by decide) (by decide) (by decide) (by decide) ?_
        exact arm_entry hst hx hb hml hown hts hX hbl hbA hRL hRn hL hnL (by omega) (by omega) (hnx hnL) code Rs day S g w H locs ls hok hoR hoD hw hC hl
      · refine lv_tableIn (off := 1010) (tgt := 1050) hx hb d_law_40 (by decide) (by decide) (by decide) (by decide) ?_
        exact arm_link hst hx hb hml hown hts hX hbl hbA hRL hRn hL hnL (by omega) (by omega) (hnx hnL) code Rs day S g w H locs ls hok hoR hoD hw hC hl
      · refine lv_tableIn (off := 1024) (tgt := 1064) hx hb d_law_40 (by decide) (by decide) (by decide) (by decide) ?_
        exact arm_figure hst hx hb hml hown hts hX hbl hbA hRL hRn hL hnL (by omega) (by omega) (hnx hnL) code Rs day S g w H locs ls hok hoR hoD hw hC hl
      · refine lv_tableOut (tgt := 1120) hx hb d_law_40 hsw (by decide) ?_
        refine t_more (c2 := 30 + 81 * n + 81) (s2 := 1081 + 2926 * n + 2926) (by omega) (by omega) ?_
        exact hnx hnL code Rs day S g w H locs ls (okS_up hok) hoR (okD_up hoD) hw hC hl
