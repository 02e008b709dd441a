/-! The vault: sums, alone, figure; retain, hold, rule, unrule, fetch, cool. Laid by program (wip/whole/p15.py) -/
def rw_sum (rows : List RW) : Nat → Int32
  | 0 => 0
  | i + 1 => rw_sum rows i + rw_at rows i 3
def rw_cnt (rows : List RW) (day : Int32) : Nat → Int32
  | 0 => 0
  | i + 1 => if rw_at rows i 10 ≠ 0 ∨ day < rw_at rows i 8 then rw_cnt rows day i + 1 else rw_cnt rows day i
def rw_alone (rows : List RW) (i : Nat) : Prop := ∀ j, j < rows.length → j ≠ i → rw_at rows j 1 ≠ rw_at rows i 1
theorem sum_next {vs : List Nat} {fv : Nat → RW} {i a : Nat} (hi : vs[i]? = some a) : rw_sum (vs.map fv) (i + 1) = rw_sum (vs.map fv) i + fv a 3 := by
  show rw_sum (vs.map fv) i + rw_at (vs.map fv) i 3 = _
  rw [rw_at_map hi]
theorem cnt_t {vs : List Nat} {fv : Nat → RW} {day : Int32} {i a : Nat} (hi : vs[i]? = some a) (h : ¬ bI (fv a 10 ≠ 0 ∨ day < fv a 8) = 0) : rw_cnt (vs.map fv) day (i + 1) = rw_cnt (vs.map fv) day i + 1 := by
  show (if rw_at (vs.map fv) i 10 ≠ 0 ∨ day < rw_at (vs.map fv) i 8 then _ else _) = _
  rw [rw_at_map hi, if_pos (Classical.not_not.mp (fun q => h (bI_ne.mpr q)))]
theorem cnt_f {vs : List Nat} {fv : Nat → RW} {day : Int32} {i a : Nat} (hi : vs[i]? = some a) (h : bI (fv a 10 ≠ 0 ∨ day < fv a 8) = 0) : rw_cnt (vs.map fv) day (i + 1) = rw_cnt (vs.map fv) day i := by
  show (if rw_at (vs.map fv) i 10 ≠ 0 ∨ day < rw_at (vs.map fv) i 8 then _ else _) = _
  rw [rw_at_map hi, if_neg (bI_ne.mp h)]

set_option maxRecDepth 100000 in
set_option maxHeartbeats 4000000 in
theorem c_V_sumOfSizes {l : Launch} {D : va_G} {A : Nat → Prop} {e0 : Nat → Nat} {K : Nat → Nat} {ca : Nat → ClassId} {RL LP : List Nat} {fv FR : Nat → RW} {day ever mo : Int32} {ea : Nat} {wr : Int32} {ch : Int64} {ring : Nat → Int32} {rest : va_W} {vs : List Nat} {eo : va_W} (hI : cI e0 ca vs LP ea eo) : tM l y_V_sumOfSizes tb ({ frames := 3, cells := 0, slots := 0, locals := 64 }) D cls (ty0 ca) A (zz e0 A) [.ref (K 0)] (wC K ca RL LP fv FR day ever mo (nI vs.length) ea wr ch ring (eo ++ rest)) (fun v w2 => v = some (.int (rw_sum (vs.map fv) vs.length)) ∧ w2 = wC K ca RL LP fv FR day ever mo (nI vs.length) ea wr ch ring (eo ++ rest)) (xN) := by
  refine t_ofW (by decide) w_624 (Nat.le_of_ble_eq_true rfl) ?_
  intro p e s m below meth c ls hx hb hr hts hown hlk hnm hml hex hl hC
  have hown : s.vm.findClass "RetentionVault" = some m.cls := hown
  have hl : lv_has ls 3 [(0, .ref (K 0))] := hl
  obtain ⟨hLR, hvL, hnd, h40⟩ := hI
  refine lv_iconst (v := 0) hx hb d_V_sumOfSizes_0 (by decide) ?_
  refine lv_istore_n (lv' := [(1, .int 0), (0, .ref (K 0))]) hx hb d_V_sumOfSizes_1 rfl hl (by decide) rfl (fun ls hl => ?_)
  refine lv_iconst (v := 0) hx hb d_V_sumOfSizes_2 (by decide) ?_
  refine lv_istore_n (lv' := [(2, .int 0), (1, .int 0), (0, .ref (K 0))]) hx hb d_V_sumOfSizes_3 rfl hl (by decide) rfl (fun ls hl => ?_)
  have loop : ∀ (k i : Nat) (ls : Array Slot) (H : Heap) (locs : List Loc), vs.length - i = k → i ≤ vs.length → lv_has ls 3 [(2, .int (nI i)), (1, .int (rw_sum (vs.map fv) i)), (0, .ref (K 0))] → tC D cls (ty0 ca) A (zz e0 A) s (wC K ca RL LP fv FR day ever mo (nI vs.length) ea wr ch ring (eo ++ rest)) H locs → tB p l e ({ frames := 3, cells := 0, slots := 0, locals := 64 }) s m [.ref (K 0)] below meth c D (ty0 ca) A (zz e0 A) (fun v w2 => v = some (.int (rw_sum (vs.map fv) vs.length)) ∧ w2 = wC K ca RL LP fv FR day ever mo (nI vs.length) ea wr ch ring (eo ++ rest)) (xN) H locs 0 0 (F0 m 4 ls []) := by
    intro k
    induction k using Nat.strongRecOn with
    | ind k ih =>
      intro i ls H locs hk hle hl hC
      refine lv_iload_n hx hb d_V_sumOfSizes_4 rfl (lv_at hl 0 rfl) ?_
      refine lv_aload_n hx hb d_V_sumOfSizes_5 rfl (lv_at hl 2 rfl) ?_
      refine t_get (v := .ref (K 1)) hx hb hts inV hown hC 0 rfl rfl 0 (by decide) (hts _ w_97) (fun _ h => h) rfl d_V_sumOfSizes_6 ?_
      refine t_call (t_invV (As := []) (rest := [.int (nI i)]) hx hb hown (hts _ w_210) (hts _ w_211) (hts _ w_212) (hts _ w_213) ⟨by decide, by decide⟩ (t_recv (q0 := 1) hC rfl rfl) rfl d_V_sumOfSizes_9) c_A_size zz_c tb_good hts w_4 hC (hl.1.trans hml.symm) ⟨Nat.le_of_ble_eq_true rfl, Nat.le_of_ble_eq_true rfl, Nat.le_of_ble_eq_true rfl, Nat.le_of_ble_eq_true rfl⟩ (Nat.le_of_ble_eq_true rfl) (fun E q ce w1 H1 l1 hp => hp.elim) (fun v w1 H locs hp hC => ?_)
      obtain ⟨rfl, hwe9⟩ := hp
      rw [hwe9] at hC
      have hC : tC D cls (ty0 ca) A (zz e0 A) s (wC K ca RL LP fv FR day ever mo (nI vs.length) ea wr ch ring (eo ++ rest)) H locs := hC
      refine W.eq (g2 := F0 m 12 ls [.int (nI vs.length), .int (nI i)]) rfl ?_
      refine lv_icmp_ge (tgt := 38) hx hb d_V_sumOfSizes_12 (by decide) (fun c12 => ?_) (fun c12 => ?_)
      · skip
        have hil : i = vs.length := Nat.le_antisymm hle ((nI_leI (by omega) (by omega)).mp c12)
        refine lv_iload_n hx hb d_V_sumOfSizes_38 rfl (lv_at hl 1 rfl) ?_
        exact t_iret hx hb hr hlk zz_c hC (⟨by rw [hil], rfl⟩) (Nat.le_of_ble_eq_true rfl) (Nat.le_of_ble_eq_true rfl) d_V_sumOfSizes_39
      · skip
        have hil : i < vs.length := Nat.not_le.mp (fun h => c12 ((nI_leI (by omega) (by omega)).mpr h))
        obtain ⟨a, hi⟩ : ∃ a, vs[i]? = some a := ⟨vs[i], List.getElem?_eq_getElem hil⟩
        have ha : a ∈ LP := hvL a (List.mem_of_getElem? hi)
        refine lv_iload_n hx hb d_V_sumOfSizes_15 rfl (lv_at hl 1 rfl) ?_
        refine lv_aload_n hx hb d_V_sumOfSizes_16 rfl (lv_at hl 2 rfl) ?_
        refine t_get (v := .ref (K 1)) hx hb hts inV hown hC 0 rfl rfl 0 (by decide) (hts _ w_97) (fun _ h => h) rfl d_V_sumOfSizes_17 ?_
        refine lv_iload_n hx hb d_V_sumOfSizes_20 rfl (lv_at hl 0 rfl) ?_
        refine t_call (t_invV (As := [.int (nI i)]) (rest := [.int (rw_sum (vs.map fv) i)]) hx hb hown (hts _ w_301) (hts _ w_302) (hts _ w_303) (hts _ w_304) ⟨by decide, by decide⟩ (t_recv (q0 := 1) hC rfl rfl) rfl d_V_sumOfSizes_21) (c_A_get hLR hi) zz_c tb_good hts w_4 hC (hl.1.trans hml.symm) ⟨Nat.le_of_ble_eq_true rfl, Nat.le_of_ble_eq_true rfl, Nat.le_of_ble_eq_true rfl, Nat.le_of_ble_eq_true rfl⟩ (Nat.le_of_ble_eq_true rfl) (fun E q ce w1 H1 l1 hp => hp.elim) (fun v w1 H locs hp hC => ?_)
        obtain ⟨rfl, hwe9⟩ := hp
        rw [hwe9] at hC
        have hC : tC D cls (ty0 ca) A (zz e0 A) s (wC K ca RL LP fv FR day ever mo (nI vs.length) ea wr ch ring (eo ++ rest)) H locs := hC
        refine W.eq (g2 := F0 m 24 ls [.ref a, .int (rw_sum (vs.map fv) i)]) rfl ?_
        refine va_castY (C := "RetentionVault$Version") hx hb hown (hts _ w_230) (hC.2.2.2.2.2.2.2.2.2.1 ("RetentionVault$Version", "RetentionVault$Version") (by decide +kernel)) (t_recvP hC ha rfl rfl) d_V_sumOfSizes_24 ?_
        refine t_getP hx hb hts inN hown hC ha rfl 3 (by decide) (hts _ w_242) (fun _ h => h) d_V_sumOfSizes_27 ?_
        refine lv_iadd hx hb d_V_sumOfSizes_30 ?_
        rw [← sum_next (fv := fv) hi]
        refine lv_istore_n (lv' := [(1, .int (rw_sum (vs.map fv) (i + 1))), (2, .int (nI i)), (0, .ref (K 0))]) hx hb d_V_sumOfSizes_31 rfl hl (by decide) rfl (fun ls hl => ?_)
        refine lv_iinc (k := 1) (v := nI (i + 1)) (lv' := [(2, .int (nI (i + 1))), (1, .int (rw_sum (vs.map fv) (i + 1))), (0, .ref (K 0))]) hx hb d_V_sumOfSizes_32 hl rfl (nI_1 i) (by decide) rfl (fun ls hl => ?_)
        refine lv_goto (tgt := 4) hx hb d_V_sumOfSizes_35 (by decide) ?_
        exact ih (vs.length - (i + 1)) (by omega) (i + 1) ls H locs rfl (by omega) (lv_sub hl [0, 1, 2] rfl) hC
  exact loop _ 0 ls _ _ rfl (by omega) hl hC

set_option maxRecDepth 100000 in
set_option maxHeartbeats 4000000 in
theorem c_V_countOfGuarded {l : Launch} {D : va_G} {A : Nat → Prop} {e0 : Nat → Nat} {K : Nat → Nat} {ca : Nat → ClassId} {RL LP : List Nat} {fv FR : Nat → RW} {day ever mo : Int32} {ea : Nat} {wr : Int32} {ch : Int64} {ring : Nat → Int32} {rest : va_W} {vs : List Nat} {eo : va_W} (hI : cI e0 ca vs LP ea eo) : tM l y_V_countOfGuarded tb ({ frames := 3, cells := 0, slots := 0, locals := 64 }) D cls (ty0 ca) A (zz e0 A) [.ref (K 0)] (wC K ca RL LP fv FR day ever mo (nI vs.length) ea wr ch ring (eo ++ rest)) (fun v w2 => v = some (.int (rw_cnt (vs.map fv) day vs.length)) ∧ w2 = wC K ca RL LP fv FR day ever mo (nI vs.length) ea wr ch ring (eo ++ rest)) (xN) := by
  refine t_ofW (by decide) w_628 (Nat.le_of_ble_eq_true rfl) ?_
  intro p e s m below meth c ls hx hb hr hts hown hlk hnm hml hex hl hC
  have hown : s.vm.findClass "RetentionVault" = some m.cls := hown
  have hl : lv_has ls 3 [(0, .ref (K 0))] := hl
  obtain ⟨hLR, hvL, hnd, h40⟩ := hI
  refine lv_iconst (v := 0) hx hb d_V_countOfGuarded_0 (by decide) ?_
  refine lv_istore_n (lv' := [(1, .int 0), (0, .ref (K 0))]) hx hb d_V_countOfGuarded_1 rfl hl (by decide) rfl (fun ls hl => ?_)
  refine lv_iconst (v := 0) hx hb d_V_countOfGuarded_2 (by decide) ?_
  refine lv_istore_n (lv' := [(2, .int 0), (1, .int 0), (0, .ref (K 0))]) hx hb d_V_countOfGuarded_3 rfl hl (by decide) rfl (fun ls hl => ?_)
  have loop : ∀ (k i : Nat) (ls : Array Slot) (H : Heap) (locs : List Loc), vs.length - i = k → i ≤ vs.length → lv_has ls 3 [(2, .int (nI i)), (1, .int (rw_cnt (vs.map fv) day i)), (0, .ref (K 0))] → tC D cls (ty0 ca) A (zz e0 A) s (wC K ca RL LP fv FR day ever mo (nI vs.length) ea wr ch ring (eo ++ rest)) H locs → tB p l e ({ frames := 3, cells := 0, slots := 0, locals := 64 }) s m [.ref (K 0)] below meth c D (ty0 ca) A (zz e0 A) (fun v w2 => v = some (.int (rw_cnt (vs.map fv) day vs.length)) ∧ w2 = wC K ca RL LP fv FR day ever mo (nI vs.length) ea wr ch ring (eo ++ rest)) (xN) H locs 0 0 (F0 m 4 ls []) := by
    intro k
    induction k using Nat.strongRecOn with
    | ind k ih =>
      intro i ls H locs hk hle hl hC
      refine lv_iload_n hx hb d_V_countOfGuarded_4 rfl (lv_at hl 0 rfl) ?_
      refine lv_aload_n hx hb d_V_countOfGuarded_5 rfl (lv_at hl 2 rfl) ?_
      refine t_get (v := .ref (K 1)) hx hb hts inV hown hC 0 rfl rfl 0 (by decide) (hts _ w_97) (fun _ h => h) rfl d_V_countOfGuarded_6 ?_
      refine t_call (t_invV (As := []) (rest := [.int (nI i)]) hx hb hown (hts _ w_210) (hts _ w_211) (hts _ w_212) (hts _ w_213) ⟨by decide, by decide⟩ (t_recv (q0 := 1) hC rfl rfl) rfl d_V_countOfGuarded_9) c_A_size zz_c tb_good hts w_4 hC (hl.1.trans hml.symm) ⟨Nat.le_of_ble_eq_true rfl, Nat.le_of_ble_eq_true rfl, Nat.le_of_ble_eq_true rfl, Nat.le_of_ble_eq_true rfl⟩ (Nat.le_of_ble_eq_true rfl) (fun E q ce w1 H1 l1 hp => hp.elim) (fun v w1 H locs hp hC => ?_)
      obtain ⟨rfl, hwe9⟩ := hp
      rw [hwe9] at hC
      have hC : tC D cls (ty0 ca) A (zz e0 A) s (wC K ca RL LP fv FR day ever mo (nI vs.length) ea wr ch ring (eo ++ rest)) H locs := hC
      refine W.eq (g2 := F0 m 12 ls [.int (nI vs.length), .int (nI i)]) rfl ?_
      refine lv_icmp_ge (tgt := 45) hx hb d_V_countOfGuarded_12 (by decide) (fun c12 => ?_) (fun c12 => ?_)
      · skip
        have hil : i = vs.length := Nat.le_antisymm hle ((nI_leI (by omega) (by omega)).mp c12)
        refine lv_iload_n hx hb d_V_countOfGuarded_45 rfl (lv_at hl 1 rfl) ?_
        exact t_iret hx hb hr hlk zz_c hC (⟨by rw [hil], rfl⟩) (Nat.le_of_ble_eq_true rfl) (Nat.le_of_ble_eq_true rfl) d_V_countOfGuarded_46
      · skip
        have hil : i < vs.length := Nat.not_le.mp (fun h => c12 ((nI_leI (by omega) (by omega)).mpr h))
        obtain ⟨a, hi⟩ : ∃ a, vs[i]? = some a := ⟨vs[i], List.getElem?_eq_getElem hil⟩
        have ha : a ∈ LP := hvL a (List.mem_of_getElem? hi)
        refine lv_aload_n hx hb d_V_countOfGuarded_15 rfl (lv_at hl 2 rfl) ?_
        refine t_get (v := .ref (K 1)) hx hb hts inV hown hC 0 rfl rfl 0 (by decide) (hts _ w_97) (fun _ h => h) rfl d_V_countOfGuarded_16 ?_
        refine lv_iload_n hx hb d_V_countOfGuarded_19 rfl (lv_at hl 0 rfl) ?_
        refine t_call (t_invV (As := [.int (nI i)]) (rest := []) hx hb hown (hts _ w_301) (hts _ w_302) (hts _ w_303) (hts _ w_304) ⟨by decide, by decide⟩ (t_recv (q0 := 1) hC rfl rfl) rfl d_V_countOfGuarded_20) (c_A_get hLR hi) zz_c tb_good hts w_4 hC (hl.1.trans hml.symm) ⟨Nat.le_of_ble_eq_true rfl, Nat.le_of_ble_eq_true rfl, Nat.le_of_ble_eq_true rfl, Nat.le_of_ble_eq_true rfl⟩ (Nat.le_of_ble_eq_true rfl) (fun E q ce w1 H1 l1 hp => hp.elim) (fun v w1 H locs hp hC => ?_)
        obtain ⟨rfl, hwe9⟩ := hp
        rw [hwe9] at hC
        have hC : tC D cls (ty0 ca) A (zz e0 A) s (wC K ca RL LP fv FR day ever mo (nI vs.length) ea wr ch ring (eo ++ rest)) H locs := hC
        refine W.eq (g2 := F0 m 23 ls [.ref a]) rfl ?_
        refine va_castY (C := "RetentionVault$Version") hx hb hown (hts _ w_230) (hC.2.2.2.2.2.2.2.2.2.1 ("RetentionVault$Version", "RetentionVault$Version") (by decide +kernel)) (t_recvP hC ha rfl rfl) d_V_countOfGuarded_23 ?_
        refine lv_aload_n hx hb d_V_countOfGuarded_26 rfl (lv_at hl 2 rfl) ?_
        refine t_get (v := .int day) hx hb hts inV hown hC 0 rfl rfl 3 (by decide) (hts _ w_100) (fun _ h => h) rfl d_V_countOfGuarded_27 ?_
        refine t_call (t_invV (As := [.int day]) (rest := []) hx hb hown (hts _ w_553) (hts _ w_554) (hts _ w_555) (hts _ w_556) ⟨by decide, by decide⟩ (t_recvP hC ha rfl rfl) rfl d_V_countOfGuarded_30) (c_N_isGuarded zz_c ha) zz_c tb_good hts w_13 hC (hl.1.trans hml.symm) ⟨Nat.le_of_ble_eq_true rfl, Nat.le_of_ble_eq_true rfl, Nat.le_of_ble_eq_true rfl, Nat.le_of_ble_eq_true rfl⟩ (Nat.le_of_ble_eq_true rfl) (fun E q ce w1 H1 l1 hp => hp.elim) (fun v w1 H locs hp hC => ?_)
        obtain ⟨rfl, hwe9⟩ := hp
        rw [hwe9] at hC
        have hC : tC D cls (ty0 ca) A (zz e0 A) s (wC K ca RL LP fv FR day ever mo (nI vs.length) ea wr ch ring (eo ++ rest)) H locs := hC
        refine W.eq (g2 := F0 m 33 ls [.int (bI (fv a 10 ≠ 0 ∨ day < fv a 8))]) rfl ?_
        refine lv_if_eq (tgt := 39) hx hb d_V_countOfGuarded_33 (by decide) (fun c33 => ?_) (fun c33 => ?_)
        · skip
          rw [← cnt_f (fv := fv) hi c33] at hl
          refine lv_iinc (k := 0) (v := nI (i + 1)) (lv' := [(2, .int (nI (i + 1))), (1, .int (rw_cnt (vs.map fv) day (i + 1))), (0, .ref (K 0))]) hx hb d_V_countOfGuarded_39 hl rfl (nI_1 i) (by decide) rfl (fun ls hl => ?_)
          refine lv_goto (tgt := 4) hx hb d_V_countOfGuarded_42 (by decide) ?_
          exact ih (vs.length - (i + 1)) (by omega) (i + 1) ls H locs rfl (by omega) (lv_sub hl [0, 1, 2] rfl) hC
        · skip
          refine lv_iinc (k := 1) (v := rw_cnt (vs.map fv) day (i + 1)) (lv' := [(1, .int (rw_cnt (vs.map fv) day (i + 1))), (2, .int (nI i)), (0, .ref (K 0))]) hx hb d_V_countOfGuarded_36 hl rfl (cnt_t hi c33).symm (by decide) rfl (fun ls hl => ?_)
          refine lv_iinc (k := 1) (v := nI (i + 1)) (lv' := [(2, .int (nI (i + 1))), (1, .int (rw_cnt (vs.map fv) day (i + 1))), (0, .ref (K 0))]) hx hb d_V_countOfGuarded_39 hl rfl (nI_1 i) (by decide) rfl (fun ls hl => ?_)
          refine lv_goto (tgt := 4) hx hb d_V_countOfGuarded_42 (by decide) ?_
          exact ih (vs.length - (i + 1)) (by omega) (i + 1) ls H locs rfl (by omega) (lv_sub hl [0, 1, 2] rfl) hC
  exact loop _ 0 ls _ _ rfl (by omega) hl hC

def rw_fig (rows : List RW) (day ever wr : Int32) (k : Int32) : Int32 := if k = 0 then day else if k = 1 then nI rows.length else if k = 2 then ever else if k = 3 then wr else if k = 4 then rw_sum rows rows.length else rw_cnt rows day rows.length

set_option maxRecDepth 100000 in
set_option maxHeartbeats 4000000 in
theorem c_V_figure {l : Launch} (hst : l.stackTraces = false) {D : va_G} {A : Nat → Prop} {e0 : Nat → Nat} {K : Nat → Nat} {ca : Nat → ClassId} {RL LP : List Nat} {fv FR : Nat → RW} {day ever mo : Int32} {ea : Nat} {wr : Int32} {ch : Int64} {ring : Nat → Int32} {rest : va_W} {vs : List Nat} {eo : va_W} (hI : cI e0 ca vs LP ea eo) {k : Int32} : tM l y_V_figure tb ({ frames := 6, cells := 1, slots := 6, locals := 90 }) D cls (ty0 ca) A (zz e0 A) [.ref (K 0), .int k] (wC K ca RL LP fv FR day ever mo (nI vs.length) ea wr ch ring (eo ++ rest)) (fun v w2 => ¬ (k.toInt < 0 ∨ 5 < k.toInt) ∧ v = some (.int (rw_fig (vs.map fv) day ever wr k)) ∧ w2 = wC K ca RL LP fv FR day ever mo (nI vs.length) ea wr ch ring (eo ++ rest)) (fun E w2 => E = "java/lang/IllegalArgumentException" ∧ w2 = wC K ca RL LP fv FR day ever mo (nI vs.length) ea wr ch ring (eo ++ rest) ∧ (k.toInt < 0 ∨ 5 < k.toInt)) := by
  refine t_ofW (by decide) w_620 (Nat.le_of_ble_eq_true rfl) ?_
  intro p e s m below meth c ls hx hb hr hts hown hlk hnm hml hex hl hC
  have hown : s.vm.findClass "RetentionVault" = some m.cls := hown
  have hl : lv_has ls 2 [(0, .ref (K 0)), (1, .int k)] := hl
  obtain ⟨hLR, hvL, hnd, h40⟩ := hI
  refine lv_iload_n hx hb d_V_figure_0 rfl (lv_at hl 1 rfl) ?_
  rcases sw0_5 k with rfl | rfl | rfl | rfl | rfl | rfl | hsw
  · refine lv_tableIn (off := 39) (tgt := 40) hx hb d_V_figure_1 (by decide) (by decide) (by decide) (by decide) ?_
    refine lv_aload_n hx hb d_V_figure_40 rfl (lv_at hl 0 rfl) ?_
    refine t_get (v := .int day) hx hb hts inV hown hC 0 rfl rfl 3 (by decide) (hts _ w_100) (fun _ h => h) rfl d_V_figure_41 ?_
    exact t_iret hx hb hr hlk zz_c hC (⟨by decide, by simp [rw_fig], rfl⟩) (Nat.le_of_ble_eq_true rfl) (Nat.le_of_ble_eq_true rfl) d_V_figure_44
  · refine lv_tableIn (off := 44) (tgt := 45) hx hb d_V_figure_1 (by decide) (by decide) (by decide) (by decide) ?_
    refine lv_aload_n hx hb d_V_figure_45 rfl (lv_at hl 0 rfl) ?_
    refine t_get (v := .ref (K 1)) hx hb hts inV hown hC 0 rfl rfl 0 (by decide) (hts _ w_97) (fun _ h => h) rfl d_V_figure_46 ?_
    refine t_call (t_invV (As := []) (rest := []) hx hb hown (hts _ w_210) (hts _ w_211) (hts _ w_212) (hts _ w_213) ⟨by decide, by decide⟩ (t_recv (q0 := 1) hC rfl rfl) rfl d_V_figure_49) c_A_size zz_c tb_good hts w_4 hC (hl.1.trans hml.symm) ⟨Nat.le_of_ble_eq_true rfl, Nat.le_of_ble_eq_true rfl, Nat.le_of_ble_eq_true rfl, Nat.le_of_ble_eq_true rfl⟩ (Nat.le_of_ble_eq_true rfl) (fun E q ce w1 H1 l1 hp => hp.elim) (fun v w1 H locs hp hC => ?_)
    obtain ⟨rfl, hwe9⟩ := hp
    rw [hwe9] at hC
    have hC : tC D cls (ty0 ca) A (zz e0 A) s (wC K ca RL LP fv FR day ever mo (nI vs.length) ea wr ch ring (eo ++ rest)) H locs := hC
    refine W.eq (g2 := F0 m 52 ls [.int (nI vs.length)]) rfl ?_
    exact t_iret hx hb hr hlk zz_c hC (⟨by decide, by simp [rw_fig], rfl⟩) (Nat.le_of_ble_eq_true rfl) (Nat.le_of_ble_eq_true rfl) d_V_figure_52
  · refine lv_tableIn (off := 52) (tgt := 53) hx hb d_V_figure_1 (by decide) (by decide) (by decide) (by decide) ?_
    refine lv_aload_n hx hb d_V_figure_53 rfl (lv_at hl 0 rfl) ?_
    refine t_get (v := .int ever) hx hb hts inV hown hC 0 rfl rfl 4 (by decide) (hts _ w_101) (fun _ h => h) rfl d_V_figure_54 ?_
    exact t_iret hx hb hr hlk zz_c hC (⟨by decide, by simp [rw_fig], rfl⟩) (Nat.le_of_ble_eq_true rfl) (Nat.le_of_ble_eq_true rfl) d_V_figure_57
  · refine lv_tableIn (off := 57) (tgt := 58) hx hb d_V_figure_1 (by decide) (by decide) (by decide) (by decide) ?_
    refine lv_aload_n hx hb d_V_figure_58 rfl (lv_at hl 0 rfl) ?_
    refine t_get (v := .ref (K 3)) hx hb hts inV hown hC 0 rfl rfl 2 (by decide) (hts _ w_99) (fun _ h => h) rfl d_V_figure_59 ?_
    refine t_get (v := .int wr) hx hb hts inG hown hC 3 rfl rfl 1 (by decide) (hts _ w_86) (fun _ h => h) rfl d_V_figure_62 ?_
    exact t_iret hx hb hr hlk zz_c hC (⟨by decide, by simp [rw_fig], rfl⟩) (Nat.le_of_ble_eq_true rfl) (Nat.le_of_ble_eq_true rfl) d_V_figure_65
  · refine lv_tableIn (off := 65) (tgt := 66) hx hb d_V_figure_1 (by decide) (by decide) (by decide) (by decide) ?_
    refine lv_aload_n hx hb d_V_figure_66 rfl (lv_at hl 0 rfl) ?_
    refine t_call (t_invV (As := []) (rest := []) hx hb hown (hts _ w_621) (hts _ w_623) (hts _ s_V_sumOfSizes) (hts _ w_624) ⟨by decide, by decide⟩ (t_recv (q0 := 0) hC rfl rfl) rfl d_V_figure_67) (c_V_sumOfSizes ⟨hLR, hvL, hnd, h40⟩) zz_c tb_good hts w_1 hC (hl.1.trans hml.symm) ⟨Nat.le_of_ble_eq_true rfl, Nat.le_of_ble_eq_true rfl, Nat.le_of_ble_eq_true rfl, Nat.le_of_ble_eq_true rfl⟩ (Nat.le_of_ble_eq_true rfl) (fun E q ce w1 H1 l1 hp => hp.elim) (fun v w1 H locs hp hC => ?_)
    obtain ⟨rfl, hwe9⟩ := hp
    rw [hwe9] at hC
    have hC : tC D cls (ty0 ca) A (zz e0 A) s (wC K ca RL LP fv FR day ever mo (nI vs.length) ea wr ch ring (eo ++ rest)) H locs := hC
    refine W.eq (g2 := F0 m 70 ls [.int (rw_sum (vs.map fv) vs.length)]) rfl ?_
    exact t_iret hx hb hr hlk zz_c hC (⟨by decide, by simp [rw_fig], rfl⟩) (Nat.le_of_ble_eq_true rfl) (Nat.le_of_ble_eq_true rfl) d_V_figure_70
  · refine lv_tableIn (off := 70) (tgt := 71) hx hb d_V_figure_1 (by decide) (by decide) (by decide) (by decide) ?_
    refine lv_aload_n hx hb d_V_figure_71 rfl (lv_at hl 0 rfl) ?_
    refine t_call (t_invV (As := []) (rest := []) hx hb hown (hts _ w_625) (hts _ w_627) (hts _ s_V_countOfGuarded) (hts _ w_628) ⟨by decide, by decide⟩ (t_recv (q0 := 0) hC rfl rfl) rfl d_V_figure_72) (c_V_countOfGuarded ⟨hLR, hvL, hnd, h40⟩) zz_c tb_good hts w_1 hC (hl.1.trans hml.symm) ⟨Nat.le_of_ble_eq_true rfl, Nat.le_of_ble_eq_true rfl, Nat.le_of_ble_eq_true rfl, Nat.le_of_ble_eq_true rfl⟩ (Nat.le_of_ble_eq_true rfl) (fun E q ce w1 H1 l1 hp => hp.elim) (fun v w1 H locs hp hC => ?_)
    obtain ⟨rfl, hwe9⟩ := hp
    rw [hwe9] at hC
    have hC : tC D cls (ty0 ca) A (zz e0 A) s (wC K ca RL LP fv FR day ever mo (nI vs.length) ea wr ch ring (eo ++ rest)) H locs := hC
    refine W.eq (g2 := F0 m 75 ls [.int (rw_cnt (vs.map fv) day vs.length)]) rfl ?_
    exact t_iret hx hb hr hlk zz_c hC (⟨by decide, by simp [rw_fig], rfl⟩) (Nat.le_of_ble_eq_true rfl) (Nat.le_of_ble_eq_true rfl) d_V_figure_75
  · refine lv_tableOut (tgt := 76) hx hb d_V_figure_1 hsw (by decide) ?_
    exact t_throw (by9 := prog_10_method_2_code) (ix := 7) (Y9 := "java/lang/RuntimeException") (r9 := ["java/lang/Exception"]) (text := "k is not 0 .. 5") hx hb hst (by decide +kernel) (by decide +kernel) (by decide +kernel) (by decide +kernel) hown tb_good hts (by decide) (by decide) (by decide) w_133 w_11 (zz_str hC.2.2.2.2.2 (by decide +kernel)) at_IAE zz_c zz_X4 hC (hl.1.trans hml.symm) hex hlk d_V_figure_76 d_V_figure_79 d_V_figure_80 d_V_figure_82 d_V_figure_85 ⟨Nat.le_of_ble_eq_true rfl, Nat.le_of_ble_eq_true rfl, Nat.le_of_ble_eq_true rfl, Nat.le_of_ble_eq_true rfl⟩ (Nat.le_of_ble_eq_true rfl) (Nat.le_of_ble_eq_true rfl) (⟨rfl, rfl, hsw⟩)

theorem nd_inj {vs : List Nat} (h : vs.Nodup) {i j a : Nat} (hi : vs[i]? = some a) (hj : vs[j]? = some a) : i = j := by
  have hn := List.pairwise_iff_getElem.mp h
  obtain ⟨l1, e1⟩ := List.getElem?_eq_some_iff.mp hi
  obtain ⟨l2, e2⟩ := List.getElem?_eq_some_iff.mp hj
  rcases Nat.lt_trichotomy i j with q | q | q
  · exact absurd (e1.trans e2.symm) (hn i j l1 l2 q)
  · exact q
  · exact absurd (e2.trans e1.symm) (hn j i l2 l1 q)
theorem al_step {vs : List Nat} {fv : Nat → RW} {i i0 a a0 : Nat} (hnd : vs.Nodup) (hi : vs[i]? = some a) (h0 : vs[i0]? = some a0) (hno : ∀ j, j < i → j ≠ i0 → rw_at (vs.map fv) j 1 ≠ fv a0 1) (h : (some a = some a0) ∨ fv a 1 ≠ fv a0 1) : ∀ j, j < i + 1 → j ≠ i0 → rw_at (vs.map fv) j 1 ≠ fv a0 1 := by
  intro j hj hj0
  by_cases e : j = i
  · subst e
    rcases h with h | h
    · exfalso
      cases h
      exact hj0 (nd_inj hnd hi h0)
    · rw [rw_at_map hi]; exact h
  · exact hno j (by omega) hj0
theorem al_true {vs : List Nat} {fv : Nat → RW} {i0 a0 : Nat} (h0 : vs[i0]? = some a0) (hno : ∀ j, j < vs.length → j ≠ i0 → rw_at (vs.map fv) j 1 ≠ fv a0 1) : rw_alone (vs.map fv) i0 := by
  intro j hj hj0
  rw [List.length_map] at hj
  rw [rw_at_map h0]
  exact hno j hj hj0
theorem al_false {vs : List Nat} {fv : Nat → RW} {i i0 a a0 : Nat} (hi : vs[i]? = some a) (h0 : vs[i0]? = some a0) (hne : ¬ some a = some a0) (he : fv a 1 = fv a0 1) : ¬ rw_alone (vs.map fv) i0 := by
  intro h
  have hl := (List.getElem?_eq_some_iff.mp hi).1
  refine h i (by rw [List.length_map]; exact hl) (fun e => hne (by rw [← hi, ← h0, e])) ?_
  rw [rw_at_map hi, rw_at_map h0]
  exact he

set_option maxRecDepth 100000 in
set_option maxHeartbeats 4000000 in
theorem c_V_isAlone {l : Launch} {D : va_G} {A : Nat → Prop} {e0 : Nat → Nat} {K : Nat → Nat} {ca : Nat → ClassId} {RL LP : List Nat} {fv FR : Nat → RW} {day ever mo : Int32} {ea : Nat} {wr : Int32} {ch : Int64} {ring : Nat → Int32} {rest : va_W} {vs : List Nat} {eo : va_W} (hI : cI e0 ca vs LP ea eo) {i0 a0 : Nat} (h0 : vs[i0]? = some a0) : tM l y_V_isAlone tb ({ frames := 3, cells := 0, slots := 0, locals := 64 }) D cls (ty0 ca) A (zz e0 A) [.ref (K 0), .ref a0] (wC K ca RL LP fv FR day ever mo (nI vs.length) ea wr ch ring (eo ++ rest)) (fun v w2 => ((v = some (.int 1) ∧ rw_alone (vs.map fv) i0) ∨ (v = some (.int 0) ∧ ¬ rw_alone (vs.map fv) i0)) ∧ w2 = wC K ca RL LP fv FR day ever mo (nI vs.length) ea wr ch ring (eo ++ rest)) (xN) := by
  refine t_ofW (by decide) w_565 (Nat.le_of_ble_eq_true rfl) ?_
  intro p e s m below meth c ls hx hb hr hts hown hlk hnm hml hex hl hC
  have hown : s.vm.findClass "RetentionVault" = some m.cls := hown
  have hl : lv_has ls 4 [(0, .ref (K 0)), (1, .ref a0)] := hl
  obtain ⟨hLR, hvL, hnd, h40⟩ := hI
  have ha0 : a0 ∈ LP := hvL a0 (List.mem_of_getElem? h0)
  refine lv_iconst (v := 0) hx hb d_V_isAlone_0 (by decide) ?_
  refine lv_istore_n (lv' := [(2, .int 0), (0, .ref (K 0)), (1, .ref a0)]) hx hb d_V_isAlone_1 rfl hl (by decide) rfl (fun ls hl => ?_)
  have loop : ∀ (k i : Nat) (ls : Array Slot) (H : Heap) (locs : List Loc), vs.length - i = k → i ≤ vs.length → (∀ j, j < i → j ≠ i0 → rw_at (vs.map fv) j 1 ≠ fv a0 1) → lv_has ls 4 [(2, .int (nI i)), (0, .ref (K 0)), (1, .ref a0)] → tC D cls (ty0 ca) A (zz e0 A) s (wC K ca RL LP fv FR day ever mo (nI vs.length) ea wr ch ring (eo ++ rest)) H locs → tB p l e ({ frames := 3, cells := 0, slots := 0, locals := 64 }) s m [.ref (K 0), .ref a0] below meth c D (ty0 ca) A (zz e0 A) (fun v w2 => ((v = some (.int 1) ∧ rw_alone (vs.map fv) i0) ∨ (v = some (.int 0) ∧ ¬ rw_alone (vs.map fv) i0)) ∧ w2 = wC K ca RL LP fv FR day ever mo (nI vs.length) ea wr ch ring (eo ++ rest)) (xN) H locs 0 0 (F0 m 2 ls []) := by
    intro k
    induction k using Nat.strongRecOn with
    | ind k ih =>
      intro i ls H locs hk hle hno hl hC
      refine lv_iload_n hx hb d_V_isAlone_2 rfl (lv_at hl 0 rfl) ?_
      refine lv_aload_n hx hb d_V_isAlone_3 rfl (lv_at hl 1 rfl) ?_
      refine t_get (v := .ref (K 1)) hx hb hts inV hown hC 0 rfl rfl 0 (by decide) (hts _ w_97) (fun _ h => h) rfl d_V_isAlone_4 ?_
      refine t_call (t_invV (As := []) (rest := [.int (nI i)]) hx hb hown (hts _ w_210) (hts _ w_211) (hts _ w_212) (hts _ w_213) ⟨by decide, by decide⟩ (t_recv (q0 := 1) hC rfl rfl) rfl d_V_isAlone_7) c_A_size zz_c tb_good hts w_4 hC (hl.1.trans hml.symm) ⟨Nat.le_of_ble_eq_true rfl, Nat.le_of_ble_eq_true rfl, Nat.le_of_ble_eq_true rfl, Nat.le_of_ble_eq_true rfl⟩ (Nat.le_of_ble_eq_true rfl) (fun E q ce w1 H1 l1 hp => hp.elim) (fun v w1 H locs hp hC => ?_)
      obtain ⟨rfl, hwe9⟩ := hp
      rw [hwe9] at hC
      have hC : tC D cls (ty0 ca) A (zz e0 A) s (wC K ca RL LP fv FR day ever mo (nI vs.length) ea wr ch ring (eo ++ rest)) H locs := hC
      refine W.eq (g2 := F0 m 10 ls [.int (nI vs.length), .int (nI i)]) rfl ?_
      refine lv_icmp_ge (tgt := 49) hx hb d_V_isAlone_10 (by decide) (fun c10 => ?_) (fun c10 => ?_)
      · skip
        have hil : i = vs.length := Nat.le_antisymm hle ((nI_leI (by omega) (by omega)).mp c10)
        refine lv_iconst (v := 1) hx hb d_V_isAlone_49 (by decide) ?_
        exact t_zret hx hb hr hlk (Or.inr rfl) zz_c hC (⟨Or.inl ⟨rfl, al_true h0 (by rw [← hil]; exact hno)⟩, rfl⟩) (Nat.le_of_ble_eq_true rfl) (Nat.le_of_ble_eq_true rfl) d_V_isAlone_50
      · skip
        have hil : i < vs.length := Nat.not_le.mp (fun h => c10 ((nI_leI (by omega) (by omega)).mpr h))
        obtain ⟨a, hi⟩ : ∃ a, vs[i]? = some a := ⟨vs[i], List.getElem?_eq_getElem hil⟩
        have ha : a ∈ LP := hvL a (List.mem_of_getElem? hi)
        refine lv_aload_n hx hb d_V_isAlone_13 rfl (lv_at hl 1 rfl) ?_
        refine t_get (v := .ref (K 1)) hx hb hts inV hown hC 0 rfl rfl 0 (by decide) (hts _ w_97) (fun _ h => h) rfl d_V_isAlone_14 ?_
        refine lv_iload_n hx hb d_V_isAlone_17 rfl (lv_at hl 0 rfl) ?_
        refine t_call (t_invV (As := [.int (nI i)]) (rest := []) hx hb hown (hts _ w_301) (hts _ w_302) (hts _ w_303) (hts _ w_304) ⟨by decide, by decide⟩ (t_recv (q0 := 1) hC rfl rfl) rfl d_V_isAlone_18) (c_A_get hLR hi) zz_c tb_good hts w_4 hC (hl.1.trans hml.symm) ⟨Nat.le_of_ble_eq_true rfl, Nat.le_of_ble_eq_true rfl, Nat.le_of_ble_eq_true rfl, Nat.le_of_ble_eq_true rfl⟩ (Nat.le_of_ble_eq_true rfl) (fun E q ce w1 H1 l1 hp => hp.elim) (fun v w1 H locs hp hC => ?_)
        obtain ⟨rfl, hwe9⟩ := hp
        rw [hwe9] at hC
        have hC : tC D cls (ty0 ca) A (zz e0 A) s (wC K ca RL LP fv FR day ever mo (nI vs.length) ea wr ch ring (eo ++ rest)) H locs := hC
        refine W.eq (g2 := F0 m 21 ls [.ref a]) rfl ?_
        refine va_castY (C := "RetentionVault$Version") hx hb hown (hts _ w_230) (hC.2.2.2.2.2.2.2.2.2.1 ("RetentionVault$Version", "RetentionVault$Version") (by decide +kernel)) (t_recvP hC ha rfl rfl) d_V_isAlone_21 ?_
        refine lv_astore_n (lv' := [(3, .ref a), (2, .int (nI i)), (0, .ref (K 0)), (1, .ref a0)]) hx hb d_V_isAlone_24 rfl hl (by decide) rfl (fun ls hl => ?_)
        refine lv_aload_n hx hb d_V_isAlone_25 rfl (lv_at hl 0 rfl) ?_
        refine lv_aload_n hx hb d_V_isAlone_26 rfl (lv_at hl 3 rfl) ?_
        refine lv_acmp_eq (rx := (some a)) (ry := (some a0)) (tgt := 43) hx hb d_V_isAlone_27 (by decide) (fun c27 => ?_) (fun c27 => ?_)
        · skip
          refine lv_iinc (k := 1) (v := nI (i + 1)) (lv' := [(2, .int (nI (i + 1))), (3, .ref a), (0, .ref (K 0)), (1, .ref a0)]) hx hb d_V_isAlone_43 hl rfl (nI_1 i) (by decide) rfl (fun ls hl => ?_)
          refine lv_goto (tgt := 2) hx hb d_V_isAlone_46 (by decide) ?_
          exact ih (vs.length - (i + 1)) (by omega) (i + 1) ls H locs rfl (by omega) (al_step hnd hi h0 hno (Or.inl c27)) (lv_sub hl [0, 2, 3] rfl) hC
        · skip
          refine lv_aload_n hx hb d_V_isAlone_30 rfl (lv_at hl 0 rfl) ?_
          refine t_getP hx hb hts inN hown hC ha rfl 1 (by decide) (hts _ w_239) (fun _ h => h) d_V_isAlone_31 ?_
          refine lv_aload_n hx hb d_V_isAlone_34 rfl (lv_at hl 3 rfl) ?_
          refine t_getP hx hb hts inN hown hC ha0 rfl 1 (by decide) (hts _ w_239) (fun _ h => h) d_V_isAlone_35 ?_
          refine lv_icmp_ne (tgt := 43) hx hb d_V_isAlone_38 (by decide) (fun c38 => ?_) (fun c38 => ?_)
          · skip
            refine lv_iinc (k := 1) (v := nI (i + 1)) (lv' := [(2, .int (nI (i + 1))), (3, .ref a), (0, .ref (K 0)), (1, .ref a0)]) hx hb d_V_isAlone_43 hl rfl (nI_1 i) (by decide) rfl (fun ls hl => ?_)
            refine lv_goto (tgt := 2) hx hb d_V_isAlone_46 (by decide) ?_
            exact ih (vs.length - (i + 1)) (by omega) (i + 1) ls H locs rfl (by omega) (al_step hnd hi h0 hno (Or.inr c38)) (lv_sub hl [0, 2, 3] rfl) hC
          · skip
            refine lv_iconst (v := 0) hx hb d_V_isAlone_41 (by decide) ?_
            exact t_zret hx hb hr hlk (Or.inl rfl) zz_c hC (⟨Or.inr ⟨rfl, al_false hi h0 c27 c38⟩, rfl⟩) (Nat.le_of_ble_eq_true rfl) (Nat.le_of_ble_eq_true rfl) d_V_isAlone_42
  exact loop _ 0 ls _ _ rfl (by omega) (fun j h => absurd h (by omega)) hl hC
