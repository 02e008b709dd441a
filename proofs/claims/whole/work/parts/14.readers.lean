/-! The vault: objects by number, the latest of a key, readers. Laid by program (wip/whole/p14.py) -/
set_option maxRecDepth 100000 in
set_option maxHeartbeats 4000000 in
theorem c_V_objectNumbered {l : Launch} (hst : l.stackTraces = false) {D : va_G} {A : Nat → Prop} {e0 : Nat → Nat} {K : Nat → Nat} {ca : Nat → ClassId} {RL LP : List Nat} {fv FR : Nat → RW} {day ever mo : Int32} {ea : Nat} {wr : Int32} {ch : Int64} {ring : Nat → Int32} {rest : va_W} {vs : List Nat} {eo : va_W} (hI : cI e0 ca vs LP ea eo) {number : Int32} : tM l y_V_objectNumbered tb ({ frames := 7, cells := 2, slots := 12, locals := 113 }) D cls (ty0 ca) A (zz e0 A) [.ref (K 0), .int number] (wC K ca RL LP fv FR day ever mo (nI vs.length) ea wr ch ring (eo ++ rest)) (fun v w2 => ∃ a, vs.find? (fun a => decide (fv a 0 = number)) = some a ∧ fv a 5 ≠ -1 ∧ v = some (.ref a) ∧ w2 = wC K ca RL LP fv FR day ever mo (nI vs.length) ea wr ch ring (eo ++ rest)) (fun E w2 => E = "java/util/NoSuchElementException" ∧ w2 = wC K ca RL LP fv FR day ever mo (nI vs.length) ea wr ch ring (eo ++ rest) ∧ (vs.find? (fun a => decide (fv a 0 = number)) = none ∨ ∃ a, vs.find? (fun a => decide (fv a 0 = number)) = some a ∧ fv a 5 = -1)) := by
  refine t_ofW (by decide) w_465 (Nat.le_of_ble_eq_true rfl) ?_
  intro p e s m below meth c ls hx hb hr hts hown hlk hnm hml hex hl hC
  have hown : s.vm.findClass "RetentionVault" = some m.cls := hown
  have hl : lv_has ls 3 [(0, .ref (K 0)), (1, .int number)] := hl
  obtain ⟨hLR, hvL, hnd, h40⟩ := hI
  refine lv_aload_n hx hb d_V_objectNumbered_0 rfl (lv_at hl 0 rfl) ?_
  refine lv_iload_n hx hb d_V_objectNumbered_1 rfl (lv_at hl 1 rfl) ?_
  refine t_call (t_invV (As := [.int number]) (rest := []) hx hb hown (hts _ w_423) (hts _ w_425) (hts _ s_V_versionNumbered) (hts _ w_426) ⟨by decide, by decide⟩ (t_recv (q0 := 0) hC rfl rfl) rfl d_V_objectNumbered_2) (c_V_versionNumbered hst ⟨hLR, hvL, hnd, h40⟩) zz_c tb_good hts w_1 hC (hl.1.trans hml.symm) ⟨Nat.le_of_ble_eq_true rfl, Nat.le_of_ble_eq_true rfl, Nat.le_of_ble_eq_true rfl, Nat.le_of_ble_eq_true rfl⟩ (Nat.le_of_ble_eq_true rfl) (fun E q9 ce w1 H locs hp hC hce hcv hcl => ?_) (fun v w1 H locs hp hC => ?_)
  · skip
    obtain ⟨rfl, hwe9, hfa⟩ := hp
    rw [hwe9] at hC
    have hC : tC D cls (ty0 ca) A (zz e0 A) s (wC K ca RL LP fv FR day ever mo (nI vs.length) ea wr ch ring (eo ++ rest)) H locs := hC
    exact t_out (fun x h => (hex x h).elim) hlk zz_c hC hce hcv hcl (⟨rfl, rfl, Or.inl hfa⟩) (Nat.le_of_ble_eq_true rfl) (Nat.le_of_ble_eq_true rfl)
  · skip
    obtain ⟨a, hfa, rfl, hwe9⟩ := hp
    rw [hwe9] at hC
    have ha : a ∈ LP := hvL a (List.mem_of_find?_eq_some hfa)
    have hC : tC D cls (ty0 ca) A (zz e0 A) s (wC K ca RL LP fv FR day ever mo (nI vs.length) ea wr ch ring (eo ++ rest)) H locs := hC
    refine W.eq (g2 := F0 m 5 ls [.ref a]) rfl ?_
    refine lv_astore_n (lv' := [(2, .ref a), (0, .ref (K 0)), (1, .int number)]) hx hb d_V_objectNumbered_5 rfl hl (by decide) rfl (fun ls hl => ?_)
    refine lv_aload_n hx hb d_V_objectNumbered_6 rfl (lv_at hl 0 rfl) ?_
    refine t_call (t_invV (As := []) (rest := []) hx hb hown (hts _ w_372) (hts _ w_373) (hts _ w_374) (hts _ w_375) ⟨by decide, by decide⟩ (t_recvP hC ha rfl rfl) rfl d_V_objectNumbered_7) (c_N_isMarker zz_c ha) zz_c tb_good hts w_13 hC (hl.1.trans hml.symm) ⟨Nat.le_of_ble_eq_true rfl, Nat.le_of_ble_eq_true rfl, Nat.le_of_ble_eq_true rfl, Nat.le_of_ble_eq_true rfl⟩ (Nat.le_of_ble_eq_true rfl) (fun E q ce w1 H1 l1 hp => hp.elim) (fun v w1 H locs hp hC => ?_)
    obtain ⟨rfl, hwe9⟩ := hp
    rw [hwe9] at hC
    have hC : tC D cls (ty0 ca) A (zz e0 A) s (wC K ca RL LP fv FR day ever mo (nI vs.length) ea wr ch ring (eo ++ rest)) H locs := hC
    refine W.eq (g2 := F0 m 10 ls [.int (bI (fv a 5 = -1))]) rfl ?_
    refine lv_if_eq (tgt := 23) hx hb d_V_objectNumbered_10 (by decide) (fun c10 => ?_) (fun c10 => ?_)
    · skip
      refine lv_aload_n hx hb d_V_objectNumbered_23 rfl (lv_at hl 0 rfl) ?_
      exact t_aret (r := some a) hx hb hr (Or.inl ⟨_, rfl⟩) hlk zz_c hC (⟨a, hfa, bI_ne.mp c10, rfl, rfl⟩) (Nat.le_of_ble_eq_true rfl) (Nat.le_of_ble_eq_true rfl) d_V_objectNumbered_24
    · skip
      exact t_throw (by9 := prog_25_method_4_code) (ix := 13) (Y9 := "java/lang/RuntimeException") (r9 := ["java/lang/Exception"]) (text := "the version is a marker") hx hb hst (by decide +kernel) (by decide +kernel) (by decide +kernel) (by decide +kernel) hown tb_good hts (by decide) (by decide) (by decide) w_400 w_20 (zz_str hC.2.2.2.2.2 (by decide +kernel)) at_NSE zz_c zz_X4 hC (hl.1.trans hml.symm) hex hlk d_V_objectNumbered_13 d_V_objectNumbered_16 d_V_objectNumbered_17 d_V_objectNumbered_19 d_V_objectNumbered_22 ⟨Nat.le_of_ble_eq_true rfl, Nat.le_of_ble_eq_true rfl, Nat.le_of_ble_eq_true rfl, Nat.le_of_ble_eq_true rfl⟩ (Nat.le_of_ble_eq_true rfl) (Nat.le_of_ble_eq_true rfl) (⟨rfl, rfl, Or.inr ⟨a, hfa, Classical.not_not.mp (fun h => c10 (bI_ne.mpr h))⟩⟩)

theorem lt_m1 {x : Int32} (h : x + 1 = nI 0) : x = -1 := by
  have h2 : x + 1 + (-1) = nI 0 + (-1) := by rw [h]
  rw [Int32.add_assoc] at h2
  have e1 : (1 : Int32) + (-1) = 0 := by decide
  have e2 : nI 0 + (-1) = -1 := by decide
  rw [e1, e2, Int32.add_zero] at h2
  exact h2
theorem lt_x1 {x : Int32} {i : Nat} (h : x + 1 = nI (i + 1)) : x = nI i := by
  rw [← nI_1] at h
  exact (Int32.add_left_inj 1).mp h
theorem lt_x (i : Nat) : nI i + (-1) + 1 = nI i := by
  rw [Int32.add_assoc]
  have e1 : (-1 : Int32) + 1 = 0 := by decide
  rw [e1, Int32.add_zero]
theorem lt_step {vs : List Nat} {fv : Nat → RW} {key : Int32} {i a : Nat} (hi : vs[i]? = some a) (h : rw_latest (vs.map fv) key = rw_last (vs.map fv) key (i + 1)) (hne : ¬ fv a 1 = key) : rw_latest (vs.map fv) key = rw_last (vs.map fv) key i := by
  rw [h]
  show (if rw_at (vs.map fv) i 1 = key then some i else rw_last (vs.map fv) key i) = _
  rw [rw_at_map hi, if_neg hne]
theorem lt_some {vs : List Nat} {fv : Nat → RW} {key : Int32} {i a : Nat} (hi : vs[i]? = some a) (h : rw_latest (vs.map fv) key = rw_last (vs.map fv) key (i + 1)) (he : fv a 1 = key) : (rw_latest (vs.map fv) key).bind (fun i => vs[i]?) = some a := by
  rw [h]
  show ((if rw_at (vs.map fv) i 1 = key then some i else rw_last (vs.map fv) key i)).bind _ = _
  rw [rw_at_map hi, if_pos he]
  exact hi
theorem lt_none {vs : List Nat} {fv : Nat → RW} {key : Int32} (h : rw_latest (vs.map fv) key = rw_last (vs.map fv) key 0) : (rw_latest (vs.map fv) key).bind (fun i => vs[i]?) = none := by
  rw [h]; rfl

set_option maxRecDepth 100000 in
set_option maxHeartbeats 4000000 in
theorem c_V_latestOf {l : Launch} {D : va_G} {A : Nat → Prop} {e0 : Nat → Nat} {K : Nat → Nat} {ca : Nat → ClassId} {RL LP : List Nat} {fv FR : Nat → RW} {day ever mo : Int32} {ea : Nat} {wr : Int32} {ch : Int64} {ring : Nat → Int32} {rest : va_W} {vs : List Nat} {eo : va_W} (hI : cI e0 ca vs LP ea eo) {key : Int32} : tM l y_V_latestOf tb ({ frames := 3, cells := 0, slots := 0, locals := 64 }) D cls (ty0 ca) A (zz e0 A) [.ref (K 0), .int key] (wC K ca RL LP fv FR day ever mo (nI vs.length) ea wr ch ring (eo ++ rest)) (fun v w2 => v = some (va_rf ((rw_latest (vs.map fv) key).bind (fun i => vs[i]?))) ∧ w2 = wC K ca RL LP fv FR day ever mo (nI vs.length) ea wr ch ring (eo ++ rest)) (xN) := by
  refine t_ofW (by decide) w_300 (Nat.le_of_ble_eq_true rfl) ?_
  intro p e s m below meth c ls hx hb hr hts hown hlk hnm hml hex hl hC
  have hown : s.vm.findClass "RetentionVault" = some m.cls := hown
  have hl : lv_has ls 4 [(0, .ref (K 0)), (1, .int key)] := hl
  obtain ⟨hLR, hvL, hnd, h40⟩ := hI
  refine lv_aload_n hx hb d_V_latestOf_0 rfl (lv_at hl 0 rfl) ?_
  refine t_get (v := .ref (K 1)) hx hb hts inV hown hC 0 rfl rfl 0 (by decide) (hts _ w_97) (fun _ h => h) rfl d_V_latestOf_1 ?_
  refine t_call (t_invV (As := []) (rest := []) hx hb hown (hts _ w_210) (hts _ w_211) (hts _ w_212) (hts _ w_213) ⟨by decide, by decide⟩ (t_recv (q0 := 1) hC rfl rfl) rfl d_V_latestOf_4) c_A_size zz_c tb_good hts w_4 hC (hl.1.trans hml.symm) ⟨Nat.le_of_ble_eq_true rfl, Nat.le_of_ble_eq_true rfl, Nat.le_of_ble_eq_true rfl, Nat.le_of_ble_eq_true rfl⟩ (Nat.le_of_ble_eq_true rfl) (fun E q ce w1 H1 l1 hp => hp.elim) (fun v w1 H locs hp hC => ?_)
  obtain ⟨rfl, hwe9⟩ := hp
  rw [hwe9] at hC
  have hC : tC D cls (ty0 ca) A (zz e0 A) s (wC K ca RL LP fv FR day ever mo (nI vs.length) ea wr ch ring (eo ++ rest)) H locs := hC
  refine W.eq (g2 := F0 m 7 ls [.int (nI vs.length)]) rfl ?_
  refine lv_iconst (v := 1) hx hb d_V_latestOf_7 (by decide) ?_
  refine lv_isub hx hb d_V_latestOf_8 ?_
  refine lv_istore_n (lv' := [(2, .int ((nI vs.length) - 1)), (0, .ref (K 0)), (1, .int key)]) hx hb d_V_latestOf_9 rfl hl (by decide) rfl (fun ls hl => ?_)
  have loop : ∀ (k : Nat) (x : Int32) (ls : Array Slot) (H : Heap) (locs : List Loc), x + 1 = nI k → k ≤ vs.length → rw_latest (vs.map fv) key = rw_last (vs.map fv) key k → lv_has ls 4 [(2, .int x), (0, .ref (K 0)), (1, .int key)] → tC D cls (ty0 ca) A (zz e0 A) s (wC K ca RL LP fv FR day ever mo (nI vs.length) ea wr ch ring (eo ++ rest)) H locs → tB p l e ({ frames := 3, cells := 0, slots := 0, locals := 64 }) s m [.ref (K 0), .int key] below meth c D (ty0 ca) A (zz e0 A) (fun v w2 => v = some (va_rf ((rw_latest (vs.map fv) key).bind (fun i => vs[i]?))) ∧ w2 = wC K ca RL LP fv FR day ever mo (nI vs.length) ea wr ch ring (eo ++ rest)) (xN) H locs 0 0 (F0 m 10 ls []) := by
    intro k
    induction k with
    | zero =>
      intro x ls H locs hxk hk hin hl hC
      have hx1 : x = -1 := lt_m1 hxk
      subst hx1
      refine lv_iload_n hx hb d_V_latestOf_10 rfl (lv_at hl 0 rfl) ?_
      refine lv_if_lt (tgt := 42) hx hb d_V_latestOf_11 (by decide) (fun c11 => ?_) (fun c11 => ?_)
      · skip
        refine lv_null hx hb d_V_latestOf_42 ?_
        exact t_aret (r := none) hx hb hr (Or.inl ⟨_, rfl⟩) hlk zz_c hC (⟨by rw [lt_none hin], rfl⟩) (Nat.le_of_ble_eq_true rfl) (Nat.le_of_ble_eq_true rfl) d_V_latestOf_43
      · exact absurd (by decide) c11
    | succ i ih =>
      intro x ls H locs hxk hk hin hl hC
      have hx1 : x = nI i := lt_x1 hxk
      subst hx1
      obtain ⟨a, hi⟩ : ∃ a, vs[i]? = some a := ⟨vs[i], List.getElem?_eq_getElem (by omega)⟩
      have ha : a ∈ LP := hvL a (List.mem_of_getElem? hi)
      refine lv_iload_n hx hb d_V_latestOf_10 rfl (lv_at hl 0 rfl) ?_
      refine lv_if_lt (tgt := 42) hx hb d_V_latestOf_11 (by decide) (fun c11 => ?_) (fun c11 => ?_)
      · exact absurd c11 (nI_pos (by omega))
      · skip
        refine lv_aload_n hx hb d_V_latestOf_14 rfl (lv_at hl 1 rfl) ?_
        refine t_get (v := .ref (K 1)) hx hb hts inV hown hC 0 rfl rfl 0 (by decide) (hts _ w_97) (fun _ h => h) rfl d_V_latestOf_15 ?_
        refine lv_iload_n hx hb d_V_latestOf_18 rfl (lv_at hl 0 rfl) ?_
        refine t_call (t_invV (As := [.int (nI i)]) (rest := []) hx hb hown (hts _ w_301) (hts _ w_302) (hts _ w_303) (hts _ w_304) ⟨by decide, by decide⟩ (t_recv (q0 := 1) hC rfl rfl) rfl d_V_latestOf_19) (c_A_get hLR hi) zz_c tb_good hts w_4 hC (hl.1.trans hml.symm) ⟨Nat.le_of_ble_eq_true rfl, Nat.le_of_ble_eq_true rfl, Nat.le_of_ble_eq_true rfl, Nat.le_of_ble_eq_true rfl⟩ (Nat.le_of_ble_eq_true rfl) (fun E q ce w1 H1 l1 hp => hp.elim) (fun v w1 H locs hp hC => ?_)
        obtain ⟨rfl, hwe9⟩ := hp
        rw [hwe9] at hC
        have hC : tC D cls (ty0 ca) A (zz e0 A) s (wC K ca RL LP fv FR day ever mo (nI vs.length) ea wr ch ring (eo ++ rest)) H locs := hC
        refine W.eq (g2 := F0 m 22 ls [.ref a]) rfl ?_
        refine va_castY (C := "RetentionVault$Version") hx hb hown (hts _ w_230) (hC.2.2.2.2.2.2.2.2.2.1 ("RetentionVault$Version", "RetentionVault$Version") (by decide +kernel)) (t_recvP hC ha rfl rfl) d_V_latestOf_22 ?_
        refine lv_astore_n (lv' := [(3, .ref a), (2, .int (nI i)), (0, .ref (K 0)), (1, .int key)]) hx hb d_V_latestOf_25 rfl hl (by decide) rfl (fun ls hl => ?_)
        refine lv_aload_n hx hb d_V_latestOf_26 rfl (lv_at hl 0 rfl) ?_
        refine t_getP hx hb hts inN hown hC ha rfl 1 (by decide) (hts _ w_239) (fun _ h => h) d_V_latestOf_27 ?_
        refine lv_iload_n hx hb d_V_latestOf_30 rfl (lv_at hl 3 rfl) ?_
        refine lv_icmp_ne (tgt := 36) hx hb d_V_latestOf_31 (by decide) (fun c31 => ?_) (fun c31 => ?_)
        · skip
          refine lv_iinc (k := 1) (v := (nI i) + (-1)) (lv' := [(2, .int ((nI i) + (-1))), (3, .ref a), (0, .ref (K 0)), (1, .int key)]) hx hb d_V_latestOf_36 hl rfl rfl (by decide) rfl (fun ls hl => ?_)
          refine lv_goto (tgt := 10) hx hb d_V_latestOf_39 (by decide) ?_
          exact ih (nI i + (-1)) ls H locs (lt_x i) (by omega) (lt_step hi hin (fun h => c31 h)) (lv_sub hl [0, 2, 3] rfl) hC
        · skip
          refine lv_aload_n hx hb d_V_latestOf_34 rfl (lv_at hl 0 rfl) ?_
          exact t_aret (r := some a) hx hb hr (Or.inl ⟨_, rfl⟩) hlk zz_c hC (⟨by rw [lt_some hi hin c31], rfl⟩) (Nat.le_of_ble_eq_true rfl) (Nat.le_of_ble_eq_true rfl) d_V_latestOf_35
  exact loop vs.length _ ls _ _ (by rw [Int32.sub_add_cancel]) (Nat.le_refl _) (by unfold rw_latest; rw [List.length_map]) hl hC

theorem op_two {α : Type} (o : Option α) : o = none ∨ ∃ x, o = some x := by
  cases o with
  | none => exact Or.inl rfl
  | some x => exact Or.inr ⟨x, rfl⟩
theorem lt_mem {vs LP : List Nat} {r : Option Nat} {a : Nat} (hvL : ∀ a ∈ vs, a ∈ LP) (h : r.bind (fun i => vs[i]?) = some a) : a ∈ LP := by
  cases r with
  | none => cases h
  | some i => exact hvL a (List.mem_of_getElem? (show vs[i]? = some a from h))

set_option maxRecDepth 100000 in
set_option maxHeartbeats 4000000 in
theorem c_V_currentObject {l : Launch} (hst : l.stackTraces = false) {D : va_G} {A : Nat → Prop} {e0 : Nat → Nat} {K : Nat → Nat} {ca : Nat → ClassId} {RL LP : List Nat} {fv FR : Nat → RW} {day ever mo : Int32} {ea : Nat} {wr : Int32} {ch : Int64} {ring : Nat → Int32} {rest : va_W} {vs : List Nat} {eo : va_W} (hI : cI e0 ca vs LP ea eo) {key : Int32} : tM l y_V_currentObject tb ({ frames := 6, cells := 1, slots := 6, locals := 90 }) D cls (ty0 ca) A (zz e0 A) [.ref (K 0), .int key] (wC K ca RL LP fv FR day ever mo (nI vs.length) ea wr ch ring (eo ++ rest)) (fun v w2 => ∃ a, (rw_latest (vs.map fv) key).bind (fun i => vs[i]?) = some a ∧ fv a 5 ≠ -1 ∧ v = some (.ref a) ∧ w2 = wC K ca RL LP fv FR day ever mo (nI vs.length) ea wr ch ring (eo ++ rest)) (fun E w2 => E = "java/util/NoSuchElementException" ∧ w2 = wC K ca RL LP fv FR day ever mo (nI vs.length) ea wr ch ring (eo ++ rest) ∧ ((rw_latest (vs.map fv) key).bind (fun i => vs[i]?) = none ∨ ∃ a, (rw_latest (vs.map fv) key).bind (fun i => vs[i]?) = some a ∧ fv a 5 = -1)) := by
  refine t_ofW (by decide) w_399 (Nat.le_of_ble_eq_true rfl) ?_
  intro p e s m below meth c ls hx hb hr hts hown hlk hnm hml hex hl hC
  have hown : s.vm.findClass "RetentionVault" = some m.cls := hown
  have hl : lv_has ls 3 [(0, .ref (K 0)), (1, .int key)] := hl
  obtain ⟨hLR, hvL, hnd, h40⟩ := hI
  refine lv_aload_n hx hb d_V_currentObject_0 rfl (lv_at hl 0 rfl) ?_
  refine lv_iload_n hx hb d_V_currentObject_1 rfl (lv_at hl 1 rfl) ?_
  refine t_call (t_invV (As := [.int key]) (rest := []) hx hb hown (hts _ w_297) (hts _ w_299) (hts _ s_V_latestOf) (hts _ w_300) ⟨by decide, by decide⟩ (t_recv (q0 := 0) hC rfl rfl) rfl d_V_currentObject_2) (c_V_latestOf ⟨hLR, hvL, hnd, h40⟩) zz_c tb_good hts w_1 hC (hl.1.trans hml.symm) ⟨Nat.le_of_ble_eq_true rfl, Nat.le_of_ble_eq_true rfl, Nat.le_of_ble_eq_true rfl, Nat.le_of_ble_eq_true rfl⟩ (Nat.le_of_ble_eq_true rfl) (fun E q ce w1 H1 l1 hp => hp.elim) (fun v w1 H locs hp hC => ?_)
  obtain ⟨rfl, hwe9⟩ := hp
  rw [hwe9] at hC
  have hC : tC D cls (ty0 ca) A (zz e0 A) s (wC K ca RL LP fv FR day ever mo (nI vs.length) ea wr ch ring (eo ++ rest)) H locs := hC
  refine W.eq (g2 := F0 m 5 ls [va_rf ((rw_latest (vs.map fv) key).bind (fun i => vs[i]?))]) rfl ?_
  rcases op_two ((rw_latest (vs.map fv) key).bind (fun i => vs[i]?)) with hlt | ⟨a, hlt⟩
  · refine W.eq (g2 := F0 m 5 ls [.null]) (by rw [hlt]; rfl) ?_
    refine lv_astore_nN (lv' := [(2, .null), (0, .ref (K 0)), (1, .int key)]) hx hb d_V_currentObject_5 rfl hl (by decide) rfl (fun ls hl => ?_)
    refine lv_aload_nN hx hb d_V_currentObject_6 rfl (lv_at hl 0 rfl) ?_
    refine lv_ifnullN (tgt := 17) hx hb d_V_currentObject_7 (by decide) ?_
    exact t_throw (by9 := prog_25_method_4_code) (ix := 13) (Y9 := "java/lang/RuntimeException") (r9 := ["java/lang/Exception"]) (text := "the key has no current object") hx hb hst (by decide +kernel) (by decide +kernel) (by decide +kernel) (by decide +kernel) hown tb_good hts (by decide) (by decide) (by decide) w_400 w_20 (zz_str hC.2.2.2.2.2 (by decide +kernel)) at_NSE zz_c zz_X4 hC (hl.1.trans hml.symm) hex hlk d_V_currentObject_17 d_V_currentObject_20 d_V_currentObject_21 d_V_currentObject_23 d_V_currentObject_26 ⟨Nat.le_of_ble_eq_true rfl, Nat.le_of_ble_eq_true rfl, Nat.le_of_ble_eq_true rfl, Nat.le_of_ble_eq_true rfl⟩ (Nat.le_of_ble_eq_true rfl) (Nat.le_of_ble_eq_true rfl) (⟨rfl, rfl, Or.inl hlt⟩)
  · have ha : a ∈ LP := lt_mem hvL hlt
    refine W.eq (g2 := F0 m 5 ls [.ref a]) (by rw [hlt]; rfl) ?_
    refine lv_astore_n (lv' := [(2, .ref a), (0, .ref (K 0)), (1, .int key)]) hx hb d_V_currentObject_5 rfl hl (by decide) rfl (fun ls hl => ?_)
    refine lv_aload_n hx hb d_V_currentObject_6 rfl (lv_at hl 0 rfl) ?_
    refine lv_ifnull hx hb d_V_currentObject_7 ?_
    refine lv_aload_n hx hb d_V_currentObject_10 rfl (lv_at hl 0 rfl) ?_
    refine t_call (t_invV (As := []) (rest := []) hx hb hown (hts _ w_372) (hts _ w_373) (hts _ w_374) (hts _ w_375) ⟨by decide, by decide⟩ (t_recvP hC ha rfl rfl) rfl d_V_currentObject_11) (c_N_isMarker zz_c ha) zz_c tb_good hts w_13 hC (hl.1.trans hml.symm) ⟨Nat.le_of_ble_eq_true rfl, Nat.le_of_ble_eq_true rfl, Nat.le_of_ble_eq_true rfl, Nat.le_of_ble_eq_true rfl⟩ (Nat.le_of_ble_eq_true rfl) (fun E q ce w1 H1 l1 hp => hp.elim) (fun v w1 H locs hp hC => ?_)
    obtain ⟨rfl, hwe9⟩ := hp
    rw [hwe9] at hC
    have hC : tC D cls (ty0 ca) A (zz e0 A) s (wC K ca RL LP fv FR day ever mo (nI vs.length) ea wr ch ring (eo ++ rest)) H locs := hC
    refine W.eq (g2 := F0 m 14 ls [.int (bI (fv a 5 = -1))]) rfl ?_
    refine lv_if_eq (tgt := 27) hx hb d_V_currentObject_14 (by decide) (fun c14 => ?_) (fun c14 => ?_)
    · skip
      refine lv_aload_n hx hb d_V_currentObject_27 rfl (lv_at hl 0 rfl) ?_
      exact t_aret (r := some a) hx hb hr (Or.inl ⟨_, rfl⟩) hlk zz_c hC (⟨a, hlt, bI_ne.mp c14, rfl, rfl⟩) (Nat.le_of_ble_eq_true rfl) (Nat.le_of_ble_eq_true rfl) d_V_currentObject_28
    · skip
      exact t_throw (by9 := prog_25_method_4_code) (ix := 13) (Y9 := "java/lang/RuntimeException") (r9 := ["java/lang/Exception"]) (text := "the key has no current object") hx hb hst (by decide +kernel) (by decide +kernel) (by decide +kernel) (by decide +kernel) hown tb_good hts (by decide) (by decide) (by decide) w_400 w_20 (zz_str hC.2.2.2.2.2 (by decide +kernel)) at_NSE zz_c zz_X4 hC (hl.1.trans hml.symm) hex hlk d_V_currentObject_17 d_V_currentObject_20 d_V_currentObject_21 d_V_currentObject_23 d_V_currentObject_26 ⟨Nat.le_of_ble_eq_true rfl, Nat.le_of_ble_eq_true rfl, Nat.le_of_ble_eq_true rfl, Nat.le_of_ble_eq_true rfl⟩ (Nat.le_of_ble_eq_true rfl) (Nat.le_of_ble_eq_true rfl) (⟨rfl, rfl, Or.inr ⟨a, hlt, Classical.not_not.mp (fun h => c14 (bI_ne.mpr h))⟩⟩)

set_option maxRecDepth 100000 in
set_option maxHeartbeats 4000000 in
theorem c_V_current {l : Launch} (hst : l.stackTraces = false) {D : va_G} {A : Nat → Prop} {e0 : Nat → Nat} {K : Nat → Nat} {ca : Nat → ClassId} {RL LP : List Nat} {fv FR : Nat → RW} {day ever mo : Int32} {ea : Nat} {wr : Int32} {ch : Int64} {ring : Nat → Int32} {rest : va_W} {vs : List Nat} {eo : va_W} (hI : cI e0 ca vs LP ea eo) {key : Int32} : tM l y_V_current tb ({ frames := 7, cells := 1, slots := 6, locals := 112 }) D cls (ty0 ca) A (zz e0 A) [.ref (K 0), .int key] (wC K ca RL LP fv FR day ever mo (nI vs.length) ea wr ch ring (eo ++ rest)) (fun v w2 => ∃ a, (rw_latest (vs.map fv) key).bind (fun i => vs[i]?) = some a ∧ fv a 5 ≠ -1 ∧ v = some (.int (fv a 0)) ∧ w2 = wC K ca RL LP fv FR day ever mo (nI vs.length) ea wr ch ring (eo ++ rest)) (fun E w2 => E = "java/util/NoSuchElementException" ∧ w2 = wC K ca RL LP fv FR day ever mo (nI vs.length) ea wr ch ring (eo ++ rest) ∧ ((rw_latest (vs.map fv) key).bind (fun i => vs[i]?) = none ∨ ∃ a, (rw_latest (vs.map fv) key).bind (fun i => vs[i]?) = some a ∧ fv a 5 = -1)) := by
  refine t_ofW (by decide) w_572 (Nat.le_of_ble_eq_true rfl) ?_
  intro p e s m below meth c ls hx hb hr hts hown hlk hnm hml hex hl hC
  have hown : s.vm.findClass "RetentionVault" = some m.cls := hown
  have hl : lv_has ls 2 [(0, .ref (K 0)), (1, .int key)] := hl
  obtain ⟨hLR, hvL, hnd, h40⟩ := hI
  refine lv_aload_n hx hb d_V_current_0 rfl (lv_at hl 0 rfl) ?_
  refine lv_iload_n hx hb d_V_current_1 rfl (lv_at hl 1 rfl) ?_
  refine t_call (t_invV (As := [.int key]) (rest := []) hx hb hown (hts _ w_396) (hts _ w_398) (hts _ s_V_currentObject) (hts _ w_399) ⟨by decide, by decide⟩ (t_recv (q0 := 0) hC rfl rfl) rfl d_V_current_2) (c_V_currentObject hst ⟨hLR, hvL, hnd, h40⟩) zz_c tb_good hts w_1 hC (hl.1.trans hml.symm) ⟨Nat.le_of_ble_eq_true rfl, Nat.le_of_ble_eq_true rfl, Nat.le_of_ble_eq_true rfl, Nat.le_of_ble_eq_true rfl⟩ (Nat.le_of_ble_eq_true rfl) (fun E q9 ce w1 H locs hp hC hce hcv hcl => ?_) (fun v w1 H locs hp hC => ?_)
  · skip
    obtain ⟨rfl, hwe9, hlt⟩ := hp
    rw [hwe9] at hC
    have hC : tC D cls (ty0 ca) A (zz e0 A) s (wC K ca RL LP fv FR day ever mo (nI vs.length) ea wr ch ring (eo ++ rest)) H locs := hC
    exact t_out (fun x h => (hex x h).elim) hlk zz_c hC hce hcv hcl (⟨rfl, rfl, hlt⟩) (Nat.le_of_ble_eq_true rfl) (Nat.le_of_ble_eq_true rfl)
  · skip
    obtain ⟨a, hlt, hob, rfl, hwe9⟩ := hp
    rw [hwe9] at hC
    have ha : a ∈ LP := lt_mem hvL hlt
    have hC : tC D cls (ty0 ca) A (zz e0 A) s (wC K ca RL LP fv FR day ever mo (nI vs.length) ea wr ch ring (eo ++ rest)) H locs := hC
    refine W.eq (g2 := F0 m 5 ls [.ref a]) rfl ?_
    refine t_getP hx hb hts inN hown hC ha rfl 0 (by decide) (hts _ w_237) (fun _ h => h) d_V_current_5 ?_
    exact t_iret hx hb hr hlk zz_c hC (⟨a, hlt, hob, rfl, rfl⟩) (Nat.le_of_ble_eq_true rfl) (Nat.le_of_ble_eq_true rfl) d_V_current_8

set_option maxRecDepth 100000 in
set_option maxHeartbeats 4000000 in
theorem c_V_read {l : Launch} (hst : l.stackTraces = false) {D : va_G} {A : Nat → Prop} {e0 : Nat → Nat} {K : Nat → Nat} {ca : Nat → ClassId} {RL LP : List Nat} {fv FR : Nat → RW} {day ever mo : Int32} {ea : Nat} {wr : Int32} {ch : Int64} {ring : Nat → Int32} {rest : va_W} {vs : List Nat} {eo : va_W} (hI : cI e0 ca vs LP ea eo) {number : Int32} : tM l y_V_read tb ({ frames := 8, cells := 3, slots := 18, locals := 135 }) D cls (ty0 ca) A (zz e0 A) [.ref (K 0), .int number] (wC K ca RL LP fv FR day ever mo (nI vs.length) ea wr ch ring (eo ++ rest)) (fun v w2 => ∃ a, vs.find? (fun a => decide (fv a 0 = number)) = some a ∧ fv a 5 ≠ -1 ∧ ¬ (2 ≤ fv a 5 ∧ ¬ (fv a 11 ≤ day ∧ day < fv a 12)) ∧ v = some (.int (fv a 3)) ∧ w2 = wC K ca RL LP fv FR day ever mo (nI vs.length) ea wr ch ring (eo ++ rest)) (fun E w2 => w2 = wC K ca RL LP fv FR day ever mo (nI vs.length) ea wr ch ring (eo ++ rest) ∧ ((E = "java/util/NoSuchElementException" ∧ (vs.find? (fun a => decide (fv a 0 = number)) = none ∨ ∃ a, vs.find? (fun a => decide (fv a 0 = number)) = some a ∧ fv a 5 = -1)) ∨ (E = "java/lang/IllegalStateException" ∧ ∃ a, vs.find? (fun a => decide (fv a 0 = number)) = some a ∧ fv a 5 ≠ -1 ∧ 2 ≤ fv a 5 ∧ ¬ (fv a 11 ≤ day ∧ day < fv a 12)))) := by
  refine t_ofW (by decide) w_515 (Nat.le_of_ble_eq_true rfl) ?_
  intro p e s m below meth c ls hx hb hr hts hown hlk hnm hml hex hl hC
  have hown : s.vm.findClass "RetentionVault" = some m.cls := hown
  have hl : lv_has ls 3 [(0, .ref (K 0)), (1, .int number)] := hl
  obtain ⟨hLR, hvL, hnd, h40⟩ := hI
  refine lv_aload_n hx hb d_V_read_0 rfl (lv_at hl 0 rfl) ?_
  refine lv_iload_n hx hb d_V_read_1 rfl (lv_at hl 1 rfl) ?_
  refine t_call (t_invV (As := [.int number]) (rest := []) hx hb hown (hts _ w_462) (hts _ w_464) (hts _ s_V_objectNumbered) (hts _ w_465) ⟨by decide, by decide⟩ (t_recv (q0 := 0) hC rfl rfl) rfl d_V_read_2) (c_V_objectNumbered hst ⟨hLR, hvL, hnd, h40⟩) zz_c tb_good hts w_1 hC (hl.1.trans hml.symm) ⟨Nat.le_of_ble_eq_true rfl, Nat.le_of_ble_eq_true rfl, Nat.le_of_ble_eq_true rfl, Nat.le_of_ble_eq_true rfl⟩ (Nat.le_of_ble_eq_true rfl) (fun E q9 ce w1 H locs hp hC hce hcv hcl => ?_) (fun v w1 H locs hp hC => ?_)
  · skip
    obtain ⟨rfl, hwe9, hfa⟩ := hp
    rw [hwe9] at hC
    have hC : tC D cls (ty0 ca) A (zz e0 A) s (wC K ca RL LP fv FR day ever mo (nI vs.length) ea wr ch ring (eo ++ rest)) H locs := hC
    exact t_out (fun x h => (hex x h).elim) hlk zz_c hC hce hcv hcl (⟨rfl, Or.inl ⟨rfl, hfa⟩⟩) (Nat.le_of_ble_eq_true rfl) (Nat.le_of_ble_eq_true rfl)
  · skip
    obtain ⟨a, hfa, hob, rfl, hwe9⟩ := hp
    rw [hwe9] at hC
    have ha : a ∈ LP := hvL a (List.mem_of_find?_eq_some hfa)
    have hC : tC D cls (ty0 ca) A (zz e0 A) s (wC K ca RL LP fv FR day ever mo (nI vs.length) ea wr ch ring (eo ++ rest)) H locs := hC
    refine W.eq (g2 := F0 m 5 ls [.ref a]) rfl ?_
    refine lv_astore_n (lv' := [(2, .ref a), (0, .ref (K 0)), (1, .int number)]) hx hb d_V_read_5 rfl hl (by decide) rfl (fun ls hl => ?_)
    refine lv_aload_n hx hb d_V_read_6 rfl (lv_at hl 0 rfl) ?_
    refine t_call (t_invV (As := []) (rest := []) hx hb hown (hts _ w_504) (hts _ w_505) (hts _ w_506) (hts _ w_507) ⟨by decide, by decide⟩ (t_recvP hC ha rfl rfl) rfl d_V_read_7) (c_N_isCold zz_c ha) zz_c tb_good hts w_13 hC (hl.1.trans hml.symm) ⟨Nat.le_of_ble_eq_true rfl, Nat.le_of_ble_eq_true rfl, Nat.le_of_ble_eq_true rfl, Nat.le_of_ble_eq_true rfl⟩ (Nat.le_of_ble_eq_true rfl) (fun E q ce w1 H1 l1 hp => hp.elim) (fun v w1 H locs hp hC => ?_)
    obtain ⟨rfl, hwe9⟩ := hp
    rw [hwe9] at hC
    have hC : tC D cls (ty0 ca) A (zz e0 A) s (wC K ca RL LP fv FR day ever mo (nI vs.length) ea wr ch ring (eo ++ rest)) H locs := hC
    refine W.eq (g2 := F0 m 10 ls [.int (bI (2 ≤ fv a 5))]) rfl ?_
    refine lv_if_eq (tgt := 34) hx hb d_V_read_10 (by decide) (fun c10 => ?_) (fun c10 => ?_)
    · skip
      refine lv_aload_n hx hb d_V_read_34 rfl (lv_at hl 0 rfl) ?_
      refine t_getP hx hb hts inN hown hC ha rfl 3 (by decide) (hts _ w_242) (fun _ h => h) d_V_read_35 ?_
      exact t_iret hx hb hr hlk zz_c hC (⟨a, hfa, hob, fun h => bI_ne.mp c10 h.1, rfl, rfl⟩) (Nat.le_of_ble_eq_true rfl) (Nat.le_of_ble_eq_true rfl) d_V_read_38
    · skip
      refine lv_aload_n hx hb d_V_read_13 rfl (lv_at hl 0 rfl) ?_
      refine lv_aload_n hx hb d_V_read_14 rfl (lv_at hl 1 rfl) ?_
      refine t_get (v := .int day) hx hb hts inV hown hC 0 rfl rfl 3 (by decide) (hts _ w_100) (fun _ h => h) rfl d_V_read_15 ?_
      refine t_call (t_invV (As := [.int day]) (rest := []) hx hb hown (hts _ w_516) (hts _ w_517) (hts _ w_518) (hts _ w_519) ⟨by decide, by decide⟩ (t_recvP hC ha rfl rfl) rfl d_V_read_18) (c_N_isFetchedFor zz_c ha) zz_c tb_good hts w_13 hC (hl.1.trans hml.symm) ⟨Nat.le_of_ble_eq_true rfl, Nat.le_of_ble_eq_true rfl, Nat.le_of_ble_eq_true rfl, Nat.le_of_ble_eq_true rfl⟩ (Nat.le_of_ble_eq_true rfl) (fun E q ce w1 H1 l1 hp => hp.elim) (fun v w1 H locs hp hC => ?_)
      obtain ⟨rfl, hwe9⟩ := hp
      rw [hwe9] at hC
      have hC : tC D cls (ty0 ca) A (zz e0 A) s (wC K ca RL LP fv FR day ever mo (nI vs.length) ea wr ch ring (eo ++ rest)) H locs := hC
      refine W.eq (g2 := F0 m 21 ls [.int (bI (fv a 11 ≤ day ∧ day < fv a 12))]) rfl ?_
      refine lv_if_ne (tgt := 34) hx hb d_V_read_21 (by decide) (fun c21 => ?_) (fun c21 => ?_)
      · skip
        refine lv_aload_n hx hb d_V_read_34 rfl (lv_at hl 0 rfl) ?_
        refine t_getP hx hb hts inN hown hC ha rfl 3 (by decide) (hts _ w_242) (fun _ h => h) d_V_read_35 ?_
        exact t_iret hx hb hr hlk zz_c hC (⟨a, hfa, hob, fun h => c21 (bI_ne.mpr h.2), rfl, rfl⟩) (Nat.le_of_ble_eq_true rfl) (Nat.le_of_ble_eq_true rfl) d_V_read_38
      · skip
        exact t_throw (by9 := prog_11_method_2_code) (ix := 7) (Y9 := "java/lang/RuntimeException") (r9 := ["java/lang/Exception"]) (text := "the object is cold and not fetched for this day") hx hb hst (by decide +kernel) (by decide +kernel) (by decide +kernel) (by decide +kernel) hown tb_good hts (by decide) (by decide) (by decide) w_214 w_12 (zz_str hC.2.2.2.2.2 (by decide +kernel)) at_ISE zz_c zz_X4 hC (hl.1.trans hml.symm) hex hlk d_V_read_24 d_V_read_27 d_V_read_28 d_V_read_30 d_V_read_33 ⟨Nat.le_of_ble_eq_true rfl, Nat.le_of_ble_eq_true rfl, Nat.le_of_ble_eq_true rfl, Nat.le_of_ble_eq_true rfl⟩ (Nat.le_of_ble_eq_true rfl) (Nat.le_of_ble_eq_true rfl) (⟨rfl, Or.inr ⟨rfl, a, hfa, hob, Classical.not_not.mp (fun h => c10 (bI_ne.mpr h)), bI_ne.mp c21⟩⟩)

theorem sw0_7 (x : Int32) : x = 0 ∨ x = 1 ∨ x = 2 ∨ x = 3 ∨ x = 4 ∨ x = 5 ∨ x = 6 ∨ x = 7 ∨ (x.toInt < 0 ∨ 7 < x.toInt) := by
  rcases pk_ix x (n := 8) (by decide) with h | h | ⟨j, hj, rfl⟩
  · have h1 : x.toInt < 0 := Int32.lt_iff_toInt_lt.mp h
    simp [h1]
  · have h1 : (nI 8).toInt ≤ x.toInt := Int32.le_iff_toInt_le.mp h
    have h2 : (nI 8).toInt = 8 := by decide
    have h3 : 7 < x.toInt := by omega
    simp [h3]
  · rcases (by omega : j = 0 ∨ j = 1 ∨ j = 2 ∨ j = 3 ∨ j = 4 ∨ j = 5 ∨ j = 6 ∨ j = 7) with rfl | rfl | rfl | rfl | rfl | rfl | rfl | rfl <;> decide
theorem sw0_5 (x : Int32) : x = 0 ∨ x = 1 ∨ x = 2 ∨ x = 3 ∨ x = 4 ∨ x = 5 ∨ (x.toInt < 0 ∨ 5 < x.toInt) := by
  rcases pk_ix x (n := 6) (by decide) with h | h | ⟨j, hj, rfl⟩
  · have h1 : x.toInt < 0 := Int32.lt_iff_toInt_lt.mp h
    simp [h1]
  · have h1 : (nI 6).toInt ≤ x.toInt := Int32.le_iff_toInt_le.mp h
    have h2 : (nI 6).toInt = 6 := by decide
    have h3 : 5 < x.toInt := by omega
    simp [h3]
  · rcases (by omega : j = 0 ∨ j = 1 ∨ j = 2 ∨ j = 3 ∨ j = 4 ∨ j = 5) with rfl | rfl | rfl | rfl | rfl | rfl <;> decide
/-- what about(version, what) tells of a row -/
def rw_about (r : RW) (day what : Int32) : Int32 := if what = 0 then r 1 else if what = 1 then r 3 else if what = 2 then r 5 else if what = 3 then (if r 6 = 0 then r 7 else r 2) else if what = 4 then bI (r 6 ≠ 0) else if what = 5 then r 8 else if what = 6 then r 10 else bI (r 10 ≠ 0 ∨ day < r 8)

set_option maxRecDepth 100000 in
set_option maxHeartbeats 4000000 in
theorem c_V_about {l : Launch} (hst : l.stackTraces = false) {D : va_G} {A : Nat → Prop} {e0 : Nat → Nat} {K : Nat → Nat} {ca : Nat → ClassId} {RL LP : List Nat} {fv FR : Nat → RW} {day ever mo : Int32} {ea : Nat} {wr : Int32} {ch : Int64} {ring : Nat → Int32} {rest : va_W} {vs : List Nat} {eo : va_W} (hI : cI e0 ca vs LP ea eo) {number what : Int32} : tM l y_V_about tb ({ frames := 7, cells := 2, slots := 12, locals := 113 }) D cls (ty0 ca) A (zz e0 A) [.ref (K 0), .int number, .int what] (wC K ca RL LP fv FR day ever mo (nI vs.length) ea wr ch ring (eo ++ rest)) (fun v w2 => ∃ a, vs.find? (fun a => decide (fv a 0 = number)) = some a ∧ ¬ (what.toInt < 0 ∨ 7 < what.toInt) ∧ v = some (.int (rw_about (fv a) day what)) ∧ w2 = wC K ca RL LP fv FR day ever mo (nI vs.length) ea wr ch ring (eo ++ rest)) (fun E w2 => w2 = wC K ca RL LP fv FR day ever mo (nI vs.length) ea wr ch ring (eo ++ rest) ∧ ((E = "java/util/NoSuchElementException" ∧ vs.find? (fun a => decide (fv a 0 = number)) = none) ∨ (E = "java/lang/IllegalArgumentException" ∧ (∃ a, vs.find? (fun a => decide (fv a 0 = number)) = some a) ∧ (what.toInt < 0 ∨ 7 < what.toInt)))) := by
  refine t_ofW (by decide) w_579 (Nat.le_of_ble_eq_true rfl) ?_
  intro p e s m below meth c ls hx hb hr hts hown hlk hnm hml hex hl hC
  have hown : s.vm.findClass "RetentionVault" = some m.cls := hown
  have hl : lv_has ls 4 [(0, .ref (K 0)), (1, .int number), (2, .int what)] := hl
  obtain ⟨hLR, hvL, hnd, h40⟩ := hI
  refine lv_aload_n hx hb d_V_about_0 rfl (lv_at hl 0 rfl) ?_
  refine lv_iload_n hx hb d_V_about_1 rfl (lv_at hl 1 rfl) ?_
  refine t_call (t_invV (As := [.int number]) (rest := []) hx hb hown (hts _ w_423) (hts _ w_425) (hts _ s_V_versionNumbered) (hts _ w_426) ⟨by decide, by decide⟩ (t_recv (q0 := 0) hC rfl rfl) rfl d_V_about_2) (c_V_versionNumbered hst ⟨hLR, hvL, hnd, h40⟩) zz_c tb_good hts w_1 hC (hl.1.trans hml.symm) ⟨Nat.le_of_ble_eq_true rfl, Nat.le_of_ble_eq_true rfl, Nat.le_of_ble_eq_true rfl, Nat.le_of_ble_eq_true rfl⟩ (Nat.le_of_ble_eq_true rfl) (fun E q9 ce w1 H locs hp hC hce hcv hcl => ?_) (fun v w1 H locs hp hC => ?_)
  · skip
    obtain ⟨rfl, hwe9, hfa⟩ := hp
    rw [hwe9] at hC
    have hC : tC D cls (ty0 ca) A (zz e0 A) s (wC K ca RL LP fv FR day ever mo (nI vs.length) ea wr ch ring (eo ++ rest)) H locs := hC
    exact t_out (fun x h => (hex x h).elim) hlk zz_c hC hce hcv hcl (⟨rfl, Or.inl ⟨rfl, hfa⟩⟩) (Nat.le_of_ble_eq_true rfl) (Nat.le_of_ble_eq_true rfl)
  · skip
    obtain ⟨a, hfa, rfl, hwe9⟩ := hp
    rw [hwe9] at hC
    have ha : a ∈ LP := hvL a (List.mem_of_find?_eq_some hfa)
    have hC : tC D cls (ty0 ca) A (zz e0 A) s (wC K ca RL LP fv FR day ever mo (nI vs.length) ea wr ch ring (eo ++ rest)) H locs := hC
    refine W.eq (g2 := F0 m 5 ls [.ref a]) rfl ?_
    refine lv_astore_n (lv' := [(3, .ref a), (0, .ref (K 0)), (1, .int number), (2, .int what)]) hx hb d_V_about_5 rfl hl (by decide) rfl (fun ls hl => ?_)
    refine lv_iload_n hx hb d_V_about_6 rfl (lv_at hl 3 rfl) ?_
    rcases sw0_7 what with rfl | rfl | rfl | rfl | rfl | rfl | rfl | rfl | hsw
    · refine lv_tableIn (off := 45) (tgt := 52) hx hb d_V_about_7 (by decide) (by decide) (by decide) (by decide) ?_
      refine lv_aload_n hx hb d_V_about_52 rfl (lv_at hl 0 rfl) ?_
      refine t_getP hx hb hts inN hown hC ha rfl 1 (by decide) (hts _ w_239) (fun _ h => h) d_V_about_53 ?_
      exact t_iret hx hb hr hlk zz_c hC (⟨a, hfa, by decide, rfl, rfl⟩) (Nat.le_of_ble_eq_true rfl) (Nat.le_of_ble_eq_true rfl) d_V_about_56
    · refine lv_tableIn (off := 50) (tgt := 57) hx hb d_V_about_7 (by decide) (by decide) (by decide) (by decide) ?_
      refine lv_aload_n hx hb d_V_about_57 rfl (lv_at hl 0 rfl) ?_
      refine t_getP hx hb hts inN hown hC ha rfl 3 (by decide) (hts _ w_242) (fun _ h => h) d_V_about_58 ?_
      exact t_iret hx hb hr hlk zz_c hC (⟨a, hfa, by decide, rfl, rfl⟩) (Nat.le_of_ble_eq_true rfl) (Nat.le_of_ble_eq_true rfl) d_V_about_61
    · refine lv_tableIn (off := 55) (tgt := 62) hx hb d_V_about_7 (by decide) (by decide) (by decide) (by decide) ?_
      refine lv_aload_n hx hb d_V_about_62 rfl (lv_at hl 0 rfl) ?_
      refine t_getP hx hb hts inN hown hC ha rfl 5 (by decide) (hts _ w_246) (fun _ h => h) d_V_about_63 ?_
      exact t_iret hx hb hr hlk zz_c hC (⟨a, hfa, by decide, rfl, rfl⟩) (Nat.le_of_ble_eq_true rfl) (Nat.le_of_ble_eq_true rfl) d_V_about_66
    · refine lv_tableIn (off := 60) (tgt := 67) hx hb d_V_about_7 (by decide) (by decide) (by decide) (by decide) ?_
      refine lv_aload_n hx hb d_V_about_67 rfl (lv_at hl 0 rfl) ?_
      refine t_call (t_invV (As := []) (rest := []) hx hb hown (hts _ w_580) (hts _ w_542) (hts _ w_543) (hts _ w_544) ⟨by decide, by decide⟩ (t_recvP hC ha rfl rfl) rfl d_V_about_68) (c_N_since zz_c ha) zz_c tb_good hts w_13 hC (hl.1.trans hml.symm) ⟨Nat.le_of_ble_eq_true rfl, Nat.le_of_ble_eq_true rfl, Nat.le_of_ble_eq_true rfl, Nat.le_of_ble_eq_true rfl⟩ (Nat.le_of_ble_eq_true rfl) (fun E q ce w1 H1 l1 hp => hp.elim) (fun v w1 H locs hp hC => ?_)
      obtain ⟨rfl, hwe9⟩ := hp
      rw [hwe9] at hC
      have hC : tC D cls (ty0 ca) A (zz e0 A) s (wC K ca RL LP fv FR day ever mo (nI vs.length) ea wr ch ring (eo ++ rest)) H locs := hC
      refine W.eq (g2 := F0 m 71 ls [.int (if fv a 6 = 0 then fv a 7 else fv a 2)]) rfl ?_
      exact t_iret hx hb hr hlk zz_c hC (⟨a, hfa, by decide, rfl, rfl⟩) (Nat.le_of_ble_eq_true rfl) (Nat.le_of_ble_eq_true rfl) d_V_about_71
    · refine lv_tableIn (off := 65) (tgt := 72) hx hb d_V_about_7 (by decide) (by decide) (by decide) (by decide) ?_
      refine lv_aload_n hx hb d_V_about_72 rfl (lv_at hl 0 rfl) ?_
      refine t_getP hx hb hts inN hown hC ha rfl 6 (by decide) (hts _ w_249) (fun _ h => h) d_V_about_73 ?_
      refine lv_if_eq (tgt := 83) hx hb d_V_about_76 (by decide) (fun c76 => ?_) (fun c76 => ?_)
      · skip
        refine lv_iconst (v := 0) hx hb d_V_about_83 (by decide) ?_
        exact t_iret hx hb hr hlk zz_c hC (⟨a, hfa, by decide, by show some (Value.int 0) = some (Value.int (bI (fv a 6 ≠ 0))); simp [bI, c76], rfl⟩) (Nat.le_of_ble_eq_true rfl) (Nat.le_of_ble_eq_true rfl) d_V_about_84
      · skip
        refine lv_iconst (v := 1) hx hb d_V_about_79 (by decide) ?_
        refine lv_goto (tgt := 84) hx hb d_V_about_80 (by decide) ?_
        exact t_iret hx hb hr hlk zz_c hC (⟨a, hfa, by decide, by show some (Value.int 1) = some (Value.int (bI (fv a 6 ≠ 0))); simp [bI, c76], rfl⟩) (Nat.le_of_ble_eq_true rfl) (Nat.le_of_ble_eq_true rfl) d_V_about_84
    · refine lv_tableIn (off := 78) (tgt := 85) hx hb d_V_about_7 (by decide) (by decide) (by decide) (by decide) ?_
      refine lv_aload_n hx hb d_V_about_85 rfl (lv_at hl 0 rfl) ?_
      refine t_getP hx hb hts inN hown hC ha rfl 8 (by decide) (hts _ w_252) (fun _ h => h) d_V_about_86 ?_
      exact t_iret hx hb hr hlk zz_c hC (⟨a, hfa, by decide, rfl, rfl⟩) (Nat.le_of_ble_eq_true rfl) (Nat.le_of_ble_eq_true rfl) d_V_about_89
    · refine lv_tableIn (off := 83) (tgt := 90) hx hb d_V_about_7 (by decide) (by decide) (by decide) (by decide) ?_
      refine lv_aload_n hx hb d_V_about_90 rfl (lv_at hl 0 rfl) ?_
      refine t_getP hx hb hts inN hown hC ha rfl 10 (by decide) (hts _ w_257) (fun _ h => h) d_V_about_91 ?_
      exact t_iret hx hb hr hlk zz_c hC (⟨a, hfa, by decide, rfl, rfl⟩) (Nat.le_of_ble_eq_true rfl) (Nat.le_of_ble_eq_true rfl) d_V_about_94
    · refine lv_tableIn (off := 88) (tgt := 95) hx hb d_V_about_7 (by decide) (by decide) (by decide) (by decide) ?_
      refine lv_aload_n hx hb d_V_about_95 rfl (lv_at hl 0 rfl) ?_
      refine lv_aload_n hx hb d_V_about_96 rfl (lv_at hl 1 rfl) ?_
      refine t_get (v := .int day) hx hb hts inV hown hC 0 rfl rfl 3 (by decide) (hts _ w_100) (fun _ h => h) rfl d_V_about_97 ?_
      refine t_call (t_invV (As := [.int day]) (rest := []) hx hb hown (hts _ w_553) (hts _ w_554) (hts _ w_555) (hts _ w_556) ⟨by decide, by decide⟩ (t_recvP hC ha rfl rfl) rfl d_V_about_100) (c_N_isGuarded zz_c ha) zz_c tb_good hts w_13 hC (hl.1.trans hml.symm) ⟨Nat.le_of_ble_eq_true rfl, Nat.le_of_ble_eq_true rfl, Nat.le_of_ble_eq_true rfl, Nat.le_of_ble_eq_true rfl⟩ (Nat.le_of_ble_eq_true rfl) (fun E q ce w1 H1 l1 hp => hp.elim) (fun v w1 H locs hp hC => ?_)
      obtain ⟨rfl, hwe9⟩ := hp
      rw [hwe9] at hC
      have hC : tC D cls (ty0 ca) A (zz e0 A) s (wC K ca RL LP fv FR day ever mo (nI vs.length) ea wr ch ring (eo ++ rest)) H locs := hC
      refine W.eq (g2 := F0 m 103 ls [.int (bI (fv a 10 ≠ 0 ∨ day < fv a 8))]) rfl ?_
      refine lv_if_eq (tgt := 110) hx hb d_V_about_103 (by decide) (fun c103 => ?_) (fun c103 => ?_)
      · skip
        refine lv_iconst (v := 0) hx hb d_V_about_110 (by decide) ?_
        exact t_iret hx hb hr hlk zz_c hC (⟨a, hfa, by decide, by show some (Value.int 0) = some (Value.int (bI (fv a 10 ≠ 0 ∨ day < fv a 8))); rcases bI_01 (q := fv a 10 ≠ 0 ∨ day < fv a 8) with h | h <;> simp_all, rfl⟩) (Nat.le_of_ble_eq_true rfl) (Nat.le_of_ble_eq_true rfl) d_V_about_111
      · skip
        refine lv_iconst (v := 1) hx hb d_V_about_106 (by decide) ?_
        refine lv_goto (tgt := 111) hx hb d_V_about_107 (by decide) ?_
        exact t_iret hx hb hr hlk zz_c hC (⟨a, hfa, by decide, by show some (Value.int 1) = some (Value.int (bI (fv a 10 ≠ 0 ∨ day < fv a 8))); rcases bI_01 (q := fv a 10 ≠ 0 ∨ day < fv a 8) with h | h <;> simp_all, rfl⟩) (Nat.le_of_ble_eq_true rfl) (Nat.le_of_ble_eq_true rfl) d_V_about_111
    · refine lv_tableOut (tgt := 112) hx hb d_V_about_7 hsw (by decide) ?_
      exact t_throw (by9 := prog_10_method_2_code) (ix := 7) (Y9 := "java/lang/RuntimeException") (r9 := ["java/lang/Exception"]) (text := "what is not 0 .. 7") hx hb hst (by decide +kernel) (by decide +kernel) (by decide +kernel) (by decide +kernel) hown tb_good hts (by decide) (by decide) (by decide) w_133 w_11 (zz_str hC.2.2.2.2.2 (by decide +kernel)) at_IAE zz_c zz_X4 hC (hl.1.trans hml.symm) hex hlk d_V_about_112 d_V_about_115 d_V_about_116 d_V_about_118 d_V_about_121 ⟨Nat.le_of_ble_eq_true rfl, Nat.le_of_ble_eq_true rfl, Nat.le_of_ble_eq_true rfl, Nat.le_of_ble_eq_true rfl⟩ (Nat.le_of_ble_eq_true rfl) (Nat.le_of_ble_eq_true rfl) (⟨rfl, Or.inr ⟨rfl, ⟨a, hfa⟩, hsw⟩⟩)

theorem en_in {x what : Int32} (h : bI (0 ≤ what ∧ what ≤ 3) ≠ 0) : vp_in ((x &&& 63) * 4 + what) 256 := by
  have h1 : 0 ≤ what ∧ what ≤ 3 := Classical.not_not.mp (fun q => h (bI_ne.mpr q))
  obtain ⟨j, hj, e1⟩ := pk_andE x (m := 63) 6 (by decide)
  obtain ⟨q, hq, e2⟩ := nI_of2 (x := what) (M := 3) (n := 3) (by decide) (Int32.not_lt.mpr h1.1) h1.2
  rw [e1, e2, show (4 : Int32) = nI 4 from rfl, pk_mul, nI_add]
  exact vp_in_nI (by omega) (by decide)

set_option maxRecDepth 100000 in
set_option maxHeartbeats 4000000 in
theorem c_V_entry {l : Launch} (hst : l.stackTraces = false) {D : va_G} {A : Nat → Prop} {e0 : Nat → Nat} {K : Nat → Nat} {ca : Nat → ClassId} {RL LP : List Nat} {fv FR : Nat → RW} {day ever mo : Int32} {ea : Nat} {wr : Int32} {ch : Int64} {ring : Nat → Int32} {rest : va_W} {vs : List Nat} {eo : va_W} (hI : cI e0 ca vs LP ea eo) {k what : Int32} : tM l y_V_entry tb ({ frames := 7, cells := 2, slots := 12, locals := 110 }) D cls (ty0 ca) A (zz e0 A) [.ref (K 0), .int k, .int what] (wC K ca RL LP fv FR day ever mo (nI vs.length) ea wr ch ring (eo ++ rest)) (fun v w2 => (0 ≤ what ∧ what ≤ 3) ∧ (0 ≤ k ∧ k < 64 ∧ k < wr) ∧ v = some (.int (ring (((wr - 1 - k) &&& 63) * 4 + what).toNatClampNeg)) ∧ w2 = wC K ca RL LP fv FR day ever mo (nI vs.length) ea wr ch ring (eo ++ rest)) (fun E w2 => w2 = wC K ca RL LP fv FR day ever mo (nI vs.length) ea wr ch ring (eo ++ rest) ∧ ((E = "java/lang/IllegalArgumentException" ∧ ¬ (0 ≤ what ∧ what ≤ 3)) ∨ (E = "java/lang/IndexOutOfBoundsException" ∧ (0 ≤ what ∧ what ≤ 3) ∧ ¬ (0 ≤ k ∧ k < 64 ∧ k < wr)))) := by
  refine t_ofW (by decide) w_589 (Nat.le_of_ble_eq_true rfl) ?_
  intro p e s m below meth c ls hx hb hr hts hown hlk hnm hml hex hl hC
  have hown : s.vm.findClass "RetentionVault" = some m.cls := hown
  have hl : lv_has ls 3 [(0, .ref (K 0)), (1, .int k), (2, .int what)] := hl
  obtain ⟨hLR, hvL, hnd, h40⟩ := hI
  refine lv_iload_n hx hb d_V_entry_0 rfl (lv_at hl 2 rfl) ?_
  refine lv_iconst (v := 0) hx hb d_V_entry_1 (by decide) ?_
  refine lv_iconst (v := 3) hx hb d_V_entry_2 (by decide) ?_
  refine t_call (t_invS (As := [.int what, .int 0, .int 3]) (rest := []) hx hb hown (hts _ w_127) (hts _ w_128) (hts _ w_1) (hts _ w_129) ⟨by decide, by decide⟩ rfl d_V_entry_3) (c_V_isWithin zz_c) zz_c tb_good hts w_1 hC (hl.1.trans hml.symm) ⟨Nat.le_of_ble_eq_true rfl, Nat.le_of_ble_eq_true rfl, Nat.le_of_ble_eq_true rfl, Nat.le_of_ble_eq_true rfl⟩ (Nat.le_of_ble_eq_true rfl) (fun E q ce w1 H1 l1 hp => hp.elim) (fun v w1 H locs hp hC => ?_)
  obtain ⟨rfl, hwe9⟩ := hp
  rw [hwe9] at hC
  have hC : tC D cls (ty0 ca) A (zz e0 A) s (wC K ca RL LP fv FR day ever mo (nI vs.length) ea wr ch ring (eo ++ rest)) H locs := hC
  refine W.eq (g2 := F0 m 6 ls [.int (bI (0 ≤ what ∧ what ≤ 3))]) rfl ?_
  refine t_call (t_invS (As := [.int (bI (0 ≤ what ∧ what ≤ 3))]) (rest := []) hx hb hown (hts _ w_130) (hts _ w_131) (hts _ w_1) (hts _ w_132) ⟨by decide, by decide⟩ rfl d_V_entry_6) (c_V_demand hst) zz_c tb_good hts w_1 hC (hl.1.trans hml.symm) ⟨Nat.le_of_ble_eq_true rfl, Nat.le_of_ble_eq_true rfl, Nat.le_of_ble_eq_true rfl, Nat.le_of_ble_eq_true rfl⟩ (Nat.le_of_ble_eq_true rfl) (fun E q9 ce w1 H locs hp hC hce hcv hcl => ?_) (fun v w1 H locs hp hC => ?_)
  · skip
    obtain ⟨rfl, hwe9, hdem⟩ := hp
    rw [hwe9] at hC
    have hC : tC D cls (ty0 ca) A (zz e0 A) s (wC K ca RL LP fv FR day ever mo (nI vs.length) ea wr ch ring (eo ++ rest)) H locs := hC
    exact t_out (fun x h => (hex x h).elim) hlk zz_c hC hce hcv hcl (⟨rfl, Or.inl ⟨rfl, bI_ne.mp hdem⟩⟩) (Nat.le_of_ble_eq_true rfl) (Nat.le_of_ble_eq_true rfl)
  · skip
    obtain ⟨rfl, hwe9, hdem⟩ := hp
    rw [hwe9] at hC
    have hC : tC D cls (ty0 ca) A (zz e0 A) s (wC K ca RL LP fv FR day ever mo (nI vs.length) ea wr ch ring (eo ++ rest)) H locs := hC
    refine W.eq (g2 := F0 m 9 ls []) rfl ?_
    refine lv_aload_n hx hb d_V_entry_9 rfl (lv_at hl 0 rfl) ?_
    refine t_get (v := .ref (K 3)) hx hb hts inV hown hC 0 rfl rfl 2 (by decide) (hts _ w_99) (fun _ h => h) rfl d_V_entry_10 ?_
    refine lv_iload_n hx hb d_V_entry_13 rfl (lv_at hl 1 rfl) ?_
    refine t_call (t_invV (As := [.int k]) (rest := []) hx hb hown (hts _ w_590) (hts _ w_591) (hts _ w_592) (hts _ w_593) ⟨by decide, by decide⟩ (t_recv (q0 := 3) hC rfl rfl) rfl d_V_entry_14) c_G_keeps zz_c tb_good hts w_6 hC (hl.1.trans hml.symm) ⟨Nat.le_of_ble_eq_true rfl, Nat.le_of_ble_eq_true rfl, Nat.le_of_ble_eq_true rfl, Nat.le_of_ble_eq_true rfl⟩ (Nat.le_of_ble_eq_true rfl) (fun E q ce w1 H1 l1 hp => hp.elim) (fun v w1 H locs hp hC => ?_)
    obtain ⟨rfl, hwe9⟩ := hp
    rw [hwe9] at hC
    have hC : tC D cls (ty0 ca) A (zz e0 A) s (wC K ca RL LP fv FR day ever mo (nI vs.length) ea wr ch ring (eo ++ rest)) H locs := hC
    refine W.eq (g2 := F0 m 17 ls [.int (bI (0 ≤ k ∧ k < 64 ∧ k < wr))]) rfl ?_
    refine lv_if_ne (tgt := 30) hx hb d_V_entry_17 (by decide) (fun c17 => ?_) (fun c17 => ?_)
    · skip
      refine lv_aload_n hx hb d_V_entry_30 rfl (lv_at hl 0 rfl) ?_
      refine t_get (v := .ref (K 3)) hx hb hts inV hown hC 0 rfl rfl 2 (by decide) (hts _ w_99) (fun _ h => h) rfl d_V_entry_31 ?_
      refine lv_iload_n hx hb d_V_entry_34 rfl (lv_at hl 1 rfl) ?_
      refine lv_iload_n hx hb d_V_entry_35 rfl (lv_at hl 2 rfl) ?_
      refine t_call (t_invV (As := [.int k, .int what]) (rest := []) hx hb hown (hts _ w_610) (hts _ w_611) (hts _ w_612) (hts _ w_613) ⟨by decide, by decide⟩ (t_recv (q0 := 3) hC rfl rfl) rfl d_V_entry_36) (c_G_numberOf (en_in hdem)) zz_c tb_good hts w_6 hC (hl.1.trans hml.symm) ⟨Nat.le_of_ble_eq_true rfl, Nat.le_of_ble_eq_true rfl, Nat.le_of_ble_eq_true rfl, Nat.le_of_ble_eq_true rfl⟩ (Nat.le_of_ble_eq_true rfl) (fun E q ce w1 H1 l1 hp => hp.elim) (fun v w1 H locs hp hC => ?_)
      obtain ⟨rfl, hwe9⟩ := hp
      rw [hwe9] at hC
      have hC : tC D cls (ty0 ca) A (zz e0 A) s (wC K ca RL LP fv FR day ever mo (nI vs.length) ea wr ch ring (eo ++ rest)) H locs := hC
      refine W.eq (g2 := F0 m 39 ls [.int (ring (((wr - 1 - k) &&& 63) * 4 + what).toNatClampNeg)]) rfl ?_
      exact t_iret hx hb hr hlk zz_c hC (⟨Classical.not_not.mp (fun q => hdem (bI_ne.mpr q)), Classical.not_not.mp (fun q => c17 (bI_ne.mpr q)), rfl, rfl⟩) (Nat.le_of_ble_eq_true rfl) (Nat.le_of_ble_eq_true rfl) d_V_entry_39
    · skip
      exact t_throw (by9 := prog_12_method_2_code) (ix := 7) (Y9 := "java/lang/RuntimeException") (r9 := ["java/lang/Exception"]) (text := "there is no such entry, or none any more") hx hb hst (by decide +kernel) (by decide +kernel) (by decide +kernel) (by decide +kernel) hown tb_good hts (by decide) (by decide) (by decide) w_594 w_21 (zz_str hC.2.2.2.2.2 (by decide +kernel)) at_IOB zz_c zz_X4 hC (hl.1.trans hml.symm) hex hlk d_V_entry_20 d_V_entry_23 d_V_entry_24 d_V_entry_26 d_V_entry_29 ⟨Nat.le_of_ble_eq_true rfl, Nat.le_of_ble_eq_true rfl, Nat.le_of_ble_eq_true rfl, Nat.le_of_ble_eq_true rfl⟩ (Nat.le_of_ble_eq_true rfl) (Nat.le_of_ble_eq_true rfl) (⟨rfl, Or.inr ⟨rfl, Classical.not_not.mp (fun q => hdem (bI_ne.mpr q)), bI_ne.mp c17⟩⟩)

set_option maxRecDepth 100000 in
set_option maxHeartbeats 4000000 in
theorem c_V_link {l : Launch} {D : va_G} {A : Nat → Prop} {e0 : Nat → Nat} {K : Nat → Nat} {ca : Nat → ClassId} {RL LP : List Nat} {fv FR : Nat → RW} {day ever mo : Int32} {ea : Nat} {wr : Int32} {ch : Int64} {ring : Nat → Int32} {rest : va_W} {vs : List Nat} {eo : va_W} (hI : cI e0 ca vs LP ea eo) : tM l y_V_link tb ({ frames := 0, cells := 0, slots := 0, locals := 0 }) D cls (ty0 ca) A (zz e0 A) [.ref (K 0)] (wC K ca RL LP fv FR day ever mo (nI vs.length) ea wr ch ring (eo ++ rest)) (fun v w2 => v = some (.long ch) ∧ w2 = wC K ca RL LP fv FR day ever mo (nI vs.length) ea wr ch ring (eo ++ rest)) (xN) := by
  refine t_ofW (by decide) w_116 (Nat.le_of_ble_eq_true rfl) ?_
  intro p e s m below meth c ls hx hb hr hts hown hlk hnm hml hex hl hC
  have hown : s.vm.findClass "RetentionVault" = some m.cls := hown
  have hl : lv_has ls 1 [(0, .ref (K 0))] := hl
  obtain ⟨hLR, hvL, hnd, h40⟩ := hI
  refine lv_aload_n hx hb d_V_link_0 rfl (lv_at hl 0 rfl) ?_
  refine t_get (v := .ref (K 3)) hx hb hts inV hown hC 0 rfl rfl 2 (by decide) (hts _ w_99) (fun _ h => h) rfl d_V_link_1 ?_
  refine t_get (v := .long ch) hx hb hts inG hown hC 3 rfl rfl 2 (by decide) (hts _ w_88) (fun _ h => h) rfl d_V_link_4 ?_
  exact t_lret hx hb hr hlk zz_c hC (⟨rfl, rfl⟩) (Nat.le_of_ble_eq_true rfl) (Nat.le_of_ble_eq_true rfl) d_V_link_7
