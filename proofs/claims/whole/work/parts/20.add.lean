/-! The vault: add and takeAway. Laid by program (wip/whole/p20.py) -/
theorem lt_bind_none {vs : List Nat} {fv : Nat → RW} {key : Int32} (h : (rw_latest (vs.map fv) key).bind (fun i => vs[i]?) = none) : rw_latest (vs.map fv) key = none := by
  cases e : rw_latest (vs.map fv) key with
  | none => rfl
  | some i =>
    rw [e] at h
    have hl := (rw_last_some.mp e).1
    rw [List.length_map] at hl
    have h2 : vs[i]? = none := h
    rw [List.getElem?_eq_getElem hl] at h2
    cases h2
theorem lt_bind_some {vs : List Nat} {fv : Nat → RW} {key : Int32} {o : Nat} (h : (rw_latest (vs.map fv) key).bind (fun i => vs[i]?) = some o) : ∃ i, rw_latest (vs.map fv) key = some i ∧ vs[i]? = some o := by
  cases e : rw_latest (vs.map fv) key with
  | none => rw [e] at h; cases h
  | some i => rw [e] at h; exact ⟨i, rfl, h⟩
theorem map_up {vs : List Nat} {fv : Nat → RW} {i o : Nat} {r : RW} (hnd : vs.Nodup) (hi : vs[i]? = some o) : vs.map (va_up fv o r) = (vs.map fv).set i r := by
  apply List.ext_getElem?
  intro j
  rw [List.getElem?_map, List.getElem?_set]
  by_cases e : i = j
  · subst e
    have hl := (List.getElem?_eq_some_iff.mp hi).1
    rw [if_pos rfl, if_pos (by rw [List.length_map]; exact hl), hi]
    simp [va_up]
  · rw [if_neg e, List.getElem?_map]
    cases h : vs[j]? with
    | none => rfl
    | some b =>
      have hne : b ≠ o := fun q => e (nd_inj hnd hi (by rw [h, q]))
      simp [va_up, hne]
theorem map_out {vs : List Nat} {fv : Nat → RW} {o : Nat} {r : RW} (h : o ∉ vs) : vs.map (va_up fv o r) = vs.map fv := by
  apply List.map_congr_left
  intro b hb
  have hne : b ≠ o := fun q => h (q ▸ hb)
  simp [va_up, hne]
theorem old_none {vs : List Nat} {fv : Nat → RW} {day key : Int32} (h : (rw_latest (vs.map fv) key).bind (fun i => vs[i]?) = none) : vs.map fv = rw_old (vs.map fv) day key := by
  unfold rw_old
  rw [lt_bind_none h]
theorem old_some {vs : List Nat} {fv : Nat → RW} {day key : Int32} {o : Nat} (hnd : vs.Nodup) (h : (rw_latest (vs.map fv) key).bind (fun i => vs[i]?) = some o) : vs.map (va_up fv o (upd (upd (fv o) 6 0) 7 day)) = rw_old (vs.map fv) day key := by
  obtain ⟨i, h1, h2⟩ := lt_bind_some h
  unfold rw_old
  rw [h1, map_up hnd h2]
  show _ = (vs.map fv).set i _
  rw [rw_at_map h2]
theorem new_none {vs : List Nat} {fv : Nat → RW} {key : Int32} (h : (rw_latest (vs.map fv) key).bind (fun i => vs[i]?) = none) : vs.map fv = rw_new (vs.map fv) key := by
  unfold rw_new
  rw [lt_bind_none h]
theorem new_some {vs : List Nat} {fv : Nat → RW} {key : Int32} {o : Nat} (hnd : vs.Nodup) (h : (rw_latest (vs.map fv) key).bind (fun i => vs[i]?) = some o) : vs.map (va_up fv o (upd (fv o) 6 1)) = rw_new (vs.map fv) key := by
  obtain ⟨i, h1, h2⟩ := lt_bind_some h
  unfold rw_new
  rw [h1, map_up hnd h2]
  show _ = (vs.map fv).set i _
  rw [rw_at_map h2]
theorem lt_vs {vs : List Nat} {r : Option Nat} {o : Nat} (h : r.bind (fun i => vs[i]?) = some o) : o ∈ vs := by
  cases r with
  | none => cases h
  | some i => exact List.mem_of_getElem? (show vs[i]? = some o from h)
theorem map_erase {vs : List Nat} {fv : Nat → RW} {i : Nat} : (vs.eraseIdx i).map fv = (vs.map fv).eraseIdx i := by
  apply List.ext_getElem?
  intro j
  rw [List.getElem?_map, List.getElem?_eraseIdx, List.getElem?_eraseIdx]
  split <;> rw [List.getElem?_map]
theorem erase_not {vs : List Nat} (hnd : vs.Nodup) {i a : Nat} (hi : vs[i]? = some a) : a ∉ vs.eraseIdx i := by
  intro h
  obtain ⟨j, hj⟩ := List.getElem?_of_mem h
  rw [List.getElem?_eraseIdx] at hj
  split at hj
  · have := nd_inj hnd hi hj; omega
  · have := nd_inj hnd hi hj; omega
/-- a world of the vault: its list vs, its rows, its log; all older versions still pooled, and those outside the list as they were -/
def cQ (e0 : Nat → Nat) (K : Nat → Nat) (ca : Nat → ClassId) (RL : List Nat) (FR : Nat → RW) (rest : va_W) (LP : List Nat) (fv : Nat → RW) (day ever : Int32) (L : LG) (rows : List RW) (vs : List Nat) (w : va_W) : Prop :=
  ∃ (LP2 : List Nat) (fv2 : Nat → RW) (mo2 : Int32) (ea2 : Nat) (eo2 : va_W), cI e0 ca vs LP2 ea2 eo2 ∧ vs.map fv2 = rows ∧ (∀ b ∈ LP, b ∈ LP2 ∧ (b ∉ vs → fv2 b = fv b)) ∧ w = wC K ca RL LP2 fv2 FR day ever mo2 (nI vs.length) ea2 (nI L.2.1) L.2.2 L.1 (eo2 ++ rest)

set_option maxRecDepth 100000 in
set_option maxHeartbeats 4000000 in
theorem c_V_add {l : Launch} {D : va_G} {A : Nat → Prop} {e0 : Nat → Nat} {K : Nat → Nat} {ca : Nat → ClassId} {RL LP : List Nat} {fv FR : Nat → RW} {day ever mo : Int32} {ea : Nat} {ch : Int64} {ring : Nat → Int32} {rest : va_W} {vs : List Nat} {eo : va_W} (hI : cI e0 ca vs LP ea eo) {w9 : Nat} (hw9 : w9 < 2 ^ 31) {a : Nat} (ha : a ∈ LP) (hav0 : a ∉ vs) (hroom : vs.length < 40) : tM l y_V_add tb ({ frames := 7, cells := 1, slots := 60, locals := 171 }) D cls (ty0 ca) A (zz e0 A) [.ref (K 0), .ref a] (wC K ca RL LP fv FR day ever mo (nI vs.length) ea (nI w9) ch ring (eo ++ rest)) (fun v w2 => v = some (.int (fv a 0)) ∧ cQ e0 K ca RL FR rest LP fv day (ever + 1) (lg_wr (ring, w9, ch) day (if fv a 5 = -1 then 2 else 1) (fv a 0) (fv a 1)) (rw_add (vs.map fv) day (fv a)) (vs ++ [a]) w2) (xN) := by
  refine t_ofW (by decide) w_296 (Nat.le_of_ble_eq_true rfl) ?_
  intro p e s m below meth c ls hx hb hr hts hown hlk hnm hml hex hl hC
  have hown : s.vm.findClass "RetentionVault" = some m.cls := hown
  have hl : lv_has ls 3 [(0, .ref (K 0)), (1, .ref a)] := hl
  obtain ⟨hLR, hvL, hnd, h40⟩ := hI
  refine lv_aload_n hx hb d_V_add_0 rfl (lv_at hl 0 rfl) ?_
  refine lv_aload_n hx hb d_V_add_1 rfl (lv_at hl 1 rfl) ?_
  refine t_getP hx hb hts inN hown hC ha rfl 1 (by decide) (hts _ w_239) (fun _ h => h) d_V_add_2 ?_
  refine t_call (t_invV (As := [.int (fv a 1)]) (rest := []) hx hb hown (hts _ w_297) (hts _ w_299) (hts _ s_V_latestOf) (hts _ w_300) ⟨by decide, by decide⟩ (t_recv (q0 := 0) hC rfl rfl) rfl d_V_add_5) (c_V_latestOf ⟨hLR, hvL, hnd, h40⟩) zz_c tb_good hts w_1 hC (hl.1.trans hml.symm) ⟨Nat.le_of_ble_eq_true rfl, Nat.le_of_ble_eq_true rfl, Nat.le_of_ble_eq_true rfl, Nat.le_of_ble_eq_true rfl⟩ (Nat.le_of_ble_eq_true rfl) (fun E q ce w1 H1 l1 hp => hp.elim) (fun v w1 H locs hp hC => ?_)
  obtain ⟨rfl, hwe9⟩ := hp
  rw [hwe9] at hC
  have hC : tC D cls (ty0 ca) A (zz e0 A) s (wC K ca RL LP fv FR day ever mo (nI vs.length) ea (nI w9) ch ring (eo ++ rest)) H locs := hC
  refine W.eq (g2 := F0 m 8 ls [va_rf ((rw_latest (vs.map fv) (fv a 1)).bind (fun i => vs[i]?))]) rfl ?_
  rcases op_two ((rw_latest (vs.map fv) (fv a 1)).bind (fun i => vs[i]?)) with hlt | ⟨o, hlt⟩
  · refine W.eq (g2 := F0 m 8 ls [.null]) (by rw [hlt]; rfl) ?_
    refine lv_astore_nN (lv' := [(2, .null), (0, .ref (K 0)), (1, .ref a)]) hx hb d_V_add_8 rfl hl (by decide) rfl (fun ls hl => ?_)
    refine lv_aload_nN hx hb d_V_add_9 rfl (lv_at hl 0 rfl) ?_
    refine lv_ifnullN (tgt := 26) hx hb d_V_add_10 (by decide) ?_
    have hmap : vs.map fv = rw_old (vs.map fv) day (fv a 1) := old_none hlt
    obtain ⟨fv2, hf2⟩ : ∃ z, z = fv := ⟨_, rfl⟩
    have hout : ∀ b, b ∉ vs → fv2 b = fv b := fun b _ => by rw [hf2]
    have hmap : vs.map fv2 = rw_old (vs.map fv) day (fv a 1) := by rw [hf2]; exact hmap
    have hC : tC D cls (ty0 ca) A (zz e0 A) s (wC K ca RL LP fv2 FR day ever mo (nI vs.length) ea (nI w9) ch ring (eo ++ rest)) H locs := by rw [hf2]; exact hC
    have hfa : fv2 a = fv a := hout a hav0
    refine lv_aload_n hx hb d_V_add_26 rfl (lv_at hl 1 rfl) ?_
    refine t_get (v := .ref (K 1)) hx hb hts inV hown hC 0 rfl rfl 0 (by decide) (hts _ w_97) (fun _ h => h) rfl d_V_add_27 ?_
    refine lv_aload_n hx hb d_V_add_30 rfl (lv_at hl 2 rfl) ?_
    refine t_call (t_invV (As := [.ref a]) (rest := []) hx hb hown (hts _ w_315) (hts _ w_316) (hts _ w_317) (hts _ w_318) ⟨by decide, by decide⟩ (t_recv (q0 := 1) hC rfl rfl) rfl d_V_add_31) (c_A_add0 hLR hvL hroom ha) zz_c tb_good hts w_4 hC (hl.1.trans hml.symm) ⟨Nat.le_of_ble_eq_true rfl, Nat.le_of_ble_eq_true rfl, Nat.le_of_ble_eq_true rfl, Nat.le_of_ble_eq_true rfl⟩ (Nat.le_of_ble_eq_true rfl) (fun E q ce w1 H1 l1 hp => hp.elim) (fun v w1 H locs hp hC => ?_)
    obtain ⟨rfl, ea2, eo2, hLR2, hwe9⟩ := hp
    rw [hwe9] at hC
    have hC : tC D cls (ty0 ca) A (zz e0 A) s (wC K ca RL LP fv2 FR day ever (mo + 1) (nI (vs.length + 1)) ea2 (nI w9) ch ring (eo2 ++ rest)) H locs := hC
    refine W.eq (g2 := F0 m 34 ls [.int 1]) rfl ?_
    refine lv_pop hx hb d_V_add_34 rfl ?_
    refine lv_aload_n hx hb d_V_add_35 rfl (lv_at hl 1 rfl) ?_
    refine lv_dup hx hb d_V_add_36 rfl ?_
    refine t_get (v := .int ever) hx hb hts inV hown hC 0 rfl rfl 4 (by decide) (hts _ w_101) (fun _ h => h) rfl d_V_add_37 ?_
    refine lv_iconst (v := 1) hx hb d_V_add_40 (by decide) ?_
    refine lv_iadd hx hb d_V_add_41 ?_
    refine t_put (ty := .int) (v := .int (ever + 1)) hx hb hts inV TV tyV nmV hown hC 0 rfl rfl 4 (by decide) (hts _ w_101) (fun _ h => h) rfl (by decide +kernel) rfl rfl (Nat.le_of_ble_eq_true rfl) d_V_add_42 (fun H locs hC => ?_)
    have hC : tC D cls (ty0 ca) A (zz e0 A) s (wC K ca RL LP fv2 FR day (ever + 1) (mo + 1) (nI (vs.length + 1)) ea2 (nI w9) ch ring (eo2 ++ rest)) H locs := hC
    refine lv_aload_n hx hb d_V_add_45 rfl (lv_at hl 1 rfl) ?_
    refine t_get (v := .ref (K 3)) hx hb hts inV hown hC 0 rfl rfl 2 (by decide) (hts _ w_99) (fun _ h => h) rfl d_V_add_46 ?_
    refine lv_aload_n hx hb d_V_add_49 rfl (lv_at hl 1 rfl) ?_
    refine t_get (v := .int day) hx hb hts inV hown hC 0 rfl rfl 3 (by decide) (hts _ w_100) (fun _ h => h) rfl d_V_add_50 ?_
    refine lv_aload_n hx hb d_V_add_53 rfl (lv_at hl 2 rfl) ?_
    refine t_call (t_invV (As := []) (rest := [.int day, .ref (K 3)]) hx hb hown (hts _ w_372) (hts _ w_373) (hts _ w_374) (hts _ w_375) ⟨by decide, by decide⟩ (t_recvP hC ha rfl rfl) rfl d_V_add_54) (c_N_isMarker zz_c ha) zz_c tb_good hts w_13 hC (hl.1.trans hml.symm) ⟨Nat.le_of_ble_eq_true rfl, Nat.le_of_ble_eq_true rfl, Nat.le_of_ble_eq_true rfl, Nat.le_of_ble_eq_true rfl⟩ (Nat.le_of_ble_eq_true rfl) (fun E q ce w1 H1 l1 hp => hp.elim) (fun v w1 H locs hp hC => ?_)
    obtain ⟨rfl, hwe9⟩ := hp
    rw [hwe9] at hC
    have hC : tC D cls (ty0 ca) A (zz e0 A) s (wC K ca RL LP fv2 FR day (ever + 1) (mo + 1) (nI (vs.length + 1)) ea2 (nI w9) ch ring (eo2 ++ rest)) H locs := hC
    refine W.eq (g2 := F0 m 57 ls [.int (bI (fv2 a 5 = -1)), .int day, .ref (K 3)]) rfl ?_
    refine lv_if_eq (tgt := 64) hx hb d_V_add_57 (by decide) (fun c57 => ?_) (fun c57 => ?_)
    · skip
      refine lv_iconst (v := 1) hx hb d_V_add_64 (by decide) ?_
      refine lv_aload_n hx hb d_V_add_65 rfl (lv_at hl 2 rfl) ?_
      refine t_getP hx hb hts inN hown hC ha rfl 0 (by decide) (hts _ w_237) (fun _ h => h) d_V_add_66 ?_
      refine lv_aload_n hx hb d_V_add_69 rfl (lv_at hl 2 rfl) ?_
      refine t_getP hx hb hts inN hown hC ha rfl 1 (by decide) (hts _ w_239) (fun _ h => h) d_V_add_70 ?_
      refine t_call (t_invV (As := [.int day, .int 1, .int (fv2 a 0), .int (fv2 a 1)]) (rest := []) hx hb hown (hts _ w_376) (hts _ w_377) (hts _ w_378) (hts _ w_379) ⟨by decide, by decide⟩ (t_recv (q0 := 3) hC rfl rfl) rfl d_V_add_73) (c_G_write hw9) zz_c tb_good hts w_6 hC (hl.1.trans hml.symm) ⟨Nat.le_of_ble_eq_true rfl, Nat.le_of_ble_eq_true rfl, Nat.le_of_ble_eq_true rfl, Nat.le_of_ble_eq_true rfl⟩ (Nat.le_of_ble_eq_true rfl) (fun E q ce w1 H1 l1 hp => hp.elim) (fun v w1 H locs hp hC => ?_)
      obtain ⟨rfl, rfl⟩ := hp
      have hC : tC D cls (ty0 ca) A (zz e0 A) s (wC K ca RL LP fv2 FR day (ever + 1) (mo + 1) (nI (vs.length + 1)) ea2 (nI (w9 + 1)) ((lg_wr (ring, w9, ch) day 1 (fv2 a 0) (fv2 a 1)).2.2) ((lg_wr (ring, w9, ch) day 1 (fv2 a 0) (fv2 a 1)).1) (eo2 ++ rest)) H locs := hC
      refine W.eq (g2 := F0 m 76 ls []) rfl ?_
      refine lv_aload_n hx hb d_V_add_76 rfl (lv_at hl 2 rfl) ?_
      refine t_getP hx hb hts inN hown hC ha rfl 0 (by decide) (hts _ w_237) (fun _ h => h) d_V_add_77 ?_
      exact t_iret hx hb hr hlk zz_c hC (⟨by rw [← hfa], LP, fv2, mo + 1, ea2, eo2, ⟨hLR2, fun b hb => (List.mem_append.mp hb).elim (hvL b) (fun h => by rw [List.mem_singleton.mp h]; exact ha), List.nodup_append.mpr ⟨hnd, by simp, fun x hx y hy => by rw [List.mem_singleton.mp hy]; exact fun h => hav0 (h ▸ hx)⟩, by rw [List.length_append, List.length_singleton]; omega⟩, by rw [List.map_append, hmap]; show rw_old (vs.map fv) day (fv a 1) ++ [fv2 a] = _; rw [hfa]; rfl, fun b hb => ⟨hb, fun hb2 => hout b (fun h => hb2 (List.mem_append_left _ h))⟩, by rw [hfa] at *; rw [if_neg (bI_ne.mp c57), List.length_append, List.length_singleton]; rfl⟩) (Nat.le_of_ble_eq_true rfl) (Nat.le_of_ble_eq_true rfl) d_V_add_80
    · skip
      refine lv_iconst (v := 2) hx hb d_V_add_60 (by decide) ?_
      refine lv_goto (tgt := 65) hx hb d_V_add_61 (by decide) ?_
      refine lv_aload_n hx hb d_V_add_65 rfl (lv_at hl 2 rfl) ?_
      refine t_getP hx hb hts inN hown hC ha rfl 0 (by decide) (hts _ w_237) (fun _ h => h) d_V_add_66 ?_
      refine lv_aload_n hx hb d_V_add_69 rfl (lv_at hl 2 rfl) ?_
      refine t_getP hx hb hts inN hown hC ha rfl 1 (by decide) (hts _ w_239) (fun _ h => h) d_V_add_70 ?_
      refine t_call (t_invV (As := [.int day, .int 2, .int (fv2 a 0), .int (fv2 a 1)]) (rest := []) hx hb hown (hts _ w_376) (hts _ w_377) (hts _ w_378) (hts _ w_379) ⟨by decide, by decide⟩ (t_recv (q0 := 3) hC rfl rfl) rfl d_V_add_73) (c_G_write hw9) zz_c tb_good hts w_6 hC (hl.1.trans hml.symm) ⟨Nat.le_of_ble_eq_true rfl, Nat.le_of_ble_eq_true rfl, Nat.le_of_ble_eq_true rfl, Nat.le_of_ble_eq_true rfl⟩ (Nat.le_of_ble_eq_true rfl) (fun E q ce w1 H1 l1 hp => hp.elim) (fun v w1 H locs hp hC => ?_)
      obtain ⟨rfl, rfl⟩ := hp
      have hC : tC D cls (ty0 ca) A (zz e0 A) s (wC K ca RL LP fv2 FR day (ever + 1) (mo + 1) (nI (vs.length + 1)) ea2 (nI (w9 + 1)) ((lg_wr (ring, w9, ch) day 2 (fv2 a 0) (fv2 a 1)).2.2) ((lg_wr (ring, w9, ch) day 2 (fv2 a 0) (fv2 a 1)).1) (eo2 ++ rest)) H locs := hC
      refine W.eq (g2 := F0 m 76 ls []) rfl ?_
      refine lv_aload_n hx hb d_V_add_76 rfl (lv_at hl 2 rfl) ?_
      refine t_getP hx hb hts inN hown hC ha rfl 0 (by decide) (hts _ w_237) (fun _ h => h) d_V_add_77 ?_
      exact t_iret hx hb hr hlk zz_c hC (⟨by rw [← hfa], LP, fv2, mo + 1, ea2, eo2, ⟨hLR2, fun b hb => (List.mem_append.mp hb).elim (hvL b) (fun h => by rw [List.mem_singleton.mp h]; exact ha), List.nodup_append.mpr ⟨hnd, by simp, fun x hx y hy => by rw [List.mem_singleton.mp hy]; exact fun h => hav0 (h ▸ hx)⟩, by rw [List.length_append, List.length_singleton]; omega⟩, by rw [List.map_append, hmap]; show rw_old (vs.map fv) day (fv a 1) ++ [fv2 a] = _; rw [hfa]; rfl, fun b hb => ⟨hb, fun hb2 => hout b (fun h => hb2 (List.mem_append_left _ h))⟩, by rw [hfa] at *; rw [if_pos (Classical.not_not.mp (fun q => c57 (bI_ne.mpr q))), List.length_append, List.length_singleton]; rfl⟩) (Nat.le_of_ble_eq_true rfl) (Nat.le_of_ble_eq_true rfl) d_V_add_80
  · have ho : o ∈ LP := lt_mem hvL hlt
    refine W.eq (g2 := F0 m 8 ls [.ref o]) (by rw [hlt]; rfl) ?_
    refine lv_astore_n (lv' := [(2, .ref o), (0, .ref (K 0)), (1, .ref a)]) hx hb d_V_add_8 rfl hl (by decide) rfl (fun ls hl => ?_)
    refine lv_aload_n hx hb d_V_add_9 rfl (lv_at hl 0 rfl) ?_
    refine lv_ifnull hx hb d_V_add_10 ?_
    refine lv_aload_n hx hb d_V_add_13 rfl (lv_at hl 0 rfl) ?_
    refine lv_iconst (v := 0) hx hb d_V_add_14 (by decide) ?_
    refine t_putP (ty := .boolean) hx hb hts inN TN tyN nmN hown hC ho rfl 6 (by decide) (hts _ w_249) (fun _ h => h) (Or.inl rfl) (by decide +kernel) (rfl) (rfl) d_V_add_15 (fun H locs hC => ?_)
    have hC : tC D cls (ty0 ca) A (zz e0 A) s (wC K ca RL LP (va_up fv o (upd (fv o) 6 0)) FR day ever mo (nI vs.length) ea (nI w9) ch ring (eo ++ rest)) H locs := hC
    refine lv_aload_n hx hb d_V_add_18 rfl (lv_at hl 0 rfl) ?_
    refine lv_aload_n hx hb d_V_add_19 rfl (lv_at hl 1 rfl) ?_
    refine t_get (v := .int day) hx hb hts inV hown hC 0 rfl rfl 3 (by decide) (hts _ w_100) (fun _ h => h) rfl d_V_add_20 ?_
    refine t_putP (ty := .int) hx hb hts inN TN tyN nmN hown hC ho rfl 7 (by decide) (hts _ w_251) (fun _ h => h) (Or.inl rfl) (by decide +kernel) rfl rfl d_V_add_23 (fun H locs hC => ?_)
    have hC : tC D cls (ty0 ca) A (zz e0 A) s (wC K ca RL LP (va_up (va_up fv o (upd (fv o) 6 0)) o (upd ((va_up fv o (upd (fv o) 6 0)) o) 7 day)) FR day ever mo (nI vs.length) ea (nI w9) ch ring (eo ++ rest)) H locs := hC
    have hmap : vs.map (va_up fv o (upd (upd (fv o) 6 0) 7 day)) = rw_old (vs.map fv) day (fv a 1) := old_some hnd hlt
    have hav : a ≠ o := fun h => hav0 (h ▸ lt_vs hlt)
    have hout : ∀ b, b ∉ vs → va_up fv o (upd (upd (fv o) 6 0) 7 day) b = fv b := fun b hb => by simp only [va_up]; rw [if_neg (fun h : b = o => hb (by rw [h]; exact lt_vs hlt))]
    have hC : tC D cls (ty0 ca) A (zz e0 A) s (wC K ca RL LP (va_up fv o (upd (upd (fv o) 6 0) 7 day)) FR day ever mo (nI vs.length) ea (nI w9) ch ring (eo ++ rest)) H locs := by simp only [up_twice, va_up_self] at hC; exact hC
    generalize hf2 : va_up fv o (upd (upd (fv o) 6 0) 7 day) = fv2 at hC hmap hout
    have hfa : fv2 a = fv a := hout a hav0
    refine lv_aload_n hx hb d_V_add_26 rfl (lv_at hl 1 rfl) ?_
    refine t_get (v := .ref (K 1)) hx hb hts inV hown hC 0 rfl rfl 0 (by decide) (hts _ w_97) (fun _ h => h) rfl d_V_add_27 ?_
    refine lv_aload_n hx hb d_V_add_30 rfl (lv_at hl 2 rfl) ?_
    refine t_call (t_invV (As := [.ref a]) (rest := []) hx hb hown (hts _ w_315) (hts _ w_316) (hts _ w_317) (hts _ w_318) ⟨by decide, by decide⟩ (t_recv (q0 := 1) hC rfl rfl) rfl d_V_add_31) (c_A_add0 hLR hvL hroom ha) zz_c tb_good hts w_4 hC (hl.1.trans hml.symm) ⟨Nat.le_of_ble_eq_true rfl, Nat.le_of_ble_eq_true rfl, Nat.le_of_ble_eq_true rfl, Nat.le_of_ble_eq_true rfl⟩ (Nat.le_of_ble_eq_true rfl) (fun E q ce w1 H1 l1 hp => hp.elim) (fun v w1 H locs hp hC => ?_)
    obtain ⟨rfl, ea2, eo2, hLR2, hwe9⟩ := hp
    rw [hwe9] at hC
    have hC : tC D cls (ty0 ca) A (zz e0 A) s (wC K ca RL LP fv2 FR day ever (mo + 1) (nI (vs.length + 1)) ea2 (nI w9) ch ring (eo2 ++ rest)) H locs := hC
    refine W.eq (g2 := F0 m 34 ls [.int 1]) rfl ?_
    refine lv_pop hx hb d_V_add_34 rfl ?_
    refine lv_aload_n hx hb d_V_add_35 rfl (lv_at hl 1 rfl) ?_
    refine lv_dup hx hb d_V_add_36 rfl ?_
    refine t_get (v := .int ever) hx hb hts inV hown hC 0 rfl rfl 4 (by decide) (hts _ w_101) (fun _ h => h) rfl d_V_add_37 ?_
    refine lv_iconst (v := 1) hx hb d_V_add_40 (by decide) ?_
    refine lv_iadd hx hb d_V_add_41 ?_
    refine t_put (ty := .int) (v := .int (ever + 1)) hx hb hts inV TV tyV nmV hown hC 0 rfl rfl 4 (by decide) (hts _ w_101) (fun _ h => h) rfl (by decide +kernel) rfl rfl (Nat.le_of_ble_eq_true rfl) d_V_add_42 (fun H locs hC => ?_)
    have hC : tC D cls (ty0 ca) A (zz e0 A) s (wC K ca RL LP fv2 FR day (ever + 1) (mo + 1) (nI (vs.length + 1)) ea2 (nI w9) ch ring (eo2 ++ rest)) H locs := hC
    refine lv_aload_n hx hb d_V_add_45 rfl (lv_at hl 1 rfl) ?_
    refine t_get (v := .ref (K 3)) hx hb hts inV hown hC 0 rfl rfl 2 (by decide) (hts _ w_99) (fun _ h => h) rfl d_V_add_46 ?_
    refine lv_aload_n hx hb d_V_add_49 rfl (lv_at hl 1 rfl) ?_
    refine t_get (v := .int day) hx hb hts inV hown hC 0 rfl rfl 3 (by decide) (hts _ w_100) (fun _ h => h) rfl d_V_add_50 ?_
    refine lv_aload_n hx hb d_V_add_53 rfl (lv_at hl 2 rfl) ?_
    refine t_call (t_invV (As := []) (rest := [.int day, .ref (K 3)]) hx hb hown (hts _ w_372) (hts _ w_373) (hts _ w_374) (hts _ w_375) ⟨by decide, by decide⟩ (t_recvP hC ha rfl rfl) rfl d_V_add_54) (c_N_isMarker zz_c ha) zz_c tb_good hts w_13 hC (hl.1.trans hml.symm) ⟨Nat.le_of_ble_eq_true rfl, Nat.le_of_ble_eq_true rfl, Nat.le_of_ble_eq_true rfl, Nat.le_of_ble_eq_true rfl⟩ (Nat.le_of_ble_eq_true rfl) (fun E q ce w1 H1 l1 hp => hp.elim) (fun v w1 H locs hp hC => ?_)
    obtain ⟨rfl, hwe9⟩ := hp
    rw [hwe9] at hC
    have hC : tC D cls (ty0 ca) A (zz e0 A) s (wC K ca RL LP fv2 FR day (ever + 1) (mo + 1) (nI (vs.length + 1)) ea2 (nI w9) ch ring (eo2 ++ rest)) H locs := hC
    refine W.eq (g2 := F0 m 57 ls [.int (bI (fv2 a 5 = -1)), .int day, .ref (K 3)]) rfl ?_
    refine lv_if_eq (tgt := 64) hx hb d_V_add_57 (by decide) (fun c57 => ?_) (fun c57 => ?_)
    · skip
      refine lv_iconst (v := 1) hx hb d_V_add_64 (by decide) ?_
      refine lv_aload_n hx hb d_V_add_65 rfl (lv_at hl 2 rfl) ?_
      refine t_getP hx hb hts inN hown hC ha rfl 0 (by decide) (hts _ w_237) (fun _ h => h) d_V_add_66 ?_
      refine lv_aload_n hx hb d_V_add_69 rfl (lv_at hl 2 rfl) ?_
      refine t_getP hx hb hts inN hown hC ha rfl 1 (by decide) (hts _ w_239) (fun _ h => h) d_V_add_70 ?_
      refine t_call (t_invV (As := [.int day, .int 1, .int (fv2 a 0), .int (fv2 a 1)]) (rest := []) hx hb hown (hts _ w_376) (hts _ w_377) (hts _ w_378) (hts _ w_379) ⟨by decide, by decide⟩ (t_recv (q0 := 3) hC rfl rfl) rfl d_V_add_73) (c_G_write hw9) zz_c tb_good hts w_6 hC (hl.1.trans hml.symm) ⟨Nat.le_of_ble_eq_true rfl, Nat.le_of_ble_eq_true rfl, Nat.le_of_ble_eq_true rfl, Nat.le_of_ble_eq_true rfl⟩ (Nat.le_of_ble_eq_true rfl) (fun E q ce w1 H1 l1 hp => hp.elim) (fun v w1 H locs hp hC => ?_)
      obtain ⟨rfl, rfl⟩ := hp
      have hC : tC D cls (ty0 ca) A (zz e0 A) s (wC K ca RL LP fv2 FR day (ever + 1) (mo + 1) (nI (vs.length + 1)) ea2 (nI (w9 + 1)) ((lg_wr (ring, w9, ch) day 1 (fv2 a 0) (fv2 a 1)).2.2) ((lg_wr (ring, w9, ch) day 1 (fv2 a 0) (fv2 a 1)).1) (eo2 ++ rest)) H locs := hC
      refine W.eq (g2 := F0 m 76 ls []) rfl ?_
      refine lv_aload_n hx hb d_V_add_76 rfl (lv_at hl 2 rfl) ?_
      refine t_getP hx hb hts inN hown hC ha rfl 0 (by decide) (hts _ w_237) (fun _ h => h) d_V_add_77 ?_
      exact t_iret hx hb hr hlk zz_c hC (⟨by rw [← hfa], LP, fv2, mo + 1, ea2, eo2, ⟨hLR2, fun b hb => (List.mem_append.mp hb).elim (hvL b) (fun h => by rw [List.mem_singleton.mp h]; exact ha), List.nodup_append.mpr ⟨hnd, by simp, fun x hx y hy => by rw [List.mem_singleton.mp hy]; exact fun h => hav0 (h ▸ hx)⟩, by rw [List.length_append, List.length_singleton]; omega⟩, by rw [List.map_append, hmap]; show rw_old (vs.map fv) day (fv a 1) ++ [fv2 a] = _; rw [hfa]; rfl, fun b hb => ⟨hb, fun hb2 => hout b (fun h => hb2 (List.mem_append_left _ h))⟩, by rw [hfa] at *; rw [if_neg (bI_ne.mp c57), List.length_append, List.length_singleton]; rfl⟩) (Nat.le_of_ble_eq_true rfl) (Nat.le_of_ble_eq_true rfl) d_V_add_80
    · skip
      refine lv_iconst (v := 2) hx hb d_V_add_60 (by decide) ?_
      refine lv_goto (tgt := 65) hx hb d_V_add_61 (by decide) ?_
      refine lv_aload_n hx hb d_V_add_65 rfl (lv_at hl 2 rfl) ?_
      refine t_getP hx hb hts inN hown hC ha rfl 0 (by decide) (hts _ w_237) (fun _ h => h) d_V_add_66 ?_
      refine lv_aload_n hx hb d_V_add_69 rfl (lv_at hl 2 rfl) ?_
      refine t_getP hx hb hts inN hown hC ha rfl 1 (by decide) (hts _ w_239) (fun _ h => h) d_V_add_70 ?_
      refine t_call (t_invV (As := [.int day, .int 2, .int (fv2 a 0), .int (fv2 a 1)]) (rest := []) hx hb hown (hts _ w_376) (hts _ w_377) (hts _ w_378) (hts _ w_379) ⟨by decide, by decide⟩ (t_recv (q0 := 3) hC rfl rfl) rfl d_V_add_73) (c_G_write hw9) zz_c tb_good hts w_6 hC (hl.1.trans hml.symm) ⟨Nat.le_of_ble_eq_true rfl, Nat.le_of_ble_eq_true rfl, Nat.le_of_ble_eq_true rfl, Nat.le_of_ble_eq_true rfl⟩ (Nat.le_of_ble_eq_true rfl) (fun E q ce w1 H1 l1 hp => hp.elim) (fun v w1 H locs hp hC => ?_)
      obtain ⟨rfl, rfl⟩ := hp
      have hC : tC D cls (ty0 ca) A (zz e0 A) s (wC K ca RL LP fv2 FR day (ever + 1) (mo + 1) (nI (vs.length + 1)) ea2 (nI (w9 + 1)) ((lg_wr (ring, w9, ch) day 2 (fv2 a 0) (fv2 a 1)).2.2) ((lg_wr (ring, w9, ch) day 2 (fv2 a 0) (fv2 a 1)).1) (eo2 ++ rest)) H locs := hC
      refine W.eq (g2 := F0 m 76 ls []) rfl ?_
      refine lv_aload_n hx hb d_V_add_76 rfl (lv_at hl 2 rfl) ?_
      refine t_getP hx hb hts inN hown hC ha rfl 0 (by decide) (hts _ w_237) (fun _ h => h) d_V_add_77 ?_
      exact t_iret hx hb hr hlk zz_c hC (⟨by rw [← hfa], LP, fv2, mo + 1, ea2, eo2, ⟨hLR2, fun b hb => (List.mem_append.mp hb).elim (hvL b) (fun h => by rw [List.mem_singleton.mp h]; exact ha), List.nodup_append.mpr ⟨hnd, by simp, fun x hx y hy => by rw [List.mem_singleton.mp hy]; exact fun h => hav0 (h ▸ hx)⟩, by rw [List.length_append, List.length_singleton]; omega⟩, by rw [List.map_append, hmap]; show rw_old (vs.map fv) day (fv a 1) ++ [fv2 a] = _; rw [hfa]; rfl, fun b hb => ⟨hb, fun hb2 => hout b (fun h => hb2 (List.mem_append_left _ h))⟩, by rw [hfa] at *; rw [if_pos (Classical.not_not.mp (fun q => c57 (bI_ne.mpr q))), List.length_append, List.length_singleton]; rfl⟩) (Nat.le_of_ble_eq_true rfl) (Nat.le_of_ble_eq_true rfl) d_V_add_80

set_option maxRecDepth 100000 in
set_option maxHeartbeats 4000000 in
theorem c_V_takeAway {l : Launch} {D : va_G} {A : Nat → Prop} {e0 : Nat → Nat} {K : Nat → Nat} {ca : Nat → ClassId} {RL LP : List Nat} {fv FR : Nat → RW} {day ever mo : Int32} {ea : Nat} {ch : Int64} {ring : Nat → Int32} {rest : va_W} {vs : List Nat} {eo : va_W} (hI : cI e0 ca vs LP ea eo) {w9 : Nat} (hw9 : w9 < 2 ^ 31) {i0 a : Nat} (hi0 : vs[i0]? = some a) : tM l y_V_takeAway tb ({ frames := 4, cells := 0, slots := 0, locals := 87 }) D cls (ty0 ca) A (zz e0 A) [.ref (K 0), .ref a] (wC K ca RL LP fv FR day ever mo (nI vs.length) ea (nI w9) ch ring (eo ++ rest)) (fun v w2 => v = none ∧ cQ e0 K ca RL FR rest LP fv day ever (lg_wr (ring, w9, ch) day 3 (fv a 0) (fv a 1)) (rw_take (vs.map fv) i0) (vs.eraseIdx i0) w2) (xN) := by
  refine t_ofW (by decide) w_445 (Nat.le_of_ble_eq_true rfl) ?_
  intro p e s m below meth c ls hx hb hr hts hown hlk hnm hml hex hl hC
  have hown : s.vm.findClass "RetentionVault" = some m.cls := hown
  have hl : lv_has ls 3 [(0, .ref (K 0)), (1, .ref a)] := hl
  obtain ⟨hLR, hvL, hnd, h40⟩ := hI
  have ha : a ∈ LP := hvL a (List.mem_of_getElem? hi0)
  have hi0l : i0 < vs.length := (List.getElem?_eq_some_iff.mp hi0).1
  refine lv_iconst (v := 0) hx hb d_V_takeAway_0 (by decide) ?_
  refine lv_istore_n (lv' := [(2, .int 0), (0, .ref (K 0)), (1, .ref a)]) hx hb d_V_takeAway_1 rfl hl (by decide) rfl (fun ls hl => ?_)
  have loop : ∀ (k i : Nat) (ls : Array Slot) (H : Heap) (locs : List Loc), i0 - i = k → i ≤ i0 → lv_has ls 3 [(2, .int (nI i)), (0, .ref (K 0)), (1, .ref a)] → tC D cls (ty0 ca) A (zz e0 A) s (wC K ca RL LP fv FR day ever mo (nI vs.length) ea (nI w9) ch ring (eo ++ rest)) H locs → tB p l e ({ frames := 4, cells := 0, slots := 0, locals := 87 }) s m [.ref (K 0), .ref a] below meth c D (ty0 ca) A (zz e0 A) (fun v w2 => v = none ∧ cQ e0 K ca RL FR rest LP fv day ever (lg_wr (ring, w9, ch) day 3 (fv a 0) (fv a 1)) (rw_take (vs.map fv) i0) (vs.eraseIdx i0) w2) (xN) H locs 0 0 (F0 m 2 ls []) := by
    intro k
    induction k using Nat.strongRecOn with
    | ind k ih =>
      intro i ls H locs hk hle hl hC
      refine lv_iload_n hx hb d_V_takeAway_2 rfl (lv_at hl 0 rfl) ?_
      refine lv_aload_n hx hb d_V_takeAway_3 rfl (lv_at hl 1 rfl) ?_
      refine t_get (v := .ref (K 1)) hx hb hts inV hown hC 0 rfl rfl 0 (by decide) (hts _ w_97) (fun _ h => h) rfl d_V_takeAway_4 ?_
      refine t_call (t_invV (As := []) (rest := [.int (nI i)]) hx hb hown (hts _ w_210) (hts _ w_211) (hts _ w_212) (hts _ w_213) ⟨by decide, by decide⟩ (t_recv (q0 := 1) hC rfl rfl) rfl d_V_takeAway_7) c_A_size zz_c tb_good hts w_4 hC (hl.1.trans hml.symm) ⟨Nat.le_of_ble_eq_true rfl, Nat.le_of_ble_eq_true rfl, Nat.le_of_ble_eq_true rfl, Nat.le_of_ble_eq_true rfl⟩ (Nat.le_of_ble_eq_true rfl) (fun E q ce w1 H1 l1 hp => hp.elim) (fun v w1 H locs hp hC => ?_)
      obtain ⟨rfl, hwe9⟩ := hp
      rw [hwe9] at hC
      have hC : tC D cls (ty0 ca) A (zz e0 A) s (wC K ca RL LP fv FR day ever mo (nI vs.length) ea (nI w9) ch ring (eo ++ rest)) H locs := hC
      refine W.eq (g2 := F0 m 10 ls [.int (nI vs.length), .int (nI i)]) rfl ?_
      refine lv_icmp_ge (tgt := 43) hx hb d_V_takeAway_10 (by decide) (fun c10 => ?_) (fun c10 => ?_)
      · exact absurd ((nI_leI (by omega) (by omega)).mp c10) (by omega)
      · skip
        obtain ⟨b, hi⟩ : ∃ b, vs[i]? = some b := ⟨vs[i], List.getElem?_eq_getElem (by omega)⟩
        have hbL : b ∈ LP := hvL b (List.mem_of_getElem? hi)
        refine lv_aload_n hx hb d_V_takeAway_13 rfl (lv_at hl 1 rfl) ?_
        refine t_get (v := .ref (K 1)) hx hb hts inV hown hC 0 rfl rfl 0 (by decide) (hts _ w_97) (fun _ h => h) rfl d_V_takeAway_14 ?_
        refine lv_iload_n hx hb d_V_takeAway_17 rfl (lv_at hl 0 rfl) ?_
        refine t_call (t_invV (As := [.int (nI i)]) (rest := []) hx hb hown (hts _ w_301) (hts _ w_302) (hts _ w_303) (hts _ w_304) ⟨by decide, by decide⟩ (t_recv (q0 := 1) hC rfl rfl) rfl d_V_takeAway_18) (c_A_get hLR hi) zz_c tb_good hts w_4 hC (hl.1.trans hml.symm) ⟨Nat.le_of_ble_eq_true rfl, Nat.le_of_ble_eq_true rfl, Nat.le_of_ble_eq_true rfl, Nat.le_of_ble_eq_true rfl⟩ (Nat.le_of_ble_eq_true rfl) (fun E q ce w1 H1 l1 hp => hp.elim) (fun v w1 H locs hp hC => ?_)
        obtain ⟨rfl, hwe9⟩ := hp
        rw [hwe9] at hC
        have hC : tC D cls (ty0 ca) A (zz e0 A) s (wC K ca RL LP fv FR day ever mo (nI vs.length) ea (nI w9) ch ring (eo ++ rest)) H locs := hC
        refine W.eq (g2 := F0 m 21 ls [.ref b]) rfl ?_
        refine lv_aload_n hx hb d_V_takeAway_21 rfl (lv_at hl 2 rfl) ?_
        refine lv_acmp_ne (rx := (some b)) (ry := (some a)) (tgt := 37) hx hb d_V_takeAway_22 (by decide) (fun c22 => ?_) (fun c22 => ?_)
        · skip
          have hne : i ≠ i0 := fun h => c22 (by rw [← hi, ← hi0, h])
          refine lv_iinc (k := 0) (v := nI (i + 1)) (lv' := [(2, .int (nI (i + 1))), (0, .ref (K 0)), (1, .ref a)]) hx hb d_V_takeAway_37 hl rfl (nI_1 i) (by decide) rfl (fun ls hl => ?_)
          refine lv_goto (tgt := 2) hx hb d_V_takeAway_40 (by decide) ?_
          exact ih (i0 - (i + 1)) (by omega) (i + 1) ls H locs rfl (by omega) (lv_sub hl [0, 1, 2] rfl) hC
        · skip
          have hie : i = i0 := nd_inj hnd hi (by rw [hi0, c22])
          rw [hie] at hl
          refine lv_aload_n hx hb d_V_takeAway_25 rfl (lv_at hl 1 rfl) ?_
          refine t_get (v := .ref (K 1)) hx hb hts inV hown hC 0 rfl rfl 0 (by decide) (hts _ w_97) (fun _ h => h) rfl d_V_takeAway_26 ?_
          refine lv_iload_n hx hb d_V_takeAway_29 rfl (lv_at hl 0 rfl) ?_
          refine t_call (t_invV (As := [.int (nI i0)]) (rest := []) hx hb hown (hts _ w_446) (hts _ w_447) (hts _ w_448) (hts _ w_449) ⟨by decide, by decide⟩ (t_recv (q0 := 1) hC rfl rfl) rfl d_V_takeAway_30) (c_A_remove hLR hvL hi0) zz_c tb_good hts w_4 hC (hl.1.trans hml.symm) ⟨Nat.le_of_ble_eq_true rfl, Nat.le_of_ble_eq_true rfl, Nat.le_of_ble_eq_true rfl, Nat.le_of_ble_eq_true rfl⟩ (Nat.le_of_ble_eq_true rfl) (fun E q ce w1 H1 l1 hp => hp.elim) (fun v w1 H locs hp hC => ?_)
          obtain ⟨rfl, eo2, hLR2, hwe9⟩ := hp
          rw [hwe9] at hC
          have hvL2 : ∀ y ∈ vs.eraseIdx i0, y ∈ LP := fun y hy => hvL y (List.mem_of_mem_eraseIdx hy)
          have hnd2 : (vs.eraseIdx i0).Nodup := hnd.sublist (List.eraseIdx_sublist _ _)
          have h402 : (vs.eraseIdx i0).length ≤ 40 := Nat.le_trans (List.eraseIdx_sublist _ _).length_le h40
          have hnot : a ∉ vs.eraseIdx i0 := erase_not hnd hi0
          have hmapE : (vs.eraseIdx i0).map fv = (vs.map fv).eraseIdx i0 := map_erase
          generalize hv2 : vs.eraseIdx i0 = vs2 at hC hLR2 hvL2 hnd2 h402 hnot hmapE
          have hC : tC D cls (ty0 ca) A (zz e0 A) s (wC K ca RL LP fv FR day ever (mo + 1) (nI vs2.length) ea (nI w9) ch ring (eo2 ++ rest)) H locs := hC
          refine W.eq (g2 := F0 m 33 ls [.ref a]) rfl ?_
          refine lv_pop hx hb d_V_takeAway_33 rfl ?_
          refine lv_goto (tgt := 43) hx hb d_V_takeAway_34 (by decide) ?_
          refine lv_aload_n hx hb d_V_takeAway_43 rfl (lv_at hl 1 rfl) ?_
          refine lv_aload_n hx hb d_V_takeAway_44 rfl (lv_at hl 2 rfl) ?_
          refine t_getP hx hb hts inN hown hC ha rfl 1 (by decide) (hts _ w_239) (fun _ h => h) d_V_takeAway_45 ?_
          refine t_call (t_invV (As := [.int (fv a 1)]) (rest := []) hx hb hown (hts _ w_297) (hts _ w_299) (hts _ s_V_latestOf) (hts _ w_300) ⟨by decide, by decide⟩ (t_recv (q0 := 0) hC rfl rfl) rfl d_V_takeAway_48) (c_V_latestOf ⟨hLR2, hvL2, hnd2, h402⟩) zz_c tb_good hts w_1 hC (hl.1.trans hml.symm) ⟨Nat.le_of_ble_eq_true rfl, Nat.le_of_ble_eq_true rfl, Nat.le_of_ble_eq_true rfl, Nat.le_of_ble_eq_true rfl⟩ (Nat.le_of_ble_eq_true rfl) (fun E q ce w1 H1 l1 hp => hp.elim) (fun v w1 H locs hp hC => ?_)
          obtain ⟨rfl, hwe9⟩ := hp
          rw [hwe9] at hC
          have hC : tC D cls (ty0 ca) A (zz e0 A) s (wC K ca RL LP fv FR day ever (mo + 1) (nI vs2.length) ea (nI w9) ch ring (eo2 ++ rest)) H locs := hC
          refine W.eq (g2 := F0 m 51 ls [va_rf ((rw_latest (vs2.map fv) (fv a 1)).bind (fun i => vs2[i]?))]) rfl ?_
          rcases op_two ((rw_latest (vs2.map fv) (fv a 1)).bind (fun i => vs2[i]?)) with hlt | ⟨o, hlt⟩
          · refine W.eq (g2 := F0 m 51 ls [.null]) (by rw [hlt]; rfl) ?_
            refine lv_astore_nN (lv' := [(2, .null), (0, .ref (K 0)), (1, .ref a)]) hx hb d_V_takeAway_51 rfl hl (by decide) rfl (fun ls hl => ?_)
            refine lv_aload_nN hx hb d_V_takeAway_52 rfl (lv_at hl 0 rfl) ?_
            refine lv_ifnullN (tgt := 61) hx hb d_V_takeAway_53 (by decide) ?_
            have hmap : vs2.map fv = rw_new (vs2.map fv) (fv a 1) := new_none hlt
            obtain ⟨fv2, hf2⟩ : ∃ z, z = fv := ⟨_, rfl⟩
            have hout : ∀ b, b ∉ vs2 → fv2 b = fv b := fun b _ => by rw [hf2]
            have hmap : vs2.map fv2 = rw_new (vs2.map fv) (fv a 1) := by rw [hf2]; exact hmap
            have hC : tC D cls (ty0 ca) A (zz e0 A) s (wC K ca RL LP fv2 FR day ever (mo + 1) (nI vs2.length) ea (nI w9) ch ring (eo2 ++ rest)) H locs := by rw [hf2]; exact hC
            have hfa : fv2 a = fv a := hout a hnot
            refine lv_aload_n hx hb d_V_takeAway_61 rfl (lv_at hl 1 rfl) ?_
            refine t_get (v := .ref (K 3)) hx hb hts inV hown hC 0 rfl rfl 2 (by decide) (hts _ w_99) (fun _ h => h) rfl d_V_takeAway_62 ?_
            refine lv_aload_n hx hb d_V_takeAway_65 rfl (lv_at hl 1 rfl) ?_
            refine t_get (v := .int day) hx hb hts inV hown hC 0 rfl rfl 3 (by decide) (hts _ w_100) (fun _ h => h) rfl d_V_takeAway_66 ?_
            refine lv_iconst (v := 3) hx hb d_V_takeAway_69 (by decide) ?_
            refine lv_aload_n hx hb d_V_takeAway_70 rfl (lv_at hl 2 rfl) ?_
            refine t_getP hx hb hts inN hown hC ha rfl 0 (by decide) (hts _ w_237) (fun _ h => h) d_V_takeAway_71 ?_
            refine lv_aload_n hx hb d_V_takeAway_74 rfl (lv_at hl 2 rfl) ?_
            refine t_getP hx hb hts inN hown hC ha rfl 1 (by decide) (hts _ w_239) (fun _ h => h) d_V_takeAway_75 ?_
            refine t_call (t_invV (As := [.int day, .int 3, .int (fv2 a 0), .int (fv2 a 1)]) (rest := []) hx hb hown (hts _ w_376) (hts _ w_377) (hts _ w_378) (hts _ w_379) ⟨by decide, by decide⟩ (t_recv (q0 := 3) hC rfl rfl) rfl d_V_takeAway_78) (c_G_write hw9) zz_c tb_good hts w_6 hC (hl.1.trans hml.symm) ⟨Nat.le_of_ble_eq_true rfl, Nat.le_of_ble_eq_true rfl, Nat.le_of_ble_eq_true rfl, Nat.le_of_ble_eq_true rfl⟩ (Nat.le_of_ble_eq_true rfl) (fun E q ce w1 H1 l1 hp => hp.elim) (fun v w1 H locs hp hC => ?_)
            obtain ⟨rfl, rfl⟩ := hp
            have hC : tC D cls (ty0 ca) A (zz e0 A) s (wC K ca RL LP fv2 FR day ever (mo + 1) (nI vs2.length) ea (nI (w9 + 1)) ((lg_wr (ring, w9, ch) day 3 (fv2 a 0) (fv2 a 1)).2.2) ((lg_wr (ring, w9, ch) day 3 (fv2 a 0) (fv2 a 1)).1) (eo2 ++ rest)) H locs := hC
            refine W.eq (g2 := F0 m 81 ls []) rfl ?_
            exact t_vret hx hb hr hlk zz_c hC (⟨rfl, LP, fv2, mo + 1, ea, eo2, ⟨hLR2, hvL2, hnd2, h402⟩, by rw [hmap, hmapE]; unfold rw_take; rw [rw_at_map hi0], fun b hb => ⟨hb, hout b⟩, by rw [hfa]; rfl⟩) (Nat.le_of_ble_eq_true rfl) (Nat.le_of_ble_eq_true rfl) d_V_takeAway_81
          · have ho : o ∈ LP := lt_mem hvL2 hlt
            refine W.eq (g2 := F0 m 51 ls [.ref o]) (by rw [hlt]; rfl) ?_
            refine lv_astore_n (lv' := [(2, .ref o), (0, .ref (K 0)), (1, .ref a)]) hx hb d_V_takeAway_51 rfl hl (by decide) rfl (fun ls hl => ?_)
            refine lv_aload_n hx hb d_V_takeAway_52 rfl (lv_at hl 0 rfl) ?_
            refine lv_ifnull hx hb d_V_takeAway_53 ?_
            refine lv_aload_n hx hb d_V_takeAway_56 rfl (lv_at hl 0 rfl) ?_
            refine lv_iconst (v := 1) hx hb d_V_takeAway_57 (by decide) ?_
            refine t_putP (ty := .boolean) hx hb hts inN TN tyN nmN hown hC ho rfl 6 (by decide) (hts _ w_249) (fun _ h => h) (Or.inl rfl) (by decide +kernel) (rfl) (rfl) d_V_takeAway_58 (fun H locs hC => ?_)
            have hC : tC D cls (ty0 ca) A (zz e0 A) s (wC K ca RL LP (va_up fv o (upd (fv o) 6 1)) FR day ever (mo + 1) (nI vs2.length) ea (nI w9) ch ring (eo2 ++ rest)) H locs := hC
            have hmap : vs2.map (va_up fv o (upd (fv o) 6 1)) = rw_new (vs2.map fv) (fv a 1) := new_some hnd2 hlt
            have hout : ∀ b, b ∉ vs2 → (va_up fv o (upd (fv o) 6 1)) b = fv b := fun b hb => by simp only [va_up]; rw [if_neg (fun h : b = o => hb (by rw [h]; exact lt_vs hlt))]
            generalize hf2 : va_up fv o (upd (fv o) 6 1) = fv2 at hC hmap hout
            have hfa : fv2 a = fv a := hout a hnot
            refine lv_aload_n hx hb d_V_takeAway_61 rfl (lv_at hl 1 rfl) ?_
            refine t_get (v := .ref (K 3)) hx hb hts inV hown hC 0 rfl rfl 2 (by decide) (hts _ w_99) (fun _ h => h) rfl d_V_takeAway_62 ?_
            refine lv_aload_n hx hb d_V_takeAway_65 rfl (lv_at hl 1 rfl) ?_
            refine t_get (v := .int day) hx hb hts inV hown hC 0 rfl rfl 3 (by decide) (hts _ w_100) (fun _ h => h) rfl d_V_takeAway_66 ?_
            refine lv_iconst (v := 3) hx hb d_V_takeAway_69 (by decide) ?_
            refine lv_aload_n hx hb d_V_takeAway_70 rfl (lv_at hl 2 rfl) ?_
            refine t_getP hx hb hts inN hown hC ha rfl 0 (by decide) (hts _ w_237) (fun _ h => h) d_V_takeAway_71 ?_
            refine lv_aload_n hx hb d_V_takeAway_74 rfl (lv_at hl 2 rfl) ?_
            refine t_getP hx hb hts inN hown hC ha rfl 1 (by decide) (hts _ w_239) (fun _ h => h) d_V_takeAway_75 ?_
            refine t_call (t_invV (As := [.int day, .int 3, .int (fv2 a 0), .int (fv2 a 1)]) (rest := []) hx hb hown (hts _ w_376) (hts _ w_377) (hts _ w_378) (hts _ w_379) ⟨by decide, by decide⟩ (t_recv (q0 := 3) hC rfl rfl) rfl d_V_takeAway_78) (c_G_write hw9) zz_c tb_good hts w_6 hC (hl.1.trans hml.symm) ⟨Nat.le_of_ble_eq_true rfl, Nat.le_of_ble_eq_true rfl, Nat.le_of_ble_eq_true rfl, Nat.le_of_ble_eq_true rfl⟩ (Nat.le_of_ble_eq_true rfl) (fun E q ce w1 H1 l1 hp => hp.elim) (fun v w1 H locs hp hC => ?_)
            obtain ⟨rfl, rfl⟩ := hp
            have hC : tC D cls (ty0 ca) A (zz e0 A) s (wC K ca RL LP fv2 FR day ever (mo + 1) (nI vs2.length) ea (nI (w9 + 1)) ((lg_wr (ring, w9, ch) day 3 (fv2 a 0) (fv2 a 1)).2.2) ((lg_wr (ring, w9, ch) day 3 (fv2 a 0) (fv2 a 1)).1) (eo2 ++ rest)) H locs := hC
            refine W.eq (g2 := F0 m 81 ls []) rfl ?_
            exact t_vret hx hb hr hlk zz_c hC (⟨rfl, LP, fv2, mo + 1, ea, eo2, ⟨hLR2, hvL2, hnd2, h402⟩, by rw [hmap, hmapE]; unfold rw_take; rw [rw_at_map hi0], fun b hb => ⟨hb, hout b⟩, by rw [hfa]; rfl⟩) (Nat.le_of_ble_eq_true rfl) (Nat.le_of_ble_eq_true rfl) d_V_takeAway_81
  exact loop _ 0 ls _ _ rfl (by omega) hl hC
