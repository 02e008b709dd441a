/-! Log and Rule. Laid by program (wip/whole/p11.py) -/
theorem lg_place {w : Nat} (h : w < 2 ^ 31) : (nI w &&& 63) * 4 = nI (w % 64 * 4) := by
  rw [pk_andN (n := w) (by omega) 6 (by decide)]
  exact pk_mul (w % 64) 4
theorem lg_cl {w i : Nat} (hi : i < 4) : (nI (w % 64 * 4) + nI i).toNatClampNeg = w % 64 * 4 + i := by
  rw [nI_add, nI_clamp (by omega)]
theorem lg_fold {K : Nat → Nat} {ca : Nat → ClassId} {RL LP : List Nat} {fv FR : Nat → RW} {day ever mo n : Int32} {ea : Nat} {ch : Int64} {ring : Nat → Int32} {rest : va_W} {a b c d : Int32} {w : Nat} (hw : w < 2 ^ 31) :
    wC K ca RL LP fv FR day ever mo n ea (nI w + 1) (lg_mix (lg_mix (lg_mix (lg_mix ch a) b) c) d) (upd (upd (upd (upd ring (nI (w % 64 * 4)).toNatClampNeg a) (nI (w % 64 * 4) + 1).toNatClampNeg b) (nI (w % 64 * 4) + 2).toNatClampNeg c) (nI (w % 64 * 4) + 3).toNatClampNeg d) rest =
    wC K ca RL LP fv FR day ever mo n ea (nI (w + 1)) (lg_wr (ring, w, ch) a b c d).2.2 (lg_wr (ring, w, ch) a b c d).1 rest := by
  have e0 : (nI (w % 64 * 4)).toNatClampNeg = w % 64 * 4 := nI_clamp (by omega)
  have e1 : (nI (w % 64 * 4) + 1).toNatClampNeg = w % 64 * 4 + 1 := lg_cl (i := 1) (by omega)
  have e2 : (nI (w % 64 * 4) + 2).toNatClampNeg = w % 64 * 4 + 2 := lg_cl (i := 2) (by omega)
  have e3 : (nI (w % 64 * 4) + 3).toNatClampNeg = w % 64 * 4 + 3 := lg_cl (i := 3) (by omega)
  rw [e0, e1, e2, e3, nI_1]
  rfl
theorem up_twice {α : Type} {f : Nat → α} {a : Nat} {x y : α} : va_up (va_up f a x) a y = va_up f a y := bx_uu f a x y
theorem up_fold4 {K : Nat → Nat} {ca : Nat → ClassId} {RL LP : List Nat} {fv FR : Nat → RW} {day ever mo n : Int32} {ea : Nat} {wr : Int32} {ch : Int64} {ring : Nat → Int32} {rest : va_W} {u : Nat} {x0 x1 x2 x3 : Int32} :
    wC K ca RL LP fv (va_up (va_up (va_up (va_up FR u (upd (FR u) 0 x0)) u (upd (va_up FR u (upd (FR u) 0 x0) u) 1 x1)) u (upd (va_up (va_up FR u (upd (FR u) 0 x0)) u (upd (va_up FR u (upd (FR u) 0 x0) u) 1 x1) u) 2 x2)) u (upd (va_up (va_up (va_up FR u (upd (FR u) 0 x0)) u (upd (va_up FR u (upd (FR u) 0 x0) u) 1 x1)) u (upd (va_up (va_up FR u (upd (FR u) 0 x0)) u (upd (va_up FR u (upd (FR u) 0 x0) u) 1 x1) u) 2 x2) u) 3 x3)) day ever mo n ea wr ch ring rest =
    wC K ca RL LP fv (va_up FR u (upd (upd (upd (upd (FR u) 0 x0) 1 x1) 2 x2) 3 x3)) day ever mo n ea wr ch ring rest := by
  simp only [up_twice, va_up_self]
set_option maxRecDepth 100000 in
set_option maxHeartbeats 4000000 in
theorem c_G_placeOf {l : Launch} {D : va_G} {tys : List (ClassId × FieldType)} {A : Nat → Prop} {Z : State → Heap → Prop} (hZc : tZ A Z) {w : va_W} {x : Int32} : tM l y_G_placeOf tb ({ frames := 0, cells := 0, slots := 0, locals := 0 }) D cls tys A Z [.int x] (w) (pR (.int ((x &&& 63) * 4)) w) (xN) := by
  refine t_ofW (by decide) w_382 (Nat.le_of_ble_eq_true rfl) ?_
  intro p e s m below meth c ls hx hb hr hts hown hlk hnm hml hex hl hC
  have hown : s.vm.findClass "RetentionVault$Log" = some m.cls := hown
  have hl : lv_has ls 1 [(0, .int x)] := hl
  refine lv_iload_n hx hb d_G_placeOf_0 rfl (lv_at hl 0 rfl) ?_
  refine lv_bipush (v := 63) hx hb d_G_placeOf_1 (by decide) ?_
  refine lv_iand hx hb d_G_placeOf_3 ?_
  refine lv_iconst (v := 4) hx hb d_G_placeOf_4 (by decide) ?_
  refine lv_imul hx hb d_G_placeOf_5 ?_
  exact t_iret hx hb hr hlk hZc hC (⟨rfl, rfl⟩) (Nat.le_of_ble_eq_true rfl) (Nat.le_of_ble_eq_true rfl) d_G_placeOf_6

set_option maxRecDepth 100000 in
set_option maxHeartbeats 4000000 in
theorem c_G_append {l : Launch} {D : va_G} {A : Nat → Prop} {e0 : Nat → Nat} {K : Nat → Nat} {ca : Nat → ClassId} {RL LP : List Nat} {fv FR : Nat → RW} {day ever mo n : Int32} {ea : Nat} {wr : Int32} {ch : Int64} {ring : Nat → Int32} {rest : va_W} {at9 x : Int32} (hin : vp_in at9 256) : tM l y_G_append tb ({ frames := 0, cells := 0, slots := 0, locals := 0 }) D cls (ty0 ca) A (zz e0 A) [.ref (K 3), .int at9, .int x] (wC K ca RL LP fv FR day ever mo n ea wr ch ring rest) (fun v w2 => v = none ∧ w2 = wC K ca RL LP fv FR day ever mo n ea wr (lg_mix ch x) (upd ring at9.toNatClampNeg x) rest) (xN) := by
  refine t_ofW (by decide) w_386 (Nat.le_of_ble_eq_true rfl) ?_
  intro p e s m below meth c ls hx hb hr hts hown hlk hnm hml hex hl hC
  have hown : s.vm.findClass "RetentionVault$Log" = some m.cls := hown
  have hl : lv_has ls 3 [(0, .ref (K 3)), (1, .int at9), (2, .int x)] := hl
  refine lv_aload_n hx hb d_G_append_0 rfl (lv_at hl 0 rfl) ?_
  refine t_get (v := .ref (K 4)) hx hb hts inG hown hC 3 rfl rfl 0 (by decide) (hts _ w_84) (fun _ h => h) rfl d_G_append_1 ?_
  refine lv_iload_n hx hb d_G_append_4 rfl (lv_at hl 1 rfl) ?_
  refine lv_iload_n hx hb d_G_append_5 rfl (lv_at hl 2 rfl) ?_
  refine t_iast hx hb hC 4 0 rfl rfl (hin) d_G_append_6 (fun H locs hC => ?_)
  have hC : tC D cls (ty0 ca) A (zz e0 A) s (wC K ca RL LP fv FR day ever mo n ea wr ch (upd ring at9.toNatClampNeg x) rest) H locs := hC
  refine lv_aload_n hx hb d_G_append_7 rfl (lv_at hl 0 rfl) ?_
  refine lv_aload_n hx hb d_G_append_8 rfl (lv_at hl 0 rfl) ?_
  refine t_get (v := .long ch) hx hb hts inG hown hC 3 rfl rfl 2 (by decide) (hts _ w_87) (fun _ h => h) rfl d_G_append_9 ?_
  refine lv_iload_n hx hb d_G_append_12 rfl (lv_at hl 2 rfl) ?_
  refine lv_i2l (v := x.toInt64) hx hb d_G_append_13 rfl ?_
  refine lv_lxor hx hb d_G_append_14 ?_
  refine lv_ldc2 (v := 1099511628211) hx hb hown (hts _ w_387) d_G_append_15 ?_
  refine lv_lmul hx hb d_G_append_18 ?_
  refine t_put (ty := .long) (v := .long ((ch ^^^ x.toInt64) * 1099511628211)) hx hb hts inG TG tyG nmG hown hC 3 rfl rfl 2 (by decide) (hts _ w_87) (fun _ h => h) rfl (by decide +kernel) rfl rfl (Nat.le_of_ble_eq_true rfl) d_G_append_19 (fun H locs hC => ?_)
  have hC : tC D cls (ty0 ca) A (zz e0 A) s (wC K ca RL LP fv FR day ever mo n ea wr ((ch ^^^ x.toInt64) * 1099511628211) (upd ring at9.toNatClampNeg x) rest) H locs := hC
  exact t_vret hx hb hr hlk zz_c hC (⟨rfl, rfl⟩) (Nat.le_of_ble_eq_true rfl) (Nat.le_of_ble_eq_true rfl) d_G_append_22

set_option maxRecDepth 100000 in
set_option maxHeartbeats 4000000 in
theorem c_G_write {l : Launch} {D : va_G} {A : Nat → Prop} {e0 : Nat → Nat} {K : Nat → Nat} {ca : Nat → ClassId} {RL LP : List Nat} {fv FR : Nat → RW} {day ever mo n : Int32} {ea : Nat} {ch : Int64} {ring : Nat → Int32} {rest : va_W} {today kind number detail : Int32} {w9 : Nat} (hw9 : w9 < 2 ^ 31) : tM l y_G_write tb ({ frames := 1, cells := 0, slots := 0, locals := 22 }) D cls (ty0 ca) A (zz e0 A) [.ref (K 3), .int today, .int kind, .int number, .int detail] (wC K ca RL LP fv FR day ever mo n ea (nI w9) ch ring rest) (fun v w2 => v = none ∧ w2 = wC K ca RL LP fv FR day ever mo n ea (nI (w9 + 1)) (lg_wr (ring, w9, ch) today kind number detail).2.2 (lg_wr (ring, w9, ch) today kind number detail).1 rest) (xN) := by
  refine t_ofW (by decide) w_379 (Nat.le_of_ble_eq_true rfl) ?_
  intro p e s m below meth c ls hx hb hr hts hown hlk hnm hml hex hl hC
  have hown : s.vm.findClass "RetentionVault$Log" = some m.cls := hown
  have hl : lv_has ls 6 [(0, .ref (K 3)), (1, .int today), (2, .int kind), (3, .int number), (4, .int detail)] := hl
  refine lv_aload_n hx hb d_G_write_0 rfl (lv_at hl 0 rfl) ?_
  refine t_get (v := .int (nI w9)) hx hb hts inG hown hC 3 rfl rfl 1 (by decide) (hts _ w_85) (fun _ h => h) rfl d_G_write_1 ?_
  refine t_call (t_invS (As := [.int (nI w9)]) (rest := []) hx hb hown (hts _ w_380) (hts _ w_381) (hts _ w_6) (hts _ w_382) ⟨by decide, by decide⟩ rfl d_G_write_4) (c_G_placeOf zz_c) zz_c tb_good hts w_6 hC (hl.1.trans hml.symm) ⟨Nat.le_of_ble_eq_true rfl, Nat.le_of_ble_eq_true rfl, Nat.le_of_ble_eq_true rfl, Nat.le_of_ble_eq_true rfl⟩ (Nat.le_of_ble_eq_true rfl) (fun E q ce w1 H1 l1 hp => hp.elim) (fun v w1 H locs hp hC => ?_)
  obtain ⟨rfl, hwe9⟩ := hp
  rw [hwe9] at hC
  have hC : tC D cls (ty0 ca) A (zz e0 A) s (wC K ca RL LP fv FR day ever mo n ea (nI w9) ch ring rest) H locs := hC
  refine W.eq (g2 := F0 m 7 ls [.int (((nI w9) &&& 63) * 4)]) rfl ?_
  have hp4 : (nI w9 &&& 63) * 4 = nI (w9 % 64 * 4) := lg_place hw9
  rw [hp4]
  refine lv_istore (lv' := [(5, .int (nI (w9 % 64 * 4))), (0, .ref (K 3)), (1, .int today), (2, .int kind), (3, .int number), (4, .int detail)]) hx hb d_G_write_7 hl (by decide) rfl (fun ls hl => ?_)
  refine lv_aload_n hx hb d_G_write_9 rfl (lv_at hl 1 rfl) ?_
  refine lv_iload hx hb d_G_write_10 (lv_at hl 0 rfl) ?_
  refine lv_iload_n hx hb d_G_write_12 rfl (lv_at hl 2 rfl) ?_
  refine t_call (t_invV (As := [.int (nI (w9 % 64 * 4)), .int today]) (rest := []) hx hb hown (hts _ w_383) (hts _ w_385) (hts _ s_G_append) (hts _ w_386) ⟨by decide, by decide⟩ (t_recv (q0 := 3) hC rfl rfl) rfl d_G_write_13) (c_G_append (vp_in_nI (by omega) (by decide))) zz_c tb_good hts w_6 hC (hl.1.trans hml.symm) ⟨Nat.le_of_ble_eq_true rfl, Nat.le_of_ble_eq_true rfl, Nat.le_of_ble_eq_true rfl, Nat.le_of_ble_eq_true rfl⟩ (Nat.le_of_ble_eq_true rfl) (fun E q ce w1 H1 l1 hp => hp.elim) (fun v w1 H locs hp hC => ?_)
  obtain ⟨rfl, rfl⟩ := hp
  have hC : tC D cls (ty0 ca) A (zz e0 A) s (wC K ca RL LP fv FR day ever mo n ea (nI w9) (lg_mix ch today) (upd ring (nI (w9 % 64 * 4)).toNatClampNeg today) rest) H locs := hC
  refine W.eq (g2 := F0 m 16 ls []) rfl ?_
  refine lv_aload_n hx hb d_G_write_16 rfl (lv_at hl 1 rfl) ?_
  refine lv_iload hx hb d_G_write_17 (lv_at hl 0 rfl) ?_
  refine lv_iconst (v := 1) hx hb d_G_write_19 (by decide) ?_
  refine lv_iadd hx hb d_G_write_20 ?_
  refine lv_iload_n hx hb d_G_write_21 rfl (lv_at hl 3 rfl) ?_
  refine t_call (t_invV (As := [.int ((nI (w9 % 64 * 4)) + 1), .int kind]) (rest := []) hx hb hown (hts _ w_383) (hts _ w_385) (hts _ s_G_append) (hts _ w_386) ⟨by decide, by decide⟩ (t_recv (q0 := 3) hC rfl rfl) rfl d_G_write_22) (c_G_append (by rw [show nI (w9 % 64 * 4) + 1 = nI (w9 % 64 * 4 + 1) from nI_add _ 1]; exact vp_in_nI (by omega) (by decide))) zz_c tb_good hts w_6 hC (hl.1.trans hml.symm) ⟨Nat.le_of_ble_eq_true rfl, Nat.le_of_ble_eq_true rfl, Nat.le_of_ble_eq_true rfl, Nat.le_of_ble_eq_true rfl⟩ (Nat.le_of_ble_eq_true rfl) (fun E q ce w1 H1 l1 hp => hp.elim) (fun v w1 H locs hp hC => ?_)
  obtain ⟨rfl, rfl⟩ := hp
  have hC : tC D cls (ty0 ca) A (zz e0 A) s (wC K ca RL LP fv FR day ever mo n ea (nI w9) (lg_mix (lg_mix ch today) kind) (upd (upd ring (nI (w9 % 64 * 4)).toNatClampNeg today) ((nI (w9 % 64 * 4)) + 1).toNatClampNeg kind) rest) H locs := hC
  refine W.eq (g2 := F0 m 25 ls []) rfl ?_
  refine lv_aload_n hx hb d_G_write_25 rfl (lv_at hl 1 rfl) ?_
  refine lv_iload hx hb d_G_write_26 (lv_at hl 0 rfl) ?_
  refine lv_iconst (v := 2) hx hb d_G_write_28 (by decide) ?_
  refine lv_iadd hx hb d_G_write_29 ?_
  refine lv_iload_n hx hb d_G_write_30 rfl (lv_at hl 4 rfl) ?_
  refine t_call (t_invV (As := [.int ((nI (w9 % 64 * 4)) + 2), .int number]) (rest := []) hx hb hown (hts _ w_383) (hts _ w_385) (hts _ s_G_append) (hts _ w_386) ⟨by decide, by decide⟩ (t_recv (q0 := 3) hC rfl rfl) rfl d_G_write_31) (c_G_append (by rw [show nI (w9 % 64 * 4) + 2 = nI (w9 % 64 * 4 + 2) from nI_add _ 2]; exact vp_in_nI (by omega) (by decide))) zz_c tb_good hts w_6 hC (hl.1.trans hml.symm) ⟨Nat.le_of_ble_eq_true rfl, Nat.le_of_ble_eq_true rfl, Nat.le_of_ble_eq_true rfl, Nat.le_of_ble_eq_true rfl⟩ (Nat.le_of_ble_eq_true rfl) (fun E q ce w1 H1 l1 hp => hp.elim) (fun v w1 H locs hp hC => ?_)
  obtain ⟨rfl, rfl⟩ := hp
  have hC : tC D cls (ty0 ca) A (zz e0 A) s (wC K ca RL LP fv FR day ever mo n ea (nI w9) (lg_mix (lg_mix (lg_mix ch today) kind) number) (upd (upd (upd ring (nI (w9 % 64 * 4)).toNatClampNeg today) ((nI (w9 % 64 * 4)) + 1).toNatClampNeg kind) ((nI (w9 % 64 * 4)) + 2).toNatClampNeg number) rest) H locs := hC
  refine W.eq (g2 := F0 m 34 ls []) rfl ?_
  refine lv_aload_n hx hb d_G_write_34 rfl (lv_at hl 1 rfl) ?_
  refine lv_iload hx hb d_G_write_35 (lv_at hl 0 rfl) ?_
  refine lv_iconst (v := 3) hx hb d_G_write_37 (by decide) ?_
  refine lv_iadd hx hb d_G_write_38 ?_
  refine lv_iload hx hb d_G_write_39 (lv_at hl 5 rfl) ?_
  refine t_call (t_invV (As := [.int ((nI (w9 % 64 * 4)) + 3), .int detail]) (rest := []) hx hb hown (hts _ w_383) (hts _ w_385) (hts _ s_G_append) (hts _ w_386) ⟨by decide, by decide⟩ (t_recv (q0 := 3) hC rfl rfl) rfl d_G_write_41) (c_G_append (by rw [show nI (w9 % 64 * 4) + 3 = nI (w9 % 64 * 4 + 3) from nI_add _ 3]; exact vp_in_nI (by omega) (by decide))) zz_c tb_good hts w_6 hC (hl.1.trans hml.symm) ⟨Nat.le_of_ble_eq_true rfl, Nat.le_of_ble_eq_true rfl, Nat.le_of_ble_eq_true rfl, Nat.le_of_ble_eq_true rfl⟩ (Nat.le_of_ble_eq_true rfl) (fun E q ce w1 H1 l1 hp => hp.elim) (fun v w1 H locs hp hC => ?_)
  obtain ⟨rfl, rfl⟩ := hp
  have hC : tC D cls (ty0 ca) A (zz e0 A) s (wC K ca RL LP fv FR day ever mo n ea (nI w9) (lg_mix (lg_mix (lg_mix (lg_mix ch today) kind) number) detail) (upd (upd (upd (upd ring (nI (w9 % 64 * 4)).toNatClampNeg today) ((nI (w9 % 64 * 4)) + 1).toNatClampNeg kind) ((nI (w9 % 64 * 4)) + 2).toNatClampNeg number) ((nI (w9 % 64 * 4)) + 3).toNatClampNeg detail) rest) H locs := hC
  refine W.eq (g2 := F0 m 44 ls []) rfl ?_
  refine lv_aload_n hx hb d_G_write_44 rfl (lv_at hl 1 rfl) ?_
  refine lv_dup hx hb d_G_write_45 rfl ?_
  refine t_get (v := .int (nI w9)) hx hb hts inG hown hC 3 rfl rfl 1 (by decide) (hts _ w_85) (fun _ h => h) rfl d_G_write_46 ?_
  refine lv_iconst (v := 1) hx hb d_G_write_49 (by decide) ?_
  refine lv_iadd hx hb d_G_write_50 ?_
  refine t_put (ty := .int) (v := .int ((nI w9) + 1)) hx hb hts inG TG tyG nmG hown hC 3 rfl rfl 1 (by decide) (hts _ w_85) (fun _ h => h) rfl (by decide +kernel) rfl rfl (Nat.le_of_ble_eq_true rfl) d_G_write_51 (fun H locs hC => ?_)
  have hC : tC D cls (ty0 ca) A (zz e0 A) s (wC K ca RL LP fv FR day ever mo n ea ((nI w9) + 1) (lg_mix (lg_mix (lg_mix (lg_mix ch today) kind) number) detail) (upd (upd (upd (upd ring (nI (w9 % 64 * 4)).toNatClampNeg today) ((nI (w9 % 64 * 4)) + 1).toNatClampNeg kind) ((nI (w9 % 64 * 4)) + 2).toNatClampNeg number) ((nI (w9 % 64 * 4)) + 3).toNatClampNeg detail) rest) H locs := hC
  exact t_vret hx hb hr hlk zz_c hC (⟨rfl, lg_fold hw9⟩) (Nat.le_of_ble_eq_true rfl) (Nat.le_of_ble_eq_true rfl) d_G_write_54

set_option maxRecDepth 100000 in
set_option maxHeartbeats 4000000 in
theorem c_G_keeps {l : Launch} {D : va_G} {A : Nat → Prop} {e0 : Nat → Nat} {K : Nat → Nat} {ca : Nat → ClassId} {RL LP : List Nat} {fv FR : Nat → RW} {day ever mo n : Int32} {ea : Nat} {wr : Int32} {ch : Int64} {ring : Nat → Int32} {rest : va_W} {back : Int32} : tM l y_G_keeps tb ({ frames := 0, cells := 0, slots := 0, locals := 0 }) D cls (ty0 ca) A (zz e0 A) [.ref (K 3), .int back] (wC K ca RL LP fv FR day ever mo n ea wr ch ring rest) (pR (.int (bI (0 ≤ back ∧ back < 64 ∧ back < wr))) (wC K ca RL LP fv FR day ever mo n ea wr ch ring rest)) (xN) := by
  refine t_ofW (by decide) w_593 (Nat.le_of_ble_eq_true rfl) ?_
  intro p e s m below meth c ls hx hb hr hts hown hlk hnm hml hex hl hC
  have hown : s.vm.findClass "RetentionVault$Log" = some m.cls := hown
  have hl : lv_has ls 2 [(0, .ref (K 3)), (1, .int back)] := hl
  refine lv_iconst (v := 0) hx hb d_G_keeps_0 (by decide) ?_
  refine lv_iload_n hx hb d_G_keeps_1 rfl (lv_at hl 1 rfl) ?_
  refine lv_icmp_gt (tgt := 23) hx hb d_G_keeps_2 (by decide) (fun c2 => ?_) (fun c2 => ?_)
  · skip
    refine lv_iconst (v := 0) hx hb d_G_keeps_23 (by decide) ?_
    exact t_zret hx hb hr hlk (Or.inl rfl) zz_c hC (⟨by first | rfl | (simp only [bI, *]; rfl) | (simp [bI, *]; done) | (simp_all [bI, Int32.not_lt, Int32.not_le]; done) | (unfold bI; simp only [Int32.lt_iff_toInt_lt, Int32.le_iff_toInt_le] at *; split <;> first | rfl | (exfalso; omega)), rfl⟩) (Nat.le_of_ble_eq_true rfl) (Nat.le_of_ble_eq_true rfl) d_G_keeps_24
  · skip
    refine lv_iload_n hx hb d_G_keeps_5 rfl (lv_at hl 1 rfl) ?_
    refine lv_bipush (v := 64) hx hb d_G_keeps_6 (by decide) ?_
    refine lv_icmp_ge (tgt := 23) hx hb d_G_keeps_8 (by decide) (fun c8 => ?_) (fun c8 => ?_)
    · skip
      refine lv_iconst (v := 0) hx hb d_G_keeps_23 (by decide) ?_
      exact t_zret hx hb hr hlk (Or.inl rfl) zz_c hC (⟨by first | rfl | (simp only [bI, *]; rfl) | (simp [bI, *]; done) | (simp_all [bI, Int32.not_lt, Int32.not_le]; done) | (unfold bI; simp only [Int32.lt_iff_toInt_lt, Int32.le_iff_toInt_le] at *; split <;> first | rfl | (exfalso; omega)), rfl⟩) (Nat.le_of_ble_eq_true rfl) (Nat.le_of_ble_eq_true rfl) d_G_keeps_24
    · skip
      refine lv_iload_n hx hb d_G_keeps_11 rfl (lv_at hl 1 rfl) ?_
      refine lv_aload_n hx hb d_G_keeps_12 rfl (lv_at hl 0 rfl) ?_
      refine t_get (v := .int wr) hx hb hts inG hown hC 3 rfl rfl 1 (by decide) (hts _ w_85) (fun _ h => h) rfl d_G_keeps_13 ?_
      refine lv_icmp_ge (tgt := 23) hx hb d_G_keeps_16 (by decide) (fun c16 => ?_) (fun c16 => ?_)
      · skip
        refine lv_iconst (v := 0) hx hb d_G_keeps_23 (by decide) ?_
        exact t_zret hx hb hr hlk (Or.inl rfl) zz_c hC (⟨by first | rfl | (simp only [bI, *]; rfl) | (simp [bI, *]; done) | (simp_all [bI, Int32.not_lt, Int32.not_le]; done) | (unfold bI; simp only [Int32.lt_iff_toInt_lt, Int32.le_iff_toInt_le] at *; split <;> first | rfl | (exfalso; omega)), rfl⟩) (Nat.le_of_ble_eq_true rfl) (Nat.le_of_ble_eq_true rfl) d_G_keeps_24
      · skip
        refine lv_iconst (v := 1) hx hb d_G_keeps_19 (by decide) ?_
        refine lv_goto (tgt := 24) hx hb d_G_keeps_20 (by decide) ?_
        exact t_zret hx hb hr hlk (Or.inr rfl) zz_c hC (⟨by first | rfl | (simp only [bI, *]; rfl) | (simp [bI, *]; done) | (simp_all [bI, Int32.not_lt, Int32.not_le]; done) | (unfold bI; simp only [Int32.lt_iff_toInt_lt, Int32.le_iff_toInt_le] at *; split <;> first | rfl | (exfalso; omega)), rfl⟩) (Nat.le_of_ble_eq_true rfl) (Nat.le_of_ble_eq_true rfl) d_G_keeps_24

set_option maxRecDepth 100000 in
set_option maxHeartbeats 4000000 in
theorem c_G_numberOf {l : Launch} {D : va_G} {A : Nat → Prop} {e0 : Nat → Nat} {K : Nat → Nat} {ca : Nat → ClassId} {RL LP : List Nat} {fv FR : Nat → RW} {day ever mo n : Int32} {ea : Nat} {wr : Int32} {ch : Int64} {ring : Nat → Int32} {rest : va_W} {back what : Int32} (hin : vp_in (((wr - 1 - back) &&& 63) * 4 + what) 256) : tM l y_G_numberOf tb ({ frames := 1, cells := 0, slots := 0, locals := 20 }) D cls (ty0 ca) A (zz e0 A) [.ref (K 3), .int back, .int what] (wC K ca RL LP fv FR day ever mo n ea wr ch ring rest) (pR (.int (ring (((wr - 1 - back) &&& 63) * 4 + what).toNatClampNeg)) (wC K ca RL LP fv FR day ever mo n ea wr ch ring rest)) (xN) := by
  refine t_ofW (by decide) w_613 (Nat.le_of_ble_eq_true rfl) ?_
  intro p e s m below meth c ls hx hb hr hts hown hlk hnm hml hex hl hC
  have hown : s.vm.findClass "RetentionVault$Log" = some m.cls := hown
  have hl : lv_has ls 3 [(0, .ref (K 3)), (1, .int back), (2, .int what)] := hl
  refine lv_aload_n hx hb d_G_numberOf_0 rfl (lv_at hl 0 rfl) ?_
  refine t_get (v := .ref (K 4)) hx hb hts inG hown hC 3 rfl rfl 0 (by decide) (hts _ w_84) (fun _ h => h) rfl d_G_numberOf_1 ?_
  refine lv_aload_n hx hb d_G_numberOf_4 rfl (lv_at hl 0 rfl) ?_
  refine t_get (v := .int wr) hx hb hts inG hown hC 3 rfl rfl 1 (by decide) (hts _ w_85) (fun _ h => h) rfl d_G_numberOf_5 ?_
  refine lv_iconst (v := 1) hx hb d_G_numberOf_8 (by decide) ?_
  refine lv_isub hx hb d_G_numberOf_9 ?_
  refine lv_iload_n hx hb d_G_numberOf_10 rfl (lv_at hl 1 rfl) ?_
  refine lv_isub hx hb d_G_numberOf_11 ?_
  refine t_call (t_invS (As := [.int ((wr - 1) - back)]) (rest := [.ref (K 4)]) hx hb hown (hts _ w_380) (hts _ w_381) (hts _ w_6) (hts _ w_382) ⟨by decide, by decide⟩ rfl d_G_numberOf_12) (c_G_placeOf zz_c) zz_c tb_good hts w_6 hC (hl.1.trans hml.symm) ⟨Nat.le_of_ble_eq_true rfl, Nat.le_of_ble_eq_true rfl, Nat.le_of_ble_eq_true rfl, Nat.le_of_ble_eq_true rfl⟩ (Nat.le_of_ble_eq_true rfl) (fun E q ce w1 H1 l1 hp => hp.elim) (fun v w1 H locs hp hC => ?_)
  obtain ⟨rfl, hwe9⟩ := hp
  rw [hwe9] at hC
  have hC : tC D cls (ty0 ca) A (zz e0 A) s (wC K ca RL LP fv FR day ever mo n ea wr ch ring rest) H locs := hC
  refine W.eq (g2 := F0 m 15 ls [.int ((((wr - 1) - back) &&& 63) * 4), .ref (K 4)]) rfl ?_
  refine lv_iload_n hx hb d_G_numberOf_15 rfl (lv_at hl 2 rfl) ?_
  refine lv_iadd hx hb d_G_numberOf_16 ?_
  refine t_iald hx hb hC 4 0 rfl rfl (hin) d_G_numberOf_17 ?_
  exact t_iret hx hb hr hlk zz_c hC (⟨by first | rfl | (simp only [bI, *]; rfl) | (simp [bI, *]; done) | (simp_all [bI, Int32.not_lt, Int32.not_le]; done) | (unfold bI; simp only [Int32.lt_iff_toInt_lt, Int32.le_iff_toInt_le] at *; split <;> first | rfl | (exfalso; omega)), rfl⟩) (Nat.le_of_ble_eq_true rfl) (Nat.le_of_ble_eq_true rfl) d_G_numberOf_18

set_option maxRecDepth 100000 in
set_option maxHeartbeats 4000000 in
theorem c_U_isEmpty {l : Launch} {D : va_G} {A : Nat → Prop} {e0 : Nat → Nat} {K : Nat → Nat} {ca : Nat → ClassId} {RL LP : List Nat} {fv FR : Nat → RW} {day ever mo n : Int32} {ea : Nat} {wr : Int32} {ch : Int64} {ring : Nat → Int32} {rest : va_W} {u : Nat} (hu : u ∈ RL) : tM l y_U_isEmpty tb ({ frames := 0, cells := 0, slots := 0, locals := 0 }) D cls (ty0 ca) A (zz e0 A) [.ref u] (wC K ca RL LP fv FR day ever mo n ea wr ch ring rest) (pR (.int (bI (FR u 3 = 0))) (wC K ca RL LP fv FR day ever mo n ea wr ch ring rest)) (xN) := by
  refine t_ofW (by decide) w_496 (Nat.le_of_ble_eq_true rfl) ?_
  intro p e s m below meth c ls hx hb hr hts hown hlk hnm hml hex hl hC
  have hown : s.vm.findClass "RetentionVault$Rule" = some m.cls := hown
  have hl : lv_has ls 1 [(0, .ref u)] := hl
  refine lv_aload_n hx hb d_U_isEmpty_0 rfl (lv_at hl 0 rfl) ?_
  refine t_getP hx hb hts inU hown (wC_R hC) hu rfl 3 (by decide) (hts _ w_66) (fun _ h => h) d_U_isEmpty_1 ?_
  refine lv_if_ne (tgt := 11) hx hb d_U_isEmpty_4 (by decide) (fun c4 => ?_) (fun c4 => ?_)
  · skip
    refine lv_iconst (v := 0) hx hb d_U_isEmpty_11 (by decide) ?_
    exact t_zret hx hb hr hlk (Or.inl rfl) zz_c hC (⟨by first | rfl | (simp only [bI, *]; rfl) | (simp [bI, *]; done) | (simp_all [bI, Int32.not_lt, Int32.not_le]; done) | (unfold bI; simp only [Int32.lt_iff_toInt_lt, Int32.le_iff_toInt_le] at *; split <;> first | rfl | (exfalso; omega)), rfl⟩) (Nat.le_of_ble_eq_true rfl) (Nat.le_of_ble_eq_true rfl) d_U_isEmpty_12
  · skip
    refine lv_iconst (v := 1) hx hb d_U_isEmpty_7 (by decide) ?_
    refine lv_goto (tgt := 12) hx hb d_U_isEmpty_8 (by decide) ?_
    exact t_zret hx hb hr hlk (Or.inr rfl) zz_c hC (⟨by first | rfl | (simp only [bI, *]; rfl) | (simp [bI, *]; done) | (simp_all [bI, Int32.not_lt, Int32.not_le]; done) | (unfold bI; simp only [Int32.lt_iff_toInt_lt, Int32.le_iff_toInt_le] at *; split <;> first | rfl | (exfalso; omega)), rfl⟩) (Nat.le_of_ble_eq_true rfl) (Nat.le_of_ble_eq_true rfl) d_U_isEmpty_12

set_option maxRecDepth 100000 in
set_option maxHeartbeats 4000000 in
theorem c_U_become {l : Launch} {D : va_G} {A : Nat → Prop} {e0 : Nat → Nat} {K : Nat → Nat} {ca : Nat → ClassId} {RL LP : List Nat} {fv FR : Nat → RW} {day ever mo n : Int32} {ea : Nat} {wr : Int32} {ch : Int64} {ring : Nat → Int32} {rest : va_W} {u : Nat} {tg cu da ac : Int32} (hu : u ∈ RL) (hb01 : cu = 0 ∨ cu = 1) : tM l y_U_become tb ({ frames := 0, cells := 0, slots := 0, locals := 0 }) D cls (ty0 ca) A (zz e0 A) [.ref u, .int tg, .int cu, .int da, .int ac] (wC K ca RL LP fv FR day ever mo n ea wr ch ring rest) (fun v w2 => v = none ∧ w2 = wC K ca RL LP fv (va_up FR u (upd (upd (upd (upd (FR u) 0 tg) 1 cu) 2 da) 3 ac)) day ever mo n ea wr ch ring rest) (xN) := by
  refine t_ofW (by decide) w_485 (Nat.le_of_ble_eq_true rfl) ?_
  intro p e s m below meth c ls hx hb hr hts hown hlk hnm hml hex hl hC
  have hown : s.vm.findClass "RetentionVault$Rule" = some m.cls := hown
  have hl : lv_has ls 5 [(0, .ref u), (1, .int tg), (2, .int cu), (3, .int da), (4, .int ac)] := hl
  refine lv_aload_n hx hb d_U_become_0 rfl (lv_at hl 0 rfl) ?_
  refine lv_iload_n hx hb d_U_become_1 rfl (lv_at hl 1 rfl) ?_
  refine t_putP (ty := .int) hx hb hts inU TU tyU nmU hown (wC_R hC) hu rfl 0 (by decide) (hts _ w_63) (fun _ h => h) (Or.inl rfl) (by decide +kernel) rfl rfl d_U_become_2 (fun H locs hC => ?_)
  have hC := wC_ofR hC
  have hC : tC D cls (ty0 ca) A (zz e0 A) s (wC K ca RL LP fv (va_up FR u (upd (FR u) 0 tg)) day ever mo n ea wr ch ring rest) H locs := hC
  refine lv_aload_n hx hb d_U_become_5 rfl (lv_at hl 0 rfl) ?_
  refine lv_iload_n hx hb d_U_become_6 rfl (lv_at hl 2 rfl) ?_
  refine t_putP (ty := .boolean) hx hb hts inU TU tyU nmU hown (wC_R hC) hu rfl 1 (by decide) (hts _ w_64) (fun _ h => h) (Or.inl rfl) (by decide +kernel) (by rcases hb01 with rfl | rfl <;> rfl) (by rcases hb01 with rfl | rfl <;> rfl) d_U_become_7 (fun H locs hC => ?_)
  have hC := wC_ofR hC
  have hC : tC D cls (ty0 ca) A (zz e0 A) s (wC K ca RL LP fv (va_up (va_up FR u (upd (FR u) 0 tg)) u (upd ((va_up FR u (upd (FR u) 0 tg)) u) 1 cu)) day ever mo n ea wr ch ring rest) H locs := hC
  refine lv_aload_n hx hb d_U_become_10 rfl (lv_at hl 0 rfl) ?_
  refine lv_iload_n hx hb d_U_become_11 rfl (lv_at hl 3 rfl) ?_
  refine t_putP (ty := .int) hx hb hts inU TU tyU nmU hown (wC_R hC) hu rfl 2 (by decide) (hts _ w_65) (fun _ h => h) (Or.inl rfl) (by decide +kernel) rfl rfl d_U_become_12 (fun H locs hC => ?_)
  have hC := wC_ofR hC
  have hC : tC D cls (ty0 ca) A (zz e0 A) s (wC K ca RL LP fv (va_up (va_up (va_up FR u (upd (FR u) 0 tg)) u (upd ((va_up FR u (upd (FR u) 0 tg)) u) 1 cu)) u (upd ((va_up (va_up FR u (upd (FR u) 0 tg)) u (upd ((va_up FR u (upd (FR u) 0 tg)) u) 1 cu)) u) 2 da)) day ever mo n ea wr ch ring rest) H locs := hC
  refine lv_aload_n hx hb d_U_become_15 rfl (lv_at hl 0 rfl) ?_
  refine lv_iload hx hb d_U_become_16 (lv_at hl 4 rfl) ?_
  refine t_putP (ty := .int) hx hb hts inU TU tyU nmU hown (wC_R hC) hu rfl 3 (by decide) (hts _ w_66) (fun _ h => h) (Or.inl rfl) (by decide +kernel) rfl rfl d_U_become_18 (fun H locs hC => ?_)
  have hC := wC_ofR hC
  have hC : tC D cls (ty0 ca) A (zz e0 A) s (wC K ca RL LP fv (va_up (va_up (va_up (va_up FR u (upd (FR u) 0 tg)) u (upd ((va_up FR u (upd (FR u) 0 tg)) u) 1 cu)) u (upd ((va_up (va_up FR u (upd (FR u) 0 tg)) u (upd ((va_up FR u (upd (FR u) 0 tg)) u) 1 cu)) u) 2 da)) u (upd ((va_up (va_up (va_up FR u (upd (FR u) 0 tg)) u (upd ((va_up FR u (upd (FR u) 0 tg)) u) 1 cu)) u (upd ((va_up (va_up FR u (upd (FR u) 0 tg)) u (upd ((va_up FR u (upd (FR u) 0 tg)) u) 1 cu)) u) 2 da)) u) 3 ac)) day ever mo n ea wr ch ring rest) H locs := hC
  exact t_vret hx hb hr hlk zz_c hC (⟨rfl, up_fold4⟩) (Nat.le_of_ble_eq_true rfl) (Nat.le_of_ble_eq_true rfl) d_U_become_21

set_option maxRecDepth 100000 in
set_option maxHeartbeats 4000000 in
theorem c_U_isDue {l : Launch} {D : va_G} {A : Nat → Prop} {e0 : Nat → Nat} {K : Nat → Nat} {ca : Nat → ClassId} {RL LP : List Nat} {fv FR : Nat → RW} {day ever mo n : Int32} {ea : Nat} {wr : Int32} {ch : Int64} {ring : Nat → Int32} {rest : va_W} {u a : Nat} {today : Int32} (hu : u ∈ RL) (ha : a ∈ LP) : tM l y_U_isDue tb ({ frames := 1, cells := 0, slots := 0, locals := 20 }) D cls (ty0 ca) A (zz e0 A) [.ref u, .ref a, .int today] (wC K ca RL LP fv FR day ever mo n ea wr ch ring rest) (pR (.int (bI (FR u 3 ≠ 0 ∧ (FR u 0 = -1 ∨ FR u 0 = fv a 4) ∧ FR u 1 = fv a 6 ∧ ¬ today < (if fv a 6 = 0 then fv a 7 else fv a 2) + FR u 2))) (wC K ca RL LP fv FR day ever mo n ea wr ch ring rest)) (xN) := by
  refine t_ofW (by decide) w_539 (Nat.le_of_ble_eq_true rfl) ?_
  intro p e s m below meth c ls hx hb hr hts hown hlk hnm hml hex hl hC
  have hown : s.vm.findClass "RetentionVault$Rule" = some m.cls := hown
  have hl : lv_has ls 3 [(0, .ref u), (1, .ref a), (2, .int today)] := hl
  refine lv_aload_n hx hb d_U_isDue_0 rfl (lv_at hl 0 rfl) ?_
  refine t_call (t_invV (As := []) (rest := []) hx hb hown (hts _ w_540) (hts _ w_494) (hts _ w_495) (hts _ w_496) ⟨by decide, by decide⟩ (t_recvP (wC_R hC) hu rfl rfl) rfl d_U_isDue_1) (c_U_isEmpty hu) zz_c tb_good hts w_5 hC (hl.1.trans hml.symm) ⟨Nat.le_of_ble_eq_true rfl, Nat.le_of_ble_eq_true rfl, Nat.le_of_ble_eq_true rfl, Nat.le_of_ble_eq_true rfl⟩ (Nat.le_of_ble_eq_true rfl) (fun E q ce w1 H1 l1 hp => hp.elim) (fun v w1 H locs hp hC => ?_)
  obtain ⟨rfl, hwe9⟩ := hp
  rw [hwe9] at hC
  have hC : tC D cls (ty0 ca) A (zz e0 A) s (wC K ca RL LP fv FR day ever mo n ea wr ch ring rest) H locs := hC
  refine W.eq (g2 := F0 m 4 ls [.int (bI (FR u 3 = 0))]) rfl ?_
  refine lv_if_ne (tgt := 54) hx hb d_U_isDue_4 (by decide) (fun c4 => ?_) (fun c4 => ?_)
  · skip
    refine lv_iconst (v := 0) hx hb d_U_isDue_54 (by decide) ?_
    exact t_zret hx hb hr hlk (Or.inl rfl) zz_c hC (⟨by first | rfl | (simp only [bI, *]; rfl) | (simp [bI, *]; done) | (simp_all [bI, Int32.not_lt, Int32.not_le]; done) | (unfold bI; simp only [Int32.lt_iff_toInt_lt, Int32.le_iff_toInt_le] at *; split <;> first | rfl | (exfalso; omega)), rfl⟩) (Nat.le_of_ble_eq_true rfl) (Nat.le_of_ble_eq_true rfl) d_U_isDue_55
  · skip
    refine lv_aload_n hx hb d_U_isDue_7 rfl (lv_at hl 0 rfl) ?_
    refine t_getP hx hb hts inU hown (wC_R hC) hu rfl 0 (by decide) (hts _ w_63) (fun _ h => h) d_U_isDue_8 ?_
    refine lv_iconst (v := (-1)) hx hb d_U_isDue_11 (by decide) ?_
    refine lv_icmp_eq (tgt := 26) hx hb d_U_isDue_12 (by decide) (fun c12 => ?_) (fun c12 => ?_)
    · skip
      refine lv_aload_n hx hb d_U_isDue_26 rfl (lv_at hl 0 rfl) ?_
      refine t_getP hx hb hts inU hown (wC_R hC) hu rfl 1 (by decide) (hts _ w_64) (fun _ h => h) d_U_isDue_27 ?_
      refine lv_aload_n hx hb d_U_isDue_30 rfl (lv_at hl 1 rfl) ?_
      refine t_getP hx hb hts inN hown hC ha rfl 6 (by decide) (hts _ w_248) (fun _ h => h) d_U_isDue_31 ?_
      refine lv_icmp_ne (tgt := 54) hx hb d_U_isDue_34 (by decide) (fun c34 => ?_) (fun c34 => ?_)
      · skip
        refine lv_iconst (v := 0) hx hb d_U_isDue_54 (by decide) ?_
        exact t_zret hx hb hr hlk (Or.inl rfl) zz_c hC (⟨by first | rfl | (simp only [bI, *]; rfl) | (simp [bI, *]; done) | (simp_all [bI, Int32.not_lt, Int32.not_le]; done) | (unfold bI; simp only [Int32.lt_iff_toInt_lt, Int32.le_iff_toInt_le] at *; split <;> first | rfl | (exfalso; omega)), rfl⟩) (Nat.le_of_ble_eq_true rfl) (Nat.le_of_ble_eq_true rfl) d_U_isDue_55
      · skip
        refine lv_iload_n hx hb d_U_isDue_37 rfl (lv_at hl 2 rfl) ?_
        refine lv_aload_n hx hb d_U_isDue_38 rfl (lv_at hl 1 rfl) ?_
        refine t_call (t_invV (As := []) (rest := [.int today]) hx hb hown (hts _ w_541) (hts _ w_542) (hts _ w_543) (hts _ w_544) ⟨by decide, by decide⟩ (t_recvP hC ha rfl rfl) rfl d_U_isDue_39) (c_N_since zz_c ha) zz_c tb_good hts w_13 hC (hl.1.trans hml.symm) ⟨Nat.le_of_ble_eq_true rfl, Nat.le_of_ble_eq_true rfl, Nat.le_of_ble_eq_true rfl, Nat.le_of_ble_eq_true rfl⟩ (Nat.le_of_ble_eq_true rfl) (fun E q ce w1 H1 l1 hp => hp.elim) (fun v w1 H locs hp hC => ?_)
        obtain ⟨rfl, hwe9⟩ := hp
        rw [hwe9] at hC
        have hC : tC D cls (ty0 ca) A (zz e0 A) s (wC K ca RL LP fv FR day ever mo n ea wr ch ring rest) H locs := hC
        refine W.eq (g2 := F0 m 42 ls [.int (if fv a 6 = 0 then fv a 7 else fv a 2), .int today]) rfl ?_
        refine lv_aload_n hx hb d_U_isDue_42 rfl (lv_at hl 0 rfl) ?_
        refine t_getP hx hb hts inU hown (wC_R hC) hu rfl 2 (by decide) (hts _ w_65) (fun _ h => h) d_U_isDue_43 ?_
        refine lv_iadd hx hb d_U_isDue_46 ?_
        refine lv_icmp_lt (tgt := 54) hx hb d_U_isDue_47 (by decide) (fun c47 => ?_) (fun c47 => ?_)
        · skip
          refine lv_iconst (v := 0) hx hb d_U_isDue_54 (by decide) ?_
          exact t_zret hx hb hr hlk (Or.inl rfl) zz_c hC (⟨by first | rfl | (simp only [bI, *]; rfl) | (simp [bI, *]; done) | (simp_all [bI, Int32.not_lt, Int32.not_le]; done) | (unfold bI; simp only [Int32.lt_iff_toInt_lt, Int32.le_iff_toInt_le] at *; split <;> first | rfl | (exfalso; omega)), rfl⟩) (Nat.le_of_ble_eq_true rfl) (Nat.le_of_ble_eq_true rfl) d_U_isDue_55
        · skip
          refine lv_iconst (v := 1) hx hb d_U_isDue_50 (by decide) ?_
          refine lv_goto (tgt := 55) hx hb d_U_isDue_51 (by decide) ?_
          exact t_zret hx hb hr hlk (Or.inr rfl) zz_c hC (⟨by first | rfl | (simp only [bI, *]; rfl) | (simp [bI, *]; done) | (simp_all [bI, Int32.not_lt, Int32.not_le]; done) | (unfold bI; simp only [Int32.lt_iff_toInt_lt, Int32.le_iff_toInt_le] at *; split <;> first | rfl | (exfalso; omega)), rfl⟩) (Nat.le_of_ble_eq_true rfl) (Nat.le_of_ble_eq_true rfl) d_U_isDue_55
    · skip
      refine lv_aload_n hx hb d_U_isDue_15 rfl (lv_at hl 0 rfl) ?_
      refine t_getP hx hb hts inU hown (wC_R hC) hu rfl 0 (by decide) (hts _ w_63) (fun _ h => h) d_U_isDue_16 ?_
      refine lv_aload_n hx hb d_U_isDue_19 rfl (lv_at hl 1 rfl) ?_
      refine t_getP hx hb hts inN hown hC ha rfl 4 (by decide) (hts _ w_244) (fun _ h => h) d_U_isDue_20 ?_
      refine lv_icmp_ne (tgt := 54) hx hb d_U_isDue_23 (by decide) (fun c23 => ?_) (fun c23 => ?_)
      · skip
        refine lv_iconst (v := 0) hx hb d_U_isDue_54 (by decide) ?_
        exact t_zret hx hb hr hlk (Or.inl rfl) zz_c hC (⟨by first | rfl | (simp only [bI, *]; rfl) | (simp [bI, *]; done) | (simp_all [bI, Int32.not_lt, Int32.not_le]; done) | (unfold bI; simp only [Int32.lt_iff_toInt_lt, Int32.le_iff_toInt_le] at *; split <;> first | rfl | (exfalso; omega)), rfl⟩) (Nat.le_of_ble_eq_true rfl) (Nat.le_of_ble_eq_true rfl) d_U_isDue_55
      · skip
        refine lv_aload_n hx hb d_U_isDue_26 rfl (lv_at hl 0 rfl) ?_
        refine t_getP hx hb hts inU hown (wC_R hC) hu rfl 1 (by decide) (hts _ w_64) (fun _ h => h) d_U_isDue_27 ?_
        refine lv_aload_n hx hb d_U_isDue_30 rfl (lv_at hl 1 rfl) ?_
        refine t_getP hx hb hts inN hown hC ha rfl 6 (by decide) (hts _ w_248) (fun _ h => h) d_U_isDue_31 ?_
        refine lv_icmp_ne (tgt := 54) hx hb d_U_isDue_34 (by decide) (fun c34 => ?_) (fun c34 => ?_)
        · skip
          refine lv_iconst (v := 0) hx hb d_U_isDue_54 (by decide) ?_
          exact t_zret hx hb hr hlk (Or.inl rfl) zz_c hC (⟨by first | rfl | (simp only [bI, *]; rfl) | (simp [bI, *]; done) | (simp_all [bI, Int32.not_lt, Int32.not_le]; done) | (unfold bI; simp only [Int32.lt_iff_toInt_lt, Int32.le_iff_toInt_le] at *; split <;> first | rfl | (exfalso; omega)), rfl⟩) (Nat.le_of_ble_eq_true rfl) (Nat.le_of_ble_eq_true rfl) d_U_isDue_55
        · skip
          refine lv_iload_n hx hb d_U_isDue_37 rfl (lv_at hl 2 rfl) ?_
          refine lv_aload_n hx hb d_U_isDue_38 rfl (lv_at hl 1 rfl) ?_
          refine t_call (t_invV (As := []) (rest := [.int today]) hx hb hown (hts _ w_541) (hts _ w_542) (hts _ w_543) (hts _ w_544) ⟨by decide, by decide⟩ (t_recvP hC ha rfl rfl) rfl d_U_isDue_39) (c_N_since zz_c ha) zz_c tb_good hts w_13 hC (hl.1.trans hml.symm) ⟨Nat.le_of_ble_eq_true rfl, Nat.le_of_ble_eq_true rfl, Nat.le_of_ble_eq_true rfl, Nat.le_of_ble_eq_true rfl⟩ (Nat.le_of_ble_eq_true rfl) (fun E q ce w1 H1 l1 hp => hp.elim) (fun v w1 H locs hp hC => ?_)
          obtain ⟨rfl, hwe9⟩ := hp
          rw [hwe9] at hC
          have hC : tC D cls (ty0 ca) A (zz e0 A) s (wC K ca RL LP fv FR day ever mo n ea wr ch ring rest) H locs := hC
          refine W.eq (g2 := F0 m 42 ls [.int (if fv a 6 = 0 then fv a 7 else fv a 2), .int today]) rfl ?_
          refine lv_aload_n hx hb d_U_isDue_42 rfl (lv_at hl 0 rfl) ?_
          refine t_getP hx hb hts inU hown (wC_R hC) hu rfl 2 (by decide) (hts _ w_65) (fun _ h => h) d_U_isDue_43 ?_
          refine lv_iadd hx hb d_U_isDue_46 ?_
          refine lv_icmp_lt (tgt := 54) hx hb d_U_isDue_47 (by decide) (fun c47 => ?_) (fun c47 => ?_)
          · skip
            refine lv_iconst (v := 0) hx hb d_U_isDue_54 (by decide) ?_
            exact t_zret hx hb hr hlk (Or.inl rfl) zz_c hC (⟨by first | rfl | (simp only [bI, *]; rfl) | (simp [bI, *]; done) | (simp_all [bI, Int32.not_lt, Int32.not_le]; done) | (unfold bI; simp only [Int32.lt_iff_toInt_lt, Int32.le_iff_toInt_le] at *; split <;> first | rfl | (exfalso; omega)), rfl⟩) (Nat.le_of_ble_eq_true rfl) (Nat.le_of_ble_eq_true rfl) d_U_isDue_55
          · skip
            refine lv_iconst (v := 1) hx hb d_U_isDue_50 (by decide) ?_
            refine lv_goto (tgt := 55) hx hb d_U_isDue_51 (by decide) ?_
            exact t_zret hx hb hr hlk (Or.inr rfl) zz_c hC (⟨by first | rfl | (simp only [bI, *]; rfl) | (simp [bI, *]; done) | (simp_all [bI, Int32.not_lt, Int32.not_le]; done) | (unfold bI; simp only [Int32.lt_iff_toInt_lt, Int32.le_iff_toInt_le] at *; split <;> first | rfl | (exfalso; omega)), rfl⟩) (Nat.le_of_ble_eq_true rfl) (Nat.le_of_ble_eq_true rfl) d_U_isDue_55
