/-! The law's helpers. Laid by program (wip/whole/p38.py) -/
section WX
variable {D : va_G} {cl : List vw_C} {tys : List (ClassId × FieldType)} {A : Nat → Prop} {Z : State → Heap → Prop} {s : State} {H : Heap} {locs : List Loc} {K : Nat → Nat} {ca : Nat → ClassId} {RL LP : List Nat} {fv FR : Nat → RW} {day ever mo n : Int32} {ea : Nat} {wr : Int32} {ch : Int64} {ring : Nat → Int32} {eo rest : va_W} {x : Nat × va_E}
theorem wX_perm : (wC K ca RL LP fv FR day ever mo n ea wr ch ring (eo ++ (x :: rest))).Perm (x :: wC K ca RL LP fv FR day ever mo n ea wr ch ring (eo ++ rest)) :=
  List.Perm.trans (List.Perm.append_left _ (List.Perm.append_left _ (List.Perm.append_left _ List.perm_middle))) wC_perm
theorem wX_in (hC : tC D cl tys A Z s (x :: wC K ca RL LP fv FR day ever mo n ea wr ch ring (eo ++ rest)) H locs) : tC D cl tys A Z s (wC K ca RL LP fv FR day ever mo n ea wr ch ring (eo ++ (x :: rest))) H locs := t_perm wX_perm.symm hC
theorem wX_out (hC : tC D cl tys A Z s (wC K ca RL LP fv FR day ever mo n ea wr ch ring (eo ++ (x :: rest))) H locs) : tC D cl tys A Z s (x :: wC K ca RL LP fv FR day ever mo n ea wr ch ring (eo ++ rest)) H locs := t_perm wX_perm hC
theorem zz_Xc {e0 : Nat → Nat} {U : State} (h : zz e0 A U H) {a b : String} (hk : (a, b) ∈ zX) : va_Nc a b U := h.2.2.2.2.2.2.2.2.1 (a, b) hk
theorem zz_cc {e0 : Nat → Nat} {U : State} (h : zz e0 A U H) {a b : String} (hk : (a, b) ∈ zC) {ar : Array Value} : (Cond.castable a b).before ar U = true := va_Nw.use rfl (h.2.2.2.2.1 (a, b) hk)
end WX
theorem n_rule_bad {day ru tg cu da ac : Int32} {Rs : List RW} {S S' : PS} (h : o_rule day ru tg da ac S = (1, 0, S')) : n_rule ru tg cu da ac Rs = Rs := by
  unfold o_rule at h
  by_cases q : r_ok ru tg da ac
  · rw [if_pos q] at h
    exact absurd (congrArg Prod.fst h) (show ¬ (0 : Int32) = 1 by decide)
  · exact if_neg q
theorem n_unrule_bad {day ru : Int32} {Rs R2 : List RW} {S S' : PS} (h : o_unrule day ru R2 S = (1, 0, S')) : n_unrule ru Rs = Rs := by
  unfold o_unrule at h
  by_cases q : 0 ≤ ru ∧ ru ≤ 5
  · rw [if_pos q] at h
    split at h
    · exact absurd (congrArg Prod.fst h) (show ¬ (0 : Int32) = 1 by decide)
    · exact absurd (congrArg Prod.fst h) (show ¬ (0 : Int32) = 1 by decide)
  · exact if_neg q
theorem d_tick_bad {day da : Int32} {Rs : List RW} {S S' : PS} (h : o_tick day da Rs S = (1, 0, S')) : d_tick day da = day := by
  unfold o_tick at h
  by_cases q : 0 ≤ da ∧ da ≤ 1000
  · rw [if_pos q] at h
    exact absurd (congrArg Prod.fst h) (show ¬ (0 : Int32) = 1 by decide)
  · exact if_neg q
theorem o_hold_01 {day v k on : Int32} {S : PS} : (o_hold day v k on S).2.1 = 0 ∨ (o_hold day v k on S).2.1 = 1 := by
  unfold o_hold
  split
  · exact Or.inl rfl
  · split
    · split
      · exact Or.inl rfl
      · exact Or.inr rfl
    · exact Or.inl rfl
theorem o_unrule_01 {day ru : Int32} {Rs : List RW} {S : PS} : (o_unrule day ru Rs S).2.1 = 0 ∨ (o_unrule day ru Rs S).2.1 = 1 := by
  unfold o_unrule
  split
  · split
    · exact Or.inl rfl
    · exact Or.inr rfl
  · exact Or.inl rfl
theorem updL0 {g : Nat → Int64} {x : Int64} : vp_updL g (0 : Int32).toNatClampNeg x 0 = x := if_pos (by decide)

set_option maxRecDepth 100000 in
set_option maxHeartbeats 4000000 in
theorem c_W_put {l : Launch} (hst : l.stackTraces = false) {D : va_G} {A : Nat → Prop} {e0 : Nat → Nat} {K : Nat → Nat} {ca : Nat → ClassId} {RL LP : List Nat} {fv FR : Nat → RW} {day mo : Int32} {ea : Nat} {ch : Int64} {ring : Nat → Int32} {rest : va_W} {vs : List Nat} {eo : va_W} (hI : cI e0 ca vs LP ea eo) {w9 ev9 : Nat} (hPI : PI (vs.map fv, (ring, w9, ch), ev9)) (hw9 : w9 < 2 ^ 31) {k9 si9 tg9 : Int32} {ao : Nat} {g : Nat → Int64} : tM l y_W_put tb ({ frames := 9, cells := 4, slots := 85, locals := 217 }) D cls (ty0 ca) A (zz e0 A) [.ref (K 0), .int k9, .int si9, .int tg9, .ref ao] ((ao, .inl (ca 2, 1, .inr (.inl g))) :: wC K ca RL LP fv FR day (nI ev9) mo (nI vs.length) ea (nI w9) ch ring (eo ++ rest)) (fun v w2 => v = some (.int (o_put day k9 si9 tg9 (vs.map fv, (ring, w9, ch), ev9)).1) ∧ ∃ g2 w3, ((o_put day k9 si9 tg9 (vs.map fv, (ring, w9, ch), ev9)).1 = 0 → g2 0 = (o_put day k9 si9 tg9 (vs.map fv, (ring, w9, ch), ev9)).2.1.toInt64) ∧ cW e0 K ca RL (RL.map FR) rest day (o_put day k9 si9 tg9 (vs.map fv, (ring, w9, ch), ev9)).2.2 w3 ∧ w2 = (ao, .inl (ca 2, 1, .inr (.inl g2))) :: w3) xN := by
  refine t_ofWT (by decide) w_119 (Nat.le_of_ble_eq_true rfl) ?_
  intro p e s m below meth c ls hx hb hr hts hown hlk hnm hml hex hl hC
  have hown : s.vm.findClass "RetentionVaultLaw" = some m.cls := hown
  have hl : lv_has ls 6 [(0, .ref (K 0)), (1, .int k9), (2, .int si9), (3, .int tg9), (4, .ref ao)] := hl
  have hex : c.exceptionTable.toList = [⟨0, 12, 15, 13⟩, ⟨0, 12, 19, 15⟩] := hex
  refine lv_aload hx hb d_W_put_0 (lv_at hl 4 rfl) ?_
  refine lv_iconst (v := 0) hx hb d_W_put_2 (by decide) ?_
  refine lv_aload_n hx hb d_W_put_3 rfl (lv_at hl 0 rfl) ?_
  refine lv_iload_n hx hb d_W_put_4 rfl (lv_at hl 1 rfl) ?_
  refine lv_iload_n hx hb d_W_put_5 rfl (lv_at hl 2 rfl) ?_
  refine lv_iload_n hx hb d_W_put_6 rfl (lv_at hl 3 rfl) ?_
  refine t_call (t_invV (As := [.int k9, .int si9, .int tg9]) (rest := [.int 0, .ref ao]) hx hb hown (hts _ w_122) (hts _ w_123) (hts _ w_124) (hts _ w_125) ⟨by decide, by decide⟩ (t_recv (q0 := 1) hC rfl rfl) rfl d_W_put_7) (c_V_putO hst hI hPI hw9) zz_c tb_good hts w_1 (wX_in hC) (hl.1.trans hml.symm) ⟨Nat.le_of_ble_eq_true rfl, Nat.le_of_ble_eq_true rfl, Nat.le_of_ble_eq_true rfl, Nat.le_of_ble_eq_true rfl⟩ (Nat.le_of_ble_eq_true rfl) (fun E q9 ce w1 H locs hp hC hce hcv hcl => ?_) (fun v w1 H locs hp hC => ?_)
  · obtain ⟨hwe9, hp⟩ := hp
    rw [hwe9] at hC
    have hC := wX_out hC
    rcases hp with ⟨rfl, ho⟩ | ⟨rfl, ho⟩
    · skip
      refine t_catch (own := "RetentionVaultLaw") (name := "java/lang/IllegalArgumentException") hown [] ⟨0, 12, 15, 13⟩ [⟨0, 12, 19, 15⟩] hex (fun z hz => absurd hz List.not_mem_nil) (by decide) (by decide) (hts _ w_120) (zz_cc hC.2.2.2.2.2 (by decide +kernel)) hce hcv hcl ?_
      refine W.eq (g2 := F0 m 15 ls [.ref q9]) rfl ?_
      refine lv_astore (lv' := [(5, .ref q9), (0, .ref (K 0)), (1, .int k9), (2, .int si9), (3, .int tg9), (4, .ref ao)]) hx hb d_W_put_15 hl (by decide) rfl (fun ls hl => ?_)
      refine lv_iconst (v := 1) hx hb d_W_put_17 (by decide) ?_
      exact t_iret hx hb hr hlk zz_c hC (⟨by rw [ho], g, _, fun h => absurd h (by rw [ho]; show ¬ (1 : Int32) = 0; decide), by rw [ho]; exact ⟨FR, vs, LP, fv, mo, ea, eo, rfl, hI, rfl, rfl⟩, rfl⟩) (Nat.le_of_ble_eq_true rfl) (Nat.le_of_ble_eq_true rfl) d_W_put_18
    · skip
      refine t_catch (own := "RetentionVaultLaw") (name := "java/lang/IllegalStateException") hown [⟨0, 12, 15, 13⟩] ⟨0, 12, 19, 15⟩ [] hex (List.forall_mem_cons.mpr ⟨⟨by decide, by decide, "java/lang/IllegalArgumentException", hts _ w_120, zz_Xc hC.2.2.2.2.2 (by decide +kernel)⟩, fun z hz => absurd hz List.not_mem_nil⟩) (by decide) (by decide) (hts _ w_121) (zz_cc hC.2.2.2.2.2 (by decide +kernel)) hce hcv hcl ?_
      refine W.eq (g2 := F0 m 19 ls [.ref q9]) rfl ?_
      refine lv_astore (lv' := [(5, .ref q9), (0, .ref (K 0)), (1, .int k9), (2, .int si9), (3, .int tg9), (4, .ref ao)]) hx hb d_W_put_19 hl (by decide) rfl (fun ls hl => ?_)
      refine lv_iconst (v := 2) hx hb d_W_put_21 (by decide) ?_
      exact t_iret hx hb hr hlk zz_c hC (⟨by rw [ho], g, _, fun h => absurd h (by rw [ho]; show ¬ (2 : Int32) = 0; decide), by rw [ho]; exact ⟨FR, vs, LP, fv, mo, ea, eo, rfl, hI, rfl, rfl⟩, rfl⟩) (Nat.le_of_ble_eq_true rfl) (Nat.le_of_ble_eq_true rfl) d_W_put_22
  · obtain ⟨h0, rfl, FR2, vs2, LP2, fv2, mo2, ea2, eo2, hRs2, hI2, hrow2, hwe9⟩ := hp
    rw [hwe9] at hC
    have hC := wX_out hC
    refine W.eq (g2 := F0 m 10 ls [.int (o_put day k9 si9 tg9 (vs.map fv, (ring, w9, ch), ev9)).2.1, .int 0, .ref ao]) rfl ?_
    refine lv_i2l (v := (o_put day k9 si9 tg9 (vs.map fv, (ring, w9, ch), ev9)).2.1.toInt64) hx hb d_W_put_10 rfl ?_
    refine t_last hx hb hC 0 2 rfl rfl (show vp_in (0 : Int32) 1 from vp_in_nI (n := 0) (by decide) (by decide)) d_W_put_11 (fun H locs hC => ?_)
    refine lv_goto (tgt := 23) hx hb d_W_put_12 (by decide) ?_
    refine lv_iconst (v := 0) hx hb d_W_put_23 (by decide) ?_
    exact t_iret hx hb hr hlk zz_c hC (⟨by rw [h0], _, _, fun _ => updL0, ⟨FR2, vs2, LP2, fv2, mo2, ea2, eo2, hRs2, hI2, hrow2, rfl⟩, rfl⟩) (Nat.le_of_ble_eq_true rfl) (Nat.le_of_ble_eq_true rfl) d_W_put_24

set_option maxRecDepth 100000 in
set_option maxHeartbeats 4000000 in
theorem c_W_mark {l : Launch} (hst : l.stackTraces = false) {D : va_G} {A : Nat → Prop} {e0 : Nat → Nat} {K : Nat → Nat} {ca : Nat → ClassId} {RL LP : List Nat} {fv FR : Nat → RW} {day mo : Int32} {ea : Nat} {ch : Int64} {ring : Nat → Int32} {rest : va_W} {vs : List Nat} {eo : va_W} (hI : cI e0 ca vs LP ea eo) {w9 ev9 : Nat} (hPI : PI (vs.map fv, (ring, w9, ch), ev9)) (hw9 : w9 < 2 ^ 31) {k9 : Int32} {ao : Nat} {g : Nat → Int64} : tM l y_W_mark tb ({ frames := 9, cells := 4, slots := 85, locals := 214 }) D cls (ty0 ca) A (zz e0 A) [.ref (K 0), .int k9, .ref ao] ((ao, .inl (ca 2, 1, .inr (.inl g))) :: wC K ca RL LP fv FR day (nI ev9) mo (nI vs.length) ea (nI w9) ch ring (eo ++ rest)) (fun v w2 => v = some (.int (o_mark day k9 (vs.map fv, (ring, w9, ch), ev9)).1) ∧ ∃ g2 w3, ((o_mark day k9 (vs.map fv, (ring, w9, ch), ev9)).1 = 0 → g2 0 = (o_mark day k9 (vs.map fv, (ring, w9, ch), ev9)).2.1.toInt64) ∧ cW e0 K ca RL (RL.map FR) rest day (o_mark day k9 (vs.map fv, (ring, w9, ch), ev9)).2.2 w3 ∧ w2 = (ao, .inl (ca 2, 1, .inr (.inl g2))) :: w3) xN := by
  refine t_ofWT (by decide) w_390 (Nat.le_of_ble_eq_true rfl) ?_
  intro p e s m below meth c ls hx hb hr hts hown hlk hnm hml hex hl hC
  have hown : s.vm.findClass "RetentionVaultLaw" = some m.cls := hown
  have hl : lv_has ls 4 [(0, .ref (K 0)), (1, .int k9), (2, .ref ao)] := hl
  have hex : c.exceptionTable.toList = [⟨0, 9, 12, 21⟩, ⟨0, 9, 15, 15⟩] := hex
  refine lv_aload_n hx hb d_W_mark_0 rfl (lv_at hl 2 rfl) ?_
  refine lv_iconst (v := 0) hx hb d_W_mark_1 (by decide) ?_
  refine lv_aload_n hx hb d_W_mark_2 rfl (lv_at hl 0 rfl) ?_
  refine lv_iload_n hx hb d_W_mark_3 rfl (lv_at hl 1 rfl) ?_
  refine t_call (t_invV (As := [.int k9]) (rest := [.int 0, .ref ao]) hx hb hown (hts _ w_392) (hts _ w_393) (hts _ w_394) (hts _ w_395) ⟨by decide, by decide⟩ (t_recv (q0 := 1) hC rfl rfl) rfl d_W_mark_4) (c_V_markO hst hI hPI hw9) zz_c tb_good hts w_1 (wX_in hC) (hl.1.trans hml.symm) ⟨Nat.le_of_ble_eq_true rfl, Nat.le_of_ble_eq_true rfl, Nat.le_of_ble_eq_true rfl, Nat.le_of_ble_eq_true rfl⟩ (Nat.le_of_ble_eq_true rfl) (fun E q9 ce w1 H locs hp hC hce hcv hcl => ?_) (fun v w1 H locs hp hC => ?_)
  · obtain ⟨hwe9, hp⟩ := hp
    rw [hwe9] at hC
    have hC := wX_out hC
    rcases hp with ⟨rfl, ho⟩ | ⟨rfl, ho⟩
    · skip
      refine t_catch (own := "RetentionVaultLaw") (name := "java/util/NoSuchElementException") hown [] ⟨0, 9, 12, 21⟩ [⟨0, 9, 15, 15⟩] hex (fun z hz => absurd hz List.not_mem_nil) (by decide) (by decide) (hts _ w_391) (zz_cc hC.2.2.2.2.2 (by decide +kernel)) hce hcv hcl ?_
      refine W.eq (g2 := F0 m 12 ls [.ref q9]) rfl ?_
      refine lv_astore_n (lv' := [(3, .ref q9), (0, .ref (K 0)), (1, .int k9), (2, .ref ao)]) hx hb d_W_mark_12 rfl hl (by decide) rfl (fun ls hl => ?_)
      refine lv_iconst (v := 1) hx hb d_W_mark_13 (by decide) ?_
      exact t_iret hx hb hr hlk zz_c hC (⟨by rw [ho], g, _, fun h => absurd h (by rw [ho]; show ¬ (1 : Int32) = 0; decide), by rw [ho]; exact ⟨FR, vs, LP, fv, mo, ea, eo, rfl, hI, rfl, rfl⟩, rfl⟩) (Nat.le_of_ble_eq_true rfl) (Nat.le_of_ble_eq_true rfl) d_W_mark_14
    · skip
      refine t_catch (own := "RetentionVaultLaw") (name := "java/lang/IllegalStateException") hown [⟨0, 9, 12, 21⟩] ⟨0, 9, 15, 15⟩ [] hex (List.forall_mem_cons.mpr ⟨⟨by decide, by decide, "java/util/NoSuchElementException", hts _ w_391, zz_Xc hC.2.2.2.2.2 (by decide +kernel)⟩, fun z hz => absurd hz List.not_mem_nil⟩) (by decide) (by decide) (hts _ w_121) (zz_cc hC.2.2.2.2.2 (by decide +kernel)) hce hcv hcl ?_
      refine W.eq (g2 := F0 m 15 ls [.ref q9]) rfl ?_
      refine lv_astore_n (lv' := [(3, .ref q9), (0, .ref (K 0)), (1, .int k9), (2, .ref ao)]) hx hb d_W_mark_15 rfl hl (by decide) rfl (fun ls hl => ?_)
      refine lv_iconst (v := 2) hx hb d_W_mark_16 (by decide) ?_
      exact t_iret hx hb hr hlk zz_c hC (⟨by rw [ho], g, _, fun h => absurd h (by rw [ho]; show ¬ (2 : Int32) = 0; decide), by rw [ho]; exact ⟨FR, vs, LP, fv, mo, ea, eo, rfl, hI, rfl, rfl⟩, rfl⟩) (Nat.le_of_ble_eq_true rfl) (Nat.le_of_ble_eq_true rfl) d_W_mark_17
  · obtain ⟨h0, rfl, FR2, vs2, LP2, fv2, mo2, ea2, eo2, hRs2, hI2, hrow2, hwe9⟩ := hp
    rw [hwe9] at hC
    have hC := wX_out hC
    refine W.eq (g2 := F0 m 7 ls [.int (o_mark day k9 (vs.map fv, (ring, w9, ch), ev9)).2.1, .int 0, .ref ao]) rfl ?_
    refine lv_i2l (v := (o_mark day k9 (vs.map fv, (ring, w9, ch), ev9)).2.1.toInt64) hx hb d_W_mark_7 rfl ?_
    refine t_last hx hb hC 0 2 rfl rfl (show vp_in (0 : Int32) 1 from vp_in_nI (n := 0) (by decide) (by decide)) d_W_mark_8 (fun H locs hC => ?_)
    refine lv_goto (tgt := 18) hx hb d_W_mark_9 (by decide) ?_
    refine lv_iconst (v := 0) hx hb d_W_mark_18 (by decide) ?_
    exact t_iret hx hb hr hlk zz_c hC (⟨by rw [h0], _, _, fun _ => updL0, ⟨FR2, vs2, LP2, fv2, mo2, ea2, eo2, hRs2, hI2, hrow2, rfl⟩, rfl⟩) (Nat.le_of_ble_eq_true rfl) (Nat.le_of_ble_eq_true rfl) d_W_mark_19

set_option maxRecDepth 100000 in
set_option maxHeartbeats 4000000 in
theorem c_W_erase {l : Launch} (hst : l.stackTraces = false) {D : va_G} {A : Nat → Prop} {e0 : Nat → Nat} {K : Nat → Nat} {ca : Nat → ClassId} {RL LP : List Nat} {fv FR : Nat → RW} {day mo : Int32} {ea : Nat} {ch : Int64} {ring : Nat → Int32} {rest : va_W} {vs : List Nat} {eo : va_W} (hI : cI e0 ca vs LP ea eo) {w9 ev9 : Nat} (hPI : PI (vs.map fv, (ring, w9, ch), ev9)) (hw9 : w9 < 2 ^ 31) {v9 fo9 : Int32} {ao : Nat} {g : Nat → Int64} : tM l y_W_erase tb ({ frames := 8, cells := 2, slots := 12, locals := 137 }) D cls (ty0 ca) A (zz e0 A) [.ref (K 0), .int v9, .int fo9, .ref ao] ((ao, .inl (ca 2, 1, .inr (.inl g))) :: wC K ca RL LP fv FR day (nI ev9) mo (nI vs.length) ea (nI w9) ch ring (eo ++ rest)) (fun v w2 => v = some (.int (o_erase day v9 fo9 (vs.map fv, (ring, w9, ch), ev9)).1) ∧ ∃ g2 w3, ((o_erase day v9 fo9 (vs.map fv, (ring, w9, ch), ev9)).1 = 0 → g2 0 = (o_erase day v9 fo9 (vs.map fv, (ring, w9, ch), ev9)).2.1.toInt64) ∧ cW e0 K ca RL (RL.map FR) rest day (o_erase day v9 fo9 (vs.map fv, (ring, w9, ch), ev9)).2.2 w3 ∧ w2 = (ao, .inl (ca 2, 1, .inr (.inl g2))) :: w3) xN := by
  refine t_ofWT (by decide) w_418 (Nat.le_of_ble_eq_true rfl) ?_
  intro p e s m below meth c ls hx hb hr hts hown hlk hnm hml hex hl hC
  have hown : s.vm.findClass "RetentionVaultLaw" = some m.cls := hown
  have hl : lv_has ls 5 [(0, .ref (K 0)), (1, .int v9), (2, .int fo9), (3, .ref ao)] := hl
  have hex : c.exceptionTable.toList = [⟨0, 10, 13, 21⟩, ⟨0, 10, 17, 15⟩] := hex
  refine lv_aload_n hx hb d_W_erase_0 rfl (lv_at hl 3 rfl) ?_
  refine lv_iconst (v := 0) hx hb d_W_erase_1 (by decide) ?_
  refine lv_aload_n hx hb d_W_erase_2 rfl (lv_at hl 0 rfl) ?_
  refine lv_iload_n hx hb d_W_erase_3 rfl (lv_at hl 1 rfl) ?_
  refine lv_iload_n hx hb d_W_erase_4 rfl (lv_at hl 2 rfl) ?_
  refine t_call (t_invV (As := [.int v9, .int fo9]) (rest := [.int 0, .ref ao]) hx hb hown (hts _ w_419) (hts _ w_420) (hts _ w_421) (hts _ w_422) ⟨by decide, by decide⟩ (t_recv (q0 := 1) hC rfl rfl) rfl d_W_erase_5) (c_V_eraseO hst hI hPI hw9) zz_c tb_good hts w_1 (wX_in hC) (hl.1.trans hml.symm) ⟨Nat.le_of_ble_eq_true rfl, Nat.le_of_ble_eq_true rfl, Nat.le_of_ble_eq_true rfl, Nat.le_of_ble_eq_true rfl⟩ (Nat.le_of_ble_eq_true rfl) (fun E q9 ce w1 H locs hp hC hce hcv hcl => ?_) (fun v w1 H locs hp hC => ?_)
  · obtain ⟨hwe9, hp⟩ := hp
    rw [hwe9] at hC
    have hC := wX_out hC
    rcases hp with ⟨rfl, ho⟩ | ⟨rfl, ho⟩
    · skip
      refine t_catch (own := "RetentionVaultLaw") (name := "java/util/NoSuchElementException") hown [] ⟨0, 10, 13, 21⟩ [⟨0, 10, 17, 15⟩] hex (fun z hz => absurd hz List.not_mem_nil) (by decide) (by decide) (hts _ w_391) (zz_cc hC.2.2.2.2.2 (by decide +kernel)) hce hcv hcl ?_
      refine W.eq (g2 := F0 m 13 ls [.ref q9]) rfl ?_
      refine lv_astore (lv' := [(4, .ref q9), (0, .ref (K 0)), (1, .int v9), (2, .int fo9), (3, .ref ao)]) hx hb d_W_erase_13 hl (by decide) rfl (fun ls hl => ?_)
      refine lv_iconst (v := 1) hx hb d_W_erase_15 (by decide) ?_
      exact t_iret hx hb hr hlk zz_c hC (⟨by rw [ho], g, _, fun h => absurd h (by rw [ho]; show ¬ (1 : Int32) = 0; decide), by rw [ho]; exact ⟨FR, vs, LP, fv, mo, ea, eo, rfl, hI, rfl, rfl⟩, rfl⟩) (Nat.le_of_ble_eq_true rfl) (Nat.le_of_ble_eq_true rfl) d_W_erase_16
    · skip
      refine t_catch (own := "RetentionVaultLaw") (name := "java/lang/IllegalStateException") hown [⟨0, 10, 13, 21⟩] ⟨0, 10, 17, 15⟩ [] hex (List.forall_mem_cons.mpr ⟨⟨by decide, by decide, "java/util/NoSuchElementException", hts _ w_391, zz_Xc hC.2.2.2.2.2 (by decide +kernel)⟩, fun z hz => absurd hz List.not_mem_nil⟩) (by decide) (by decide) (hts _ w_121) (zz_cc hC.2.2.2.2.2 (by decide +kernel)) hce hcv hcl ?_
      refine W.eq (g2 := F0 m 17 ls [.ref q9]) rfl ?_
      refine lv_astore (lv' := [(4, .ref q9), (0, .ref (K 0)), (1, .int v9), (2, .int fo9), (3, .ref ao)]) hx hb d_W_erase_17 hl (by decide) rfl (fun ls hl => ?_)
      refine lv_iconst (v := 2) hx hb d_W_erase_19 (by decide) ?_
      exact t_iret hx hb hr hlk zz_c hC (⟨by rw [ho], g, _, fun h => absurd h (by rw [ho]; show ¬ (2 : Int32) = 0; decide), by rw [ho]; exact ⟨FR, vs, LP, fv, mo, ea, eo, rfl, hI, rfl, rfl⟩, rfl⟩) (Nat.le_of_ble_eq_true rfl) (Nat.le_of_ble_eq_true rfl) d_W_erase_20
  · obtain ⟨h0, rfl, FR2, vs2, LP2, fv2, mo2, ea2, eo2, hRs2, hI2, hrow2, hwe9⟩ := hp
    rw [hwe9] at hC
    have hC := wX_out hC
    refine W.eq (g2 := F0 m 8 ls [.int (o_erase day v9 fo9 (vs.map fv, (ring, w9, ch), ev9)).2.1, .int 0, .ref ao]) rfl ?_
    refine lv_i2l (v := (o_erase day v9 fo9 (vs.map fv, (ring, w9, ch), ev9)).2.1.toInt64) hx hb d_W_erase_8 rfl ?_
    refine t_last hx hb hC 0 2 rfl rfl (show vp_in (0 : Int32) 1 from vp_in_nI (n := 0) (by decide) (by decide)) d_W_erase_9 (fun H locs hC => ?_)
    refine lv_goto (tgt := 21) hx hb d_W_erase_10 (by decide) ?_
    refine lv_iconst (v := 0) hx hb d_W_erase_21 (by decide) ?_
    exact t_iret hx hb hr hlk zz_c hC (⟨by rw [h0], _, _, fun _ => updL0, ⟨FR2, vs2, LP2, fv2, mo2, ea2, eo2, hRs2, hI2, hrow2, rfl⟩, rfl⟩) (Nat.le_of_ble_eq_true rfl) (Nat.le_of_ble_eq_true rfl) d_W_erase_22

set_option maxRecDepth 100000 in
set_option maxHeartbeats 4000000 in
theorem c_W_retain {l : Launch} (hst : l.stackTraces = false) {D : va_G} {A : Nat → Prop} {e0 : Nat → Nat} {K : Nat → Nat} {ca : Nat → ClassId} {RL LP : List Nat} {fv FR : Nat → RW} {day mo : Int32} {ea : Nat} {ch : Int64} {ring : Nat → Int32} {rest : va_W} {vs : List Nat} {eo : va_W} (hI : cI e0 ca vs LP ea eo) {w9 ev9 : Nat} (hPI : PI (vs.map fv, (ring, w9, ch), ev9)) (hw9 : w9 < 2 ^ 31) {v9 days st9 : Int32} (hb01 : st9 = 0 ∨ st9 = 1) {ao : Nat} {g : Nat → Int64} : tM l y_W_retain tb ({ frames := 9, cells := 4, slots := 24, locals := 160 }) D cls (ty0 ca) A (zz e0 A) [.ref (K 0), .int v9, .int days, .int st9] ((ao, .inl (ca 2, 1, .inr (.inl g))) :: wC K ca RL LP fv FR day (nI ev9) mo (nI vs.length) ea (nI w9) ch ring (eo ++ rest)) (fun v w2 => v = some (.int (o_retain day v9 days st9 (vs.map fv, (ring, w9, ch), ev9)).1) ∧ ∃ g2 w3, ((o_retain day v9 days st9 (vs.map fv, (ring, w9, ch), ev9)).1 = 0 → True) ∧ cW e0 K ca RL (RL.map FR) rest day (o_retain day v9 days st9 (vs.map fv, (ring, w9, ch), ev9)).2.2 w3 ∧ w2 = (ao, .inl (ca 2, 1, .inr (.inl g2))) :: w3) xN := by
  refine t_ofWT (by decide) w_457 (Nat.le_of_ble_eq_true rfl) ?_
  intro p e s m below meth c ls hx hb hr hts hown hlk hnm hml hex hl hC
  have hown : s.vm.findClass "RetentionVaultLaw" = some m.cls := hown
  have hl : lv_has ls 5 [(0, .ref (K 0)), (1, .int v9), (2, .int days), (3, .int st9)] := hl
  have hex : c.exceptionTable.toList = [⟨0, 7, 10, 21⟩, ⟨0, 7, 14, 13⟩, ⟨0, 7, 18, 15⟩] := hex
  refine lv_aload_n hx hb d_W_retain_0 rfl (lv_at hl 0 rfl) ?_
  refine lv_iload_n hx hb d_W_retain_1 rfl (lv_at hl 1 rfl) ?_
  refine lv_iload_n hx hb d_W_retain_2 rfl (lv_at hl 2 rfl) ?_
  refine lv_iload_n hx hb d_W_retain_3 rfl (lv_at hl 3 rfl) ?_
  refine t_call (t_invV (As := [.int v9, .int days, .int st9]) (rest := []) hx hb hown (hts _ w_458) (hts _ w_459) (hts _ w_460) (hts _ w_461) ⟨by decide, by decide⟩ (t_recv (q0 := 1) hC rfl rfl) rfl d_W_retain_4) (c_V_retainO hst hI hPI hw9 hb01) zz_c tb_good hts w_1 (wX_in hC) (hl.1.trans hml.symm) ⟨Nat.le_of_ble_eq_true rfl, Nat.le_of_ble_eq_true rfl, Nat.le_of_ble_eq_true rfl, Nat.le_of_ble_eq_true rfl⟩ (Nat.le_of_ble_eq_true rfl) (fun E q9 ce w1 H locs hp hC hce hcv hcl => ?_) (fun v w1 H locs hp hC => ?_)
  · obtain ⟨hwe9, hp⟩ := hp
    rw [hwe9] at hC
    have hC := wX_out hC
    rcases hp with ⟨rfl, ho⟩ | ⟨rfl, ho⟩ | ⟨rfl, ho⟩
    · skip
      refine t_catch (own := "RetentionVaultLaw") (name := "java/util/NoSuchElementException") hown [] ⟨0, 7, 10, 21⟩ [⟨0, 7, 14, 13⟩, ⟨0, 7, 18, 15⟩] hex (fun z hz => absurd hz List.not_mem_nil) (by decide) (by decide) (hts _ w_391) (zz_cc hC.2.2.2.2.2 (by decide +kernel)) hce hcv hcl ?_
      refine W.eq (g2 := F0 m 10 ls [.ref q9]) rfl ?_
      refine lv_astore (lv' := [(4, .ref q9), (0, .ref (K 0)), (1, .int v9), (2, .int days), (3, .int st9)]) hx hb d_W_retain_10 hl (by decide) rfl (fun ls hl => ?_)
      refine lv_iconst (v := 1) hx hb d_W_retain_12 (by decide) ?_
      exact t_iret hx hb hr hlk zz_c hC (⟨by rw [ho], g, _, fun h => absurd h (by rw [ho]; show ¬ (1 : Int32) = 0; decide), by rw [ho]; exact ⟨FR, vs, LP, fv, mo, ea, eo, rfl, hI, rfl, rfl⟩, rfl⟩) (Nat.le_of_ble_eq_true rfl) (Nat.le_of_ble_eq_true rfl) d_W_retain_13
    · skip
      refine t_catch (own := "RetentionVaultLaw") (name := "java/lang/IllegalArgumentException") hown [⟨0, 7, 10, 21⟩] ⟨0, 7, 14, 13⟩ [⟨0, 7, 18, 15⟩] hex (List.forall_mem_cons.mpr ⟨⟨by decide, by decide, "java/util/NoSuchElementException", hts _ w_391, zz_Xc hC.2.2.2.2.2 (by decide +kernel)⟩, fun z hz => absurd hz List.not_mem_nil⟩) (by decide) (by decide) (hts _ w_120) (zz_cc hC.2.2.2.2.2 (by decide +kernel)) hce hcv hcl ?_
      refine W.eq (g2 := F0 m 14 ls [.ref q9]) rfl ?_
      refine lv_astore (lv' := [(4, .ref q9), (0, .ref (K 0)), (1, .int v9), (2, .int days), (3, .int st9)]) hx hb d_W_retain_14 hl (by decide) rfl (fun ls hl => ?_)
      refine lv_iconst (v := 2) hx hb d_W_retain_16 (by decide) ?_
      exact t_iret hx hb hr hlk zz_c hC (⟨by rw [ho], g, _, fun h => absurd h (by rw [ho]; show ¬ (2 : Int32) = 0; decide), by rw [ho]; exact ⟨FR, vs, LP, fv, mo, ea, eo, rfl, hI, rfl, rfl⟩, rfl⟩) (Nat.le_of_ble_eq_true rfl) (Nat.le_of_ble_eq_true rfl) d_W_retain_17
    · skip
      refine t_catch (own := "RetentionVaultLaw") (name := "java/lang/IllegalStateException") hown [⟨0, 7, 10, 21⟩, ⟨0, 7, 14, 13⟩] ⟨0, 7, 18, 15⟩ [] hex (List.forall_mem_cons.mpr ⟨⟨by decide, by decide, "java/util/NoSuchElementException", hts _ w_391, zz_Xc hC.2.2.2.2.2 (by decide +kernel)⟩, (List.forall_mem_cons.mpr ⟨⟨by decide, by decide, "java/lang/IllegalArgumentException", hts _ w_120, zz_Xc hC.2.2.2.2.2 (by decide +kernel)⟩, fun z hz => absurd hz List.not_mem_nil⟩)⟩) (by decide) (by decide) (hts _ w_121) (zz_cc hC.2.2.2.2.2 (by decide +kernel)) hce hcv hcl ?_
      refine W.eq (g2 := F0 m 18 ls [.ref q9]) rfl ?_
      refine lv_astore (lv' := [(4, .ref q9), (0, .ref (K 0)), (1, .int v9), (2, .int days), (3, .int st9)]) hx hb d_W_retain_18 hl (by decide) rfl (fun ls hl => ?_)
      refine lv_iconst (v := 3) hx hb d_W_retain_20 (by decide) ?_
      exact t_iret hx hb hr hlk zz_c hC (⟨by rw [ho], g, _, fun h => absurd h (by rw [ho]; show ¬ (3 : Int32) = 0; decide), by rw [ho]; exact ⟨FR, vs, LP, fv, mo, ea, eo, rfl, hI, rfl, rfl⟩, rfl⟩) (Nat.le_of_ble_eq_true rfl) (Nat.le_of_ble_eq_true rfl) d_W_retain_21
  · obtain ⟨h0, rfl, FR2, vs2, LP2, fv2, mo2, ea2, eo2, hRs2, hI2, hrow2, hwe9⟩ := hp
    rw [hwe9] at hC
    have hC := wX_out hC
    refine W.eq (g2 := F0 m 7 ls []) rfl ?_
    refine lv_goto (tgt := 22) hx hb d_W_retain_7 (by decide) ?_
    refine lv_iconst (v := 0) hx hb d_W_retain_22 (by decide) ?_
    exact t_iret hx hb hr hlk zz_c hC (⟨by rw [h0], g, _, fun _ => trivial, ⟨FR2, vs2, LP2, fv2, mo2, ea2, eo2, hRs2, hI2, hrow2, rfl⟩, rfl⟩) (Nat.le_of_ble_eq_true rfl) (Nat.le_of_ble_eq_true rfl) d_W_retain_23

set_option maxRecDepth 100000 in
set_option maxHeartbeats 4000000 in
theorem c_W_hold {l : Launch} (hst : l.stackTraces = false) {D : va_G} {A : Nat → Prop} {e0 : Nat → Nat} {K : Nat → Nat} {ca : Nat → ClassId} {RL LP : List Nat} {fv FR : Nat → RW} {day mo : Int32} {ea : Nat} {ch : Int64} {ring : Nat → Int32} {rest : va_W} {vs : List Nat} {eo : va_W} (hI : cI e0 ca vs LP ea eo) {w9 ev9 : Nat} (hPI : PI (vs.map fv, (ring, w9, ch), ev9)) (hw9 : w9 < 2 ^ 31) {v9 ho9 on9 : Int32} {ao : Nat} {g : Nat → Int64} : tM l y_W_hold tb ({ frames := 9, cells := 3, slots := 18, locals := 161 }) D cls (ty0 ca) A (zz e0 A) [.ref (K 0), .int v9, .int ho9, .int on9, .ref ao] ((ao, .inl (ca 2, 1, .inr (.inl g))) :: wC K ca RL LP fv FR day (nI ev9) mo (nI vs.length) ea (nI w9) ch ring (eo ++ rest)) (fun v w2 => v = some (.int (o_hold day v9 ho9 on9 (vs.map fv, (ring, w9, ch), ev9)).1) ∧ ∃ g2 w3, ((o_hold day v9 ho9 on9 (vs.map fv, (ring, w9, ch), ev9)).1 = 0 → g2 0 = (o_hold day v9 ho9 on9 (vs.map fv, (ring, w9, ch), ev9)).2.1.toInt64) ∧ cW e0 K ca RL (RL.map FR) rest day (o_hold day v9 ho9 on9 (vs.map fv, (ring, w9, ch), ev9)).2.2 w3 ∧ w2 = (ao, .inl (ca 2, 1, .inr (.inl g2))) :: w3) xN := by
  refine t_ofWT (by decide) w_470 (Nat.le_of_ble_eq_true rfl) ?_
  intro p e s m below meth c ls hx hb hr hts hown hlk hnm hml hex hl hC
  have hown : s.vm.findClass "RetentionVaultLaw" = some m.cls := hown
  have hl : lv_has ls 6 [(0, .ref (K 0)), (1, .int v9), (2, .int ho9), (3, .int on9), (4, .ref ao)] := hl
  have hex : c.exceptionTable.toList = [⟨0, 19, 22, 21⟩, ⟨0, 19, 26, 13⟩] := hex
  refine lv_aload hx hb d_W_hold_0 (lv_at hl 4 rfl) ?_
  refine lv_iconst (v := 0) hx hb d_W_hold_2 (by decide) ?_
  refine lv_aload_n hx hb d_W_hold_3 rfl (lv_at hl 0 rfl) ?_
  refine lv_iload_n hx hb d_W_hold_4 rfl (lv_at hl 1 rfl) ?_
  refine lv_iload_n hx hb d_W_hold_5 rfl (lv_at hl 2 rfl) ?_
  refine lv_iload_n hx hb d_W_hold_6 rfl (lv_at hl 3 rfl) ?_
  refine t_call (t_invV (As := [.int v9, .int ho9, .int on9]) (rest := [.int 0, .ref ao]) hx hb hown (hts _ w_471) (hts _ w_472) (hts _ w_473) (hts _ w_474) ⟨by decide, by decide⟩ (t_recv (q0 := 1) hC rfl rfl) rfl d_W_hold_7) (c_V_holdO hst hI hPI hw9) zz_c tb_good hts w_1 (wX_in hC) (hl.1.trans hml.symm) ⟨Nat.le_of_ble_eq_true rfl, Nat.le_of_ble_eq_true rfl, Nat.le_of_ble_eq_true rfl, Nat.le_of_ble_eq_true rfl⟩ (Nat.le_of_ble_eq_true rfl) (fun E q9 ce w1 H locs hp hC hce hcv hcl => ?_) (fun v w1 H locs hp hC => ?_)
  · obtain ⟨hwe9, hp⟩ := hp
    rw [hwe9] at hC
    have hC := wX_out hC
    rcases hp with ⟨rfl, ho⟩ | ⟨rfl, ho⟩
    · skip
      refine t_catch (own := "RetentionVaultLaw") (name := "java/util/NoSuchElementException") hown [] ⟨0, 19, 22, 21⟩ [⟨0, 19, 26, 13⟩] hex (fun z hz => absurd hz List.not_mem_nil) (by decide) (by decide) (hts _ w_391) (zz_cc hC.2.2.2.2.2 (by decide +kernel)) hce hcv hcl ?_
      refine W.eq (g2 := F0 m 22 ls [.ref q9]) rfl ?_
      refine lv_astore (lv' := [(5, .ref q9), (0, .ref (K 0)), (1, .int v9), (2, .int ho9), (3, .int on9), (4, .ref ao)]) hx hb d_W_hold_22 hl (by decide) rfl (fun ls hl => ?_)
      refine lv_iconst (v := 1) hx hb d_W_hold_24 (by decide) ?_
      exact t_iret hx hb hr hlk zz_c hC (⟨by rw [ho], g, _, fun h => absurd h (by rw [ho]; show ¬ (1 : Int32) = 0; decide), by rw [ho]; exact ⟨FR, vs, LP, fv, mo, ea, eo, rfl, hI, rfl, rfl⟩, rfl⟩) (Nat.le_of_ble_eq_true rfl) (Nat.le_of_ble_eq_true rfl) d_W_hold_25
    · skip
      refine t_catch (own := "RetentionVaultLaw") (name := "java/lang/IllegalArgumentException") hown [⟨0, 19, 22, 21⟩] ⟨0, 19, 26, 13⟩ [] hex (List.forall_mem_cons.mpr ⟨⟨by decide, by decide, "java/util/NoSuchElementException", hts _ w_391, zz_Xc hC.2.2.2.2.2 (by decide +kernel)⟩, fun z hz => absurd hz List.not_mem_nil⟩) (by decide) (by decide) (hts _ w_120) (zz_cc hC.2.2.2.2.2 (by decide +kernel)) hce hcv hcl ?_
      refine W.eq (g2 := F0 m 26 ls [.ref q9]) rfl ?_
      refine lv_astore (lv' := [(5, .ref q9), (0, .ref (K 0)), (1, .int v9), (2, .int ho9), (3, .int on9), (4, .ref ao)]) hx hb d_W_hold_26 hl (by decide) rfl (fun ls hl => ?_)
      refine lv_iconst (v := 2) hx hb d_W_hold_28 (by decide) ?_
      exact t_iret hx hb hr hlk zz_c hC (⟨by rw [ho], g, _, fun h => absurd h (by rw [ho]; show ¬ (2 : Int32) = 0; decide), by rw [ho]; exact ⟨FR, vs, LP, fv, mo, ea, eo, rfl, hI, rfl, rfl⟩, rfl⟩) (Nat.le_of_ble_eq_true rfl) (Nat.le_of_ble_eq_true rfl) d_W_hold_29
  · obtain ⟨h0, rfl, FR2, vs2, LP2, fv2, mo2, ea2, eo2, hRs2, hI2, hrow2, hwe9⟩ := hp
    rw [hwe9] at hC
    have hC := wX_out hC
    refine W.eq (g2 := F0 m 10 ls [.int (o_hold day v9 ho9 on9 (vs.map fv, (ring, w9, ch), ev9)).2.1, .int 0, .ref ao]) rfl ?_
    refine lv_if_eq (tgt := 17) hx hb d_W_hold_10 (by decide) (fun c9 => ?_) (fun c9 => ?_)
    · refine lv_lconst (v := 0) hx hb d_W_hold_17 (by decide) ?_
      refine t_last hx hb hC 0 2 rfl rfl (show vp_in (0 : Int32) 1 from vp_in_nI (n := 0) (by decide) (by decide)) d_W_hold_18 (fun H locs hC => ?_)
      refine lv_goto (tgt := 30) hx hb d_W_hold_19 (by decide) ?_
      refine lv_iconst (v := 0) hx hb d_W_hold_30 (by decide) ?_
      exact t_iret hx hb hr hlk zz_c hC (⟨by rw [h0], _, _, fun _ => updL0.trans (by rw [c9]; rfl), ⟨FR2, vs2, LP2, fv2, mo2, ea2, eo2, hRs2, hI2, hrow2, rfl⟩, rfl⟩) (Nat.le_of_ble_eq_true rfl) (Nat.le_of_ble_eq_true rfl) d_W_hold_31
    · refine lv_lconst (v := 1) hx hb d_W_hold_13 (by decide) ?_
      refine lv_goto (tgt := 18) hx hb d_W_hold_14 (by decide) ?_
      refine t_last hx hb hC 0 2 rfl rfl (show vp_in (0 : Int32) 1 from vp_in_nI (n := 0) (by decide) (by decide)) d_W_hold_18 (fun H locs hC => ?_)
      refine lv_goto (tgt := 30) hx hb d_W_hold_19 (by decide) ?_
      refine lv_iconst (v := 0) hx hb d_W_hold_30 (by decide) ?_
      exact t_iret hx hb hr hlk zz_c hC (⟨by rw [h0], _, _, fun _ => updL0.trans (by rw [o_hold_01.resolve_left c9]; rfl), ⟨FR2, vs2, LP2, fv2, mo2, ea2, eo2, hRs2, hI2, hrow2, rfl⟩, rfl⟩) (Nat.le_of_ble_eq_true rfl) (Nat.le_of_ble_eq_true rfl) d_W_hold_31

set_option maxRecDepth 100000 in
set_option maxHeartbeats 4000000 in
theorem c_W_rule {l : Launch} (hst : l.stackTraces = false) {D : va_G} {A : Nat → Prop} {e0 : Nat → Nat} {K : Nat → Nat} {ca : Nat → ClassId} {RL LP : List Nat} {fv FR : Nat → RW} {day mo : Int32} {ea : Nat} {ch : Int64} {ring : Nat → Int32} {rest : va_W} {vs : List Nat} {eo : va_W} (hI : cI e0 ca vs LP ea eo) {w9 ev9 : Nat} (hPI : PI (vs.map fv, (ring, w9, ch), ev9)) (hw9 : w9 < 2 ^ 31) {ru9 tg9 cu9 da9 ac9 : Int32} (hb01 : cu9 = 0 ∨ cu9 = 1) (hRL : RL.length = 6) (hRn : RL.Nodup) {ao : Nat} {g : Nat → Int64} : tM l y_W_rule tb ({ frames := 8, cells := 2, slots := 12, locals := 135 }) D cls (ty0 ca) A (zz e0 A) [.ref (K 0), .int ru9, .int tg9, .int cu9, .int da9, .int ac9] ((ao, .inl (ca 2, 1, .inr (.inl g))) :: wC K ca RL LP fv FR day (nI ev9) mo (nI vs.length) ea (nI w9) ch ring (eo ++ rest)) (fun v w2 => v = some (.int (o_rule day ru9 tg9 da9 ac9 (vs.map fv, (ring, w9, ch), ev9)).1) ∧ ∃ g2 w3, ((o_rule day ru9 tg9 da9 ac9 (vs.map fv, (ring, w9, ch), ev9)).1 = 0 → True) ∧ cW e0 K ca RL (n_rule ru9 tg9 cu9 da9 ac9 (RL.map FR)) rest day (o_rule day ru9 tg9 da9 ac9 (vs.map fv, (ring, w9, ch), ev9)).2.2 w3 ∧ w2 = (ao, .inl (ca 2, 1, .inr (.inl g2))) :: w3) xN := by
  refine t_ofWT (by decide) w_477 (Nat.le_of_ble_eq_true rfl) ?_
  intro p e s m below meth c ls hx hb hr hts hown hlk hnm hml hex hl hC
  have hown : s.vm.findClass "RetentionVaultLaw" = some m.cls := hown
  have hl : lv_has ls 7 [(0, .ref (K 0)), (1, .int ru9), (2, .int tg9), (3, .int cu9), (4, .int da9), (5, .int ac9)] := hl
  have hex : c.exceptionTable.toList = [⟨0, 11, 14, 13⟩] := hex
  refine lv_aload_n hx hb d_W_rule_0 rfl (lv_at hl 0 rfl) ?_
  refine lv_iload_n hx hb d_W_rule_1 rfl (lv_at hl 1 rfl) ?_
  refine lv_iload_n hx hb d_W_rule_2 rfl (lv_at hl 2 rfl) ?_
  refine lv_iload_n hx hb d_W_rule_3 rfl (lv_at hl 3 rfl) ?_
  refine lv_iload hx hb d_W_rule_4 (lv_at hl 4 rfl) ?_
  refine lv_iload hx hb d_W_rule_6 (lv_at hl 5 rfl) ?_
  refine t_call (t_invV (As := [.int ru9, .int tg9, .int cu9, .int da9, .int ac9]) (rest := []) hx hb hown (hts _ w_478) (hts _ w_479) (hts _ w_480) (hts _ w_481) ⟨by decide, by decide⟩ (t_recv (q0 := 1) hC rfl rfl) rfl d_W_rule_8) (c_V_ruleO hst hI hPI hw9 hb01 hRL hRn) zz_c tb_good hts w_1 (wX_in hC) (hl.1.trans hml.symm) ⟨Nat.le_of_ble_eq_true rfl, Nat.le_of_ble_eq_true rfl, Nat.le_of_ble_eq_true rfl, Nat.le_of_ble_eq_true rfl⟩ (Nat.le_of_ble_eq_true rfl) (fun E q9 ce w1 H locs hp hC hce hcv hcl => ?_) (fun v w1 H locs hp hC => ?_)
  · obtain ⟨hwe9, hp⟩ := hp
    rw [hwe9] at hC
    have hC := wX_out hC
    obtain ⟨rfl, ho⟩ := hp
    refine t_catch (own := "RetentionVaultLaw") (name := "java/lang/IllegalArgumentException") hown [] ⟨0, 11, 14, 13⟩ [] hex (fun z hz => absurd hz List.not_mem_nil) (by decide) (by decide) (hts _ w_120) (zz_cc hC.2.2.2.2.2 (by decide +kernel)) hce hcv hcl ?_
    refine W.eq (g2 := F0 m 14 ls [.ref q9]) rfl ?_
    refine lv_astore (lv' := [(6, .ref q9), (0, .ref (K 0)), (1, .int ru9), (2, .int tg9), (3, .int cu9), (4, .int da9), (5, .int ac9)]) hx hb d_W_rule_14 hl (by decide) rfl (fun ls hl => ?_)
    refine lv_iconst (v := 1) hx hb d_W_rule_16 (by decide) ?_
    exact t_iret hx hb hr hlk zz_c hC (⟨by rw [ho], g, _, fun h => absurd h (by rw [ho]; show ¬ (1 : Int32) = 0; decide), by rw [ho]; exact ⟨FR, vs, LP, fv, mo, ea, eo, by rw [n_rule_bad ho], hI, rfl, rfl⟩, rfl⟩) (Nat.le_of_ble_eq_true rfl) (Nat.le_of_ble_eq_true rfl) d_W_rule_17
  · obtain ⟨h0, rfl, FR2, vs2, LP2, fv2, mo2, ea2, eo2, hRs2, hI2, hrow2, hwe9⟩ := hp
    rw [hwe9] at hC
    have hC := wX_out hC
    refine W.eq (g2 := F0 m 11 ls []) rfl ?_
    refine lv_goto (tgt := 18) hx hb d_W_rule_11 (by decide) ?_
    refine lv_iconst (v := 0) hx hb d_W_rule_18 (by decide) ?_
    exact t_iret hx hb hr hlk zz_c hC (⟨by rw [h0], g, _, fun _ => trivial, ⟨FR2, vs2, LP2, fv2, mo2, ea2, eo2, hRs2, hI2, hrow2, rfl⟩, rfl⟩) (Nat.le_of_ble_eq_true rfl) (Nat.le_of_ble_eq_true rfl) d_W_rule_19

set_option maxRecDepth 100000 in
set_option maxHeartbeats 4000000 in
theorem c_W_unrule {l : Launch} (hst : l.stackTraces = false) {D : va_G} {A : Nat → Prop} {e0 : Nat → Nat} {K : Nat → Nat} {ca : Nat → ClassId} {RL LP : List Nat} {fv FR : Nat → RW} {day mo : Int32} {ea : Nat} {ch : Int64} {ring : Nat → Int32} {rest : va_W} {vs : List Nat} {eo : va_W} (hI : cI e0 ca vs LP ea eo) {w9 ev9 : Nat} (hPI : PI (vs.map fv, (ring, w9, ch), ev9)) (hw9 : w9 < 2 ^ 31) {ru9 : Int32} (hRL : RL.length = 6) (hRn : RL.Nodup) {ao : Nat} {g : Nat → Int64} : tM l y_W_unrule tb ({ frames := 8, cells := 1, slots := 6, locals := 132 }) D cls (ty0 ca) A (zz e0 A) [.ref (K 0), .int ru9, .ref ao] ((ao, .inl (ca 2, 1, .inr (.inl g))) :: wC K ca RL LP fv FR day (nI ev9) mo (nI vs.length) ea (nI w9) ch ring (eo ++ rest)) (fun v w2 => v = some (.int (o_unrule day ru9 (RL.map FR) (vs.map fv, (ring, w9, ch), ev9)).1) ∧ ∃ g2 w3, ((o_unrule day ru9 (RL.map FR) (vs.map fv, (ring, w9, ch), ev9)).1 = 0 → g2 0 = (o_unrule day ru9 (RL.map FR) (vs.map fv, (ring, w9, ch), ev9)).2.1.toInt64) ∧ cW e0 K ca RL (n_unrule ru9 (RL.map FR)) rest day (o_unrule day ru9 (RL.map FR) (vs.map fv, (ring, w9, ch), ev9)).2.2 w3 ∧ w2 = (ao, .inl (ca 2, 1, .inr (.inl g2))) :: w3) xN := by
  refine t_ofWT (by decide) w_488 (Nat.le_of_ble_eq_true rfl) ?_
  intro p e s m below meth c ls hx hb hr hts hown hlk hnm hml hex hl hC
  have hown : s.vm.findClass "RetentionVaultLaw" = some m.cls := hown
  have hl : lv_has ls 4 [(0, .ref (K 0)), (1, .int ru9), (2, .ref ao)] := hl
  have hex : c.exceptionTable.toList = [⟨0, 16, 19, 13⟩] := hex
  refine lv_aload_n hx hb d_W_unrule_0 rfl (lv_at hl 2 rfl) ?_
  refine lv_iconst (v := 0) hx hb d_W_unrule_1 (by decide) ?_
  refine lv_aload_n hx hb d_W_unrule_2 rfl (lv_at hl 0 rfl) ?_
  refine lv_iload_n hx hb d_W_unrule_3 rfl (lv_at hl 1 rfl) ?_
  refine t_call (t_invV (As := [.int ru9]) (rest := [.int 0, .ref ao]) hx hb hown (hts _ w_489) (hts _ w_490) (hts _ w_491) (hts _ w_492) ⟨by decide, by decide⟩ (t_recv (q0 := 1) hC rfl rfl) rfl d_W_unrule_4) (c_V_unruleO hst hI hPI hw9 hRL hRn) zz_c tb_good hts w_1 (wX_in hC) (hl.1.trans hml.symm) ⟨Nat.le_of_ble_eq_true rfl, Nat.le_of_ble_eq_true rfl, Nat.le_of_ble_eq_true rfl, Nat.le_of_ble_eq_true rfl⟩ (Nat.le_of_ble_eq_true rfl) (fun E q9 ce w1 H locs hp hC hce hcv hcl => ?_) (fun v w1 H locs hp hC => ?_)
  · obtain ⟨hwe9, hp⟩ := hp
    rw [hwe9] at hC
    have hC := wX_out hC
    obtain ⟨rfl, ho⟩ := hp
    refine t_catch (own := "RetentionVaultLaw") (name := "java/lang/IllegalArgumentException") hown [] ⟨0, 16, 19, 13⟩ [] hex (fun z hz => absurd hz List.not_mem_nil) (by decide) (by decide) (hts _ w_120) (zz_cc hC.2.2.2.2.2 (by decide +kernel)) hce hcv hcl ?_
    refine W.eq (g2 := F0 m 19 ls [.ref q9]) rfl ?_
    refine lv_astore_n (lv' := [(3, .ref q9), (0, .ref (K 0)), (1, .int ru9), (2, .ref ao)]) hx hb d_W_unrule_19 rfl hl (by decide) rfl (fun ls hl => ?_)
    refine lv_iconst (v := 1) hx hb d_W_unrule_20 (by decide) ?_
    exact t_iret hx hb hr hlk zz_c hC (⟨by rw [ho], g, _, fun h => absurd h (by rw [ho]; show ¬ (1 : Int32) = 0; decide), by rw [ho]; exact ⟨FR, vs, LP, fv, mo, ea, eo, by rw [n_unrule_bad ho], hI, rfl, rfl⟩, rfl⟩) (Nat.le_of_ble_eq_true rfl) (Nat.le_of_ble_eq_true rfl) d_W_unrule_21
  · obtain ⟨h0, rfl, FR2, vs2, LP2, fv2, mo2, ea2, eo2, hRs2, hI2, hrow2, hwe9⟩ := hp
    rw [hwe9] at hC
    have hC := wX_out hC
    refine W.eq (g2 := F0 m 7 ls [.int (o_unrule day ru9 (RL.map FR) (vs.map fv, (ring, w9, ch), ev9)).2.1, .int 0, .ref ao]) rfl ?_
    refine lv_if_eq (tgt := 14) hx hb d_W_unrule_7 (by decide) (fun c9 => ?_) (fun c9 => ?_)
    · refine lv_lconst (v := 0) hx hb d_W_unrule_14 (by decide) ?_
      refine t_last hx hb hC 0 2 rfl rfl (show vp_in (0 : Int32) 1 from vp_in_nI (n := 0) (by decide) (by decide)) d_W_unrule_15 (fun H locs hC => ?_)
      refine lv_goto (tgt := 22) hx hb d_W_unrule_16 (by decide) ?_
      refine lv_iconst (v := 0) hx hb d_W_unrule_22 (by decide) ?_
      exact t_iret hx hb hr hlk zz_c hC (⟨by rw [h0], _, _, fun _ => updL0.trans (by rw [c9]; rfl), ⟨FR2, vs2, LP2, fv2, mo2, ea2, eo2, hRs2, hI2, hrow2, rfl⟩, rfl⟩) (Nat.le_of_ble_eq_true rfl) (Nat.le_of_ble_eq_true rfl) d_W_unrule_23
    · refine lv_lconst (v := 1) hx hb d_W_unrule_10 (by decide) ?_
      refine lv_goto (tgt := 15) hx hb d_W_unrule_11 (by decide) ?_
      refine t_last hx hb hC 0 2 rfl rfl (show vp_in (0 : Int32) 1 from vp_in_nI (n := 0) (by decide) (by decide)) d_W_unrule_15 (fun H locs hC => ?_)
      refine lv_goto (tgt := 22) hx hb d_W_unrule_16 (by decide) ?_
      refine lv_iconst (v := 0) hx hb d_W_unrule_22 (by decide) ?_
      exact t_iret hx hb hr hlk zz_c hC (⟨by rw [h0], _, _, fun _ => updL0.trans (by rw [o_unrule_01.resolve_left c9]; rfl), ⟨FR2, vs2, LP2, fv2, mo2, ea2, eo2, hRs2, hI2, hrow2, rfl⟩, rfl⟩) (Nat.le_of_ble_eq_true rfl) (Nat.le_of_ble_eq_true rfl) d_W_unrule_23

set_option maxRecDepth 100000 in
set_option maxHeartbeats 4000000 in
theorem c_W_fetch {l : Launch} (hst : l.stackTraces = false) {D : va_G} {A : Nat → Prop} {e0 : Nat → Nat} {K : Nat → Nat} {ca : Nat → ClassId} {RL LP : List Nat} {fv FR : Nat → RW} {day mo : Int32} {ea : Nat} {ch : Int64} {ring : Nat → Int32} {rest : va_W} {vs : List Nat} {eo : va_W} (hI : cI e0 ca vs LP ea eo) {w9 ev9 : Nat} (hPI : PI (vs.map fv, (ring, w9, ch), ev9)) (hw9 : w9 < 2 ^ 31) {v9 days : Int32} {ao : Nat} {g : Nat → Int64} : tM l y_W_fetch tb ({ frames := 9, cells := 4, slots := 24, locals := 158 }) D cls (ty0 ca) A (zz e0 A) [.ref (K 0), .int v9, .int days, .ref ao] ((ao, .inl (ca 2, 1, .inr (.inl g))) :: wC K ca RL LP fv FR day (nI ev9) mo (nI vs.length) ea (nI w9) ch ring (eo ++ rest)) (fun v w2 => v = some (.int (o_fetch day v9 days (vs.map fv, (ring, w9, ch), ev9)).1) ∧ ∃ g2 w3, ((o_fetch day v9 days (vs.map fv, (ring, w9, ch), ev9)).1 = 0 → g2 0 = (o_fetch day v9 days (vs.map fv, (ring, w9, ch), ev9)).2.1.toInt64) ∧ cW e0 K ca RL (RL.map FR) rest day (o_fetch day v9 days (vs.map fv, (ring, w9, ch), ev9)).2.2 w3 ∧ w2 = (ao, .inl (ca 2, 1, .inr (.inl g2))) :: w3) xN := by
  refine t_ofWT (by decide) w_499 (Nat.le_of_ble_eq_true rfl) ?_
  intro p e s m below meth c ls hx hb hr hts hown hlk hnm hml hex hl hC
  have hown : s.vm.findClass "RetentionVaultLaw" = some m.cls := hown
  have hl : lv_has ls 5 [(0, .ref (K 0)), (1, .int v9), (2, .int days), (3, .ref ao)] := hl
  have hex : c.exceptionTable.toList = [⟨0, 10, 13, 21⟩, ⟨0, 10, 17, 13⟩, ⟨0, 10, 21, 15⟩] := hex
  refine lv_aload_n hx hb d_W_fetch_0 rfl (lv_at hl 3 rfl) ?_
  refine lv_iconst (v := 0) hx hb d_W_fetch_1 (by decide) ?_
  refine lv_aload_n hx hb d_W_fetch_2 rfl (lv_at hl 0 rfl) ?_
  refine lv_iload_n hx hb d_W_fetch_3 rfl (lv_at hl 1 rfl) ?_
  refine lv_iload_n hx hb d_W_fetch_4 rfl (lv_at hl 2 rfl) ?_
  refine t_call (t_invV (As := [.int v9, .int days]) (rest := [.int 0, .ref ao]) hx hb hown (hts _ w_500) (hts _ w_501) (hts _ w_502) (hts _ w_503) ⟨by decide, by decide⟩ (t_recv (q0 := 1) hC rfl rfl) rfl d_W_fetch_5) (c_V_fetchO hst hI hPI hw9) zz_c tb_good hts w_1 (wX_in hC) (hl.1.trans hml.symm) ⟨Nat.le_of_ble_eq_true rfl, Nat.le_of_ble_eq_true rfl, Nat.le_of_ble_eq_true rfl, Nat.le_of_ble_eq_true rfl⟩ (Nat.le_of_ble_eq_true rfl) (fun E q9 ce w1 H locs hp hC hce hcv hcl => ?_) (fun v w1 H locs hp hC => ?_)
  · obtain ⟨hwe9, hp⟩ := hp
    rw [hwe9] at hC
    have hC := wX_out hC
    rcases hp with ⟨rfl, ho⟩ | ⟨rfl, ho⟩ | ⟨rfl, ho⟩
    · skip
      refine t_catch (own := "RetentionVaultLaw") (name := "java/util/NoSuchElementException") hown [] ⟨0, 10, 13, 21⟩ [⟨0, 10, 17, 13⟩, ⟨0, 10, 21, 15⟩] hex (fun z hz => absurd hz List.not_mem_nil) (by decide) (by decide) (hts _ w_391) (zz_cc hC.2.2.2.2.2 (by decide +kernel)) hce hcv hcl ?_
      refine W.eq (g2 := F0 m 13 ls [.ref q9]) rfl ?_
      refine lv_astore (lv' := [(4, .ref q9), (0, .ref (K 0)), (1, .int v9), (2, .int days), (3, .ref ao)]) hx hb d_W_fetch_13 hl (by decide) rfl (fun ls hl => ?_)
      refine lv_iconst (v := 1) hx hb d_W_fetch_15 (by decide) ?_
      exact t_iret hx hb hr hlk zz_c hC (⟨by rw [ho], g, _, fun h => absurd h (by rw [ho]; show ¬ (1 : Int32) = 0; decide), by rw [ho]; exact ⟨FR, vs, LP, fv, mo, ea, eo, rfl, hI, rfl, rfl⟩, rfl⟩) (Nat.le_of_ble_eq_true rfl) (Nat.le_of_ble_eq_true rfl) d_W_fetch_16
    · skip
      refine t_catch (own := "RetentionVaultLaw") (name := "java/lang/IllegalArgumentException") hown [⟨0, 10, 13, 21⟩] ⟨0, 10, 17, 13⟩ [⟨0, 10, 21, 15⟩] hex (List.forall_mem_cons.mpr ⟨⟨by decide, by decide, "java/util/NoSuchElementException", hts _ w_391, zz_Xc hC.2.2.2.2.2 (by decide +kernel)⟩, fun z hz => absurd hz List.not_mem_nil⟩) (by decide) (by decide) (hts _ w_120) (zz_cc hC.2.2.2.2.2 (by decide +kernel)) hce hcv hcl ?_
      refine W.eq (g2 := F0 m 17 ls [.ref q9]) rfl ?_
      refine lv_astore (lv' := [(4, .ref q9), (0, .ref (K 0)), (1, .int v9), (2, .int days), (3, .ref ao)]) hx hb d_W_fetch_17 hl (by decide) rfl (fun ls hl => ?_)
      refine lv_iconst (v := 2) hx hb d_W_fetch_19 (by decide) ?_
      exact t_iret hx hb hr hlk zz_c hC (⟨by rw [ho], g, _, fun h => absurd h (by rw [ho]; show ¬ (2 : Int32) = 0; decide), by rw [ho]; exact ⟨FR, vs, LP, fv, mo, ea, eo, rfl, hI, rfl, rfl⟩, rfl⟩) (Nat.le_of_ble_eq_true rfl) (Nat.le_of_ble_eq_true rfl) d_W_fetch_20
    · skip
      refine t_catch (own := "RetentionVaultLaw") (name := "java/lang/IllegalStateException") hown [⟨0, 10, 13, 21⟩, ⟨0, 10, 17, 13⟩] ⟨0, 10, 21, 15⟩ [] hex (List.forall_mem_cons.mpr ⟨⟨by decide, by decide, "java/util/NoSuchElementException", hts _ w_391, zz_Xc hC.2.2.2.2.2 (by decide +kernel)⟩, (List.forall_mem_cons.mpr ⟨⟨by decide, by decide, "java/lang/IllegalArgumentException", hts _ w_120, zz_Xc hC.2.2.2.2.2 (by decide +kernel)⟩, fun z hz => absurd hz List.not_mem_nil⟩)⟩) (by decide) (by decide) (hts _ w_121) (zz_cc hC.2.2.2.2.2 (by decide +kernel)) hce hcv hcl ?_
      refine W.eq (g2 := F0 m 21 ls [.ref q9]) rfl ?_
      refine lv_astore (lv' := [(4, .ref q9), (0, .ref (K 0)), (1, .int v9), (2, .int days), (3, .ref ao)]) hx hb d_W_fetch_21 hl (by decide) rfl (fun ls hl => ?_)
      refine lv_iconst (v := 3) hx hb d_W_fetch_23 (by decide) ?_
      exact t_iret hx hb hr hlk zz_c hC (⟨by rw [ho], g, _, fun h => absurd h (by rw [ho]; show ¬ (3 : Int32) = 0; decide), by rw [ho]; exact ⟨FR, vs, LP, fv, mo, ea, eo, rfl, hI, rfl, rfl⟩, rfl⟩) (Nat.le_of_ble_eq_true rfl) (Nat.le_of_ble_eq_true rfl) d_W_fetch_24
  · obtain ⟨h0, rfl, FR2, vs2, LP2, fv2, mo2, ea2, eo2, hRs2, hI2, hrow2, hwe9⟩ := hp
    rw [hwe9] at hC
    have hC := wX_out hC
    refine W.eq (g2 := F0 m 8 ls [.int (o_fetch day v9 days (vs.map fv, (ring, w9, ch), ev9)).2.1, .int 0, .ref ao]) rfl ?_
    refine lv_i2l (v := (o_fetch day v9 days (vs.map fv, (ring, w9, ch), ev9)).2.1.toInt64) hx hb d_W_fetch_8 rfl ?_
    refine t_last hx hb hC 0 2 rfl rfl (show vp_in (0 : Int32) 1 from vp_in_nI (n := 0) (by decide) (by decide)) d_W_fetch_9 (fun H locs hC => ?_)
    refine lv_goto (tgt := 25) hx hb d_W_fetch_10 (by decide) ?_
    refine lv_iconst (v := 0) hx hb d_W_fetch_25 (by decide) ?_
    exact t_iret hx hb hr hlk zz_c hC (⟨by rw [h0], _, _, fun _ => updL0, ⟨FR2, vs2, LP2, fv2, mo2, ea2, eo2, hRs2, hI2, hrow2, rfl⟩, rfl⟩) (Nat.le_of_ble_eq_true rfl) (Nat.le_of_ble_eq_true rfl) d_W_fetch_26

set_option maxRecDepth 100000 in
set_option maxHeartbeats 4000000 in
theorem c_W_read {l : Launch} (hst : l.stackTraces = false) {D : va_G} {A : Nat → Prop} {e0 : Nat → Nat} {K : Nat → Nat} {ca : Nat → ClassId} {RL LP : List Nat} {fv FR : Nat → RW} {day mo : Int32} {ea : Nat} {ch : Int64} {ring : Nat → Int32} {rest : va_W} {vs : List Nat} {eo : va_W} (hI : cI e0 ca vs LP ea eo) {w9 ev9 : Nat} (hPI : PI (vs.map fv, (ring, w9, ch), ev9)) {v9 : Int32} {ao : Nat} {g : Nat → Int64} : tM l y_W_read tb ({ frames := 9, cells := 3, slots := 18, locals := 157 }) D cls (ty0 ca) A (zz e0 A) [.ref (K 0), .int v9, .ref ao] ((ao, .inl (ca 2, 1, .inr (.inl g))) :: wC K ca RL LP fv FR day (nI ev9) mo (nI vs.length) ea (nI w9) ch ring (eo ++ rest)) (fun v w2 => v = some (.int (o_read day v9 (vs.map fv, (ring, w9, ch), ev9)).1) ∧ ∃ g2 w3, ((o_read day v9 (vs.map fv, (ring, w9, ch), ev9)).1 = 0 → g2 0 = (o_read day v9 (vs.map fv, (ring, w9, ch), ev9)).2.1.toInt64) ∧ cW e0 K ca RL (RL.map FR) rest day (o_read day v9 (vs.map fv, (ring, w9, ch), ev9)).2.2 w3 ∧ w2 = (ao, .inl (ca 2, 1, .inr (.inl g2))) :: w3) xN := by
  refine t_ofWT (by decide) w_511 (Nat.le_of_ble_eq_true rfl) ?_
  intro p e s m below meth c ls hx hb hr hts hown hlk hnm hml hex hl hC
  have hown : s.vm.findClass "RetentionVaultLaw" = some m.cls := hown
  have hl : lv_has ls 4 [(0, .ref (K 0)), (1, .int v9), (2, .ref ao)] := hl
  have hex : c.exceptionTable.toList = [⟨0, 9, 12, 21⟩, ⟨0, 9, 15, 15⟩] := hex
  refine lv_aload_n hx hb d_W_read_0 rfl (lv_at hl 2 rfl) ?_
  refine lv_iconst (v := 0) hx hb d_W_read_1 (by decide) ?_
  refine lv_aload_n hx hb d_W_read_2 rfl (lv_at hl 0 rfl) ?_
  refine lv_iload_n hx hb d_W_read_3 rfl (lv_at hl 1 rfl) ?_
  refine t_call (t_invV (As := [.int v9]) (rest := [.int 0, .ref ao]) hx hb hown (hts _ w_512) (hts _ w_513) (hts _ w_514) (hts _ w_515) ⟨by decide, by decide⟩ (t_recv (q0 := 1) hC rfl rfl) rfl d_W_read_4) (c_V_readO hst hI hPI ) zz_c tb_good hts w_1 (wX_in hC) (hl.1.trans hml.symm) ⟨Nat.le_of_ble_eq_true rfl, Nat.le_of_ble_eq_true rfl, Nat.le_of_ble_eq_true rfl, Nat.le_of_ble_eq_true rfl⟩ (Nat.le_of_ble_eq_true rfl) (fun E q9 ce w1 H locs hp hC hce hcv hcl => ?_) (fun v w1 H locs hp hC => ?_)
  · obtain ⟨hwe9, hp⟩ := hp
    rw [hwe9] at hC
    have hC := wX_out hC
    rcases hp with ⟨rfl, ho⟩ | ⟨rfl, ho⟩
    · skip
      refine t_catch (own := "RetentionVaultLaw") (name := "java/util/NoSuchElementException") hown [] ⟨0, 9, 12, 21⟩ [⟨0, 9, 15, 15⟩] hex (fun z hz => absurd hz List.not_mem_nil) (by decide) (by decide) (hts _ w_391) (zz_cc hC.2.2.2.2.2 (by decide +kernel)) hce hcv hcl ?_
      refine W.eq (g2 := F0 m 12 ls [.ref q9]) rfl ?_
      refine lv_astore_n (lv' := [(3, .ref q9), (0, .ref (K 0)), (1, .int v9), (2, .ref ao)]) hx hb d_W_read_12 rfl hl (by decide) rfl (fun ls hl => ?_)
      refine lv_iconst (v := 1) hx hb d_W_read_13 (by decide) ?_
      exact t_iret hx hb hr hlk zz_c hC (⟨by rw [ho], g, _, fun h => absurd h (by rw [ho]; show ¬ (1 : Int32) = 0; decide), by rw [ho]; exact ⟨FR, vs, LP, fv, mo, ea, eo, rfl, hI, rfl, rfl⟩, rfl⟩) (Nat.le_of_ble_eq_true rfl) (Nat.le_of_ble_eq_true rfl) d_W_read_14
    · skip
      refine t_catch (own := "RetentionVaultLaw") (name := "java/lang/IllegalStateException") hown [⟨0, 9, 12, 21⟩] ⟨0, 9, 15, 15⟩ [] hex (List.forall_mem_cons.mpr ⟨⟨by decide, by decide, "java/util/NoSuchElementException", hts _ w_391, zz_Xc hC.2.2.2.2.2 (by decide +kernel)⟩, fun z hz => absurd hz List.not_mem_nil⟩) (by decide) (by decide) (hts _ w_121) (zz_cc hC.2.2.2.2.2 (by decide +kernel)) hce hcv hcl ?_
      refine W.eq (g2 := F0 m 15 ls [.ref q9]) rfl ?_
      refine lv_astore_n (lv' := [(3, .ref q9), (0, .ref (K 0)), (1, .int v9), (2, .ref ao)]) hx hb d_W_read_15 rfl hl (by decide) rfl (fun ls hl => ?_)
      refine lv_iconst (v := 2) hx hb d_W_read_16 (by decide) ?_
      exact t_iret hx hb hr hlk zz_c hC (⟨by rw [ho], g, _, fun h => absurd h (by rw [ho]; show ¬ (2 : Int32) = 0; decide), by rw [ho]; exact ⟨FR, vs, LP, fv, mo, ea, eo, rfl, hI, rfl, rfl⟩, rfl⟩) (Nat.le_of_ble_eq_true rfl) (Nat.le_of_ble_eq_true rfl) d_W_read_17
  · obtain ⟨h0, rfl, FR2, vs2, LP2, fv2, mo2, ea2, eo2, hRs2, hI2, hrow2, hwe9⟩ := hp
    rw [hwe9] at hC
    have hC := wX_out hC
    refine W.eq (g2 := F0 m 7 ls [.int (o_read day v9 (vs.map fv, (ring, w9, ch), ev9)).2.1, .int 0, .ref ao]) rfl ?_
    refine lv_i2l (v := (o_read day v9 (vs.map fv, (ring, w9, ch), ev9)).2.1.toInt64) hx hb d_W_read_7 rfl ?_
    refine t_last hx hb hC 0 2 rfl rfl (show vp_in (0 : Int32) 1 from vp_in_nI (n := 0) (by decide) (by decide)) d_W_read_8 (fun H locs hC => ?_)
    refine lv_goto (tgt := 18) hx hb d_W_read_9 (by decide) ?_
    refine lv_iconst (v := 0) hx hb d_W_read_18 (by decide) ?_
    exact t_iret hx hb hr hlk zz_c hC (⟨by rw [h0], _, _, fun _ => updL0, ⟨FR2, vs2, LP2, fv2, mo2, ea2, eo2, hRs2, hI2, hrow2, rfl⟩, rfl⟩) (Nat.le_of_ble_eq_true rfl) (Nat.le_of_ble_eq_true rfl) d_W_read_19

set_option maxRecDepth 100000 in
set_option maxHeartbeats 4000000 in
theorem c_W_tick {l : Launch} (hst : l.stackTraces = false) {D : va_G} {A : Nat → Prop} {e0 : Nat → Nat} {K : Nat → Nat} {ca : Nat → ClassId} {RL LP : List Nat} {fv FR : Nat → RW} {day mo : Int32} {ea : Nat} {ch : Int64} {ring : Nat → Int32} {rest : va_W} {vs : List Nat} {eo : va_W} (hI : cI e0 ca vs LP ea eo) {w9 ev9 : Nat} (hPI : PI (vs.map fv, (ring, w9, ch), ev9)) (hw6 : w9 + 280000 < 2 ^ 31) (hevp : ev9 + pot (vs.map fv) < 2 ^ 31) {da9 : Int32} (hRL : RL.length = 6) (hrI : ∀ R ∈ RL.map FR, rOK R) {ao : Nat} {g : Nat → Int64} : tM l y_W_tick tb ({ frames := 12, cells := 81, slots := 2926, locals := 283 }) D cls (ty0 ca) A (zz e0 A) [.ref (K 0), .int da9, .ref ao] ((ao, .inl (ca 2, 1, .inr (.inl g))) :: wC K ca RL LP fv FR day (nI ev9) mo (nI vs.length) ea (nI w9) ch ring (eo ++ rest)) (fun v w2 => v = some (.int (o_tick day da9 (RL.map FR) (vs.map fv, (ring, w9, ch), ev9)).1) ∧ ∃ g2 w3, ((o_tick day da9 (RL.map FR) (vs.map fv, (ring, w9, ch), ev9)).1 = 0 → g2 0 = (o_tick day da9 (RL.map FR) (vs.map fv, (ring, w9, ch), ev9)).2.1.toInt64) ∧ cW e0 K ca RL (RL.map FR) rest (d_tick day da9) (o_tick day da9 (RL.map FR) (vs.map fv, (ring, w9, ch), ev9)).2.2 w3 ∧ w2 = (ao, .inl (ca 2, 1, .inr (.inl g2))) :: w3) xN := by
  refine t_ofWT (by decide) w_523 (Nat.le_of_ble_eq_true rfl) ?_
  intro p e s m below meth c ls hx hb hr hts hown hlk hnm hml hex hl hC
  have hown : s.vm.findClass "RetentionVaultLaw" = some m.cls := hown
  have hl : lv_has ls 4 [(0, .ref (K 0)), (1, .int da9), (2, .ref ao)] := hl
  have hex : c.exceptionTable.toList = [⟨0, 9, 12, 13⟩] := hex
  refine lv_aload_n hx hb d_W_tick_0 rfl (lv_at hl 2 rfl) ?_
  refine lv_iconst (v := 0) hx hb d_W_tick_1 (by decide) ?_
  refine lv_aload_n hx hb d_W_tick_2 rfl (lv_at hl 0 rfl) ?_
  refine lv_iload_n hx hb d_W_tick_3 rfl (lv_at hl 1 rfl) ?_
  refine t_call (t_invV (As := [.int da9]) (rest := [.int 0, .ref ao]) hx hb hown (hts _ w_524) (hts _ w_525) (hts _ w_526) (hts _ w_527) ⟨by decide, by decide⟩ (t_recv (q0 := 1) hC rfl rfl) rfl d_W_tick_4) (c_V_tickO hst hI hPI hw6 hevp hRL hrI) zz_c tb_good hts w_1 (wX_in hC) (hl.1.trans hml.symm) ⟨Nat.le_of_ble_eq_true rfl, Nat.le_of_ble_eq_true rfl, Nat.le_of_ble_eq_true rfl, Nat.le_of_ble_eq_true rfl⟩ (Nat.le_of_ble_eq_true rfl) (fun E q9 ce w1 H locs hp hC hce hcv hcl => ?_) (fun v w1 H locs hp hC => ?_)
  · obtain ⟨hwe9, hp⟩ := hp
    rw [hwe9] at hC
    have hC := wX_out hC
    obtain ⟨rfl, ho⟩ := hp
    refine t_catch (own := "RetentionVaultLaw") (name := "java/lang/IllegalArgumentException") hown [] ⟨0, 9, 12, 13⟩ [] hex (fun z hz => absurd hz List.not_mem_nil) (by decide) (by decide) (hts _ w_120) (zz_cc hC.2.2.2.2.2 (by decide +kernel)) hce hcv hcl ?_
    refine W.eq (g2 := F0 m 12 ls [.ref q9]) rfl ?_
    refine lv_astore_n (lv' := [(3, .ref q9), (0, .ref (K 0)), (1, .int da9), (2, .ref ao)]) hx hb d_W_tick_12 rfl hl (by decide) rfl (fun ls hl => ?_)
    refine lv_iconst (v := 1) hx hb d_W_tick_13 (by decide) ?_
    exact t_iret hx hb hr hlk zz_c hC (⟨by rw [ho], g, _, fun h => absurd h (by rw [ho]; show ¬ (1 : Int32) = 0; decide), by rw [d_tick_bad ho]; rw [ho]; exact ⟨FR, vs, LP, fv, mo, ea, eo, rfl, hI, rfl, rfl⟩, rfl⟩) (Nat.le_of_ble_eq_true rfl) (Nat.le_of_ble_eq_true rfl) d_W_tick_14
  · obtain ⟨h0, rfl, FR2, vs2, LP2, fv2, mo2, ea2, eo2, hRs2, hI2, hrow2, hwe9⟩ := hp
    rw [hwe9] at hC
    have hC := wX_out hC
    refine W.eq (g2 := F0 m 7 ls [.int (o_tick day da9 (RL.map FR) (vs.map fv, (ring, w9, ch), ev9)).2.1, .int 0, .ref ao]) rfl ?_
    refine lv_i2l (v := (o_tick day da9 (RL.map FR) (vs.map fv, (ring, w9, ch), ev9)).2.1.toInt64) hx hb d_W_tick_7 rfl ?_
    refine t_last hx hb hC 0 2 rfl rfl (show vp_in (0 : Int32) 1 from vp_in_nI (n := 0) (by decide) (by decide)) d_W_tick_8 (fun H locs hC => ?_)
    refine lv_goto (tgt := 15) hx hb d_W_tick_9 (by decide) ?_
    refine lv_iconst (v := 0) hx hb d_W_tick_15 (by decide) ?_
    exact t_iret hx hb hr hlk zz_c hC (⟨by rw [h0], _, _, fun _ => updL0, ⟨FR2, vs2, LP2, fv2, mo2, ea2, eo2, hRs2, hI2, hrow2, rfl⟩, rfl⟩) (Nat.le_of_ble_eq_true rfl) (Nat.le_of_ble_eq_true rfl) d_W_tick_16

set_option maxRecDepth 100000 in
set_option maxHeartbeats 4000000 in
theorem c_W_current {l : Launch} (hst : l.stackTraces = false) {D : va_G} {A : Nat → Prop} {e0 : Nat → Nat} {K : Nat → Nat} {ca : Nat → ClassId} {RL LP : List Nat} {fv FR : Nat → RW} {day mo : Int32} {ea : Nat} {ch : Int64} {ring : Nat → Int32} {rest : va_W} {vs : List Nat} {eo : va_W} (hI : cI e0 ca vs LP ea eo) {w9 ev9 : Nat} (hPI : PI (vs.map fv, (ring, w9, ch), ev9)) {k9 : Int32} {ao : Nat} {g : Nat → Int64} : tM l y_W_current tb ({ frames := 8, cells := 1, slots := 6, locals := 133 }) D cls (ty0 ca) A (zz e0 A) [.ref (K 0), .int k9, .ref ao] ((ao, .inl (ca 2, 1, .inr (.inl g))) :: wC K ca RL LP fv FR day (nI ev9) mo (nI vs.length) ea (nI w9) ch ring (eo ++ rest)) (fun v w2 => v = some (.int (o_current k9 (vs.map fv, (ring, w9, ch), ev9)).1) ∧ ∃ g2 w3, ((o_current k9 (vs.map fv, (ring, w9, ch), ev9)).1 = 0 → g2 0 = (o_current k9 (vs.map fv, (ring, w9, ch), ev9)).2.1.toInt64) ∧ cW e0 K ca RL (RL.map FR) rest day (o_current k9 (vs.map fv, (ring, w9, ch), ev9)).2.2 w3 ∧ w2 = (ao, .inl (ca 2, 1, .inr (.inl g2))) :: w3) xN := by
  refine t_ofWT (by decide) w_568 (Nat.le_of_ble_eq_true rfl) ?_
  intro p e s m below meth c ls hx hb hr hts hown hlk hnm hml hex hl hC
  have hown : s.vm.findClass "RetentionVaultLaw" = some m.cls := hown
  have hl : lv_has ls 4 [(0, .ref (K 0)), (1, .int k9), (2, .ref ao)] := hl
  have hex : c.exceptionTable.toList = [⟨0, 9, 12, 21⟩] := hex
  refine lv_aload_n hx hb d_W_current_0 rfl (lv_at hl 2 rfl) ?_
  refine lv_iconst (v := 0) hx hb d_W_current_1 (by decide) ?_
  refine lv_aload_n hx hb d_W_current_2 rfl (lv_at hl 0 rfl) ?_
  refine lv_iload_n hx hb d_W_current_3 rfl (lv_at hl 1 rfl) ?_
  refine t_call (t_invV (As := [.int k9]) (rest := [.int 0, .ref ao]) hx hb hown (hts _ w_569) (hts _ w_570) (hts _ w_571) (hts _ w_572) ⟨by decide, by decide⟩ (t_recv (q0 := 1) hC rfl rfl) rfl d_W_current_4) (c_V_currentO hst hI hPI ) zz_c tb_good hts w_1 (wX_in hC) (hl.1.trans hml.symm) ⟨Nat.le_of_ble_eq_true rfl, Nat.le_of_ble_eq_true rfl, Nat.le_of_ble_eq_true rfl, Nat.le_of_ble_eq_true rfl⟩ (Nat.le_of_ble_eq_true rfl) (fun E q9 ce w1 H locs hp hC hce hcv hcl => ?_) (fun v w1 H locs hp hC => ?_)
  · obtain ⟨hwe9, hp⟩ := hp
    rw [hwe9] at hC
    have hC := wX_out hC
    obtain ⟨rfl, ho⟩ := hp
    refine t_catch (own := "RetentionVaultLaw") (name := "java/util/NoSuchElementException") hown [] ⟨0, 9, 12, 21⟩ [] hex (fun z hz => absurd hz List.not_mem_nil) (by decide) (by decide) (hts _ w_391) (zz_cc hC.2.2.2.2.2 (by decide +kernel)) hce hcv hcl ?_
    refine W.eq (g2 := F0 m 12 ls [.ref q9]) rfl ?_
    refine lv_astore_n (lv' := [(3, .ref q9), (0, .ref (K 0)), (1, .int k9), (2, .ref ao)]) hx hb d_W_current_12 rfl hl (by decide) rfl (fun ls hl => ?_)
    refine lv_iconst (v := 1) hx hb d_W_current_13 (by decide) ?_
    exact t_iret hx hb hr hlk zz_c hC (⟨by rw [ho], g, _, fun h => absurd h (by rw [ho]; show ¬ (1 : Int32) = 0; decide), by rw [ho]; exact ⟨FR, vs, LP, fv, mo, ea, eo, rfl, hI, rfl, rfl⟩, rfl⟩) (Nat.le_of_ble_eq_true rfl) (Nat.le_of_ble_eq_true rfl) d_W_current_14
  · obtain ⟨h0, rfl, FR2, vs2, LP2, fv2, mo2, ea2, eo2, hRs2, hI2, hrow2, hwe9⟩ := hp
    rw [hwe9] at hC
    have hC := wX_out hC
    refine W.eq (g2 := F0 m 7 ls [.int (o_current k9 (vs.map fv, (ring, w9, ch), ev9)).2.1, .int 0, .ref ao]) rfl ?_
    refine lv_i2l (v := (o_current k9 (vs.map fv, (ring, w9, ch), ev9)).2.1.toInt64) hx hb d_W_current_7 rfl ?_
    refine t_last hx hb hC 0 2 rfl rfl (show vp_in (0 : Int32) 1 from vp_in_nI (n := 0) (by decide) (by decide)) d_W_current_8 (fun H locs hC => ?_)
    refine lv_goto (tgt := 15) hx hb d_W_current_9 (by decide) ?_
    refine lv_iconst (v := 0) hx hb d_W_current_15 (by decide) ?_
    exact t_iret hx hb hr hlk zz_c hC (⟨by rw [h0], _, _, fun _ => updL0, ⟨FR2, vs2, LP2, fv2, mo2, ea2, eo2, hRs2, hI2, hrow2, rfl⟩, rfl⟩) (Nat.le_of_ble_eq_true rfl) (Nat.le_of_ble_eq_true rfl) d_W_current_16

set_option maxRecDepth 100000 in
set_option maxHeartbeats 4000000 in
theorem c_W_about {l : Launch} (hst : l.stackTraces = false) {D : va_G} {A : Nat → Prop} {e0 : Nat → Nat} {K : Nat → Nat} {ca : Nat → ClassId} {RL LP : List Nat} {fv FR : Nat → RW} {day mo : Int32} {ea : Nat} {ch : Int64} {ring : Nat → Int32} {rest : va_W} {vs : List Nat} {eo : va_W} (hI : cI e0 ca vs LP ea eo) {w9 ev9 : Nat} (hPI : PI (vs.map fv, (ring, w9, ch), ev9)) {v9 wh9 : Int32} {ao : Nat} {g : Nat → Int64} : tM l y_W_about tb ({ frames := 8, cells := 2, slots := 12, locals := 136 }) D cls (ty0 ca) A (zz e0 A) [.ref (K 0), .int v9, .int wh9, .ref ao] ((ao, .inl (ca 2, 1, .inr (.inl g))) :: wC K ca RL LP fv FR day (nI ev9) mo (nI vs.length) ea (nI w9) ch ring (eo ++ rest)) (fun v w2 => v = some (.int (o_about day v9 wh9 (vs.map fv, (ring, w9, ch), ev9)).1) ∧ ∃ g2 w3, ((o_about day v9 wh9 (vs.map fv, (ring, w9, ch), ev9)).1 = 0 → g2 0 = (o_about day v9 wh9 (vs.map fv, (ring, w9, ch), ev9)).2.1.toInt64) ∧ cW e0 K ca RL (RL.map FR) rest day (o_about day v9 wh9 (vs.map fv, (ring, w9, ch), ev9)).2.2 w3 ∧ w2 = (ao, .inl (ca 2, 1, .inr (.inl g2))) :: w3) xN := by
  refine t_ofWT (by decide) w_575 (Nat.le_of_ble_eq_true rfl) ?_
  intro p e s m below meth c ls hx hb hr hts hown hlk hnm hml hex hl hC
  have hown : s.vm.findClass "RetentionVaultLaw" = some m.cls := hown
  have hl : lv_has ls 5 [(0, .ref (K 0)), (1, .int v9), (2, .int wh9), (3, .ref ao)] := hl
  have hex : c.exceptionTable.toList = [⟨0, 10, 13, 21⟩, ⟨0, 10, 17, 13⟩] := hex
  refine lv_aload_n hx hb d_W_about_0 rfl (lv_at hl 3 rfl) ?_
  refine lv_iconst (v := 0) hx hb d_W_about_1 (by decide) ?_
  refine lv_aload_n hx hb d_W_about_2 rfl (lv_at hl 0 rfl) ?_
  refine lv_iload_n hx hb d_W_about_3 rfl (lv_at hl 1 rfl) ?_
  refine lv_iload_n hx hb d_W_about_4 rfl (lv_at hl 2 rfl) ?_
  refine t_call (t_invV (As := [.int v9, .int wh9]) (rest := [.int 0, .ref ao]) hx hb hown (hts _ w_576) (hts _ w_577) (hts _ w_578) (hts _ w_579) ⟨by decide, by decide⟩ (t_recv (q0 := 1) hC rfl rfl) rfl d_W_about_5) (c_V_aboutO hst hI hPI ) zz_c tb_good hts w_1 (wX_in hC) (hl.1.trans hml.symm) ⟨Nat.le_of_ble_eq_true rfl, Nat.le_of_ble_eq_true rfl, Nat.le_of_ble_eq_true rfl, Nat.le_of_ble_eq_true rfl⟩ (Nat.le_of_ble_eq_true rfl) (fun E q9 ce w1 H locs hp hC hce hcv hcl => ?_) (fun v w1 H locs hp hC => ?_)
  · obtain ⟨hwe9, hp⟩ := hp
    rw [hwe9] at hC
    have hC := wX_out hC
    rcases hp with ⟨rfl, ho⟩ | ⟨rfl, ho⟩
    · skip
      refine t_catch (own := "RetentionVaultLaw") (name := "java/util/NoSuchElementException") hown [] ⟨0, 10, 13, 21⟩ [⟨0, 10, 17, 13⟩] hex (fun z hz => absurd hz List.not_mem_nil) (by decide) (by decide) (hts _ w_391) (zz_cc hC.2.2.2.2.2 (by decide +kernel)) hce hcv hcl ?_
      refine W.eq (g2 := F0 m 13 ls [.ref q9]) rfl ?_
      refine lv_astore (lv' := [(4, .ref q9), (0, .ref (K 0)), (1, .int v9), (2, .int wh9), (3, .ref ao)]) hx hb d_W_about_13 hl (by decide) rfl (fun ls hl => ?_)
      refine lv_iconst (v := 1) hx hb d_W_about_15 (by decide) ?_
      exact t_iret hx hb hr hlk zz_c hC (⟨by rw [ho], g, _, fun h => absurd h (by rw [ho]; show ¬ (1 : Int32) = 0; decide), by rw [ho]; exact ⟨FR, vs, LP, fv, mo, ea, eo, rfl, hI, rfl, rfl⟩, rfl⟩) (Nat.le_of_ble_eq_true rfl) (Nat.le_of_ble_eq_true rfl) d_W_about_16
    · skip
      refine t_catch (own := "RetentionVaultLaw") (name := "java/lang/IllegalArgumentException") hown [⟨0, 10, 13, 21⟩] ⟨0, 10, 17, 13⟩ [] hex (List.forall_mem_cons.mpr ⟨⟨by decide, by decide, "java/util/NoSuchElementException", hts _ w_391, zz_Xc hC.2.2.2.2.2 (by decide +kernel)⟩, fun z hz => absurd hz List.not_mem_nil⟩) (by decide) (by decide) (hts _ w_120) (zz_cc hC.2.2.2.2.2 (by decide +kernel)) hce hcv hcl ?_
      refine W.eq (g2 := F0 m 17 ls [.ref q9]) rfl ?_
      refine lv_astore (lv' := [(4, .ref q9), (0, .ref (K 0)), (1, .int v9), (2, .int wh9), (3, .ref ao)]) hx hb d_W_about_17 hl (by decide) rfl (fun ls hl => ?_)
      refine lv_iconst (v := 2) hx hb d_W_about_19 (by decide) ?_
      exact t_iret hx hb hr hlk zz_c hC (⟨by rw [ho], g, _, fun h => absurd h (by rw [ho]; show ¬ (2 : Int32) = 0; decide), by rw [ho]; exact ⟨FR, vs, LP, fv, mo, ea, eo, rfl, hI, rfl, rfl⟩, rfl⟩) (Nat.le_of_ble_eq_true rfl) (Nat.le_of_ble_eq_true rfl) d_W_about_20
  · obtain ⟨h0, rfl, FR2, vs2, LP2, fv2, mo2, ea2, eo2, hRs2, hI2, hrow2, hwe9⟩ := hp
    rw [hwe9] at hC
    have hC := wX_out hC
    refine W.eq (g2 := F0 m 8 ls [.int (o_about day v9 wh9 (vs.map fv, (ring, w9, ch), ev9)).2.1, .int 0, .ref ao]) rfl ?_
    refine lv_i2l (v := (o_about day v9 wh9 (vs.map fv, (ring, w9, ch), ev9)).2.1.toInt64) hx hb d_W_about_8 rfl ?_
    refine t_last hx hb hC 0 2 rfl rfl (show vp_in (0 : Int32) 1 from vp_in_nI (n := 0) (by decide) (by decide)) d_W_about_9 (fun H locs hC => ?_)
    refine lv_goto (tgt := 21) hx hb d_W_about_10 (by decide) ?_
    refine lv_iconst (v := 0) hx hb d_W_about_21 (by decide) ?_
    exact t_iret hx hb hr hlk zz_c hC (⟨by rw [h0], _, _, fun _ => updL0, ⟨FR2, vs2, LP2, fv2, mo2, ea2, eo2, hRs2, hI2, hrow2, rfl⟩, rfl⟩) (Nat.le_of_ble_eq_true rfl) (Nat.le_of_ble_eq_true rfl) d_W_about_22

set_option maxRecDepth 100000 in
set_option maxHeartbeats 4000000 in
theorem c_W_entry {l : Launch} (hst : l.stackTraces = false) {D : va_G} {A : Nat → Prop} {e0 : Nat → Nat} {K : Nat → Nat} {ca : Nat → ClassId} {RL LP : List Nat} {fv FR : Nat → RW} {day mo : Int32} {ea : Nat} {ch : Int64} {ring : Nat → Int32} {rest : va_W} {vs : List Nat} {eo : va_W} (hI : cI e0 ca vs LP ea eo) {w9 ev9 : Nat} (hPI : PI (vs.map fv, (ring, w9, ch), ev9)) (hw9 : w9 < 2 ^ 31) {k9 wh9 : Int32} {ao : Nat} {g : Nat → Int64} : tM l y_W_entry tb ({ frames := 8, cells := 2, slots := 12, locals := 132 }) D cls (ty0 ca) A (zz e0 A) [.ref (K 0), .int k9, .int wh9, .ref ao] ((ao, .inl (ca 2, 1, .inr (.inl g))) :: wC K ca RL LP fv FR day (nI ev9) mo (nI vs.length) ea (nI w9) ch ring (eo ++ rest)) (fun v w2 => v = some (.int (o_entry k9 wh9 (vs.map fv, (ring, w9, ch), ev9)).1) ∧ ∃ g2 w3, ((o_entry k9 wh9 (vs.map fv, (ring, w9, ch), ev9)).1 = 0 → g2 0 = (o_entry k9 wh9 (vs.map fv, (ring, w9, ch), ev9)).2.1.toInt64) ∧ cW e0 K ca RL (RL.map FR) rest day (o_entry k9 wh9 (vs.map fv, (ring, w9, ch), ev9)).2.2 w3 ∧ w2 = (ao, .inl (ca 2, 1, .inr (.inl g2))) :: w3) xN := by
  refine t_ofWT (by decide) w_584 (Nat.le_of_ble_eq_true rfl) ?_
  intro p e s m below meth c ls hx hb hr hts hown hlk hnm hml hex hl hC
  have hown : s.vm.findClass "RetentionVaultLaw" = some m.cls := hown
  have hl : lv_has ls 5 [(0, .ref (K 0)), (1, .int k9), (2, .int wh9), (3, .ref ao)] := hl
  have hex : c.exceptionTable.toList = [⟨0, 10, 13, 13⟩, ⟨0, 10, 17, 62⟩] := hex
  refine lv_aload_n hx hb d_W_entry_0 rfl (lv_at hl 3 rfl) ?_
  refine lv_iconst (v := 0) hx hb d_W_entry_1 (by decide) ?_
  refine lv_aload_n hx hb d_W_entry_2 rfl (lv_at hl 0 rfl) ?_
  refine lv_iload_n hx hb d_W_entry_3 rfl (lv_at hl 1 rfl) ?_
  refine lv_iload_n hx hb d_W_entry_4 rfl (lv_at hl 2 rfl) ?_
  refine t_call (t_invV (As := [.int k9, .int wh9]) (rest := [.int 0, .ref ao]) hx hb hown (hts _ w_586) (hts _ w_587) (hts _ w_588) (hts _ w_589) ⟨by decide, by decide⟩ (t_recv (q0 := 1) hC rfl rfl) rfl d_W_entry_5) (c_V_entryO hst hI hPI hw9) zz_c tb_good hts w_1 (wX_in hC) (hl.1.trans hml.symm) ⟨Nat.le_of_ble_eq_true rfl, Nat.le_of_ble_eq_true rfl, Nat.le_of_ble_eq_true rfl, Nat.le_of_ble_eq_true rfl⟩ (Nat.le_of_ble_eq_true rfl) (fun E q9 ce w1 H locs hp hC hce hcv hcl => ?_) (fun v w1 H locs hp hC => ?_)
  · obtain ⟨hwe9, hp⟩ := hp
    rw [hwe9] at hC
    have hC := wX_out hC
    rcases hp with ⟨rfl, ho⟩ | ⟨rfl, ho⟩
    · skip
      refine t_catch (own := "RetentionVaultLaw") (name := "java/lang/IllegalArgumentException") hown [] ⟨0, 10, 13, 13⟩ [⟨0, 10, 17, 62⟩] hex (fun z hz => absurd hz List.not_mem_nil) (by decide) (by decide) (hts _ w_120) (zz_cc hC.2.2.2.2.2 (by decide +kernel)) hce hcv hcl ?_
      refine W.eq (g2 := F0 m 13 ls [.ref q9]) rfl ?_
      refine lv_astore (lv' := [(4, .ref q9), (0, .ref (K 0)), (1, .int k9), (2, .int wh9), (3, .ref ao)]) hx hb d_W_entry_13 hl (by decide) rfl (fun ls hl => ?_)
      refine lv_iconst (v := 1) hx hb d_W_entry_15 (by decide) ?_
      exact t_iret hx hb hr hlk zz_c hC (⟨by rw [ho], g, _, fun h => absurd h (by rw [ho]; show ¬ (1 : Int32) = 0; decide), by rw [ho]; exact ⟨FR, vs, LP, fv, mo, ea, eo, rfl, hI, rfl, rfl⟩, rfl⟩) (Nat.le_of_ble_eq_true rfl) (Nat.le_of_ble_eq_true rfl) d_W_entry_16
    · skip
      refine t_catch (own := "RetentionVaultLaw") (name := "java/lang/IndexOutOfBoundsException") hown [⟨0, 10, 13, 13⟩] ⟨0, 10, 17, 62⟩ [] hex (List.forall_mem_cons.mpr ⟨⟨by decide, by decide, "java/lang/IllegalArgumentException", hts _ w_120, zz_Xc hC.2.2.2.2.2 (by decide +kernel)⟩, fun z hz => absurd hz List.not_mem_nil⟩) (by decide) (by decide) (hts _ w_585) (zz_cc hC.2.2.2.2.2 (by decide +kernel)) hce hcv hcl ?_
      refine W.eq (g2 := F0 m 17 ls [.ref q9]) rfl ?_
      refine lv_astore (lv' := [(4, .ref q9), (0, .ref (K 0)), (1, .int k9), (2, .int wh9), (3, .ref ao)]) hx hb d_W_entry_17 hl (by decide) rfl (fun ls hl => ?_)
      refine lv_iconst (v := 2) hx hb d_W_entry_19 (by decide) ?_
      exact t_iret hx hb hr hlk zz_c hC (⟨by rw [ho], g, _, fun h => absurd h (by rw [ho]; show ¬ (2 : Int32) = 0; decide), by rw [ho]; exact ⟨FR, vs, LP, fv, mo, ea, eo, rfl, hI, rfl, rfl⟩, rfl⟩) (Nat.le_of_ble_eq_true rfl) (Nat.le_of_ble_eq_true rfl) d_W_entry_20
  · obtain ⟨h0, rfl, FR2, vs2, LP2, fv2, mo2, ea2, eo2, hRs2, hI2, hrow2, hwe9⟩ := hp
    rw [hwe9] at hC
    have hC := wX_out hC
    refine W.eq (g2 := F0 m 8 ls [.int (o_entry k9 wh9 (vs.map fv, (ring, w9, ch), ev9)).2.1, .int 0, .ref ao]) rfl ?_
    refine lv_i2l (v := (o_entry k9 wh9 (vs.map fv, (ring, w9, ch), ev9)).2.1.toInt64) hx hb d_W_entry_8 rfl ?_
    refine t_last hx hb hC 0 2 rfl rfl (show vp_in (0 : Int32) 1 from vp_in_nI (n := 0) (by decide) (by decide)) d_W_entry_9 (fun H locs hC => ?_)
    refine lv_goto (tgt := 21) hx hb d_W_entry_10 (by decide) ?_
    refine lv_iconst (v := 0) hx hb d_W_entry_21 (by decide) ?_
    exact t_iret hx hb hr hlk zz_c hC (⟨by rw [h0], _, _, fun _ => updL0, ⟨FR2, vs2, LP2, fv2, mo2, ea2, eo2, hRs2, hI2, hrow2, rfl⟩, rfl⟩) (Nat.le_of_ble_eq_true rfl) (Nat.le_of_ble_eq_true rfl) d_W_entry_22

set_option maxRecDepth 100000 in
set_option maxHeartbeats 4000000 in
theorem c_W_figure {l : Launch} (hst : l.stackTraces = false) {D : va_G} {A : Nat → Prop} {e0 : Nat → Nat} {K : Nat → Nat} {ca : Nat → ClassId} {RL LP : List Nat} {fv FR : Nat → RW} {day mo : Int32} {ea : Nat} {ch : Int64} {ring : Nat → Int32} {rest : va_W} {vs : List Nat} {eo : va_W} (hI : cI e0 ca vs LP ea eo) {w9 ev9 : Nat} (hPI : PI (vs.map fv, (ring, w9, ch), ev9)) {k9 : Int32} {ao : Nat} {g : Nat → Int64} : tM l y_W_figure tb ({ frames := 7, cells := 1, slots := 6, locals := 111 }) D cls (ty0 ca) A (zz e0 A) [.ref (K 0), .int k9, .ref ao] ((ao, .inl (ca 2, 1, .inr (.inl g))) :: wC K ca RL LP fv FR day (nI ev9) mo (nI vs.length) ea (nI w9) ch ring (eo ++ rest)) (fun v w2 => v = some (.int (o_figure day k9 (vs.map fv, (ring, w9, ch), ev9)).1) ∧ ∃ g2 w3, ((o_figure day k9 (vs.map fv, (ring, w9, ch), ev9)).1 = 0 → g2 0 = (o_figure day k9 (vs.map fv, (ring, w9, ch), ev9)).2.1.toInt64) ∧ cW e0 K ca RL (RL.map FR) rest day (o_figure day k9 (vs.map fv, (ring, w9, ch), ev9)).2.2 w3 ∧ w2 = (ao, .inl (ca 2, 1, .inr (.inl g2))) :: w3) xN := by
  refine t_ofWT (by decide) w_616 (Nat.le_of_ble_eq_true rfl) ?_
  intro p e s m below meth c ls hx hb hr hts hown hlk hnm hml hex hl hC
  have hown : s.vm.findClass "RetentionVaultLaw" = some m.cls := hown
  have hl : lv_has ls 4 [(0, .ref (K 0)), (1, .int k9), (2, .ref ao)] := hl
  have hex : c.exceptionTable.toList = [⟨0, 9, 12, 13⟩] := hex
  refine lv_aload_n hx hb d_W_figure_0 rfl (lv_at hl 2 rfl) ?_
  refine lv_iconst (v := 0) hx hb d_W_figure_1 (by decide) ?_
  refine lv_aload_n hx hb d_W_figure_2 rfl (lv_at hl 0 rfl) ?_
  refine lv_iload_n hx hb d_W_figure_3 rfl (lv_at hl 1 rfl) ?_
  refine t_call (t_invV (As := [.int k9]) (rest := [.int 0, .ref ao]) hx hb hown (hts _ w_617) (hts _ w_618) (hts _ w_619) (hts _ w_620) ⟨by decide, by decide⟩ (t_recv (q0 := 1) hC rfl rfl) rfl d_W_figure_4) (c_V_figureO hst hI hPI ) zz_c tb_good hts w_1 (wX_in hC) (hl.1.trans hml.symm) ⟨Nat.le_of_ble_eq_true rfl, Nat.le_of_ble_eq_true rfl, Nat.le_of_ble_eq_true rfl, Nat.le_of_ble_eq_true rfl⟩ (Nat.le_of_ble_eq_true rfl) (fun E q9 ce w1 H locs hp hC hce hcv hcl => ?_) (fun v w1 H locs hp hC => ?_)
  · obtain ⟨hwe9, hp⟩ := hp
    rw [hwe9] at hC
    have hC := wX_out hC
    obtain ⟨rfl, ho⟩ := hp
    refine t_catch (own := "RetentionVaultLaw") (name := "java/lang/IllegalArgumentException") hown [] ⟨0, 9, 12, 13⟩ [] hex (fun z hz => absurd hz List.not_mem_nil) (by decide) (by decide) (hts _ w_120) (zz_cc hC.2.2.2.2.2 (by decide +kernel)) hce hcv hcl ?_
    refine W.eq (g2 := F0 m 12 ls [.ref q9]) rfl ?_
    refine lv_astore_n (lv' := [(3, .ref q9), (0, .ref (K 0)), (1, .int k9), (2, .ref ao)]) hx hb d_W_figure_12 rfl hl (by decide) rfl (fun ls hl => ?_)
    refine lv_iconst (v := 1) hx hb d_W_figure_13 (by decide) ?_
    exact t_iret hx hb hr hlk zz_c hC (⟨by rw [ho], g, _, fun h => absurd h (by rw [ho]; show ¬ (1 : Int32) = 0; decide), by rw [ho]; exact ⟨FR, vs, LP, fv, mo, ea, eo, rfl, hI, rfl, rfl⟩, rfl⟩) (Nat.le_of_ble_eq_true rfl) (Nat.le_of_ble_eq_true rfl) d_W_figure_14
  · obtain ⟨h0, rfl, FR2, vs2, LP2, fv2, mo2, ea2, eo2, hRs2, hI2, hrow2, hwe9⟩ := hp
    rw [hwe9] at hC
    have hC := wX_out hC
    refine W.eq (g2 := F0 m 7 ls [.int (o_figure day k9 (vs.map fv, (ring, w9, ch), ev9)).2.1, .int 0, .ref ao]) rfl ?_
    refine lv_i2l (v := (o_figure day k9 (vs.map fv, (ring, w9, ch), ev9)).2.1.toInt64) hx hb d_W_figure_7 rfl ?_
    refine t_last hx hb hC 0 2 rfl rfl (show vp_in (0 : Int32) 1 from vp_in_nI (n := 0) (by decide) (by decide)) d_W_figure_8 (fun H locs hC => ?_)
    refine lv_goto (tgt := 15) hx hb d_W_figure_9 (by decide) ?_
    refine lv_iconst (v := 0) hx hb d_W_figure_15 (by decide) ?_
    exact t_iret hx hb hr hlk zz_c hC (⟨by rw [h0], _, _, fun _ => updL0, ⟨FR2, vs2, LP2, fv2, mo2, ea2, eo2, hRs2, hI2, hrow2, rfl⟩, rfl⟩) (Nat.le_of_ble_eq_true rfl) (Nat.le_of_ble_eq_true rfl) d_W_figure_16
