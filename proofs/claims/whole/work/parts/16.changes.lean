/-! The vault: retain, hold, rule, unrule, fetch, cool. Laid by program (wip/whole/p16.py) -/
set_option maxRecDepth 100000 in
set_option maxHeartbeats 4000000 in
theorem c_V_retain {l : Launch} (hst : l.stackTraces = false) {D : va_G} {A : Nat → Prop} {e0 : Nat → Nat} {K : Nat → Nat} {ca : Nat → ClassId} {RL LP : List Nat} {fv FR : Nat → RW} {day ever mo : Int32} {ea : Nat} {ch : Int64} {ring : Nat → Int32} {rest : va_W} {vs : List Nat} {eo : va_W} (hI : cI e0 ca vs LP ea eo) {w9 : Nat} (hw9 : w9 < 2 ^ 31) {number days st9 : Int32} (hb01 : st9 = 0 ∨ st9 = 1) : tM l y_V_retain tb ({ frames := 8, cells := 4, slots := 24, locals := 135 }) D cls (ty0 ca) A (zz e0 A) [.ref (K 0), .int number, .int days, .int st9] (wC K ca RL LP fv FR day ever mo (nI vs.length) ea (nI w9) ch ring (eo ++ rest)) (fun v w2 => ∃ a, vs.find? (fun a => decide (fv a 0 = number)) = some a ∧ fv a 5 ≠ -1 ∧ (0 ≤ days ∧ days ≤ 10000) ∧ ¬ ((fv a 9 ≠ 0 ∧ day < fv a 8) ∧ (st9 = 0 ∨ day + days < fv a 8)) ∧ v = none ∧ w2 = wC K ca RL LP (va_up fv a (upd (upd (fv a) 8 (day + days)) 9 st9)) FR day ever mo (nI vs.length) ea (nI (w9 + 1)) ((lg_wr (ring, w9, ch) day 5 (fv a 0) (day + days)).2.2) ((lg_wr (ring, w9, ch) day 5 (fv a 0) (day + days)).1) (eo ++ rest)) (fun E w2 => w2 = wC K ca RL LP fv FR day ever mo (nI vs.length) ea (nI w9) ch ring (eo ++ rest) ∧ ((E = "java/util/NoSuchElementException" ∧ (vs.find? (fun a => decide (fv a 0 = number)) = none ∨ ∃ a, vs.find? (fun a => decide (fv a 0 = number)) = some a ∧ fv a 5 = -1)) ∨ (∃ a, vs.find? (fun a => decide (fv a 0 = number)) = some a ∧ fv a 5 ≠ -1 ∧ ((E = "java/lang/IllegalArgumentException" ∧ ¬ (0 ≤ days ∧ days ≤ 10000)) ∨ (E = "java/lang/IllegalStateException" ∧ (0 ≤ days ∧ days ≤ 10000) ∧ (fv a 9 ≠ 0 ∧ day < fv a 8) ∧ (st9 = 0 ∨ day + days < fv a 8)))))) := by
  refine t_ofW (by decide) w_461 (Nat.le_of_ble_eq_true rfl) ?_
  intro p e s m below meth c ls hx hb hr hts hown hlk hnm hml hex hl hC
  have hown : s.vm.findClass "RetentionVault" = some m.cls := hown
  have hl : lv_has ls 6 [(0, .ref (K 0)), (1, .int number), (2, .int days), (3, .int st9)] := hl
  obtain ⟨hLR, hvL, hnd, h40⟩ := hI
  refine lv_aload_n hx hb d_V_retain_0 rfl (lv_at hl 0 rfl) ?_
  refine lv_iload_n hx hb d_V_retain_1 rfl (lv_at hl 1 rfl) ?_
  refine t_call (t_invV (As := [.int number]) (rest := []) hx hb hown (hts _ w_462) (hts _ w_464) (hts _ s_V_objectNumbered) (hts _ w_465) ⟨by decide, by decide⟩ (t_recv (q0 := 0) hC rfl rfl) rfl d_V_retain_2) (c_V_objectNumbered hst ⟨hLR, hvL, hnd, h40⟩) zz_c tb_good hts w_1 hC (hl.1.trans hml.symm) ⟨Nat.le_of_ble_eq_true rfl, Nat.le_of_ble_eq_true rfl, Nat.le_of_ble_eq_true rfl, Nat.le_of_ble_eq_true rfl⟩ (Nat.le_of_ble_eq_true rfl) (fun E q9 ce w1 H locs hp hC hce hcv hcl => ?_) (fun v w1 H locs hp hC => ?_)
  · skip
    obtain ⟨rfl, hwe9, hfa⟩ := hp
    rw [hwe9] at hC
    have hC : tC D cls (ty0 ca) A (zz e0 A) s (wC K ca RL LP fv FR day ever mo (nI vs.length) ea (nI w9) ch ring (eo ++ rest)) H locs := hC
    exact t_out (fun x h => (hex x h).elim) hlk zz_c hC hce hcv hcl (⟨rfl, Or.inl ⟨rfl, hfa⟩⟩) (Nat.le_of_ble_eq_true rfl) (Nat.le_of_ble_eq_true rfl)
  · skip
    obtain ⟨a, hfa, hob, rfl, hwe9⟩ := hp
    rw [hwe9] at hC
    have ha : a ∈ LP := hvL a (List.mem_of_find?_eq_some hfa)
    have hC : tC D cls (ty0 ca) A (zz e0 A) s (wC K ca RL LP fv FR day ever mo (nI vs.length) ea (nI w9) ch ring (eo ++ rest)) H locs := hC
    refine W.eq (g2 := F0 m 5 ls [.ref a]) rfl ?_
    refine lv_astore (lv' := [(4, .ref a), (0, .ref (K 0)), (1, .int number), (2, .int days), (3, .int st9)]) hx hb d_V_retain_5 hl (by decide) rfl (fun ls hl => ?_)
    refine lv_iload_n hx hb d_V_retain_7 rfl (lv_at hl 3 rfl) ?_
    refine lv_iconst (v := 0) hx hb d_V_retain_8 (by decide) ?_
    refine lv_sipush (v := 10000) hx hb d_V_retain_9 (by decide) ?_
    refine t_call (t_invS (As := [.int days, .int 0, .int 10000]) (rest := []) hx hb hown (hts _ w_127) (hts _ w_128) (hts _ w_1) (hts _ w_129) ⟨by decide, by decide⟩ rfl d_V_retain_12) (c_V_isWithin zz_c) zz_c tb_good hts w_1 hC (hl.1.trans hml.symm) ⟨Nat.le_of_ble_eq_true rfl, Nat.le_of_ble_eq_true rfl, Nat.le_of_ble_eq_true rfl, Nat.le_of_ble_eq_true rfl⟩ (Nat.le_of_ble_eq_true rfl) (fun E q ce w1 H1 l1 hp => hp.elim) (fun v w1 H locs hp hC => ?_)
    obtain ⟨rfl, hwe9⟩ := hp
    rw [hwe9] at hC
    have hC : tC D cls (ty0 ca) A (zz e0 A) s (wC K ca RL LP fv FR day ever mo (nI vs.length) ea (nI w9) ch ring (eo ++ rest)) H locs := hC
    refine W.eq (g2 := F0 m 15 ls [.int (bI (0 ≤ days ∧ days ≤ 10000))]) rfl ?_
    refine t_call (t_invS (As := [.int (bI (0 ≤ days ∧ days ≤ 10000))]) (rest := []) hx hb hown (hts _ w_130) (hts _ w_131) (hts _ w_1) (hts _ w_132) ⟨by decide, by decide⟩ rfl d_V_retain_15) (c_V_demand hst) zz_c tb_good hts w_1 hC (hl.1.trans hml.symm) ⟨Nat.le_of_ble_eq_true rfl, Nat.le_of_ble_eq_true rfl, Nat.le_of_ble_eq_true rfl, Nat.le_of_ble_eq_true rfl⟩ (Nat.le_of_ble_eq_true rfl) (fun E q9 ce w1 H locs hp hC hce hcv hcl => ?_) (fun v w1 H locs hp hC => ?_)
    · skip
      obtain ⟨rfl, hwe9, hdem⟩ := hp
      rw [hwe9] at hC
      have hC : tC D cls (ty0 ca) A (zz e0 A) s (wC K ca RL LP fv FR day ever mo (nI vs.length) ea (nI w9) ch ring (eo ++ rest)) H locs := hC
      exact t_out (fun x h => (hex x h).elim) hlk zz_c hC hce hcv hcl (⟨rfl, Or.inr ⟨a, hfa, hob, Or.inl ⟨rfl, bI_ne.mp hdem⟩⟩⟩) (Nat.le_of_ble_eq_true rfl) (Nat.le_of_ble_eq_true rfl)
    · skip
      obtain ⟨rfl, hwe9, hdem⟩ := hp
      rw [hwe9] at hC
      have hC : tC D cls (ty0 ca) A (zz e0 A) s (wC K ca RL LP fv FR day ever mo (nI vs.length) ea (nI w9) ch ring (eo ++ rest)) H locs := hC
      refine W.eq (g2 := F0 m 18 ls []) rfl ?_
      refine lv_aload_n hx hb d_V_retain_18 rfl (lv_at hl 1 rfl) ?_
      refine t_get (v := .int day) hx hb hts inV hown hC 0 rfl rfl 3 (by decide) (hts _ w_100) (fun _ h => h) rfl d_V_retain_19 ?_
      refine lv_iload_n hx hb d_V_retain_22 rfl (lv_at hl 3 rfl) ?_
      refine lv_iadd hx hb d_V_retain_23 ?_
      refine lv_istore (lv' := [(5, .int (day + days)), (4, .ref a), (0, .ref (K 0)), (1, .int number), (2, .int days), (3, .int st9)]) hx hb d_V_retain_24 hl (by decide) rfl (fun ls hl => ?_)
      refine lv_aload hx hb d_V_retain_26 (lv_at hl 1 rfl) ?_
      refine lv_aload_n hx hb d_V_retain_28 rfl (lv_at hl 2 rfl) ?_
      refine t_get (v := .int day) hx hb hts inV hown hC 0 rfl rfl 3 (by decide) (hts _ w_100) (fun _ h => h) rfl d_V_retain_29 ?_
      refine t_call (t_invV (As := [.int day]) (rest := []) hx hb hown (hts _ w_428) (hts _ w_429) (hts _ w_430) (hts _ w_431) ⟨by decide, by decide⟩ (t_recvP hC ha rfl rfl) rfl d_V_retain_32) (c_N_isRetainedStrictly zz_c ha) zz_c tb_good hts w_13 hC (hl.1.trans hml.symm) ⟨Nat.le_of_ble_eq_true rfl, Nat.le_of_ble_eq_true rfl, Nat.le_of_ble_eq_true rfl, Nat.le_of_ble_eq_true rfl⟩ (Nat.le_of_ble_eq_true rfl) (fun E q ce w1 H1 l1 hp => hp.elim) (fun v w1 H locs hp hC => ?_)
      obtain ⟨rfl, hwe9⟩ := hp
      rw [hwe9] at hC
      have hC : tC D cls (ty0 ca) A (zz e0 A) s (wC K ca RL LP fv FR day ever mo (nI vs.length) ea (nI w9) ch ring (eo ++ rest)) H locs := hC
      refine W.eq (g2 := F0 m 35 ls [.int (bI (fv a 9 ≠ 0 ∧ day < fv a 8))]) rfl ?_
      refine lv_if_eq (tgt := 62) hx hb d_V_retain_35 (by decide) (fun c35 => ?_) (fun c35 => ?_)
      · skip
        refine lv_aload hx hb d_V_retain_62 (lv_at hl 1 rfl) ?_
        refine lv_iload hx hb d_V_retain_64 (lv_at hl 0 rfl) ?_
        refine t_putP (ty := .int) hx hb hts inN TN tyN nmN hown hC ha rfl 8 (by decide) (hts _ w_252) (fun _ h => h) (Or.inl rfl) (by decide +kernel) rfl rfl d_V_retain_66 (fun H locs hC => ?_)
        have hC : tC D cls (ty0 ca) A (zz e0 A) s (wC K ca RL LP (va_up fv a (upd (fv a) 8 (day + days))) FR day ever mo (nI vs.length) ea (nI w9) ch ring (eo ++ rest)) H locs := hC
        refine lv_aload hx hb d_V_retain_69 (lv_at hl 1 rfl) ?_
        refine lv_iload_n hx hb d_V_retain_71 rfl (lv_at hl 5 rfl) ?_
        refine t_putP (ty := .boolean) hx hb hts inN TN tyN nmN hown hC ha rfl 9 (by decide) (hts _ w_254) (fun _ h => h) (Or.inl rfl) (by decide +kernel) (by rcases hb01 with rfl | rfl <;> rfl) (by rcases hb01 with rfl | rfl <;> rfl) d_V_retain_72 (fun H locs hC => ?_)
        have hC : tC D cls (ty0 ca) A (zz e0 A) s (wC K ca RL LP (va_up (va_up fv a (upd (fv a) 8 (day + days))) a (upd ((va_up fv a (upd (fv a) 8 (day + days))) a) 9 st9)) FR day ever mo (nI vs.length) ea (nI w9) ch ring (eo ++ rest)) H locs := hC
        refine lv_aload_n hx hb d_V_retain_75 rfl (lv_at hl 2 rfl) ?_
        refine t_get (v := .ref (K 3)) hx hb hts inV hown hC 0 rfl rfl 2 (by decide) (hts _ w_99) (fun _ h => h) rfl d_V_retain_76 ?_
        refine lv_aload_n hx hb d_V_retain_79 rfl (lv_at hl 2 rfl) ?_
        refine t_get (v := .int day) hx hb hts inV hown hC 0 rfl rfl 3 (by decide) (hts _ w_100) (fun _ h => h) rfl d_V_retain_80 ?_
        refine lv_iconst (v := 5) hx hb d_V_retain_83 (by decide) ?_
        refine lv_aload hx hb d_V_retain_84 (lv_at hl 1 rfl) ?_
        refine t_getP hx hb hts inN hown hC ha rfl 0 (by decide) (hts _ w_237) (fun _ h => h) d_V_retain_86 ?_
        refine lv_iload hx hb d_V_retain_89 (lv_at hl 0 rfl) ?_
        refine t_call (t_invV (As := [.int day, .int 5, .int ((va_up (va_up fv a (upd (fv a) 8 (day + days))) a (upd ((va_up fv a (upd (fv a) 8 (day + days))) a) 9 st9)) a 0), .int (day + days)]) (rest := []) hx hb hown (hts _ w_376) (hts _ w_377) (hts _ w_378) (hts _ w_379) ⟨by decide, by decide⟩ (t_recv (q0 := 3) hC rfl rfl) rfl d_V_retain_91) (c_G_write hw9) zz_c tb_good hts w_6 hC (hl.1.trans hml.symm) ⟨Nat.le_of_ble_eq_true rfl, Nat.le_of_ble_eq_true rfl, Nat.le_of_ble_eq_true rfl, Nat.le_of_ble_eq_true rfl⟩ (Nat.le_of_ble_eq_true rfl) (fun E q ce w1 H1 l1 hp => hp.elim) (fun v w1 H locs hp hC => ?_)
        obtain ⟨rfl, rfl⟩ := hp
        have hC : tC D cls (ty0 ca) A (zz e0 A) s (wC K ca RL LP (va_up (va_up fv a (upd (fv a) 8 (day + days))) a (upd ((va_up fv a (upd (fv a) 8 (day + days))) a) 9 st9)) FR day ever mo (nI vs.length) ea (nI (w9 + 1)) ((lg_wr (ring, w9, ch) day 5 ((va_up (va_up fv a (upd (fv a) 8 (day + days))) a (upd ((va_up fv a (upd (fv a) 8 (day + days))) a) 9 st9)) a 0) (day + days)).2.2) ((lg_wr (ring, w9, ch) day 5 ((va_up (va_up fv a (upd (fv a) 8 (day + days))) a (upd ((va_up fv a (upd (fv a) 8 (day + days))) a) 9 st9)) a 0) (day + days)).1) (eo ++ rest)) H locs := hC
        refine W.eq (g2 := F0 m 94 ls []) rfl ?_
        exact t_vret hx hb hr hlk zz_c hC (⟨a, hfa, hob, Classical.not_not.mp (fun q => hdem (bI_ne.mpr q)), fun h => bI_ne.mp c35 h.1, rfl, by simp only [up_twice, va_up_self]; rfl⟩) (Nat.le_of_ble_eq_true rfl) (Nat.le_of_ble_eq_true rfl) d_V_retain_94
      · skip
        refine lv_iload_n hx hb d_V_retain_38 rfl (lv_at hl 5 rfl) ?_
        refine lv_if_eq (tgt := 52) hx hb d_V_retain_39 (by decide) (fun c39 => ?_) (fun c39 => ?_)
        · skip
          exact t_throw (by9 := prog_11_method_2_code) (ix := 7) (Y9 := "java/lang/RuntimeException") (r9 := ["java/lang/Exception"]) (text := "strict retention cannot be weakened") hx hb hst (by decide +kernel) (by decide +kernel) (by decide +kernel) (by decide +kernel) hown tb_good hts (by decide) (by decide) (by decide) w_214 w_12 (zz_str hC.2.2.2.2.2 (by decide +kernel)) at_ISE zz_c zz_X4 hC (hl.1.trans hml.symm) hex hlk d_V_retain_52 d_V_retain_55 d_V_retain_56 d_V_retain_58 d_V_retain_61 ⟨Nat.le_of_ble_eq_true rfl, Nat.le_of_ble_eq_true rfl, Nat.le_of_ble_eq_true rfl, Nat.le_of_ble_eq_true rfl⟩ (Nat.le_of_ble_eq_true rfl) (Nat.le_of_ble_eq_true rfl) (⟨rfl, Or.inr ⟨a, hfa, hob, Or.inr ⟨rfl, Classical.not_not.mp (fun q => hdem (bI_ne.mpr q)), Classical.not_not.mp (fun q => c35 (bI_ne.mpr q)), Or.inl c39⟩⟩⟩)
        · skip
          refine lv_iload hx hb d_V_retain_42 (lv_at hl 0 rfl) ?_
          refine lv_aload hx hb d_V_retain_44 (lv_at hl 1 rfl) ?_
          refine t_getP hx hb hts inN hown hC ha rfl 8 (by decide) (hts _ w_252) (fun _ h => h) d_V_retain_46 ?_
          refine lv_icmp_ge (tgt := 62) hx hb d_V_retain_49 (by decide) (fun c49 => ?_) (fun c49 => ?_)
          · skip
            refine lv_aload hx hb d_V_retain_62 (lv_at hl 1 rfl) ?_
            refine lv_iload hx hb d_V_retain_64 (lv_at hl 0 rfl) ?_
            refine t_putP (ty := .int) hx hb hts inN TN tyN nmN hown hC ha rfl 8 (by decide) (hts _ w_252) (fun _ h => h) (Or.inl rfl) (by decide +kernel) rfl rfl d_V_retain_66 (fun H locs hC => ?_)
            have hC : tC D cls (ty0 ca) A (zz e0 A) s (wC K ca RL LP (va_up fv a (upd (fv a) 8 (day + days))) FR day ever mo (nI vs.length) ea (nI w9) ch ring (eo ++ rest)) H locs := hC
            refine lv_aload hx hb d_V_retain_69 (lv_at hl 1 rfl) ?_
            refine lv_iload_n hx hb d_V_retain_71 rfl (lv_at hl 5 rfl) ?_
            refine t_putP (ty := .boolean) hx hb hts inN TN tyN nmN hown hC ha rfl 9 (by decide) (hts _ w_254) (fun _ h => h) (Or.inl rfl) (by decide +kernel) (by rcases hb01 with rfl | rfl <;> rfl) (by rcases hb01 with rfl | rfl <;> rfl) d_V_retain_72 (fun H locs hC => ?_)
            have hC : tC D cls (ty0 ca) A (zz e0 A) s (wC K ca RL LP (va_up (va_up fv a (upd (fv a) 8 (day + days))) a (upd ((va_up fv a (upd (fv a) 8 (day + days))) a) 9 st9)) FR day ever mo (nI vs.length) ea (nI w9) ch ring (eo ++ rest)) H locs := hC
            refine lv_aload_n hx hb d_V_retain_75 rfl (lv_at hl 2 rfl) ?_
            refine t_get (v := .ref (K 3)) hx hb hts inV hown hC 0 rfl rfl 2 (by decide) (hts _ w_99) (fun _ h => h) rfl d_V_retain_76 ?_
            refine lv_aload_n hx hb d_V_retain_79 rfl (lv_at hl 2 rfl) ?_
            refine t_get (v := .int day) hx hb hts inV hown hC 0 rfl rfl 3 (by decide) (hts _ w_100) (fun _ h => h) rfl d_V_retain_80 ?_
            refine lv_iconst (v := 5) hx hb d_V_retain_83 (by decide) ?_
            refine lv_aload hx hb d_V_retain_84 (lv_at hl 1 rfl) ?_
            refine t_getP hx hb hts inN hown hC ha rfl 0 (by decide) (hts _ w_237) (fun _ h => h) d_V_retain_86 ?_
            refine lv_iload hx hb d_V_retain_89 (lv_at hl 0 rfl) ?_
            refine t_call (t_invV (As := [.int day, .int 5, .int ((va_up (va_up fv a (upd (fv a) 8 (day + days))) a (upd ((va_up fv a (upd (fv a) 8 (day + days))) a) 9 st9)) a 0), .int (day + days)]) (rest := []) hx hb hown (hts _ w_376) (hts _ w_377) (hts _ w_378) (hts _ w_379) ⟨by decide, by decide⟩ (t_recv (q0 := 3) hC rfl rfl) rfl d_V_retain_91) (c_G_write hw9) zz_c tb_good hts w_6 hC (hl.1.trans hml.symm) ⟨Nat.le_of_ble_eq_true rfl, Nat.le_of_ble_eq_true rfl, Nat.le_of_ble_eq_true rfl, Nat.le_of_ble_eq_true rfl⟩ (Nat.le_of_ble_eq_true rfl) (fun E q ce w1 H1 l1 hp => hp.elim) (fun v w1 H locs hp hC => ?_)
            obtain ⟨rfl, rfl⟩ := hp
            have hC : tC D cls (ty0 ca) A (zz e0 A) s (wC K ca RL LP (va_up (va_up fv a (upd (fv a) 8 (day + days))) a (upd ((va_up fv a (upd (fv a) 8 (day + days))) a) 9 st9)) FR day ever mo (nI vs.length) ea (nI (w9 + 1)) ((lg_wr (ring, w9, ch) day 5 ((va_up (va_up fv a (upd (fv a) 8 (day + days))) a (upd ((va_up fv a (upd (fv a) 8 (day + days))) a) 9 st9)) a 0) (day + days)).2.2) ((lg_wr (ring, w9, ch) day 5 ((va_up (va_up fv a (upd (fv a) 8 (day + days))) a (upd ((va_up fv a (upd (fv a) 8 (day + days))) a) 9 st9)) a 0) (day + days)).1) (eo ++ rest)) H locs := hC
            refine W.eq (g2 := F0 m 94 ls []) rfl ?_
            exact t_vret hx hb hr hlk zz_c hC (⟨a, hfa, hob, Classical.not_not.mp (fun q => hdem (bI_ne.mpr q)), fun h => h.2.elim c39 (Int32.not_lt.mpr c49), rfl, by simp only [up_twice, va_up_self]; rfl⟩) (Nat.le_of_ble_eq_true rfl) (Nat.le_of_ble_eq_true rfl) d_V_retain_94
          · skip
            exact t_throw (by9 := prog_11_method_2_code) (ix := 7) (Y9 := "java/lang/RuntimeException") (r9 := ["java/lang/Exception"]) (text := "strict retention cannot be weakened") hx hb hst (by decide +kernel) (by decide +kernel) (by decide +kernel) (by decide +kernel) hown tb_good hts (by decide) (by decide) (by decide) w_214 w_12 (zz_str hC.2.2.2.2.2 (by decide +kernel)) at_ISE zz_c zz_X4 hC (hl.1.trans hml.symm) hex hlk d_V_retain_52 d_V_retain_55 d_V_retain_56 d_V_retain_58 d_V_retain_61 ⟨Nat.le_of_ble_eq_true rfl, Nat.le_of_ble_eq_true rfl, Nat.le_of_ble_eq_true rfl, Nat.le_of_ble_eq_true rfl⟩ (Nat.le_of_ble_eq_true rfl) (Nat.le_of_ble_eq_true rfl) (⟨rfl, Or.inr ⟨a, hfa, hob, Or.inr ⟨rfl, Classical.not_not.mp (fun q => hdem (bI_ne.mpr q)), Classical.not_not.mp (fun q => c35 (bI_ne.mpr q)), Or.inr (Int32.not_le.mp c49)⟩⟩⟩)

set_option maxRecDepth 100000 in
set_option maxHeartbeats 4000000 in
theorem c_V_fetch {l : Launch} (hst : l.stackTraces = false) {D : va_G} {A : Nat → Prop} {e0 : Nat → Nat} {K : Nat → Nat} {ca : Nat → ClassId} {RL LP : List Nat} {fv FR : Nat → RW} {day ever mo : Int32} {ea : Nat} {ch : Int64} {ring : Nat → Int32} {rest : va_W} {vs : List Nat} {eo : va_W} (hI : cI e0 ca vs LP ea eo) {w9 : Nat} (hw9 : w9 < 2 ^ 31) {number days : Int32} : tM l y_V_fetch tb ({ frames := 8, cells := 4, slots := 24, locals := 135 }) D cls (ty0 ca) A (zz e0 A) [.ref (K 0), .int number, .int days] (wC K ca RL LP fv FR day ever mo (nI vs.length) ea (nI w9) ch ring (eo ++ rest)) (fun v w2 => ∃ a, vs.find? (fun a => decide (fv a 0 = number)) = some a ∧ fv a 5 ≠ -1 ∧ (1 ≤ days ∧ days ≤ 100) ∧ 2 ≤ fv a 5 ∧ v = some (.int (day + (if fv a 5 = 3 then 3 else 1))) ∧ w2 = wC K ca RL LP (va_up fv a (upd (upd (fv a) 11 (day + (if fv a 5 = 3 then 3 else 1))) 12 (day + (if fv a 5 = 3 then 3 else 1) + days))) FR day ever mo (nI vs.length) ea (nI (w9 + 1)) ((lg_wr (ring, w9, ch) day 8 (fv a 0) (day + (if fv a 5 = 3 then 3 else 1))).2.2) ((lg_wr (ring, w9, ch) day 8 (fv a 0) (day + (if fv a 5 = 3 then 3 else 1))).1) (eo ++ rest)) (fun E w2 => w2 = wC K ca RL LP fv FR day ever mo (nI vs.length) ea (nI w9) ch ring (eo ++ rest) ∧ ((E = "java/util/NoSuchElementException" ∧ (vs.find? (fun a => decide (fv a 0 = number)) = none ∨ ∃ a, vs.find? (fun a => decide (fv a 0 = number)) = some a ∧ fv a 5 = -1)) ∨ (∃ a, vs.find? (fun a => decide (fv a 0 = number)) = some a ∧ fv a 5 ≠ -1 ∧ ((E = "java/lang/IllegalArgumentException" ∧ ¬ (1 ≤ days ∧ days ≤ 100)) ∨ (E = "java/lang/IllegalStateException" ∧ (1 ≤ days ∧ days ≤ 100) ∧ ¬ 2 ≤ fv a 5))))) := by
  refine t_ofW (by decide) w_503 (Nat.le_of_ble_eq_true rfl) ?_
  intro p e s m below meth c ls hx hb hr hts hown hlk hnm hml hex hl hC
  have hown : s.vm.findClass "RetentionVault" = some m.cls := hown
  have hl : lv_has ls 4 [(0, .ref (K 0)), (1, .int number), (2, .int days)] := hl
  obtain ⟨hLR, hvL, hnd, h40⟩ := hI
  refine lv_aload_n hx hb d_V_fetch_0 rfl (lv_at hl 0 rfl) ?_
  refine lv_iload_n hx hb d_V_fetch_1 rfl (lv_at hl 1 rfl) ?_
  refine t_call (t_invV (As := [.int number]) (rest := []) hx hb hown (hts _ w_462) (hts _ w_464) (hts _ s_V_objectNumbered) (hts _ w_465) ⟨by decide, by decide⟩ (t_recv (q0 := 0) hC rfl rfl) rfl d_V_fetch_2) (c_V_objectNumbered hst ⟨hLR, hvL, hnd, h40⟩) zz_c tb_good hts w_1 hC (hl.1.trans hml.symm) ⟨Nat.le_of_ble_eq_true rfl, Nat.le_of_ble_eq_true rfl, Nat.le_of_ble_eq_true rfl, Nat.le_of_ble_eq_true rfl⟩ (Nat.le_of_ble_eq_true rfl) (fun E q9 ce w1 H locs hp hC hce hcv hcl => ?_) (fun v w1 H locs hp hC => ?_)
  · skip
    obtain ⟨rfl, hwe9, hfa⟩ := hp
    rw [hwe9] at hC
    have hC : tC D cls (ty0 ca) A (zz e0 A) s (wC K ca RL LP fv FR day ever mo (nI vs.length) ea (nI w9) ch ring (eo ++ rest)) H locs := hC
    exact t_out (fun x h => (hex x h).elim) hlk zz_c hC hce hcv hcl (⟨rfl, Or.inl ⟨rfl, hfa⟩⟩) (Nat.le_of_ble_eq_true rfl) (Nat.le_of_ble_eq_true rfl)
  · skip
    obtain ⟨a, hfa, hob, rfl, hwe9⟩ := hp
    rw [hwe9] at hC
    have ha : a ∈ LP := hvL a (List.mem_of_find?_eq_some hfa)
    have hC : tC D cls (ty0 ca) A (zz e0 A) s (wC K ca RL LP fv FR day ever mo (nI vs.length) ea (nI w9) ch ring (eo ++ rest)) H locs := hC
    refine W.eq (g2 := F0 m 5 ls [.ref a]) rfl ?_
    refine lv_astore_n (lv' := [(3, .ref a), (0, .ref (K 0)), (1, .int number), (2, .int days)]) hx hb d_V_fetch_5 rfl hl (by decide) rfl (fun ls hl => ?_)
    refine lv_iload_n hx hb d_V_fetch_6 rfl (lv_at hl 3 rfl) ?_
    refine lv_iconst (v := 1) hx hb d_V_fetch_7 (by decide) ?_
    refine lv_bipush (v := 100) hx hb d_V_fetch_8 (by decide) ?_
    refine t_call (t_invS (As := [.int days, .int 1, .int 100]) (rest := []) hx hb hown (hts _ w_127) (hts _ w_128) (hts _ w_1) (hts _ w_129) ⟨by decide, by decide⟩ rfl d_V_fetch_10) (c_V_isWithin zz_c) zz_c tb_good hts w_1 hC (hl.1.trans hml.symm) ⟨Nat.le_of_ble_eq_true rfl, Nat.le_of_ble_eq_true rfl, Nat.le_of_ble_eq_true rfl, Nat.le_of_ble_eq_true rfl⟩ (Nat.le_of_ble_eq_true rfl) (fun E q ce w1 H1 l1 hp => hp.elim) (fun v w1 H locs hp hC => ?_)
    obtain ⟨rfl, hwe9⟩ := hp
    rw [hwe9] at hC
    have hC : tC D cls (ty0 ca) A (zz e0 A) s (wC K ca RL LP fv FR day ever mo (nI vs.length) ea (nI w9) ch ring (eo ++ rest)) H locs := hC
    refine W.eq (g2 := F0 m 13 ls [.int (bI (1 ≤ days ∧ days ≤ 100))]) rfl ?_
    refine t_call (t_invS (As := [.int (bI (1 ≤ days ∧ days ≤ 100))]) (rest := []) hx hb hown (hts _ w_130) (hts _ w_131) (hts _ w_1) (hts _ w_132) ⟨by decide, by decide⟩ rfl d_V_fetch_13) (c_V_demand hst) zz_c tb_good hts w_1 hC (hl.1.trans hml.symm) ⟨Nat.le_of_ble_eq_true rfl, Nat.le_of_ble_eq_true rfl, Nat.le_of_ble_eq_true rfl, Nat.le_of_ble_eq_true rfl⟩ (Nat.le_of_ble_eq_true rfl) (fun E q9 ce w1 H locs hp hC hce hcv hcl => ?_) (fun v w1 H locs hp hC => ?_)
    · skip
      obtain ⟨rfl, hwe9, hdem⟩ := hp
      rw [hwe9] at hC
      have hC : tC D cls (ty0 ca) A (zz e0 A) s (wC K ca RL LP fv FR day ever mo (nI vs.length) ea (nI w9) ch ring (eo ++ rest)) H locs := hC
      exact t_out (fun x h => (hex x h).elim) hlk zz_c hC hce hcv hcl (⟨rfl, Or.inr ⟨a, hfa, hob, Or.inl ⟨rfl, bI_ne.mp hdem⟩⟩⟩) (Nat.le_of_ble_eq_true rfl) (Nat.le_of_ble_eq_true rfl)
    · skip
      obtain ⟨rfl, hwe9, hdem⟩ := hp
      rw [hwe9] at hC
      have hC : tC D cls (ty0 ca) A (zz e0 A) s (wC K ca RL LP fv FR day ever mo (nI vs.length) ea (nI w9) ch ring (eo ++ rest)) H locs := hC
      refine W.eq (g2 := F0 m 16 ls []) rfl ?_
      refine lv_aload_n hx hb d_V_fetch_16 rfl (lv_at hl 0 rfl) ?_
      refine t_call (t_invV (As := []) (rest := []) hx hb hown (hts _ w_504) (hts _ w_505) (hts _ w_506) (hts _ w_507) ⟨by decide, by decide⟩ (t_recvP hC ha rfl rfl) rfl d_V_fetch_17) (c_N_isCold zz_c ha) zz_c tb_good hts w_13 hC (hl.1.trans hml.symm) ⟨Nat.le_of_ble_eq_true rfl, Nat.le_of_ble_eq_true rfl, Nat.le_of_ble_eq_true rfl, Nat.le_of_ble_eq_true rfl⟩ (Nat.le_of_ble_eq_true rfl) (fun E q ce w1 H1 l1 hp => hp.elim) (fun v w1 H locs hp hC => ?_)
      obtain ⟨rfl, hwe9⟩ := hp
      rw [hwe9] at hC
      have hC : tC D cls (ty0 ca) A (zz e0 A) s (wC K ca RL LP fv FR day ever mo (nI vs.length) ea (nI w9) ch ring (eo ++ rest)) H locs := hC
      refine W.eq (g2 := F0 m 20 ls [.int (bI (2 ≤ fv a 5))]) rfl ?_
      refine lv_if_ne (tgt := 33) hx hb d_V_fetch_20 (by decide) (fun c20 => ?_) (fun c20 => ?_)
      · skip
        refine lv_aload_n hx hb d_V_fetch_33 rfl (lv_at hl 0 rfl) ?_
        refine lv_aload_n hx hb d_V_fetch_34 rfl (lv_at hl 1 rfl) ?_
        refine t_get (v := .int day) hx hb hts inV hown hC 0 rfl rfl 3 (by decide) (hts _ w_100) (fun _ h => h) rfl d_V_fetch_35 ?_
        refine lv_aload_n hx hb d_V_fetch_38 rfl (lv_at hl 0 rfl) ?_
        refine t_getP hx hb hts inN hown hC ha rfl 5 (by decide) (hts _ w_246) (fun _ h => h) d_V_fetch_39 ?_
        refine lv_iconst (v := 3) hx hb d_V_fetch_42 (by decide) ?_
        refine lv_icmp_ne (tgt := 50) hx hb d_V_fetch_43 (by decide) (fun c43 => ?_) (fun c43 => ?_)
        · skip
          refine lv_iconst (v := 1) hx hb d_V_fetch_50 (by decide) ?_
          refine lv_iadd hx hb d_V_fetch_51 ?_
          refine t_putP (ty := .int) hx hb hts inN TN tyN nmN hown hC ha rfl 11 (by decide) (hts _ w_258) (fun _ h => h) (Or.inl rfl) (by decide +kernel) rfl rfl d_V_fetch_52 (fun H locs hC => ?_)
          have hC : tC D cls (ty0 ca) A (zz e0 A) s (wC K ca RL LP (va_up fv a (upd (fv a) 11 (day + 1))) FR day ever mo (nI vs.length) ea (nI w9) ch ring (eo ++ rest)) H locs := hC
          refine lv_aload_n hx hb d_V_fetch_55 rfl (lv_at hl 0 rfl) ?_
          refine lv_aload_n hx hb d_V_fetch_56 rfl (lv_at hl 0 rfl) ?_
          refine t_getP hx hb hts inN hown hC ha rfl 11 (by decide) (hts _ w_258) (fun _ h => h) d_V_fetch_57 ?_
          refine lv_iload_n hx hb d_V_fetch_60 rfl (lv_at hl 3 rfl) ?_
          refine lv_iadd hx hb d_V_fetch_61 ?_
          refine t_putP (ty := .int) hx hb hts inN TN tyN nmN hown hC ha rfl 12 (by decide) (hts _ w_260) (fun _ h => h) (Or.inl rfl) (by decide +kernel) rfl rfl d_V_fetch_62 (fun H locs hC => ?_)
          have hC : tC D cls (ty0 ca) A (zz e0 A) s (wC K ca RL LP (va_up (va_up fv a (upd (fv a) 11 (day + 1))) a (upd ((va_up fv a (upd (fv a) 11 (day + 1))) a) 12 (((va_up fv a (upd (fv a) 11 (day + 1))) a 11) + days))) FR day ever mo (nI vs.length) ea (nI w9) ch ring (eo ++ rest)) H locs := hC
          refine lv_aload_n hx hb d_V_fetch_65 rfl (lv_at hl 1 rfl) ?_
          refine t_get (v := .ref (K 3)) hx hb hts inV hown hC 0 rfl rfl 2 (by decide) (hts _ w_99) (fun _ h => h) rfl d_V_fetch_66 ?_
          refine lv_aload_n hx hb d_V_fetch_69 rfl (lv_at hl 1 rfl) ?_
          refine t_get (v := .int day) hx hb hts inV hown hC 0 rfl rfl 3 (by decide) (hts _ w_100) (fun _ h => h) rfl d_V_fetch_70 ?_
          refine lv_bipush (v := 8) hx hb d_V_fetch_73 (by decide) ?_
          refine lv_aload_n hx hb d_V_fetch_75 rfl (lv_at hl 0 rfl) ?_
          refine t_getP hx hb hts inN hown hC ha rfl 0 (by decide) (hts _ w_237) (fun _ h => h) d_V_fetch_76 ?_
          refine lv_aload_n hx hb d_V_fetch_79 rfl (lv_at hl 0 rfl) ?_
          refine t_getP hx hb hts inN hown hC ha rfl 11 (by decide) (hts _ w_258) (fun _ h => h) d_V_fetch_80 ?_
          refine t_call (t_invV (As := [.int day, .int 8, .int ((va_up (va_up fv a (upd (fv a) 11 (day + 1))) a (upd ((va_up fv a (upd (fv a) 11 (day + 1))) a) 12 (((va_up fv a (upd (fv a) 11 (day + 1))) a 11) + days))) a 0), .int ((va_up (va_up fv a (upd (fv a) 11 (day + 1))) a (upd ((va_up fv a (upd (fv a) 11 (day + 1))) a) 12 (((va_up fv a (upd (fv a) 11 (day + 1))) a 11) + days))) a 11)]) (rest := []) hx hb hown (hts _ w_376) (hts _ w_377) (hts _ w_378) (hts _ w_379) ⟨by decide, by decide⟩ (t_recv (q0 := 3) hC rfl rfl) rfl d_V_fetch_83) (c_G_write hw9) zz_c tb_good hts w_6 hC (hl.1.trans hml.symm) ⟨Nat.le_of_ble_eq_true rfl, Nat.le_of_ble_eq_true rfl, Nat.le_of_ble_eq_true rfl, Nat.le_of_ble_eq_true rfl⟩ (Nat.le_of_ble_eq_true rfl) (fun E q ce w1 H1 l1 hp => hp.elim) (fun v w1 H locs hp hC => ?_)
          obtain ⟨rfl, rfl⟩ := hp
          have hC : tC D cls (ty0 ca) A (zz e0 A) s (wC K ca RL LP (va_up (va_up fv a (upd (fv a) 11 (day + 1))) a (upd ((va_up fv a (upd (fv a) 11 (day + 1))) a) 12 (((va_up fv a (upd (fv a) 11 (day + 1))) a 11) + days))) FR day ever mo (nI vs.length) ea (nI (w9 + 1)) ((lg_wr (ring, w9, ch) day 8 ((va_up (va_up fv a (upd (fv a) 11 (day + 1))) a (upd ((va_up fv a (upd (fv a) 11 (day + 1))) a) 12 (((va_up fv a (upd (fv a) 11 (day + 1))) a 11) + days))) a 0) ((va_up (va_up fv a (upd (fv a) 11 (day + 1))) a (upd ((va_up fv a (upd (fv a) 11 (day + 1))) a) 12 (((va_up fv a (upd (fv a) 11 (day + 1))) a 11) + days))) a 11)).2.2) ((lg_wr (ring, w9, ch) day 8 ((va_up (va_up fv a (upd (fv a) 11 (day + 1))) a (upd ((va_up fv a (upd (fv a) 11 (day + 1))) a) 12 (((va_up fv a (upd (fv a) 11 (day + 1))) a 11) + days))) a 0) ((va_up (va_up fv a (upd (fv a) 11 (day + 1))) a (upd ((va_up fv a (upd (fv a) 11 (day + 1))) a) 12 (((va_up fv a (upd (fv a) 11 (day + 1))) a 11) + days))) a 11)).1) (eo ++ rest)) H locs := hC
          refine W.eq (g2 := F0 m 86 ls []) rfl ?_
          refine lv_aload_n hx hb d_V_fetch_86 rfl (lv_at hl 0 rfl) ?_
          refine t_getP hx hb hts inN hown hC ha rfl 11 (by decide) (hts _ w_258) (fun _ h => h) d_V_fetch_87 ?_
          exact t_iret hx hb hr hlk zz_c hC (⟨a, hfa, hob, Classical.not_not.mp (fun q => hdem (bI_ne.mpr q)), Classical.not_not.mp (fun q => c20 (bI_ne.mpr q)), by rw [if_neg c43]; simp only [up_twice, va_up_self]; rfl, by rw [if_neg c43]; simp only [up_twice, va_up_self]; rfl⟩) (Nat.le_of_ble_eq_true rfl) (Nat.le_of_ble_eq_true rfl) d_V_fetch_90
        · skip
          refine lv_iconst (v := 3) hx hb d_V_fetch_46 (by decide) ?_
          refine lv_goto (tgt := 51) hx hb d_V_fetch_47 (by decide) ?_
          refine lv_iadd hx hb d_V_fetch_51 ?_
          refine t_putP (ty := .int) hx hb hts inN TN tyN nmN hown hC ha rfl 11 (by decide) (hts _ w_258) (fun _ h => h) (Or.inl rfl) (by decide +kernel) rfl rfl d_V_fetch_52 (fun H locs hC => ?_)
          have hC : tC D cls (ty0 ca) A (zz e0 A) s (wC K ca RL LP (va_up fv a (upd (fv a) 11 (day + 3))) FR day ever mo (nI vs.length) ea (nI w9) ch ring (eo ++ rest)) H locs := hC
          refine lv_aload_n hx hb d_V_fetch_55 rfl (lv_at hl 0 rfl) ?_
          refine lv_aload_n hx hb d_V_fetch_56 rfl (lv_at hl 0 rfl) ?_
          refine t_getP hx hb hts inN hown hC ha rfl 11 (by decide) (hts _ w_258) (fun _ h => h) d_V_fetch_57 ?_
          refine lv_iload_n hx hb d_V_fetch_60 rfl (lv_at hl 3 rfl) ?_
          refine lv_iadd hx hb d_V_fetch_61 ?_
          refine t_putP (ty := .int) hx hb hts inN TN tyN nmN hown hC ha rfl 12 (by decide) (hts _ w_260) (fun _ h => h) (Or.inl rfl) (by decide +kernel) rfl rfl d_V_fetch_62 (fun H locs hC => ?_)
          have hC : tC D cls (ty0 ca) A (zz e0 A) s (wC K ca RL LP (va_up (va_up fv a (upd (fv a) 11 (day + 3))) a (upd ((va_up fv a (upd (fv a) 11 (day + 3))) a) 12 (((va_up fv a (upd (fv a) 11 (day + 3))) a 11) + days))) FR day ever mo (nI vs.length) ea (nI w9) ch ring (eo ++ rest)) H locs := hC
          refine lv_aload_n hx hb d_V_fetch_65 rfl (lv_at hl 1 rfl) ?_
          refine t_get (v := .ref (K 3)) hx hb hts inV hown hC 0 rfl rfl 2 (by decide) (hts _ w_99) (fun _ h => h) rfl d_V_fetch_66 ?_
          refine lv_aload_n hx hb d_V_fetch_69 rfl (lv_at hl 1 rfl) ?_
          refine t_get (v := .int day) hx hb hts inV hown hC 0 rfl rfl 3 (by decide) (hts _ w_100) (fun _ h => h) rfl d_V_fetch_70 ?_
          refine lv_bipush (v := 8) hx hb d_V_fetch_73 (by decide) ?_
          refine lv_aload_n hx hb d_V_fetch_75 rfl (lv_at hl 0 rfl) ?_
          refine t_getP hx hb hts inN hown hC ha rfl 0 (by decide) (hts _ w_237) (fun _ h => h) d_V_fetch_76 ?_
          refine lv_aload_n hx hb d_V_fetch_79 rfl (lv_at hl 0 rfl) ?_
          refine t_getP hx hb hts inN hown hC ha rfl 11 (by decide) (hts _ w_258) (fun _ h => h) d_V_fetch_80 ?_
          refine t_call (t_invV (As := [.int day, .int 8, .int ((va_up (va_up fv a (upd (fv a) 11 (day + 3))) a (upd ((va_up fv a (upd (fv a) 11 (day + 3))) a) 12 (((va_up fv a (upd (fv a) 11 (day + 3))) a 11) + days))) a 0), .int ((va_up (va_up fv a (upd (fv a) 11 (day + 3))) a (upd ((va_up fv a (upd (fv a) 11 (day + 3))) a) 12 (((va_up fv a (upd (fv a) 11 (day + 3))) a 11) + days))) a 11)]) (rest := []) hx hb hown (hts _ w_376) (hts _ w_377) (hts _ w_378) (hts _ w_379) ⟨by decide, by decide⟩ (t_recv (q0 := 3) hC rfl rfl) rfl d_V_fetch_83) (c_G_write hw9) zz_c tb_good hts w_6 hC (hl.1.trans hml.symm) ⟨Nat.le_of_ble_eq_true rfl, Nat.le_of_ble_eq_true rfl, Nat.le_of_ble_eq_true rfl, Nat.le_of_ble_eq_true rfl⟩ (Nat.le_of_ble_eq_true rfl) (fun E q ce w1 H1 l1 hp => hp.elim) (fun v w1 H locs hp hC => ?_)
          obtain ⟨rfl, rfl⟩ := hp
          have hC : tC D cls (ty0 ca) A (zz e0 A) s (wC K ca RL LP (va_up (va_up fv a (upd (fv a) 11 (day + 3))) a (upd ((va_up fv a (upd (fv a) 11 (day + 3))) a) 12 (((va_up fv a (upd (fv a) 11 (day + 3))) a 11) + days))) FR day ever mo (nI vs.length) ea (nI (w9 + 1)) ((lg_wr (ring, w9, ch) day 8 ((va_up (va_up fv a (upd (fv a) 11 (day + 3))) a (upd ((va_up fv a (upd (fv a) 11 (day + 3))) a) 12 (((va_up fv a (upd (fv a) 11 (day + 3))) a 11) + days))) a 0) ((va_up (va_up fv a (upd (fv a) 11 (day + 3))) a (upd ((va_up fv a (upd (fv a) 11 (day + 3))) a) 12 (((va_up fv a (upd (fv a) 11 (day + 3))) a 11) + days))) a 11)).2.2) ((lg_wr (ring, w9, ch) day 8 ((va_up (va_up fv a (upd (fv a) 11 (day + 3))) a (upd ((va_up fv a (upd (fv a) 11 (day + 3))) a) 12 (((va_up fv a (upd (fv a) 11 (day + 3))) a 11) + days))) a 0) ((va_up (va_up fv a (upd (fv a) 11 (day + 3))) a (upd ((va_up fv a (upd (fv a) 11 (day + 3))) a) 12 (((va_up fv a (upd (fv a) 11 (day + 3))) a 11) + days))) a 11)).1) (eo ++ rest)) H locs := hC
          refine W.eq (g2 := F0 m 86 ls []) rfl ?_
          refine lv_aload_n hx hb d_V_fetch_86 rfl (lv_at hl 0 rfl) ?_
          refine t_getP hx hb hts inN hown hC ha rfl 11 (by decide) (hts _ w_258) (fun _ h => h) d_V_fetch_87 ?_
          exact t_iret hx hb hr hlk zz_c hC (⟨a, hfa, hob, Classical.not_not.mp (fun q => hdem (bI_ne.mpr q)), Classical.not_not.mp (fun q => c20 (bI_ne.mpr q)), by rw [if_pos c43]; simp only [up_twice, va_up_self]; rfl, by rw [if_pos c43]; simp only [up_twice, va_up_self]; rfl⟩) (Nat.le_of_ble_eq_true rfl) (Nat.le_of_ble_eq_true rfl) d_V_fetch_90
      · skip
        exact t_throw (by9 := prog_11_method_2_code) (ix := 7) (Y9 := "java/lang/RuntimeException") (r9 := ["java/lang/Exception"]) (text := "the object is not cold") hx hb hst (by decide +kernel) (by decide +kernel) (by decide +kernel) (by decide +kernel) hown tb_good hts (by decide) (by decide) (by decide) w_214 w_12 (zz_str hC.2.2.2.2.2 (by decide +kernel)) at_ISE zz_c zz_X4 hC (hl.1.trans hml.symm) hex hlk d_V_fetch_23 d_V_fetch_26 d_V_fetch_27 d_V_fetch_29 d_V_fetch_32 ⟨Nat.le_of_ble_eq_true rfl, Nat.le_of_ble_eq_true rfl, Nat.le_of_ble_eq_true rfl, Nat.le_of_ble_eq_true rfl⟩ (Nat.le_of_ble_eq_true rfl) (Nat.le_of_ble_eq_true rfl) (⟨rfl, Or.inr ⟨a, hfa, hob, Or.inr ⟨rfl, Classical.not_not.mp (fun q => hdem (bI_ne.mpr q)), bI_ne.mp c20⟩⟩⟩)

set_option maxRecDepth 100000 in
set_option maxHeartbeats 4000000 in
theorem c_V_hold {l : Launch} (hst : l.stackTraces = false) {D : va_G} {A : Nat → Prop} {e0 : Nat → Nat} {K : Nat → Nat} {ca : Nat → ClassId} {RL LP : List Nat} {fv FR : Nat → RW} {day ever mo : Int32} {ea : Nat} {ch : Int64} {ring : Nat → Int32} {rest : va_W} {vs : List Nat} {eo : va_W} (hI : cI e0 ca vs LP ea eo) {w9 : Nat} (hw9 : w9 < 2 ^ 31) {number ho9 on9 : Int32} : tM l y_V_hold tb ({ frames := 8, cells := 3, slots := 18, locals := 135 }) D cls (ty0 ca) A (zz e0 A) [.ref (K 0), .int number, .int ho9, .int on9] (wC K ca RL LP fv FR day ever mo (nI vs.length) ea (nI w9) ch ring (eo ++ rest)) (fun v w2 => ∃ a, vs.find? (fun a => decide (fv a 0 = number)) = some a ∧ fv a 5 ≠ -1 ∧ (0 ≤ ho9 ∧ ho9 ≤ 7) ∧ ((bI (fv a 10 &&& (1 <<< (ho9 &&& 31)) ≠ 0) = on9 ∧ v = some (.int 0) ∧ w2 = wC K ca RL LP fv FR day ever mo (nI vs.length) ea (nI w9) ch ring (eo ++ rest)) ∨ (bI (fv a 10 &&& (1 <<< (ho9 &&& 31)) ≠ 0) ≠ on9 ∧ v = some (.int 1) ∧ w2 = wC K ca RL LP (va_up fv a (upd (fv a) 10 (fv a 10 ^^^ (1 <<< (ho9 &&& 31))))) FR day ever mo (nI vs.length) ea (nI (w9 + 1)) ((lg_wr (ring, w9, ch) day (if on9 = 0 then 7 else 6) (fv a 0) ho9).2.2) ((lg_wr (ring, w9, ch) day (if on9 = 0 then 7 else 6) (fv a 0) ho9).1) (eo ++ rest)))) (fun E w2 => w2 = wC K ca RL LP fv FR day ever mo (nI vs.length) ea (nI w9) ch ring (eo ++ rest) ∧ ((E = "java/util/NoSuchElementException" ∧ (vs.find? (fun a => decide (fv a 0 = number)) = none ∨ ∃ a, vs.find? (fun a => decide (fv a 0 = number)) = some a ∧ fv a 5 = -1)) ∨ (∃ a, vs.find? (fun a => decide (fv a 0 = number)) = some a ∧ fv a 5 ≠ -1 ∧ E = "java/lang/IllegalArgumentException" ∧ ¬ (0 ≤ ho9 ∧ ho9 ≤ 7)))) := by
  refine t_ofW (by decide) w_474 (Nat.le_of_ble_eq_true rfl) ?_
  intro p e s m below meth c ls hx hb hr hts hown hlk hnm hml hex hl hC
  have hown : s.vm.findClass "RetentionVault" = some m.cls := hown
  have hl : lv_has ls 7 [(0, .ref (K 0)), (1, .int number), (2, .int ho9), (3, .int on9)] := hl
  obtain ⟨hLR, hvL, hnd, h40⟩ := hI
  refine lv_aload_n hx hb d_V_hold_0 rfl (lv_at hl 0 rfl) ?_
  refine lv_iload_n hx hb d_V_hold_1 rfl (lv_at hl 1 rfl) ?_
  refine t_call (t_invV (As := [.int number]) (rest := []) hx hb hown (hts _ w_462) (hts _ w_464) (hts _ s_V_objectNumbered) (hts _ w_465) ⟨by decide, by decide⟩ (t_recv (q0 := 0) hC rfl rfl) rfl d_V_hold_2) (c_V_objectNumbered hst ⟨hLR, hvL, hnd, h40⟩) zz_c tb_good hts w_1 hC (hl.1.trans hml.symm) ⟨Nat.le_of_ble_eq_true rfl, Nat.le_of_ble_eq_true rfl, Nat.le_of_ble_eq_true rfl, Nat.le_of_ble_eq_true rfl⟩ (Nat.le_of_ble_eq_true rfl) (fun E q9 ce w1 H locs hp hC hce hcv hcl => ?_) (fun v w1 H locs hp hC => ?_)
  · skip
    obtain ⟨rfl, hwe9, hfa⟩ := hp
    rw [hwe9] at hC
    have hC : tC D cls (ty0 ca) A (zz e0 A) s (wC K ca RL LP fv FR day ever mo (nI vs.length) ea (nI w9) ch ring (eo ++ rest)) H locs := hC
    exact t_out (fun x h => (hex x h).elim) hlk zz_c hC hce hcv hcl (⟨rfl, Or.inl ⟨rfl, hfa⟩⟩) (Nat.le_of_ble_eq_true rfl) (Nat.le_of_ble_eq_true rfl)
  · skip
    obtain ⟨a, hfa, hob, rfl, hwe9⟩ := hp
    rw [hwe9] at hC
    have ha : a ∈ LP := hvL a (List.mem_of_find?_eq_some hfa)
    have hC : tC D cls (ty0 ca) A (zz e0 A) s (wC K ca RL LP fv FR day ever mo (nI vs.length) ea (nI w9) ch ring (eo ++ rest)) H locs := hC
    refine W.eq (g2 := F0 m 5 ls [.ref a]) rfl ?_
    refine lv_astore (lv' := [(4, .ref a), (0, .ref (K 0)), (1, .int number), (2, .int ho9), (3, .int on9)]) hx hb d_V_hold_5 hl (by decide) rfl (fun ls hl => ?_)
    refine lv_iload_n hx hb d_V_hold_7 rfl (lv_at hl 3 rfl) ?_
    refine lv_iconst (v := 0) hx hb d_V_hold_8 (by decide) ?_
    refine lv_bipush (v := 7) hx hb d_V_hold_9 (by decide) ?_
    refine t_call (t_invS (As := [.int ho9, .int 0, .int 7]) (rest := []) hx hb hown (hts _ w_127) (hts _ w_128) (hts _ w_1) (hts _ w_129) ⟨by decide, by decide⟩ rfl d_V_hold_11) (c_V_isWithin zz_c) zz_c tb_good hts w_1 hC (hl.1.trans hml.symm) ⟨Nat.le_of_ble_eq_true rfl, Nat.le_of_ble_eq_true rfl, Nat.le_of_ble_eq_true rfl, Nat.le_of_ble_eq_true rfl⟩ (Nat.le_of_ble_eq_true rfl) (fun E q ce w1 H1 l1 hp => hp.elim) (fun v w1 H locs hp hC => ?_)
    obtain ⟨rfl, hwe9⟩ := hp
    rw [hwe9] at hC
    have hC : tC D cls (ty0 ca) A (zz e0 A) s (wC K ca RL LP fv FR day ever mo (nI vs.length) ea (nI w9) ch ring (eo ++ rest)) H locs := hC
    refine W.eq (g2 := F0 m 14 ls [.int (bI (0 ≤ ho9 ∧ ho9 ≤ 7))]) rfl ?_
    refine t_call (t_invS (As := [.int (bI (0 ≤ ho9 ∧ ho9 ≤ 7))]) (rest := []) hx hb hown (hts _ w_130) (hts _ w_131) (hts _ w_1) (hts _ w_132) ⟨by decide, by decide⟩ rfl d_V_hold_14) (c_V_demand hst) zz_c tb_good hts w_1 hC (hl.1.trans hml.symm) ⟨Nat.le_of_ble_eq_true rfl, Nat.le_of_ble_eq_true rfl, Nat.le_of_ble_eq_true rfl, Nat.le_of_ble_eq_true rfl⟩ (Nat.le_of_ble_eq_true rfl) (fun E q9 ce w1 H locs hp hC hce hcv hcl => ?_) (fun v w1 H locs hp hC => ?_)
    · skip
      obtain ⟨rfl, hwe9, hdem⟩ := hp
      rw [hwe9] at hC
      have hC : tC D cls (ty0 ca) A (zz e0 A) s (wC K ca RL LP fv FR day ever mo (nI vs.length) ea (nI w9) ch ring (eo ++ rest)) H locs := hC
      exact t_out (fun x h => (hex x h).elim) hlk zz_c hC hce hcv hcl (⟨rfl, Or.inr ⟨a, hfa, hob, rfl, bI_ne.mp hdem⟩⟩) (Nat.le_of_ble_eq_true rfl) (Nat.le_of_ble_eq_true rfl)
    · skip
      obtain ⟨rfl, hwe9, hdem⟩ := hp
      rw [hwe9] at hC
      have hC : tC D cls (ty0 ca) A (zz e0 A) s (wC K ca RL LP fv FR day ever mo (nI vs.length) ea (nI w9) ch ring (eo ++ rest)) H locs := hC
      refine W.eq (g2 := F0 m 17 ls []) rfl ?_
      refine lv_iconst (v := 1) hx hb d_V_hold_17 (by decide) ?_
      refine lv_iload_n hx hb d_V_hold_18 rfl (lv_at hl 3 rfl) ?_
      refine lv_ishl hx hb d_V_hold_19 ?_
      refine lv_istore (lv' := [(5, .int (1 <<< (ho9 &&& 31))), (4, .ref a), (0, .ref (K 0)), (1, .int number), (2, .int ho9), (3, .int on9)]) hx hb d_V_hold_20 hl (by decide) rfl (fun ls hl => ?_)
      refine lv_aload hx hb d_V_hold_22 (lv_at hl 1 rfl) ?_
      refine t_getP hx hb hts inN hown hC ha rfl 10 (by decide) (hts _ w_257) (fun _ h => h) d_V_hold_24 ?_
      refine lv_iload hx hb d_V_hold_27 (lv_at hl 0 rfl) ?_
      refine lv_iand hx hb d_V_hold_29 ?_
      refine lv_if_eq (tgt := 37) hx hb d_V_hold_30 (by decide) (fun c30 => ?_) (fun c30 => ?_)
      · skip
        refine lv_iconst (v := 0) hx hb d_V_hold_37 (by decide) ?_
        refine lv_istore (lv' := [(6, .int 0), (5, .int (1 <<< (ho9 &&& 31))), (4, .ref a), (0, .ref (K 0)), (1, .int number), (2, .int ho9), (3, .int on9)]) hx hb d_V_hold_38 hl (by decide) rfl (fun ls hl => ?_)
        refine lv_iload hx hb d_V_hold_40 (lv_at hl 0 rfl) ?_
        refine lv_iload_n hx hb d_V_hold_42 rfl (lv_at hl 6 rfl) ?_
        refine lv_icmp_ne (tgt := 48) hx hb d_V_hold_43 (by decide) (fun c43 => ?_) (fun c43 => ?_)
        · skip
          refine lv_aload hx hb d_V_hold_48 (lv_at hl 2 rfl) ?_
          refine lv_dup hx hb d_V_hold_50 rfl ?_
          refine t_getP hx hb hts inN hown hC ha rfl 10 (by decide) (hts _ w_257) (fun _ h => h) d_V_hold_51 ?_
          refine lv_iload hx hb d_V_hold_54 (lv_at hl 1 rfl) ?_
          refine lv_ixor hx hb d_V_hold_56 ?_
          refine t_putP (ty := .int) hx hb hts inN TN tyN nmN hown hC ha rfl 10 (by decide) (hts _ w_257) (fun _ h => h) (Or.inl rfl) (by decide +kernel) rfl rfl d_V_hold_57 (fun H locs hC => ?_)
          have hC : tC D cls (ty0 ca) A (zz e0 A) s (wC K ca RL LP (va_up fv a (upd (fv a) 10 ((fv a 10) ^^^ (1 <<< (ho9 &&& 31))))) FR day ever mo (nI vs.length) ea (nI w9) ch ring (eo ++ rest)) H locs := hC
          refine lv_aload_n hx hb d_V_hold_60 rfl (lv_at hl 3 rfl) ?_
          refine t_get (v := .ref (K 3)) hx hb hts inV hown hC 0 rfl rfl 2 (by decide) (hts _ w_99) (fun _ h => h) rfl d_V_hold_61 ?_
          refine lv_aload_n hx hb d_V_hold_64 rfl (lv_at hl 3 rfl) ?_
          refine t_get (v := .int day) hx hb hts inV hown hC 0 rfl rfl 3 (by decide) (hts _ w_100) (fun _ h => h) rfl d_V_hold_65 ?_
          refine lv_iload_n hx hb d_V_hold_68 rfl (lv_at hl 6 rfl) ?_
          refine lv_if_eq (tgt := 77) hx hb d_V_hold_69 (by decide) (fun c69 => ?_) (fun c69 => ?_)
          · skip
            refine lv_bipush (v := 7) hx hb d_V_hold_77 (by decide) ?_
            refine lv_aload hx hb d_V_hold_79 (lv_at hl 2 rfl) ?_
            refine t_getP hx hb hts inN hown hC ha rfl 0 (by decide) (hts _ w_237) (fun _ h => h) d_V_hold_81 ?_
            refine lv_iload_n hx hb d_V_hold_84 rfl (lv_at hl 5 rfl) ?_
            refine t_call (t_invV (As := [.int day, .int 7, .int ((va_up fv a (upd (fv a) 10 ((fv a 10) ^^^ (1 <<< (ho9 &&& 31))))) a 0), .int ho9]) (rest := []) hx hb hown (hts _ w_376) (hts _ w_377) (hts _ w_378) (hts _ w_379) ⟨by decide, by decide⟩ (t_recv (q0 := 3) hC rfl rfl) rfl d_V_hold_85) (c_G_write hw9) zz_c tb_good hts w_6 hC (hl.1.trans hml.symm) ⟨Nat.le_of_ble_eq_true rfl, Nat.le_of_ble_eq_true rfl, Nat.le_of_ble_eq_true rfl, Nat.le_of_ble_eq_true rfl⟩ (Nat.le_of_ble_eq_true rfl) (fun E q ce w1 H1 l1 hp => hp.elim) (fun v w1 H locs hp hC => ?_)
            obtain ⟨rfl, rfl⟩ := hp
            have hC : tC D cls (ty0 ca) A (zz e0 A) s (wC K ca RL LP (va_up fv a (upd (fv a) 10 ((fv a 10) ^^^ (1 <<< (ho9 &&& 31))))) FR day ever mo (nI vs.length) ea (nI (w9 + 1)) ((lg_wr (ring, w9, ch) day 7 ((va_up fv a (upd (fv a) 10 ((fv a 10) ^^^ (1 <<< (ho9 &&& 31))))) a 0) ho9).2.2) ((lg_wr (ring, w9, ch) day 7 ((va_up fv a (upd (fv a) 10 ((fv a 10) ^^^ (1 <<< (ho9 &&& 31))))) a 0) ho9).1) (eo ++ rest)) H locs := hC
            refine W.eq (g2 := F0 m 88 ls []) rfl ?_
            refine lv_iconst (v := 1) hx hb d_V_hold_88 (by decide) ?_
            exact t_zret hx hb hr hlk (Or.inr rfl) zz_c hC (⟨a, hfa, hob, Classical.not_not.mp (fun q => hdem (bI_ne.mpr q)), Or.inr ⟨fun h => c43 ((bI_f (q := fv a 10 &&& (1 <<< (ho9 &&& 31)) ≠ 0) (fun h => h c30)).symm.trans h), rfl, by rw [if_pos c69]; simp only [up_twice, va_up_self]; rfl⟩⟩) (Nat.le_of_ble_eq_true rfl) (Nat.le_of_ble_eq_true rfl) d_V_hold_89
          · skip
            refine lv_bipush (v := 6) hx hb d_V_hold_72 (by decide) ?_
            refine lv_goto (tgt := 79) hx hb d_V_hold_74 (by decide) ?_
            refine lv_aload hx hb d_V_hold_79 (lv_at hl 2 rfl) ?_
            refine t_getP hx hb hts inN hown hC ha rfl 0 (by decide) (hts _ w_237) (fun _ h => h) d_V_hold_81 ?_
            refine lv_iload_n hx hb d_V_hold_84 rfl (lv_at hl 5 rfl) ?_
            refine t_call (t_invV (As := [.int day, .int 6, .int ((va_up fv a (upd (fv a) 10 ((fv a 10) ^^^ (1 <<< (ho9 &&& 31))))) a 0), .int ho9]) (rest := []) hx hb hown (hts _ w_376) (hts _ w_377) (hts _ w_378) (hts _ w_379) ⟨by decide, by decide⟩ (t_recv (q0 := 3) hC rfl rfl) rfl d_V_hold_85) (c_G_write hw9) zz_c tb_good hts w_6 hC (hl.1.trans hml.symm) ⟨Nat.le_of_ble_eq_true rfl, Nat.le_of_ble_eq_true rfl, Nat.le_of_ble_eq_true rfl, Nat.le_of_ble_eq_true rfl⟩ (Nat.le_of_ble_eq_true rfl) (fun E q ce w1 H1 l1 hp => hp.elim) (fun v w1 H locs hp hC => ?_)
            obtain ⟨rfl, rfl⟩ := hp
            have hC : tC D cls (ty0 ca) A (zz e0 A) s (wC K ca RL LP (va_up fv a (upd (fv a) 10 ((fv a 10) ^^^ (1 <<< (ho9 &&& 31))))) FR day ever mo (nI vs.length) ea (nI (w9 + 1)) ((lg_wr (ring, w9, ch) day 6 ((va_up fv a (upd (fv a) 10 ((fv a 10) ^^^ (1 <<< (ho9 &&& 31))))) a 0) ho9).2.2) ((lg_wr (ring, w9, ch) day 6 ((va_up fv a (upd (fv a) 10 ((fv a 10) ^^^ (1 <<< (ho9 &&& 31))))) a 0) ho9).1) (eo ++ rest)) H locs := hC
            refine W.eq (g2 := F0 m 88 ls []) rfl ?_
            refine lv_iconst (v := 1) hx hb d_V_hold_88 (by decide) ?_
            exact t_zret hx hb hr hlk (Or.inr rfl) zz_c hC (⟨a, hfa, hob, Classical.not_not.mp (fun q => hdem (bI_ne.mpr q)), Or.inr ⟨fun h => c43 ((bI_f (q := fv a 10 &&& (1 <<< (ho9 &&& 31)) ≠ 0) (fun h => h c30)).symm.trans h), rfl, by rw [if_neg c69]; simp only [up_twice, va_up_self]; rfl⟩⟩) (Nat.le_of_ble_eq_true rfl) (Nat.le_of_ble_eq_true rfl) d_V_hold_89
        · skip
          refine lv_iconst (v := 0) hx hb d_V_hold_46 (by decide) ?_
          exact t_zret hx hb hr hlk (Or.inl rfl) zz_c hC (⟨a, hfa, hob, Classical.not_not.mp (fun q => hdem (bI_ne.mpr q)), Or.inl ⟨(bI_f (q := fv a 10 &&& (1 <<< (ho9 &&& 31)) ≠ 0) (fun h => h c30)).trans c43, rfl, rfl⟩⟩) (Nat.le_of_ble_eq_true rfl) (Nat.le_of_ble_eq_true rfl) d_V_hold_47
      · skip
        refine lv_iconst (v := 1) hx hb d_V_hold_33 (by decide) ?_
        refine lv_goto (tgt := 38) hx hb d_V_hold_34 (by decide) ?_
        refine lv_istore (lv' := [(6, .int 1), (5, .int (1 <<< (ho9 &&& 31))), (4, .ref a), (0, .ref (K 0)), (1, .int number), (2, .int ho9), (3, .int on9)]) hx hb d_V_hold_38 hl (by decide) rfl (fun ls hl => ?_)
        refine lv_iload hx hb d_V_hold_40 (lv_at hl 0 rfl) ?_
        refine lv_iload_n hx hb d_V_hold_42 rfl (lv_at hl 6 rfl) ?_
        refine lv_icmp_ne (tgt := 48) hx hb d_V_hold_43 (by decide) (fun c43 => ?_) (fun c43 => ?_)
        · skip
          refine lv_aload hx hb d_V_hold_48 (lv_at hl 2 rfl) ?_
          refine lv_dup hx hb d_V_hold_50 rfl ?_
          refine t_getP hx hb hts inN hown hC ha rfl 10 (by decide) (hts _ w_257) (fun _ h => h) d_V_hold_51 ?_
          refine lv_iload hx hb d_V_hold_54 (lv_at hl 1 rfl) ?_
          refine lv_ixor hx hb d_V_hold_56 ?_
          refine t_putP (ty := .int) hx hb hts inN TN tyN nmN hown hC ha rfl 10 (by decide) (hts _ w_257) (fun _ h => h) (Or.inl rfl) (by decide +kernel) rfl rfl d_V_hold_57 (fun H locs hC => ?_)
          have hC : tC D cls (ty0 ca) A (zz e0 A) s (wC K ca RL LP (va_up fv a (upd (fv a) 10 ((fv a 10) ^^^ (1 <<< (ho9 &&& 31))))) FR day ever mo (nI vs.length) ea (nI w9) ch ring (eo ++ rest)) H locs := hC
          refine lv_aload_n hx hb d_V_hold_60 rfl (lv_at hl 3 rfl) ?_
          refine t_get (v := .ref (K 3)) hx hb hts inV hown hC 0 rfl rfl 2 (by decide) (hts _ w_99) (fun _ h => h) rfl d_V_hold_61 ?_
          refine lv_aload_n hx hb d_V_hold_64 rfl (lv_at hl 3 rfl) ?_
          refine t_get (v := .int day) hx hb hts inV hown hC 0 rfl rfl 3 (by decide) (hts _ w_100) (fun _ h => h) rfl d_V_hold_65 ?_
          refine lv_iload_n hx hb d_V_hold_68 rfl (lv_at hl 6 rfl) ?_
          refine lv_if_eq (tgt := 77) hx hb d_V_hold_69 (by decide) (fun c69 => ?_) (fun c69 => ?_)
          · skip
            refine lv_bipush (v := 7) hx hb d_V_hold_77 (by decide) ?_
            refine lv_aload hx hb d_V_hold_79 (lv_at hl 2 rfl) ?_
            refine t_getP hx hb hts inN hown hC ha rfl 0 (by decide) (hts _ w_237) (fun _ h => h) d_V_hold_81 ?_
            refine lv_iload_n hx hb d_V_hold_84 rfl (lv_at hl 5 rfl) ?_
            refine t_call (t_invV (As := [.int day, .int 7, .int ((va_up fv a (upd (fv a) 10 ((fv a 10) ^^^ (1 <<< (ho9 &&& 31))))) a 0), .int ho9]) (rest := []) hx hb hown (hts _ w_376) (hts _ w_377) (hts _ w_378) (hts _ w_379) ⟨by decide, by decide⟩ (t_recv (q0 := 3) hC rfl rfl) rfl d_V_hold_85) (c_G_write hw9) zz_c tb_good hts w_6 hC (hl.1.trans hml.symm) ⟨Nat.le_of_ble_eq_true rfl, Nat.le_of_ble_eq_true rfl, Nat.le_of_ble_eq_true rfl, Nat.le_of_ble_eq_true rfl⟩ (Nat.le_of_ble_eq_true rfl) (fun E q ce w1 H1 l1 hp => hp.elim) (fun v w1 H locs hp hC => ?_)
            obtain ⟨rfl, rfl⟩ := hp
            have hC : tC D cls (ty0 ca) A (zz e0 A) s (wC K ca RL LP (va_up fv a (upd (fv a) 10 ((fv a 10) ^^^ (1 <<< (ho9 &&& 31))))) FR day ever mo (nI vs.length) ea (nI (w9 + 1)) ((lg_wr (ring, w9, ch) day 7 ((va_up fv a (upd (fv a) 10 ((fv a 10) ^^^ (1 <<< (ho9 &&& 31))))) a 0) ho9).2.2) ((lg_wr (ring, w9, ch) day 7 ((va_up fv a (upd (fv a) 10 ((fv a 10) ^^^ (1 <<< (ho9 &&& 31))))) a 0) ho9).1) (eo ++ rest)) H locs := hC
            refine W.eq (g2 := F0 m 88 ls []) rfl ?_
            refine lv_iconst (v := 1) hx hb d_V_hold_88 (by decide) ?_
            exact t_zret hx hb hr hlk (Or.inr rfl) zz_c hC (⟨a, hfa, hob, Classical.not_not.mp (fun q => hdem (bI_ne.mpr q)), Or.inr ⟨fun h => c43 ((bI_t (q := fv a 10 &&& (1 <<< (ho9 &&& 31)) ≠ 0) c30).symm.trans h), rfl, by rw [if_pos c69]; simp only [up_twice, va_up_self]; rfl⟩⟩) (Nat.le_of_ble_eq_true rfl) (Nat.le_of_ble_eq_true rfl) d_V_hold_89
          · skip
            refine lv_bipush (v := 6) hx hb d_V_hold_72 (by decide) ?_
            refine lv_goto (tgt := 79) hx hb d_V_hold_74 (by decide) ?_
            refine lv_aload hx hb d_V_hold_79 (lv_at hl 2 rfl) ?_
            refine t_getP hx hb hts inN hown hC ha rfl 0 (by decide) (hts _ w_237) (fun _ h => h) d_V_hold_81 ?_
            refine lv_iload_n hx hb d_V_hold_84 rfl (lv_at hl 5 rfl) ?_
            refine t_call (t_invV (As := [.int day, .int 6, .int ((va_up fv a (upd (fv a) 10 ((fv a 10) ^^^ (1 <<< (ho9 &&& 31))))) a 0), .int ho9]) (rest := []) hx hb hown (hts _ w_376) (hts _ w_377) (hts _ w_378) (hts _ w_379) ⟨by decide, by decide⟩ (t_recv (q0 := 3) hC rfl rfl) rfl d_V_hold_85) (c_G_write hw9) zz_c tb_good hts w_6 hC (hl.1.trans hml.symm) ⟨Nat.le_of_ble_eq_true rfl, Nat.le_of_ble_eq_true rfl, Nat.le_of_ble_eq_true rfl, Nat.le_of_ble_eq_true rfl⟩ (Nat.le_of_ble_eq_true rfl) (fun E q ce w1 H1 l1 hp => hp.elim) (fun v w1 H locs hp hC => ?_)
            obtain ⟨rfl, rfl⟩ := hp
            have hC : tC D cls (ty0 ca) A (zz e0 A) s (wC K ca RL LP (va_up fv a (upd (fv a) 10 ((fv a 10) ^^^ (1 <<< (ho9 &&& 31))))) FR day ever mo (nI vs.length) ea (nI (w9 + 1)) ((lg_wr (ring, w9, ch) day 6 ((va_up fv a (upd (fv a) 10 ((fv a 10) ^^^ (1 <<< (ho9 &&& 31))))) a 0) ho9).2.2) ((lg_wr (ring, w9, ch) day 6 ((va_up fv a (upd (fv a) 10 ((fv a 10) ^^^ (1 <<< (ho9 &&& 31))))) a 0) ho9).1) (eo ++ rest)) H locs := hC
            refine W.eq (g2 := F0 m 88 ls []) rfl ?_
            refine lv_iconst (v := 1) hx hb d_V_hold_88 (by decide) ?_
            exact t_zret hx hb hr hlk (Or.inr rfl) zz_c hC (⟨a, hfa, hob, Classical.not_not.mp (fun q => hdem (bI_ne.mpr q)), Or.inr ⟨fun h => c43 ((bI_t (q := fv a 10 &&& (1 <<< (ho9 &&& 31)) ≠ 0) c30).symm.trans h), rfl, by rw [if_neg c69]; simp only [up_twice, va_up_self]; rfl⟩⟩) (Nat.le_of_ble_eq_true rfl) (Nat.le_of_ble_eq_true rfl) d_V_hold_89
        · skip
          refine lv_iconst (v := 0) hx hb d_V_hold_46 (by decide) ?_
          exact t_zret hx hb hr hlk (Or.inl rfl) zz_c hC (⟨a, hfa, hob, Classical.not_not.mp (fun q => hdem (bI_ne.mpr q)), Or.inl ⟨(bI_t (q := fv a 10 &&& (1 <<< (ho9 &&& 31)) ≠ 0) c30).trans c43, rfl, rfl⟩⟩) (Nat.le_of_ble_eq_true rfl) (Nat.le_of_ble_eq_true rfl) d_V_hold_47

theorem ru_at {RL : List Nat} (hRL : RL.length = 6) {r : Int32} (h : 0 ≤ r ∧ r ≤ 5) : vp_in r 6 ∧ ∃ u, RL[r.toNatClampNeg]? = some u := by
  obtain ⟨j, hj, rfl⟩ := nI_of2 (x := r) (M := 5) (n := 5) (by decide) (Int32.not_lt.mpr h.1) h.2
  refine ⟨vp_in_nI (by omega) (by decide), ?_⟩
  rw [nI_clamp (by omega)]
  exact ⟨RL[j], List.getElem?_eq_getElem (by omega)⟩

set_option maxRecDepth 100000 in
set_option maxHeartbeats 4000000 in
theorem c_V_rule {l : Launch} (hst : l.stackTraces = false) {D : va_G} {A : Nat → Prop} {e0 : Nat → Nat} {K : Nat → Nat} {ca : Nat → ClassId} {RL LP : List Nat} {fv FR : Nat → RW} {day ever mo : Int32} {ea : Nat} {ch : Int64} {ring : Nat → Int32} {rest : va_W} {vs : List Nat} {eo : va_W} (hI : cI e0 ca vs LP ea eo) {w9 : Nat} (hw9 : w9 < 2 ^ 31) {ru9 tg9 cu9 da9 ac9 : Int32} (hb01 : cu9 = 0 ∨ cu9 = 1) (hRL : RL.length = 6) : tM l y_V_rule tb ({ frames := 7, cells := 2, slots := 12, locals := 110 }) D cls (ty0 ca) A (zz e0 A) [.ref (K 0), .int ru9, .int tg9, .int cu9, .int da9, .int ac9] (wC K ca RL LP fv FR day ever mo (nI vs.length) ea (nI w9) ch ring (eo ++ rest)) (fun v w2 => ((0 ≤ ru9 ∧ ru9 ≤ 5) ∧ (-1 ≤ tg9 ∧ tg9 ≤ 3) ∧ (0 ≤ da9 ∧ da9 ≤ 10000) ∧ (1 ≤ ac9 ∧ ac9 ≤ 4)) ∧ ∃ u, RL[ru9.toNatClampNeg]? = some u ∧ v = none ∧ w2 = wC K ca RL LP fv (va_up FR u (upd (upd (upd (upd (FR u) 0 tg9) 1 cu9) 2 da9) 3 ac9)) day ever mo (nI vs.length) ea (nI (w9 + 1)) ((lg_wr (ring, w9, ch) day 9 ru9 ac9).2.2) ((lg_wr (ring, w9, ch) day 9 ru9 ac9).1) (eo ++ rest)) (fun E w2 => E = "java/lang/IllegalArgumentException" ∧ w2 = wC K ca RL LP fv FR day ever mo (nI vs.length) ea (nI w9) ch ring (eo ++ rest) ∧ ¬ ((0 ≤ ru9 ∧ ru9 ≤ 5) ∧ (-1 ≤ tg9 ∧ tg9 ≤ 3) ∧ (0 ≤ da9 ∧ da9 ≤ 10000) ∧ (1 ≤ ac9 ∧ ac9 ≤ 4))) := by
  refine t_ofW (by decide) w_481 (Nat.le_of_ble_eq_true rfl) ?_
  intro p e s m below meth c ls hx hb hr hts hown hlk hnm hml hex hl hC
  have hown : s.vm.findClass "RetentionVault" = some m.cls := hown
  have hl : lv_has ls 6 [(0, .ref (K 0)), (1, .int ru9), (2, .int tg9), (3, .int cu9), (4, .int da9), (5, .int ac9)] := hl
  obtain ⟨hLR, hvL, hnd, h40⟩ := hI
  refine lv_iload_n hx hb d_V_rule_0 rfl (lv_at hl 1 rfl) ?_
  refine lv_iconst (v := 0) hx hb d_V_rule_1 (by decide) ?_
  refine lv_iconst (v := 5) hx hb d_V_rule_2 (by decide) ?_
  refine t_call (t_invS (As := [.int ru9, .int 0, .int 5]) (rest := []) hx hb hown (hts _ w_127) (hts _ w_128) (hts _ w_1) (hts _ w_129) ⟨by decide, by decide⟩ rfl d_V_rule_3) (c_V_isWithin zz_c) zz_c tb_good hts w_1 hC (hl.1.trans hml.symm) ⟨Nat.le_of_ble_eq_true rfl, Nat.le_of_ble_eq_true rfl, Nat.le_of_ble_eq_true rfl, Nat.le_of_ble_eq_true rfl⟩ (Nat.le_of_ble_eq_true rfl) (fun E q ce w1 H1 l1 hp => hp.elim) (fun v w1 H locs hp hC => ?_)
  obtain ⟨rfl, hwe9⟩ := hp
  rw [hwe9] at hC
  have hC : tC D cls (ty0 ca) A (zz e0 A) s (wC K ca RL LP fv FR day ever mo (nI vs.length) ea (nI w9) ch ring (eo ++ rest)) H locs := hC
  refine W.eq (g2 := F0 m 6 ls [.int (bI (0 ≤ ru9 ∧ ru9 ≤ 5))]) rfl ?_
  refine lv_if_eq (tgt := 22) hx hb d_V_rule_6 (by decide) (fun c6 => ?_) (fun c6 => ?_)
  · skip
    refine lv_iconst (v := 0) hx hb d_V_rule_22 (by decide) ?_
    refine t_call (t_invS (As := [.int 0]) (rest := []) hx hb hown (hts _ w_130) (hts _ w_131) (hts _ w_1) (hts _ w_132) ⟨by decide, by decide⟩ rfl d_V_rule_23) (c_V_demand hst) zz_c tb_good hts w_1 hC (hl.1.trans hml.symm) ⟨Nat.le_of_ble_eq_true rfl, Nat.le_of_ble_eq_true rfl, Nat.le_of_ble_eq_true rfl, Nat.le_of_ble_eq_true rfl⟩ (Nat.le_of_ble_eq_true rfl) (fun E q9 ce w1 H locs hp hC hce hcv hcl => ?_) (fun v w1 H locs hp hC => ?_)
    · skip
      obtain ⟨rfl, hwe9, hdem⟩ := hp
      rw [hwe9] at hC
      have hC : tC D cls (ty0 ca) A (zz e0 A) s (wC K ca RL LP fv FR day ever mo (nI vs.length) ea (nI w9) ch ring (eo ++ rest)) H locs := hC
      exact t_out (fun x h => (hex x h).elim) hlk zz_c hC hce hcv hcl (⟨rfl, rfl, fun h => bI_ne.mp c6 h.1⟩) (Nat.le_of_ble_eq_true rfl) (Nat.le_of_ble_eq_true rfl)
    · skip
      obtain ⟨rfl, hwe9, hdem⟩ := hp
      exact absurd rfl hdem
  · skip
    refine lv_iload_n hx hb d_V_rule_9 rfl (lv_at hl 2 rfl) ?_
    refine lv_iconst (v := (-1)) hx hb d_V_rule_10 (by decide) ?_
    refine lv_iconst (v := 3) hx hb d_V_rule_11 (by decide) ?_
    refine t_call (t_invS (As := [.int tg9, .int (-1), .int 3]) (rest := []) hx hb hown (hts _ w_127) (hts _ w_128) (hts _ w_1) (hts _ w_129) ⟨by decide, by decide⟩ rfl d_V_rule_12) (c_V_isWithin zz_c) zz_c tb_good hts w_1 hC (hl.1.trans hml.symm) ⟨Nat.le_of_ble_eq_true rfl, Nat.le_of_ble_eq_true rfl, Nat.le_of_ble_eq_true rfl, Nat.le_of_ble_eq_true rfl⟩ (Nat.le_of_ble_eq_true rfl) (fun E q ce w1 H1 l1 hp => hp.elim) (fun v w1 H locs hp hC => ?_)
    obtain ⟨rfl, hwe9⟩ := hp
    rw [hwe9] at hC
    have hC : tC D cls (ty0 ca) A (zz e0 A) s (wC K ca RL LP fv FR day ever mo (nI vs.length) ea (nI w9) ch ring (eo ++ rest)) H locs := hC
    refine W.eq (g2 := F0 m 15 ls [.int (bI ((-1) ≤ tg9 ∧ tg9 ≤ 3))]) rfl ?_
    refine lv_if_eq (tgt := 22) hx hb d_V_rule_15 (by decide) (fun c15 => ?_) (fun c15 => ?_)
    · skip
      refine lv_iconst (v := 0) hx hb d_V_rule_22 (by decide) ?_
      refine t_call (t_invS (As := [.int 0]) (rest := []) hx hb hown (hts _ w_130) (hts _ w_131) (hts _ w_1) (hts _ w_132) ⟨by decide, by decide⟩ rfl d_V_rule_23) (c_V_demand hst) zz_c tb_good hts w_1 hC (hl.1.trans hml.symm) ⟨Nat.le_of_ble_eq_true rfl, Nat.le_of_ble_eq_true rfl, Nat.le_of_ble_eq_true rfl, Nat.le_of_ble_eq_true rfl⟩ (Nat.le_of_ble_eq_true rfl) (fun E q9 ce w1 H locs hp hC hce hcv hcl => ?_) (fun v w1 H locs hp hC => ?_)
      · skip
        obtain ⟨rfl, hwe9, hdem⟩ := hp
        rw [hwe9] at hC
        have hC : tC D cls (ty0 ca) A (zz e0 A) s (wC K ca RL LP fv FR day ever mo (nI vs.length) ea (nI w9) ch ring (eo ++ rest)) H locs := hC
        exact t_out (fun x h => (hex x h).elim) hlk zz_c hC hce hcv hcl (⟨rfl, rfl, fun h => bI_ne.mp c15 h.2.1⟩) (Nat.le_of_ble_eq_true rfl) (Nat.le_of_ble_eq_true rfl)
      · skip
        obtain ⟨rfl, hwe9, hdem⟩ := hp
        exact absurd rfl hdem
    · skip
      refine lv_iconst (v := 1) hx hb d_V_rule_18 (by decide) ?_
      refine lv_goto (tgt := 23) hx hb d_V_rule_19 (by decide) ?_
      refine t_call (t_invS (As := [.int 1]) (rest := []) hx hb hown (hts _ w_130) (hts _ w_131) (hts _ w_1) (hts _ w_132) ⟨by decide, by decide⟩ rfl d_V_rule_23) (c_V_demand hst) zz_c tb_good hts w_1 hC (hl.1.trans hml.symm) ⟨Nat.le_of_ble_eq_true rfl, Nat.le_of_ble_eq_true rfl, Nat.le_of_ble_eq_true rfl, Nat.le_of_ble_eq_true rfl⟩ (Nat.le_of_ble_eq_true rfl) (fun E q9 ce w1 H locs hp hC hce hcv hcl => ?_) (fun v w1 H locs hp hC => ?_)
      · skip
        obtain ⟨rfl, hwe9, hdem⟩ := hp
        exact absurd hdem (by decide)
      · skip
        obtain ⟨rfl, hwe9, hdem⟩ := hp
        rw [hwe9] at hC
        have hC : tC D cls (ty0 ca) A (zz e0 A) s (wC K ca RL LP fv FR day ever mo (nI vs.length) ea (nI w9) ch ring (eo ++ rest)) H locs := hC
        refine W.eq (g2 := F0 m 26 ls []) rfl ?_
        refine lv_iload hx hb d_V_rule_26 (lv_at hl 4 rfl) ?_
        refine lv_iconst (v := 0) hx hb d_V_rule_28 (by decide) ?_
        refine lv_sipush (v := 10000) hx hb d_V_rule_29 (by decide) ?_
        refine t_call (t_invS (As := [.int da9, .int 0, .int 10000]) (rest := []) hx hb hown (hts _ w_127) (hts _ w_128) (hts _ w_1) (hts _ w_129) ⟨by decide, by decide⟩ rfl d_V_rule_32) (c_V_isWithin zz_c) zz_c tb_good hts w_1 hC (hl.1.trans hml.symm) ⟨Nat.le_of_ble_eq_true rfl, Nat.le_of_ble_eq_true rfl, Nat.le_of_ble_eq_true rfl, Nat.le_of_ble_eq_true rfl⟩ (Nat.le_of_ble_eq_true rfl) (fun E q ce w1 H1 l1 hp => hp.elim) (fun v w1 H locs hp hC => ?_)
        obtain ⟨rfl, hwe9⟩ := hp
        rw [hwe9] at hC
        have hC : tC D cls (ty0 ca) A (zz e0 A) s (wC K ca RL LP fv FR day ever mo (nI vs.length) ea (nI w9) ch ring (eo ++ rest)) H locs := hC
        refine W.eq (g2 := F0 m 35 ls [.int (bI (0 ≤ da9 ∧ da9 ≤ 10000))]) rfl ?_
        refine lv_if_eq (tgt := 52) hx hb d_V_rule_35 (by decide) (fun c35 => ?_) (fun c35 => ?_)
        · skip
          refine lv_iconst (v := 0) hx hb d_V_rule_52 (by decide) ?_
          refine t_call (t_invS (As := [.int 0]) (rest := []) hx hb hown (hts _ w_130) (hts _ w_131) (hts _ w_1) (hts _ w_132) ⟨by decide, by decide⟩ rfl d_V_rule_53) (c_V_demand hst) zz_c tb_good hts w_1 hC (hl.1.trans hml.symm) ⟨Nat.le_of_ble_eq_true rfl, Nat.le_of_ble_eq_true rfl, Nat.le_of_ble_eq_true rfl, Nat.le_of_ble_eq_true rfl⟩ (Nat.le_of_ble_eq_true rfl) (fun E q9 ce w1 H locs hp hC hce hcv hcl => ?_) (fun v w1 H locs hp hC => ?_)
          · skip
            obtain ⟨rfl, hwe9, hdem⟩ := hp
            rw [hwe9] at hC
            have hC : tC D cls (ty0 ca) A (zz e0 A) s (wC K ca RL LP fv FR day ever mo (nI vs.length) ea (nI w9) ch ring (eo ++ rest)) H locs := hC
            exact t_out (fun x h => (hex x h).elim) hlk zz_c hC hce hcv hcl (⟨rfl, rfl, fun h => bI_ne.mp c35 h.2.2.1⟩) (Nat.le_of_ble_eq_true rfl) (Nat.le_of_ble_eq_true rfl)
          · skip
            obtain ⟨rfl, hwe9, hdem⟩ := hp
            exact absurd rfl hdem
        · skip
          refine lv_iload hx hb d_V_rule_38 (lv_at hl 5 rfl) ?_
          refine lv_iconst (v := 1) hx hb d_V_rule_40 (by decide) ?_
          refine lv_iconst (v := 4) hx hb d_V_rule_41 (by decide) ?_
          refine t_call (t_invS (As := [.int ac9, .int 1, .int 4]) (rest := []) hx hb hown (hts _ w_127) (hts _ w_128) (hts _ w_1) (hts _ w_129) ⟨by decide, by decide⟩ rfl d_V_rule_42) (c_V_isWithin zz_c) zz_c tb_good hts w_1 hC (hl.1.trans hml.symm) ⟨Nat.le_of_ble_eq_true rfl, Nat.le_of_ble_eq_true rfl, Nat.le_of_ble_eq_true rfl, Nat.le_of_ble_eq_true rfl⟩ (Nat.le_of_ble_eq_true rfl) (fun E q ce w1 H1 l1 hp => hp.elim) (fun v w1 H locs hp hC => ?_)
          obtain ⟨rfl, hwe9⟩ := hp
          rw [hwe9] at hC
          have hC : tC D cls (ty0 ca) A (zz e0 A) s (wC K ca RL LP fv FR day ever mo (nI vs.length) ea (nI w9) ch ring (eo ++ rest)) H locs := hC
          refine W.eq (g2 := F0 m 45 ls [.int (bI (1 ≤ ac9 ∧ ac9 ≤ 4))]) rfl ?_
          refine lv_if_eq (tgt := 52) hx hb d_V_rule_45 (by decide) (fun c45 => ?_) (fun c45 => ?_)
          · skip
            refine lv_iconst (v := 0) hx hb d_V_rule_52 (by decide) ?_
            refine t_call (t_invS (As := [.int 0]) (rest := []) hx hb hown (hts _ w_130) (hts _ w_131) (hts _ w_1) (hts _ w_132) ⟨by decide, by decide⟩ rfl d_V_rule_53) (c_V_demand hst) zz_c tb_good hts w_1 hC (hl.1.trans hml.symm) ⟨Nat.le_of_ble_eq_true rfl, Nat.le_of_ble_eq_true rfl, Nat.le_of_ble_eq_true rfl, Nat.le_of_ble_eq_true rfl⟩ (Nat.le_of_ble_eq_true rfl) (fun E q9 ce w1 H locs hp hC hce hcv hcl => ?_) (fun v w1 H locs hp hC => ?_)
            · skip
              obtain ⟨rfl, hwe9, hdem⟩ := hp
              rw [hwe9] at hC
              have hC : tC D cls (ty0 ca) A (zz e0 A) s (wC K ca RL LP fv FR day ever mo (nI vs.length) ea (nI w9) ch ring (eo ++ rest)) H locs := hC
              exact t_out (fun x h => (hex x h).elim) hlk zz_c hC hce hcv hcl (⟨rfl, rfl, fun h => bI_ne.mp c45 h.2.2.2⟩) (Nat.le_of_ble_eq_true rfl) (Nat.le_of_ble_eq_true rfl)
            · skip
              obtain ⟨rfl, hwe9, hdem⟩ := hp
              exact absurd rfl hdem
          · skip
            refine lv_iconst (v := 1) hx hb d_V_rule_48 (by decide) ?_
            refine lv_goto (tgt := 53) hx hb d_V_rule_49 (by decide) ?_
            refine t_call (t_invS (As := [.int 1]) (rest := []) hx hb hown (hts _ w_130) (hts _ w_131) (hts _ w_1) (hts _ w_132) ⟨by decide, by decide⟩ rfl d_V_rule_53) (c_V_demand hst) zz_c tb_good hts w_1 hC (hl.1.trans hml.symm) ⟨Nat.le_of_ble_eq_true rfl, Nat.le_of_ble_eq_true rfl, Nat.le_of_ble_eq_true rfl, Nat.le_of_ble_eq_true rfl⟩ (Nat.le_of_ble_eq_true rfl) (fun E q9 ce w1 H locs hp hC hce hcv hcl => ?_) (fun v w1 H locs hp hC => ?_)
            · skip
              obtain ⟨rfl, hwe9, hdem⟩ := hp
              exact absurd hdem (by decide)
            · skip
              obtain ⟨rfl, hwe9, hdem⟩ := hp
              rw [hwe9] at hC
              have hC : tC D cls (ty0 ca) A (zz e0 A) s (wC K ca RL LP fv FR day ever mo (nI vs.length) ea (nI w9) ch ring (eo ++ rest)) H locs := hC
              refine W.eq (g2 := F0 m 56 ls []) rfl ?_
              obtain ⟨hin, u, hru⟩ := ru_at hRL (Classical.not_not.mp (fun q => c6 (bI_ne.mpr q)))
              have hu : u ∈ RL := List.mem_of_getElem? hru
              refine lv_aload_n hx hb d_V_rule_56 rfl (lv_at hl 0 rfl) ?_
              refine t_get (v := .ref (K 2)) hx hb hts inV hown hC 0 rfl rfl 1 (by decide) (hts _ w_98) (fun _ h => h) rfl d_V_rule_57 ?_
              refine lv_iload_n hx hb d_V_rule_60 rfl (lv_at hl 1 rfl) ?_
              refine t_aldq (C := "RetentionVault$Rule") hx hb hC 2 4 rfl rfl (hin) d_V_rule_61 ?_
              refine W.eq (g2 := F0 m 62 ls [.ref u]) (by rw [hru]; rfl) ?_
              refine lv_iload_n hx hb d_V_rule_62 rfl (lv_at hl 2 rfl) ?_
              refine lv_iload_n hx hb d_V_rule_63 rfl (lv_at hl 3 rfl) ?_
              refine lv_iload hx hb d_V_rule_64 (lv_at hl 4 rfl) ?_
              refine lv_iload hx hb d_V_rule_66 (lv_at hl 5 rfl) ?_
              refine t_call (t_invV (As := [.int tg9, .int cu9, .int da9, .int ac9]) (rest := []) hx hb hown (hts _ w_482) (hts _ w_483) (hts _ w_484) (hts _ w_485) ⟨by decide, by decide⟩ (t_recvP (wC_R hC) hu rfl rfl) rfl d_V_rule_68) (c_U_become hu hb01) zz_c tb_good hts w_5 hC (hl.1.trans hml.symm) ⟨Nat.le_of_ble_eq_true rfl, Nat.le_of_ble_eq_true rfl, Nat.le_of_ble_eq_true rfl, Nat.le_of_ble_eq_true rfl⟩ (Nat.le_of_ble_eq_true rfl) (fun E q ce w1 H1 l1 hp => hp.elim) (fun v w1 H locs hp hC => ?_)
              obtain ⟨rfl, hwe9⟩ := hp
              rw [hwe9] at hC
              have hC : tC D cls (ty0 ca) A (zz e0 A) s (wC K ca RL LP fv (va_up FR u (upd (upd (upd (upd (FR u) 0 tg9) 1 cu9) 2 da9) 3 ac9)) day ever mo (nI vs.length) ea (nI w9) ch ring (eo ++ rest)) H locs := hC
              refine W.eq (g2 := F0 m 71 ls []) rfl ?_
              refine lv_aload_n hx hb d_V_rule_71 rfl (lv_at hl 0 rfl) ?_
              refine t_get (v := .ref (K 3)) hx hb hts inV hown hC 0 rfl rfl 2 (by decide) (hts _ w_99) (fun _ h => h) rfl d_V_rule_72 ?_
              refine lv_aload_n hx hb d_V_rule_75 rfl (lv_at hl 0 rfl) ?_
              refine t_get (v := .int day) hx hb hts inV hown hC 0 rfl rfl 3 (by decide) (hts _ w_100) (fun _ h => h) rfl d_V_rule_76 ?_
              refine lv_bipush (v := 9) hx hb d_V_rule_79 (by decide) ?_
              refine lv_iload_n hx hb d_V_rule_81 rfl (lv_at hl 1 rfl) ?_
              refine lv_iload hx hb d_V_rule_82 (lv_at hl 5 rfl) ?_
              refine t_call (t_invV (As := [.int day, .int 9, .int ru9, .int ac9]) (rest := []) hx hb hown (hts _ w_376) (hts _ w_377) (hts _ w_378) (hts _ w_379) ⟨by decide, by decide⟩ (t_recv (q0 := 3) hC rfl rfl) rfl d_V_rule_84) (c_G_write hw9) zz_c tb_good hts w_6 hC (hl.1.trans hml.symm) ⟨Nat.le_of_ble_eq_true rfl, Nat.le_of_ble_eq_true rfl, Nat.le_of_ble_eq_true rfl, Nat.le_of_ble_eq_true rfl⟩ (Nat.le_of_ble_eq_true rfl) (fun E q ce w1 H1 l1 hp => hp.elim) (fun v w1 H locs hp hC => ?_)
              obtain ⟨rfl, rfl⟩ := hp
              have hC : tC D cls (ty0 ca) A (zz e0 A) s (wC K ca RL LP fv (va_up FR u (upd (upd (upd (upd (FR u) 0 tg9) 1 cu9) 2 da9) 3 ac9)) day ever mo (nI vs.length) ea (nI (w9 + 1)) ((lg_wr (ring, w9, ch) day 9 ru9 ac9).2.2) ((lg_wr (ring, w9, ch) day 9 ru9 ac9).1) (eo ++ rest)) H locs := hC
              refine W.eq (g2 := F0 m 87 ls []) rfl ?_
              exact t_vret hx hb hr hlk zz_c hC (⟨⟨Classical.not_not.mp (fun q => c6 (bI_ne.mpr q)), Classical.not_not.mp (fun q => c15 (bI_ne.mpr q)), Classical.not_not.mp (fun q => c35 (bI_ne.mpr q)), Classical.not_not.mp (fun q => c45 (bI_ne.mpr q))⟩, u, hru, rfl, rfl⟩) (Nat.le_of_ble_eq_true rfl) (Nat.le_of_ble_eq_true rfl) d_V_rule_87

set_option maxRecDepth 100000 in
set_option maxHeartbeats 4000000 in
theorem c_V_unrule {l : Launch} (hst : l.stackTraces = false) {D : va_G} {A : Nat → Prop} {e0 : Nat → Nat} {K : Nat → Nat} {ca : Nat → ClassId} {RL LP : List Nat} {fv FR : Nat → RW} {day ever mo : Int32} {ea : Nat} {ch : Int64} {ring : Nat → Int32} {rest : va_W} {vs : List Nat} {eo : va_W} (hI : cI e0 ca vs LP ea eo) {w9 : Nat} (hw9 : w9 < 2 ^ 31) {ru9 : Int32} (hRL : RL.length = 6) : tM l y_V_unrule tb ({ frames := 7, cells := 1, slots := 6, locals := 110 }) D cls (ty0 ca) A (zz e0 A) [.ref (K 0), .int ru9] (wC K ca RL LP fv FR day ever mo (nI vs.length) ea (nI w9) ch ring (eo ++ rest)) (fun v w2 => (0 ≤ ru9 ∧ ru9 ≤ 5) ∧ ∃ u, RL[ru9.toNatClampNeg]? = some u ∧ ((FR u 3 = 0 ∧ v = some (.int 0) ∧ w2 = wC K ca RL LP fv FR day ever mo (nI vs.length) ea (nI w9) ch ring (eo ++ rest)) ∨ (FR u 3 ≠ 0 ∧ v = some (.int 1) ∧ w2 = wC K ca RL LP fv (va_up FR u (upd (FR u) 3 0)) day ever mo (nI vs.length) ea (nI (w9 + 1)) ((lg_wr (ring, w9, ch) day 10 ru9 0).2.2) ((lg_wr (ring, w9, ch) day 10 ru9 0).1) (eo ++ rest)))) (fun E w2 => E = "java/lang/IllegalArgumentException" ∧ w2 = wC K ca RL LP fv FR day ever mo (nI vs.length) ea (nI w9) ch ring (eo ++ rest) ∧ ¬ (0 ≤ ru9 ∧ ru9 ≤ 5)) := by
  refine t_ofW (by decide) w_492 (Nat.le_of_ble_eq_true rfl) ?_
  intro p e s m below meth c ls hx hb hr hts hown hlk hnm hml hex hl hC
  have hown : s.vm.findClass "RetentionVault" = some m.cls := hown
  have hl : lv_has ls 3 [(0, .ref (K 0)), (1, .int ru9)] := hl
  obtain ⟨hLR, hvL, hnd, h40⟩ := hI
  refine lv_iload_n hx hb d_V_unrule_0 rfl (lv_at hl 1 rfl) ?_
  refine lv_iconst (v := 0) hx hb d_V_unrule_1 (by decide) ?_
  refine lv_iconst (v := 5) hx hb d_V_unrule_2 (by decide) ?_
  refine t_call (t_invS (As := [.int ru9, .int 0, .int 5]) (rest := []) hx hb hown (hts _ w_127) (hts _ w_128) (hts _ w_1) (hts _ w_129) ⟨by decide, by decide⟩ rfl d_V_unrule_3) (c_V_isWithin zz_c) zz_c tb_good hts w_1 hC (hl.1.trans hml.symm) ⟨Nat.le_of_ble_eq_true rfl, Nat.le_of_ble_eq_true rfl, Nat.le_of_ble_eq_true rfl, Nat.le_of_ble_eq_true rfl⟩ (Nat.le_of_ble_eq_true rfl) (fun E q ce w1 H1 l1 hp => hp.elim) (fun v w1 H locs hp hC => ?_)
  obtain ⟨rfl, hwe9⟩ := hp
  rw [hwe9] at hC
  have hC : tC D cls (ty0 ca) A (zz e0 A) s (wC K ca RL LP fv FR day ever mo (nI vs.length) ea (nI w9) ch ring (eo ++ rest)) H locs := hC
  refine W.eq (g2 := F0 m 6 ls [.int (bI (0 ≤ ru9 ∧ ru9 ≤ 5))]) rfl ?_
  refine t_call (t_invS (As := [.int (bI (0 ≤ ru9 ∧ ru9 ≤ 5))]) (rest := []) hx hb hown (hts _ w_130) (hts _ w_131) (hts _ w_1) (hts _ w_132) ⟨by decide, by decide⟩ rfl d_V_unrule_6) (c_V_demand hst) zz_c tb_good hts w_1 hC (hl.1.trans hml.symm) ⟨Nat.le_of_ble_eq_true rfl, Nat.le_of_ble_eq_true rfl, Nat.le_of_ble_eq_true rfl, Nat.le_of_ble_eq_true rfl⟩ (Nat.le_of_ble_eq_true rfl) (fun E q9 ce w1 H locs hp hC hce hcv hcl => ?_) (fun v w1 H locs hp hC => ?_)
  · skip
    obtain ⟨rfl, hwe9, hdem⟩ := hp
    rw [hwe9] at hC
    have hC : tC D cls (ty0 ca) A (zz e0 A) s (wC K ca RL LP fv FR day ever mo (nI vs.length) ea (nI w9) ch ring (eo ++ rest)) H locs := hC
    exact t_out (fun x h => (hex x h).elim) hlk zz_c hC hce hcv hcl (⟨rfl, rfl, bI_ne.mp hdem⟩) (Nat.le_of_ble_eq_true rfl) (Nat.le_of_ble_eq_true rfl)
  · skip
    obtain ⟨rfl, hwe9, hdem⟩ := hp
    rw [hwe9] at hC
    have hC : tC D cls (ty0 ca) A (zz e0 A) s (wC K ca RL LP fv FR day ever mo (nI vs.length) ea (nI w9) ch ring (eo ++ rest)) H locs := hC
    refine W.eq (g2 := F0 m 9 ls []) rfl ?_
    obtain ⟨hin, u, hru⟩ := ru_at hRL (Classical.not_not.mp (fun q => hdem (bI_ne.mpr q)))
    have hu : u ∈ RL := List.mem_of_getElem? hru
    refine lv_aload_n hx hb d_V_unrule_9 rfl (lv_at hl 0 rfl) ?_
    refine t_get (v := .ref (K 2)) hx hb hts inV hown hC 0 rfl rfl 1 (by decide) (hts _ w_98) (fun _ h => h) rfl d_V_unrule_10 ?_
    refine lv_iload_n hx hb d_V_unrule_13 rfl (lv_at hl 1 rfl) ?_
    refine t_aldq (C := "RetentionVault$Rule") hx hb hC 2 4 rfl rfl (hin) d_V_unrule_14 ?_
    refine W.eq (g2 := F0 m 15 ls [.ref u]) (by rw [hru]; rfl) ?_
    refine lv_astore_n (lv' := [(2, .ref u), (0, .ref (K 0)), (1, .int ru9)]) hx hb d_V_unrule_15 rfl hl (by decide) rfl (fun ls hl => ?_)
    refine lv_aload_n hx hb d_V_unrule_16 rfl (lv_at hl 0 rfl) ?_
    refine t_call (t_invV (As := []) (rest := []) hx hb hown (hts _ w_493) (hts _ w_494) (hts _ w_495) (hts _ w_496) ⟨by decide, by decide⟩ (t_recvP (wC_R hC) hu rfl rfl) rfl d_V_unrule_17) (c_U_isEmpty hu) zz_c tb_good hts w_5 hC (hl.1.trans hml.symm) ⟨Nat.le_of_ble_eq_true rfl, Nat.le_of_ble_eq_true rfl, Nat.le_of_ble_eq_true rfl, Nat.le_of_ble_eq_true rfl⟩ (Nat.le_of_ble_eq_true rfl) (fun E q ce w1 H1 l1 hp => hp.elim) (fun v w1 H locs hp hC => ?_)
    obtain ⟨rfl, hwe9⟩ := hp
    rw [hwe9] at hC
    have hC : tC D cls (ty0 ca) A (zz e0 A) s (wC K ca RL LP fv FR day ever mo (nI vs.length) ea (nI w9) ch ring (eo ++ rest)) H locs := hC
    refine W.eq (g2 := F0 m 20 ls [.int (bI (FR u 3 = 0))]) rfl ?_
    refine lv_if_eq (tgt := 25) hx hb d_V_unrule_20 (by decide) (fun c20 => ?_) (fun c20 => ?_)
    · skip
      refine lv_aload_n hx hb d_V_unrule_25 rfl (lv_at hl 0 rfl) ?_
      refine lv_iconst (v := 0) hx hb d_V_unrule_26 (by decide) ?_
      refine t_putP (ty := .int) hx hb hts inU TU tyU nmU hown (wC_R hC) hu rfl 3 (by decide) (hts _ w_67) (fun _ h => h) (Or.inl rfl) (by decide +kernel) rfl rfl d_V_unrule_27 (fun H locs hC => ?_)
      have hC := wC_ofR hC
      have hC : tC D cls (ty0 ca) A (zz e0 A) s (wC K ca RL LP fv (va_up FR u (upd (FR u) 3 0)) day ever mo (nI vs.length) ea (nI w9) ch ring (eo ++ rest)) H locs := hC
      refine lv_aload_n hx hb d_V_unrule_30 rfl (lv_at hl 1 rfl) ?_
      refine t_get (v := .ref (K 3)) hx hb hts inV hown hC 0 rfl rfl 2 (by decide) (hts _ w_99) (fun _ h => h) rfl d_V_unrule_31 ?_
      refine lv_aload_n hx hb d_V_unrule_34 rfl (lv_at hl 1 rfl) ?_
      refine t_get (v := .int day) hx hb hts inV hown hC 0 rfl rfl 3 (by decide) (hts _ w_100) (fun _ h => h) rfl d_V_unrule_35 ?_
      refine lv_bipush (v := 10) hx hb d_V_unrule_38 (by decide) ?_
      refine lv_iload_n hx hb d_V_unrule_40 rfl (lv_at hl 2 rfl) ?_
      refine lv_iconst (v := 0) hx hb d_V_unrule_41 (by decide) ?_
      refine t_call (t_invV (As := [.int day, .int 10, .int ru9, .int 0]) (rest := []) hx hb hown (hts _ w_376) (hts _ w_377) (hts _ w_378) (hts _ w_379) ⟨by decide, by decide⟩ (t_recv (q0 := 3) hC rfl rfl) rfl d_V_unrule_42) (c_G_write hw9) zz_c tb_good hts w_6 hC (hl.1.trans hml.symm) ⟨Nat.le_of_ble_eq_true rfl, Nat.le_of_ble_eq_true rfl, Nat.le_of_ble_eq_true rfl, Nat.le_of_ble_eq_true rfl⟩ (Nat.le_of_ble_eq_true rfl) (fun E q ce w1 H1 l1 hp => hp.elim) (fun v w1 H locs hp hC => ?_)
      obtain ⟨rfl, rfl⟩ := hp
      have hC : tC D cls (ty0 ca) A (zz e0 A) s (wC K ca RL LP fv (va_up FR u (upd (FR u) 3 0)) day ever mo (nI vs.length) ea (nI (w9 + 1)) ((lg_wr (ring, w9, ch) day 10 ru9 0).2.2) ((lg_wr (ring, w9, ch) day 10 ru9 0).1) (eo ++ rest)) H locs := hC
      refine W.eq (g2 := F0 m 45 ls []) rfl ?_
      refine lv_iconst (v := 1) hx hb d_V_unrule_45 (by decide) ?_
      exact t_zret hx hb hr hlk (Or.inr rfl) zz_c hC (⟨Classical.not_not.mp (fun q => hdem (bI_ne.mpr q)), u, hru, Or.inr ⟨bI_ne.mp c20, rfl, rfl⟩⟩) (Nat.le_of_ble_eq_true rfl) (Nat.le_of_ble_eq_true rfl) d_V_unrule_46
    · skip
      refine lv_iconst (v := 0) hx hb d_V_unrule_23 (by decide) ?_
      exact t_zret hx hb hr hlk (Or.inl rfl) zz_c hC (⟨Classical.not_not.mp (fun q => hdem (bI_ne.mpr q)), u, hru, Or.inl ⟨Classical.not_not.mp (fun q => c20 (bI_ne.mpr q)), rfl, rfl⟩⟩) (Nat.le_of_ble_eq_true rfl) (Nat.le_of_ble_eq_true rfl) d_V_unrule_24

set_option maxRecDepth 100000 in
set_option maxHeartbeats 4000000 in
theorem c_V_cool {l : Launch} {D : va_G} {A : Nat → Prop} {e0 : Nat → Nat} {K : Nat → Nat} {ca : Nat → ClassId} {RL LP : List Nat} {fv FR : Nat → RW} {day ever mo : Int32} {ea : Nat} {ch : Int64} {ring : Nat → Int32} {rest : va_W} {vs : List Nat} {eo : va_W} (hI : cI e0 ca vs LP ea eo) {w9 : Nat} (hw9 : w9 < 2 ^ 31) {a : Nat} {ti9 : Int32} (ha : a ∈ LP) : tM l y_V_cool tb ({ frames := 2, cells := 0, slots := 0, locals := 47 }) D cls (ty0 ca) A (zz e0 A) [.ref (K 0), .ref a, .int ti9] (wC K ca RL LP fv FR day ever mo (nI vs.length) ea (nI w9) ch ring (eo ++ rest)) (fun v w2 => v = none ∧ ((fv a 5 < ti9 ∧ w2 = wC K ca RL LP (va_up fv a (upd (fv a) 5 ti9)) FR day ever mo (nI vs.length) ea (nI (w9 + 1)) ((lg_wr (ring, w9, ch) day 4 (fv a 0) ti9).2.2) ((lg_wr (ring, w9, ch) day 4 (fv a 0) ti9).1) (eo ++ rest)) ∨ (¬ fv a 5 < ti9 ∧ w2 = wC K ca RL LP fv FR day ever mo (nI vs.length) ea (nI w9) ch ring (eo ++ rest)))) (xN) := by
  refine t_ofW (by decide) w_548 (Nat.le_of_ble_eq_true rfl) ?_
  intro p e s m below meth c ls hx hb hr hts hown hlk hnm hml hex hl hC
  have hown : s.vm.findClass "RetentionVault" = some m.cls := hown
  have hl : lv_has ls 3 [(0, .ref (K 0)), (1, .ref a), (2, .int ti9)] := hl
  obtain ⟨hLR, hvL, hnd, h40⟩ := hI
  refine lv_iload_n hx hb d_V_cool_0 rfl (lv_at hl 2 rfl) ?_
  refine lv_aload_n hx hb d_V_cool_1 rfl (lv_at hl 1 rfl) ?_
  refine t_getP hx hb hts inN hown hC ha rfl 5 (by decide) (hts _ w_246) (fun _ h => h) d_V_cool_2 ?_
  refine lv_icmp_le (tgt := 30) hx hb d_V_cool_5 (by decide) (fun c5 => ?_) (fun c5 => ?_)
  · skip
    exact t_vret hx hb hr hlk zz_c hC (⟨rfl, Or.inr ⟨Int32.not_lt.mpr c5, rfl⟩⟩) (Nat.le_of_ble_eq_true rfl) (Nat.le_of_ble_eq_true rfl) d_V_cool_30
  · skip
    refine lv_aload_n hx hb d_V_cool_8 rfl (lv_at hl 1 rfl) ?_
    refine lv_iload_n hx hb d_V_cool_9 rfl (lv_at hl 2 rfl) ?_
    refine t_putP (ty := .int) hx hb hts inN TN tyN nmN hown hC ha rfl 5 (by decide) (hts _ w_246) (fun _ h => h) (Or.inl rfl) (by decide +kernel) rfl rfl d_V_cool_10 (fun H locs hC => ?_)
    have hC : tC D cls (ty0 ca) A (zz e0 A) s (wC K ca RL LP (va_up fv a (upd (fv a) 5 ti9)) FR day ever mo (nI vs.length) ea (nI w9) ch ring (eo ++ rest)) H locs := hC
    refine lv_aload_n hx hb d_V_cool_13 rfl (lv_at hl 0 rfl) ?_
    refine t_get (v := .ref (K 3)) hx hb hts inV hown hC 0 rfl rfl 2 (by decide) (hts _ w_99) (fun _ h => h) rfl d_V_cool_14 ?_
    refine lv_aload_n hx hb d_V_cool_17 rfl (lv_at hl 0 rfl) ?_
    refine t_get (v := .int day) hx hb hts inV hown hC 0 rfl rfl 3 (by decide) (hts _ w_100) (fun _ h => h) rfl d_V_cool_18 ?_
    refine lv_iconst (v := 4) hx hb d_V_cool_21 (by decide) ?_
    refine lv_aload_n hx hb d_V_cool_22 rfl (lv_at hl 1 rfl) ?_
    refine t_getP hx hb hts inN hown hC ha rfl 0 (by decide) (hts _ w_237) (fun _ h => h) d_V_cool_23 ?_
    refine lv_iload_n hx hb d_V_cool_26 rfl (lv_at hl 2 rfl) ?_
    refine t_call (t_invV (As := [.int day, .int 4, .int ((va_up fv a (upd (fv a) 5 ti9)) a 0), .int ti9]) (rest := []) hx hb hown (hts _ w_376) (hts _ w_377) (hts _ w_378) (hts _ w_379) ⟨by decide, by decide⟩ (t_recv (q0 := 3) hC rfl rfl) rfl d_V_cool_27) (c_G_write hw9) zz_c tb_good hts w_6 hC (hl.1.trans hml.symm) ⟨Nat.le_of_ble_eq_true rfl, Nat.le_of_ble_eq_true rfl, Nat.le_of_ble_eq_true rfl, Nat.le_of_ble_eq_true rfl⟩ (Nat.le_of_ble_eq_true rfl) (fun E q ce w1 H1 l1 hp => hp.elim) (fun v w1 H locs hp hC => ?_)
    obtain ⟨rfl, rfl⟩ := hp
    have hC : tC D cls (ty0 ca) A (zz e0 A) s (wC K ca RL LP (va_up fv a (upd (fv a) 5 ti9)) FR day ever mo (nI vs.length) ea (nI (w9 + 1)) ((lg_wr (ring, w9, ch) day 4 ((va_up fv a (upd (fv a) 5 ti9)) a 0) ti9).2.2) ((lg_wr (ring, w9, ch) day 4 ((va_up fv a (upd (fv a) 5 ti9)) a 0) ti9).1) (eo ++ rest)) H locs := hC
    refine W.eq (g2 := F0 m 30 ls []) rfl ?_
    exact t_vret hx hb hr hlk zz_c hC (⟨rfl, Or.inl ⟨Int32.not_le.mp c5, by simp only [up_twice, va_up_self]; rfl⟩⟩) (Nat.le_of_ble_eq_true rfl) (Nat.le_of_ble_eq_true rfl) d_V_cool_30
