/-! The vault: put, mark, erase, expire. Laid by program (wip/whole/p22.py) -/
theorem cI_more {e0 : Nat → Nat} {ca : Nat → ClassId} {vs LP : List Nat} {ea : Nat} {eo : va_W} {q : Nat} (h : cI e0 ca vs LP ea eo) : cI e0 ca vs (LP ++ [q]) ea eo := ⟨h.1, fun a ha => List.mem_append_left _ (h.2.1 a ha), h.2.2⟩
theorem nN_fs : ∀ j, j < 13 → defaultValue (TN j) = vp_V ((List.range 13).map (fun j => Value.int (rw0 j))) j := by
  intro j hj
  rcases (by omega : j = 0 ∨ j = 1 ∨ j = 2 ∨ j = 3 ∨ j = 4 ∨ j = 5 ∨ j = 6 ∨ j = 7 ∨ j = 8 ∨ j = 9 ∨ j = 10 ∨ j = 11 ∨ j = 12) with rfl | rfl | rfl | rfl | rfl | rfl | rfl | rfl | rfl | rfl | rfl | rfl | rfl <;> rfl
/-- add of a new object -/
theorem c_V_addN {l : Launch} {D : va_G} {A : Nat → Prop} {e0 : Nat → Nat} {K : Nat → Nat} {ca : Nat → ClassId} {RL LP : List Nat} {fv FR : Nat → RW} {day ever mo : Int32} {ea : Nat} {ch : Int64} {ring : Nat → Int32} {rest : va_W} {vs : List Nat} {eo : va_W} (hI : cI e0 ca vs LP ea eo) {w9 : Nat} (hw9 : w9 < 2 ^ 31) {q : Nat} {r : RW} (hq : q ∉ LP) (hroom : vs.length < 40) : tM l y_V_add tb ({ frames := 7, cells := 1, slots := 60, locals := 171 }) D cls (ty0 ca) A (zz e0 A) [.ref (K 0), .ref q] (wC K ca RL (LP ++ [q]) (va_up fv q r) FR day ever mo (nI vs.length) ea (nI w9) ch ring (eo ++ rest)) (fun v w2 => v = some (.int (r 0)) ∧ cQ e0 K ca RL FR rest LP fv day (ever + 1) (lg_wr (ring, w9, ch) day (if r 5 = -1 then 2 else 1) (r 0) (r 1)) (rw_add (vs.map fv) day r) (vs ++ [q]) w2) xN := by
  have hqv : q ∉ vs := fun h => hq (hI.2.1 q h)
  have hs : (va_up fv q r) q = r := va_up_self _ _ _
  have h := c_V_add (l := l) (D := D) (A := A) (K := K) (RL := RL) (FR := FR) (day := day) (ever := ever) (mo := mo) (ch := ch) (ring := ring) (rest := rest) (fv := va_up fv q r) (cI_more (q := q) hI) hw9 (a := q) (List.mem_append_right _ (List.mem_singleton.mpr rfl)) hqv hroom
  rw [hs, map_out hqv] at h
  refine t_monoM h ?_ (fun _ _ h => h)
  rintro v w2 ⟨h1, LP2, fv2, mo2, ea2, eo2, h2, h3, h4, h5⟩
  refine ⟨h1, LP2, fv2, mo2, ea2, eo2, h2, h3, fun b hb => ⟨(h4 b (List.mem_append_left _ hb)).1, fun hn => ?_⟩, h5⟩
  rw [(h4 b (List.mem_append_left _ hb)).2 hn]
  simp only [va_up]
  rw [if_neg (fun e : b = q => hq (e ▸ hb))]

set_option maxRecDepth 100000 in
set_option maxHeartbeats 4000000 in
theorem c_V_put {l : Launch} (hst : l.stackTraces = false) {D : va_G} {A : Nat → Prop} {e0 : Nat → Nat} {K : Nat → Nat} {ca : Nat → ClassId} {RL LP : List Nat} {fv FR : Nat → RW} {day ever mo : Int32} {ea : Nat} {ch : Int64} {ring : Nat → Int32} {rest : va_W} {vs : List Nat} {eo : va_W} (hI : cI e0 ca vs LP ea eo) {w9 : Nat} (hw9 : w9 < 2 ^ 31) {key si9 tg9 : Int32} : tM l y_V_put tb ({ frames := 8, cells := 4, slots := 85, locals := 193 }) D cls (ty0 ca) A (zz e0 A) [.ref (K 0), .int key, .int si9, .int tg9] (wC K ca RL LP fv FR day ever mo (nI vs.length) ea (nI w9) ch ring (eo ++ rest)) (fun v w2 => ((1 ≤ si9 ∧ si9 ≤ 1000000) ∧ (0 ≤ tg9 ∧ tg9 ≤ 3)) ∧ vs.length < 40 ∧ v = some (.int ever) ∧ ∃ q, cQ e0 K ca RL FR rest LP fv day (ever + 1) (lg_wr (ring, w9, ch) day (if (mkObj ever key day si9 tg9) 5 = -1 then 2 else 1) ((mkObj ever key day si9 tg9) 0) ((mkObj ever key day si9 tg9) 1)) (rw_add (vs.map fv) day (mkObj ever key day si9 tg9)) (vs ++ [q]) w2) (fun E w2 => w2 = wC K ca RL LP fv FR day ever mo (nI vs.length) ea (nI w9) ch ring (eo ++ rest) ∧ ((E = "java/lang/IllegalArgumentException" ∧ ¬ ((1 ≤ si9 ∧ si9 ≤ 1000000) ∧ (0 ≤ tg9 ∧ tg9 ≤ 3))) ∨ (E = "java/lang/IllegalStateException" ∧ ((1 ≤ si9 ∧ si9 ≤ 1000000) ∧ (0 ≤ tg9 ∧ tg9 ≤ 3)) ∧ vs.length = 40))) := by
  refine t_ofW (by decide) w_125 (Nat.le_of_ble_eq_true rfl) ?_
  intro p e s m below meth c ls hx hb hr hts hown hlk hnm hml hex hl hC
  have hown : s.vm.findClass "RetentionVault" = some m.cls := hown
  have hl : lv_has ls 5 [(0, .ref (K 0)), (1, .int key), (2, .int si9), (3, .int tg9)] := hl
  obtain ⟨hLR, hvL, hnd, h40⟩ := hI
  refine lv_iload_n hx hb d_V_put_0 rfl (lv_at hl 2 rfl) ?_
  refine lv_iconst (v := 1) hx hb d_V_put_1 (by decide) ?_
  refine lv_ldc (v := 1000000) hx hb hown (hts _ w_126) d_V_put_2 ?_
  refine t_call (t_invS (As := [.int si9, .int 1, .int 1000000]) (rest := []) hx hb hown (hts _ w_127) (hts _ w_128) (hts _ w_1) (hts _ w_129) ⟨by decide, by decide⟩ rfl d_V_put_4) (c_V_isWithin zz_c) zz_c tb_good hts w_1 hC (hl.1.trans hml.symm) ⟨Nat.le_of_ble_eq_true rfl, Nat.le_of_ble_eq_true rfl, Nat.le_of_ble_eq_true rfl, Nat.le_of_ble_eq_true rfl⟩ (Nat.le_of_ble_eq_true rfl) (fun E q ce w1 H1 l1 hp => hp.elim) (fun v w1 H locs hp hC => ?_)
  obtain ⟨rfl, hwe9⟩ := hp
  rw [hwe9] at hC
  have hC : tC D cls (ty0 ca) A (zz e0 A) s (wC K ca RL LP fv FR day ever mo (nI vs.length) ea (nI w9) ch ring (eo ++ rest)) H locs := hC
  refine W.eq (g2 := F0 m 7 ls [.int (bI (1 ≤ si9 ∧ si9 ≤ 1000000))]) rfl ?_
  refine lv_if_eq (tgt := 23) hx hb d_V_put_7 (by decide) (fun c7 => ?_) (fun c7 => ?_)
  · skip
    refine lv_iconst (v := 0) hx hb d_V_put_23 (by decide) ?_
    refine t_call (t_invS (As := [.int 0]) (rest := []) hx hb hown (hts _ w_130) (hts _ w_131) (hts _ w_1) (hts _ w_132) ⟨by decide, by decide⟩ rfl d_V_put_24) (c_V_demand hst) zz_c tb_good hts w_1 hC (hl.1.trans hml.symm) ⟨Nat.le_of_ble_eq_true rfl, Nat.le_of_ble_eq_true rfl, Nat.le_of_ble_eq_true rfl, Nat.le_of_ble_eq_true rfl⟩ (Nat.le_of_ble_eq_true rfl) (fun E q9 ce w1 H locs hp hC hce hcv hcl => ?_) (fun v w1 H locs hp hC => ?_)
    · skip
      obtain ⟨rfl, hwe9, hdem⟩ := hp
      rw [hwe9] at hC
      have hC : tC D cls (ty0 ca) A (zz e0 A) s (wC K ca RL LP fv FR day ever mo (nI vs.length) ea (nI w9) ch ring (eo ++ rest)) H locs := hC
      exact t_out (fun x h => (hex x h).elim) hlk zz_c hC hce hcv hcl (⟨rfl, Or.inl ⟨rfl, fun h => bI_ne.mp c7 h.1⟩⟩) (Nat.le_of_ble_eq_true rfl) (Nat.le_of_ble_eq_true rfl)
    · skip
      obtain ⟨rfl, hwe9, hdem⟩ := hp
      exact absurd rfl hdem
  · skip
    refine lv_iload_n hx hb d_V_put_10 rfl (lv_at hl 3 rfl) ?_
    refine lv_iconst (v := 0) hx hb d_V_put_11 (by decide) ?_
    refine lv_iconst (v := 3) hx hb d_V_put_12 (by decide) ?_
    refine t_call (t_invS (As := [.int tg9, .int 0, .int 3]) (rest := []) hx hb hown (hts _ w_127) (hts _ w_128) (hts _ w_1) (hts _ w_129) ⟨by decide, by decide⟩ rfl d_V_put_13) (c_V_isWithin zz_c) zz_c tb_good hts w_1 hC (hl.1.trans hml.symm) ⟨Nat.le_of_ble_eq_true rfl, Nat.le_of_ble_eq_true rfl, Nat.le_of_ble_eq_true rfl, Nat.le_of_ble_eq_true rfl⟩ (Nat.le_of_ble_eq_true rfl) (fun E q ce w1 H1 l1 hp => hp.elim) (fun v w1 H locs hp hC => ?_)
    obtain ⟨rfl, hwe9⟩ := hp
    rw [hwe9] at hC
    have hC : tC D cls (ty0 ca) A (zz e0 A) s (wC K ca RL LP fv FR day ever mo (nI vs.length) ea (nI w9) ch ring (eo ++ rest)) H locs := hC
    refine W.eq (g2 := F0 m 16 ls [.int (bI (0 ≤ tg9 ∧ tg9 ≤ 3))]) rfl ?_
    refine lv_if_eq (tgt := 23) hx hb d_V_put_16 (by decide) (fun c16 => ?_) (fun c16 => ?_)
    · skip
      refine lv_iconst (v := 0) hx hb d_V_put_23 (by decide) ?_
      refine t_call (t_invS (As := [.int 0]) (rest := []) hx hb hown (hts _ w_130) (hts _ w_131) (hts _ w_1) (hts _ w_132) ⟨by decide, by decide⟩ rfl d_V_put_24) (c_V_demand hst) zz_c tb_good hts w_1 hC (hl.1.trans hml.symm) ⟨Nat.le_of_ble_eq_true rfl, Nat.le_of_ble_eq_true rfl, Nat.le_of_ble_eq_true rfl, Nat.le_of_ble_eq_true rfl⟩ (Nat.le_of_ble_eq_true rfl) (fun E q9 ce w1 H locs hp hC hce hcv hcl => ?_) (fun v w1 H locs hp hC => ?_)
      · skip
        obtain ⟨rfl, hwe9, hdem⟩ := hp
        rw [hwe9] at hC
        have hC : tC D cls (ty0 ca) A (zz e0 A) s (wC K ca RL LP fv FR day ever mo (nI vs.length) ea (nI w9) ch ring (eo ++ rest)) H locs := hC
        exact t_out (fun x h => (hex x h).elim) hlk zz_c hC hce hcv hcl (⟨rfl, Or.inl ⟨rfl, fun h => bI_ne.mp c16 h.2⟩⟩) (Nat.le_of_ble_eq_true rfl) (Nat.le_of_ble_eq_true rfl)
      · skip
        obtain ⟨rfl, hwe9, hdem⟩ := hp
        exact absurd rfl hdem
    · skip
      refine lv_iconst (v := 1) hx hb d_V_put_19 (by decide) ?_
      refine lv_goto (tgt := 24) hx hb d_V_put_20 (by decide) ?_
      refine t_call (t_invS (As := [.int 1]) (rest := []) hx hb hown (hts _ w_130) (hts _ w_131) (hts _ w_1) (hts _ w_132) ⟨by decide, by decide⟩ rfl d_V_put_24) (c_V_demand hst) zz_c tb_good hts w_1 hC (hl.1.trans hml.symm) ⟨Nat.le_of_ble_eq_true rfl, Nat.le_of_ble_eq_true rfl, Nat.le_of_ble_eq_true rfl, Nat.le_of_ble_eq_true rfl⟩ (Nat.le_of_ble_eq_true rfl) (fun E q9 ce w1 H locs hp hC hce hcv hcl => ?_) (fun v w1 H locs hp hC => ?_)
      · skip
        obtain ⟨rfl, hwe9, hdem⟩ := hp
        exact absurd hdem (by decide)
      · skip
        obtain ⟨rfl, hwe9, hdem⟩ := hp
        rw [hwe9] at hC
        have hC : tC D cls (ty0 ca) A (zz e0 A) s (wC K ca RL LP fv FR day ever mo (nI vs.length) ea (nI w9) ch ring (eo ++ rest)) H locs := hC
        refine W.eq (g2 := F0 m 27 ls []) rfl ?_
        refine lv_aload_n hx hb d_V_put_27 rfl (lv_at hl 0 rfl) ?_
        refine t_call (t_invV (As := []) (rest := []) hx hb hown (hts _ w_202) (hts _ w_204) (hts _ s_V_demandRoom) (hts _ w_205) ⟨by decide, by decide⟩ (t_recv (q0 := 0) hC rfl rfl) rfl d_V_put_28) (c_V_demandRoom hst ⟨hLR, hvL, hnd, h40⟩) zz_c tb_good hts w_1 hC (hl.1.trans hml.symm) ⟨Nat.le_of_ble_eq_true rfl, Nat.le_of_ble_eq_true rfl, Nat.le_of_ble_eq_true rfl, Nat.le_of_ble_eq_true rfl⟩ (Nat.le_of_ble_eq_true rfl) (fun E q9 ce w1 H locs hp hC hce hcv hcl => ?_) (fun v w1 H locs hp hC => ?_)
        · skip
          obtain ⟨rfl, hwe9, hfull⟩ := hp
          rw [hwe9] at hC
          have hC : tC D cls (ty0 ca) A (zz e0 A) s (wC K ca RL LP fv FR day ever mo (nI vs.length) ea (nI w9) ch ring (eo ++ rest)) H locs := hC
          exact t_out (fun x h => (hex x h).elim) hlk zz_c hC hce hcv hcl (⟨rfl, Or.inr ⟨rfl, ⟨Classical.not_not.mp (fun q => c7 (bI_ne.mpr q)), Classical.not_not.mp (fun q => c16 (bI_ne.mpr q))⟩, hfull⟩⟩) (Nat.le_of_ble_eq_true rfl) (Nat.le_of_ble_eq_true rfl)
        · skip
          obtain ⟨rfl, hwe9, hroom⟩ := hp
          rw [hwe9] at hC
          have hC : tC D cls (ty0 ca) A (zz e0 A) s (wC K ca RL LP fv FR day ever mo (nI vs.length) ea (nI w9) ch ring (eo ++ rest)) H locs := hC
          refine W.eq (g2 := F0 m 31 ls []) rfl ?_
          refine t_new (ci := 3) (fs := (List.range 13).map (fun j => Value.int (rw0 j))) hx hb hts inN TN tyN hown (hts _ w_230) (hts _ w_231) (hts _ w_13) hC rfl nN_fs (Nat.le_of_ble_eq_true rfl) (Nat.le_of_ble_eq_true rfl) d_V_put_31 (fun q H hC => ?_)
          have hq0 : q ∉ LP := t_freshL hC
          have hq : q ∈ LP ++ [q] := List.mem_append_right _ (List.mem_singleton.mpr rfl)
          have hC := t_join (ci := 3) (N := 13) (g := rw0) hC
          have hC : tC D cls (ty0 ca) A (zz e0 A) s (wC K ca RL (LP ++ [q]) (va_up fv q rw0) FR day ever mo (nI vs.length) ea (nI w9) ch ring (eo ++ rest)) H locs := hC
          refine lv_dup hx hb d_V_put_34 rfl ?_
          refine lv_aload_n hx hb d_V_put_35 rfl (lv_at hl 0 rfl) ?_
          refine t_get (v := .int ever) hx hb hts inV hown hC 0 rfl rfl 4 (by decide) (hts _ w_101) (fun _ h => h) rfl d_V_put_36 ?_
          refine lv_iload_n hx hb d_V_put_39 rfl (lv_at hl 1 rfl) ?_
          refine lv_aload_n hx hb d_V_put_40 rfl (lv_at hl 0 rfl) ?_
          refine t_get (v := .int day) hx hb hts inV hown hC 0 rfl rfl 3 (by decide) (hts _ w_100) (fun _ h => h) rfl d_V_put_41 ?_
          refine t_call (t_invI (As := [.int ever, .int key, .int day]) (rest := [.ref q]) hx hb hown rfl (hts _ w_232) (hts _ w_233) (hts _ w_234) ⟨by decide, by decide⟩ rfl d_V_put_44) (c_N_init zz_c hq) zz_c tb_good hts w_13 hC (hl.1.trans hml.symm) ⟨Nat.le_of_ble_eq_true rfl, Nat.le_of_ble_eq_true rfl, Nat.le_of_ble_eq_true rfl, Nat.le_of_ble_eq_true rfl⟩ (Nat.le_of_ble_eq_true rfl) (fun E q ce w1 H1 l1 hp => hp.elim) (fun v w1 H locs hp hC => ?_)
          obtain ⟨rfl, rfl⟩ := hp
          have hC : tC D cls (ty0 ca) A (zz e0 A) s (wC K ca RL (LP ++ [q]) (va_up (va_up fv q rw0) q (upd (upd (upd (upd (upd ((va_up fv q rw0) q) 0 ever) 1 key) 2 day) 5 (-1)) 6 1)) FR day ever mo (nI vs.length) ea (nI w9) ch ring (eo ++ rest)) H locs := hC
          refine W.eq (g2 := F0 m 47 ls [.ref q]) rfl ?_
          refine lv_astore (lv' := [(4, .ref q), (0, .ref (K 0)), (1, .int key), (2, .int si9), (3, .int tg9)]) hx hb d_V_put_47 hl (by decide) rfl (fun ls hl => ?_)
          refine lv_aload hx hb d_V_put_49 (lv_at hl 0 rfl) ?_
          refine lv_iload_n hx hb d_V_put_51 rfl (lv_at hl 3 rfl) ?_
          refine lv_iload_n hx hb d_V_put_52 rfl (lv_at hl 4 rfl) ?_
          refine t_call (t_invV (As := [.int si9, .int tg9]) (rest := []) hx hb hown (hts _ w_289) (hts _ w_290) (hts _ w_291) (hts _ w_292) ⟨by decide, by decide⟩ (t_recvP hC hq rfl rfl) rfl d_V_put_53) (c_N_makeObject zz_c hq) zz_c tb_good hts w_13 hC (hl.1.trans hml.symm) ⟨Nat.le_of_ble_eq_true rfl, Nat.le_of_ble_eq_true rfl, Nat.le_of_ble_eq_true rfl, Nat.le_of_ble_eq_true rfl⟩ (Nat.le_of_ble_eq_true rfl) (fun E q ce w1 H1 l1 hp => hp.elim) (fun v w1 H locs hp hC => ?_)
          obtain ⟨rfl, rfl⟩ := hp
          have hC : tC D cls (ty0 ca) A (zz e0 A) s (wC K ca RL (LP ++ [q]) (va_up (va_up (va_up fv q rw0) q (upd (upd (upd (upd (upd ((va_up fv q rw0) q) 0 ever) 1 key) 2 day) 5 (-1)) 6 1)) q (upd (upd (upd ((va_up (va_up fv q rw0) q (upd (upd (upd (upd (upd ((va_up fv q rw0) q) 0 ever) 1 key) 2 day) 5 (-1)) 6 1)) q) 3 si9) 4 tg9) 5 0)) FR day ever mo (nI vs.length) ea (nI w9) ch ring (eo ++ rest)) H locs := hC
          refine W.eq (g2 := F0 m 56 ls []) rfl ?_
          have hC : tC D cls (ty0 ca) A (zz e0 A) s (wC K ca RL (LP ++ [q]) (va_up fv q (mkObj ever key day si9 tg9)) FR day ever mo (nI vs.length) ea (nI w9) ch ring (eo ++ rest)) H locs := by simp only [up_twice, va_up_self] at hC; exact hC
          refine lv_aload_n hx hb d_V_put_56 rfl (lv_at hl 1 rfl) ?_
          refine lv_aload hx hb d_V_put_57 (lv_at hl 0 rfl) ?_
          refine t_call (t_invV (As := [.ref q]) (rest := []) hx hb hown (hts _ w_293) (hts _ w_295) (hts _ s_V_add) (hts _ w_296) ⟨by decide, by decide⟩ (t_recv (q0 := 0) hC rfl rfl) rfl d_V_put_59) (c_V_addN ⟨hLR, hvL, hnd, h40⟩ hw9 hq0 hroom) zz_c tb_good hts w_1 hC (hl.1.trans hml.symm) ⟨Nat.le_of_ble_eq_true rfl, Nat.le_of_ble_eq_true rfl, Nat.le_of_ble_eq_true rfl, Nat.le_of_ble_eq_true rfl⟩ (Nat.le_of_ble_eq_true rfl) (fun E q ce w1 H1 l1 hp => hp.elim) (fun v w1 H locs hp hC => ?_)
          obtain ⟨rfl, hcq⟩ := hp
          have hcq9 := hcq
          obtain ⟨LP2, fv2, mo2, ea2, eo2, hI2, hrows2, hkeep2, hwe9⟩ := hcq
          rw [hwe9] at hC hcq9
          refine W.eq (g2 := F0 m 62 ls [.int ((mkObj ever key day si9 tg9) 0)]) rfl ?_
          exact t_iret hx hb hr hlk zz_c hC (⟨⟨Classical.not_not.mp (fun q => c7 (bI_ne.mpr q)), Classical.not_not.mp (fun q => c16 (bI_ne.mpr q))⟩, hroom, rfl, q, hcq9⟩) (Nat.le_of_ble_eq_true rfl) (Nat.le_of_ble_eq_true rfl) d_V_put_62

set_option maxRecDepth 100000 in
set_option maxHeartbeats 4000000 in
theorem c_V_mark {l : Launch} (hst : l.stackTraces = false) {D : va_G} {A : Nat → Prop} {e0 : Nat → Nat} {K : Nat → Nat} {ca : Nat → ClassId} {RL LP : List Nat} {fv FR : Nat → RW} {day ever mo : Int32} {ea : Nat} {ch : Int64} {ring : Nat → Int32} {rest : va_W} {vs : List Nat} {eo : va_W} (hI : cI e0 ca vs LP ea eo) {w9 : Nat} (hw9 : w9 < 2 ^ 31) {key : Int32} : tM l y_V_mark tb ({ frames := 8, cells := 4, slots := 85, locals := 193 }) D cls (ty0 ca) A (zz e0 A) [.ref (K 0), .int key] (wC K ca RL LP fv FR day ever mo (nI vs.length) ea (nI w9) ch ring (eo ++ rest)) (fun v w2 => (∃ o, (rw_latest (vs.map fv) key).bind (fun i => vs[i]?) = some o ∧ fv o 5 ≠ -1) ∧ vs.length < 40 ∧ v = some (.int ever) ∧ ∃ q, cQ e0 K ca RL FR rest LP fv day (ever + 1) (lg_wr (ring, w9, ch) day (if (mkMark ever key day) 5 = -1 then 2 else 1) ((mkMark ever key day) 0) ((mkMark ever key day) 1)) (rw_add (vs.map fv) day (mkMark ever key day)) (vs ++ [q]) w2) (fun E w2 => w2 = wC K ca RL LP fv FR day ever mo (nI vs.length) ea (nI w9) ch ring (eo ++ rest) ∧ ((E = "java/util/NoSuchElementException" ∧ ((rw_latest (vs.map fv) key).bind (fun i => vs[i]?) = none ∨ ∃ a, (rw_latest (vs.map fv) key).bind (fun i => vs[i]?) = some a ∧ fv a 5 = -1)) ∨ (E = "java/lang/IllegalStateException" ∧ (∃ o, (rw_latest (vs.map fv) key).bind (fun i => vs[i]?) = some o ∧ fv o 5 ≠ -1) ∧ vs.length = 40))) := by
  refine t_ofW (by decide) w_395 (Nat.le_of_ble_eq_true rfl) ?_
  intro p e s m below meth c ls hx hb hr hts hown hlk hnm hml hex hl hC
  have hown : s.vm.findClass "RetentionVault" = some m.cls := hown
  have hl : lv_has ls 2 [(0, .ref (K 0)), (1, .int key)] := hl
  obtain ⟨hLR, hvL, hnd, h40⟩ := hI
  refine lv_aload_n hx hb d_V_mark_0 rfl (lv_at hl 0 rfl) ?_
  refine lv_iload_n hx hb d_V_mark_1 rfl (lv_at hl 1 rfl) ?_
  refine t_call (t_invV (As := [.int key]) (rest := []) hx hb hown (hts _ w_396) (hts _ w_398) (hts _ s_V_currentObject) (hts _ w_399) ⟨by decide, by decide⟩ (t_recv (q0 := 0) hC rfl rfl) rfl d_V_mark_2) (c_V_currentObject hst ⟨hLR, hvL, hnd, h40⟩) zz_c tb_good hts w_1 hC (hl.1.trans hml.symm) ⟨Nat.le_of_ble_eq_true rfl, Nat.le_of_ble_eq_true rfl, Nat.le_of_ble_eq_true rfl, Nat.le_of_ble_eq_true rfl⟩ (Nat.le_of_ble_eq_true rfl) (fun E q9 ce w1 H locs hp hC hce hcv hcl => ?_) (fun v w1 H locs hp hC => ?_)
  · skip
    obtain ⟨rfl, hwe9, hlt⟩ := hp
    rw [hwe9] at hC
    have hC : tC D cls (ty0 ca) A (zz e0 A) s (wC K ca RL LP fv FR day ever mo (nI vs.length) ea (nI w9) ch ring (eo ++ rest)) H locs := hC
    exact t_out (fun x h => (hex x h).elim) hlk zz_c hC hce hcv hcl (⟨rfl, Or.inl ⟨rfl, hlt⟩⟩) (Nat.le_of_ble_eq_true rfl) (Nat.le_of_ble_eq_true rfl)
  · skip
    obtain ⟨a, hlt, hob, rfl, hwe9⟩ := hp
    rw [hwe9] at hC
    have ha : a ∈ LP := lt_mem hvL hlt
    have hC : tC D cls (ty0 ca) A (zz e0 A) s (wC K ca RL LP fv FR day ever mo (nI vs.length) ea (nI w9) ch ring (eo ++ rest)) H locs := hC
    refine W.eq (g2 := F0 m 5 ls [.ref a]) rfl ?_
    refine lv_pop hx hb d_V_mark_5 rfl ?_
    refine lv_aload_n hx hb d_V_mark_6 rfl (lv_at hl 0 rfl) ?_
    refine t_call (t_invV (As := []) (rest := []) hx hb hown (hts _ w_202) (hts _ w_204) (hts _ s_V_demandRoom) (hts _ w_205) ⟨by decide, by decide⟩ (t_recv (q0 := 0) hC rfl rfl) rfl d_V_mark_7) (c_V_demandRoom hst ⟨hLR, hvL, hnd, h40⟩) zz_c tb_good hts w_1 hC (hl.1.trans hml.symm) ⟨Nat.le_of_ble_eq_true rfl, Nat.le_of_ble_eq_true rfl, Nat.le_of_ble_eq_true rfl, Nat.le_of_ble_eq_true rfl⟩ (Nat.le_of_ble_eq_true rfl) (fun E q9 ce w1 H locs hp hC hce hcv hcl => ?_) (fun v w1 H locs hp hC => ?_)
    · skip
      obtain ⟨rfl, hwe9, hfull⟩ := hp
      rw [hwe9] at hC
      have hC : tC D cls (ty0 ca) A (zz e0 A) s (wC K ca RL LP fv FR day ever mo (nI vs.length) ea (nI w9) ch ring (eo ++ rest)) H locs := hC
      exact t_out (fun x h => (hex x h).elim) hlk zz_c hC hce hcv hcl (⟨rfl, Or.inr ⟨rfl, ⟨a, hlt, hob⟩, hfull⟩⟩) (Nat.le_of_ble_eq_true rfl) (Nat.le_of_ble_eq_true rfl)
    · skip
      obtain ⟨rfl, hwe9, hroom⟩ := hp
      rw [hwe9] at hC
      have hC : tC D cls (ty0 ca) A (zz e0 A) s (wC K ca RL LP fv FR day ever mo (nI vs.length) ea (nI w9) ch ring (eo ++ rest)) H locs := hC
      refine W.eq (g2 := F0 m 10 ls []) rfl ?_
      refine lv_aload_n hx hb d_V_mark_10 rfl (lv_at hl 0 rfl) ?_
      refine t_new (ci := 3) (fs := (List.range 13).map (fun j => Value.int (rw0 j))) hx hb hts inN TN tyN hown (hts _ w_230) (hts _ w_231) (hts _ w_13) hC rfl nN_fs (Nat.le_of_ble_eq_true rfl) (Nat.le_of_ble_eq_true rfl) d_V_mark_11 (fun q H hC => ?_)
      have hq0 : q ∉ LP := t_freshL hC
      have hq : q ∈ LP ++ [q] := List.mem_append_right _ (List.mem_singleton.mpr rfl)
      have hC := t_join (ci := 3) (N := 13) (g := rw0) hC
      have hC : tC D cls (ty0 ca) A (zz e0 A) s (wC K ca RL (LP ++ [q]) (va_up fv q rw0) FR day ever mo (nI vs.length) ea (nI w9) ch ring (eo ++ rest)) H locs := hC
      refine lv_dup hx hb d_V_mark_14 rfl ?_
      refine lv_aload_n hx hb d_V_mark_15 rfl (lv_at hl 0 rfl) ?_
      refine t_get (v := .int ever) hx hb hts inV hown hC 0 rfl rfl 4 (by decide) (hts _ w_101) (fun _ h => h) rfl d_V_mark_16 ?_
      refine lv_iload_n hx hb d_V_mark_19 rfl (lv_at hl 1 rfl) ?_
      refine lv_aload_n hx hb d_V_mark_20 rfl (lv_at hl 0 rfl) ?_
      refine t_get (v := .int day) hx hb hts inV hown hC 0 rfl rfl 3 (by decide) (hts _ w_100) (fun _ h => h) rfl d_V_mark_21 ?_
      refine t_call (t_invI (As := [.int ever, .int key, .int day]) (rest := [.ref q, .ref (K 0)]) hx hb hown rfl (hts _ w_232) (hts _ w_233) (hts _ w_234) ⟨by decide, by decide⟩ rfl d_V_mark_24) (c_N_init zz_c hq) zz_c tb_good hts w_13 hC (hl.1.trans hml.symm) ⟨Nat.le_of_ble_eq_true rfl, Nat.le_of_ble_eq_true rfl, Nat.le_of_ble_eq_true rfl, Nat.le_of_ble_eq_true rfl⟩ (Nat.le_of_ble_eq_true rfl) (fun E q ce w1 H1 l1 hp => hp.elim) (fun v w1 H locs hp hC => ?_)
      obtain ⟨rfl, rfl⟩ := hp
      have hC : tC D cls (ty0 ca) A (zz e0 A) s (wC K ca RL (LP ++ [q]) (va_up (va_up fv q rw0) q (upd (upd (upd (upd (upd ((va_up fv q rw0) q) 0 ever) 1 key) 2 day) 5 (-1)) 6 1)) FR day ever mo (nI vs.length) ea (nI w9) ch ring (eo ++ rest)) H locs := hC
      refine W.eq (g2 := F0 m 27 ls [.ref q, .ref (K 0)]) rfl ?_
      have hC : tC D cls (ty0 ca) A (zz e0 A) s (wC K ca RL (LP ++ [q]) (va_up fv q (mkMark ever key day)) FR day ever mo (nI vs.length) ea (nI w9) ch ring (eo ++ rest)) H locs := by simp only [up_twice, va_up_self] at hC; exact hC
      refine t_call (t_invV (As := [.ref q]) (rest := []) hx hb hown (hts _ w_293) (hts _ w_295) (hts _ s_V_add) (hts _ w_296) ⟨by decide, by decide⟩ (t_recv (q0 := 0) hC rfl rfl) rfl d_V_mark_27) (c_V_addN ⟨hLR, hvL, hnd, h40⟩ hw9 hq0 hroom) zz_c tb_good hts w_1 hC (hl.1.trans hml.symm) ⟨Nat.le_of_ble_eq_true rfl, Nat.le_of_ble_eq_true rfl, Nat.le_of_ble_eq_true rfl, Nat.le_of_ble_eq_true rfl⟩ (Nat.le_of_ble_eq_true rfl) (fun E q ce w1 H1 l1 hp => hp.elim) (fun v w1 H locs hp hC => ?_)
      obtain ⟨rfl, hcq⟩ := hp
      have hcq9 := hcq
      obtain ⟨LP2, fv2, mo2, ea2, eo2, hI2, hrows2, hkeep2, hwe9⟩ := hcq
      rw [hwe9] at hC hcq9
      refine W.eq (g2 := F0 m 30 ls [.int ((mkMark ever key day) 0)]) rfl ?_
      exact t_iret hx hb hr hlk zz_c hC (⟨⟨a, hlt, hob⟩, hroom, rfl, q, hcq9⟩) (Nat.le_of_ble_eq_true rfl) (Nat.le_of_ble_eq_true rfl) d_V_mark_30

set_option maxRecDepth 100000 in
set_option maxHeartbeats 4000000 in
theorem c_V_erase {l : Launch} (hst : l.stackTraces = false) {D : va_G} {A : Nat → Prop} {e0 : Nat → Nat} {K : Nat → Nat} {ca : Nat → ClassId} {RL LP : List Nat} {fv FR : Nat → RW} {day ever mo : Int32} {ea : Nat} {ch : Int64} {ring : Nat → Int32} {rest : va_W} {vs : List Nat} {eo : va_W} (hI : cI e0 ca vs LP ea eo) {w9 : Nat} (hw9 : w9 < 2 ^ 31) {number fo9 : Int32} : tM l y_V_erase tb ({ frames := 7, cells := 2, slots := 12, locals := 113 }) D cls (ty0 ca) A (zz e0 A) [.ref (K 0), .int number, .int fo9] (wC K ca RL LP fv FR day ever mo (nI vs.length) ea (nI w9) ch ring (eo ++ rest)) (fun v w2 => ∃ a, vs.find? (fun a => decide (fv a 0 = number)) = some a ∧ ¬ (fv a 10 ≠ 0 ∨ (day < fv a 8 ∧ ¬ (fo9 ≠ 0 ∧ ¬ (fv a 9 ≠ 0 ∧ day < fv a 8)))) ∧ v = some (.int (fv a 1)) ∧ ∃ i0, vs[i0]? = some a ∧ cQ e0 K ca RL FR rest LP fv day ever (lg_wr (ring, w9, ch) day 3 (fv a 0) (fv a 1)) (rw_take (vs.map fv) i0) (vs.eraseIdx i0) w2) (fun E w2 => w2 = wC K ca RL LP fv FR day ever mo (nI vs.length) ea (nI w9) ch ring (eo ++ rest) ∧ ((E = "java/util/NoSuchElementException" ∧ vs.find? (fun a => decide (fv a 0 = number)) = none) ∨ (E = "java/lang/IllegalStateException" ∧ ∃ a, vs.find? (fun a => decide (fv a 0 = number)) = some a ∧ (fv a 10 ≠ 0 ∨ (day < fv a 8 ∧ ¬ (fo9 ≠ 0 ∧ ¬ (fv a 9 ≠ 0 ∧ day < fv a 8))))))) := by
  refine t_ofW (by decide) w_422 (Nat.le_of_ble_eq_true rfl) ?_
  intro p e s m below meth c ls hx hb hr hts hown hlk hnm hml hex hl hC
  have hown : s.vm.findClass "RetentionVault" = some m.cls := hown
  have hl : lv_has ls 5 [(0, .ref (K 0)), (1, .int number), (2, .int fo9)] := hl
  obtain ⟨hLR, hvL, hnd, h40⟩ := hI
  refine lv_aload_n hx hb d_V_erase_0 rfl (lv_at hl 0 rfl) ?_
  refine lv_iload_n hx hb d_V_erase_1 rfl (lv_at hl 1 rfl) ?_
  refine t_call (t_invV (As := [.int number]) (rest := []) hx hb hown (hts _ w_423) (hts _ w_425) (hts _ s_V_versionNumbered) (hts _ w_426) ⟨by decide, by decide⟩ (t_recv (q0 := 0) hC rfl rfl) rfl d_V_erase_2) (c_V_versionNumbered hst ⟨hLR, hvL, hnd, h40⟩) zz_c tb_good hts w_1 hC (hl.1.trans hml.symm) ⟨Nat.le_of_ble_eq_true rfl, Nat.le_of_ble_eq_true rfl, Nat.le_of_ble_eq_true rfl, Nat.le_of_ble_eq_true rfl⟩ (Nat.le_of_ble_eq_true rfl) (fun E q9 ce w1 H locs hp hC hce hcv hcl => ?_) (fun v w1 H locs hp hC => ?_)
  · skip
    obtain ⟨rfl, hwe9, hfa⟩ := hp
    rw [hwe9] at hC
    have hC : tC D cls (ty0 ca) A (zz e0 A) s (wC K ca RL LP fv FR day ever mo (nI vs.length) ea (nI w9) ch ring (eo ++ rest)) H locs := hC
    exact t_out (fun x h => (hex x h).elim) hlk zz_c hC hce hcv hcl (⟨rfl, Or.inl ⟨rfl, hfa⟩⟩) (Nat.le_of_ble_eq_true rfl) (Nat.le_of_ble_eq_true rfl)
  · skip
    obtain ⟨a, hfa, rfl, hwe9⟩ := hp
    rw [hwe9] at hC
    have ha : a ∈ LP := hvL a (List.mem_of_find?_eq_some hfa)
    have hC : tC D cls (ty0 ca) A (zz e0 A) s (wC K ca RL LP fv FR day ever mo (nI vs.length) ea (nI w9) ch ring (eo ++ rest)) H locs := hC
    refine W.eq (g2 := F0 m 5 ls [.ref a]) rfl ?_
    refine lv_astore_n (lv' := [(3, .ref a), (0, .ref (K 0)), (1, .int number), (2, .int fo9)]) hx hb d_V_erase_5 rfl hl (by decide) rfl (fun ls hl => ?_)
    refine lv_iload_n hx hb d_V_erase_6 rfl (lv_at hl 3 rfl) ?_
    refine lv_if_eq (tgt := 25) hx hb d_V_erase_7 (by decide) (fun c7 => ?_) (fun c7 => ?_)
    · skip
      refine lv_iconst (v := 0) hx hb d_V_erase_25 (by decide) ?_
      refine lv_istore (lv' := [(4, .int 0), (3, .ref a), (0, .ref (K 0)), (1, .int number), (2, .int fo9)]) hx hb d_V_erase_26 hl (by decide) rfl (fun ls hl => ?_)
      refine lv_aload_n hx hb d_V_erase_28 rfl (lv_at hl 1 rfl) ?_
      refine t_call (t_invV (As := []) (rest := []) hx hb hown (hts _ w_436) (hts _ w_437) (hts _ w_438) (hts _ w_439) ⟨by decide, by decide⟩ (t_recvP hC ha rfl rfl) rfl d_V_erase_29) (c_N_isHeld zz_c ha) zz_c tb_good hts w_13 hC (hl.1.trans hml.symm) ⟨Nat.le_of_ble_eq_true rfl, Nat.le_of_ble_eq_true rfl, Nat.le_of_ble_eq_true rfl, Nat.le_of_ble_eq_true rfl⟩ (Nat.le_of_ble_eq_true rfl) (fun E q ce w1 H1 l1 hp => hp.elim) (fun v w1 H locs hp hC => ?_)
      obtain ⟨rfl, hwe9⟩ := hp
      rw [hwe9] at hC
      have hC : tC D cls (ty0 ca) A (zz e0 A) s (wC K ca RL LP fv FR day ever mo (nI vs.length) ea (nI w9) ch ring (eo ++ rest)) H locs := hC
      refine W.eq (g2 := F0 m 32 ls [.int (bI (fv a 10 ≠ 0))]) rfl ?_
      refine lv_if_ne (tgt := 51) hx hb d_V_erase_32 (by decide) (fun c32 => ?_) (fun c32 => ?_)
      · skip
        exact t_throw (by9 := prog_11_method_2_code) (ix := 7) (Y9 := "java/lang/RuntimeException") (r9 := ["java/lang/Exception"]) (text := "the version is guarded") hx hb hst (by decide +kernel) (by decide +kernel) (by decide +kernel) (by decide +kernel) hown tb_good hts (by decide) (by decide) (by decide) w_214 w_12 (zz_str hC.2.2.2.2.2 (by decide +kernel)) at_ISE zz_c zz_X4 hC (hl.1.trans hml.symm) hex hlk d_V_erase_51 d_V_erase_54 d_V_erase_55 d_V_erase_57 d_V_erase_60 ⟨Nat.le_of_ble_eq_true rfl, Nat.le_of_ble_eq_true rfl, Nat.le_of_ble_eq_true rfl, Nat.le_of_ble_eq_true rfl⟩ (Nat.le_of_ble_eq_true rfl) (Nat.le_of_ble_eq_true rfl) (⟨rfl, Or.inr ⟨rfl, a, hfa, Or.inl (Classical.not_not.mp (fun q => c32 (bI_ne.mpr q)))⟩⟩)
      · skip
        refine lv_aload_n hx hb d_V_erase_35 rfl (lv_at hl 1 rfl) ?_
        refine lv_aload_n hx hb d_V_erase_36 rfl (lv_at hl 2 rfl) ?_
        refine t_get (v := .int day) hx hb hts inV hown hC 0 rfl rfl 3 (by decide) (hts _ w_100) (fun _ h => h) rfl d_V_erase_37 ?_
        refine t_call (t_invV (As := [.int day]) (rest := []) hx hb hown (hts _ w_440) (hts _ w_433) (hts _ w_434) (hts _ w_435) ⟨by decide, by decide⟩ (t_recvP hC ha rfl rfl) rfl d_V_erase_40) (c_N_isRetained zz_c ha) zz_c tb_good hts w_13 hC (hl.1.trans hml.symm) ⟨Nat.le_of_ble_eq_true rfl, Nat.le_of_ble_eq_true rfl, Nat.le_of_ble_eq_true rfl, Nat.le_of_ble_eq_true rfl⟩ (Nat.le_of_ble_eq_true rfl) (fun E q ce w1 H1 l1 hp => hp.elim) (fun v w1 H locs hp hC => ?_)
        obtain ⟨rfl, hwe9⟩ := hp
        rw [hwe9] at hC
        have hC : tC D cls (ty0 ca) A (zz e0 A) s (wC K ca RL LP fv FR day ever mo (nI vs.length) ea (nI w9) ch ring (eo ++ rest)) H locs := hC
        refine W.eq (g2 := F0 m 43 ls [.int (bI (day < fv a 8))]) rfl ?_
        refine lv_if_eq (tgt := 61) hx hb d_V_erase_43 (by decide) (fun c43 => ?_) (fun c43 => ?_)
        · skip
          obtain ⟨i0, hi0⟩ := List.getElem?_of_mem (List.mem_of_find?_eq_some hfa)
          refine lv_aload_n hx hb d_V_erase_61 rfl (lv_at hl 2 rfl) ?_
          refine lv_aload_n hx hb d_V_erase_62 rfl (lv_at hl 1 rfl) ?_
          refine t_call (t_invV (As := [.ref a]) (rest := []) hx hb hown (hts _ w_442) (hts _ w_444) (hts _ s_V_takeAway) (hts _ w_445) ⟨by decide, by decide⟩ (t_recv (q0 := 0) hC rfl rfl) rfl d_V_erase_63) (c_V_takeAway ⟨hLR, hvL, hnd, h40⟩ hw9 hi0) zz_c tb_good hts w_1 hC (hl.1.trans hml.symm) ⟨Nat.le_of_ble_eq_true rfl, Nat.le_of_ble_eq_true rfl, Nat.le_of_ble_eq_true rfl, Nat.le_of_ble_eq_true rfl⟩ (Nat.le_of_ble_eq_true rfl) (fun E q ce w1 H1 l1 hp => hp.elim) (fun v w1 H locs hp hC => ?_)
          obtain ⟨rfl, hcq⟩ := hp
          have hcq9 := hcq
          obtain ⟨LP2, fv2, mo2, ea2, eo2, hI2, hrows2, hkeep2, hwe9⟩ := hcq
          rw [hwe9] at hC hcq9
          have ha0 := ha
          have ha : a ∈ LP2 := (hkeep2 a ha0).1
          have hC : tC D cls (ty0 ca) A (zz e0 A) s (wC K ca RL LP2 fv2 FR day ever mo2 (nI (vs.eraseIdx i0).length) ea2 (nI (lg_wr (ring, w9, ch) day 3 (fv a 0) (fv a 1)).2.1) ((lg_wr (ring, w9, ch) day 3 (fv a 0) (fv a 1)).2.2) ((lg_wr (ring, w9, ch) day 3 (fv a 0) (fv a 1)).1) (eo2 ++ rest)) H locs := hC
          refine W.eq (g2 := F0 m 66 ls []) rfl ?_
          refine lv_aload_n hx hb d_V_erase_66 rfl (lv_at hl 1 rfl) ?_
          refine t_getP hx hb hts inN hown hC ha rfl 1 (by decide) (hts _ w_239) (fun _ h => h) d_V_erase_67 ?_
          exact t_iret hx hb hr hlk zz_c hC (⟨a, hfa, fun h => h.elim (bI_ne.mp c32) (fun h2 => bI_ne.mp c43 h2.1), by rw [(hkeep2 a ha0).2 (erase_not hnd hi0)], i0, hi0, hcq9⟩) (Nat.le_of_ble_eq_true rfl) (Nat.le_of_ble_eq_true rfl) d_V_erase_70
        · skip
          refine lv_iload hx hb d_V_erase_46 (lv_at hl 0 rfl) ?_
          refine lv_if_ne (tgt := 61) hx hb d_V_erase_48 (by decide) (fun c48 => ?_) (fun c48 => ?_)
          · exact absurd rfl c48
          · skip
            exact t_throw (by9 := prog_11_method_2_code) (ix := 7) (Y9 := "java/lang/RuntimeException") (r9 := ["java/lang/Exception"]) (text := "the version is guarded") hx hb hst (by decide +kernel) (by decide +kernel) (by decide +kernel) (by decide +kernel) hown tb_good hts (by decide) (by decide) (by decide) w_214 w_12 (zz_str hC.2.2.2.2.2 (by decide +kernel)) at_ISE zz_c zz_X4 hC (hl.1.trans hml.symm) hex hlk d_V_erase_51 d_V_erase_54 d_V_erase_55 d_V_erase_57 d_V_erase_60 ⟨Nat.le_of_ble_eq_true rfl, Nat.le_of_ble_eq_true rfl, Nat.le_of_ble_eq_true rfl, Nat.le_of_ble_eq_true rfl⟩ (Nat.le_of_ble_eq_true rfl) (Nat.le_of_ble_eq_true rfl) (⟨rfl, Or.inr ⟨rfl, a, hfa, Or.inr ⟨Classical.not_not.mp (fun q => c43 (bI_ne.mpr q)), fun h => h.1 c7⟩⟩⟩)
    · skip
      refine lv_aload_n hx hb d_V_erase_10 rfl (lv_at hl 0 rfl) ?_
      refine lv_aload_n hx hb d_V_erase_11 rfl (lv_at hl 1 rfl) ?_
      refine t_get (v := .int day) hx hb hts inV hown hC 0 rfl rfl 3 (by decide) (hts _ w_100) (fun _ h => h) rfl d_V_erase_12 ?_
      refine t_call (t_invV (As := [.int day]) (rest := []) hx hb hown (hts _ w_428) (hts _ w_429) (hts _ w_430) (hts _ w_431) ⟨by decide, by decide⟩ (t_recvP hC ha rfl rfl) rfl d_V_erase_15) (c_N_isRetainedStrictly zz_c ha) zz_c tb_good hts w_13 hC (hl.1.trans hml.symm) ⟨Nat.le_of_ble_eq_true rfl, Nat.le_of_ble_eq_true rfl, Nat.le_of_ble_eq_true rfl, Nat.le_of_ble_eq_true rfl⟩ (Nat.le_of_ble_eq_true rfl) (fun E q ce w1 H1 l1 hp => hp.elim) (fun v w1 H locs hp hC => ?_)
      obtain ⟨rfl, hwe9⟩ := hp
      rw [hwe9] at hC
      have hC : tC D cls (ty0 ca) A (zz e0 A) s (wC K ca RL LP fv FR day ever mo (nI vs.length) ea (nI w9) ch ring (eo ++ rest)) H locs := hC
      refine W.eq (g2 := F0 m 18 ls [.int (bI (fv a 9 ≠ 0 ∧ day < fv a 8))]) rfl ?_
      refine lv_if_ne (tgt := 25) hx hb d_V_erase_18 (by decide) (fun c18 => ?_) (fun c18 => ?_)
      · skip
        refine lv_iconst (v := 0) hx hb d_V_erase_25 (by decide) ?_
        refine lv_istore (lv' := [(4, .int 0), (3, .ref a), (0, .ref (K 0)), (1, .int number), (2, .int fo9)]) hx hb d_V_erase_26 hl (by decide) rfl (fun ls hl => ?_)
        refine lv_aload_n hx hb d_V_erase_28 rfl (lv_at hl 1 rfl) ?_
        refine t_call (t_invV (As := []) (rest := []) hx hb hown (hts _ w_436) (hts _ w_437) (hts _ w_438) (hts _ w_439) ⟨by decide, by decide⟩ (t_recvP hC ha rfl rfl) rfl d_V_erase_29) (c_N_isHeld zz_c ha) zz_c tb_good hts w_13 hC (hl.1.trans hml.symm) ⟨Nat.le_of_ble_eq_true rfl, Nat.le_of_ble_eq_true rfl, Nat.le_of_ble_eq_true rfl, Nat.le_of_ble_eq_true rfl⟩ (Nat.le_of_ble_eq_true rfl) (fun E q ce w1 H1 l1 hp => hp.elim) (fun v w1 H locs hp hC => ?_)
        obtain ⟨rfl, hwe9⟩ := hp
        rw [hwe9] at hC
        have hC : tC D cls (ty0 ca) A (zz e0 A) s (wC K ca RL LP fv FR day ever mo (nI vs.length) ea (nI w9) ch ring (eo ++ rest)) H locs := hC
        refine W.eq (g2 := F0 m 32 ls [.int (bI (fv a 10 ≠ 0))]) rfl ?_
        refine lv_if_ne (tgt := 51) hx hb d_V_erase_32 (by decide) (fun c32 => ?_) (fun c32 => ?_)
        · skip
          exact t_throw (by9 := prog_11_method_2_code) (ix := 7) (Y9 := "java/lang/RuntimeException") (r9 := ["java/lang/Exception"]) (text := "the version is guarded") hx hb hst (by decide +kernel) (by decide +kernel) (by decide +kernel) (by decide +kernel) hown tb_good hts (by decide) (by decide) (by decide) w_214 w_12 (zz_str hC.2.2.2.2.2 (by decide +kernel)) at_ISE zz_c zz_X4 hC (hl.1.trans hml.symm) hex hlk d_V_erase_51 d_V_erase_54 d_V_erase_55 d_V_erase_57 d_V_erase_60 ⟨Nat.le_of_ble_eq_true rfl, Nat.le_of_ble_eq_true rfl, Nat.le_of_ble_eq_true rfl, Nat.le_of_ble_eq_true rfl⟩ (Nat.le_of_ble_eq_true rfl) (Nat.le_of_ble_eq_true rfl) (⟨rfl, Or.inr ⟨rfl, a, hfa, Or.inl (Classical.not_not.mp (fun q => c32 (bI_ne.mpr q)))⟩⟩)
        · skip
          refine lv_aload_n hx hb d_V_erase_35 rfl (lv_at hl 1 rfl) ?_
          refine lv_aload_n hx hb d_V_erase_36 rfl (lv_at hl 2 rfl) ?_
          refine t_get (v := .int day) hx hb hts inV hown hC 0 rfl rfl 3 (by decide) (hts _ w_100) (fun _ h => h) rfl d_V_erase_37 ?_
          refine t_call (t_invV (As := [.int day]) (rest := []) hx hb hown (hts _ w_440) (hts _ w_433) (hts _ w_434) (hts _ w_435) ⟨by decide, by decide⟩ (t_recvP hC ha rfl rfl) rfl d_V_erase_40) (c_N_isRetained zz_c ha) zz_c tb_good hts w_13 hC (hl.1.trans hml.symm) ⟨Nat.le_of_ble_eq_true rfl, Nat.le_of_ble_eq_true rfl, Nat.le_of_ble_eq_true rfl, Nat.le_of_ble_eq_true rfl⟩ (Nat.le_of_ble_eq_true rfl) (fun E q ce w1 H1 l1 hp => hp.elim) (fun v w1 H locs hp hC => ?_)
          obtain ⟨rfl, hwe9⟩ := hp
          rw [hwe9] at hC
          have hC : tC D cls (ty0 ca) A (zz e0 A) s (wC K ca RL LP fv FR day ever mo (nI vs.length) ea (nI w9) ch ring (eo ++ rest)) H locs := hC
          refine W.eq (g2 := F0 m 43 ls [.int (bI (day < fv a 8))]) rfl ?_
          refine lv_if_eq (tgt := 61) hx hb d_V_erase_43 (by decide) (fun c43 => ?_) (fun c43 => ?_)
          · skip
            obtain ⟨i0, hi0⟩ := List.getElem?_of_mem (List.mem_of_find?_eq_some hfa)
            refine lv_aload_n hx hb d_V_erase_61 rfl (lv_at hl 2 rfl) ?_
            refine lv_aload_n hx hb d_V_erase_62 rfl (lv_at hl 1 rfl) ?_
            refine t_call (t_invV (As := [.ref a]) (rest := []) hx hb hown (hts _ w_442) (hts _ w_444) (hts _ s_V_takeAway) (hts _ w_445) ⟨by decide, by decide⟩ (t_recv (q0 := 0) hC rfl rfl) rfl d_V_erase_63) (c_V_takeAway ⟨hLR, hvL, hnd, h40⟩ hw9 hi0) zz_c tb_good hts w_1 hC (hl.1.trans hml.symm) ⟨Nat.le_of_ble_eq_true rfl, Nat.le_of_ble_eq_true rfl, Nat.le_of_ble_eq_true rfl, Nat.le_of_ble_eq_true rfl⟩ (Nat.le_of_ble_eq_true rfl) (fun E q ce w1 H1 l1 hp => hp.elim) (fun v w1 H locs hp hC => ?_)
            obtain ⟨rfl, hcq⟩ := hp
            have hcq9 := hcq
            obtain ⟨LP2, fv2, mo2, ea2, eo2, hI2, hrows2, hkeep2, hwe9⟩ := hcq
            rw [hwe9] at hC hcq9
            have ha0 := ha
            have ha : a ∈ LP2 := (hkeep2 a ha0).1
            have hC : tC D cls (ty0 ca) A (zz e0 A) s (wC K ca RL LP2 fv2 FR day ever mo2 (nI (vs.eraseIdx i0).length) ea2 (nI (lg_wr (ring, w9, ch) day 3 (fv a 0) (fv a 1)).2.1) ((lg_wr (ring, w9, ch) day 3 (fv a 0) (fv a 1)).2.2) ((lg_wr (ring, w9, ch) day 3 (fv a 0) (fv a 1)).1) (eo2 ++ rest)) H locs := hC
            refine W.eq (g2 := F0 m 66 ls []) rfl ?_
            refine lv_aload_n hx hb d_V_erase_66 rfl (lv_at hl 1 rfl) ?_
            refine t_getP hx hb hts inN hown hC ha rfl 1 (by decide) (hts _ w_239) (fun _ h => h) d_V_erase_67 ?_
            exact t_iret hx hb hr hlk zz_c hC (⟨a, hfa, fun h => h.elim (bI_ne.mp c32) (fun h2 => bI_ne.mp c43 h2.1), by rw [(hkeep2 a ha0).2 (erase_not hnd hi0)], i0, hi0, hcq9⟩) (Nat.le_of_ble_eq_true rfl) (Nat.le_of_ble_eq_true rfl) d_V_erase_70
          · skip
            refine lv_iload hx hb d_V_erase_46 (lv_at hl 0 rfl) ?_
            refine lv_if_ne (tgt := 61) hx hb d_V_erase_48 (by decide) (fun c48 => ?_) (fun c48 => ?_)
            · exact absurd rfl c48
            · skip
              exact t_throw (by9 := prog_11_method_2_code) (ix := 7) (Y9 := "java/lang/RuntimeException") (r9 := ["java/lang/Exception"]) (text := "the version is guarded") hx hb hst (by decide +kernel) (by decide +kernel) (by decide +kernel) (by decide +kernel) hown tb_good hts (by decide) (by decide) (by decide) w_214 w_12 (zz_str hC.2.2.2.2.2 (by decide +kernel)) at_ISE zz_c zz_X4 hC (hl.1.trans hml.symm) hex hlk d_V_erase_51 d_V_erase_54 d_V_erase_55 d_V_erase_57 d_V_erase_60 ⟨Nat.le_of_ble_eq_true rfl, Nat.le_of_ble_eq_true rfl, Nat.le_of_ble_eq_true rfl, Nat.le_of_ble_eq_true rfl⟩ (Nat.le_of_ble_eq_true rfl) (Nat.le_of_ble_eq_true rfl) (⟨rfl, Or.inr ⟨rfl, a, hfa, Or.inr ⟨Classical.not_not.mp (fun q => c43 (bI_ne.mpr q)), fun h => h.2 (Classical.not_not.mp (fun q => c18 (bI_ne.mpr q)))⟩⟩⟩)
      · skip
        refine lv_iconst (v := 1) hx hb d_V_erase_21 (by decide) ?_
        refine lv_goto (tgt := 26) hx hb d_V_erase_22 (by decide) ?_
        refine lv_istore (lv' := [(4, .int 1), (3, .ref a), (0, .ref (K 0)), (1, .int number), (2, .int fo9)]) hx hb d_V_erase_26 hl (by decide) rfl (fun ls hl => ?_)
        refine lv_aload_n hx hb d_V_erase_28 rfl (lv_at hl 1 rfl) ?_
        refine t_call (t_invV (As := []) (rest := []) hx hb hown (hts _ w_436) (hts _ w_437) (hts _ w_438) (hts _ w_439) ⟨by decide, by decide⟩ (t_recvP hC ha rfl rfl) rfl d_V_erase_29) (c_N_isHeld zz_c ha) zz_c tb_good hts w_13 hC (hl.1.trans hml.symm) ⟨Nat.le_of_ble_eq_true rfl, Nat.le_of_ble_eq_true rfl, Nat.le_of_ble_eq_true rfl, Nat.le_of_ble_eq_true rfl⟩ (Nat.le_of_ble_eq_true rfl) (fun E q ce w1 H1 l1 hp => hp.elim) (fun v w1 H locs hp hC => ?_)
        obtain ⟨rfl, hwe9⟩ := hp
        rw [hwe9] at hC
        have hC : tC D cls (ty0 ca) A (zz e0 A) s (wC K ca RL LP fv FR day ever mo (nI vs.length) ea (nI w9) ch ring (eo ++ rest)) H locs := hC
        refine W.eq (g2 := F0 m 32 ls [.int (bI (fv a 10 ≠ 0))]) rfl ?_
        refine lv_if_ne (tgt := 51) hx hb d_V_erase_32 (by decide) (fun c32 => ?_) (fun c32 => ?_)
        · skip
          exact t_throw (by9 := prog_11_method_2_code) (ix := 7) (Y9 := "java/lang/RuntimeException") (r9 := ["java/lang/Exception"]) (text := "the version is guarded") hx hb hst (by decide +kernel) (by decide +kernel) (by decide +kernel) (by decide +kernel) hown tb_good hts (by decide) (by decide) (by decide) w_214 w_12 (zz_str hC.2.2.2.2.2 (by decide +kernel)) at_ISE zz_c zz_X4 hC (hl.1.trans hml.symm) hex hlk d_V_erase_51 d_V_erase_54 d_V_erase_55 d_V_erase_57 d_V_erase_60 ⟨Nat.le_of_ble_eq_true rfl, Nat.le_of_ble_eq_true rfl, Nat.le_of_ble_eq_true rfl, Nat.le_of_ble_eq_true rfl⟩ (Nat.le_of_ble_eq_true rfl) (Nat.le_of_ble_eq_true rfl) (⟨rfl, Or.inr ⟨rfl, a, hfa, Or.inl (Classical.not_not.mp (fun q => c32 (bI_ne.mpr q)))⟩⟩)
        · skip
          refine lv_aload_n hx hb d_V_erase_35 rfl (lv_at hl 1 rfl) ?_
          refine lv_aload_n hx hb d_V_erase_36 rfl (lv_at hl 2 rfl) ?_
          refine t_get (v := .int day) hx hb hts inV hown hC 0 rfl rfl 3 (by decide) (hts _ w_100) (fun _ h => h) rfl d_V_erase_37 ?_
          refine t_call (t_invV (As := [.int day]) (rest := []) hx hb hown (hts _ w_440) (hts _ w_433) (hts _ w_434) (hts _ w_435) ⟨by decide, by decide⟩ (t_recvP hC ha rfl rfl) rfl d_V_erase_40) (c_N_isRetained zz_c ha) zz_c tb_good hts w_13 hC (hl.1.trans hml.symm) ⟨Nat.le_of_ble_eq_true rfl, Nat.le_of_ble_eq_true rfl, Nat.le_of_ble_eq_true rfl, Nat.le_of_ble_eq_true rfl⟩ (Nat.le_of_ble_eq_true rfl) (fun E q ce w1 H1 l1 hp => hp.elim) (fun v w1 H locs hp hC => ?_)
          obtain ⟨rfl, hwe9⟩ := hp
          rw [hwe9] at hC
          have hC : tC D cls (ty0 ca) A (zz e0 A) s (wC K ca RL LP fv FR day ever mo (nI vs.length) ea (nI w9) ch ring (eo ++ rest)) H locs := hC
          refine W.eq (g2 := F0 m 43 ls [.int (bI (day < fv a 8))]) rfl ?_
          refine lv_if_eq (tgt := 61) hx hb d_V_erase_43 (by decide) (fun c43 => ?_) (fun c43 => ?_)
          · skip
            obtain ⟨i0, hi0⟩ := List.getElem?_of_mem (List.mem_of_find?_eq_some hfa)
            refine lv_aload_n hx hb d_V_erase_61 rfl (lv_at hl 2 rfl) ?_
            refine lv_aload_n hx hb d_V_erase_62 rfl (lv_at hl 1 rfl) ?_
            refine t_call (t_invV (As := [.ref a]) (rest := []) hx hb hown (hts _ w_442) (hts _ w_444) (hts _ s_V_takeAway) (hts _ w_445) ⟨by decide, by decide⟩ (t_recv (q0 := 0) hC rfl rfl) rfl d_V_erase_63) (c_V_takeAway ⟨hLR, hvL, hnd, h40⟩ hw9 hi0) zz_c tb_good hts w_1 hC (hl.1.trans hml.symm) ⟨Nat.le_of_ble_eq_true rfl, Nat.le_of_ble_eq_true rfl, Nat.le_of_ble_eq_true rfl, Nat.le_of_ble_eq_true rfl⟩ (Nat.le_of_ble_eq_true rfl) (fun E q ce w1 H1 l1 hp => hp.elim) (fun v w1 H locs hp hC => ?_)
            obtain ⟨rfl, hcq⟩ := hp
            have hcq9 := hcq
            obtain ⟨LP2, fv2, mo2, ea2, eo2, hI2, hrows2, hkeep2, hwe9⟩ := hcq
            rw [hwe9] at hC hcq9
            have ha0 := ha
            have ha : a ∈ LP2 := (hkeep2 a ha0).1
            have hC : tC D cls (ty0 ca) A (zz e0 A) s (wC K ca RL LP2 fv2 FR day ever mo2 (nI (vs.eraseIdx i0).length) ea2 (nI (lg_wr (ring, w9, ch) day 3 (fv a 0) (fv a 1)).2.1) ((lg_wr (ring, w9, ch) day 3 (fv a 0) (fv a 1)).2.2) ((lg_wr (ring, w9, ch) day 3 (fv a 0) (fv a 1)).1) (eo2 ++ rest)) H locs := hC
            refine W.eq (g2 := F0 m 66 ls []) rfl ?_
            refine lv_aload_n hx hb d_V_erase_66 rfl (lv_at hl 1 rfl) ?_
            refine t_getP hx hb hts inN hown hC ha rfl 1 (by decide) (hts _ w_239) (fun _ h => h) d_V_erase_67 ?_
            exact t_iret hx hb hr hlk zz_c hC (⟨a, hfa, fun h => h.elim (bI_ne.mp c32) (fun h2 => bI_ne.mp c43 h2.1), by rw [(hkeep2 a ha0).2 (erase_not hnd hi0)], i0, hi0, hcq9⟩) (Nat.le_of_ble_eq_true rfl) (Nat.le_of_ble_eq_true rfl) d_V_erase_70
          · skip
            refine lv_iload hx hb d_V_erase_46 (lv_at hl 0 rfl) ?_
            refine lv_if_ne (tgt := 61) hx hb d_V_erase_48 (by decide) (fun c48 => ?_) (fun c48 => ?_)
            · skip
              obtain ⟨i0, hi0⟩ := List.getElem?_of_mem (List.mem_of_find?_eq_some hfa)
              refine lv_aload_n hx hb d_V_erase_61 rfl (lv_at hl 2 rfl) ?_
              refine lv_aload_n hx hb d_V_erase_62 rfl (lv_at hl 1 rfl) ?_
              refine t_call (t_invV (As := [.ref a]) (rest := []) hx hb hown (hts _ w_442) (hts _ w_444) (hts _ s_V_takeAway) (hts _ w_445) ⟨by decide, by decide⟩ (t_recv (q0 := 0) hC rfl rfl) rfl d_V_erase_63) (c_V_takeAway ⟨hLR, hvL, hnd, h40⟩ hw9 hi0) zz_c tb_good hts w_1 hC (hl.1.trans hml.symm) ⟨Nat.le_of_ble_eq_true rfl, Nat.le_of_ble_eq_true rfl, Nat.le_of_ble_eq_true rfl, Nat.le_of_ble_eq_true rfl⟩ (Nat.le_of_ble_eq_true rfl) (fun E q ce w1 H1 l1 hp => hp.elim) (fun v w1 H locs hp hC => ?_)
              obtain ⟨rfl, hcq⟩ := hp
              have hcq9 := hcq
              obtain ⟨LP2, fv2, mo2, ea2, eo2, hI2, hrows2, hkeep2, hwe9⟩ := hcq
              rw [hwe9] at hC hcq9
              have ha0 := ha
              have ha : a ∈ LP2 := (hkeep2 a ha0).1
              have hC : tC D cls (ty0 ca) A (zz e0 A) s (wC K ca RL LP2 fv2 FR day ever mo2 (nI (vs.eraseIdx i0).length) ea2 (nI (lg_wr (ring, w9, ch) day 3 (fv a 0) (fv a 1)).2.1) ((lg_wr (ring, w9, ch) day 3 (fv a 0) (fv a 1)).2.2) ((lg_wr (ring, w9, ch) day 3 (fv a 0) (fv a 1)).1) (eo2 ++ rest)) H locs := hC
              refine W.eq (g2 := F0 m 66 ls []) rfl ?_
              refine lv_aload_n hx hb d_V_erase_66 rfl (lv_at hl 1 rfl) ?_
              refine t_getP hx hb hts inN hown hC ha rfl 1 (by decide) (hts _ w_239) (fun _ h => h) d_V_erase_67 ?_
              exact t_iret hx hb hr hlk zz_c hC (⟨a, hfa, fun h => h.elim (bI_ne.mp c32) (fun h2 => h2.2 ⟨c7, bI_ne.mp c18⟩), by rw [(hkeep2 a ha0).2 (erase_not hnd hi0)], i0, hi0, hcq9⟩) (Nat.le_of_ble_eq_true rfl) (Nat.le_of_ble_eq_true rfl) d_V_erase_70
            · exact absurd c48 (by decide)

set_option maxRecDepth 100000 in
set_option maxHeartbeats 4000000 in
theorem c_V_expire {l : Launch} {D : va_G} {A : Nat → Prop} {e0 : Nat → Nat} {K : Nat → Nat} {ca : Nat → ClassId} {RL LP : List Nat} {fv FR : Nat → RW} {day mo : Int32} {ea : Nat} {ch : Int64} {ring : Nat → Int32} {rest : va_W} {vs : List Nat} {eo : va_W} (hI : cI e0 ca vs LP ea eo) {w9 : Nat} (hw9 : w9 < 2 ^ 31) {i0 a ev9 pu : Nat} (hi0 : vs[i0]? = some a) (hu : fv a 6 ≠ 0 → vs.length < 40 → 1 ≤ pu) : tM l y_V_expire tb ({ frames := 8, cells := 2 * pu, slots := 73 * pu, locals := 193 }) D cls (ty0 ca) A (zz e0 A) [.ref (K 0), .ref a] (wC K ca RL LP fv FR day (nI ev9) mo (nI vs.length) ea (nI w9) ch ring (eo ++ rest)) (fun v w2 => (fv a 6 ≠ 0 ∧ vs.length = 40 ∧ v = some (.int 0) ∧ w2 = wC K ca RL LP fv FR day (nI ev9) mo (nI vs.length) ea (nI w9) ch ring (eo ++ rest)) ∨ (fv a 6 ≠ 0 ∧ vs.length < 40 ∧ v = some (.int 1) ∧ ∃ q, cQ e0 K ca RL FR rest LP fv day (nI ev9 + 1) (lg_wr (ring, w9, ch) day (if (mkMark (nI ev9) (fv a 1) day) 5 = -1 then 2 else 1) ((mkMark (nI ev9) (fv a 1) day) 0) ((mkMark (nI ev9) (fv a 1) day) 1)) (rw_add (vs.map fv) day (mkMark (nI ev9) (fv a 1) day)) (vs ++ [q]) w2) ∨ (fv a 6 = 0 ∧ (fv a 10 ≠ 0 ∨ day < fv a 8) ∧ v = some (.int 0) ∧ w2 = wC K ca RL LP fv FR day (nI ev9) mo (nI vs.length) ea (nI w9) ch ring (eo ++ rest)) ∨ (fv a 6 = 0 ∧ ¬ (fv a 10 ≠ 0 ∨ day < fv a 8) ∧ v = some (.int 1) ∧ cQ e0 K ca RL FR rest LP fv day (nI ev9) (lg_wr (ring, w9, ch) day 3 (fv a 0) (fv a 1)) (rw_take (vs.map fv) i0) (vs.eraseIdx i0) w2)) (xN) := by
  refine t_ofW (by decide) w_552 (Nat.le_of_ble_eq_true rfl) ?_
  intro p e s m below meth c ls hx hb hr hts hown hlk hnm hml hex hl hC
  have hown : s.vm.findClass "RetentionVault" = some m.cls := hown
  have hl : lv_has ls 2 [(0, .ref (K 0)), (1, .ref a)] := hl
  obtain ⟨hLR, hvL, hnd, h40⟩ := hI
  have ha : a ∈ LP := hvL a (List.mem_of_getElem? hi0)
  refine lv_aload_n hx hb d_V_expire_0 rfl (lv_at hl 1 rfl) ?_
  refine t_getP hx hb hts inN hown hC ha rfl 6 (by decide) (hts _ w_249) (fun _ h => h) d_V_expire_1 ?_
  refine lv_if_eq (tgt := 17) hx hb d_V_expire_4 (by decide) (fun c4 => ?_) (fun c4 => ?_)
  · skip
    refine lv_aload_n hx hb d_V_expire_17 rfl (lv_at hl 1 rfl) ?_
    refine lv_aload_n hx hb d_V_expire_18 rfl (lv_at hl 0 rfl) ?_
    refine t_get (v := .int day) hx hb hts inV hown hC 0 rfl rfl 3 (by decide) (hts _ w_100) (fun _ h => h) rfl d_V_expire_19 ?_
    refine t_call (t_invV (As := [.int day]) (rest := []) hx hb hown (hts _ w_553) (hts _ w_554) (hts _ w_555) (hts _ w_556) ⟨by decide, by decide⟩ (t_recvP hC ha rfl rfl) rfl d_V_expire_22) (c_N_isGuarded zz_c ha) zz_c tb_good hts w_13 hC (hl.1.trans hml.symm) ⟨by first | exact Nat.le_of_ble_eq_true rfl | (dsimp only; omega) | omega, by first | exact Nat.le_of_ble_eq_true rfl | (dsimp only; omega) | omega, by first | exact Nat.le_of_ble_eq_true rfl | (dsimp only; omega) | omega, by first | exact Nat.le_of_ble_eq_true rfl | (dsimp only; omega) | omega⟩ (Nat.le_of_ble_eq_true rfl) (fun E q ce w1 H1 l1 hp => hp.elim) (fun v w1 H locs hp hC => ?_)
    obtain ⟨rfl, hwe9⟩ := hp
    rw [hwe9] at hC
    have hC : tC D cls (ty0 ca) A (zz e0 A) s (wC K ca RL LP fv FR day (nI ev9) mo (nI vs.length) ea (nI w9) ch ring (eo ++ rest)) H locs := hC
    refine W.eq (g2 := F0 m 25 ls [.int (bI (fv a 10 ≠ 0 ∨ day < fv a 8))]) rfl ?_
    refine lv_if_eq (tgt := 30) hx hb d_V_expire_25 (by decide) (fun c25 => ?_) (fun c25 => ?_)
    · skip
      refine lv_aload_n hx hb d_V_expire_30 rfl (lv_at hl 1 rfl) ?_
      refine t_getP hx hb hts inN hown hC ha rfl 6 (by decide) (hts _ w_249) (fun _ h => h) d_V_expire_31 ?_
      refine lv_if_eq (tgt := 64) hx hb d_V_expire_34 (by decide) (fun c34 => ?_) (fun c34 => ?_)
      · skip
        refine lv_aload_n hx hb d_V_expire_64 rfl (lv_at hl 0 rfl) ?_
        refine lv_aload_n hx hb d_V_expire_65 rfl (lv_at hl 1 rfl) ?_
        refine t_call (t_invV (As := [.ref a]) (rest := []) hx hb hown (hts _ w_442) (hts _ w_444) (hts _ s_V_takeAway) (hts _ w_445) ⟨by decide, by decide⟩ (t_recv (q0 := 0) hC rfl rfl) rfl d_V_expire_66) (c_V_takeAway ⟨hLR, hvL, hnd, h40⟩ hw9 hi0) zz_c tb_good hts w_1 hC (hl.1.trans hml.symm) ⟨by first | exact Nat.le_of_ble_eq_true rfl | (dsimp only; omega) | omega, by first | exact Nat.le_of_ble_eq_true rfl | (dsimp only; omega) | omega, by first | exact Nat.le_of_ble_eq_true rfl | (dsimp only; omega) | omega, by first | exact Nat.le_of_ble_eq_true rfl | (dsimp only; omega) | omega⟩ (Nat.le_of_ble_eq_true rfl) (fun E q ce w1 H1 l1 hp => hp.elim) (fun v w1 H locs hp hC => ?_)
        obtain ⟨rfl, hcq⟩ := hp
        have hcq9 := hcq
        obtain ⟨LP2, fv2, mo2, ea2, eo2, hI2, hrows2, hkeep2, hwe9⟩ := hcq
        rw [hwe9] at hC hcq9
        have ha0 := ha
        have ha : a ∈ LP2 := (hkeep2 a ha0).1
        have hC : tC D cls (ty0 ca) A (zz e0 A) s (wC K ca RL LP2 fv2 FR day (nI ev9) mo2 (nI (vs.eraseIdx i0).length) ea2 (nI (lg_wr (ring, w9, ch) day 3 (fv a 0) (fv a 1)).2.1) ((lg_wr (ring, w9, ch) day 3 (fv a 0) (fv a 1)).2.2) ((lg_wr (ring, w9, ch) day 3 (fv a 0) (fv a 1)).1) (eo2 ++ rest)) H locs := hC
        refine W.eq (g2 := F0 m 69 ls []) rfl ?_
        refine lv_iconst (v := 1) hx hb d_V_expire_69 (by decide) ?_
        exact t_zret hx hb hr hlk (Or.inr rfl) zz_c hC (Or.inr (Or.inr (Or.inr ⟨c4, bI_ne.mp c25, rfl, hcq9⟩))) (by first | exact Nat.le_of_ble_eq_true rfl | (dsimp only; omega) | omega) (by first | exact Nat.le_of_ble_eq_true rfl | (dsimp only; omega) | omega) d_V_expire_70
      · exact absurd c4 c34
    · skip
      refine lv_iconst (v := 0) hx hb d_V_expire_28 (by decide) ?_
      exact t_zret hx hb hr hlk (Or.inl rfl) zz_c hC (Or.inr (Or.inr (Or.inl ⟨c4, Classical.not_not.mp (fun q => c25 (bI_ne.mpr q)), rfl, rfl⟩))) (by first | exact Nat.le_of_ble_eq_true rfl | (dsimp only; omega) | omega) (by first | exact Nat.le_of_ble_eq_true rfl | (dsimp only; omega) | omega) d_V_expire_29
  · skip
    refine lv_aload_n hx hb d_V_expire_7 rfl (lv_at hl 0 rfl) ?_
    refine t_call (t_invV (As := []) (rest := []) hx hb hown (hts _ w_206) (hts _ w_208) (hts _ s_V_isFull) (hts _ w_209) ⟨by decide, by decide⟩ (t_recv (q0 := 0) hC rfl rfl) rfl d_V_expire_8) (c_V_isFull ⟨hLR, hvL, hnd, h40⟩) zz_c tb_good hts w_1 hC (hl.1.trans hml.symm) ⟨by first | exact Nat.le_of_ble_eq_true rfl | (dsimp only; omega) | omega, by first | exact Nat.le_of_ble_eq_true rfl | (dsimp only; omega) | omega, by first | exact Nat.le_of_ble_eq_true rfl | (dsimp only; omega) | omega, by first | exact Nat.le_of_ble_eq_true rfl | (dsimp only; omega) | omega⟩ (Nat.le_of_ble_eq_true rfl) (fun E q ce w1 H1 l1 hp => hp.elim) (fun v w1 H locs hp hC => ?_)
    obtain ⟨rfl, hwe9⟩ := hp
    rw [hwe9] at hC
    have hC : tC D cls (ty0 ca) A (zz e0 A) s (wC K ca RL LP fv FR day (nI ev9) mo (nI vs.length) ea (nI w9) ch ring (eo ++ rest)) H locs := hC
    refine W.eq (g2 := F0 m 11 ls [.int (bI (40 ≤ vs.length))]) rfl ?_
    refine lv_if_eq (tgt := 30) hx hb d_V_expire_11 (by decide) (fun c11 => ?_) (fun c11 => ?_)
    · skip
      refine lv_aload_n hx hb d_V_expire_30 rfl (lv_at hl 1 rfl) ?_
      refine t_getP hx hb hts inN hown hC ha rfl 6 (by decide) (hts _ w_249) (fun _ h => h) d_V_expire_31 ?_
      refine lv_if_eq (tgt := 64) hx hb d_V_expire_34 (by decide) (fun c34 => ?_) (fun c34 => ?_)
      · exact absurd c34 c4
      · skip
        have hroom9 : vs.length < 40 := Nat.not_le.mp (bI_ne.mp c11)
        have hpu : 1 ≤ pu := hu c4 hroom9
        refine lv_aload_n hx hb d_V_expire_37 rfl (lv_at hl 0 rfl) ?_
        refine t_new (ci := 3) (fs := (List.range 13).map (fun j => Value.int (rw0 j))) hx hb hts inN TN tyN hown (hts _ w_230) (hts _ w_231) (hts _ w_13) hC rfl nN_fs (by first | exact Nat.le_of_ble_eq_true rfl | (dsimp only; omega) | omega) (by first | exact Nat.le_of_ble_eq_true rfl | (dsimp only; omega) | omega) d_V_expire_38 (fun q H hC => ?_)
        have hq0 : q ∉ LP := t_freshL hC
        have hq : q ∈ LP ++ [q] := List.mem_append_right _ (List.mem_singleton.mpr rfl)
        have hC := t_join (ci := 3) (N := 13) (g := rw0) hC
        have haq : a ≠ q := fun h => hq0 (h ▸ ha)
        have ha : a ∈ LP ++ [q] := List.mem_append_left _ ha
        have hC : tC D cls (ty0 ca) A (zz e0 A) s (wC K ca RL (LP ++ [q]) (va_up fv q rw0) FR day (nI ev9) mo (nI vs.length) ea (nI w9) ch ring (eo ++ rest)) H locs := hC
        refine lv_dup hx hb d_V_expire_41 rfl ?_
        refine lv_aload_n hx hb d_V_expire_42 rfl (lv_at hl 0 rfl) ?_
        refine t_get (v := .int (nI ev9)) hx hb hts inV hown hC 0 rfl rfl 4 (by decide) (hts _ w_101) (fun _ h => h) rfl d_V_expire_43 ?_
        refine lv_aload_n hx hb d_V_expire_46 rfl (lv_at hl 1 rfl) ?_
        refine t_getP hx hb hts inN hown hC ha rfl 1 (by decide) (hts _ w_239) (fun _ h => h) d_V_expire_47 ?_
        have hkq : va_up fv q rw0 a 1 = fv a 1 := by simp only [va_up]; rw [if_neg haq]
        rw [hkq]
        refine lv_aload_n hx hb d_V_expire_50 rfl (lv_at hl 0 rfl) ?_
        refine t_get (v := .int day) hx hb hts inV hown hC 0 rfl rfl 3 (by decide) (hts _ w_100) (fun _ h => h) rfl d_V_expire_51 ?_
        refine t_call (t_invI (As := [.int (nI ev9), .int (fv a 1), .int day]) (rest := [.ref q, .ref (K 0)]) hx hb hown rfl (hts _ w_232) (hts _ w_233) (hts _ w_234) ⟨by decide, by decide⟩ rfl d_V_expire_54) (c_N_init zz_c hq) zz_c tb_good hts w_13 hC (hl.1.trans hml.symm) ⟨by first | exact Nat.le_of_ble_eq_true rfl | (dsimp only; omega) | omega, by first | exact Nat.le_of_ble_eq_true rfl | (dsimp only; omega) | omega, by first | exact Nat.le_of_ble_eq_true rfl | (dsimp only; omega) | omega, by first | exact Nat.le_of_ble_eq_true rfl | (dsimp only; omega) | omega⟩ (Nat.le_of_ble_eq_true rfl) (fun E q ce w1 H1 l1 hp => hp.elim) (fun v w1 H locs hp hC => ?_)
        obtain ⟨rfl, rfl⟩ := hp
        have hC : tC D cls (ty0 ca) A (zz e0 A) s (wC K ca RL (LP ++ [q]) (va_up (va_up fv q rw0) q (upd (upd (upd (upd (upd ((va_up fv q rw0) q) 0 (nI ev9)) 1 (fv a 1)) 2 day) 5 (-1)) 6 1)) FR day (nI ev9) mo (nI vs.length) ea (nI w9) ch ring (eo ++ rest)) H locs := hC
        refine W.eq (g2 := F0 m 57 ls [.ref q, .ref (K 0)]) rfl ?_
        have hC : tC D cls (ty0 ca) A (zz e0 A) s (wC K ca RL (LP ++ [q]) (va_up fv q (mkMark (nI ev9) (fv a 1) day)) FR day (nI ev9) mo (nI vs.length) ea (nI w9) ch ring (eo ++ rest)) H locs := by simp only [up_twice, va_up_self] at hC; exact hC
        refine t_call (t_invV (As := [.ref q]) (rest := []) hx hb hown (hts _ w_293) (hts _ w_295) (hts _ s_V_add) (hts _ w_296) ⟨by decide, by decide⟩ (t_recv (q0 := 0) hC rfl rfl) rfl d_V_expire_57) (c_V_addN ⟨hLR, hvL, hnd, h40⟩ hw9 hq0 hroom9) zz_c tb_good hts w_1 hC (hl.1.trans hml.symm) ⟨by first | exact Nat.le_of_ble_eq_true rfl | (dsimp only; omega) | omega, by first | exact Nat.le_of_ble_eq_true rfl | (dsimp only; omega) | omega, by first | exact Nat.le_of_ble_eq_true rfl | (dsimp only; omega) | omega, by first | exact Nat.le_of_ble_eq_true rfl | (dsimp only; omega) | omega⟩ (Nat.le_of_ble_eq_true rfl) (fun E q ce w1 H1 l1 hp => hp.elim) (fun v w1 H locs hp hC => ?_)
        obtain ⟨rfl, hcq⟩ := hp
        have hcq9 := hcq
        obtain ⟨LP2, fv2, mo2, ea2, eo2, hI2, hrows2, hkeep2, hwe9⟩ := hcq
        rw [hwe9] at hC hcq9
        refine W.eq (g2 := F0 m 60 ls [.int ((mkMark (nI ev9) (fv a 1) day) 0)]) rfl ?_
        refine lv_pop hx hb d_V_expire_60 rfl ?_
        refine lv_goto (tgt := 69) hx hb d_V_expire_61 (by decide) ?_
        refine lv_iconst (v := 1) hx hb d_V_expire_69 (by decide) ?_
        exact t_zret hx hb hr hlk (Or.inr rfl) zz_c hC (Or.inr (Or.inl ⟨c4, hroom9, rfl, q, hcq9⟩)) (by first | exact Nat.le_of_ble_eq_true rfl | (dsimp only; omega) | omega) (by first | exact Nat.le_of_ble_eq_true rfl | (dsimp only; omega) | omega) d_V_expire_70
    · skip
      refine lv_goto (tgt := 28) hx hb d_V_expire_14 (by decide) ?_
      refine lv_iconst (v := 0) hx hb d_V_expire_28 (by decide) ?_
      exact t_zret hx hb hr hlk (Or.inl rfl) zz_c hC (Or.inl ⟨c4, Nat.le_antisymm h40 (Classical.not_not.mp (fun q => c11 (bI_ne.mpr q))), rfl, rfl⟩) (by first | exact Nat.le_of_ble_eq_true rfl | (dsimp only; omega) | omega) (by first | exact Nat.le_of_ble_eq_true rfl | (dsimp only; omega) | omega) d_V_expire_29
