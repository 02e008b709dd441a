/-! The vault: going through the rules. Laid by program (wip/whole/p23.py) -/
theorem cQ_weak {e0 K : Nat → Nat} {ca : Nat → ClassId} {RL : List Nat} {FR : Nat → RW} {rest : va_W} {LP : List Nat} {fv fv' : Nat → RW} {day ever : Int32} {L : LG} {rows : List RW} {vs : List Nat} {w : va_W} (h : cQ e0 K ca RL FR rest LP fv day ever L rows vs w) : cQ e0 K ca RL FR rest [] fv' day ever L rows vs w := by
  obtain ⟨LP2, fv2, mo2, ea2, eo2, h1, h2, h3, h4⟩ := h
  exact ⟨LP2, fv2, mo2, ea2, eo2, h1, h2, fun b hb => absurd hb List.not_mem_nil, h4⟩
theorem drop_at {RL : List Nat} {FR : Nat → RW} {i u : Nat} (h : RL[i]? = some u) : (RL.map FR).drop i = FR u :: (RL.map FR).drop (i + 1) := by
  obtain ⟨hl, he⟩ := List.getElem?_eq_some_iff.mp h
  rw [List.drop_eq_getElem_cons (by rw [List.length_map]; exact hl), List.getElem_map, he]
theorem pr_not {day : Int32} {i : Nat} {R : RW} {Rs : List RW} {S : PS} {T : PS × Bool} {r : RW} (h : p_rules day i (R :: Rs) S = T) (hr : rw_at S.1 i = r) (hd : ¬ p_due R r day) : p_rules day i Rs S = T := by
  subst hr
  rw [← h]
  conv => rhs; unfold p_rules
  rw [if_neg hd]
theorem pr_cool {day : Int32} {i : Nat} {R : RW} {Rs : List RW} {S : PS} {T : PS × Bool} {r : RW} (h : p_rules day i (R :: Rs) S = T) (hr : rw_at S.1 i = r) (hd : p_due R r day) (h4 : ¬ R 3 = 4) : p_rules day i Rs (p_cool day i (R 3) S) = T := by
  subst hr
  rw [← h]
  conv => rhs; unfold p_rules
  rw [if_pos hd, if_neg h4]
theorem pr_grd {day : Int32} {i : Nat} {R : RW} {Rs : List RW} {S : PS} {T : PS × Bool} {r : RW} (h : p_rules day i (R :: Rs) S = T) (hr : rw_at S.1 i = r) (hd : p_due R r day) (h4 : R 3 = 4) (h6 : r 6 = 0) (hg : p_grd r day) : p_rules day i Rs S = T := by
  subst hr
  rw [← h]
  conv => rhs; unfold p_rules
  rw [if_pos hd, if_pos h4, if_pos h6, if_pos hg]
theorem pr_take {day : Int32} {i : Nat} {R : RW} {Rs : List RW} {S : PS} {T : PS × Bool} {r : RW} (h : p_rules day i (R :: Rs) S = T) (hr : rw_at S.1 i = r) (hd : p_due R r day) (h4 : R 3 = 4) (h6 : r 6 = 0) (hg : ¬ p_grd r day) : T = (p_take day i S, true) := by
  subst hr
  rw [← h]
  unfold p_rules
  rw [if_pos hd, if_pos h4, if_pos h6, if_neg hg]
theorem pr_full {day : Int32} {i : Nat} {R : RW} {Rs : List RW} {S : PS} {T : PS × Bool} {r : RW} (h : p_rules day i (R :: Rs) S = T) (hr : rw_at S.1 i = r) (hd : p_due R r day) (h4 : R 3 = 4) (h6 : ¬ r 6 = 0) (hg : 40 ≤ S.1.length) : p_rules day i Rs S = T := by
  subst hr
  rw [← h]
  conv => rhs; unfold p_rules
  rw [if_pos hd, if_pos h4, if_neg h6, if_pos hg]
theorem pr_mark {day : Int32} {i : Nat} {R : RW} {Rs : List RW} {S : PS} {T : PS × Bool} {r : RW} (h : p_rules day i (R :: Rs) S = T) (hr : rw_at S.1 i = r) (hd : p_due R r day) (h4 : R 3 = 4) (h6 : ¬ r 6 = 0) (hg : S.1.length < 40) : T = (p_mark day (r 1) S, false) := by
  subst hr
  rw [← h]
  unfold p_rules
  rw [if_pos hd, if_pos h4, if_neg h6, if_neg (Nat.not_le.mpr hg)]

theorem cool_sum {K : Nat → Nat} {ca : Nat → ClassId} {RL LP : List Nat} {fv FR : Nat → RW} {day mo : Int32} {ea : Nat} {ch : Int64} {ring : Nat → Int32} {rest : va_W} {vs : List Nat} {eo : va_W} {w9 ev9 i0 a : Nat} {t : Int32} {w1 : va_W} (hnd : vs.Nodup) (hi0 : vs[i0]? = some a)
    (hp : (fv a 5 < t ∧ w1 = wC K ca RL LP (va_up fv a (upd (fv a) 5 t)) FR day (nI ev9) mo (nI vs.length) ea (nI (w9 + 1)) ((lg_wr (ring, w9, ch) day 4 (fv a 0) t).2.2) ((lg_wr (ring, w9, ch) day 4 (fv a 0) t).1) (eo ++ rest)) ∨ (¬ fv a 5 < t ∧ w1 = wC K ca RL LP fv FR day (nI ev9) mo (nI vs.length) ea (nI w9) ch ring (eo ++ rest))) :
    ∃ (fv2 : Nat → RW) (w2 : Nat) (ring2 : Nat → Int32) (ch2 : Int64), (vs.map fv2, (ring2, w2, ch2), ev9) = p_cool day i0 t (vs.map fv, (ring, w9, ch), ev9) ∧ w2 ≤ w9 + 1 ∧ w1 = wC K ca RL LP fv2 FR day (nI ev9) mo (nI vs.length) ea (nI w2) ch2 ring2 (eo ++ rest) := by
  have hr : rw_at (vs.map fv) i0 = fv a := rw_at_map hi0
  unfold p_cool
  show ∃ (fv2 : Nat → RW) (w2 : Nat) (ring2 : Nat → Int32) (ch2 : Int64), _ = (if rw_at (vs.map fv) i0 5 < t then ((vs.map fv).set i0 (upd (rw_at (vs.map fv) i0) 5 t), lg_wr (ring, w9, ch) day 4 (rw_at (vs.map fv) i0 0) t, ev9) else (vs.map fv, (ring, w9, ch), ev9)) ∧ _ ∧ _
  rw [hr]
  rcases hp with ⟨h1, h2⟩ | ⟨h1, h2⟩
  · rw [if_pos h1]
    exact ⟨va_up fv a (upd (fv a) 5 t), w9 + 1, _, _, by rw [map_up hnd hi0]; rfl, Nat.le_refl _, h2⟩
  · rw [if_neg h1]
    exact ⟨fv, w9, ring, ch, rfl, Nat.le_succ _, h2⟩

set_option maxRecDepth 100000 in
set_option maxHeartbeats 4000000 in
theorem c_V_goThroughRules {l : Launch} {D : va_G} {A : Nat → Prop} {e0 : Nat → Nat} {K : Nat → Nat} {ca : Nat → ClassId} {RL LP : List Nat} {fv FR : Nat → RW} {day mo : Int32} {ea : Nat} {ch : Int64} {ring : Nat → Int32} {rest : va_W} {vs : List Nat} {eo : va_W} (hI : cI e0 ca vs LP ea eo) {w9 : Nat} (hw9 : w9 < 2 ^ 31) {i0 a ev9 pu : Nat} (hi0 : vs[i0]? = some a) (hRL : RL.length = 6) {T : PS × Bool} (hT : p_rules day i0 (RL.map FR) (vs.map fv, (ring, w9, ch), ev9) = T) (hu : T.1.2.2 ≤ ev9 + pu) (hw6 : w9 + 6 < 2 ^ 31) : tM l y_V_goThroughRules tb ({ frames := 9, cells := 2 * pu, slots := 73 * pu, locals := 214 }) D cls (ty0 ca) A (zz e0 A) [.ref (K 0), .ref a] (wC K ca RL LP fv FR day (nI ev9) mo (nI vs.length) ea (nI w9) ch ring (eo ++ rest)) (fun v w2 => v = none ∧ ∃ vs2, cQ e0 K ca RL FR rest [] (fun _ => rw0) day (nI T.1.2.2) T.1.2.1 T.1.1 vs2 w2 ∧ ((T.2 = true ∧ vs2 = vs.eraseIdx i0) ∨ (T.2 = false ∧ (vs2 = vs ∨ ∃ q, vs2 = vs ++ [q])))) (xN) := by
  refine t_ofW (by decide) w_535 (Nat.le_of_ble_eq_true rfl) ?_
  intro p e s m below meth c ls hx hb hr hts hown hlk hnm hml hex hl hC
  have hown : s.vm.findClass "RetentionVault" = some m.cls := hown
  have hl : lv_has ls 4 [(0, .ref (K 0)), (1, .ref a)] := hl
  obtain ⟨hLR, hvL, hnd, h40⟩ := hI
  have ha : a ∈ LP := hvL a (List.mem_of_getElem? hi0)
  refine lv_iconst (v := 0) hx hb d_V_goThroughRules_0 (by decide) ?_
  refine lv_istore_n (lv' := [(2, .int 0), (0, .ref (K 0)), (1, .ref a)]) hx hb d_V_goThroughRules_1 rfl hl (by decide) rfl (fun ls hl => ?_)
  have loop : ∀ (k i : Nat) (fv : Nat → RW) (w9 : Nat) (ring : Nat → Int32) (ch : Int64) (ls : Array Slot) (H : Heap) (locs : List Loc), 6 - i = k → i ≤ 6 → w9 + (6 - i) < 2 ^ 31 → p_rules day i0 ((RL.map FR).drop i) (vs.map fv, (ring, w9, ch), ev9) = T → lv_has ls 4 [(2, .int (nI i)), (0, .ref (K 0)), (1, .ref a)] → tC D cls (ty0 ca) A (zz e0 A) s (wC K ca RL LP fv FR day (nI ev9) mo (nI vs.length) ea (nI w9) ch ring (eo ++ rest)) H locs → tB p l e ({ frames := 9, cells := 2 * pu, slots := 73 * pu, locals := 214 }) s m [.ref (K 0), .ref a] below meth c D (ty0 ca) A (zz e0 A) (fun v w2 => v = none ∧ ∃ vs2, cQ e0 K ca RL FR rest [] (fun _ => rw0) day (nI T.1.2.2) T.1.2.1 T.1.1 vs2 w2 ∧ ((T.2 = true ∧ vs2 = vs.eraseIdx i0) ∨ (T.2 = false ∧ (vs2 = vs ∨ ∃ q, vs2 = vs ++ [q])))) (xN) H locs 0 0 (F0 m 2 ls []) := by
    intro k
    induction k using Nat.strongRecOn with
    | ind k ih =>
      intro i fv w9 ring ch ls H locs hk hle hw6 hP hl hC
      have hw9 : w9 < 2 ^ 31 := by omega
      have hrow : rw_at (vs.map fv) i0 = fv a := rw_at_map hi0
      refine lv_iload_n hx hb d_V_goThroughRules_2 rfl (lv_at hl 0 rfl) ?_
      refine lv_aload_n hx hb d_V_goThroughRules_3 rfl (lv_at hl 1 rfl) ?_
      refine t_get (v := .ref (K 2)) hx hb hts inV hown hC 0 rfl rfl 1 (by decide) (hts _ w_98) (fun _ h => h) rfl d_V_goThroughRules_4 ?_
      refine t_alen (v := nI 6) hx hb hC 2 4 rfl rfl rfl d_V_goThroughRules_7 ?_
      refine lv_icmp_ge (tgt := 68) hx hb d_V_goThroughRules_8 (by decide) (fun c8 => ?_) (fun c8 => ?_)
      · skip
        have hil : i = 6 := Nat.le_antisymm hle ((nI_leI (by omega) (by omega)).mp c8)
        have hTe : T = ((vs.map fv, (ring, w9, ch), ev9), false) := by rw [← hP, List.drop_eq_nil_of_le (by rw [List.length_map]; omega)]; rfl
        exact t_vret hx hb hr hlk zz_c hC (⟨rfl, vs, ⟨LP, fv, mo, ea, eo, ⟨hLR, hvL, hnd, h40⟩, by rw [hTe], fun b hb => absurd hb List.not_mem_nil, by rw [hTe]⟩, Or.inr ⟨by rw [hTe], Or.inl rfl⟩⟩) (by first | exact Nat.le_of_ble_eq_true rfl | (dsimp only; omega) | omega) (by first | exact Nat.le_of_ble_eq_true rfl | (dsimp only; omega) | omega) d_V_goThroughRules_68
      · skip
        have hil : i < 6 := Nat.not_le.mp (fun h => c8 ((nI_leI (by omega) (by omega)).mpr h))
        obtain ⟨u, hru0⟩ : ∃ u, RL[i]? = some u := ⟨RL[i], List.getElem?_eq_getElem (by omega)⟩
        have hru : RL[(nI i).toNatClampNeg]? = some u := by rw [nI_clamp (by omega)]; exact hru0
        have hu9 : u ∈ RL := List.mem_of_getElem? hru0
        have hin : vp_in (nI i) 6 := vp_in_nI hil (by decide)
        rw [drop_at hru0] at hP
        refine lv_aload_n hx hb d_V_goThroughRules_11 rfl (lv_at hl 1 rfl) ?_
        refine t_get (v := .ref (K 2)) hx hb hts inV hown hC 0 rfl rfl 1 (by decide) (hts _ w_98) (fun _ h => h) rfl d_V_goThroughRules_12 ?_
        refine lv_iload_n hx hb d_V_goThroughRules_15 rfl (lv_at hl 0 rfl) ?_
        refine t_aldq (C := "RetentionVault$Rule") hx hb hC 2 4 rfl rfl (hin) d_V_goThroughRules_16 ?_
        refine W.eq (g2 := F0 m 17 ls [.ref u]) (by rw [hru]; rfl) ?_
        refine lv_astore_n (lv' := [(3, .ref u), (2, .int (nI i)), (0, .ref (K 0)), (1, .ref a)]) hx hb d_V_goThroughRules_17 rfl hl (by decide) rfl (fun ls hl => ?_)
        refine lv_aload_n hx hb d_V_goThroughRules_18 rfl (lv_at hl 0 rfl) ?_
        refine lv_aload_n hx hb d_V_goThroughRules_19 rfl (lv_at hl 3 rfl) ?_
        refine lv_aload_n hx hb d_V_goThroughRules_20 rfl (lv_at hl 2 rfl) ?_
        refine t_get (v := .int day) hx hb hts inV hown hC 0 rfl rfl 3 (by decide) (hts _ w_100) (fun _ h => h) rfl d_V_goThroughRules_21 ?_
        refine t_call (t_invV (As := [.ref a, .int day]) (rest := []) hx hb hown (hts _ w_536) (hts _ w_537) (hts _ w_538) (hts _ w_539) ⟨by decide, by decide⟩ (t_recvP (wC_R hC) hu9 rfl rfl) rfl d_V_goThroughRules_24) (c_U_isDue hu9 ha) zz_c tb_good hts w_5 hC (hl.1.trans hml.symm) ⟨by first | exact Nat.le_of_ble_eq_true rfl | (dsimp only; omega) | omega, by first | exact Nat.le_of_ble_eq_true rfl | (dsimp only; omega) | omega, by first | exact Nat.le_of_ble_eq_true rfl | (dsimp only; omega) | omega, by first | exact Nat.le_of_ble_eq_true rfl | (dsimp only; omega) | omega⟩ (Nat.le_of_ble_eq_true rfl) (fun E q ce w1 H1 l1 hp => hp.elim) (fun v w1 H locs hp hC => ?_)
        obtain ⟨rfl, hwe9⟩ := hp
        rw [hwe9] at hC
        have hC : tC D cls (ty0 ca) A (zz e0 A) s (wC K ca RL LP fv FR day (nI ev9) mo (nI vs.length) ea (nI w9) ch ring (eo ++ rest)) H locs := hC
        refine W.eq (g2 := F0 m 27 ls [.int (bI (FR u 3 ≠ 0 ∧ (FR u 0 = -1 ∨ FR u 0 = fv a 4) ∧ FR u 1 = fv a 6 ∧ ¬ day < (if fv a 6 = 0 then fv a 7 else fv a 2) + FR u 2))]) rfl ?_
        refine lv_if_ne (tgt := 33) hx hb d_V_goThroughRules_27 (by decide) (fun c27 => ?_) (fun c27 => ?_)
        · skip
          refine lv_aload_n hx hb d_V_goThroughRules_33 rfl (lv_at hl 0 rfl) ?_
          refine t_getP hx hb hts inU hown (wC_R hC) hu9 rfl 3 (by decide) (hts _ w_67) (fun _ h => h) d_V_goThroughRules_34 ?_
          refine lv_iconst (v := 4) hx hb d_V_goThroughRules_37 (by decide) ?_
          refine lv_icmp_eq (tgt := 53) hx hb d_V_goThroughRules_38 (by decide) (fun c38 => ?_) (fun c38 => ?_)
          · skip
            by_cases hcf : fv a 6 ≠ 0 ∧ vs.length < 40
            · have hpu1 : 1 ≤ pu := by
                have h9 := pr_mark hP hrow (Classical.not_not.mp (fun q => c27 (bI_ne.mpr q))) c38 hcf.1 (by rw [List.length_map]; exact hcf.2)
                rw [h9] at hu
                have h8 : ev9 + 1 ≤ ev9 + pu := hu
                omega
              refine lv_aload_n hx hb d_V_goThroughRules_53 rfl (lv_at hl 2 rfl) ?_
              refine lv_aload_n hx hb d_V_goThroughRules_54 rfl (lv_at hl 3 rfl) ?_
              refine t_call (t_invV (As := [.ref a]) (rest := []) hx hb hown (hts _ w_549) (hts _ w_551) (hts _ s_V_expire) (hts _ w_552) ⟨by decide, by decide⟩ (t_recv (q0 := 0) hC rfl rfl) rfl d_V_goThroughRules_55) (c_V_expire ⟨hLR, hvL, hnd, h40⟩ hw9 (pu := pu) hi0 (fun _ _ => hpu1)) zz_c tb_good hts w_1 hC (hl.1.trans hml.symm) ⟨by first | exact Nat.le_of_ble_eq_true rfl | (dsimp only; omega) | omega, by first | exact Nat.le_of_ble_eq_true rfl | (dsimp only; omega) | omega, by first | exact Nat.le_of_ble_eq_true rfl | (dsimp only; omega) | omega, by first | exact Nat.le_of_ble_eq_true rfl | (dsimp only; omega) | omega⟩ (Nat.le_of_ble_eq_true rfl) (fun E q ce w1 H1 l1 hp => hp.elim) (fun v w1 H locs hp hC => ?_)
              rcases hp with ⟨h6, h9, rfl, hwe9⟩ | ⟨h6, h9, rfl, q, hcq⟩ | ⟨h6, h9, rfl, hwe9⟩ | ⟨h6, h9, rfl, hcq⟩
              · skip
                exact absurd hcf.2 (by omega)
              · skip
                have hTe := pr_mark hP hrow (Classical.not_not.mp (fun q => c27 (bI_ne.mpr q))) c38 h6 (by rw [List.length_map]; exact h9)
                have hcq9 := hcq
                obtain ⟨LP2, fv2, mo2, ea2, eo2, hI2, hrows2, hkeep2, hwe9⟩ := hcq
                rw [hwe9] at hC hcq9
                refine W.eq (g2 := F0 m 58 ls [.int 1]) rfl ?_
                refine lv_if_eq (tgt := 62) hx hb d_V_goThroughRules_58 (by decide) (fun c58 => ?_) (fun c58 => ?_)
                · exact absurd c58 (by decide)
                · skip
                  exact t_vret hx hb hr hlk zz_c hC (⟨rfl, vs ++ [q], by rw [hTe]; have h9 := cQ_weak (fv' := fun _ => rw0) hcq9; rw [nI_1] at h9 ⊢; exact h9, Or.inr ⟨by rw [hTe], Or.inr ⟨q, rfl⟩⟩⟩) (by first | exact Nat.le_of_ble_eq_true rfl | (dsimp only; omega) | omega) (by first | exact Nat.le_of_ble_eq_true rfl | (dsimp only; omega) | omega) d_V_goThroughRules_61
              · skip
                exact absurd h6 hcf.1
              · skip
                exact absurd h6 hcf.1
            · skip
              refine lv_aload_n hx hb d_V_goThroughRules_53 rfl (lv_at hl 2 rfl) ?_
              refine lv_aload_n hx hb d_V_goThroughRules_54 rfl (lv_at hl 3 rfl) ?_
              refine t_call (t_invV (As := [.ref a]) (rest := []) hx hb hown (hts _ w_549) (hts _ w_551) (hts _ s_V_expire) (hts _ w_552) ⟨by decide, by decide⟩ (t_recv (q0 := 0) hC rfl rfl) rfl d_V_goThroughRules_55) (c_V_expire ⟨hLR, hvL, hnd, h40⟩ hw9 (pu := 0) hi0 (fun h1 h2 => absurd ⟨h1, h2⟩ hcf)) zz_c tb_good hts w_1 hC (hl.1.trans hml.symm) ⟨by first | exact Nat.le_of_ble_eq_true rfl | (dsimp only; omega) | omega, by first | exact Nat.le_of_ble_eq_true rfl | (dsimp only; omega) | omega, by first | exact Nat.le_of_ble_eq_true rfl | (dsimp only; omega) | omega, by first | exact Nat.le_of_ble_eq_true rfl | (dsimp only; omega) | omega⟩ (Nat.le_of_ble_eq_true rfl) (fun E q ce w1 H1 l1 hp => hp.elim) (fun v w1 H locs hp hC => ?_)
              rcases hp with ⟨h6, h9, rfl, hwe9⟩ | ⟨h6, h9, rfl, q, hcq⟩ | ⟨h6, h9, rfl, hwe9⟩ | ⟨h6, h9, rfl, hcq⟩
              · skip
                rw [hwe9] at hC
                have hP := pr_full hP hrow (Classical.not_not.mp (fun q => c27 (bI_ne.mpr q))) c38 h6 (by rw [List.length_map]; omega)
                have hC : tC D cls (ty0 ca) A (zz e0 A) s (wC K ca RL LP fv FR day (nI ev9) mo (nI vs.length) ea (nI w9) ch ring (eo ++ rest)) H locs := hC
                refine t_more (c2 := 0) (s2 := 0) (by first | exact Nat.le_of_ble_eq_true rfl | (dsimp only; omega)) (by first | exact Nat.le_of_ble_eq_true rfl | (dsimp only; omega)) ?_
                refine W.eq (g2 := F0 m 58 ls [.int 0]) rfl ?_
                refine lv_if_eq (tgt := 62) hx hb d_V_goThroughRules_58 (by decide) (fun c58 => ?_) (fun c58 => ?_)
                · skip
                  refine lv_iinc (k := 1) (v := nI (i + 1)) (lv' := [(2, .int (nI (i + 1))), (3, .ref u), (0, .ref (K 0)), (1, .ref a)]) hx hb d_V_goThroughRules_62 hl rfl (nI_1 i) (by decide) rfl (fun ls hl => ?_)
                  refine lv_goto (tgt := 2) hx hb d_V_goThroughRules_65 (by decide) ?_
                  exact ih (6 - (i + 1)) (by omega) (i + 1) fv w9 ring ch ls H locs rfl (by omega) (by omega) hP (lv_sub hl [0, 2, 3] rfl) hC
                · exact absurd rfl c58
              · skip
                exact absurd ⟨h6, h9⟩ hcf
              · skip
                rw [hwe9] at hC
                have hP := pr_grd hP hrow (Classical.not_not.mp (fun q => c27 (bI_ne.mpr q))) c38 h6 h9
                have hC : tC D cls (ty0 ca) A (zz e0 A) s (wC K ca RL LP fv FR day (nI ev9) mo (nI vs.length) ea (nI w9) ch ring (eo ++ rest)) H locs := hC
                refine t_more (c2 := 0) (s2 := 0) (by first | exact Nat.le_of_ble_eq_true rfl | (dsimp only; omega)) (by first | exact Nat.le_of_ble_eq_true rfl | (dsimp only; omega)) ?_
                refine W.eq (g2 := F0 m 58 ls [.int 0]) rfl ?_
                refine lv_if_eq (tgt := 62) hx hb d_V_goThroughRules_58 (by decide) (fun c58 => ?_) (fun c58 => ?_)
                · skip
                  refine lv_iinc (k := 1) (v := nI (i + 1)) (lv' := [(2, .int (nI (i + 1))), (3, .ref u), (0, .ref (K 0)), (1, .ref a)]) hx hb d_V_goThroughRules_62 hl rfl (nI_1 i) (by decide) rfl (fun ls hl => ?_)
                  refine lv_goto (tgt := 2) hx hb d_V_goThroughRules_65 (by decide) ?_
                  exact ih (6 - (i + 1)) (by omega) (i + 1) fv w9 ring ch ls H locs rfl (by omega) (by omega) hP (lv_sub hl [0, 2, 3] rfl) hC
                · exact absurd rfl c58
              · skip
                have hTe := pr_take hP hrow (Classical.not_not.mp (fun q => c27 (bI_ne.mpr q))) c38 h6 h9
                have hcq9 := hcq
                obtain ⟨LP2, fv2, mo2, ea2, eo2, hI2, hrows2, hkeep2, hwe9⟩ := hcq
                rw [hwe9] at hC hcq9
                refine W.eq (g2 := F0 m 58 ls [.int 1]) rfl ?_
                refine lv_if_eq (tgt := 62) hx hb d_V_goThroughRules_58 (by decide) (fun c58 => ?_) (fun c58 => ?_)
                · exact absurd c58 (by decide)
                · skip
                  exact t_vret hx hb hr hlk zz_c hC (⟨rfl, vs.eraseIdx i0, by rw [hTe]; have h9 := cQ_weak (fv' := fun _ => rw0) hcq9; unfold p_take; rw [show rw_at (vs.map fv, (ring, w9, ch), ev9).1 i0 = fv a from hrow]; exact h9, Or.inl ⟨by rw [hTe], rfl⟩⟩) (by first | exact Nat.le_of_ble_eq_true rfl | (dsimp only; omega) | omega) (by first | exact Nat.le_of_ble_eq_true rfl | (dsimp only; omega) | omega) d_V_goThroughRules_61
          · skip
            refine lv_aload_n hx hb d_V_goThroughRules_41 rfl (lv_at hl 2 rfl) ?_
            refine lv_aload_n hx hb d_V_goThroughRules_42 rfl (lv_at hl 3 rfl) ?_
            refine lv_aload_n hx hb d_V_goThroughRules_43 rfl (lv_at hl 0 rfl) ?_
            refine t_getP hx hb hts inU hown (wC_R hC) hu9 rfl 3 (by decide) (hts _ w_67) (fun _ h => h) d_V_goThroughRules_44 ?_
            refine t_call (t_invV (As := [.ref a, .int (FR u 3)]) (rest := []) hx hb hown (hts _ w_545) (hts _ w_547) (hts _ s_V_cool) (hts _ w_548) ⟨by decide, by decide⟩ (t_recv (q0 := 0) hC rfl rfl) rfl d_V_goThroughRules_47) (c_V_cool ⟨hLR, hvL, hnd, h40⟩ hw9 ha) zz_c tb_good hts w_1 hC (hl.1.trans hml.symm) ⟨by first | exact Nat.le_of_ble_eq_true rfl | (dsimp only; omega) | omega, by first | exact Nat.le_of_ble_eq_true rfl | (dsimp only; omega) | omega, by first | exact Nat.le_of_ble_eq_true rfl | (dsimp only; omega) | omega, by first | exact Nat.le_of_ble_eq_true rfl | (dsimp only; omega) | omega⟩ (Nat.le_of_ble_eq_true rfl) (fun E q ce w1 H1 l1 hp => hp.elim) (fun v w1 H locs hp hC => ?_)
            obtain ⟨rfl, hp⟩ := hp
            have hP := pr_cool hP hrow (Classical.not_not.mp (fun q => c27 (bI_ne.mpr q))) c38
            obtain ⟨fv, w9, ring, ch, hcs, hwl, hwe9⟩ := cool_sum (ev9 := ev9) hnd hi0 hp
            rw [← hcs] at hP
            rw [hwe9] at hC
            have hC : tC D cls (ty0 ca) A (zz e0 A) s (wC K ca RL LP fv FR day (nI ev9) mo (nI vs.length) ea (nI w9) ch ring (eo ++ rest)) H locs := hC
            refine W.eq (g2 := F0 m 50 ls []) rfl ?_
            refine lv_goto (tgt := 62) hx hb d_V_goThroughRules_50 (by decide) ?_
            refine lv_iinc (k := 1) (v := nI (i + 1)) (lv' := [(2, .int (nI (i + 1))), (3, .ref u), (0, .ref (K 0)), (1, .ref a)]) hx hb d_V_goThroughRules_62 hl rfl (nI_1 i) (by decide) rfl (fun ls hl => ?_)
            refine lv_goto (tgt := 2) hx hb d_V_goThroughRules_65 (by decide) ?_
            exact ih (6 - (i + 1)) (by omega) (i + 1) fv w9 ring ch ls H locs rfl (by omega) (by omega) hP (lv_sub hl [0, 2, 3] rfl) hC
        · skip
          have hP := pr_not hP hrow (bI_ne.mp c27)
          refine lv_goto (tgt := 62) hx hb d_V_goThroughRules_30 (by decide) ?_
          refine lv_iinc (k := 1) (v := nI (i + 1)) (lv' := [(2, .int (nI (i + 1))), (3, .ref u), (0, .ref (K 0)), (1, .ref a)]) hx hb d_V_goThroughRules_62 hl rfl (nI_1 i) (by decide) rfl (fun ls hl => ?_)
          refine lv_goto (tgt := 2) hx hb d_V_goThroughRules_65 (by decide) ?_
          exact ih (6 - (i + 1)) (by omega) (i + 1) fv w9 ring ch ls H locs rfl (by omega) (by omega) hP (lv_sub hl [0, 2, 3] rfl) hC
  exact loop _ 0 fv w9 ring ch ls _ _ rfl (by omega) (by omega) hT hl hC
