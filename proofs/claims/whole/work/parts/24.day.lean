/-! The vault: a day. Laid by program (wip/whole/p24.py) -/
theorem nI_m1 (n : Nat) : nI (n + 1) + (-1) = nI n := by
  rw [← nI_1, Int32.add_assoc]
  have e1 : (1 : Int32) + (-1) = 0 := by decide
  rw [e1, Int32.add_zero]
theorem pv_mark {Rs : List RW} {day : Int32} {lf i : Nat} {S T : PS} {r : RW} (h : p_vers Rs day (lf + 1) i S = T) (hr : rw_at S.1 i = r) (hm : r 5 = -1) : p_vers Rs day lf (i + 1) S = T := by
  subst hr
  rw [← h]
  conv => rhs; unfold p_vers
  rw [if_pos hm]
theorem pv_step {Rs : List RW} {day : Int32} {lf i : Nat} {S T S1 : PS} {g : Bool} {r : RW} (h : p_vers Rs day (lf + 1) i S = T) (hr : rw_at S.1 i = r) (hm : ¬ r 5 = -1) (h1 : p_rules day i Rs S = (S1, g)) : (g = true → p_vers Rs day lf i S1 = T) ∧ (g = false → p_vers Rs day lf (i + 1) S1 = T) := by
  subst hr
  unfold p_vers at h
  rw [if_neg hm, h1] at h
  constructor
  · intro hg; rw [if_pos hg] at h; exact h
  · intro hg; rw [if_neg (by rw [hg]; exact Bool.false_ne_true)] at h; exact h
theorem pv_ev {Rs : List RW} {day : Int32} {lf i : Nat} {T S1 : PS} {g : Bool} (h : (g = true → p_vers Rs day lf i S1 = T) ∧ (g = false → p_vers Rs day lf (i + 1) S1 = T)) : S1.2.2 ≤ T.2.2 := by
  cases g with
  | true => rw [← h.1 rfl]; exact p_vers_lg.2.2
  | false => rw [← h.2 rfl]; exact p_vers_lg.2.2
theorem gr_same {vs vs2 : List Nat} {i a lf : Nat} {g : Bool} (hnd : vs.Nodup) (hi : vs[i]? = some a) (hl : i + (lf + 1) ≤ vs.length) (h : (g = true ∧ vs2 = vs.eraseIdx i) ∨ (g = false ∧ (vs2 = vs ∨ ∃ q, vs2 = vs ++ [q]))) : (g = true ∧ a ∉ vs2 ∧ i + lf ≤ vs2.length) ∨ (g = false ∧ vs2[i]? = some a ∧ i + 1 + lf ≤ vs2.length) := by
  have hil := (List.getElem?_eq_some_iff.mp hi).1
  rcases h with ⟨hg, rfl⟩ | ⟨hg, rfl | ⟨q, rfl⟩⟩
  · refine Or.inl ⟨hg, erase_not hnd hi, ?_⟩
    rw [List.length_eraseIdx, if_pos hil]; omega
  · exact Or.inr ⟨hg, hi, by omega⟩
  · refine Or.inr ⟨hg, ?_, ?_⟩
    · rw [List.getElem?_append_left hil]; exact hi
    · rw [List.length_append]; omega
theorem pl_take {day : Int32} {lf i : Nat} {S T : PS} {r : RW} (h : p_lone day (lf + 1) i S = T) (hr : rw_at S.1 i = r) (hm : r 5 = -1) (ha : rw_alone S.1 i) : p_lone day lf i (p_take day i S) = T := by
  subst hr
  rw [← h]
  conv => rhs; unfold p_lone
  rw [if_pos ⟨hm, rw_aloneB_iff.mpr ha⟩]
theorem pl_next {day : Int32} {lf i : Nat} {S T : PS} {r : RW} (h : p_lone day (lf + 1) i S = T) (hr : rw_at S.1 i = r) (hm : ¬ (r 5 = -1 ∧ rw_alone S.1 i)) : p_lone day lf (i + 1) S = T := by
  subst hr
  rw [← h]
  conv => rhs; unfold p_lone
  rw [if_neg (fun q => hm ⟨q.1, rw_aloneB_iff.mp q.2⟩)]
theorem al_x {rows : List RW} {i : Nat} {v : Option Value} (h : (v = some (.int 1) ∧ rw_alone rows i) ∨ (v = some (.int 0) ∧ ¬ rw_alone rows i)) : ∃ x : Int32, v = some (.int x) ∧ ((x = 0 → ¬ rw_alone rows i) ∧ (¬ x = 0 → rw_alone rows i)) := by
  rcases h with ⟨h1, h2⟩ | ⟨h1, h2⟩
  · exact ⟨1, h1, fun h => absurd h (by decide), fun _ => h2⟩
  · exact ⟨0, h1, fun _ => h2, fun h => absurd rfl h⟩

set_option maxRecDepth 100000 in
set_option maxHeartbeats 4000000 in
theorem c_V_goThroughVersions {l : Launch} {D : va_G} {A : Nat → Prop} {e0 : Nat → Nat} {K : Nat → Nat} {ca : Nat → ClassId} {RL LP : List Nat} {fv FR : Nat → RW} {day mo : Int32} {ea : Nat} {ch : Int64} {ring : Nat → Int32} {rest : va_W} {vs : List Nat} {eo : va_W} (hI : cI e0 ca vs LP ea eo) {w9 : Nat} (hw9 : w9 < 2 ^ 31) {ev9 pu : Nat} (hRL : RL.length = 6) {T : PS} (hT : p_vers (RL.map FR) day vs.length 0 (vs.map fv, (ring, w9, ch), ev9) = T) (hu : T.2.2 ≤ ev9 + pu) (hw6 : w9 + 6 * vs.length < 2 ^ 31) : tM l y_V_goThroughVersions tb ({ frames := 10, cells := 2 * pu, slots := 73 * pu, locals := 237 }) D cls (ty0 ca) A (zz e0 A) [.ref (K 0)] (wC K ca RL LP fv FR day (nI ev9) mo (nI vs.length) ea (nI w9) ch ring (eo ++ rest)) (fun v w2 => v = none ∧ ∃ vs2, cQ e0 K ca RL FR rest [] (fun _ => rw0) day (nI T.2.2) T.2.1 T.1 vs2 w2) (xN) := by
  refine t_ofW (by decide) w_531 (Nat.le_of_ble_eq_true rfl) ?_
  intro p e s m below meth c ls hx hb hr hts hown hlk hnm hml hex hl hC
  have hown : s.vm.findClass "RetentionVault" = some m.cls := hown
  have hl : lv_has ls 4 [(0, .ref (K 0))] := hl
  obtain ⟨hLR, hvL, hnd, h40⟩ := hI
  obtain ⟨ev0, hev0⟩ : ∃ z, z = ev9 := ⟨_, rfl⟩
  rw [← hev0] at hu
  refine lv_iconst (v := 0) hx hb d_V_goThroughVersions_0 (by decide) ?_
  refine lv_istore_n (lv' := [(1, .int 0), (0, .ref (K 0))]) hx hb d_V_goThroughVersions_1 rfl hl (by decide) rfl (fun ls hl => ?_)
  refine lv_aload_n hx hb d_V_goThroughVersions_2 rfl (lv_at hl 1 rfl) ?_
  refine t_get (v := .ref (K 1)) hx hb hts inV hown hC 0 rfl rfl 0 (by decide) (hts _ w_97) (fun _ h => h) rfl d_V_goThroughVersions_3 ?_
  refine t_call (t_invV (As := []) (rest := []) hx hb hown (hts _ w_210) (hts _ w_211) (hts _ w_212) (hts _ w_213) ⟨by decide, by decide⟩ (t_recv (q0 := 1) hC rfl rfl) rfl d_V_goThroughVersions_6) c_A_size zz_c tb_good hts w_4 hC (hl.1.trans hml.symm) ⟨by first | exact Nat.le_of_ble_eq_true rfl | omega | (dsimp only; omega), by first | exact Nat.le_of_ble_eq_true rfl | omega | (dsimp only; omega), by first | exact Nat.le_of_ble_eq_true rfl | omega | (dsimp only; omega), by first | exact Nat.le_of_ble_eq_true rfl | omega | (dsimp only; omega)⟩ (Nat.le_of_ble_eq_true rfl) (fun E q ce w1 H1 l1 hp => hp.elim) (fun v w1 H locs hp hC => ?_)
  obtain ⟨rfl, hwe9⟩ := hp
  rw [hwe9] at hC
  have hC : tC D cls (ty0 ca) A (zz e0 A) s (wC K ca RL LP fv FR day (nI ev9) mo (nI vs.length) ea (nI w9) ch ring (eo ++ rest)) H locs := hC
  refine W.eq (g2 := F0 m 9 ls [.int (nI vs.length)]) rfl ?_
  refine lv_istore_n (lv' := [(2, .int (nI vs.length)), (1, .int 0), (0, .ref (K 0))]) hx hb d_V_goThroughVersions_9 rfl hl (by decide) rfl (fun ls hl => ?_)
  have loop : ∀ (lf i : Nat) (vs LP : List Nat) (fv : Nat → RW) (mo : Int32) (ea : Nat) (eo : va_W) (w9 : Nat) (ring : Nat → Int32) (ch : Int64) (ev9 : Nat) (ls : Array Slot) (H : Heap) (locs : List Loc), cI e0 ca vs LP ea eo → i + lf ≤ vs.length → w9 + 6 * lf < 2 ^ 31 → ev0 ≤ ev9 → p_vers (RL.map FR) day lf i (vs.map fv, (ring, w9, ch), ev9) = T → lv_has ls 4 [(2, .int (nI lf)), (1, .int (nI i)), (0, .ref (K 0))] → tC D cls (ty0 ca) A (zz e0 A) s (wC K ca RL LP fv FR day (nI ev9) mo (nI vs.length) ea (nI w9) ch ring (eo ++ rest)) H locs → tB p l e ({ frames := 10, cells := 2 * pu, slots := 73 * pu, locals := 237 }) s m [.ref (K 0)] below meth c D (ty0 ca) A (zz e0 A) (fun v w2 => v = none ∧ ∃ vs2, cQ e0 K ca RL FR rest [] (fun _ => rw0) day (nI T.2.2) T.2.1 T.1 vs2 w2) (xN) H locs (2 * (ev9 - ev0)) (73 * (ev9 - ev0)) (F0 m 10 ls []) := by
    intro lf
    induction lf with
    | zero =>
      intro i vs LP fv mo ea eo w9 ring ch ev9 ls H locs hI hle hw6 hev hPV hl hC
      obtain ⟨hLR, hvL, hnd, h40⟩ := hI
      have hevb : ev9 ≤ ev0 + pu := by have h9 := (p_vers_lg (Rs := RL.map FR) (day := day) (left := 0) (i := i) (S := (vs.map fv, (ring, w9, ch), ev9))).2.2; rw [hPV] at h9; dsimp only at h9; omega
      have hTe : T = (vs.map fv, (ring, w9, ch), ev9) := hPV.symm
      refine lv_iload_n hx hb d_V_goThroughVersions_10 rfl (lv_at hl 0 rfl) ?_
      refine lv_if_le (tgt := 81) hx hb d_V_goThroughVersions_11 (by decide) (fun c11 => ?_) (fun c11 => ?_)
      · skip
        exact t_vret hx hb hr hlk zz_c hC (⟨rfl, vs, ⟨LP, fv, mo, ea, eo, ⟨hLR, hvL, hnd, h40⟩, by rw [hTe], fun b hb => absurd hb List.not_mem_nil, by rw [hTe]⟩⟩) (by first | exact Nat.le_of_ble_eq_true rfl | omega | (dsimp only; omega)) (by first | exact Nat.le_of_ble_eq_true rfl | omega | (dsimp only; omega)) d_V_goThroughVersions_81
      · exact absurd (by decide) c11
    | succ lf ih =>
      intro i vs LP fv mo ea eo w9 ring ch ev9 ls H locs hI hle hw6 hev hPV hl hC
      obtain ⟨hLR, hvL, hnd, h40⟩ := hI
      have hevb : ev9 ≤ ev0 + pu := by have h9 := (p_vers_lg (Rs := RL.map FR) (day := day) (left := lf + 1) (i := i) (S := (vs.map fv, (ring, w9, ch), ev9))).2.2; rw [hPV] at h9; dsimp only at h9; omega
      have hw9 : w9 < 2 ^ 31 := by omega
      refine lv_iload_n hx hb d_V_goThroughVersions_10 rfl (lv_at hl 0 rfl) ?_
      refine lv_if_le (tgt := 81) hx hb d_V_goThroughVersions_11 (by decide) (fun c11 => ?_) (fun c11 => ?_)
      · exact absurd c11 (nI_nle (by omega) (by omega))
      · skip
        refine lv_iload_n hx hb d_V_goThroughVersions_14 rfl (lv_at hl 1 rfl) ?_
        refine lv_aload_n hx hb d_V_goThroughVersions_15 rfl (lv_at hl 2 rfl) ?_
        refine t_get (v := .ref (K 1)) hx hb hts inV hown hC 0 rfl rfl 0 (by decide) (hts _ w_97) (fun _ h => h) rfl d_V_goThroughVersions_16 ?_
        refine t_call (t_invV (As := []) (rest := [.int (nI i)]) hx hb hown (hts _ w_210) (hts _ w_211) (hts _ w_212) (hts _ w_213) ⟨by decide, by decide⟩ (t_recv (q0 := 1) hC rfl rfl) rfl d_V_goThroughVersions_19) c_A_size zz_c tb_good hts w_4 hC (hl.1.trans hml.symm) ⟨by first | exact Nat.le_of_ble_eq_true rfl | omega | (dsimp only; omega), by first | exact Nat.le_of_ble_eq_true rfl | omega | (dsimp only; omega), by first | exact Nat.le_of_ble_eq_true rfl | omega | (dsimp only; omega), by first | exact Nat.le_of_ble_eq_true rfl | omega | (dsimp only; omega)⟩ (Nat.le_of_ble_eq_true rfl) (fun E q ce w1 H1 l1 hp => hp.elim) (fun v w1 H locs hp hC => ?_)
        obtain ⟨rfl, hwe9⟩ := hp
        rw [hwe9] at hC
        have hC : tC D cls (ty0 ca) A (zz e0 A) s (wC K ca RL LP fv FR day (nI ev9) mo (nI vs.length) ea (nI w9) ch ring (eo ++ rest)) H locs := hC
        refine W.eq (g2 := F0 m 22 ls [.int (nI vs.length), .int (nI i)]) rfl ?_
        refine lv_icmp_ge (tgt := 81) hx hb d_V_goThroughVersions_22 (by decide) (fun c22 => ?_) (fun c22 => ?_)
        · exact absurd ((nI_leI (by omega) (by omega)).mp c22) (by omega)
        · skip
          obtain ⟨a, hi⟩ : ∃ a, vs[i]? = some a := ⟨vs[i], List.getElem?_eq_getElem (by omega)⟩
          have ha : a ∈ LP := hvL a (List.mem_of_getElem? hi)
          have hrow : rw_at (vs.map fv) i = fv a := rw_at_map hi
          refine lv_aload_n hx hb d_V_goThroughVersions_25 rfl (lv_at hl 2 rfl) ?_
          refine t_get (v := .ref (K 1)) hx hb hts inV hown hC 0 rfl rfl 0 (by decide) (hts _ w_97) (fun _ h => h) rfl d_V_goThroughVersions_26 ?_
          refine lv_iload_n hx hb d_V_goThroughVersions_29 rfl (lv_at hl 1 rfl) ?_
          refine t_call (t_invV (As := [.int (nI i)]) (rest := []) hx hb hown (hts _ w_301) (hts _ w_302) (hts _ w_303) (hts _ w_304) ⟨by decide, by decide⟩ (t_recv (q0 := 1) hC rfl rfl) rfl d_V_goThroughVersions_30) (c_A_get hLR hi) zz_c tb_good hts w_4 hC (hl.1.trans hml.symm) ⟨by first | exact Nat.le_of_ble_eq_true rfl | omega | (dsimp only; omega), by first | exact Nat.le_of_ble_eq_true rfl | omega | (dsimp only; omega), by first | exact Nat.le_of_ble_eq_true rfl | omega | (dsimp only; omega), by first | exact Nat.le_of_ble_eq_true rfl | omega | (dsimp only; omega)⟩ (Nat.le_of_ble_eq_true rfl) (fun E q ce w1 H1 l1 hp => hp.elim) (fun v w1 H locs hp hC => ?_)
          obtain ⟨rfl, hwe9⟩ := hp
          rw [hwe9] at hC
          have hC : tC D cls (ty0 ca) A (zz e0 A) s (wC K ca RL LP fv FR day (nI ev9) mo (nI vs.length) ea (nI w9) ch ring (eo ++ rest)) H locs := hC
          refine W.eq (g2 := F0 m 33 ls [.ref a]) rfl ?_
          refine va_castY (C := "RetentionVault$Version") hx hb hown (hts _ w_230) (hC.2.2.2.2.2.2.2.2.2.1 ("RetentionVault$Version", "RetentionVault$Version") (by decide +kernel)) (t_recvP hC ha rfl rfl) d_V_goThroughVersions_33 ?_
          refine lv_astore_n (lv' := [(3, .ref a), (2, .int (nI (lf + 1))), (1, .int (nI i)), (0, .ref (K 0))]) hx hb d_V_goThroughVersions_36 rfl hl (by decide) rfl (fun ls hl => ?_)
          refine lv_aload_n hx hb d_V_goThroughVersions_37 rfl (lv_at hl 0 rfl) ?_
          refine t_call (t_invV (As := []) (rest := []) hx hb hown (hts _ w_372) (hts _ w_373) (hts _ w_374) (hts _ w_375) ⟨by decide, by decide⟩ (t_recvP hC ha rfl rfl) rfl d_V_goThroughVersions_38) (c_N_isMarker zz_c ha) zz_c tb_good hts w_13 hC (hl.1.trans hml.symm) ⟨by first | exact Nat.le_of_ble_eq_true rfl | omega | (dsimp only; omega), by first | exact Nat.le_of_ble_eq_true rfl | omega | (dsimp only; omega), by first | exact Nat.le_of_ble_eq_true rfl | omega | (dsimp only; omega), by first | exact Nat.le_of_ble_eq_true rfl | omega | (dsimp only; omega)⟩ (Nat.le_of_ble_eq_true rfl) (fun E q ce w1 H1 l1 hp => hp.elim) (fun v w1 H locs hp hC => ?_)
          obtain ⟨rfl, hwe9⟩ := hp
          rw [hwe9] at hC
          have hC : tC D cls (ty0 ca) A (zz e0 A) s (wC K ca RL LP fv FR day (nI ev9) mo (nI vs.length) ea (nI w9) ch ring (eo ++ rest)) H locs := hC
          refine W.eq (g2 := F0 m 41 ls [.int (bI (fv a 5 = -1))]) rfl ?_
          refine lv_if_ne (tgt := 49) hx hb d_V_goThroughVersions_41 (by decide) (fun c41 => ?_) (fun c41 => ?_)
          · skip
            refine lv_iload_n hx hb d_V_goThroughVersions_49 rfl (lv_at hl 2 rfl) ?_
            refine lv_aload_n hx hb d_V_goThroughVersions_50 rfl (lv_at hl 3 rfl) ?_
            refine t_get (v := .ref (K 1)) hx hb hts inV hown hC 0 rfl rfl 0 (by decide) (hts _ w_97) (fun _ h => h) rfl d_V_goThroughVersions_51 ?_
            refine t_call (t_invV (As := []) (rest := [.int (nI i)]) hx hb hown (hts _ w_210) (hts _ w_211) (hts _ w_212) (hts _ w_213) ⟨by decide, by decide⟩ (t_recv (q0 := 1) hC rfl rfl) rfl d_V_goThroughVersions_54) c_A_size zz_c tb_good hts w_4 hC (hl.1.trans hml.symm) ⟨by first | exact Nat.le_of_ble_eq_true rfl | omega | (dsimp only; omega), by first | exact Nat.le_of_ble_eq_true rfl | omega | (dsimp only; omega), by first | exact Nat.le_of_ble_eq_true rfl | omega | (dsimp only; omega), by first | exact Nat.le_of_ble_eq_true rfl | omega | (dsimp only; omega)⟩ (Nat.le_of_ble_eq_true rfl) (fun E q ce w1 H1 l1 hp => hp.elim) (fun v w1 H locs hp hC => ?_)
            obtain ⟨rfl, hwe9⟩ := hp
            rw [hwe9] at hC
            have hC : tC D cls (ty0 ca) A (zz e0 A) s (wC K ca RL LP fv FR day (nI ev9) mo (nI vs.length) ea (nI w9) ch ring (eo ++ rest)) H locs := hC
            refine W.eq (g2 := F0 m 57 ls [.int (nI vs.length), .int (nI i)]) rfl ?_
            refine lv_icmp_ge (tgt := 75) hx hb d_V_goThroughVersions_57 (by decide) (fun c57 => ?_) (fun c57 => ?_)
            · exact absurd ((nI_leI (by omega) (by omega)).mp c57) (by omega)
            · skip
              refine lv_aload_n hx hb d_V_goThroughVersions_60 rfl (lv_at hl 3 rfl) ?_
              refine t_get (v := .ref (K 1)) hx hb hts inV hown hC 0 rfl rfl 0 (by decide) (hts _ w_97) (fun _ h => h) rfl d_V_goThroughVersions_61 ?_
              refine lv_iload_n hx hb d_V_goThroughVersions_64 rfl (lv_at hl 2 rfl) ?_
              refine t_call (t_invV (As := [.int (nI i)]) (rest := []) hx hb hown (hts _ w_301) (hts _ w_302) (hts _ w_303) (hts _ w_304) ⟨by decide, by decide⟩ (t_recv (q0 := 1) hC rfl rfl) rfl d_V_goThroughVersions_65) (c_A_get hLR hi) zz_c tb_good hts w_4 hC (hl.1.trans hml.symm) ⟨by first | exact Nat.le_of_ble_eq_true rfl | omega | (dsimp only; omega), by first | exact Nat.le_of_ble_eq_true rfl | omega | (dsimp only; omega), by first | exact Nat.le_of_ble_eq_true rfl | omega | (dsimp only; omega), by first | exact Nat.le_of_ble_eq_true rfl | omega | (dsimp only; omega)⟩ (Nat.le_of_ble_eq_true rfl) (fun E q ce w1 H1 l1 hp => hp.elim) (fun v w1 H locs hp hC => ?_)
              obtain ⟨rfl, hwe9⟩ := hp
              rw [hwe9] at hC
              have hC : tC D cls (ty0 ca) A (zz e0 A) s (wC K ca RL LP fv FR day (nI ev9) mo (nI vs.length) ea (nI w9) ch ring (eo ++ rest)) H locs := hC
              refine W.eq (g2 := F0 m 68 ls [.ref a]) rfl ?_
              refine lv_aload_n hx hb d_V_goThroughVersions_68 rfl (lv_at hl 0 rfl) ?_
              refine lv_acmp_ne (rx := (some a)) (ry := (some a)) (tgt := 75) hx hb d_V_goThroughVersions_69 (by decide) (fun c69 => ?_) (fun c69 => ?_)
              · exact absurd rfl c69
              · skip
                refine lv_iinc (k := 2) (v := nI (i + 1)) (lv' := [(1, .int (nI (i + 1))), (3, .ref a), (2, .int (nI (lf + 1))), (0, .ref (K 0))]) hx hb d_V_goThroughVersions_72 hl rfl (nI_1 i) (by decide) rfl (fun ls hl => ?_)
                refine lv_iinc (k := 2) (v := nI lf) (lv' := [(2, .int (nI lf)), (1, .int (nI (i + 1))), (3, .ref a), (0, .ref (K 0))]) hx hb d_V_goThroughVersions_75 hl rfl (nI_m1 lf) (by decide) rfl (fun ls hl => ?_)
                refine lv_goto (tgt := 10) hx hb d_V_goThroughVersions_78 (by decide) ?_
                refine t_more (c2 := (2 * (ev9 - ev0))) (s2 := (73 * (ev9 - ev0))) (by first | exact Nat.le_of_ble_eq_true rfl | omega | (dsimp only; omega)) (by first | exact Nat.le_of_ble_eq_true rfl | omega | (dsimp only; omega)) ?_
                exact ih (i + 1) vs LP fv mo ea eo w9 ring ch ev9 ls H locs ⟨hLR, hvL, hnd, h40⟩ (by omega) (by omega) hev (pv_mark hPV hrow (Classical.not_not.mp (fun q => c41 (bI_ne.mpr q)))) (lv_sub hl [0, 1, 3] rfl) hC
          · skip
            have hno : ¬ fv a 5 = -1 := bI_ne.mp c41
            obtain ⟨⟨⟨rows1, ⟨ring1, wn1, ch1⟩, ev1⟩, g1⟩, hT1⟩ : ∃ z, p_rules day i (RL.map FR) (vs.map fv, (ring, w9, ch), ev9) = z := ⟨_, rfl⟩
            have hlg := p_rules_lg (day := day) (i := i) (Rs := RL.map FR) (S := (vs.map fv, (ring, w9, ch), ev9))
            rw [hT1, List.length_map, hRL] at hlg
            dsimp only at hlg
            have hPV := pv_step hPV hrow hno hT1
            have hevT := pv_ev hPV
            dsimp only at hevT
            refine lv_aload_n hx hb d_V_goThroughVersions_44 rfl (lv_at hl 3 rfl) ?_
            refine lv_aload_n hx hb d_V_goThroughVersions_45 rfl (lv_at hl 0 rfl) ?_
            refine t_call (t_invV (As := [.ref a]) (rest := []) hx hb hown (hts _ w_532) (hts _ w_534) (hts _ s_V_goThroughRules) (hts _ w_535) ⟨by decide, by decide⟩ (t_recv (q0 := 0) hC rfl rfl) rfl d_V_goThroughVersions_46) (c_V_goThroughRules ⟨hLR, hvL, hnd, h40⟩ hw9 (pu := ev1 - ev9) hi hRL hT1 (by dsimp only; omega) (by omega)) zz_c tb_good hts w_1 hC (hl.1.trans hml.symm) ⟨by first | exact Nat.le_of_ble_eq_true rfl | omega | (dsimp only; omega), by first | exact Nat.le_of_ble_eq_true rfl | omega | (dsimp only; omega), by first | exact Nat.le_of_ble_eq_true rfl | omega | (dsimp only; omega), by first | exact Nat.le_of_ble_eq_true rfl | omega | (dsimp only; omega)⟩ (Nat.le_of_ble_eq_true rfl) (fun E q ce w1 H1 l1 hp => hp.elim) (fun v w1 H locs hp hC => ?_)
            obtain ⟨rfl, vs2, ⟨LP2, fv2, mo2, ea2, eo2, ⟨hLR, hvL, hnd2, h40⟩, hrows2, -, hwe9⟩, hrel⟩ := hp
            rw [hwe9] at hC
            refine t_more (c2 := (2 * (ev1 - ev0))) (s2 := (73 * (ev1 - ev0))) (by first | exact Nat.le_of_ble_eq_true rfl | omega | (dsimp only; omega)) (by first | exact Nat.le_of_ble_eq_true rfl | omega | (dsimp only; omega)) ?_
            have hsame := gr_same hnd hi hle hrel
            have hnd := hnd2
            have hC : tC D cls (ty0 ca) A (zz e0 A) s (wC K ca RL LP2 fv2 FR day (nI ev1) mo2 (nI vs2.length) ea2 (nI wn1) ch1 ring1 (eo2 ++ rest)) H locs := hC
            refine W.eq (g2 := F0 m 49 ls []) rfl ?_
            refine lv_iload_n hx hb d_V_goThroughVersions_49 rfl (lv_at hl 2 rfl) ?_
            refine lv_aload_n hx hb d_V_goThroughVersions_50 rfl (lv_at hl 3 rfl) ?_
            refine t_get (v := .ref (K 1)) hx hb hts inV hown hC 0 rfl rfl 0 (by decide) (hts _ w_97) (fun _ h => h) rfl d_V_goThroughVersions_51 ?_
            refine t_call (t_invV (As := []) (rest := [.int (nI i)]) hx hb hown (hts _ w_210) (hts _ w_211) (hts _ w_212) (hts _ w_213) ⟨by decide, by decide⟩ (t_recv (q0 := 1) hC rfl rfl) rfl d_V_goThroughVersions_54) c_A_size zz_c tb_good hts w_4 hC (hl.1.trans hml.symm) ⟨by first | exact Nat.le_of_ble_eq_true rfl | omega | (dsimp only; omega), by first | exact Nat.le_of_ble_eq_true rfl | omega | (dsimp only; omega), by first | exact Nat.le_of_ble_eq_true rfl | omega | (dsimp only; omega), by first | exact Nat.le_of_ble_eq_true rfl | omega | (dsimp only; omega)⟩ (Nat.le_of_ble_eq_true rfl) (fun E q ce w1 H1 l1 hp => hp.elim) (fun v w1 H locs hp hC => ?_)
            obtain ⟨rfl, hwe9⟩ := hp
            rw [hwe9] at hC
            have hC : tC D cls (ty0 ca) A (zz e0 A) s (wC K ca RL LP2 fv2 FR day (nI ev1) mo2 (nI vs2.length) ea2 (nI wn1) ch1 ring1 (eo2 ++ rest)) H locs := hC
            refine W.eq (g2 := F0 m 57 ls [.int (nI vs2.length), .int (nI i)]) rfl ?_
            refine lv_icmp_ge (tgt := 75) hx hb d_V_goThroughVersions_57 (by decide) (fun c57 => ?_) (fun c57 => ?_)
            · skip
              have hg : g1 = true ∧ a ∉ vs2 ∧ i + lf ≤ vs2.length := hsame.resolve_right (fun h => absurd ((nI_leI (by omega) (by omega)).mp c57) (by omega))
              refine lv_iinc (k := 1) (v := nI lf) (lv' := [(2, .int (nI lf)), (3, .ref a), (1, .int (nI i)), (0, .ref (K 0))]) hx hb d_V_goThroughVersions_75 hl rfl (nI_m1 lf) (by decide) rfl (fun ls hl => ?_)
              refine lv_goto (tgt := 10) hx hb d_V_goThroughVersions_78 (by decide) ?_
              refine t_more (c2 := (2 * (ev1 - ev0))) (s2 := (73 * (ev1 - ev0))) (by first | exact Nat.le_of_ble_eq_true rfl | omega | (dsimp only; omega)) (by first | exact Nat.le_of_ble_eq_true rfl | omega | (dsimp only; omega)) ?_
              exact ih i vs2 LP2 fv2 mo2 ea2 eo2 wn1 ring1 ch1 ev1 ls H locs ⟨hLR, hvL, hnd, h40⟩ hg.2.2 (by omega) (by omega) (by rw [hrows2]; exact hPV.1 hg.1) (lv_sub hl [0, 2, 3] rfl) hC
            · skip
              have hil2 : i < vs2.length := Nat.not_le.mp (fun h => c57 ((nI_leI (by omega) (by omega)).mpr h))
              obtain ⟨b, hi2⟩ : ∃ b, vs2[i]? = some b := ⟨vs2[i], List.getElem?_eq_getElem hil2⟩
              have hb2 : b ∈ LP2 := hvL b (List.mem_of_getElem? hi2)
              refine lv_aload_n hx hb d_V_goThroughVersions_60 rfl (lv_at hl 3 rfl) ?_
              refine t_get (v := .ref (K 1)) hx hb hts inV hown hC 0 rfl rfl 0 (by decide) (hts _ w_97) (fun _ h => h) rfl d_V_goThroughVersions_61 ?_
              refine lv_iload_n hx hb d_V_goThroughVersions_64 rfl (lv_at hl 2 rfl) ?_
              refine t_call (t_invV (As := [.int (nI i)]) (rest := []) hx hb hown (hts _ w_301) (hts _ w_302) (hts _ w_303) (hts _ w_304) ⟨by decide, by decide⟩ (t_recv (q0 := 1) hC rfl rfl) rfl d_V_goThroughVersions_65) (c_A_get hLR hi2) zz_c tb_good hts w_4 hC (hl.1.trans hml.symm) ⟨by first | exact Nat.le_of_ble_eq_true rfl | omega | (dsimp only; omega), by first | exact Nat.le_of_ble_eq_true rfl | omega | (dsimp only; omega), by first | exact Nat.le_of_ble_eq_true rfl | omega | (dsimp only; omega), by first | exact Nat.le_of_ble_eq_true rfl | omega | (dsimp only; omega)⟩ (Nat.le_of_ble_eq_true rfl) (fun E q ce w1 H1 l1 hp => hp.elim) (fun v w1 H locs hp hC => ?_)
              obtain ⟨rfl, hwe9⟩ := hp
              rw [hwe9] at hC
              have hC : tC D cls (ty0 ca) A (zz e0 A) s (wC K ca RL LP2 fv2 FR day (nI ev1) mo2 (nI vs2.length) ea2 (nI wn1) ch1 ring1 (eo2 ++ rest)) H locs := hC
              refine W.eq (g2 := F0 m 68 ls [.ref b]) rfl ?_
              refine lv_aload_n hx hb d_V_goThroughVersions_68 rfl (lv_at hl 0 rfl) ?_
              refine lv_acmp_ne (rx := (some b)) (ry := (some a)) (tgt := 75) hx hb d_V_goThroughVersions_69 (by decide) (fun c69 => ?_) (fun c69 => ?_)
              · skip
                have hg : g1 = true ∧ a ∉ vs2 ∧ i + lf ≤ vs2.length := hsame.resolve_right (fun h => c69 (by rw [← hi2, h.2.1]))
                refine lv_iinc (k := 1) (v := nI lf) (lv' := [(2, .int (nI lf)), (3, .ref a), (1, .int (nI i)), (0, .ref (K 0))]) hx hb d_V_goThroughVersions_75 hl rfl (nI_m1 lf) (by decide) rfl (fun ls hl => ?_)
                refine lv_goto (tgt := 10) hx hb d_V_goThroughVersions_78 (by decide) ?_
                refine t_more (c2 := (2 * (ev1 - ev0))) (s2 := (73 * (ev1 - ev0))) (by first | exact Nat.le_of_ble_eq_true rfl | omega | (dsimp only; omega)) (by first | exact Nat.le_of_ble_eq_true rfl | omega | (dsimp only; omega)) ?_
                exact ih i vs2 LP2 fv2 mo2 ea2 eo2 wn1 ring1 ch1 ev1 ls H locs ⟨hLR, hvL, hnd, h40⟩ hg.2.2 (by omega) (by omega) (by rw [hrows2]; exact hPV.1 hg.1) (lv_sub hl [0, 2, 3] rfl) hC
              · skip
                have hg : g1 = false ∧ vs2[i]? = some a ∧ i + 1 + lf ≤ vs2.length := hsame.resolve_left (fun h => h.2.1 (by have h9 := List.mem_of_getElem? hi2; rw [Option.some.inj c69] at h9; exact h9))
                refine lv_iinc (k := 2) (v := nI (i + 1)) (lv' := [(1, .int (nI (i + 1))), (3, .ref a), (2, .int (nI (lf + 1))), (0, .ref (K 0))]) hx hb d_V_goThroughVersions_72 hl rfl (nI_1 i) (by decide) rfl (fun ls hl => ?_)
                refine lv_iinc (k := 2) (v := nI lf) (lv' := [(2, .int (nI lf)), (1, .int (nI (i + 1))), (3, .ref a), (0, .ref (K 0))]) hx hb d_V_goThroughVersions_75 hl rfl (nI_m1 lf) (by decide) rfl (fun ls hl => ?_)
                refine lv_goto (tgt := 10) hx hb d_V_goThroughVersions_78 (by decide) ?_
                refine t_more (c2 := (2 * (ev1 - ev0))) (s2 := (73 * (ev1 - ev0))) (by first | exact Nat.le_of_ble_eq_true rfl | omega | (dsimp only; omega)) (by first | exact Nat.le_of_ble_eq_true rfl | omega | (dsimp only; omega)) ?_
                exact ih (i + 1) vs2 LP2 fv2 mo2 ea2 eo2 wn1 ring1 ch1 ev1 ls H locs ⟨hLR, hvL, hnd, h40⟩ hg.2.2 (by omega) (by omega) (by rw [hrows2]; exact hPV.2 hg.1) (lv_sub hl [0, 1, 3] rfl) hC
  refine t_more (c2 := (2 * (ev9 - ev0))) (s2 := (73 * (ev9 - ev0))) (by first | exact Nat.le_of_ble_eq_true rfl | omega | (dsimp only; omega)) (by first | exact Nat.le_of_ble_eq_true rfl | omega | (dsimp only; omega)) ?_
  exact loop vs.length 0 vs LP fv mo ea eo w9 ring ch ev9 ls _ _ ⟨hLR, hvL, hnd, h40⟩ (by omega) hw6 (by omega) hT hl hC

set_option maxRecDepth 100000 in
set_option maxHeartbeats 4000000 in
theorem c_V_takeLoneMarkersAway {l : Launch} {D : va_G} {A : Nat → Prop} {e0 : Nat → Nat} {K : Nat → Nat} {ca : Nat → ClassId} {RL LP : List Nat} {fv FR : Nat → RW} {day mo : Int32} {ea : Nat} {ch : Int64} {ring : Nat → Int32} {rest : va_W} {vs : List Nat} {eo : va_W} (hI : cI e0 ca vs LP ea eo) {w9 : Nat} (hw9 : w9 < 2 ^ 31) {ev9 : Nat} {T : PS} (hT : p_lone day vs.length 0 (vs.map fv, (ring, w9, ch), ev9) = T) (hw6 : w9 + vs.length < 2 ^ 31) : tM l y_V_takeLoneMarkersAway tb ({ frames := 5, cells := 0, slots := 0, locals := 109 }) D cls (ty0 ca) A (zz e0 A) [.ref (K 0)] (wC K ca RL LP fv FR day (nI ev9) mo (nI vs.length) ea (nI w9) ch ring (eo ++ rest)) (fun v w2 => v = none ∧ ∃ vs2, cQ e0 K ca RL FR rest [] (fun _ => rw0) day (nI T.2.2) T.2.1 T.1 vs2 w2) (xN) := by
  refine t_ofW (by decide) w_561 (Nat.le_of_ble_eq_true rfl) ?_
  intro p e s m below meth c ls hx hb hr hts hown hlk hnm hml hex hl hC
  have hown : s.vm.findClass "RetentionVault" = some m.cls := hown
  have hl : lv_has ls 4 [(0, .ref (K 0))] := hl
  obtain ⟨hLR, hvL, hnd, h40⟩ := hI
  refine lv_iconst (v := 0) hx hb d_V_takeLoneMarkersAway_0 (by decide) ?_
  refine lv_istore_n (lv' := [(1, .int 0), (0, .ref (K 0))]) hx hb d_V_takeLoneMarkersAway_1 rfl hl (by decide) rfl (fun ls hl => ?_)
  refine lv_aload_n hx hb d_V_takeLoneMarkersAway_2 rfl (lv_at hl 1 rfl) ?_
  refine t_get (v := .ref (K 1)) hx hb hts inV hown hC 0 rfl rfl 0 (by decide) (hts _ w_97) (fun _ h => h) rfl d_V_takeLoneMarkersAway_3 ?_
  refine t_call (t_invV (As := []) (rest := []) hx hb hown (hts _ w_210) (hts _ w_211) (hts _ w_212) (hts _ w_213) ⟨by decide, by decide⟩ (t_recv (q0 := 1) hC rfl rfl) rfl d_V_takeLoneMarkersAway_6) c_A_size zz_c tb_good hts w_4 hC (hl.1.trans hml.symm) ⟨Nat.le_of_ble_eq_true rfl, Nat.le_of_ble_eq_true rfl, Nat.le_of_ble_eq_true rfl, Nat.le_of_ble_eq_true rfl⟩ (Nat.le_of_ble_eq_true rfl) (fun E q ce w1 H1 l1 hp => hp.elim) (fun v w1 H locs hp hC => ?_)
  obtain ⟨rfl, hwe9⟩ := hp
  rw [hwe9] at hC
  have hC : tC D cls (ty0 ca) A (zz e0 A) s (wC K ca RL LP fv FR day (nI ev9) mo (nI vs.length) ea (nI w9) ch ring (eo ++ rest)) H locs := hC
  refine W.eq (g2 := F0 m 9 ls [.int (nI vs.length)]) rfl ?_
  refine lv_istore_n (lv' := [(2, .int (nI vs.length)), (1, .int 0), (0, .ref (K 0))]) hx hb d_V_takeLoneMarkersAway_9 rfl hl (by decide) rfl (fun ls hl => ?_)
  have loop : ∀ (lf i : Nat) (vs LP : List Nat) (fv : Nat → RW) (mo : Int32) (ea : Nat) (eo : va_W) (w9 : Nat) (ring : Nat → Int32) (ch : Int64) (ev9 : Nat) (ls : Array Slot) (H : Heap) (locs : List Loc), cI e0 ca vs LP ea eo → i + lf = vs.length → w9 + lf < 2 ^ 31 → p_lone day lf i (vs.map fv, (ring, w9, ch), ev9) = T → lv_has ls 4 [(2, .int (nI lf)), (1, .int (nI i)), (0, .ref (K 0))] → tC D cls (ty0 ca) A (zz e0 A) s (wC K ca RL LP fv FR day (nI ev9) mo (nI vs.length) ea (nI w9) ch ring (eo ++ rest)) H locs → tB p l e ({ frames := 5, cells := 0, slots := 0, locals := 109 }) s m [.ref (K 0)] below meth c D (ty0 ca) A (zz e0 A) (fun v w2 => v = none ∧ ∃ vs2, cQ e0 K ca RL FR rest [] (fun _ => rw0) day (nI T.2.2) T.2.1 T.1 vs2 w2) (xN) H locs 0 0 (F0 m 10 ls []) := by
    intro lf
    induction lf with
    | zero =>
      intro i vs LP fv mo ea eo w9 ring ch ev9 ls H locs hI hle hw6 hPL hl hC
      obtain ⟨hLR, hvL, hnd, h40⟩ := hI
      have hTe : T = (vs.map fv, (ring, w9, ch), ev9) := hPL.symm
      refine lv_iload_n hx hb d_V_takeLoneMarkersAway_10 rfl (lv_at hl 0 rfl) ?_
      refine lv_if_le (tgt := 69) hx hb d_V_takeLoneMarkersAway_11 (by decide) (fun c11 => ?_) (fun c11 => ?_)
      · skip
        exact t_vret hx hb hr hlk zz_c hC (⟨rfl, vs, ⟨LP, fv, mo, ea, eo, ⟨hLR, hvL, hnd, h40⟩, by rw [hTe], fun b hb => absurd hb List.not_mem_nil, by rw [hTe]⟩⟩) (Nat.le_of_ble_eq_true rfl) (Nat.le_of_ble_eq_true rfl) d_V_takeLoneMarkersAway_69
      · exact absurd (by decide) c11
    | succ lf ih =>
      intro i vs LP fv mo ea eo w9 ring ch ev9 ls H locs hI hle hw6 hPL hl hC
      obtain ⟨hLR, hvL, hnd, h40⟩ := hI
      have hw9 : w9 < 2 ^ 31 := by omega
      refine lv_iload_n hx hb d_V_takeLoneMarkersAway_10 rfl (lv_at hl 0 rfl) ?_
      refine lv_if_le (tgt := 69) hx hb d_V_takeLoneMarkersAway_11 (by decide) (fun c11 => ?_) (fun c11 => ?_)
      · exact absurd c11 (nI_nle (by omega) (by omega))
      · skip
        refine lv_iload_n hx hb d_V_takeLoneMarkersAway_14 rfl (lv_at hl 1 rfl) ?_
        refine lv_aload_n hx hb d_V_takeLoneMarkersAway_15 rfl (lv_at hl 2 rfl) ?_
        refine t_get (v := .ref (K 1)) hx hb hts inV hown hC 0 rfl rfl 0 (by decide) (hts _ w_97) (fun _ h => h) rfl d_V_takeLoneMarkersAway_16 ?_
        refine t_call (t_invV (As := []) (rest := [.int (nI i)]) hx hb hown (hts _ w_210) (hts _ w_211) (hts _ w_212) (hts _ w_213) ⟨by decide, by decide⟩ (t_recv (q0 := 1) hC rfl rfl) rfl d_V_takeLoneMarkersAway_19) c_A_size zz_c tb_good hts w_4 hC (hl.1.trans hml.symm) ⟨Nat.le_of_ble_eq_true rfl, Nat.le_of_ble_eq_true rfl, Nat.le_of_ble_eq_true rfl, Nat.le_of_ble_eq_true rfl⟩ (Nat.le_of_ble_eq_true rfl) (fun E q ce w1 H1 l1 hp => hp.elim) (fun v w1 H locs hp hC => ?_)
        obtain ⟨rfl, hwe9⟩ := hp
        rw [hwe9] at hC
        have hC : tC D cls (ty0 ca) A (zz e0 A) s (wC K ca RL LP fv FR day (nI ev9) mo (nI vs.length) ea (nI w9) ch ring (eo ++ rest)) H locs := hC
        refine W.eq (g2 := F0 m 22 ls [.int (nI vs.length), .int (nI i)]) rfl ?_
        refine lv_icmp_ge (tgt := 69) hx hb d_V_takeLoneMarkersAway_22 (by decide) (fun c22 => ?_) (fun c22 => ?_)
        · exact absurd ((nI_leI (by omega) (by omega)).mp c22) (by omega)
        · skip
          obtain ⟨a, hi⟩ : ∃ a, vs[i]? = some a := ⟨vs[i], List.getElem?_eq_getElem (by omega)⟩
          have ha : a ∈ LP := hvL a (List.mem_of_getElem? hi)
          have hrow : rw_at (vs.map fv) i = fv a := rw_at_map hi
          refine lv_aload_n hx hb d_V_takeLoneMarkersAway_25 rfl (lv_at hl 2 rfl) ?_
          refine t_get (v := .ref (K 1)) hx hb hts inV hown hC 0 rfl rfl 0 (by decide) (hts _ w_97) (fun _ h => h) rfl d_V_takeLoneMarkersAway_26 ?_
          refine lv_iload_n hx hb d_V_takeLoneMarkersAway_29 rfl (lv_at hl 1 rfl) ?_
          refine t_call (t_invV (As := [.int (nI i)]) (rest := []) hx hb hown (hts _ w_301) (hts _ w_302) (hts _ w_303) (hts _ w_304) ⟨by decide, by decide⟩ (t_recv (q0 := 1) hC rfl rfl) rfl d_V_takeLoneMarkersAway_30) (c_A_get hLR hi) zz_c tb_good hts w_4 hC (hl.1.trans hml.symm) ⟨Nat.le_of_ble_eq_true rfl, Nat.le_of_ble_eq_true rfl, Nat.le_of_ble_eq_true rfl, Nat.le_of_ble_eq_true rfl⟩ (Nat.le_of_ble_eq_true rfl) (fun E q ce w1 H1 l1 hp => hp.elim) (fun v w1 H locs hp hC => ?_)
          obtain ⟨rfl, hwe9⟩ := hp
          rw [hwe9] at hC
          have hC : tC D cls (ty0 ca) A (zz e0 A) s (wC K ca RL LP fv FR day (nI ev9) mo (nI vs.length) ea (nI w9) ch ring (eo ++ rest)) H locs := hC
          refine W.eq (g2 := F0 m 33 ls [.ref a]) rfl ?_
          refine va_castY (C := "RetentionVault$Version") hx hb hown (hts _ w_230) (hC.2.2.2.2.2.2.2.2.2.1 ("RetentionVault$Version", "RetentionVault$Version") (by decide +kernel)) (t_recvP hC ha rfl rfl) d_V_takeLoneMarkersAway_33 ?_
          refine lv_astore_n (lv' := [(3, .ref a), (2, .int (nI (lf + 1))), (1, .int (nI i)), (0, .ref (K 0))]) hx hb d_V_takeLoneMarkersAway_36 rfl hl (by decide) rfl (fun ls hl => ?_)
          refine lv_aload_n hx hb d_V_takeLoneMarkersAway_37 rfl (lv_at hl 0 rfl) ?_
          refine t_call (t_invV (As := []) (rest := []) hx hb hown (hts _ w_372) (hts _ w_373) (hts _ w_374) (hts _ w_375) ⟨by decide, by decide⟩ (t_recvP hC ha rfl rfl) rfl d_V_takeLoneMarkersAway_38) (c_N_isMarker zz_c ha) zz_c tb_good hts w_13 hC (hl.1.trans hml.symm) ⟨Nat.le_of_ble_eq_true rfl, Nat.le_of_ble_eq_true rfl, Nat.le_of_ble_eq_true rfl, Nat.le_of_ble_eq_true rfl⟩ (Nat.le_of_ble_eq_true rfl) (fun E q ce w1 H1 l1 hp => hp.elim) (fun v w1 H locs hp hC => ?_)
          obtain ⟨rfl, hwe9⟩ := hp
          rw [hwe9] at hC
          have hC : tC D cls (ty0 ca) A (zz e0 A) s (wC K ca RL LP fv FR day (nI ev9) mo (nI vs.length) ea (nI w9) ch ring (eo ++ rest)) H locs := hC
          refine W.eq (g2 := F0 m 41 ls [.int (bI (fv a 5 = -1))]) rfl ?_
          refine lv_if_eq (tgt := 60) hx hb d_V_takeLoneMarkersAway_41 (by decide) (fun c41 => ?_) (fun c41 => ?_)
          · skip
            refine lv_iinc (k := 2) (v := nI (i + 1)) (lv' := [(1, .int (nI (i + 1))), (3, .ref a), (2, .int (nI (lf + 1))), (0, .ref (K 0))]) hx hb d_V_takeLoneMarkersAway_60 hl rfl (nI_1 i) (by decide) rfl (fun ls hl => ?_)
            refine lv_iinc (k := 2) (v := nI lf) (lv' := [(2, .int (nI lf)), (1, .int (nI (i + 1))), (3, .ref a), (0, .ref (K 0))]) hx hb d_V_takeLoneMarkersAway_63 hl rfl (nI_m1 lf) (by decide) rfl (fun ls hl => ?_)
            refine lv_goto (tgt := 10) hx hb d_V_takeLoneMarkersAway_66 (by decide) ?_
            exact ih (i + 1) vs LP fv mo ea eo w9 ring ch ev9 ls H locs ⟨hLR, hvL, hnd, h40⟩ (by omega) (by omega) (pl_next hPL hrow (fun h => bI_ne.mp c41 h.1)) (lv_sub hl [0, 1, 3] rfl) hC
          · skip
            refine lv_aload_n hx hb d_V_takeLoneMarkersAway_44 rfl (lv_at hl 3 rfl) ?_
            refine lv_aload_n hx hb d_V_takeLoneMarkersAway_45 rfl (lv_at hl 0 rfl) ?_
            refine t_call (t_invV (As := [.ref a]) (rest := []) hx hb hown (hts _ w_562) (hts _ w_564) (hts _ s_V_isAlone) (hts _ w_565) ⟨by decide, by decide⟩ (t_recv (q0 := 0) hC rfl rfl) rfl d_V_takeLoneMarkersAway_46) (c_V_isAlone ⟨hLR, hvL, hnd, h40⟩ hi) zz_c tb_good hts w_1 hC (hl.1.trans hml.symm) ⟨Nat.le_of_ble_eq_true rfl, Nat.le_of_ble_eq_true rfl, Nat.le_of_ble_eq_true rfl, Nat.le_of_ble_eq_true rfl⟩ (Nat.le_of_ble_eq_true rfl) (fun E q ce w1 H1 l1 hp => hp.elim) (fun v w1 H locs hp hC => ?_)
            obtain ⟨hal0, hwe9⟩ := hp
            obtain ⟨x9, rfl, hal⟩ := al_x hal0
            rw [hwe9] at hC
            have hC : tC D cls (ty0 ca) A (zz e0 A) s (wC K ca RL LP fv FR day (nI ev9) mo (nI vs.length) ea (nI w9) ch ring (eo ++ rest)) H locs := hC
            refine W.eq (g2 := F0 m 49 ls [.int x9]) rfl ?_
            refine lv_if_eq (tgt := 60) hx hb d_V_takeLoneMarkersAway_49 (by decide) (fun c49 => ?_) (fun c49 => ?_)
            · skip
              refine lv_iinc (k := 2) (v := nI (i + 1)) (lv' := [(1, .int (nI (i + 1))), (3, .ref a), (2, .int (nI (lf + 1))), (0, .ref (K 0))]) hx hb d_V_takeLoneMarkersAway_60 hl rfl (nI_1 i) (by decide) rfl (fun ls hl => ?_)
              refine lv_iinc (k := 2) (v := nI lf) (lv' := [(2, .int (nI lf)), (1, .int (nI (i + 1))), (3, .ref a), (0, .ref (K 0))]) hx hb d_V_takeLoneMarkersAway_63 hl rfl (nI_m1 lf) (by decide) rfl (fun ls hl => ?_)
              refine lv_goto (tgt := 10) hx hb d_V_takeLoneMarkersAway_66 (by decide) ?_
              exact ih (i + 1) vs LP fv mo ea eo w9 ring ch ev9 ls H locs ⟨hLR, hvL, hnd, h40⟩ (by omega) (by omega) (pl_next hPL hrow (fun h => hal.1 c49 h.2)) (lv_sub hl [0, 1, 3] rfl) hC
            · skip
              refine lv_aload_n hx hb d_V_takeLoneMarkersAway_52 rfl (lv_at hl 3 rfl) ?_
              refine lv_aload_n hx hb d_V_takeLoneMarkersAway_53 rfl (lv_at hl 0 rfl) ?_
              refine t_call (t_invV (As := [.ref a]) (rest := []) hx hb hown (hts _ w_442) (hts _ w_444) (hts _ s_V_takeAway) (hts _ w_445) ⟨by decide, by decide⟩ (t_recv (q0 := 0) hC rfl rfl) rfl d_V_takeLoneMarkersAway_54) (c_V_takeAway ⟨hLR, hvL, hnd, h40⟩ hw9 hi) zz_c tb_good hts w_1 hC (hl.1.trans hml.symm) ⟨Nat.le_of_ble_eq_true rfl, Nat.le_of_ble_eq_true rfl, Nat.le_of_ble_eq_true rfl, Nat.le_of_ble_eq_true rfl⟩ (Nat.le_of_ble_eq_true rfl) (fun E q ce w1 H1 l1 hp => hp.elim) (fun v w1 H locs hp hC => ?_)
              obtain ⟨rfl, LP2, fv2, mo2, ea2, eo2, ⟨hLR, hvL, hnd, h40⟩, hrows2, -, hwe9⟩ := hp
              rw [hwe9] at hC
              refine W.eq (g2 := F0 m 57 ls []) rfl ?_
              refine lv_goto (tgt := 63) hx hb d_V_takeLoneMarkersAway_57 (by decide) ?_
              refine lv_iinc (k := 1) (v := nI lf) (lv' := [(2, .int (nI lf)), (3, .ref a), (1, .int (nI i)), (0, .ref (K 0))]) hx hb d_V_takeLoneMarkersAway_63 hl rfl (nI_m1 lf) (by decide) rfl (fun ls hl => ?_)
              refine lv_goto (tgt := 10) hx hb d_V_takeLoneMarkersAway_66 (by decide) ?_
              exact ih i (vs.eraseIdx i) LP2 fv2 mo2 ea2 eo2 _ _ _ ev9 ls H locs ⟨hLR, hvL, hnd, h40⟩ (by rw [List.length_eraseIdx, if_pos (by omega)]; omega) (by show w9 + 1 + lf < _; omega) (by rw [hrows2]; have h9 := pl_take hPL hrow (Classical.not_not.mp (fun q => c41 (bI_ne.mpr q))) (hal.2 c49); unfold p_take at h9; rw [show rw_at (vs.map fv, (ring, w9, ch), ev9).1 i = fv a from hrow] at h9; exact h9) (lv_sub hl [0, 2, 3] rfl) hC
  exact loop vs.length 0 vs LP fv mo ea eo w9 ring ch ev9 ls _ _ ⟨hLR, hvL, hnd, h40⟩ (by omega) hw6 hT hl hC

theorem p_tick_ev {Rs : List RW} : ∀ {n : Nat} {day : Int32} {S : PS}, S.2.2 ≤ (p_tick Rs n day S).2.2 := by
  intro n
  induction n with
  | zero => intro day S; exact Nat.le_refl _
  | succ n ih =>
    intro day S
    refine Nat.le_trans ?_ (ih (day := day + 1) (S := p_day Rs (day + 1) S))
    unfold p_day
    rw [p_lone_lg.2.2]
    exact p_vers_lg.2.2

set_option maxRecDepth 100000 in
set_option maxHeartbeats 4000000 in
theorem c_V_tick {l : Launch} (hst : l.stackTraces = false) {D : va_G} {A : Nat → Prop} {e0 : Nat → Nat} {K : Nat → Nat} {ca : Nat → ClassId} {RL LP : List Nat} {fv FR : Nat → RW} {day mo : Int32} {ea : Nat} {ch : Int64} {ring : Nat → Int32} {rest : va_W} {vs : List Nat} {eo : va_W} (hI : cI e0 ca vs LP ea eo) {w9 : Nat} (hw9 : w9 < 2 ^ 31) {days b9 d9 : Int32} {ev9 pu : Nat} {w09 : va_W} (hw09 : w09 = wC K ca RL LP fv FR day (nI ev9) mo (nI vs.length) ea (nI w9) ch ring (eo ++ rest)) (hb9 : nI w9 = b9) (hd9 : day + days = d9) (hRL : RL.length = 6) {T : PS} (hT : p_tick (RL.map FR) days.toNatClampNeg day (vs.map fv, (ring, w9, ch), ev9) = T) (hu : T.2.2 ≤ ev9 + pu) (hw6 : w9 + 280000 < 2 ^ 31) : tM l y_V_tick tb ({ frames := 11, cells := 2 * pu + 1, slots := 73 * pu + 6, locals := 260 }) D cls (ty0 ca) A (zz e0 A) [.ref (K 0), .int days] (wC K ca RL LP fv FR day (nI ev9) mo (nI vs.length) ea (nI w9) ch ring (eo ++ rest)) (fun v w2 => (0 ≤ days ∧ days ≤ 1000) ∧ v = some (.int (nI T.2.1.2.1 - b9)) ∧ ∃ vs2, cQ e0 K ca RL FR rest [] (fun _ => rw0) d9 (nI T.2.2) T.2.1 T.1 vs2 w2) (fun E w2 => E = "java/lang/IllegalArgumentException" ∧ w2 = w09 ∧ ¬ (0 ≤ days ∧ days ≤ 1000)) := by
  refine t_ofW (by decide) w_527 (Nat.le_of_ble_eq_true rfl) ?_
  intro p e s m below meth c ls hx hb hr hts hown hlk hnm hml hex hl hC
  have hown : s.vm.findClass "RetentionVault" = some m.cls := hown
  have hl : lv_has ls 4 [(0, .ref (K 0)), (1, .int days)] := hl
  obtain ⟨hLR, hvL, hnd, h40⟩ := hI
  obtain ⟨ev0, hev0⟩ : ∃ z, z = ev9 := ⟨_, rfl⟩
  rw [← hev0] at hu
  refine lv_iload_n hx hb d_V_tick_0 rfl (lv_at hl 1 rfl) ?_
  refine lv_iconst (v := 0) hx hb d_V_tick_1 (by decide) ?_
  refine lv_sipush (v := 1000) hx hb d_V_tick_2 (by decide) ?_
  refine t_call (t_invS (As := [.int days, .int 0, .int 1000]) (rest := []) hx hb hown (hts _ w_127) (hts _ w_128) (hts _ w_1) (hts _ w_129) ⟨by decide, by decide⟩ rfl d_V_tick_5) (c_V_isWithin zz_c) zz_c tb_good hts w_1 hC (hl.1.trans hml.symm) ⟨by first | exact Nat.le_of_ble_eq_true rfl | omega | (dsimp only; omega), by first | exact Nat.le_of_ble_eq_true rfl | omega | (dsimp only; omega), by first | exact Nat.le_of_ble_eq_true rfl | omega | (dsimp only; omega), by first | exact Nat.le_of_ble_eq_true rfl | omega | (dsimp only; omega)⟩ (Nat.le_of_ble_eq_true rfl) (fun E q ce w1 H1 l1 hp => hp.elim) (fun v w1 H locs hp hC => ?_)
  obtain ⟨rfl, hwe9⟩ := hp
  rw [hwe9] at hC
  have hC : tC D cls (ty0 ca) A (zz e0 A) s (wC K ca RL LP fv FR day (nI ev9) mo (nI vs.length) ea (nI w9) ch ring (eo ++ rest)) H locs := hC
  refine W.eq (g2 := F0 m 8 ls [.int (bI (0 ≤ days ∧ days ≤ 1000))]) rfl ?_
  refine t_call (t_invS (As := [.int (bI (0 ≤ days ∧ days ≤ 1000))]) (rest := []) hx hb hown (hts _ w_130) (hts _ w_131) (hts _ w_1) (hts _ w_132) ⟨by decide, by decide⟩ rfl d_V_tick_8) (c_V_demand hst) zz_c tb_good hts w_1 hC (hl.1.trans hml.symm) ⟨by first | exact Nat.le_of_ble_eq_true rfl | omega | (dsimp only; omega), by first | exact Nat.le_of_ble_eq_true rfl | omega | (dsimp only; omega), by first | exact Nat.le_of_ble_eq_true rfl | omega | (dsimp only; omega), by first | exact Nat.le_of_ble_eq_true rfl | omega | (dsimp only; omega)⟩ (Nat.le_of_ble_eq_true rfl) (fun E q9 ce w1 H locs hp hC hce hcv hcl => ?_) (fun v w1 H locs hp hC => ?_)
  · skip
    obtain ⟨rfl, hwe9, hdem⟩ := hp
    rw [hwe9] at hC
    have hC : tC D cls (ty0 ca) A (zz e0 A) s (wC K ca RL LP fv FR day (nI ev9) mo (nI vs.length) ea (nI w9) ch ring (eo ++ rest)) H locs := hC
    exact t_out (fun x h => (hex x h).elim) hlk zz_c hC hce hcv hcl (⟨rfl, hw09.symm, bI_ne.mp hdem⟩) (Nat.le_of_ble_eq_true rfl) (Nat.le_of_ble_eq_true rfl)
  · skip
    obtain ⟨rfl, hwe9, hdem⟩ := hp
    rw [hwe9] at hC
    have hC : tC D cls (ty0 ca) A (zz e0 A) s (wC K ca RL LP fv FR day (nI ev9) mo (nI vs.length) ea (nI w9) ch ring (eo ++ rest)) H locs := hC
    refine W.eq (g2 := F0 m 11 ls []) rfl ?_
    refine lv_aload_n hx hb d_V_tick_11 rfl (lv_at hl 0 rfl) ?_
    refine t_get (v := .ref (K 3)) hx hb hts inV hown hC 0 rfl rfl 2 (by decide) (hts _ w_99) (fun _ h => h) rfl d_V_tick_12 ?_
    refine t_get (v := .int (nI w9)) hx hb hts inG hown hC 3 rfl rfl 1 (by decide) (hts _ w_86) (fun _ h => h) rfl d_V_tick_15 ?_
    refine lv_istore_n (lv' := [(2, .int (nI w9)), (0, .ref (K 0)), (1, .int days)]) hx hb d_V_tick_18 rfl hl (by decide) rfl (fun ls hl => ?_)
    refine lv_iconst (v := 0) hx hb d_V_tick_19 (by decide) ?_
    refine lv_istore_n (lv' := [(3, .int 0), (2, .int (nI w9)), (0, .ref (K 0)), (1, .int days)]) hx hb d_V_tick_20 rfl hl (by decide) rfl (fun ls hl => ?_)
    have hdr := Classical.not_not.mp (fun q => hdem (bI_ne.mpr q))
    obtain ⟨n9, hn9, hdn⟩ := nI_of2 (x := days) (M := 1000) (n := 1000) (by decide) (Int32.not_lt.mpr hdr.1) hdr.2
    have hncl : days.toNatClampNeg = n9 := by rw [hdn, nI_clamp (by omega)]
    rw [hncl] at hT
    rw [hdn] at hd9
    rw [hb9] at hl
    have loop : ∀ (k i : Nat) (day : Int32) (vs LP : List Nat) (fv : Nat → RW) (mo : Int32) (ea : Nat) (eo : va_W) (w9 : Nat) (ring : Nat → Int32) (ch : Int64) (ev9 : Nat) (ls : Array Slot) (H : Heap) (locs : List Loc), cI e0 ca vs LP ea eo → i + k = n9 → w9 + 280 * k < 2 ^ 31 → day + nI k = d9 → ev0 ≤ ev9 → p_tick (RL.map FR) k day (vs.map fv, (ring, w9, ch), ev9) = T → lv_has ls 4 [(3, .int (nI i)), (2, .int b9), (0, .ref (K 0)), (1, .int days)] → tC D cls (ty0 ca) A (zz e0 A) s (wC K ca RL LP fv FR day (nI ev9) mo (nI vs.length) ea (nI w9) ch ring (eo ++ rest)) H locs → tB p l e ({ frames := 11, cells := 2 * pu + 1, slots := 73 * pu + 6, locals := 260 }) s m [.ref (K 0), .int days] below meth c D (ty0 ca) A (zz e0 A) (fun v w2 => (0 ≤ days ∧ days ≤ 1000) ∧ v = some (.int (nI T.2.1.2.1 - b9)) ∧ ∃ vs2, cQ e0 K ca RL FR rest [] (fun _ => rw0) d9 (nI T.2.2) T.2.1 T.1 vs2 w2) (fun E w2 => E = "java/lang/IllegalArgumentException" ∧ w2 = w09 ∧ ¬ (0 ≤ days ∧ days ≤ 1000)) H locs (2 * (ev9 - ev0) + 1) (73 * (ev9 - ev0) + 6) (F0 m 21 ls []) := by
      intro k
      induction k with
      | zero =>
        intro i day vs LP fv mo ea eo w9 ring ch ev9 ls H locs hI hle hw6 hd9 hev hPT hl hC
        obtain ⟨hLR, hvL, hnd, h40⟩ := hI
        have hevb : ev9 ≤ ev0 + pu := by have h9 := p_tick_ev (Rs := RL.map FR) (n := 0) (day := day) (S := (vs.map fv, (ring, w9, ch), ev9)); rw [hPT] at h9; dsimp only at h9; omega
        have hTe : T = (vs.map fv, (ring, w9, ch), ev9) := hPT.symm
        have hde : day = d9 := by rw [← hd9]; exact (Int32.add_zero day).symm
        refine lv_iload_n hx hb d_V_tick_21 rfl (lv_at hl 0 rfl) ?_
        refine lv_iload_n hx hb d_V_tick_22 rfl (lv_at hl 3 rfl) ?_
        refine lv_icmp_ge (tgt := 50) hx hb d_V_tick_23 (by decide) (fun c23 => ?_) (fun c23 => ?_)
        · skip
          refine lv_aload_n hx hb d_V_tick_50 rfl (lv_at hl 2 rfl) ?_
          refine t_get (v := .ref (K 3)) hx hb hts inV hown hC 0 rfl rfl 2 (by decide) (hts _ w_99) (fun _ h => h) rfl d_V_tick_51 ?_
          refine t_get (v := .int (nI w9)) hx hb hts inG hown hC 3 rfl rfl 1 (by decide) (hts _ w_86) (fun _ h => h) rfl d_V_tick_54 ?_
          refine lv_iload_n hx hb d_V_tick_57 rfl (lv_at hl 1 rfl) ?_
          refine lv_isub hx hb d_V_tick_58 ?_
          exact t_iret hx hb hr hlk zz_c hC (⟨hdr, by rw [hTe], vs, ⟨LP, fv, mo, ea, eo, ⟨hLR, hvL, hnd, h40⟩, by rw [hTe], fun b hb => absurd hb List.not_mem_nil, by rw [hTe, hde]⟩⟩) (by first | exact Nat.le_of_ble_eq_true rfl | omega | (dsimp only; omega)) (by first | exact Nat.le_of_ble_eq_true rfl | omega | (dsimp only; omega)) d_V_tick_59
        · exact absurd (by rw [hdn, show i = n9 by omega]; exact Int32.le_refl _) c23
      | succ k ih =>
        intro i day vs LP fv mo ea eo w9 ring ch ev9 ls H locs hI hle hw6 hd9 hev hPT hl hC
        obtain ⟨hLR, hvL, hnd, h40⟩ := hI
        have hevb : ev9 ≤ ev0 + pu := by have h9 := p_tick_ev (Rs := RL.map FR) (n := k + 1) (day := day) (S := (vs.map fv, (ring, w9, ch), ev9)); rw [hPT] at h9; dsimp only at h9; omega
        have hw9 : w9 < 2 ^ 31 := by omega
        refine lv_iload_n hx hb d_V_tick_21 rfl (lv_at hl 0 rfl) ?_
        refine lv_iload_n hx hb d_V_tick_22 rfl (lv_at hl 3 rfl) ?_
        refine lv_icmp_ge (tgt := 50) hx hb d_V_tick_23 (by decide) (fun c23 => ?_) (fun c23 => ?_)
        · exact absurd c23 (by rw [hdn]; exact fun h => absurd ((nI_leI (by omega) (by omega)).mp h) (by omega))
        · skip
          refine lv_aload_n hx hb d_V_tick_26 rfl (lv_at hl 2 rfl) ?_
          refine lv_dup hx hb d_V_tick_27 rfl ?_
          refine t_get (v := .int day) hx hb hts inV hown hC 0 rfl rfl 3 (by decide) (hts _ w_100) (fun _ h => h) rfl d_V_tick_28 ?_
          refine lv_iconst (v := 1) hx hb d_V_tick_31 (by decide) ?_
          refine lv_iadd hx hb d_V_tick_32 ?_
          refine t_put (ty := .int) (v := .int (day + 1)) hx hb hts inV TV tyV nmV hown hC 0 rfl rfl 3 (by decide) (hts _ w_100) (fun _ h => h) rfl (by decide +kernel) rfl rfl (Nat.le_of_ble_eq_true rfl) d_V_tick_33 (fun H locs hC => ?_)
          have hC : tC D cls (ty0 ca) A (zz e0 A) s (wC K ca RL LP fv FR (day + 1) (nI ev9) mo (nI vs.length) ea (nI w9) ch ring (eo ++ rest)) H locs := hC
          obtain ⟨⟨rows1, ⟨ring1, wn1, ch1⟩, ev1⟩, hT1⟩ : ∃ z, p_vers (RL.map FR) (day + 1) vs.length 0 (vs.map fv, (ring, w9, ch), ev9) = z := ⟨_, rfl⟩
          have hlg := p_vers_lg (Rs := RL.map FR) (day := day + 1) (left := vs.length) (i := 0) (S := (vs.map fv, (ring, w9, ch), ev9))
          rw [hT1, List.length_map, hRL] at hlg
          dsimp only at hlg
          have hlen := p_vers_len (Rs := RL.map FR) (day := day + 1) (left := vs.length) (i := 0) (S := (vs.map fv, (ring, w9, ch), ev9)) (by show 0 + vs.length ≤ (vs.map fv).length; rw [List.length_map]; omega) (by rw [List.length_map]; exact h40)
          rw [hT1] at hlen
          dsimp only at hlen
          obtain ⟨⟨rows2, ⟨ring2, wn2, ch2⟩, ev2⟩, hT2⟩ : ∃ z, p_lone (day + 1) rows1.length 0 (rows1, (ring1, wn1, ch1), ev1) = z := ⟨_, rfl⟩
          have hlg2 := p_lone_lg (day := day + 1) (left := rows1.length) (i := 0) (S := (rows1, (ring1, wn1, ch1), ev1))
          rw [hT2] at hlg2
          dsimp only at hlg2
          obtain ⟨hlg3, hlg4, rfl⟩ := hlg2
          have hPT2 : p_tick (RL.map FR) k (day + 1) (rows2, (ring2, wn2, ch2), ev2) = T := by rw [← hPT]; show _ = p_tick (RL.map FR) k (day + 1) (p_day (RL.map FR) (day + 1) (vs.map fv, (ring, w9, ch), ev9)); unfold p_day; rw [show (vs.map fv, (ring, w9, ch), ev9).1.length = vs.length from List.length_map _, hT1]; show _ = p_tick (RL.map FR) k (day + 1) (p_lone (day + 1) rows1.length 0 (rows1, (ring1, wn1, ch1), _)); rw [hT2]
          have hevT := p_tick_ev (Rs := RL.map FR) (n := k) (day := day + 1) (S := (rows2, (ring2, wn2, ch2), ev2))
          rw [hPT2] at hevT
          dsimp only at hevT
          refine lv_aload_n hx hb d_V_tick_36 rfl (lv_at hl 2 rfl) ?_
          refine t_call (t_invV (As := []) (rest := []) hx hb hown (hts _ w_528) (hts _ w_530) (hts _ s_V_goThroughVersions) (hts _ w_531) ⟨by decide, by decide⟩ (t_recv (q0 := 0) hC rfl rfl) rfl d_V_tick_37) (c_V_goThroughVersions ⟨hLR, hvL, hnd, h40⟩ hw9 (pu := ev2 - ev9) hRL hT1 (by dsimp only; omega) (by omega)) zz_c tb_good hts w_1 hC (hl.1.trans hml.symm) ⟨by first | exact Nat.le_of_ble_eq_true rfl | omega | (dsimp only; omega), by first | exact Nat.le_of_ble_eq_true rfl | omega | (dsimp only; omega), by first | exact Nat.le_of_ble_eq_true rfl | omega | (dsimp only; omega), by first | exact Nat.le_of_ble_eq_true rfl | omega | (dsimp only; omega)⟩ (Nat.le_of_ble_eq_true rfl) (fun E q ce w1 H1 l1 hp => hp.elim) (fun v w1 H locs hp hC => ?_)
          obtain ⟨rfl, vs2, LP2, fv2, mo2, ea2, eo2, ⟨hLR, hvL, hnd, h40⟩, hrows2, -, hwe9⟩ := hp
          rw [hwe9] at hC
          dsimp only at hrows2
          have hl2 : vs2.length = rows1.length := by rw [← hrows2, List.length_map]
          have hC : tC D cls (ty0 ca) A (zz e0 A) s (wC K ca RL LP2 fv2 FR (day + 1) (nI ev2) mo2 (nI vs2.length) ea2 (nI wn1) ch1 ring1 (eo2 ++ rest)) H locs := hC
          refine W.eq (g2 := F0 m 40 ls []) rfl ?_
          refine lv_aload_n hx hb d_V_tick_40 rfl (lv_at hl 2 rfl) ?_
          refine t_call (t_invV (As := []) (rest := []) hx hb hown (hts _ w_558) (hts _ w_560) (hts _ s_V_takeLoneMarkersAway) (hts _ w_561) ⟨by decide, by decide⟩ (t_recv (q0 := 0) hC rfl rfl) rfl d_V_tick_41) (c_V_takeLoneMarkersAway (T := (rows2, (ring2, wn2, ch2), ev2)) ⟨hLR, hvL, hnd, h40⟩ (by omega) (by rw [hrows2, hl2]; exact hT2) (by omega)) zz_c tb_good hts w_1 hC (hl.1.trans hml.symm) ⟨by first | exact Nat.le_of_ble_eq_true rfl | omega | (dsimp only; omega), by first | exact Nat.le_of_ble_eq_true rfl | omega | (dsimp only; omega), by first | exact Nat.le_of_ble_eq_true rfl | omega | (dsimp only; omega), by first | exact Nat.le_of_ble_eq_true rfl | omega | (dsimp only; omega)⟩ (Nat.le_of_ble_eq_true rfl) (fun E q ce w1 H1 l1 hp => hp.elim) (fun v w1 H locs hp hC => ?_)
          obtain ⟨rfl, vs3, LP2, fv2, mo2, ea2, eo2, ⟨hLR, hvL, hnd, h40⟩, hrows2, -, hwe9⟩ := hp
          rw [hwe9] at hC
          have hC : tC D cls (ty0 ca) A (zz e0 A) s (wC K ca RL LP2 fv2 FR (day + 1) (nI ev2) mo2 (nI vs3.length) ea2 (nI wn2) ch2 ring2 (eo2 ++ rest)) H locs := hC
          refine W.eq (g2 := F0 m 44 ls []) rfl ?_
          refine lv_iinc (k := 0) (v := nI (i + 1)) (lv' := [(3, .int (nI (i + 1))), (2, .int b9), (0, .ref (K 0)), (1, .int days)]) hx hb d_V_tick_44 hl rfl (nI_1 i) (by decide) rfl (fun ls hl => ?_)
          refine lv_goto (tgt := 21) hx hb d_V_tick_47 (by decide) ?_
          refine t_more (c2 := (2 * (ev2 - ev0) + 1)) (s2 := (73 * (ev2 - ev0) + 6)) (by first | exact Nat.le_of_ble_eq_true rfl | omega | (dsimp only; omega)) (by first | exact Nat.le_of_ble_eq_true rfl | omega | (dsimp only; omega)) ?_
          exact ih (i + 1) (day + 1) vs3 LP2 fv2 mo2 ea2 eo2 wn2 ring2 ch2 ev2 ls H locs ⟨hLR, hvL, hnd, h40⟩ (by omega) (by omega) (by rw [← hd9, ← nI_1 k, Int32.add_assoc, Int32.add_comm 1]) (by omega) (by rw [hrows2]; exact hPT2) (lv_sub hl [0, 1, 2, 3] rfl) hC
    refine t_more (c2 := 2 * (ev9 - ev0) + 1) (s2 := 73 * (ev9 - ev0) + 6) (by first | exact Nat.le_of_ble_eq_true rfl | omega | (dsimp only; omega)) (by first | exact Nat.le_of_ble_eq_true rfl | omega | (dsimp only; omega)) ?_
    exact loop n9 0 day vs LP fv mo ea eo w9 ring ch ev9 ls _ _ ⟨hLR, hvL, hnd, h40⟩ (by omega) (by omega) hd9 (by omega) hT hl hC
