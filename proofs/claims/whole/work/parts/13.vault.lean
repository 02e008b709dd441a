/-! The vault: room, versions by number, the latest of a key. Laid by program (wip/whole/p13.py) -/
/-- the list of versions: as it lies, all of them pooled, each once, at most 40 -/
def cI (e0 : Nat → Nat) (ca : Nat → ClassId) (vs LP : List Nat) (ea : Nat) (eo : va_W) : Prop := LR e0 ca vs ea eo ∧ (∀ a ∈ vs, a ∈ LP) ∧ vs.Nodup ∧ vs.length ≤ 40

set_option maxRecDepth 100000 in
set_option maxHeartbeats 4000000 in
theorem c_V_isFull {l : Launch} {D : va_G} {A : Nat → Prop} {e0 : Nat → Nat} {K : Nat → Nat} {ca : Nat → ClassId} {RL LP : List Nat} {fv FR : Nat → RW} {day ever mo : Int32} {ea : Nat} {wr : Int32} {ch : Int64} {ring : Nat → Int32} {rest : va_W} {vs : List Nat} {eo : va_W} (hI : cI e0 ca vs LP ea eo) : tM l y_V_isFull tb ({ frames := 1, cells := 0, slots := 0, locals := 20 }) D cls (ty0 ca) A (zz e0 A) [.ref (K 0)] (wC K ca RL LP fv FR day ever mo (nI vs.length) ea wr ch ring (eo ++ rest)) (pR (.int (bI (40 ≤ vs.length))) (wC K ca RL LP fv FR day ever mo (nI vs.length) ea wr ch ring (eo ++ rest))) (xN) := by
  refine t_ofW (by decide) w_209 (Nat.le_of_ble_eq_true rfl) ?_
  intro p e s m below meth c ls hx hb hr hts hown hlk hnm hml hex hl hC
  have hown : s.vm.findClass "RetentionVault" = some m.cls := hown
  have hl : lv_has ls 1 [(0, .ref (K 0))] := hl
  obtain ⟨hLR, hvL, hnd, h40⟩ := hI
  refine lv_aload_n hx hb d_V_isFull_0 rfl (lv_at hl 0 rfl) ?_
  refine t_get (v := .ref (K 1)) hx hb hts inV hown hC 0 rfl rfl 0 (by decide) (hts _ w_97) (fun _ h => h) rfl d_V_isFull_1 ?_
  refine t_call (t_invV (As := []) (rest := []) hx hb hown (hts _ w_210) (hts _ w_211) (hts _ w_212) (hts _ w_213) ⟨by decide, by decide⟩ (t_recv (q0 := 1) hC rfl rfl) rfl d_V_isFull_4) c_A_size zz_c tb_good hts w_4 hC (hl.1.trans hml.symm) ⟨Nat.le_of_ble_eq_true rfl, Nat.le_of_ble_eq_true rfl, Nat.le_of_ble_eq_true rfl, Nat.le_of_ble_eq_true rfl⟩ (Nat.le_of_ble_eq_true rfl) (fun E q ce w1 H1 l1 hp => hp.elim) (fun v w1 H locs hp hC => ?_)
  obtain ⟨rfl, hwe9⟩ := hp
  rw [hwe9] at hC
  have hC : tC D cls (ty0 ca) A (zz e0 A) s (wC K ca RL LP fv FR day ever mo (nI vs.length) ea wr ch ring (eo ++ rest)) H locs := hC
  refine W.eq (g2 := F0 m 7 ls [.int (nI vs.length)]) rfl ?_
  refine lv_bipush (v := 40) hx hb d_V_isFull_7 (by decide) ?_
  refine lv_icmp_lt (tgt := 16) hx hb d_V_isFull_9 (by decide) (fun c9 => ?_) (fun c9 => ?_)
  · skip
    refine lv_iconst (v := 0) hx hb d_V_isFull_16 (by decide) ?_
    exact t_zret hx hb hr hlk (Or.inl rfl) zz_c hC (⟨by rw [bI_f (Nat.not_le.mpr ((nI_ltI (by omega) (by omega)).mp (show nI vs.length < nI 40 from c9)))], rfl⟩) (Nat.le_of_ble_eq_true rfl) (Nat.le_of_ble_eq_true rfl) d_V_isFull_17
  · skip
    refine lv_iconst (v := 1) hx hb d_V_isFull_12 (by decide) ?_
    refine lv_goto (tgt := 17) hx hb d_V_isFull_13 (by decide) ?_
    exact t_zret hx hb hr hlk (Or.inr rfl) zz_c hC (⟨by rw [bI_t (Nat.not_lt.mp (fun h => c9 ((nI_ltI (by omega) (by omega)).mpr h : nI vs.length < nI 40)))], rfl⟩) (Nat.le_of_ble_eq_true rfl) (Nat.le_of_ble_eq_true rfl) d_V_isFull_17

set_option maxRecDepth 100000 in
set_option maxHeartbeats 4000000 in
theorem c_V_demandRoom {l : Launch} (hst : l.stackTraces = false) {D : va_G} {A : Nat → Prop} {e0 : Nat → Nat} {K : Nat → Nat} {ca : Nat → ClassId} {RL LP : List Nat} {fv FR : Nat → RW} {day ever mo : Int32} {ea : Nat} {wr : Int32} {ch : Int64} {ring : Nat → Int32} {rest : va_W} {vs : List Nat} {eo : va_W} (hI : cI e0 ca vs LP ea eo) : tM l y_V_demandRoom tb ({ frames := 6, cells := 1, slots := 6, locals := 90 }) D cls (ty0 ca) A (zz e0 A) [.ref (K 0)] (wC K ca RL LP fv FR day ever mo (nI vs.length) ea wr ch ring (eo ++ rest)) (fun v w2 => v = none ∧ w2 = wC K ca RL LP fv FR day ever mo (nI vs.length) ea wr ch ring (eo ++ rest) ∧ vs.length < 40) (fun E w2 => E = "java/lang/IllegalStateException" ∧ w2 = wC K ca RL LP fv FR day ever mo (nI vs.length) ea wr ch ring (eo ++ rest) ∧ vs.length = 40) := by
  refine t_ofW (by decide) w_205 (Nat.le_of_ble_eq_true rfl) ?_
  intro p e s m below meth c ls hx hb hr hts hown hlk hnm hml hex hl hC
  have hown : s.vm.findClass "RetentionVault" = some m.cls := hown
  have hl : lv_has ls 1 [(0, .ref (K 0))] := hl
  obtain ⟨hLR, hvL, hnd, h40⟩ := hI
  refine lv_aload_n hx hb d_V_demandRoom_0 rfl (lv_at hl 0 rfl) ?_
  refine t_call (t_invV (As := []) (rest := []) hx hb hown (hts _ w_206) (hts _ w_208) (hts _ s_V_isFull) (hts _ w_209) ⟨by decide, by decide⟩ (t_recv (q0 := 0) hC rfl rfl) rfl d_V_demandRoom_1) (c_V_isFull ⟨hLR, hvL, hnd, h40⟩) zz_c tb_good hts w_1 hC (hl.1.trans hml.symm) ⟨Nat.le_of_ble_eq_true rfl, Nat.le_of_ble_eq_true rfl, Nat.le_of_ble_eq_true rfl, Nat.le_of_ble_eq_true rfl⟩ (Nat.le_of_ble_eq_true rfl) (fun E q ce w1 H1 l1 hp => hp.elim) (fun v w1 H locs hp hC => ?_)
  obtain ⟨rfl, hwe9⟩ := hp
  rw [hwe9] at hC
  have hC : tC D cls (ty0 ca) A (zz e0 A) s (wC K ca RL LP fv FR day ever mo (nI vs.length) ea wr ch ring (eo ++ rest)) H locs := hC
  refine W.eq (g2 := F0 m 4 ls [.int (bI (40 ≤ vs.length))]) rfl ?_
  refine lv_if_eq (tgt := 17) hx hb d_V_demandRoom_4 (by decide) (fun c4 => ?_) (fun c4 => ?_)
  · skip
    exact t_vret hx hb hr hlk zz_c hC (⟨rfl, rfl, Nat.not_le.mp (bI_ne.mp c4)⟩) (Nat.le_of_ble_eq_true rfl) (Nat.le_of_ble_eq_true rfl) d_V_demandRoom_17
  · skip
    exact t_throw (by9 := prog_11_method_2_code) (ix := 7) (Y9 := "java/lang/RuntimeException") (r9 := ["java/lang/Exception"]) (text := "there are 40 versions") hx hb hst (by decide +kernel) (by decide +kernel) (by decide +kernel) (by decide +kernel) hown tb_good hts (by decide) (by decide) (by decide) w_214 w_12 (zz_str hC.2.2.2.2.2 (by decide +kernel)) at_ISE zz_c zz_X4 hC (hl.1.trans hml.symm) hex hlk d_V_demandRoom_7 d_V_demandRoom_10 d_V_demandRoom_11 d_V_demandRoom_13 d_V_demandRoom_16 ⟨Nat.le_of_ble_eq_true rfl, Nat.le_of_ble_eq_true rfl, Nat.le_of_ble_eq_true rfl, Nat.le_of_ble_eq_true rfl⟩ (Nat.le_of_ble_eq_true rfl) (Nat.le_of_ble_eq_true rfl) (⟨rfl, rfl, Nat.le_antisymm h40 (Classical.not_not.mp (fun h => c4 (bI_ne.mpr h)))⟩)

theorem vn_step {vs : List Nat} {fv : Nat → RW} {number : Int32} {i a : Nat} (hi : vs[i]? = some a) (hno : ∀ j b, j < i → vs[j]? = some b → fv b 0 ≠ number) (h : ¬ fv a 0 = number) : ∀ j b, j < i + 1 → vs[j]? = some b → fv b 0 ≠ number := by
  intro j b hj hb
  by_cases e : j = i
  · subst e
    rw [hi] at hb
    cases hb
    exact h
  · exact hno j b (by omega) hb
theorem vn_none {vs : List Nat} {fv : Nat → RW} {number : Int32} (hno : ∀ j b, j < vs.length → vs[j]? = some b → fv b 0 ≠ number) : vs.find? (fun a => decide (fv a 0 = number)) = none := by
  rw [List.find?_eq_none]
  intro x hx
  obtain ⟨j, hj⟩ := List.getElem?_of_mem hx
  have := hno j x (List.getElem?_eq_some_iff.mp hj).1 hj
  simp [this]
theorem vn_some {vs : List Nat} {fv : Nat → RW} {number : Int32} {i a : Nat} (hi : vs[i]? = some a) (hno : ∀ j b, j < i → vs[j]? = some b → fv b 0 ≠ number) (h : fv a 0 = number) : vs.find? (fun a => decide (fv a 0 = number)) = some a := by
  obtain ⟨hl, he⟩ := List.getElem?_eq_some_iff.mp hi
  rw [List.find?_eq_some_iff_getElem]
  refine ⟨by simpa using h, i, hl, he, fun j hj => ?_⟩
  have := hno j _ hj (List.getElem?_eq_getElem (by omega))
  simp [this]

set_option maxRecDepth 100000 in
set_option maxHeartbeats 4000000 in
theorem c_V_versionNumbered {l : Launch} (hst : l.stackTraces = false) {D : va_G} {A : Nat → Prop} {e0 : Nat → Nat} {K : Nat → Nat} {ca : Nat → ClassId} {RL LP : List Nat} {fv FR : Nat → RW} {day ever mo : Int32} {ea : Nat} {wr : Int32} {ch : Int64} {ring : Nat → Int32} {rest : va_W} {vs : List Nat} {eo : va_W} (hI : cI e0 ca vs LP ea eo) {number : Int32} : tM l y_V_versionNumbered tb ({ frames := 6, cells := 1, slots := 6, locals := 90 }) D cls (ty0 ca) A (zz e0 A) [.ref (K 0), .int number] (wC K ca RL LP fv FR day ever mo (nI vs.length) ea wr ch ring (eo ++ rest)) (fun v w2 => ∃ a, vs.find? (fun a => decide (fv a 0 = number)) = some a ∧ v = some (.ref a) ∧ w2 = wC K ca RL LP fv FR day ever mo (nI vs.length) ea wr ch ring (eo ++ rest)) (fun E w2 => E = "java/util/NoSuchElementException" ∧ w2 = wC K ca RL LP fv FR day ever mo (nI vs.length) ea wr ch ring (eo ++ rest) ∧ vs.find? (fun a => decide (fv a 0 = number)) = none) := by
  refine t_ofW (by decide) w_426 (Nat.le_of_ble_eq_true rfl) ?_
  intro p e s m below meth c ls hx hb hr hts hown hlk hnm hml hex hl hC
  have hown : s.vm.findClass "RetentionVault" = some m.cls := hown
  have hl : lv_has ls 4 [(0, .ref (K 0)), (1, .int number)] := hl
  obtain ⟨hLR, hvL, hnd, h40⟩ := hI
  refine lv_iconst (v := 0) hx hb d_V_versionNumbered_0 (by decide) ?_
  refine lv_istore_n (lv' := [(2, .int 0), (0, .ref (K 0)), (1, .int number)]) hx hb d_V_versionNumbered_1 rfl hl (by decide) rfl (fun ls hl => ?_)
  have loop : ∀ (k i : Nat) (ls : Array Slot) (H : Heap) (locs : List Loc), vs.length - i = k → i ≤ vs.length → (∀ j b, j < i → vs[j]? = some b → fv b 0 ≠ number) → lv_has ls 4 [(2, .int (nI i)), (0, .ref (K 0)), (1, .int number)] → tC D cls (ty0 ca) A (zz e0 A) s (wC K ca RL LP fv FR day ever mo (nI vs.length) ea wr ch ring (eo ++ rest)) H locs → tB p l e ({ frames := 6, cells := 1, slots := 6, locals := 90 }) s m [.ref (K 0), .int number] below meth c D (ty0 ca) A (zz e0 A) (fun v w2 => ∃ a, vs.find? (fun a => decide (fv a 0 = number)) = some a ∧ v = some (.ref a) ∧ w2 = wC K ca RL LP fv FR day ever mo (nI vs.length) ea wr ch ring (eo ++ rest)) (fun E w2 => E = "java/util/NoSuchElementException" ∧ w2 = wC K ca RL LP fv FR day ever mo (nI vs.length) ea wr ch ring (eo ++ rest) ∧ vs.find? (fun a => decide (fv a 0 = number)) = none) H locs 0 0 (F0 m 2 ls []) := by
    intro k
    induction k using Nat.strongRecOn with
    | ind k ih =>
      intro i ls H locs hk hle hno hl hC
      refine lv_iload_n hx hb d_V_versionNumbered_2 rfl (lv_at hl 0 rfl) ?_
      refine lv_aload_n hx hb d_V_versionNumbered_3 rfl (lv_at hl 1 rfl) ?_
      refine t_get (v := .ref (K 1)) hx hb hts inV hown hC 0 rfl rfl 0 (by decide) (hts _ w_97) (fun _ h => h) rfl d_V_versionNumbered_4 ?_
      refine t_call (t_invV (As := []) (rest := [.int (nI i)]) hx hb hown (hts _ w_210) (hts _ w_211) (hts _ w_212) (hts _ w_213) ⟨by decide, by decide⟩ (t_recv (q0 := 1) hC rfl rfl) rfl d_V_versionNumbered_7) c_A_size zz_c tb_good hts w_4 hC (hl.1.trans hml.symm) ⟨Nat.le_of_ble_eq_true rfl, Nat.le_of_ble_eq_true rfl, Nat.le_of_ble_eq_true rfl, Nat.le_of_ble_eq_true rfl⟩ (Nat.le_of_ble_eq_true rfl) (fun E q ce w1 H1 l1 hp => hp.elim) (fun v w1 H locs hp hC => ?_)
      obtain ⟨rfl, hwe9⟩ := hp
      rw [hwe9] at hC
      have hC : tC D cls (ty0 ca) A (zz e0 A) s (wC K ca RL LP fv FR day ever mo (nI vs.length) ea wr ch ring (eo ++ rest)) H locs := hC
      refine W.eq (g2 := F0 m 10 ls [.int (nI vs.length), .int (nI i)]) rfl ?_
      refine lv_icmp_ge (tgt := 41) hx hb d_V_versionNumbered_10 (by decide) (fun c10 => ?_) (fun c10 => ?_)
      · skip
        have hil : i = vs.length := Nat.le_antisymm hle ((nI_leI (by omega) (by omega)).mp c10)
        exact t_throw (by9 := prog_25_method_4_code) (ix := 13) (Y9 := "java/lang/RuntimeException") (r9 := ["java/lang/Exception"]) (text := "there is no version with this number") hx hb hst (by decide +kernel) (by decide +kernel) (by decide +kernel) (by decide +kernel) hown tb_good hts (by decide) (by decide) (by decide) w_400 w_20 (zz_str hC.2.2.2.2.2 (by decide +kernel)) at_NSE zz_c zz_X4 hC (hl.1.trans hml.symm) hex hlk d_V_versionNumbered_41 d_V_versionNumbered_44 d_V_versionNumbered_45 d_V_versionNumbered_47 d_V_versionNumbered_50 ⟨Nat.le_of_ble_eq_true rfl, Nat.le_of_ble_eq_true rfl, Nat.le_of_ble_eq_true rfl, Nat.le_of_ble_eq_true rfl⟩ (Nat.le_of_ble_eq_true rfl) (Nat.le_of_ble_eq_true rfl) (⟨rfl, rfl, vn_none (by rw [← hil]; exact hno)⟩)
      · skip
        have hil : i < vs.length := Nat.not_le.mp (fun h => c10 ((nI_leI (by omega) (by omega)).mpr h))
        obtain ⟨a, hi⟩ : ∃ a, vs[i]? = some a := ⟨vs[i], List.getElem?_eq_getElem hil⟩
        have ha : a ∈ LP := hvL a (List.mem_of_getElem? hi)
        refine lv_aload_n hx hb d_V_versionNumbered_13 rfl (lv_at hl 1 rfl) ?_
        refine t_get (v := .ref (K 1)) hx hb hts inV hown hC 0 rfl rfl 0 (by decide) (hts _ w_97) (fun _ h => h) rfl d_V_versionNumbered_14 ?_
        refine lv_iload_n hx hb d_V_versionNumbered_17 rfl (lv_at hl 0 rfl) ?_
        refine t_call (t_invV (As := [.int (nI i)]) (rest := []) hx hb hown (hts _ w_301) (hts _ w_302) (hts _ w_303) (hts _ w_304) ⟨by decide, by decide⟩ (t_recv (q0 := 1) hC rfl rfl) rfl d_V_versionNumbered_18) (c_A_get hLR hi) zz_c tb_good hts w_4 hC (hl.1.trans hml.symm) ⟨Nat.le_of_ble_eq_true rfl, Nat.le_of_ble_eq_true rfl, Nat.le_of_ble_eq_true rfl, Nat.le_of_ble_eq_true rfl⟩ (Nat.le_of_ble_eq_true rfl) (fun E q ce w1 H1 l1 hp => hp.elim) (fun v w1 H locs hp hC => ?_)
        obtain ⟨rfl, hwe9⟩ := hp
        rw [hwe9] at hC
        have hC : tC D cls (ty0 ca) A (zz e0 A) s (wC K ca RL LP fv FR day ever mo (nI vs.length) ea wr ch ring (eo ++ rest)) H locs := hC
        refine W.eq (g2 := F0 m 21 ls [.ref a]) rfl ?_
        refine va_castY (C := "RetentionVault$Version") hx hb hown (hts _ w_230) (hC.2.2.2.2.2.2.2.2.2.1 ("RetentionVault$Version", "RetentionVault$Version") (by decide +kernel)) (t_recvP hC ha rfl rfl) d_V_versionNumbered_21 ?_
        refine lv_astore_n (lv' := [(3, .ref a), (2, .int (nI i)), (0, .ref (K 0)), (1, .int number)]) hx hb d_V_versionNumbered_24 rfl hl (by decide) rfl (fun ls hl => ?_)
        refine lv_aload_n hx hb d_V_versionNumbered_25 rfl (lv_at hl 0 rfl) ?_
        refine t_getP hx hb hts inN hown hC ha rfl 0 (by decide) (hts _ w_237) (fun _ h => h) d_V_versionNumbered_26 ?_
        refine lv_iload_n hx hb d_V_versionNumbered_29 rfl (lv_at hl 3 rfl) ?_
        refine lv_icmp_ne (tgt := 35) hx hb d_V_versionNumbered_30 (by decide) (fun c30 => ?_) (fun c30 => ?_)
        · skip
          refine lv_iinc (k := 1) (v := nI (i + 1)) (lv' := [(2, .int (nI (i + 1))), (3, .ref a), (0, .ref (K 0)), (1, .int number)]) hx hb d_V_versionNumbered_35 hl rfl (nI_1 i) (by decide) rfl (fun ls hl => ?_)
          refine lv_goto (tgt := 2) hx hb d_V_versionNumbered_38 (by decide) ?_
          exact ih (vs.length - (i + 1)) (by omega) (i + 1) ls H locs rfl (by omega) (vn_step hi hno c30) (lv_sub hl [0, 2, 3] rfl) hC
        · skip
          refine lv_aload_n hx hb d_V_versionNumbered_33 rfl (lv_at hl 0 rfl) ?_
          exact t_aret (r := some a) hx hb hr (Or.inl ⟨_, rfl⟩) hlk zz_c hC (⟨a, vn_some hi hno c30, rfl, rfl⟩) (Nat.le_of_ble_eq_true rfl) (Nat.le_of_ble_eq_true rfl) d_V_versionNumbered_34
  exact loop _ 0 ls _ _ rfl (by omega) (fun j b h => absurd h (by omega)) hl hC
