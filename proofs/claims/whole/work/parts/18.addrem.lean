/-! The list: add and remove, as lists. Laid by program (wip/whole/p18.py) -/
theorem t_monoM {l : Launch} {y : MethodName} {Ts : List Cond} {rm : Room} {D : va_G} {cl : List vw_C} {tys : List (ClassId × FieldType)} {A : Nat → Prop} {Z : State → Heap → Prop} {av : List Value} {w0 : va_W} {Po Po' : Option Value → va_W → Prop} {Xo Xo' : String → va_W → Prop} (h : tM l y Ts rm D cl tys A Z av w0 Po Xo) (hP : ∀ v w, Po v w → Po' v w) (hX : ∀ E w, Xo E w → Xo' E w) : tM l y Ts rm D cl tys A Z av w0 Po' Xo' := by
  intro p e h1 h2 h3 s m args below hf ha hPre hK
  obtain ⟨n, o, a1, a2, a3, a4⟩ := h p e h1 h2 h3 s m args below hf ha hPre hK
  refine ⟨n, o, a1, a2, a3, ?_⟩
  rcases a4 with ⟨v, b1, ⟨b2, w, b3, b4⟩, b5⟩ | ⟨q, E, ce, L, b1, ⟨b2, w, b3, b4⟩, b5⟩
  · exact Or.inl ⟨v, b1, ⟨b2, w, hP v w b3, b4⟩, b5⟩
  · exact Or.inr ⟨q, E, ce, L, b1, ⟨b2, w, hX E w b3, b4⟩, b5⟩
theorem el_add {vs : List Nat} {f : Nat → Option Nat} {a : Nat} (h : ∀ i, i < vs.length → f i = vs[i]?) : ∀ i, i < (vs ++ [a]).length → va_up f vs.length (some a) i = (vs ++ [a])[i]? := by
  intro i hi
  rw [List.length_append, List.length_singleton] at hi
  by_cases e : i = vs.length
  · subst e; simp [va_up]
  · rw [List.getElem?_append_left (by omega)]
    simp only [va_up, if_neg e]
    exact h i (by omega)
theorem el_cpy {f g : Nat → Option Nat} {n i : Nat} (h : i < n) : va_cpy f g 0 0 n i = f i := by
  simp only [va_cpy, Nat.zero_add]
  rw [if_pos ⟨by omega, h⟩]
  rfl
theorem nI_subN {a b : Nat} (h : b ≤ a) : nI a - nI b = nI (a - b) := by
  have e : nI a = nI (a - b) + nI b := by rw [nI_add, Nat.sub_add_cancel h]
  rw [e, Int32.add_sub_cancel]
theorem el_rem {vs : List Nat} {f : Nat → Option Nat} {i k : Nat} (hk : vs.length = k + 1) (hik : i ≤ k) (h : ∀ j, j < vs.length → f j = vs[j]?) : ∀ j, j < (vs.eraseIdx i).length → va_up (va_cpy f f (i + 1) i (k - i)) k none j = (vs.eraseIdx i)[j]? := by
  intro j hj
  rw [List.length_eraseIdx, if_pos (by omega)] at hj
  rw [List.getElem?_eraseIdx]
  simp only [va_up, va_cpy]
  rw [if_neg (by omega)]
  by_cases hji : j < i
  · rw [if_neg (by omega), if_pos hji]; exact h j (by omega)
  · rw [if_pos (by omega), if_neg hji, show i + 1 + (j - i) = j + 1 by omega]; exact h (j + 1) (by omega)
theorem cpy0 {f : Nat → Option Nat} {k : Nat} : va_cpy f f (k + 1) k 0 = f := by
  funext j
  simp only [va_cpy]
  rw [if_neg (by omega)]

set_option maxRecDepth 100000 in
set_option maxHeartbeats 4000000 in
theorem c_A_add1_E2 {l : Launch} {D : va_G} {A : Nat → Prop} {e0 : Nat → Nat} {K : Nat → Nat} {ca : Nat → ClassId} {RL LP : List Nat} {fv FR : Nat → RW} {day ever mo : Int32} {wr : Int32} {ch : Int64} {ring : Nat → Int32} {rest : va_W} {a : Nat} (ha : a ∈ LP) : tM l y_A_add1 tb ({ frames := 5, cells := 1, slots := 60, locals := 127 }) D cls (ty0 ca) A (zz e0 A) [.ref (K 1), .ref a, .ref (e0 0), .int (nI 0)] (wC K ca RL LP fv FR day ever mo (nI 0) (e0 0) wr ch ring rest) (fun v w2 => v = none ∧ ∃ q, w2 = wC K ca RL LP fv FR day ever mo (nI (0 + 1)) q wr ch ring ((q, .inl (ca 3, 10, .inr (.inr (.inr (.inr (va_up (fun _ => none) 0 (some a))))))) :: rest)) (xN) := by
  refine t_ofW (by decide) w_322 (Nat.le_of_ble_eq_true rfl) ?_
  intro p e s m below meth c ls hx hb hr hts hown hlk hnm hml hex hl hC
  have hown : s.vm.findClass "java/util/ArrayList" = some m.cls := hown
  have hl : lv_has ls 4 [(0, .ref (K 1)), (1, .ref a), (2, .ref (e0 0)), (3, .int (nI 0))] := hl
  refine lv_iload_n hx hb d_A_add1_0 rfl (lv_at hl 3 rfl) ?_
  refine lv_aload_n hx hb d_A_add1_1 rfl (lv_at hl 2 rfl) ?_
  refine t_alen0 hx hb hC d_A_add1_2 ?_
  refine lv_icmp_ne (tgt := 11) hx hb d_A_add1_3 (by decide) (fun c3 => ?_) (fun c3 => ?_)
  · exact absurd rfl c3
  · skip
    refine lv_aload_n hx hb d_A_add1_6 rfl (lv_at hl 0 rfl) ?_
    refine t_call (t_invV (As := []) (rest := []) hx hb hown (hts _ w_323) (hts _ w_325) (hts _ s_A_grow0) (hts _ w_326) ⟨by decide, by decide⟩ (t_recv (q0 := 1) hC rfl rfl) rfl d_A_add1_7) c_A_grow0_E zz_c tb_good hts w_4 hC (hl.1.trans hml.symm) ⟨Nat.le_of_ble_eq_true rfl, Nat.le_of_ble_eq_true rfl, Nat.le_of_ble_eq_true rfl, Nat.le_of_ble_eq_true rfl⟩ (Nat.le_of_ble_eq_true rfl) (fun E q ce w1 H1 l1 hp => hp.elim) (fun v w1 H locs hp hC => ?_)
    obtain ⟨q, rfl, hwe9⟩ := hp
    rw [hwe9] at hC
    have hC : tC D cls (ty0 ca) A (zz e0 A) s (wC K ca RL LP fv FR day ever mo (nI 0) q wr ch ring ((q, .inl (ca 3, 10, .inr (.inr (.inr (.inr (fun _ => none)))))) :: rest)) H locs := hC
    refine W.eq (g2 := F0 m 10 ls [.ref q]) rfl ?_
    refine lv_astore_n (lv' := [(2, .ref q), (0, .ref (K 1)), (1, .ref a), (3, .int (nI 0))]) hx hb d_A_add1_10 rfl hl (by decide) rfl (fun ls hl => ?_)
    refine lv_aload_n hx hb d_A_add1_11 rfl (lv_at hl 0 rfl) ?_
    refine lv_iload_n hx hb d_A_add1_12 rfl (lv_at hl 3 rfl) ?_
    refine lv_aload_n hx hb d_A_add1_13 rfl (lv_at hl 2 rfl) ?_
    obtain ⟨qk, hqk⟩ := wC_N (ex := [(q, .inl (ca 3, 10, .inr (.inr (.inr (.inr (fun _ => none))))))]) (wC_out hC) ha
    have hC := wC_out hC
    refine t_astqO hx hb hC 0 3 qk 3 rfl rfl (zz_cast hC.2.2.2.2.2 (by decide +kernel)) hqk rfl (vp_in_nI (by omega) (by omega)) d_A_add1_14 (fun H locs hC => ?_)
    rw [nI_clamp (by omega)] at hC
    have hC := wC_in hC
    have hC : tC D cls (ty0 ca) A (zz e0 A) s (wC K ca RL LP fv FR day ever mo (nI 0) q wr ch ring ((q, .inl (ca 3, 10, .inr (.inr (.inr (.inr (va_up (fun _ => none) 0 (some a))))))) :: rest)) H locs := hC
    refine lv_aload_n hx hb d_A_add1_15 rfl (lv_at hl 1 rfl) ?_
    refine lv_iload_n hx hb d_A_add1_16 rfl (lv_at hl 3 rfl) ?_
    refine lv_iconst (v := 1) hx hb d_A_add1_17 (by decide) ?_
    refine lv_iadd hx hb d_A_add1_18 ?_
    rw [nI_1]
    refine t_put (ty := .int) (v := .int (nI (0 + 1))) hx hb hts inA TA tyA nmA hown hC 1 rfl rfl 2 (by decide) (hts _ w_45) (fun _ h => h) rfl (by decide +kernel) rfl rfl (Nat.le_of_ble_eq_true rfl) d_A_add1_19 (fun H locs hC => ?_)
    have hC : tC D cls (ty0 ca) A (zz e0 A) s (wC K ca RL LP fv FR day ever mo (nI (0 + 1)) q wr ch ring ((q, .inl (ca 3, 10, .inr (.inr (.inr (.inr (va_up (fun _ => none) 0 (some a))))))) :: rest)) H locs := hC
    exact t_vret hx hb hr hlk zz_c hC (⟨rfl, q, rfl⟩) (Nat.le_of_ble_eq_true rfl) (Nat.le_of_ble_eq_true rfl) d_A_add1_22

set_option maxRecDepth 100000 in
set_option maxHeartbeats 4000000 in
theorem c_A_add1_N2 {l : Launch} {D : va_G} {A : Nat → Prop} {e0 : Nat → Nat} {K : Nat → Nat} {ca : Nat → ClassId} {RL LP : List Nat} {fv FR : Nat → RW} {day ever mo : Int32} {ea : Nat} {wr : Int32} {ch : Int64} {ring : Nat → Int32} {rest : va_W} {vs : List Nat} {cap : Nat} {el : Nat → Option Nat} (hvc : vs.length < cap) (hc60 : cap ≤ 60) {a : Nat} (ha : a ∈ LP) : tM l y_A_add1 tb ({ frames := 5, cells := 1, slots := 60, locals := 127 }) D cls (ty0 ca) A (zz e0 A) [.ref (K 1), .ref a, .ref ea, .int (nI vs.length)] (wC K ca RL LP fv FR day ever mo (nI vs.length) ea wr ch ring ((ea, .inl (ca 3, cap, .inr (.inr (.inr (.inr el))))) :: rest)) (fun v w2 => v = none ∧ w2 = wC K ca RL LP fv FR day ever mo (nI (vs.length + 1)) ea wr ch ring ((ea, .inl (ca 3, cap, .inr (.inr (.inr (.inr (va_up el vs.length (some a))))))) :: rest)) (xN) := by
  refine t_ofW (by decide) w_322 (Nat.le_of_ble_eq_true rfl) ?_
  intro p e s m below meth c ls hx hb hr hts hown hlk hnm hml hex hl hC
  have hown : s.vm.findClass "java/util/ArrayList" = some m.cls := hown
  have hl : lv_has ls 4 [(0, .ref (K 1)), (1, .ref a), (2, .ref ea), (3, .int (nI vs.length))] := hl
  refine lv_iload_n hx hb d_A_add1_0 rfl (lv_at hl 3 rfl) ?_
  refine lv_aload_n hx hb d_A_add1_1 rfl (lv_at hl 2 rfl) ?_
  obtain ⟨q0, hq0⟩ : ∃ k, (wC K ca RL LP fv FR day ever mo (nI vs.length) ea wr ch ring ((ea, .inl (ca 3, cap, .inr (.inr (.inr (.inr el))))) :: rest))[k]? = some ((ea, .inl (ca 3, cap, .inr (.inr (.inr (.inr el))))) : Nat × va_E) := List.getElem?_of_mem (by simp [wC])
  refine t_alen (v := nI cap) hx hb hC q0 3 hq0 rfl rfl d_A_add1_2 ?_
  refine lv_icmp_ne (tgt := 11) hx hb d_A_add1_3 (by decide) (fun c3 => ?_) (fun c3 => ?_)
  · skip
    refine lv_aload_n hx hb d_A_add1_11 rfl (lv_at hl 2 rfl) ?_
    refine lv_iload_n hx hb d_A_add1_12 rfl (lv_at hl 3 rfl) ?_
    refine lv_aload_n hx hb d_A_add1_13 rfl (lv_at hl 1 rfl) ?_
    obtain ⟨qk, hqk⟩ := wC_N (ex := [(ea, .inl (ca 3, cap, .inr (.inr (.inr (.inr el)))))]) (wC_out hC) ha
    have hC := wC_out hC
    refine t_astqO hx hb hC 0 3 qk 3 rfl rfl (zz_cast hC.2.2.2.2.2 (by decide +kernel)) hqk rfl (vp_in_nI (by omega) (by omega)) d_A_add1_14 (fun H locs hC => ?_)
    rw [nI_clamp (by omega)] at hC
    have hC := wC_in hC
    have hC : tC D cls (ty0 ca) A (zz e0 A) s (wC K ca RL LP fv FR day ever mo (nI vs.length) ea wr ch ring ((ea, .inl (ca 3, cap, .inr (.inr (.inr (.inr (va_up el vs.length (some a))))))) :: rest)) H locs := hC
    refine lv_aload_n hx hb d_A_add1_15 rfl (lv_at hl 0 rfl) ?_
    refine lv_iload_n hx hb d_A_add1_16 rfl (lv_at hl 3 rfl) ?_
    refine lv_iconst (v := 1) hx hb d_A_add1_17 (by decide) ?_
    refine lv_iadd hx hb d_A_add1_18 ?_
    rw [nI_1]
    refine t_put (ty := .int) (v := .int (nI (vs.length + 1))) hx hb hts inA TA tyA nmA hown hC 1 rfl rfl 2 (by decide) (hts _ w_45) (fun _ h => h) rfl (by decide +kernel) rfl rfl (Nat.le_of_ble_eq_true rfl) d_A_add1_19 (fun H locs hC => ?_)
    have hC : tC D cls (ty0 ca) A (zz e0 A) s (wC K ca RL LP fv FR day ever mo (nI (vs.length + 1)) ea wr ch ring ((ea, .inl (ca 3, cap, .inr (.inr (.inr (.inr (va_up el vs.length (some a))))))) :: rest)) H locs := hC
    exact t_vret hx hb hr hlk zz_c hC (⟨rfl, rfl⟩) (Nat.le_of_ble_eq_true rfl) (Nat.le_of_ble_eq_true rfl) d_A_add1_22
  · exact absurd ((nI_eq (by omega) (by omega)).mp c3) (by omega)

theorem c_A_add1 {l : Launch} {D : va_G} {A : Nat → Prop} {e0 : Nat → Nat} {K : Nat → Nat} {ca : Nat → ClassId} {RL LP : List Nat} {fv FR : Nat → RW} {day ever mo : Int32} {ea : Nat} {wr : Int32} {ch : Int64} {ring : Nat → Int32} {rest : va_W} {vs : List Nat} {eo : va_W} {a : Nat} (hLR : LR e0 ca vs ea eo) (hvL : ∀ y ∈ vs, y ∈ LP) (hv40 : vs.length < 40) (ha : a ∈ LP) : tM l y_A_add1 tb ({ frames := 5, cells := 1, slots := 60, locals := 127 }) D cls (ty0 ca) A (zz e0 A) [.ref (K 1), .ref a, .ref ea, .int (nI vs.length)] (wC K ca RL LP fv FR day ever mo (nI vs.length) ea wr ch ring (eo ++ rest)) (fun v w2 => v = none ∧ ∃ ea2 eo2, LR e0 ca (vs ++ [a]) ea2 eo2 ∧ w2 = wC K ca RL LP fv FR day ever mo (nI (vs.length + 1)) ea2 wr ch ring (eo2 ++ rest)) xN := by
  rcases hLR with ⟨rfl, rfl, rfl⟩ | ⟨cap, el, rfl, hlc, hc, hel⟩
  · refine t_monoM (c_A_add1_E2 ha) ?_ (fun _ _ h => h)
    rintro v w2 ⟨rfl, q, rfl⟩
    exact ⟨rfl, q, _, Or.inr ⟨10, _, rfl, by simp, by omega, el_add (vs := []) (f := fun _ => none) (fun i hi => absurd hi (by simp))⟩, rfl⟩
  · by_cases h : vs.length = cap
    · subst h
      refine t_monoM (c_A_add1_F hc.1 hv40 (fun i y hi hy => hvL y (List.mem_of_getElem? ((hel i hi).symm.trans hy))) ha) ?_ (fun _ _ h => h)
      rintro v w2 ⟨rfl, q, rfl⟩
      exact ⟨rfl, q, _, Or.inr ⟨_, _, rfl, by rw [List.length_append, List.length_singleton]; omega, by omega, el_add (fun i hi => (el_cpy hi).trans (hel i hi))⟩, rfl⟩
    · refine t_monoM (c_A_add1_N2 (by omega) hc.2 ha) ?_ (fun _ _ h => h)
      rintro v w2 ⟨rfl, rfl⟩
      exact ⟨rfl, ea, _, Or.inr ⟨cap, _, rfl, by rw [List.length_append, List.length_singleton]; omega, hc, el_add hel⟩, rfl⟩

set_option maxRecDepth 100000 in
set_option maxHeartbeats 4000000 in
theorem c_A_add0 {l : Launch} {D : va_G} {A : Nat → Prop} {e0 : Nat → Nat} {K : Nat → Nat} {ca : Nat → ClassId} {RL LP : List Nat} {fv FR : Nat → RW} {day ever mo : Int32} {ea : Nat} {wr : Int32} {ch : Int64} {ring : Nat → Int32} {rest : va_W} {vs : List Nat} {eo : va_W} {a : Nat} (hLR : LR e0 ca vs ea eo) (hvL : ∀ y ∈ vs, y ∈ LP) (hv40 : vs.length < 40) (ha : a ∈ LP) : tM l y_A_add0 tb ({ frames := 6, cells := 1, slots := 60, locals := 150 }) D cls (ty0 ca) A (zz e0 A) [.ref (K 1), .ref a] (wC K ca RL LP fv FR day ever mo (nI vs.length) ea wr ch ring (eo ++ rest)) (fun v w2 => v = some (.int 1) ∧ ∃ ea2 eo2, LR e0 ca (vs ++ [a]) ea2 eo2 ∧ w2 = wC K ca RL LP fv FR day ever (mo + 1) (nI (vs.length + 1)) ea2 wr ch ring (eo2 ++ rest)) (xN) := by
  refine t_ofW (by decide) w_318 (Nat.le_of_ble_eq_true rfl) ?_
  intro p e s m below meth c ls hx hb hr hts hown hlk hnm hml hex hl hC
  have hown : s.vm.findClass "java/util/ArrayList" = some m.cls := hown
  have hl : lv_has ls 2 [(0, .ref (K 1)), (1, .ref a)] := hl
  refine lv_aload_n hx hb d_A_add0_0 rfl (lv_at hl 0 rfl) ?_
  refine lv_dup hx hb d_A_add0_1 rfl ?_
  refine t_get (v := .int mo) hx hb hts inA hown hC 1 rfl rfl 0 (by decide) (hts _ w_47) (fun x9 h9 => u_same (hts _ w_48) x9 h9) rfl d_A_add0_2 ?_
  refine lv_iconst (v := 1) hx hb d_A_add0_5 (by decide) ?_
  refine lv_iadd hx hb d_A_add0_6 ?_
  refine t_put (ty := .int) (v := .int (mo + 1)) hx hb hts inA TA tyA nmA hown hC 1 rfl rfl 0 (by decide) (hts _ w_47) (fun x9 h9 => u_same (hts _ w_48) x9 h9) rfl (by decide +kernel) rfl rfl (Nat.le_of_ble_eq_true rfl) d_A_add0_7 (fun H locs hC => ?_)
  have hC : tC D cls (ty0 ca) A (zz e0 A) s (wC K ca RL LP fv FR day ever (mo + 1) (nI vs.length) ea wr ch ring (eo ++ rest)) H locs := hC
  refine lv_aload_n hx hb d_A_add0_10 rfl (lv_at hl 0 rfl) ?_
  refine lv_aload_n hx hb d_A_add0_11 rfl (lv_at hl 1 rfl) ?_
  refine lv_aload_n hx hb d_A_add0_12 rfl (lv_at hl 0 rfl) ?_
  refine t_get (v := .ref ea) hx hb hts inA hown hC 1 rfl rfl 1 (by decide) (hts _ w_44) (fun _ h => h) rfl d_A_add0_13 ?_
  refine lv_aload_n hx hb d_A_add0_16 rfl (lv_at hl 0 rfl) ?_
  refine t_get (v := .int (nI vs.length)) hx hb hts inA hown hC 1 rfl rfl 2 (by decide) (hts _ w_45) (fun _ h => h) rfl d_A_add0_17 ?_
  refine t_call (t_invV (As := [.ref a, .ref ea, .int (nI vs.length)]) (rest := []) hx hb hown (hts _ w_319) (hts _ w_321) (hts _ s_A_add1) (hts _ w_322) ⟨by decide, by decide⟩ (t_recv (q0 := 1) hC rfl rfl) rfl d_A_add0_20) (c_A_add1 hLR hvL hv40 ha) zz_c tb_good hts w_4 hC (hl.1.trans hml.symm) ⟨Nat.le_of_ble_eq_true rfl, Nat.le_of_ble_eq_true rfl, Nat.le_of_ble_eq_true rfl, Nat.le_of_ble_eq_true rfl⟩ (Nat.le_of_ble_eq_true rfl) (fun E q ce w1 H1 l1 hp => hp.elim) (fun v w1 H locs hp hC => ?_)
  obtain ⟨rfl, ea2, eo2, hLR2, hwe9⟩ := hp
  rw [hwe9] at hC
  have hC : tC D cls (ty0 ca) A (zz e0 A) s (wC K ca RL LP fv FR day ever (mo + 1) (nI (vs.length + 1)) ea2 wr ch ring (eo2 ++ rest)) H locs := hC
  refine W.eq (g2 := F0 m 23 ls []) rfl ?_
  refine lv_iconst (v := 1) hx hb d_A_add0_23 (by decide) ?_
  exact t_zret hx hb hr hlk (Or.inr rfl) zz_c hC (⟨rfl, ea2, eo2, hLR2, rfl⟩) (Nat.le_of_ble_eq_true rfl) (Nat.le_of_ble_eq_true rfl) d_A_add0_24

set_option maxRecDepth 100000 in
set_option maxHeartbeats 4000000 in
theorem c_A_fastRemove {l : Launch} {D : va_G} {A : Nat → Prop} {e0 : Nat → Nat} {K : Nat → Nat} {ca : Nat → ClassId} {RL LP : List Nat} {fv FR : Nat → RW} {day ever mo : Int32} {ea : Nat} {wr : Int32} {ch : Int64} {ring : Nat → Int32} {rest : va_W} {k i cap : Nat} {el : Nat → Option Nat} (hik : i ≤ k) (hkc : k < cap) (hc60 : cap ≤ 60) (hel : ∀ j y, j < k + 1 → el j = some y → y ∈ LP) : tM l y_A_fastRemove tb ({ frames := 1, cells := 0, slots := 0, locals := 40 }) D cls (ty0 ca) A (zz e0 A) [.ref (K 1), .ref ea, .int (nI i)] (wC K ca RL LP fv FR day ever mo (nI (k + 1)) ea wr ch ring ((ea, .inl (ca 3, cap, .inr (.inr (.inr (.inr el))))) :: rest)) (fun v w2 => v = none ∧ w2 = wC K ca RL LP fv FR day ever (mo + 1) (nI k) ea wr ch ring ((ea, .inl (ca 3, cap, .inr (.inr (.inr (.inr (va_up (va_cpy el el (i + 1) i (k - i)) k none)))))) :: rest)) (xN) := by
  refine t_ofW (by decide) w_453 (Nat.le_of_ble_eq_true rfl) ?_
  intro p e s m below meth c ls hx hb hr hts hown hlk hnm hml hex hl hC
  have hown : s.vm.findClass "java/util/ArrayList" = some m.cls := hown
  have hl : lv_has ls 4 [(0, .ref (K 1)), (1, .ref ea), (2, .int (nI i))] := hl
  refine lv_aload_n hx hb d_A_fastRemove_0 rfl (lv_at hl 0 rfl) ?_
  refine lv_dup hx hb d_A_fastRemove_1 rfl ?_
  refine t_get (v := .int mo) hx hb hts inA hown hC 1 rfl rfl 0 (by decide) (hts _ w_47) (fun x9 h9 => u_same (hts _ w_48) x9 h9) rfl d_A_fastRemove_2 ?_
  refine lv_iconst (v := 1) hx hb d_A_fastRemove_5 (by decide) ?_
  refine lv_iadd hx hb d_A_fastRemove_6 ?_
  refine t_put (ty := .int) (v := .int (mo + 1)) hx hb hts inA TA tyA nmA hown hC 1 rfl rfl 0 (by decide) (hts _ w_47) (fun x9 h9 => u_same (hts _ w_48) x9 h9) rfl (by decide +kernel) rfl rfl (Nat.le_of_ble_eq_true rfl) d_A_fastRemove_7 (fun H locs hC => ?_)
  have hC : tC D cls (ty0 ca) A (zz e0 A) s (wC K ca RL LP fv FR day ever (mo + 1) (nI (k + 1)) ea wr ch ring ((ea, .inl (ca 3, cap, .inr (.inr (.inr (.inr el))))) :: rest)) H locs := hC
  refine lv_aload_n hx hb d_A_fastRemove_10 rfl (lv_at hl 0 rfl) ?_
  refine t_get (v := .int (nI (k + 1))) hx hb hts inA hown hC 1 rfl rfl 2 (by decide) (hts _ w_45) (fun _ h => h) rfl d_A_fastRemove_11 ?_
  refine lv_iconst (v := 1) hx hb d_A_fastRemove_14 (by decide) ?_
  refine lv_isub hx hb d_A_fastRemove_15 ?_
  rw [nI_pred]
  refine lv_dup hx hb d_A_fastRemove_16 rfl ?_
  refine lv_istore_n (lv' := [(3, .int (nI k)), (0, .ref (K 1)), (1, .ref ea), (2, .int (nI i))]) hx hb d_A_fastRemove_17 rfl hl (by decide) rfl (fun ls hl => ?_)
  refine lv_iload_n hx hb d_A_fastRemove_18 rfl (lv_at hl 3 rfl) ?_
  refine lv_icmp_le (tgt := 34) hx hb d_A_fastRemove_19 (by decide) (fun c19 => ?_) (fun c19 => ?_)
  · skip
    have hki : i = k := Nat.le_antisymm hik ((nI_leI (by omega) (by omega)).mp c19)
    have hcp : el = (va_cpy el el (i + 1) i (k - i)) := by rw [hki, Nat.sub_self]; exact cpy0.symm
    have hC : tC D cls (ty0 ca) A (zz e0 A) s (wC K ca RL LP fv FR day ever (mo + 1) (nI (k + 1)) ea wr ch ring ((ea, .inl (ca 3, cap, .inr (.inr (.inr (.inr (va_cpy el el (i + 1) i (k - i))))))) :: rest)) H locs := by rw [← hcp]; exact hC
    refine lv_aload_n hx hb d_A_fastRemove_34 rfl (lv_at hl 2 rfl) ?_
    refine lv_aload_n hx hb d_A_fastRemove_35 rfl (lv_at hl 1 rfl) ?_
    refine lv_iload_n hx hb d_A_fastRemove_36 rfl (lv_at hl 0 rfl) ?_
    refine lv_dup_x1 hx hb d_A_fastRemove_37 rfl rfl ?_
    refine t_put (ty := .int) (v := .int (nI k)) hx hb hts inA TA tyA nmA hown hC 1 rfl rfl 2 (by decide) (hts _ w_45) (fun _ h => h) rfl (by decide +kernel) rfl rfl (Nat.le_of_ble_eq_true rfl) d_A_fastRemove_38 (fun H locs hC => ?_)
    have hC : tC D cls (ty0 ca) A (zz e0 A) s (wC K ca RL LP fv FR day ever (mo + 1) (nI k) ea wr ch ring ((ea, .inl (ca 3, cap, .inr (.inr (.inr (.inr (va_cpy el el (i + 1) i (k - i))))))) :: rest)) H locs := hC
    refine lv_null hx hb d_A_fastRemove_41 ?_
    have hC := wC_out hC
    refine t_astqN hx hb hC 0 3 rfl rfl (vp_in_nI (by omega) (by omega)) d_A_fastRemove_42 (fun H locs hC => ?_)
    rw [nI_clamp (n := k) (by omega)] at hC
    have hC := wC_in hC
    have hC : tC D cls (ty0 ca) A (zz e0 A) s (wC K ca RL LP fv FR day ever (mo + 1) (nI k) ea wr ch ring ((ea, .inl (ca 3, cap, .inr (.inr (.inr (.inr (va_up (va_cpy el el (i + 1) i (k - i)) k none)))))) :: rest)) H locs := hC
    exact t_vret hx hb hr hlk zz_c hC (⟨rfl, rfl⟩) (Nat.le_of_ble_eq_true rfl) (Nat.le_of_ble_eq_true rfl) d_A_fastRemove_43
  · skip
    refine lv_aload_n hx hb d_A_fastRemove_22 rfl (lv_at hl 2 rfl) ?_
    refine lv_iload_n hx hb d_A_fastRemove_23 rfl (lv_at hl 3 rfl) ?_
    refine lv_iconst (v := 1) hx hb d_A_fastRemove_24 (by decide) ?_
    refine lv_iadd hx hb d_A_fastRemove_25 ?_
    rw [nI_1]
    refine lv_aload_n hx hb d_A_fastRemove_26 rfl (lv_at hl 2 rfl) ?_
    refine lv_iload_n hx hb d_A_fastRemove_27 rfl (lv_at hl 3 rfl) ?_
    refine lv_iload_n hx hb d_A_fastRemove_28 rfl (lv_at hl 0 rfl) ?_
    refine lv_iload_n hx hb d_A_fastRemove_29 rfl (lv_at hl 3 rfl) ?_
    refine lv_isub hx hb d_A_fastRemove_30 ?_
    rw [nI_subN hik]
    have hC0 := hC
    have hC := wC_out hC
    refine t_copyq hx hb (hml.trans hl.1.symm) hown (hts _ w_454) (hts _ w_369) (hts _ w_368) (hts _ w_19) hC 0 0 3 (cls[3]) rfl rfl rfl (zz_cast hC.2.2.2.2.2 (by decide +kernel)) (sp := nI (i + 1)) (dp := nI i) (n := nI (k - i)) (nI_pos (by omega)) (nI_pos (by omega)) (nI_pos (by omega)) (by rw [nI_clamp (by omega), nI_clamp (by omega)]; omega) (by rw [nI_clamp (by omega), nI_clamp (by omega)]; omega) (fun j hj y hy => wC_recvN hC0 (hel (i + 1 + j) y (by rw [nI_clamp (by omega)] at hj; omega) (by rw [nI_clamp (n := i + 1) (by omega)] at hy; exact hy))) (Nat.le_of_ble_eq_true rfl) (Nat.le_of_ble_eq_true rfl) d_A_fastRemove_31 (fun H locs hC => ?_)
    rw [nI_clamp (n := i + 1) (by omega), nI_clamp (n := i) (by omega), nI_clamp (n := k - i) (by omega)] at hC
    have hC := wC_in hC
    have hC : tC D cls (ty0 ca) A (zz e0 A) s (wC K ca RL LP fv FR day ever (mo + 1) (nI (k + 1)) ea wr ch ring ((ea, .inl (ca 3, cap, .inr (.inr (.inr (.inr (va_cpy el el (i + 1) i (k - i))))))) :: rest)) H locs := hC
    refine lv_aload_n hx hb d_A_fastRemove_34 rfl (lv_at hl 2 rfl) ?_
    refine lv_aload_n hx hb d_A_fastRemove_35 rfl (lv_at hl 1 rfl) ?_
    refine lv_iload_n hx hb d_A_fastRemove_36 rfl (lv_at hl 0 rfl) ?_
    refine lv_dup_x1 hx hb d_A_fastRemove_37 rfl rfl ?_
    refine t_put (ty := .int) (v := .int (nI k)) hx hb hts inA TA tyA nmA hown hC 1 rfl rfl 2 (by decide) (hts _ w_45) (fun _ h => h) rfl (by decide +kernel) rfl rfl (Nat.le_of_ble_eq_true rfl) d_A_fastRemove_38 (fun H locs hC => ?_)
    have hC : tC D cls (ty0 ca) A (zz e0 A) s (wC K ca RL LP fv FR day ever (mo + 1) (nI k) ea wr ch ring ((ea, .inl (ca 3, cap, .inr (.inr (.inr (.inr (va_cpy el el (i + 1) i (k - i))))))) :: rest)) H locs := hC
    refine lv_null hx hb d_A_fastRemove_41 ?_
    have hC := wC_out hC
    refine t_astqN hx hb hC 0 3 rfl rfl (vp_in_nI (by omega) (by omega)) d_A_fastRemove_42 (fun H locs hC => ?_)
    rw [nI_clamp (n := k) (by omega)] at hC
    have hC := wC_in hC
    have hC : tC D cls (ty0 ca) A (zz e0 A) s (wC K ca RL LP fv FR day ever (mo + 1) (nI k) ea wr ch ring ((ea, .inl (ca 3, cap, .inr (.inr (.inr (.inr (va_up (va_cpy el el (i + 1) i (k - i)) k none)))))) :: rest)) H locs := hC
    exact t_vret hx hb hr hlk zz_c hC (⟨rfl, rfl⟩) (Nat.le_of_ble_eq_true rfl) (Nat.le_of_ble_eq_true rfl) d_A_fastRemove_43

set_option maxRecDepth 100000 in
set_option maxHeartbeats 4000000 in
theorem c_A_remove_k {l : Launch} {D : va_G} {A : Nat → Prop} {e0 : Nat → Nat} {K : Nat → Nat} {ca : Nat → ClassId} {RL LP : List Nat} {fv FR : Nat → RW} {day ever mo : Int32} {ea : Nat} {wr : Int32} {ch : Int64} {ring : Nat → Int32} {rest : va_W} {k i cap : Nat} {el : Nat → Option Nat} (hik : i ≤ k) (hkc : k < cap) (hc60 : cap ≤ 60) (hel : ∀ j y, j < k + 1 → el j = some y → y ∈ LP) {a : Nat} (hei : el i = some a) : tM l y_A_remove tb ({ frames := 2, cells := 0, slots := 0, locals := 63 }) D cls (ty0 ca) A (zz e0 A) [.ref (K 1), .int (nI i)] (wC K ca RL LP fv FR day ever mo (nI (k + 1)) ea wr ch ring ((ea, .inl (ca 3, cap, .inr (.inr (.inr (.inr el))))) :: rest)) (fun v w2 => v = some (.ref a) ∧ w2 = wC K ca RL LP fv FR day ever (mo + 1) (nI k) ea wr ch ring ((ea, .inl (ca 3, cap, .inr (.inr (.inr (.inr (va_up (va_cpy el el (i + 1) i (k - i)) k none)))))) :: rest)) (xN) := by
  refine t_ofW (by decide) w_449 (Nat.le_of_ble_eq_true rfl) ?_
  intro p e s m below meth c ls hx hb hr hts hown hlk hnm hml hex hl hC
  have hown : s.vm.findClass "java/util/ArrayList" = some m.cls := hown
  have hl : lv_has ls 4 [(0, .ref (K 1)), (1, .int (nI i))] := hl
  have h0 : ¬ nI i < 0 := nI_pos (by omega)
  have h1 : nI i < nI (k + 1) := nI_lt (by omega) (by omega)
  refine lv_iload_n hx hb d_A_remove_0 rfl (lv_at hl 1 rfl) ?_
  refine lv_aload_n hx hb d_A_remove_1 rfl (lv_at hl 0 rfl) ?_
  refine t_get (v := .int (nI (k + 1))) hx hb hts inA hown hC 1 rfl rfl 2 (by decide) (hts _ w_45) (fun _ h => h) rfl d_A_remove_2 ?_
  refine t_call (t_invS (As := [.int (nI i), .int (nI (k + 1))]) (rest := []) hx hb hown (hts _ w_305) (hts _ w_306) (hts _ w_14) (hts _ w_307) ⟨by decide, by decide⟩ rfl d_A_remove_5) (c_OB_checkIndex zz_c h0 h1) zz_c tb_good hts w_14 hC (hl.1.trans hml.symm) ⟨Nat.le_of_ble_eq_true rfl, Nat.le_of_ble_eq_true rfl, Nat.le_of_ble_eq_true rfl, Nat.le_of_ble_eq_true rfl⟩ (Nat.le_of_ble_eq_true rfl) (fun E q ce w1 H1 l1 hp => hp.elim) (fun v w1 H locs hp hC => ?_)
  obtain ⟨rfl, hwe9⟩ := hp
  rw [hwe9] at hC
  have hC : tC D cls (ty0 ca) A (zz e0 A) s (wC K ca RL LP fv FR day ever mo (nI (k + 1)) ea wr ch ring ((ea, .inl (ca 3, cap, .inr (.inr (.inr (.inr el))))) :: rest)) H locs := hC
  refine W.eq (g2 := F0 m 8 ls [.int (nI i)]) rfl ?_
  refine lv_pop hx hb d_A_remove_8 rfl ?_
  refine lv_aload_n hx hb d_A_remove_9 rfl (lv_at hl 0 rfl) ?_
  refine t_get (v := .ref ea) hx hb hts inA hown hC 1 rfl rfl 1 (by decide) (hts _ w_44) (fun _ h => h) rfl d_A_remove_10 ?_
  refine lv_astore_n (lv' := [(2, .ref ea), (0, .ref (K 1)), (1, .int (nI i))]) hx hb d_A_remove_13 rfl hl (by decide) rfl (fun ls hl => ?_)
  refine lv_aload_n hx hb d_A_remove_14 rfl (lv_at hl 0 rfl) ?_
  refine lv_iload_n hx hb d_A_remove_15 rfl (lv_at hl 2 rfl) ?_
  have hC9 := wC_out hC
  refine t_aldq (C := "java/lang/Object") hx hb hC9 0 3 rfl rfl (vp_in_nI (by omega) (by omega)) d_A_remove_16 ?_
  rw [nI_clamp (n := i) (by omega), hei]
  refine W.eq (g2 := F0 m 17 ls [.ref a]) rfl ?_
  refine lv_astore_n (lv' := [(3, .ref a), (2, .ref ea), (0, .ref (K 1)), (1, .int (nI i))]) hx hb d_A_remove_17 rfl hl (by decide) rfl (fun ls hl => ?_)
  refine lv_aload_n hx hb d_A_remove_18 rfl (lv_at hl 2 rfl) ?_
  refine lv_aload_n hx hb d_A_remove_19 rfl (lv_at hl 1 rfl) ?_
  refine lv_iload_n hx hb d_A_remove_20 rfl (lv_at hl 3 rfl) ?_
  refine t_call (t_invV (As := [.ref ea, .int (nI i)]) (rest := []) hx hb hown (hts _ w_450) (hts _ w_452) (hts _ s_A_fastRemove) (hts _ w_453) ⟨by decide, by decide⟩ (t_recv (q0 := 1) hC rfl rfl) rfl d_A_remove_21) (c_A_fastRemove hik hkc hc60 hel) zz_c tb_good hts w_4 hC (hl.1.trans hml.symm) ⟨Nat.le_of_ble_eq_true rfl, Nat.le_of_ble_eq_true rfl, Nat.le_of_ble_eq_true rfl, Nat.le_of_ble_eq_true rfl⟩ (Nat.le_of_ble_eq_true rfl) (fun E q ce w1 H1 l1 hp => hp.elim) (fun v w1 H locs hp hC => ?_)
  obtain ⟨rfl, hwe9⟩ := hp
  rw [hwe9] at hC
  have hC : tC D cls (ty0 ca) A (zz e0 A) s (wC K ca RL LP fv FR day ever (mo + 1) (nI k) ea wr ch ring ((ea, .inl (ca 3, cap, .inr (.inr (.inr (.inr (va_up (va_cpy el el (i + 1) i (k - i)) k none)))))) :: rest)) H locs := hC
  refine W.eq (g2 := F0 m 24 ls []) rfl ?_
  refine lv_aload_n hx hb d_A_remove_24 rfl (lv_at hl 0 rfl) ?_
  exact t_aret (r := some a) hx hb hr (Or.inl ⟨_, rfl⟩) hlk zz_c hC (⟨rfl, rfl⟩) (Nat.le_of_ble_eq_true rfl) (Nat.le_of_ble_eq_true rfl) d_A_remove_25

theorem c_A_remove {l : Launch} {D : va_G} {A : Nat → Prop} {e0 : Nat → Nat} {K : Nat → Nat} {ca : Nat → ClassId} {RL LP : List Nat} {fv FR : Nat → RW} {day ever mo : Int32} {ea : Nat} {wr : Int32} {ch : Int64} {ring : Nat → Int32} {rest : va_W} {vs : List Nat} {eo : va_W} {i a : Nat} (hLR : LR e0 ca vs ea eo) (hvL : ∀ y ∈ vs, y ∈ LP) (hi : vs[i]? = some a) : tM l y_A_remove tb ({ frames := 2, cells := 0, slots := 0, locals := 63 }) D cls (ty0 ca) A (zz e0 A) [.ref (K 1), .int (nI i)] (wC K ca RL LP fv FR day ever mo (nI vs.length) ea wr ch ring (eo ++ rest)) (fun v w2 => v = some (.ref a) ∧ ∃ eo2, LR e0 ca (vs.eraseIdx i) ea eo2 ∧ w2 = wC K ca RL LP fv FR day ever (mo + 1) (nI (vs.eraseIdx i).length) ea wr ch ring (eo2 ++ rest)) xN := by
  obtain ⟨hil, hie⟩ := List.getElem?_eq_some_iff.mp hi
  obtain ⟨k, hk⟩ : ∃ k, vs.length = k + 1 := ⟨vs.length - 1, by omega⟩
  rcases hLR with ⟨rfl, -⟩ | ⟨cap, el, rfl, hlc, hc, hel⟩
  · cases hi
  · have h := c_A_remove_k (l := l) (D := D) (A := A) (e0 := e0) (K := K) (ca := ca) (RL := RL) (LP := LP) (fv := fv) (FR := FR) (day := day) (ever := ever) (mo := mo) (ea := ea) (wr := wr) (ch := ch) (ring := ring) (rest := rest) (k := k) (i := i) (cap := cap) (el := el) (by omega) (by omega) hc.2 (fun j y hj hy => hvL y (List.mem_of_getElem? ((hel j (by omega)).symm.trans hy))) ((hel i hil).trans hi)
    rw [← hk] at h
    refine t_monoM h ?_ (fun _ _ h => h)
    rintro v w2 ⟨rfl, rfl⟩
    have hl2 : (vs.eraseIdx i).length = k := by rw [List.length_eraseIdx, if_pos hil]; omega
    refine ⟨rfl, _, Or.inr ⟨cap, _, rfl, by omega, hc, el_rem hk (by omega) hel⟩, ?_⟩
    rw [hl2]
    rfl
