/-! The law from its start to its end. Laid by program (wip/whole/p43.py) -/
set_option maxRecDepth 100000 in
set_option maxHeartbeats 4000000 in
theorem whole_start {p : Program} {e : Env} {s : State} {m : MethodId} {below : List Frame} {meth : Method} {c : Code} (l : Launch) (hst : l.stackTraces = false) {b L : Nat} {xs : Nat → Int32} (hL : L ≤ 3072) (C0 : lw_At p s m meth c b L xs) : W p l e room_1 s m #[Value.ref b] below meth c s.heap [] 0 0 (lw_Z below #[Value.ref b] s) (entryFrame m ([Value.ref b] : List Value).toArray 7) := by
  obtain ⟨hx, hb, hr, hml, hown, hlw, hX, hbl, hlk, hgv⟩ := C0
  have hown : s.vm.findClass "RetentionVaultLaw" = some m.cls := hown
  have hts : ∀ z ∈ tb, z.before #[Value.ref b] s = true := fun z hz => hlw z (List.mem_filter.mp hz).1
  obtain ⟨D, ca, hK⟩ := st_K hts (hlw _ bw_362) (hlw _ bw_57)
  obtain ⟨A, hAe⟩ : ∃ A : Nat → Prop, A = fun q => s.heap.size ≤ q := ⟨_, rfl⟩
  have hA : ∀ q, s.heap.size ≤ q → A q := fun q h => by rw [hAe]; exact h
  have hAn : ∀ q, A q → s.heap.size ≤ q := fun q h => by rw [hAe] at h; exact h
  obtain ⟨e0, hZ⟩ := st_zz hlw hgv (A := A) (fun a ha h => absurd (hAn a h) (by omega))
  have hC : tC D cls (ty0 ca) A (zz e0 A) s [] s.heap [] := ⟨fun k q hq => by simp at hq, ⟨fun i j p q hp => by simp at hp, fun k q hq => by simp at hq⟩, va_S.rf, hK, hA, hZ⟩
  have hl := lv_entry ([.ref b]) (n := 7) (Nat.le_of_ble_eq_true rfl)
  rw [lg_entry_eq]
  generalize (lg_sl ([.ref b]) ++ List.replicate (7 - (lg_sl ([.ref b])).length) Slot.unset).toArray = ls at hl ⊢
  have hl : lv_has ls 7 [(0, .ref b)] := hl
  refine t_new (ci := 0) (fs := [.null, .null, .null, .int 0, .int 0]) hx hb hts inV TV tyV hown (hts _ w_22) (hts _ w_23) (hts _ w_1) hC rfl (by intro j hj; rcases (by omega : j = 0 ∨ j = 1 ∨ j = 2 ∨ j = 3 ∨ j = 4) with rfl | rfl | rfl | rfl | rfl <;> rfl) (by first | exact Nat.le_of_ble_eq_true rfl | (show _ ≤ _; dsimp only [room_1]; omega)) (by first | exact Nat.le_of_ble_eq_true rfl | (show _ ≤ _; dsimp only [room_1]; omega)) d_law_0 (fun k0 H hC => ?_)
  have hC : tC D cls (ty0 ca) A (zz e0 A) s ((k0, .inr (0, [.null, .null, .null, .int 0, .int 0])) :: []) H [] := hC
  refine lv_dup hx hb d_law_3 rfl ?_
  refine t_call (t_invI (As := []) (rest := [.ref k0]) hx hb hown rfl (hts _ w_24) (hts _ w_25) (hts _ w_26) ⟨by decide, by decide⟩ rfl d_law_4) c_V_init zz_c tb_good hts w_1 hC (hl.1.trans hml.symm) ⟨by first | exact Nat.le_of_ble_eq_true rfl | (show _ ≤ _; dsimp only [room_1]; omega), by first | exact Nat.le_of_ble_eq_true rfl | (show _ ≤ _; dsimp only [room_1]; omega), by first | exact Nat.le_of_ble_eq_true rfl | (show _ ≤ _; dsimp only [room_1]; omega), by first | exact Nat.le_of_ble_eq_true rfl | (show _ ≤ _; dsimp only [room_1]; omega)⟩ (Nat.le_of_ble_eq_true rfl) (fun E q ce w1 H1 l1 hp => hp.elim) (fun v w1 H locs hp hC => ?_)
  obtain ⟨rfl, K, RL, hK0, hRL, hwe9⟩ := hp
  rw [hwe9] at hC
  refine W.eq (g2 := F0 m 7 ls [.ref k0]) rfl ?_
  refine lv_astore_n (lv' := [(1, .ref k0), (0, .ref b)]) hx hb d_law_7 rfl hl (by decide) rfl (fun ls hl => ?_)
  refine t_new (ci := 4) (fs := [.int 0, .int 0, .int 0, .int 0, .null, .null, .null, .null, .null, .null, .null, .null, .null, .null, .null, .null, .null, .null, .null, .null, .int 0, .null, .long 0]) hx hb hts inM TM tyM hown (hts _ w_630) (hts _ w_631) (hts _ w_7) hC rfl (by intro j hj; rcases (by omega : j = 0 ∨ j = 1 ∨ j = 2 ∨ j = 3 ∨ j = 4 ∨ j = 5 ∨ j = 6 ∨ j = 7 ∨ j = 8 ∨ j = 9 ∨ j = 10 ∨ j = 11 ∨ j = 12 ∨ j = 13 ∨ j = 14 ∨ j = 15 ∨ j = 16 ∨ j = 17 ∨ j = 18 ∨ j = 19 ∨ j = 20 ∨ j = 21 ∨ j = 22) with rfl | rfl | rfl | rfl | rfl | rfl | rfl | rfl | rfl | rfl | rfl | rfl | rfl | rfl | rfl | rfl | rfl | rfl | rfl | rfl | rfl | rfl | rfl <;> rfl) (by first | exact Nat.le_of_ble_eq_true rfl | (show _ ≤ _; dsimp only [room_1]; omega)) (by first | exact Nat.le_of_ble_eq_true rfl | (show _ ≤ _; dsimp only [room_1]; omega)) d_law_8 (fun m0 H hC => ?_)
  have hC := t_perm (List.perm_append_singleton _ _) hC
  refine lv_dup hx hb d_law_11 rfl ?_
  refine t_call (t_invI (As := []) (rest := [.ref m0]) hx hb hown rfl (hts _ w_632) (hts _ w_633) (hts _ w_634) ⟨by decide, by decide⟩ rfl d_law_12) c_M_init zz_c tb_good hts w_7 hC (hl.1.trans hml.symm) ⟨by first | exact Nat.le_of_ble_eq_true rfl | (show _ ≤ _; dsimp only [room_1]; omega), by first | exact Nat.le_of_ble_eq_true rfl | (show _ ≤ _; dsimp only [room_1]; omega), by first | exact Nat.le_of_ble_eq_true rfl | (show _ ≤ _; dsimp only [room_1]; omega), by first | exact Nat.le_of_ble_eq_true rfl | (show _ ≤ _; dsimp only [room_1]; omega)⟩ (Nat.le_of_ble_eq_true rfl) (fun E q ce w1 H1 l1 hp => hp.elim) (fun v w1 H locs hp hC => ?_)
  obtain ⟨rfl, J, hJ0, hwe9⟩ := hp
  rw [hwe9] at hC
  refine W.eq (g2 := F0 m 15 ls [.ref m0]) rfl ?_
  refine lv_astore_n (lv' := [(2, .ref m0), (1, .ref k0), (0, .ref b)]) hx hb d_law_15 rfl hl (by decide) rfl (fun ls hl => ?_)
  refine lv_iconst (v := 1) hx hb d_law_16 (by decide) ?_
  refine t_newa (atype := .long) hx hb (hts _ w_830) rfl hC 2 rfl (fun C h => by cases h) (a0 := (1, .inr (.inl (fun _ => 0)))) (fun _ => rfl) (by decide) (by decide +kernel) (by decide) (by first | exact Nat.le_of_ble_eq_true rfl | (show _ ≤ _; dsimp only [room_1]; omega)) (by first | exact Nat.le_of_ble_eq_true rfl | (show _ ≤ _; dsimp only [room_1]; omega)) d_law_17 (fun ao H hC => ?_)
  have hC := t_perm (List.perm_append_singleton _ _) hC
  refine lv_astore_n (lv' := [(3, .ref ao), (2, .ref m0), (1, .ref k0), (0, .ref b)]) hx hb d_law_19 rfl hl (by decide) rfl (fun ls hl => ?_)
  refine lv_iconst (v := 0) hx hb d_law_20 (by decide) ?_
  refine lv_istore (lv' := [(4, .int 0), (3, .ref ao), (2, .ref m0), (1, .ref k0), (0, .ref b)]) hx hb d_law_21 hl (by decide) rfl (fun ls hl => ?_)
  rw [← hJ0, ← hK0] at hl
  have hC : tC D cls (ty0 ca) A (zz e0 A) s (xO ca ao (fun _ => 0) :: wM J ca 0 0 0 0 (fun _ _ => 0) (fun _ _ => 0) 0 (fun _ => 0) 7 (wC K ca RL [] (fun _ => rw0) (fun _ => rw0) 0 0 0 (nI 0) (e0 0) (nI 0) 7 (fun _ => 0) [])) H _ := hC
  have hC : tC D cls (ty0 ca) A (zz e0 A) s (xO ca ao (fun _ => 0) :: wC K ca RL [] (fun _ => rw0) (fun _ => rw0) 0 0 0 (nI 0) (e0 0) (nI 0) 7 (fun _ => 0) ([] ++ wM J ca 0 0 0 0 (fun _ _ => 0) (fun _ _ => 0) 0 (fun _ => 0) 7 [])) H _ := t_perm (List.Perm.cons _ (st_perm (J := J))) hC
  have hRn : RL.Nodup := t_nodupL (X := xO ca ao (fun _ => 0) :: (wF K ca RL 0 0 0 (nI 0) (e0 0) (nI 0) 7 (fun _ => 0) ++ va_pl [] (tO 3 13 (fun _ => rw0)))) (f := tO 2 4 (fun _ => rw0)) hC
  have hw : lw2 e0 K J ca RL ao (RL.map (fun _ => rw0)) 0 (([] : List RW), ((fun _ => 0 : Nat → Int32), 0, (7 : Int64)), 0) 0 (RL.map (fun _ => rw0)) 0 (([] : List RW), ((fun _ => 0 : Nat → Int32), 0, (7 : Int64)), 0) (fun _ => 0) (xO ca ao (fun _ => 0) :: wC K ca RL [] (fun _ => rw0) (fun _ => rw0) 0 0 0 (nI 0) (e0 0) (nI 0) 7 (fun _ => 0) ([] ++ wM J ca 0 0 0 0 (fun _ _ => 0) (fun _ _ => 0) 0 (fun _ => 0) 7 [])) := by
    refine ⟨_, fun _ _ => 0, fun _ _ => 0, ⟨fun _ => rw0, [], [], fun _ => rw0, 0, e0 0, [], rfl, ⟨Or.inl ⟨rfl, rfl, rfl⟩, fun a h => absurd h List.not_mem_nil, List.nodup_nil, by decide⟩, rfl, ?_⟩, fun i hi => absurd hi (Nat.not_lt_zero _), ?_, rfl⟩
    · show wC K ca RL [] (fun _ => rw0) (fun _ => rw0) 0 0 0 (nI 0) (e0 0) (nI 0) 7 (fun _ => 0) ([] ++ wM J ca 0 0 0 0 (fun _ _ => 0) (fun _ _ => 0) 0 (fun _ => 0) 7 []) = wC K ca RL [] (fun _ => rw0) (fun _ => rw0) 0 (nI 0) 0 (nI 0) (e0 0) (nI 0) 7 (fun _ => 0) ([] ++ wM J ca 0 0 (nI 0) (nI 0) (fun _ _ => 0) (fun _ _ => 0) (nI 0) (fun _ => 0) 7 [])
      rw [nI_0]
    · intro r hr c hc
      rw [rw_at_const hRL hr]
      rfl
  have hoR : okR (RL.map (fun _ => rw0)) := by
    refine ⟨by rw [List.length_map]; exact hRL, fun R hR => ?_⟩
    obtain ⟨u, -, rfl⟩ := List.mem_map.mp hR
    exact ⟨show (0 : Int32) ≤ 0 by decide, show (0 : Int32) ≤ 4 by decide, show (-1 : Int32) ≤ 0 by decide, Or.inl rfl⟩
  have hok : okS 0 (([] : List RW), ((fun _ => 0 : Nat → Int32), 0, (7 : Int64)), 0) := ⟨⟨Nat.zero_le _, fun i hi => absurd hi (Nat.not_lt_zero _), fun i hi => absurd hi (Nat.not_lt_zero _), fun j hj => absurd hj (Nat.not_lt_zero _), fun j k _ hk => absurd hk (Nat.not_lt_zero _)⟩, Nat.le_refl _, Nat.le_refl _⟩
  have hoD : okD 0 0 := ⟨0, nI_0.symm, Nat.le_refl _⟩
  refine t_more (c2 := 30 + 81 * 0) (s2 := 1081 + 2926 * 0) (Nat.le_of_ble_eq_true rfl) (Nat.le_of_ble_eq_true rfl) ?_
  exact law_loop hst hx hb hr hlk hml hown hts hX hbl hAn hRL hRn hL _ 0 rfl (by omega) 0 _ 0 (([] : List RW), ((fun _ => 0 : Nat → Int32), 0, (7 : Int64)), 0) _ _ H _ ls hok hoR hoD hw hC (lv_sub hl [0, 4, 3, 2, 1] rfl)
theorem lw_nt {l : Launch} (h : l.flags = flags0) : l.stackTraces = false := by
  unfold Launch.stackTraces
  rw [h]
  decide +kernel
set_option maxHeartbeats 4000000 in
theorem lw_walk (l : Launch) (hst : l.stackTraces = false) (b : Addr) (xs : List Int32) : MetFree l x (headSpec (Jvm.Cond.code x code maxLocals ret :: tables_1) room_1) (lw_P b xs) (fun _ _ _ _ _ => True) lw_Q := by
  refine MetFree.of_bodyS (code := code) (maxLocals := maxLocals) (ret := ret) (by decide) ?_ ?_
  · intro args s m h hn
    obtain ⟨meth, c, h1, h2, h3, h4, h5, h6, -, -⟩ := Cond.code_spec hn (atoms_spec (ws := Jvm.Cond.code x code maxLocals ret :: tables_1) h _ List.mem_cons_self)
    exact ⟨meth, c, h1, h2, h3, h4, h5, h6⟩
  · intro p e s m args below meth c s₁ B hml0 hP _
    obtain ⟨rfl, hx, hbd, hgv⟩ := hP
    obtain ⟨scr, harrAt, hlist, hof, hsmall⟩ := hx
    obtain ⟨hcb, hkn, -, -⟩ := State.arrayAt?_spec harrAt
    have hown : s.vm.findClass R_law = some m.cls := findClass_of_methodNamed B.named
    have hts0 : ∀ c ∈ (Jvm.Cond.code x code maxLocals ret :: tables_1), c.before #[Value.ref b] s = true := atoms_spec (ws := Jvm.Cond.code x code maxLocals ret :: tables_1) B.pre
    have hts : ∀ w ∈ lw_tbl, w.before #[Value.ref b] s = true := k2_hts_sels lw_privs (fun w hw => hts0 w (List.mem_cons_of_mem _ hw)) lw_privs_ok
    have hml : c.maxLocals = 7 := B.maxLocals_eq (hts0 _ List.mem_cons_self)
    have X₀ : Stand p l e room_1 s m #[Value.ref b] below meth c s₁ [] 0 0 := Stand.of_body B
    have hh0 : s₁.heap = s.heap := by rw [B.state]; rfl
    have hsz : scr.slots.size = xs.length := by rw [← Array.length_toList, hlist, List.length_map]
    have hval : ∀ j : Nat, j < xs.length → scr.slots[j]? = some (.int (xs.getD j 0)) := fun j hj => by
      rw [← Array.getElem?_toList, hlist]
      simp [hj]
    have hbl : b < s.heap.size := (Array.getElem?_eq_some_iff.mp hcb).1
    have hX : va_X b xs.length (fun j => xs.getD j 0) s s.heap := ⟨scr, hcb, hof, hkn, hsz, hval⟩
    have K : W p l e room_1 s m #[Value.ref b] below meth c s₁.heap [] 0 0 (lw_Z below #[Value.ref b] s) (entryFrame m ([Value.ref b] : List Value).toArray 7) := by
      rw [hh0]
      exact whole_start l hst hbd ⟨B.exec, B.bytes, B.returns, hml, hown, hts, hX, hbl, B.notSynchronized, hgv⟩
    obtain ⟨t, a1, o, b1, b2, b3⟩ := K s₁ rfl X₀
    exact ⟨t, o, a1, b1, b2, b3⟩
theorem lw_pre_spec {args : Array Value} {s : State} (h : (Jvm.Cond.and given_1 narrow_1).before args s = true) (hr : rest_1_c.before args s = true) : ∃ (b : Addr) (xs : List Int32), lw_P b xs args s := by
  have hs := flat_of_before _ h
  have hq := flat_of_before _ hr
  have hc : (Cond.count 1).before args s = true := hs _ (by decide +kernel)
  have harr : (Cond.arrayOf (.arg 0) .int).before args s = true := hs _ (by decide +kernel)
  have hle : (Cond.le (.length (.arg 0)) (.int 3072)).before args s = true := hs _ (by decide +kernel)
  have hlen : (Cond.isInt (.length (.arg 0))).before args s = true := hq _ (by decide +kernel)
  have hall : (Cond.all (.arg 0) (.isInt (.elem (.arg 0) (.index 0)))).before args s = true := hq _ (by decide +kernel)
  obtain ⟨b, xs, hb, hx⟩ := State.ints_of_pre rfl harr hlen hall
  have hsm : xs.length < 2 ^ 31 := hx.choose_spec.2.2.2
  have hev : (Term.length (.arg 0)).eval args s none [] s = some (.int xs.length.toInt32) := hx.length_eval hb
  have hv := Cond.le_ints hev (show (Term.int 3072).eval args s none [] s = some (.int 3072) from rfl)
  have hd : xs.length.toInt32 ≤ 3072 := by
    simpa [Cond.before, Cond.holds, hv] using hle
  have hN : xs.length ≤ 3072 := (Int32.ofNat_le_ofNat hsm (by decide)).mp (show Int32.ofNat xs.length ≤ Int32.ofNat 3072 from hd)
  exact ⟨b, xs, Cond.one_arg hc (show args[0]? = some (.ref b) from hb), hx, hN, h⟩
theorem lw_comes (l : Launch) (hst : l.stackTraces = false) : Comes l x (Jvm.Cond.code x code maxLocals ret :: tables_1) room_1 (fun tb e args s => Calls_1 tb e args s ∧ rest_1 tb e args s ∧ Pre_1 tb e args s)
    (fun _ _ args s o t => lw_Q args s o t) := by
  intro p e ha hc hk s m args below hf hfit hheap happ hpre
  obtain ⟨b, xs, hP⟩ := lw_pre_spec hpre.2.2 hpre.2.1
  obtain ⟨k, o, h1, h2, h3, hQ⟩ := lw_walk l hst b xs p e ha hc hk s m args below hf ((Spec.applies_iff_loose hf).mp happ).1 hP trivial
  exact ⟨k, o, h1, h2, h3, hQ⟩
theorem lw_frame {s t : State} {o : Outcome} {args : Array Value} (h : Framed s o t [] 601024 7293033) :
    Framed s o t (fieldLocs frame_1_writes args s ++ arrayLocs frame_1_arrays args s ++ staticLocs frame_1_statics s) 601024 7293033 := h
theorem lw_limb (L : Cond) (hL : ∀ (args : Array Value) (s t : State), L.after args s (.returned (some (.int 1))) t = true) :
    ArmFor flags0 classFile x code maxLocals ret World_1 tables_1 room_1 Calls_1 rest_1 Pre_1
      (fun tb e a s o t => postC L tb e a s o t ∧ Framed s o t (fieldLocs frame_1_writes a s ++ arrayLocs frame_1_arrays a s ++ staticLocs frame_1_statics s) 601024 7293033) := by
  intro l hl1 hl2 hl3 p e ha hc hk s m args below hf hfit hheap happ hpre
  obtain ⟨k, o, h1, h2, h3, rfl, hF⟩ := lw_comes l (lw_nt hl1) p e ha hc hk s m args below hf hfit hheap happ hpre
  exact ⟨k, _, h1, h2, h3, hL args s _, lw_frame hF⟩
theorem i_vc : Claimed_1_1 ∧ Claimed_1_2 := ⟨lw_limb limb_1_1 (fun args s t => by simp [limb_1_1, Cond.after, Cond.holds, Cond.value]), lw_limb limb_1_2 (fun args s t => Cond.after_iff.mpr (by
  first | (rw [show limb_1_2 = Cond.eq .result (.int 1) from rfl, Cond.eq_ints (x := 1) (y := 1) rfl rfl]; simp; done) | (simp [limb_1_2, Cond.value, Term.eval]; done)))⟩
