/-! The class's constructors. Laid by program (wip/whole/p25.py) -/
section TN
variable {p : Program} {l : Launch} {e : Env} {R : Room} {s : State} {m : MethodId} {args : Array Value} {below : List Frame} {meth : Method} {c : Code} {H : Heap} {locs : List Loc} {cells slots : Nat} {Q : State → Prop}
variable {y : MethodName} {maxL pc : Nat} {ls : Array Slot} {rest : List Value} {D : va_G} {cl : List vw_C} {A : Nat → Prop} {Z : State → Heap → Prop} {a : Nat} {tys : List (ClassId × FieldType)} {w : va_W}
theorem t_invIN (hexec : p.tables.exec = Jvm.exec) {cc bytes : ByteArray} (hb : c.code = cc) {own host : String} {index : Nat} (hown : s.vm.findClass own = some m.cls) (hy1 : y.name = "<init>") (hlink : (Cond.methodLinkNest own index y host).before args s = true) (hinst : (Cond.instanceMethod y).before args s = true) (hcode : (Cond.code y bytes maxL none).before args s = true)
    (hy : y.cls ≠ "java/lang/invoke/MethodHandle" ∧ y.cls ≠ "java/lang/invoke/VarHandle") {b : Addr} {As : List Value} (hlen : (parseMethodDescriptor y.desc).map (fun d => d.parameters.length) = some As.length) (hdg : decode cc pc = .ok (.invokespecial index, 3)) :
    tInv p l e R s m args below meth c H locs cells slots y maxL (.ref b :: As) pc ls rest (As.reverse ++ .ref b :: rest) := by
  intro T hT X
  subst hb
  have hpl : e.platform.magicAccessors = ({} : Platform).magicAccessors := by rw [X.admits.platform]
  obtain ⟨mk, methM, cM, kP, vm₁, hnamed, hmethM, hcodeM, -, hlocalsM, -, hkP, -, hW₁, hstep₁⟩ := Steps.initColdArgsNest (e := e) X.here hexec X.warmed hpl hown hy1 hy hlink hinst hcode (f := F0 m pc ls (As.reverse ++ .ref b :: rest)) (argsL := As) (rest := rest) (a := b) rfl (fun sig h => by rw [h] at hlen; exact (Option.some.inj hlen).symm) rfl hdg
  have X₁ := X.noted hW₁
  exact ⟨vm₁, mk, methM, cM, _, hW₁, X₁, X₁.named hnamed, by rw [X₁.warmed.alike.method?]; exact hmethM, hcodeM, hlocalsM, hdg, hstep₁⟩
theorem t_astq {cc : ByteArray} (hx : p.tables.exec = Jvm.exec) (hb : c.code = cc) (hC : tC D cl tys A Z s w H locs) (q0 t0 qk ci : Nat) {cA : ClassId} {r : vw_C} {n v : Nat} {vs : List Value} {f : Nat → Option Nat} (ha : w[q0]? = some (a, .inl (cA, n, .inr (.inr (.inr (.inr f)))))) (ht : tys[t0]? = some (cA, .object r.1)) (hv : w[qk]? = some (v, .inr (ci, vs))) (hc : cl[ci]? = some r) {i : Int32} (hin : vp_in i n) (hdg : decode cc pc = .ok (.aastore, 1))
    (kk : ∀ (H1 : Heap) (locs1 : List Loc), tC D cl tys A Z s (w.set q0 (a, .inl (cA, n, .inr (.inr (.inr (.inr (va_up f i.toNatClampNeg (some v)))))))) H1 locs1 → W p l e R s m args below meth c H1 locs1 cells slots Q (F0 m (pc + 1) ls rest)) : W p l e R s m args below meth c H locs cells slots Q (F0 m pc ls (.ref v :: .int i :: .ref a :: rest)) :=
  va_astq hx hb hC.2.2.2.1 hC.1 hC.2.1 hC.2.2.1 q0 t0 qk ci ha ht hv hc hin hdg (fun H1 l1 h1 h2 h3 => kk H1 l1 ⟨h1, h2, h3, hC.2.2.2⟩)
theorem zz_nest {e0 : Nat → Nat} {U : State} {H : Heap} (h : zz e0 A U H) {o : String} {k : Nat} {y : MethodName} {h9 : String} (hk : (o, k, y, h9) ∈ zN) {ar : Array Value} : (Cond.methodLinkNest o k y h9).before ar U = true := va_Nw.use rfl (h.2.2.2.2.2.1 (o, k, y, h9) hk)
end TN
theorem up_const {α : Type} {k : Nat} {r : α} : va_up (fun _ => r) k r = fun _ => r := by
  funext j
  simp [va_up]
theorem up_app {L : List Nat} {u : Nat} : va_up (fun j => L[j]?) L.length (some u) = fun j => (L ++ [u])[j]? := by
  funext j
  simp only [va_up]
  by_cases e : j = L.length
  · subst e; simp
  · rw [if_neg e]
    by_cases h : j < L.length
    · rw [List.getElem?_append_left h]
    · rw [List.getElem?_eq_none (by omega), List.getElem?_eq_none (by rw [List.length_append, List.length_singleton]; omega)]

set_option maxRecDepth 100000 in
set_option maxHeartbeats 4000000 in
theorem c_AC_init {l : Launch} {D : va_G} {A : Nat → Prop} {e0 : Nat → Nat} {ca : Nat → ClassId} {w : va_W} {a : Nat} : tM l y_AC_init tb ({ frames := 1, cells := 0, slots := 0, locals := 24 }) D cls (ty0 ca) A (zz e0 A) [.ref a] (w) (fun v w2 => v = none ∧ w2 = w) (xN) := by
  refine t_ofW (by decide) w_40 (Nat.le_of_ble_eq_true rfl) ?_
  intro p e s m below meth c ls hx hb hr hts hown hlk hnm hml hex hl hC
  have hown : s.vm.findClass "java/util/AbstractCollection" = some m.cls := hown
  have hl : lv_has ls 1 [(0, .ref a)] := hl
  refine lv_aload_n hx hb d_AC_init_0 rfl (lv_at hl 0 rfl) ?_
  refine W.objInit hx hb hown (hts _ w_41) (hts _ w_28) (hts _ w_29) rfl (hl.1.trans hml.symm) rfl d_AC_init_1 (Nat.le_of_ble_eq_true rfl) (Nat.le_of_ble_eq_true rfl) ?_
  refine W.eq (g2 := F0 m 4 ls []) rfl ?_
  exact t_vret hx hb hr hlk zz_c hC (⟨rfl, rfl⟩) (Nat.le_of_ble_eq_true rfl) (Nat.le_of_ble_eq_true rfl) d_AC_init_4

set_option maxRecDepth 100000 in
set_option maxHeartbeats 4000000 in
theorem c_U_init {l : Launch} {D : va_G} {A : Nat → Prop} {e0 : Nat → Nat} {ca : Nat → ClassId} {w : va_W} {a : Nat} : tM l y_U_init tb ({ frames := 1, cells := 0, slots := 0, locals := 24 }) D cls (ty0 ca) A (zz e0 A) [.ref a] (w) (fun v w2 => v = none ∧ w2 = w) (xN) := by
  refine t_ofW (by decide) w_61 (Nat.le_of_ble_eq_true rfl) ?_
  intro p e s m below meth c ls hx hb hr hts hown hlk hnm hml hex hl hC
  have hown : s.vm.findClass "RetentionVault$Rule" = some m.cls := hown
  have hl : lv_has ls 1 [(0, .ref a)] := hl
  refine lv_aload_n hx hb d_U_init_0 rfl (lv_at hl 0 rfl) ?_
  refine W.objInit hx hb hown (hts _ w_62) (hts _ w_28) (hts _ w_29) rfl (hl.1.trans hml.symm) rfl d_U_init_1 (Nat.le_of_ble_eq_true rfl) (Nat.le_of_ble_eq_true rfl) ?_
  refine W.eq (g2 := F0 m 4 ls []) rfl ?_
  exact t_vret hx hb hr hlk zz_c hC (⟨rfl, rfl⟩) (Nat.le_of_ble_eq_true rfl) (Nat.le_of_ble_eq_true rfl) d_U_init_4

set_option maxRecDepth 100000 in
set_option maxHeartbeats 4000000 in
theorem c_AL_init {l : Launch} {D : va_G} {A : Nat → Prop} {e0 : Nat → Nat} {ca : Nat → ClassId} {rest : va_W} {k1 : Nat} {x : Option Nat} {y : Int32} : tM l y_AL_init tb ({ frames := 2, cells := 0, slots := 0, locals := 44 }) D cls (ty0 ca) A (zz e0 A) [.ref k1] ((k1, .inr (5, [.int 0, va_rf x, .int y])) :: rest) (fun v w2 => v = none ∧ w2 = (k1, .inr (5, [.int 0, va_rf x, .int y])) :: rest) (xN) := by
  refine t_ofW (by decide) w_37 (Nat.le_of_ble_eq_true rfl) ?_
  intro p e s m below meth c ls hx hb hr hts hown hlk hnm hml hex hl hC
  have hown : s.vm.findClass "java/util/AbstractList" = some m.cls := hown
  have hl : lv_has ls 1 [(0, .ref k1)] := hl
  refine lv_aload_n hx hb d_AL_init_0 rfl (lv_at hl 0 rfl) ?_
  refine t_call (t_invI (As := []) (rest := []) hx hb hown rfl (hts _ w_38) (hts _ w_39) (hts _ w_40) ⟨by decide, by decide⟩ rfl d_AL_init_1) c_AC_init zz_c tb_good hts w_2 hC (hl.1.trans hml.symm) ⟨Nat.le_of_ble_eq_true rfl, Nat.le_of_ble_eq_true rfl, Nat.le_of_ble_eq_true rfl, Nat.le_of_ble_eq_true rfl⟩ (Nat.le_of_ble_eq_true rfl) (fun E q ce w1 H1 l1 hp => hp.elim) (fun v w1 H locs hp hC => ?_)
  obtain ⟨rfl, hwe9⟩ := hp
  rw [hwe9] at hC
  have hC : tC D cls (ty0 ca) A (zz e0 A) s ((k1, .inr (5, [.int 0, va_rf x, .int y])) :: rest) H _ := hC
  refine W.eq (g2 := F0 m 4 ls []) rfl ?_
  refine lv_aload_n hx hb d_AL_init_4 rfl (lv_at hl 0 rfl) ?_
  refine lv_iconst (v := 0) hx hb d_AL_init_5 (by decide) ?_
  refine t_put (ty := .int) (v := .int 0) hx hb hts inA TA tyA nmA hown hC 0 rfl rfl 0 (by decide) (hts _ w_46) (fun _ h => h) rfl (by decide +kernel) rfl rfl (Nat.le_of_ble_eq_true rfl) d_AL_init_6 (fun H locs hC => ?_)
  have hC : tC D cls (ty0 ca) A (zz e0 A) s ((k1, .inr (5, [.int 0, va_rf x, .int y])) :: rest) H _ := hC
  exact t_vret hx hb hr hlk zz_c hC (⟨rfl, rfl⟩) (Nat.le_of_ble_eq_true rfl) (Nat.le_of_ble_eq_true rfl) d_AL_init_9

set_option maxRecDepth 100000 in
set_option maxHeartbeats 4000000 in
theorem c_A_init {l : Launch} {D : va_G} {A : Nat → Prop} {e0 : Nat → Nat} {ca : Nat → ClassId} {rest : va_W} {k1 : Nat} : tM l y_A_init tb ({ frames := 3, cells := 0, slots := 0, locals := 64 }) D cls (ty0 ca) A (zz e0 A) [.ref k1] ((k1, .inr (5, [.int 0, .null, .int 0])) :: rest) (fun v w2 => v = none ∧ w2 = (k1, .inr (5, [.int 0, .ref (e0 0), .int 0])) :: rest) (xN) := by
  refine t_ofW (by decide) w_34 (Nat.le_of_ble_eq_true rfl) ?_
  intro p e s m below meth c ls hx hb hr hts hown hlk hnm hml hex hl hC
  have hown : s.vm.findClass "java/util/ArrayList" = some m.cls := hown
  have hl : lv_has ls 1 [(0, .ref k1)] := hl
  refine lv_aload_n hx hb d_A_init_0 rfl (lv_at hl 0 rfl) ?_
  refine t_call (t_invI (As := []) (rest := []) hx hb hown rfl (hts _ w_35) (hts _ w_36) (hts _ w_37) ⟨by decide, by decide⟩ rfl d_A_init_1) (c_AL_init (x := none)) zz_c tb_good hts w_3 hC (hl.1.trans hml.symm) ⟨Nat.le_of_ble_eq_true rfl, Nat.le_of_ble_eq_true rfl, Nat.le_of_ble_eq_true rfl, Nat.le_of_ble_eq_true rfl⟩ (Nat.le_of_ble_eq_true rfl) (fun E q ce w1 H1 l1 hp => hp.elim) (fun v w1 H locs hp hC => ?_)
  obtain ⟨rfl, hwe9⟩ := hp
  rw [hwe9] at hC
  have hC : tC D cls (ty0 ca) A (zz e0 A) s ((k1, .inr (5, [.int 0, .null, .int 0])) :: rest) H _ := hC
  refine W.eq (g2 := F0 m 4 ls []) rfl ?_
  refine lv_aload_n hx hb d_A_init_4 rfl (lv_at hl 0 rfl) ?_
  refine va_gets hx hb (zz_de hC.2.2.2.2.2) hC.2.2.1 hown (hts _ w_42) (fun _ h => h) d_A_init_5 ?_
  refine t_put (ty := (.array (.object "java/lang/Object"))) (v := .ref (e0 0)) hx hb hts inA TA tyA nmA hown hC 0 rfl rfl 1 (by decide) (hts _ w_44) (fun _ h => h) rfl (by decide +kernel) rfl rfl (Nat.le_of_ble_eq_true rfl) d_A_init_8 (fun H locs hC => ?_)
  have hC : tC D cls (ty0 ca) A (zz e0 A) s ((k1, .inr (5, [.int 0, .ref (e0 0), .int 0])) :: rest) H _ := hC
  exact t_vret hx hb hr hlk zz_c hC (⟨rfl, rfl⟩) (Nat.le_of_ble_eq_true rfl) (Nat.le_of_ble_eq_true rfl) d_A_init_11

set_option maxRecDepth 100000 in
set_option maxHeartbeats 4000000 in
theorem c_G_init {l : Launch} {D : va_G} {A : Nat → Prop} {e0 : Nat → Nat} {ca : Nat → ClassId} {rest : va_W} {k3 : Nat} : tM l y_G_init tb ({ frames := 1, cells := 1, slots := 256, locals := 24 }) D cls (ty0 ca) A (zz e0 A) [.ref k3] ((k3, .inr (1, [.null, .int 0, .long 0])) :: rest) (fun v w2 => v = none ∧ ∃ k4, w2 = (k4, .inl (ca 0, 256, .inl (fun _ => 0))) :: (k3, .inr (1, [.ref k4, .int 0, .long 7])) :: rest) (xN) := by
  refine t_ofW (by decide) w_81 (Nat.le_of_ble_eq_true rfl) ?_
  intro p e s m below meth c ls hx hb hr hts hown hlk hnm hml hex hl hC
  have hown : s.vm.findClass "RetentionVault$Log" = some m.cls := hown
  have hl : lv_has ls 1 [(0, .ref k3)] := hl
  refine lv_aload_n hx hb d_G_init_0 rfl (lv_at hl 0 rfl) ?_
  refine W.objInit hx hb hown (hts _ w_82) (hts _ w_28) (hts _ w_29) rfl (hl.1.trans hml.symm) rfl d_G_init_1 (Nat.le_of_ble_eq_true rfl) (Nat.le_of_ble_eq_true rfl) ?_
  refine W.eq (g2 := F0 m 4 ls []) rfl ?_
  refine lv_aload_n hx hb d_G_init_4 rfl (lv_at hl 0 rfl) ?_
  refine lv_sipush (v := 256) hx hb d_G_init_5 (by decide) ?_
  refine t_newa (atype := .int) hx hb (hts _ w_96) rfl hC 0 rfl (fun C h => by cases h) (a0 := (256, .inl (fun _ => 0))) (fun _ => rfl) (by decide) (by decide +kernel) (by decide) (Nat.le_of_ble_eq_true rfl) (Nat.le_of_ble_eq_true rfl) d_G_init_8 (fun k4 H hC => ?_)
  have hC := t_perm (List.perm_append_singleton _ _) hC
  have hC : tC D cls (ty0 ca) A (zz e0 A) s ((k4, .inl (ca 0, 256, .inl (fun _ => 0))) :: (k3, .inr (1, [.null, .int 0, .long 0])) :: rest) H _ := hC
  refine t_putF (ty := (.array .int)) (v := .ref k4) hx hb hts inG TG tyG nmG hown hC 1 rfl rfl 0 (by decide) (hts _ w_84) (fun _ h => h) rfl hnm rfl (by decide +kernel) rfl rfl (Nat.le_of_ble_eq_true rfl) d_G_init_10 (fun H locs hC => ?_)
  have hC : tC D cls (ty0 ca) A (zz e0 A) s ((k4, .inl (ca 0, 256, .inl (fun _ => 0))) :: (k3, .inr (1, [.ref k4, .int 0, .long 0])) :: rest) H _ := hC
  refine lv_aload_n hx hb d_G_init_13 rfl (lv_at hl 0 rfl) ?_
  refine lv_ldc2 (v := 7) hx hb hown (hts _ w_83) d_G_init_14 ?_
  refine t_put (ty := .long) (v := .long 7) hx hb hts inG TG tyG nmG hown hC 1 rfl rfl 2 (by decide) (hts _ w_87) (fun _ h => h) rfl (by decide +kernel) rfl rfl (Nat.le_of_ble_eq_true rfl) d_G_init_17 (fun H locs hC => ?_)
  have hC : tC D cls (ty0 ca) A (zz e0 A) s ((k4, .inl (ca 0, 256, .inl (fun _ => 0))) :: (k3, .inr (1, [.ref k4, .int 0, .long 7])) :: rest) H _ := hC
  exact t_vret hx hb hr hlk zz_c hC (⟨rfl, k4, rfl⟩) (Nat.le_of_ble_eq_true rfl) (Nat.le_of_ble_eq_true rfl) d_G_init_20

set_option maxRecDepth 100000 in
set_option maxHeartbeats 4000000 in
theorem c_V_init {l : Launch} {D : va_G} {A : Nat → Prop} {e0 : Nat → Nat} {ca : Nat → ClassId} {rest : va_W} {k0 : Nat} : tM l y_V_init tb ({ frames := 4, cells := 10, slots := 292, locals := 84 }) D cls (ty0 ca) A (zz e0 A) [.ref k0] ((k0, .inr (0, [.null, .null, .null, .int 0, .int 0])) :: rest) (fun v w2 => v = none ∧ ∃ (K : Nat → Nat) (RL : List Nat), K 0 = k0 ∧ RL.length = 6 ∧ w2 = wC K ca RL [] (fun _ => rw0) (fun _ => rw0) 0 0 0 (nI 0) (e0 0) (nI 0) 7 (fun _ => 0) rest) (xN) := by
  refine t_ofW (by decide) w_26 (Nat.le_of_ble_eq_true rfl) ?_
  intro p e s m below meth c ls hx hb hr hts hown hlk hnm hml hex hl hC
  have hown : s.vm.findClass "RetentionVault" = some m.cls := hown
  have hl : lv_has ls 2 [(0, .ref k0)] := hl
  refine lv_aload_n hx hb d_V_init_0 rfl (lv_at hl 0 rfl) ?_
  refine W.objInit hx hb hown (hts _ w_27) (hts _ w_28) (hts _ w_29) rfl (hl.1.trans hml.symm) rfl d_V_init_1 (Nat.le_of_ble_eq_true rfl) (Nat.le_of_ble_eq_true rfl) ?_
  refine W.eq (g2 := F0 m 4 ls []) rfl ?_
  refine lv_aload_n hx hb d_V_init_4 rfl (lv_at hl 0 rfl) ?_
  refine t_new (ci := 5) (fs := [.int 0, .null, .int 0]) hx hb hts inA TA tyA hown (hts _ w_30) (hts _ w_31) (hts _ w_4) hC rfl (by intro j hj; rcases (by omega : j = 0 ∨ j = 1 ∨ j = 2) with rfl | rfl | rfl <;> rfl) (by first | exact Nat.le_of_ble_eq_true rfl | omega | (dsimp only; omega)) (by first | exact Nat.le_of_ble_eq_true rfl | omega | (dsimp only; omega)) d_V_init_5 (fun k1 H hC => ?_)
  have hC := t_perm (List.perm_append_singleton _ _) hC
  have hC : tC D cls (ty0 ca) A (zz e0 A) s ((k1, .inr (5, [.int 0, .null, .int 0])) :: (k0, .inr (0, [.null, .null, .null, .int 0, .int 0])) :: rest) H _ := hC
  refine lv_dup hx hb d_V_init_8 rfl ?_
  refine t_call (t_invI (As := []) (rest := [.ref k1, .ref k0]) hx hb hown rfl (hts _ w_32) (hts _ w_33) (hts _ w_34) ⟨by decide, by decide⟩ rfl d_V_init_9) c_A_init zz_c tb_good hts w_4 hC (hl.1.trans hml.symm) ⟨by first | exact Nat.le_of_ble_eq_true rfl | omega | (dsimp only; omega), by first | exact Nat.le_of_ble_eq_true rfl | omega | (dsimp only; omega), by first | exact Nat.le_of_ble_eq_true rfl | omega | (dsimp only; omega), by first | exact Nat.le_of_ble_eq_true rfl | omega | (dsimp only; omega)⟩ (Nat.le_of_ble_eq_true rfl) (fun E q ce w1 H1 l1 hp => hp.elim) (fun v w1 H locs hp hC => ?_)
  obtain ⟨rfl, hwe9⟩ := hp
  rw [hwe9] at hC
  have hC : tC D cls (ty0 ca) A (zz e0 A) s ((k1, .inr (5, [.int 0, .ref (e0 0), .int 0])) :: (k0, .inr (0, [.null, .null, .null, .int 0, .int 0])) :: rest) H _ := hC
  refine W.eq (g2 := F0 m 12 ls [.ref k1, .ref k0]) rfl ?_
  refine t_putF (ty := (.object "java/util/ArrayList")) (v := .ref k1) hx hb hts inV TV tyV nmV hown hC 1 rfl rfl 0 (by decide) (hts _ w_97) (fun _ h => h) rfl hnm rfl (by decide +kernel) rfl rfl (Nat.le_of_ble_eq_true rfl) d_V_init_12 (fun H locs hC => ?_)
  have hC : tC D cls (ty0 ca) A (zz e0 A) s ((k1, .inr (5, [.int 0, .ref (e0 0), .int 0])) :: (k0, .inr (0, [.ref k1, .null, .null, .int 0, .int 0])) :: rest) H _ := hC
  refine lv_aload_n hx hb d_V_init_15 rfl (lv_at hl 0 rfl) ?_
  refine lv_bipush (v := 6) hx hb d_V_init_16 (by decide) ?_
  refine t_newq hx hb hown (hts _ w_56) (zz_ao hC.2.2.2.2.2 (by decide +kernel)) hC 4 rfl (N' := 6) (by decide) (by decide +kernel) (by decide) (by first | exact Nat.le_of_ble_eq_true rfl | omega | (dsimp only; omega)) (by first | exact Nat.le_of_ble_eq_true rfl | omega | (dsimp only; omega)) d_V_init_18 (fun k2 H locs hC => ?_)
  have hC := t_perm (List.perm_append_singleton _ _) hC
  have hC : tC D cls (ty0 ca) A (zz e0 A) s ((k2, .inl (ca 4, 6, .inr (.inr (.inr (.inr (fun _ => none)))))) :: (k1, .inr (5, [.int 0, .ref (e0 0), .int 0])) :: (k0, .inr (0, [.ref k1, .null, .null, .int 0, .int 0])) :: rest) H _ := hC
  refine t_putF (ty := (.array (.object "RetentionVault$Rule"))) (v := .ref k2) hx hb hts inV TV tyV nmV hown hC 2 rfl rfl 1 (by decide) (hts _ w_98) (fun _ h => h) rfl hnm rfl (by decide +kernel) rfl rfl (Nat.le_of_ble_eq_true rfl) d_V_init_21 (fun H locs hC => ?_)
  have hC : tC D cls (ty0 ca) A (zz e0 A) s ((k2, .inl (ca 4, 6, .inr (.inr (.inr (.inr (fun _ => none)))))) :: (k1, .inr (5, [.int 0, .ref (e0 0), .int 0])) :: (k0, .inr (0, [.ref k1, .ref k2, .null, .int 0, .int 0])) :: rest) H _ := hC
  refine lv_iconst (v := 0) hx hb d_V_init_24 (by decide) ?_
  refine lv_istore_n (lv' := [(1, .int 0), (0, .ref k0)]) hx hb d_V_init_25 rfl hl (by decide) rfl (fun ls hl => ?_)
  have loop : ∀ (k : Nat) (L : List Nat) (ls : Array Slot) (H : Heap) (locs : List Loc), L.length + k = 6 → lv_has ls 2 [(1, .int (nI L.length)), (0, .ref k0)] → tC D cls (ty0 ca) A (zz e0 A) s ((k2, .inl (ca 4, 6, .inr (.inr (.inr (.inr (fun j => L[j]?)))))) :: (k1, .inr (5, [.int 0, .ref (e0 0), .int 0])) :: (k0, .inr (0, [.ref k1, .ref k2, .null, .int 0, .int 0])) :: (va_pl L (tO 2 4 (fun _ => rw0)) ++ rest)) H locs → tB p l e ({ frames := 4, cells := 10, slots := 292, locals := 84 }) s m [.ref k0] below meth c D (ty0 ca) A (zz e0 A) (fun v w2 => v = none ∧ ∃ (K : Nat → Nat) (RL : List Nat), K 0 = k0 ∧ RL.length = 6 ∧ w2 = wC K ca RL [] (fun _ => rw0) (fun _ => rw0) 0 0 0 (nI 0) (e0 0) (nI 0) 7 (fun _ => 0) rest) (xN) H locs (2 + L.length) (9 + 4 * L.length) (F0 m 26 ls []) := by
    intro k
    induction k with
    | zero =>
      intro L ls H locs hk hl hC
      refine t_more (c2 := 8) (s2 := 33) (by omega) (by omega) ?_
      refine lv_iload_n hx hb d_V_init_26 rfl (lv_at hl 0 rfl) ?_
      refine lv_aload_n hx hb d_V_init_27 rfl (lv_at hl 1 rfl) ?_
      refine t_get (v := .ref k2) hx hb hts inV hown hC 2 rfl rfl 1 (by decide) (hts _ w_98) (fun _ h => h) rfl d_V_init_28 ?_
      refine t_alen (v := nI 6) hx hb hC 0 4 rfl rfl rfl d_V_init_31 ?_
      refine lv_icmp_ge (tgt := 54) hx hb d_V_init_32 (by decide) (fun c32 => ?_) (fun c32 => ?_)
      · skip
        refine lv_aload_n hx hb d_V_init_54 rfl (lv_at hl 1 rfl) ?_
        refine t_new (ci := 1) (fs := [.null, .int 0, .long 0]) hx hb hts inG TG tyG hown (hts _ w_77) (hts _ w_78) (hts _ w_6) hC rfl (by intro j hj; rcases (by omega : j = 0 ∨ j = 1 ∨ j = 2) with rfl | rfl | rfl <;> rfl) (by first | exact Nat.le_of_ble_eq_true rfl | omega | (dsimp only; omega)) (by first | exact Nat.le_of_ble_eq_true rfl | omega | (dsimp only; omega)) d_V_init_55 (fun k3 H hC => ?_)
        have hC := t_perm (List.perm_append_singleton _ _) hC
        have hC : tC D cls (ty0 ca) A (zz e0 A) s ((k3, .inr (1, [.null, .int 0, .long 0])) :: (k2, .inl (ca 4, 6, .inr (.inr (.inr (.inr (fun j => L[j]?)))))) :: (k1, .inr (5, [.int 0, .ref (e0 0), .int 0])) :: (k0, .inr (0, [.ref k1, .ref k2, .null, .int 0, .int 0])) :: (va_pl L (tO 2 4 (fun _ => rw0)) ++ rest)) H _ := hC
        refine lv_dup hx hb d_V_init_58 rfl ?_
        refine t_call (t_invIN (As := []) (rest := [.ref k3, .ref k0]) hx hb hown rfl (zz_nest hC.2.2.2.2.2 (o := "RetentionVault") (k := 25) (y := y_G_init) (h9 := "RetentionVault") (by decide +kernel)) (hts _ w_80) (hts _ w_81) ⟨by decide, by decide⟩ rfl d_V_init_59) c_G_init zz_c tb_good hts w_6 hC (hl.1.trans hml.symm) ⟨by first | exact Nat.le_of_ble_eq_true rfl | omega | (dsimp only; omega), by first | exact Nat.le_of_ble_eq_true rfl | omega | (dsimp only; omega), by first | exact Nat.le_of_ble_eq_true rfl | omega | (dsimp only; omega), by first | exact Nat.le_of_ble_eq_true rfl | omega | (dsimp only; omega)⟩ (Nat.le_of_ble_eq_true rfl) (fun E q ce w1 H1 l1 hp => hp.elim) (fun v w1 H locs hp hC => ?_)
        obtain ⟨rfl, k4, hwe9⟩ := hp
        rw [hwe9] at hC
        have hC : tC D cls (ty0 ca) A (zz e0 A) s ((k4, .inl (ca 0, 256, .inl (fun _ => 0))) :: (k3, .inr (1, [.ref k4, .int 0, .long 7])) :: (k2, .inl (ca 4, 6, .inr (.inr (.inr (.inr (fun j => L[j]?)))))) :: (k1, .inr (5, [.int 0, .ref (e0 0), .int 0])) :: (k0, .inr (0, [.ref k1, .ref k2, .null, .int 0, .int 0])) :: (va_pl L (tO 2 4 (fun _ => rw0)) ++ rest)) H _ := hC
        refine W.eq (g2 := F0 m 62 ls [.ref k3, .ref k0]) rfl ?_
        refine t_putF (ty := (.object "RetentionVault$Log")) (v := .ref k3) hx hb hts inV TV tyV nmV hown hC 4 rfl rfl 2 (by decide) (hts _ w_99) (fun _ h => h) rfl hnm rfl (by decide +kernel) rfl rfl (Nat.le_of_ble_eq_true rfl) d_V_init_62 (fun H locs hC => ?_)
        have hC : tC D cls (ty0 ca) A (zz e0 A) s ((k4, .inl (ca 0, 256, .inl (fun _ => 0))) :: (k3, .inr (1, [.ref k4, .int 0, .long 7])) :: (k2, .inl (ca 4, 6, .inr (.inr (.inr (.inr (fun j => L[j]?)))))) :: (k1, .inr (5, [.int 0, .ref (e0 0), .int 0])) :: (k0, .inr (0, [.ref k1, .ref k2, .ref k3, .int 0, .int 0])) :: (va_pl L (tO 2 4 (fun _ => rw0)) ++ rest)) H _ := hC
        have hC := t_perm (List.Perm.append_right (va_pl L (tO 2 4 (fun _ => rw0)) ++ rest) (List.reverse_perm [(k0, .inr (0, [.ref k1, .ref k2, .ref k3, .int 0, .int 0])), (k1, .inr (5, [.int 0, .ref (e0 0), .int 0])), (k2, .inl (ca 4, 6, .inr (.inr (.inr (.inr (fun j => L[j]?)))))), (k3, .inr (1, [.ref k4, .int 0, .long 7])), (k4, .inl (ca 0, 256, .inl (fun _ => 0)))])) hC
        have hC : tC D cls (ty0 ca) A (zz e0 A) s (wC (fun n => [k0, k1, k2, k3, k4].getD n 0) ca L [] (fun _ => rw0) (fun _ => rw0) 0 0 0 (nI 0) (e0 0) (nI 0) 7 (fun _ => 0) rest) H _ := hC
        exact t_vret hx hb hr hlk zz_c hC (⟨rfl, (fun n => [k0, k1, k2, k3, k4].getD n 0), L, rfl, by omega, rfl⟩) (by first | exact Nat.le_of_ble_eq_true rfl | omega | (dsimp only; omega)) (by first | exact Nat.le_of_ble_eq_true rfl | omega | (dsimp only; omega)) d_V_init_65
      · exact absurd (by rw [show L.length = 6 by omega]; exact Int32.le_refl _) c32
    | succ k ih =>
      intro L ls H locs hk hl hC
      refine lv_iload_n hx hb d_V_init_26 rfl (lv_at hl 0 rfl) ?_
      refine lv_aload_n hx hb d_V_init_27 rfl (lv_at hl 1 rfl) ?_
      refine t_get (v := .ref k2) hx hb hts inV hown hC 2 rfl rfl 1 (by decide) (hts _ w_98) (fun _ h => h) rfl d_V_init_28 ?_
      refine t_alen (v := nI 6) hx hb hC 0 4 rfl rfl rfl d_V_init_31 ?_
      refine lv_icmp_ge (tgt := 54) hx hb d_V_init_32 (by decide) (fun c32 => ?_) (fun c32 => ?_)
      · exact absurd ((nI_leI (by omega) (by omega)).mp c32) (by omega)
      · skip
        refine lv_aload_n hx hb d_V_init_35 rfl (lv_at hl 1 rfl) ?_
        refine t_get (v := .ref k2) hx hb hts inV hown hC 2 rfl rfl 1 (by decide) (hts _ w_98) (fun _ h => h) rfl d_V_init_36 ?_
        refine lv_iload_n hx hb d_V_init_39 rfl (lv_at hl 0 rfl) ?_
        refine t_new (ci := 2) (fs := (List.range 4).map (fun j => Value.int (rw0 j))) hx hb hts inU TU tyU hown (hts _ w_56) (hts _ w_58) (hts _ w_5) hC rfl (by intro j hj; rcases (by omega : j = 0 ∨ j = 1 ∨ j = 2 ∨ j = 3) with rfl | rfl | rfl | rfl <;> rfl) (by first | exact Nat.le_of_ble_eq_true rfl | omega | (dsimp only; omega)) (by first | exact Nat.le_of_ble_eq_true rfl | omega | (dsimp only; omega)) d_V_init_40 (fun u H hC => ?_)
        have hC := t_join (X := [(k2, .inl (ca 4, 6, .inr (.inr (.inr (.inr (fun j => L[j]?)))))), (k1, .inr (5, [.int 0, .ref (e0 0), .int 0])), (k0, .inr (0, [.ref k1, .ref k2, .null, .int 0, .int 0]))]) (L := L) (ci := 2) (N := 4) (fv := fun _ => rw0) (g := rw0) hC
        rw [up_const] at hC
        have hC : tC D cls (ty0 ca) A (zz e0 A) s ((k2, .inl (ca 4, 6, .inr (.inr (.inr (.inr (fun j => L[j]?)))))) :: (k1, .inr (5, [.int 0, .ref (e0 0), .int 0])) :: (k0, .inr (0, [.ref k1, .ref k2, .null, .int 0, .int 0])) :: (va_pl (L ++ [u]) (tO 2 4 (fun _ => rw0)) ++ rest)) H _ := hC
        refine lv_dup hx hb d_V_init_43 rfl ?_
        refine t_call (t_invIN (As := []) (rest := [.ref u, .int (nI L.length), .ref k2]) hx hb hown rfl (zz_nest hC.2.2.2.2.2 (o := "RetentionVault") (k := 22) (y := y_U_init) (h9 := "RetentionVault") (by decide +kernel)) (hts _ w_60) (hts _ w_61) ⟨by decide, by decide⟩ rfl d_V_init_44) c_U_init zz_c tb_good hts w_5 hC (hl.1.trans hml.symm) ⟨by first | exact Nat.le_of_ble_eq_true rfl | omega | (dsimp only; omega), by first | exact Nat.le_of_ble_eq_true rfl | omega | (dsimp only; omega), by first | exact Nat.le_of_ble_eq_true rfl | omega | (dsimp only; omega), by first | exact Nat.le_of_ble_eq_true rfl | omega | (dsimp only; omega)⟩ (Nat.le_of_ble_eq_true rfl) (fun E q ce w1 H1 l1 hp => hp.elim) (fun v w1 H locs hp hC => ?_)
        obtain ⟨rfl, hwe9⟩ := hp
        rw [hwe9] at hC
        have hC : tC D cls (ty0 ca) A (zz e0 A) s ((k2, .inl (ca 4, 6, .inr (.inr (.inr (.inr (fun j => L[j]?)))))) :: (k1, .inr (5, [.int 0, .ref (e0 0), .int 0])) :: (k0, .inr (0, [.ref k1, .ref k2, .null, .int 0, .int 0])) :: (va_pl (L ++ [u]) (tO 2 4 (fun _ => rw0)) ++ rest)) H _ := hC
        refine W.eq (g2 := F0 m 47 ls [.ref u, .int (nI L.length), .ref k2]) rfl ?_
        obtain ⟨qk, hqk⟩ : ∃ k, ((k2, .inl (ca 4, 6, .inr (.inr (.inr (.inr (fun j => L[j]?)))))) :: (k1, .inr (5, [.int 0, .ref (e0 0), .int 0])) :: (k0, .inr (0, [.ref k1, .ref k2, .null, .int 0, .int 0])) :: (va_pl (L ++ [u]) (tO 2 4 (fun _ => rw0)) ++ rest))[k]? = some (u, tO 2 4 (fun _ => rw0) u) := List.getElem?_of_mem (List.mem_cons_of_mem _ (List.mem_cons_of_mem _ (List.mem_cons_of_mem _ (List.mem_append_left _ (t_plm (List.mem_append_right _ (List.mem_singleton.mpr rfl)))))))
        refine t_astq (r := cls[2]) hx hb hC 0 4 qk 2 rfl rfl hqk rfl (vp_in_nI (by omega) (by omega)) d_V_init_47 (fun H locs hC => ?_)
        rw [nI_clamp (by omega), up_app] at hC
        have hC : tC D cls (ty0 ca) A (zz e0 A) s ((k2, .inl (ca 4, 6, .inr (.inr (.inr (.inr (fun j => (L ++ [u])[j]?)))))) :: (k1, .inr (5, [.int 0, .ref (e0 0), .int 0])) :: (k0, .inr (0, [.ref k1, .ref k2, .null, .int 0, .int 0])) :: (va_pl (L ++ [u]) (tO 2 4 (fun _ => rw0)) ++ rest)) H _ := hC
        refine lv_iinc (k := 0) (v := nI (L.length + 1)) (lv' := [(1, .int (nI (L.length + 1))), (0, .ref k0)]) hx hb d_V_init_48 hl rfl (nI_1 L.length) (by decide) rfl (fun ls hl => ?_)
        refine lv_goto (tgt := 26) hx hb d_V_init_51 (by decide) ?_
        refine t_more (c2 := 2 + (L ++ [u]).length) (s2 := 9 + 4 * (L ++ [u]).length) (by rw [List.length_append, List.length_singleton]; dsimp only; omega) (by rw [List.length_append, List.length_singleton]; dsimp only; omega) ?_
        exact ih (L ++ [u]) ls H _ (by rw [List.length_append, List.length_singleton]; omega) (by have h9 := lv_sub hl [0, 1] rfl; rw [List.length_append, List.length_singleton]; exact h9) hC
  exact loop 6 [] ls H _ rfl hl hC
