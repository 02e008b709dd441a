/-! The list grows and shrinks: ArrayList add, grow, copyOf, remove. Laid by program (wip/whole/p17.py) -/
section TL
variable {p : Program} {l : Launch} {e : Env} {R : Room} {s : State} {m : MethodId} {args : Array Value} {below : List Frame} {meth : Method} {c : Code} {H : Heap} {locs : List Loc} {cells slots : Nat} {Q : State → Prop}
variable {cc : ByteArray} {pc : Nat} {ls : Array Slot} {rest : List Value} {D : va_G} {cl : List vw_C} {A : Nat → Prop} {Z : State → Heap → Prop} {a : Nat} {tys : List (ClassId × FieldType)} {w : va_W}
theorem t_more {c2 s2 : Nat} {g : JFrame} (h1 : cells ≤ c2) (h2 : slots ≤ s2) (k : W p l e R s m args below meth c H locs c2 s2 Q g) : W p l e R s m args below meth c H locs cells slots Q g :=
  fun T hT X => k T hT ⟨X.admits, X.cas, X.clock, X.frames, X.room, X.hears, X.method, X.code, X.here, X.tail, X.warmed, X.limits, X.bytes, X.same.mono h1 h2⟩
theorem t_newq (hx : p.tables.exec = Jvm.exec) (hb : c.code = cc) {own C : String} {index : Nat} (hown : s.vm.findClass own = some m.cls) (hclink : (Cond.classLink own index C).before args s = true) (hover : va_AO C s) (hC : tC D cl tys A Z s w H locs) (t0 : Nat) {cT : ClassId} (ht : tys[t0]? = some (cT, .object C))
    {n : Int32} {N' : Nat} (hn : ¬ n < 0) (hN : n.toNatClampNeg = N') (hbytes : N' * 4 ≤ 536870912) (hcells : cells + 1 ≤ R.cells) (hslots : slots + N' ≤ R.slots) (hdg : decode cc pc = .ok (.anewarray index, 3))
    (kk : ∀ (q : Nat) (H1 : Heap) (locs1 : List Loc), tC D cl tys A Z s (w ++ [(q, .inl (cT, N', .inr (.inr (.inr (.inr (fun _ => none))))))]) H1 locs1 → W p l e R s m args below meth c H1 locs1 (cells + 1) (slots + N') Q (F0 m (pc + 3) ls (.ref q :: rest))) : W p l e R s m args below meth c H locs cells slots Q (F0 m pc ls (.int n :: rest)) := by
  refine va_newq hx hb hown hclink hover hC.2.2.2.1 hC.1 hC.2.1 hC.2.2.1 hC.2.2.2.2.1 hn hN hbytes hcells hslots hdg (fun q cA H1 hK hP hD hS => ?_)
  have h1 := (hK.2 tys.length (cA, .object C) (by simp)).2
  have h2 := (hC.2.2.2.1.2 t0 _ ht).2
  obtain ⟨_, _, _, _, _, e1⟩ := h1
  obtain ⟨_, _, _, _, _, e2⟩ := h2
  have e3 : cA = cT := Option.some.inj (e1.symm.trans e2)
  subst e3
  exact kk q H1 locs ⟨hP, hD, hS, hC.2.2.2⟩
theorem t_astqO (hx : p.tables.exec = Jvm.exec) (hb : c.code = cc) (hC : tC D cl tys A Z s w H locs) (q0 t0 qk ci : Nat) {E : String} {cA : ClassId} {r : vw_C} {n v : Nat} {vs : List Value} {f : Nat → Option Nat} (ha : w[q0]? = some (a, .inl (cA, n, .inr (.inr (.inr (.inr f)))))) (ht : tys[t0]? = some (cA, .object E)) (hca : va_Nw (.castable r.1 E) s) (hv : w[qk]? = some (v, .inr (ci, vs))) (hc : cl[ci]? = some r) {i : Int32} (hin : vp_in i n) (hdg : decode cc pc = .ok (.aastore, 1))
    (kk : ∀ (H1 : Heap) (locs1 : List Loc), tC D cl tys A Z s (w.set q0 (a, .inl (cA, n, .inr (.inr (.inr (.inr (va_up f i.toNatClampNeg (some v)))))))) H1 locs1 → W p l e R s m args below meth c H1 locs1 cells slots Q (F0 m (pc + 1) ls rest)) : W p l e R s m args below meth c H locs cells slots Q (F0 m pc ls (.ref v :: .int i :: .ref a :: rest)) :=
  va_astqO hx hb hC.2.2.2.1 hC.1 hC.2.1 hC.2.2.1 q0 t0 qk ci ha ht hca hv hc hin hdg (fun H1 l1 h1 h2 h3 => kk H1 l1 ⟨h1, h2, h3, hC.2.2.2⟩)
theorem t_astqN (hx : p.tables.exec = Jvm.exec) (hb : c.code = cc) (hC : tC D cl tys A Z s w H locs) (q0 t0 : Nat) {cA : ClassId} {C : String} {n : Nat} {f : Nat → Option Nat} (ha : w[q0]? = some (a, .inl (cA, n, .inr (.inr (.inr (.inr f)))))) (ht : tys[t0]? = some (cA, .object C)) {i : Int32} (hin : vp_in i n) (hdg : decode cc pc = .ok (.aastore, 1))
    (kk : ∀ (H1 : Heap) (locs1 : List Loc), tC D cl tys A Z s (w.set q0 (a, .inl (cA, n, .inr (.inr (.inr (.inr (va_up f i.toNatClampNeg none))))))) H1 locs1 → W p l e R s m args below meth c H1 locs1 cells slots Q (F0 m (pc + 1) ls rest)) : W p l e R s m args below meth c H locs cells slots Q (F0 m pc ls (.null :: .int i :: .ref a :: rest)) :=
  va_astqN hx hb hC.2.2.2.1 hC.1 hC.2.1 hC.2.2.1 q0 t0 ha ht hin hdg (fun H1 l1 h1 h2 h3 => kk H1 l1 ⟨h1, h2, h3, hC.2.2.2⟩)
theorem t_copyq (hx : p.tables.exec = Jvm.exec) (hb : c.code = cc) (hml : c.maxLocals = ls.size) {own : String} {index : Nat} (hown : s.vm.findClass own = some m.cls) (hlink : (Cond.methodLink own index arraycopyName).before args s = true) (hnat : (Cond.native arraycopyName).before args s = true) (hstat : (Cond.static arraycopyName).before args s = true) (hini : (Cond.initialized "java/lang/System").before args s = true)
    (hC : tC D cl tys A Z s w H locs) (q0 q1 t0 : Nat) {a0 : Nat} {c0 : ClassId} {n0 n1 : Nat} {f g : Nat → Option Nat} {E0 : String} (qV : vw_C) (ha0 : w[q0]? = some (a0, .inl (c0, n0, .inr (.inr (.inr (.inr f)))))) (ha1 : w[q1]? = some (a, .inl (c0, n1, .inr (.inr (.inr (.inr g)))))) (ht0 : tys[t0]? = some (c0, .object E0)) (hca : va_Nw (.castable qV.1 E0) s)
    {sp dp n : Int32} (h1 : ¬ sp < 0) (h2 : ¬ dp < 0) (h3 : ¬ n < 0) (h4 : sp.toNatClampNeg + n.toNatClampNeg ≤ n0) (h5 : dp.toNatClampNeg + n.toNatClampNeg ≤ n1) (hel : ∀ i : Nat, i < n.toNatClampNeg → ∀ y : Nat, f (sp.toNatClampNeg + i) = some y → ∃ cellV : Cell, H[y]? = some cellV ∧ cellV.vm.isStatics = false ∧ s.vm.findClass qV.1 = some cellV.cls)
    (hframes : 1 ≤ R.frames) (hlocals : (rest.map fun v => v.category).sum + (nativeFrameWords "java/lang/System" "arraycopy" 5 + 11) ≤ R.locals) (hdg : decode cc pc = .ok (.invokestatic index, 3))
    (kk : ∀ (H1 : Heap) (locs1 : List Loc), tC D cl tys A Z s (w.set q1 (a, .inl (c0, n1, .inr (.inr (.inr (.inr (va_cpy f g sp.toNatClampNeg dp.toNatClampNeg n.toNatClampNeg))))))) H1 locs1 → W p l e R s m args below meth c H1 locs1 cells slots Q (F0 m (pc + 3) ls rest)) : W p l e R s m args below meth c H locs cells slots Q (F0 m pc ls (.int n :: .int dp :: .ref a :: .int sp :: .ref a0 :: rest)) := by
  refine va_copyq (C := qV.1) hx hb hml hown hlink hnat hstat hini hC.2.2.2.1 hC.1 hC.2.1 hC.2.2.1 q0 q1 t0 t0 ha0 ha1 ht0 ht0 h1 h2 h3 h4 h5 hel ?_ hframes hlocals hdg (fun H1 l1 h1 h2 h3 => kk H1 l1 ⟨h1, h2, h3, hC.2.2.2⟩)
  intro comp c1 g1 g2
  obtain ⟨c3, t1, f1, f2, f3⟩ := Cond.castable_spec (va_Nw.use (A := args) rfl hca)
  cases g1.symm.trans f2
  cases g2.symm.trans f1
  exact f3
theorem t_alen0 {e0 : Nat → Nat} (hx : p.tables.exec = Jvm.exec) (hb : c.code = cc) (hC : tC D cl tys A (zz e0 A) s w H locs) (hdg : decode cc pc = .ok (.arraylength, 1))
    (kk : W p l e R s m args below meth c H locs cells slots Q (F0 m (pc + 1) ls (.int 0 :: rest))) : W p l e R s m args below meth c H locs cells slots Q (F0 m pc ls (.ref (e0 0) :: rest)) := by
  obtain ⟨-, -, ⟨-, hnA, cell, h5, h6, h7, h8⟩, -⟩ := hC.2.2.2.2.2
  have h9 : H[e0 0]? = some cell := by rw [hC.2.2.1.2.1 (e0 0) (Array.getElem?_eq_some_iff.mp h5).1 hnA]; exact h5
  exact W.alen (n := 0) hx hb h9 h6 (by rw [h8]; rfl) rfl rfl hdg kk
theorem zz_mi {e0 : Nat → Nat} {U : State} {H : Heap} (h : zz e0 A U H) : va_Mi "[Ljava/lang/Object;" (e0 1) U := h.2.2.2.2.2.2.2.2.2
theorem zz_ao {e0 : Nat → Nat} {U : State} {H : Heap} (h : zz e0 A U H) {C : String} (hC : C ∈ zO) : va_AO C U := h.2.2.2.2.2.2.1 C hC
theorem zz_cast {e0 : Nat → Nat} {U : State} {H : Heap} (h : zz e0 A U H) {C E : String} (hC : (C, E) ∈ zC) : va_Nw (.castable C E) U := h.2.2.2.2.1 (C, E) hC
theorem zz_de {e0 : Nat → Nat} {U : State} {H : Heap} (h : zz e0 A U H) : va_Z "java/util/ArrayList" "DEFAULTCAPACITY_EMPTY_ELEMENTDATA" "[Ljava/lang/Object;" (.ref (e0 0)) A U H := h.2.2.1.1.Z
theorem zz_decl {e0 : Nat → Nat} {U : State} {H : Heap} (h : zz e0 A U H) {y : MethodName} (hy : y ∈ zD) {ar : Array Value} : (Cond.declares y).before ar U = true := va_Nw.use rfl (h.2.2.2.1 y hy)
theorem t_recvA {cA : ClassId} {n q0 t0 : Nat} {f : Nat → Option Nat} {C nm : String} (hC : tC D cl tys A Z s w H locs) (ha : w[q0]? = some (a, .inl (cA, n, .inr (.inr (.inr (.inr f)))))) (ht : tys[t0]? = some (cA, .object C)) (e : "[" ++ (FieldType.object C).toString = nm) : ∃ cell : Cell, H[a]? = some cell ∧ cell.vm.isStatics = false ∧ s.vm.findClass nm = some cell.cls :=
  ⟨_, hC.1 q0 _ ha, rfl, va_nmO (hC.2.2.2.1.2 t0 _ ht).2 e⟩
end TL
section WX
variable {D : va_G} {cl : List vw_C} {tys : List (ClassId × FieldType)} {A : Nat → Prop} {Z : State → Heap → Prop} {s : State} {H : Heap} {locs : List Loc}
variable {K : Nat → Nat} {ca : Nat → ClassId} {RL LP : List Nat} {fv FR : Nat → RW} {day ever mo n : Int32} {ea : Nat} {wr : Int32} {ch : Int64} {ring : Nat → Int32} {rest : va_W} {x y : Nat × va_E}
theorem wC_perm : (wC K ca RL LP fv FR day ever mo n ea wr ch ring (x :: rest)).Perm (x :: wC K ca RL LP fv FR day ever mo n ea wr ch ring rest) := by
  simp only [wC, ← List.append_assoc]
  exact List.perm_middle
theorem wC_out (hC : tC D cl tys A Z s (wC K ca RL LP fv FR day ever mo n ea wr ch ring (x :: rest)) H locs) : tC D cl tys A Z s (x :: wC K ca RL LP fv FR day ever mo n ea wr ch ring rest) H locs := t_perm wC_perm hC
theorem wC_in (hC : tC D cl tys A Z s (x :: wC K ca RL LP fv FR day ever mo n ea wr ch ring rest) H locs) : tC D cl tys A Z s (wC K ca RL LP fv FR day ever mo n ea wr ch ring (x :: rest)) H locs := t_perm wC_perm.symm hC
theorem wC_app (hC : tC D cl tys A Z s (wC K ca RL LP fv FR day ever mo n ea wr ch ring rest ++ [x]) H locs) : tC D cl tys A Z s (wC K ca RL LP fv FR day ever mo n ea wr ch ring (x :: rest)) H locs := wC_in (t_perm (List.perm_append_singleton _ _) hC)
theorem wC_out2 (hC : tC D cl tys A Z s (wC K ca RL LP fv FR day ever mo n ea wr ch ring (x :: y :: rest)) H locs) : tC D cl tys A Z s (x :: y :: wC K ca RL LP fv FR day ever mo n ea wr ch ring rest) H locs := t_perm (wC_perm.trans (List.Perm.cons _ wC_perm)) hC
theorem wC_in2 (hC : tC D cl tys A Z s (x :: y :: wC K ca RL LP fv FR day ever mo n ea wr ch ring rest) H locs) : tC D cl tys A Z s (wC K ca RL LP fv FR day ever mo n ea wr ch ring (x :: y :: rest)) H locs := t_perm (wC_perm.trans (List.Perm.cons _ wC_perm)).symm hC
theorem wC_drop2 (hC : tC D cl tys A Z s (wC K ca RL LP fv FR day ever mo n ea wr ch ring (x :: y :: rest)) H locs) : tC D cl tys A Z s (wC K ca RL LP fv FR day ever mo n ea wr ch ring (x :: rest)) H locs := wC_in (t_less (List.Sublist.cons₂ _ (List.Sublist.cons _ (List.Sublist.refl _))) (wC_out2 hC))
theorem wC_N {v : Nat} {ex : va_W} (hC : tC D cls tys A Z s (ex ++ wC K ca RL LP fv FR day ever mo n ea wr ch ring rest) H locs) (hv : v ∈ LP) : ∃ k : Nat, (ex ++ wC K ca RL LP fv FR day ever mo n ea wr ch ring rest)[k]? = some (v, tO 3 13 fv v) := by
  refine List.getElem?_of_mem ?_
  exact List.mem_append_right _ (List.mem_append_right _ (List.mem_append_left _ (t_plm hv)))
theorem wC_recvN {v : Nat} (hC : tC D cls tys A Z s (wC K ca RL LP fv FR day ever mo n ea wr ch ring rest) H locs) (hv : v ∈ LP) : ∃ cell : Cell, H[v]? = some cell ∧ cell.vm.isStatics = false ∧ s.vm.findClass "RetentionVault$Version" = some cell.cls := by
  exact t_recvP hC hv rfl rfl
end WX
theorem sh1 : ∀ n, n < 61 → nI n >>> (1 &&& 31) = nI (n / 2) := by decide +kernel
theorem nI_sub1 (n : Nat) : nI (n + 1) - nI n = nI 1 := by
  rw [← nI_1, Int32.add_comm, Int32.add_sub_cancel]
  rfl
theorem mm_max {a b : Nat} (ha : a < 2 ^ 31) (hb : b < 2 ^ 31) : (if nI a < nI b then nI b else nI a) = nI (max a b) := by
  by_cases h : nI a < nI b
  · rw [if_pos h, Nat.max_eq_right (Nat.le_of_lt ((nI_ltI ha hb).mp h))]
  · rw [if_neg h, Nat.max_eq_left (Nat.not_lt.mp (fun q => h ((nI_ltI ha hb).mpr q)))]

set_option maxRecDepth 100000 in
set_option maxHeartbeats 4000000 in
theorem c_AS_newLength {l : Launch} {D : va_G} {tys : List (ClassId × FieldType)} {A : Nat → Prop} {Z : State → Heap → Prop} (hZc : tZ A Z) {w : va_W} {x : Nat} (hx9 : x < 61) : tM l y_AS_newLength tb ({ frames := 1, cells := 0, slots := 0, locals := 40 }) D cls tys A Z [.int (nI x), .int (nI 1), .int (nI (x / 2))] (w) (pR (.int (nI (x + max 1 (x / 2)))) w) (xN) := by
  refine t_ofW (by decide) w_333 (Nat.le_of_ble_eq_true rfl) ?_
  intro p e s m below meth c ls hx hb hr hts hown hlk hnm hml hex hl hC
  have hown : s.vm.findClass "jdk/internal/util/ArraysSupport" = some m.cls := hown
  have hl : lv_has ls 4 [(0, .int (nI x)), (1, .int (nI 1)), (2, .int (nI (x / 2)))] := hl
  refine lv_iload_n hx hb d_AS_newLength_0 rfl (lv_at hl 0 rfl) ?_
  refine lv_iload_n hx hb d_AS_newLength_1 rfl (lv_at hl 1 rfl) ?_
  refine lv_iload_n hx hb d_AS_newLength_2 rfl (lv_at hl 2 rfl) ?_
  refine va_mmax hx hb (hml.trans hl.1.symm) hown (hts _ w_334) (hts _ w_335) (hts _ w_17) (hts _ w_336) (Nat.le_of_ble_eq_true rfl) (Nat.le_of_ble_eq_true rfl) (Nat.le_of_ble_eq_true rfl) (Nat.le_of_ble_eq_true rfl) d_AS_newLength_3 ?_
  rw [mm_max (a := 1) (b := x / 2) (by omega) (by omega)]
  refine lv_iadd hx hb d_AS_newLength_6 ?_
  rw [nI_add]
  refine lv_istore_n (lv' := [(3, .int (nI (x + max 1 (x / 2)))), (0, .int (nI x)), (1, .int (nI 1)), (2, .int (nI (x / 2)))]) hx hb d_AS_newLength_7 rfl hl (by decide) rfl (fun ls hl => ?_)
  refine lv_iconst (v := 0) hx hb d_AS_newLength_8 (by decide) ?_
  refine lv_iload_n hx hb d_AS_newLength_9 rfl (lv_at hl 0 rfl) ?_
  refine lv_icmp_ge (tgt := 21) hx hb d_AS_newLength_10 (by decide) (fun c10 => ?_) (fun c10 => ?_)
  · exact absurd c10 (by show ¬ nI (x + max 1 (x / 2)) ≤ nI 0; exact nI_ge (by omega) (by omega))
  · skip
    refine lv_iload_n hx hb d_AS_newLength_13 rfl (lv_at hl 0 rfl) ?_
    refine lv_ldc (v := 2147483639) hx hb hown (hts _ w_337) d_AS_newLength_14 ?_
    refine lv_icmp_gt (tgt := 21) hx hb d_AS_newLength_16 (by decide) (fun c16 => ?_) (fun c16 => ?_)
    · exact absurd c16 (Int32.not_lt.mpr (show nI (x + max 1 (x / 2)) ≤ nI 2147483639 from nI_le (by omega) (by omega)))
    · skip
      refine lv_iload_n hx hb d_AS_newLength_19 rfl (lv_at hl 0 rfl) ?_
      exact t_iret hx hb hr hlk hZc hC (⟨rfl, rfl⟩) (Nat.le_of_ble_eq_true rfl) (Nat.le_of_ble_eq_true rfl) d_AS_newLength_20

set_option maxRecDepth 100000 in
set_option maxHeartbeats 4000000 in
theorem c_AR_copyOf1 {l : Launch} {D : va_G} {A : Nat → Prop} {e0 : Nat → Nat} {K : Nat → Nat} {ca : Nat → ClassId} {RL LP : List Nat} {fv FR : Nat → RW} {day ever mo n : Int32} {ea : Nat} {wr : Int32} {ch : Int64} {ring : Nat → Int32} {rest : va_W} {n1 n2 : Nat} {el : Nat → Option Nat} (hn12 : n1 ≤ n2) (hn2 : n2 ≤ 60) (hel : ∀ i y, i < n1 → el i = some y → y ∈ LP) : tM l y_AR_copyOf1 tb ({ frames := 1, cells := 1, slots := 60, locals := 40 }) D cls (ty0 ca) A (zz e0 A) [.ref ea, .int (nI n2), .ref (e0 1)] (wC K ca RL LP fv FR day ever mo n ea wr ch ring ((ea, .inl (ca 3, n1, .inr (.inr (.inr (.inr el))))) :: rest)) (fun v w2 => ∃ q, v = some (.ref q) ∧ w2 = wC K ca RL LP fv FR day ever mo n ea wr ch ring ((q, .inl (ca 3, n2, .inr (.inr (.inr (.inr (va_cpy el (fun _ => none) 0 0 n1)))))) :: (ea, .inl (ca 3, n1, .inr (.inr (.inr (.inr el))))) :: rest)) (xN) := by
  refine t_ofW (by decide) w_360 (Nat.le_of_ble_eq_true rfl) ?_
  intro p e s m below meth c ls hx hb hr hts hown hlk hnm hml hex hl hC
  have hown : s.vm.findClass "java/util/Arrays" = some m.cls := hown
  have hl : lv_has ls 4 [(0, .ref ea), (1, .int (nI n2)), (2, .ref (e0 1))] := hl
  refine lv_aload_n hx hb d_AR_copyOf1_0 rfl (lv_at hl 2 rfl) ?_
  refine va_ldcM hx hb hown (hts _ w_361) (zz_mi hC.2.2.2.2.2) d_AR_copyOf1_1 ?_
  refine lv_acmp_ne (rx := (some (e0 1))) (ry := (some (e0 1))) (tgt := 13) hx hb d_AR_copyOf1_3 (by decide) (fun c3 => ?_) (fun c3 => ?_)
  · exact absurd rfl c3
  · skip
    refine lv_iload_n hx hb d_AR_copyOf1_6 rfl (lv_at hl 1 rfl) ?_
    refine t_newq hx hb hown (hts _ w_363) (zz_ao hC.2.2.2.2.2 (by decide +kernel)) hC 3 rfl (N' := n2) (nI_pos (by omega)) (nI_clamp (by omega)) (by omega) (Nat.le_of_ble_eq_true rfl) (by show 0 + n2 ≤ 60; omega) d_AR_copyOf1_7 (fun q H locs hC => ?_)
    have hC := wC_app hC
    refine t_more (c2 := 1) (s2 := 60) (Nat.le_of_ble_eq_true rfl) (by first | exact Nat.le_of_ble_eq_true rfl | omega) ?_
    have hC : tC D cls (ty0 ca) A (zz e0 A) s (wC K ca RL LP fv FR day ever mo n ea wr ch ring ((q, .inl (ca 3, n2, .inr (.inr (.inr (.inr (fun _ => none)))))) :: (ea, .inl (ca 3, n1, .inr (.inr (.inr (.inr el))))) :: rest)) H locs := hC
    refine lv_goto (tgt := 24) hx hb d_AR_copyOf1_10 (by decide) ?_
    refine lv_astore_n (lv' := [(3, .ref q), (0, .ref ea), (1, .int (nI n2)), (2, .ref (e0 1))]) hx hb d_AR_copyOf1_24 rfl hl (by decide) rfl (fun ls hl => ?_)
    refine lv_aload_n hx hb d_AR_copyOf1_25 rfl (lv_at hl 1 rfl) ?_
    refine lv_iconst (v := 0) hx hb d_AR_copyOf1_26 (by decide) ?_
    refine lv_aload_n hx hb d_AR_copyOf1_27 rfl (lv_at hl 0 rfl) ?_
    refine lv_iconst (v := 0) hx hb d_AR_copyOf1_28 (by decide) ?_
    refine lv_aload_n hx hb d_AR_copyOf1_29 rfl (lv_at hl 1 rfl) ?_
    obtain ⟨q0, hq0⟩ : ∃ k, (wC K ca RL LP fv FR day ever mo n ea wr ch ring ((q, .inl (ca 3, n2, .inr (.inr (.inr (.inr (fun _ => none)))))) :: (ea, .inl (ca 3, n1, .inr (.inr (.inr (.inr el))))) :: rest))[k]? = some ((ea, .inl (ca 3, n1, .inr (.inr (.inr (.inr el))))) : Nat × va_E) := List.getElem?_of_mem (by simp [wC])
    refine t_alen (v := nI n1) hx hb hC q0 3 hq0 rfl rfl d_AR_copyOf1_30 ?_
    refine lv_iload_n hx hb d_AR_copyOf1_31 rfl (lv_at hl 2 rfl) ?_
    refine va_mmin hx hb (hml.trans hl.1.symm) hown (hts _ w_364) (hts _ w_365) (hts _ w_17) (hts _ w_366) (Nat.le_of_ble_eq_true rfl) (Nat.le_of_ble_eq_true rfl) (Nat.le_of_ble_eq_true rfl) (by first | exact Nat.le_of_ble_eq_true rfl | (show 0 + n2 ≤ 60; omega)) d_AR_copyOf1_32 ?_
    rw [if_neg (Int32.not_lt.mpr ((nI_leI (a := n1) (b := n2) (by omega) (by omega)).mpr hn12))]
    have hC := wC_out2 hC
    refine t_copyq hx hb (hml.trans hl.1.symm) hown (hts _ w_367) (hts _ w_369) (hts _ w_368) (hts _ w_19) hC 1 0 3 (cls[3]) rfl rfl rfl (zz_cast hC.2.2.2.2.2 (by decide +kernel)) (sp := 0) (dp := 0) (n := nI n1) (by decide) (by decide) (nI_pos (by omega)) (by rw [nI_clamp (by omega)]; show 0 + n1 ≤ n1; omega) (by rw [nI_clamp (by omega)]; show 0 + n1 ≤ n2; omega) (fun i hi y hy => wC_recvN (wC_in2 hC) (hel i y (by rw [nI_clamp (by omega)] at hi; exact hi) (by rw [show (0 : Int32).toNatClampNeg = 0 from rfl, Nat.zero_add] at hy; exact hy))) (Nat.le_of_ble_eq_true rfl) (Nat.le_of_ble_eq_true rfl) d_AR_copyOf1_35 (fun H locs hC => ?_)
    rw [nI_clamp (n := n1) (by omega)] at hC
    have hC := wC_in2 hC
    have hC : tC D cls (ty0 ca) A (zz e0 A) s (wC K ca RL LP fv FR day ever mo n ea wr ch ring ((q, .inl (ca 3, n2, .inr (.inr (.inr (.inr (va_cpy el (fun _ => none) 0 0 n1)))))) :: (ea, .inl (ca 3, n1, .inr (.inr (.inr (.inr el))))) :: rest)) H locs := hC
    refine lv_aload_n hx hb d_AR_copyOf1_38 rfl (lv_at hl 0 rfl) ?_
    exact t_aret (r := some q) hx hb hr (Or.inr ⟨_, rfl⟩) hlk zz_c hC (⟨q, rfl, rfl⟩) (Nat.le_of_ble_eq_true rfl) (Nat.le_of_ble_eq_true rfl) d_AR_copyOf1_39

set_option maxRecDepth 100000 in
set_option maxHeartbeats 4000000 in
theorem c_AR_copyOf0 {l : Launch} {D : va_G} {A : Nat → Prop} {e0 : Nat → Nat} {K : Nat → Nat} {ca : Nat → ClassId} {RL LP : List Nat} {fv FR : Nat → RW} {day ever mo n : Int32} {ea : Nat} {wr : Int32} {ch : Int64} {ring : Nat → Int32} {rest : va_W} {n1 n2 : Nat} {el : Nat → Option Nat} (hn12 : n1 ≤ n2) (hn2 : n2 ≤ 60) (hel : ∀ i y, i < n1 → el i = some y → y ∈ LP) : tM l y_AR_copyOf0 tb ({ frames := 2, cells := 1, slots := 60, locals := 63 }) D cls (ty0 ca) A (zz e0 A) [.ref ea, .int (nI n2)] (wC K ca RL LP fv FR day ever mo n ea wr ch ring ((ea, .inl (ca 3, n1, .inr (.inr (.inr (.inr el))))) :: rest)) (fun v w2 => ∃ q, v = some (.ref q) ∧ w2 = wC K ca RL LP fv FR day ever mo n ea wr ch ring ((q, .inl (ca 3, n2, .inr (.inr (.inr (.inr (va_cpy el (fun _ => none) 0 0 n1)))))) :: (ea, .inl (ca 3, n1, .inr (.inr (.inr (.inr el))))) :: rest)) (xN) := by
  refine t_ofW (by decide) w_343 (Nat.le_of_ble_eq_true rfl) ?_
  intro p e s m below meth c ls hx hb hr hts hown hlk hnm hml hex hl hC
  have hown : s.vm.findClass "java/util/Arrays" = some m.cls := hown
  have hl : lv_has ls 2 [(0, .ref ea), (1, .int (nI n2))] := hl
  refine lv_aload_n hx hb d_AR_copyOf0_0 rfl (lv_at hl 0 rfl) ?_
  refine lv_iload_n hx hb d_AR_copyOf0_1 rfl (lv_at hl 1 rfl) ?_
  refine lv_aload_n hx hb d_AR_copyOf0_2 rfl (lv_at hl 0 rfl) ?_
  obtain ⟨q0, hq0⟩ : ∃ k, (wC K ca RL LP fv FR day ever mo n ea wr ch ring ((ea, .inl (ca 3, n1, .inr (.inr (.inr (.inr el))))) :: rest))[k]? = some ((ea, .inl (ca 3, n1, .inr (.inr (.inr (.inr el))))) : Nat × va_E) := List.getElem?_of_mem (by simp [wC])
  refine va_getC hx hb (hml.trans hl.1.symm) hown (hts _ w_344) (zz_decl hC.2.2.2.2.2 (by decide +kernel)) (hts _ w_834) (hts _ w_345) (hts _ w_357) (zz_mi hC.2.2.2.2.2) (t_recvA (t0 := 3) hC hq0 rfl (by decide +kernel)) (Nat.le_of_ble_eq_true rfl) (Nat.le_of_ble_eq_true rfl) d_AR_copyOf0_3 ?_
  refine t_call (t_invS (As := [.ref ea, .int (nI n2), .ref (e0 1)]) (rest := []) hx hb hown (hts _ w_358) (hts _ w_359) (hts _ w_18) (hts _ w_360) ⟨by decide, by decide⟩ rfl d_AR_copyOf0_6) (c_AR_copyOf1 hn12 hn2 hel) zz_c tb_good hts w_18 hC (hl.1.trans hml.symm) ⟨Nat.le_of_ble_eq_true rfl, Nat.le_of_ble_eq_true rfl, Nat.le_of_ble_eq_true rfl, Nat.le_of_ble_eq_true rfl⟩ (Nat.le_of_ble_eq_true rfl) (fun E q ce w1 H1 l1 hp => hp.elim) (fun v w1 H locs hp hC => ?_)
  obtain ⟨q, rfl, hwe9⟩ := hp
  rw [hwe9] at hC
  have hC : tC D cls (ty0 ca) A (zz e0 A) s (wC K ca RL LP fv FR day ever mo n ea wr ch ring ((q, .inl (ca 3, n2, .inr (.inr (.inr (.inr (va_cpy el (fun _ => none) 0 0 n1)))))) :: (ea, .inl (ca 3, n1, .inr (.inr (.inr (.inr el))))) :: rest)) H locs := hC
  refine W.eq (g2 := F0 m 9 ls [.ref q]) rfl ?_
  exact t_aret (r := some q) hx hb hr (Or.inr ⟨_, rfl⟩) hlk zz_c hC (⟨q, rfl, rfl⟩) (Nat.le_of_ble_eq_true rfl) (Nat.le_of_ble_eq_true rfl) d_AR_copyOf0_9

set_option maxRecDepth 100000 in
set_option maxHeartbeats 4000000 in
theorem c_A_grow1_E {l : Launch} {D : va_G} {A : Nat → Prop} {e0 : Nat → Nat} {K : Nat → Nat} {ca : Nat → ClassId} {RL LP : List Nat} {fv FR : Nat → RW} {day ever mo : Int32} {wr : Int32} {ch : Int64} {ring : Nat → Int32} {rest : va_W} : tM l y_A_grow1 tb ({ frames := 1, cells := 1, slots := 60, locals := 40 }) D cls (ty0 ca) A (zz e0 A) [.ref (K 1), .int (nI 1)] (wC K ca RL LP fv FR day ever mo (nI 0) (e0 0) wr ch ring rest) (fun v w2 => ∃ q, v = some (.ref q) ∧ w2 = wC K ca RL LP fv FR day ever mo (nI 0) q wr ch ring ((q, .inl (ca 3, 10, .inr (.inr (.inr (.inr (fun _ => none)))))) :: rest)) (xN) := by
  refine t_ofW (by decide) w_330 (Nat.le_of_ble_eq_true rfl) ?_
  intro p e s m below meth c ls hx hb hr hts hown hlk hnm hml hex hl hC
  have hown : s.vm.findClass "java/util/ArrayList" = some m.cls := hown
  have hl : lv_has ls 4 [(0, .ref (K 1)), (1, .int (nI 1))] := hl
  refine lv_aload_n hx hb d_A_grow1_0 rfl (lv_at hl 0 rfl) ?_
  refine t_get (v := .ref (e0 0)) hx hb hts inA hown hC 1 rfl rfl 1 (by decide) (hts _ w_44) (fun _ h => h) rfl d_A_grow1_1 ?_
  refine t_alen0 hx hb hC d_A_grow1_4 ?_
  refine lv_istore_n (lv' := [(2, .int 0), (0, .ref (K 1)), (1, .int (nI 1))]) hx hb d_A_grow1_5 rfl hl (by decide) rfl (fun ls hl => ?_)
  refine lv_iload_n hx hb d_A_grow1_6 rfl (lv_at hl 0 rfl) ?_
  refine lv_if_gt (tgt := 20) hx hb d_A_grow1_7 (by decide) (fun c7 => ?_) (fun c7 => ?_)
  · exact absurd c7 (by decide)
  · skip
    refine lv_aload_n hx hb d_A_grow1_10 rfl (lv_at hl 1 rfl) ?_
    refine t_get (v := .ref (e0 0)) hx hb hts inA hown hC 1 rfl rfl 1 (by decide) (hts _ w_44) (fun _ h => h) rfl d_A_grow1_11 ?_
    refine va_gets hx hb (zz_de hC.2.2.2.2.2) hC.2.2.1 hown (hts _ w_42) (fun _ h => h) d_A_grow1_14 ?_
    refine lv_acmp_eq (rx := (some (e0 0))) (ry := (some (e0 0))) (tgt := 45) hx hb d_A_grow1_17 (by decide) (fun c17 => ?_) (fun c17 => ?_)
    · skip
      refine lv_aload_n hx hb d_A_grow1_45 rfl (lv_at hl 1 rfl) ?_
      refine lv_bipush (v := nI 10) hx hb d_A_grow1_46 (by decide) ?_
      refine lv_iload_n hx hb d_A_grow1_48 rfl (lv_at hl 2 rfl) ?_
      refine va_mmax hx hb (hml.trans hl.1.symm) hown (hts _ w_370) (hts _ w_335) (hts _ w_17) (hts _ w_336) (Nat.le_of_ble_eq_true rfl) (Nat.le_of_ble_eq_true rfl) (Nat.le_of_ble_eq_true rfl) (Nat.le_of_ble_eq_true rfl) d_A_grow1_49 ?_
      rw [mm_max (a := 10) (b := 1) (by omega) (by omega)]
      refine t_newq hx hb hown (hts _ w_371) (zz_ao hC.2.2.2.2.2 (by decide +kernel)) hC 3 rfl (N' := 10) (nI_pos (by omega)) (nI_clamp (by omega)) (by omega) (Nat.le_of_ble_eq_true rfl) (by show 0 + 10 ≤ 60; omega) d_A_grow1_52 (fun q H locs hC => ?_)
      have hC := wC_app hC
      refine t_more (c2 := 1) (s2 := 60) (Nat.le_of_ble_eq_true rfl) (by first | exact Nat.le_of_ble_eq_true rfl | omega) ?_
      have hC : tC D cls (ty0 ca) A (zz e0 A) s (wC K ca RL LP fv FR day ever mo (nI 0) (e0 0) wr ch ring ((q, .inl (ca 3, 10, .inr (.inr (.inr (.inr (fun _ => none)))))) :: rest)) H locs := hC
      refine lv_dup_x1 hx hb d_A_grow1_55 rfl rfl ?_
      refine t_put (ty := .array (.object "java/lang/Object")) (v := .ref q) hx hb hts inA TA tyA nmA hown hC 1 rfl rfl 1 (by decide) (hts _ w_44) (fun _ h => h) rfl (by decide +kernel) rfl rfl (Nat.le_of_ble_eq_true rfl) d_A_grow1_56 (fun H locs hC => ?_)
      have hC : tC D cls (ty0 ca) A (zz e0 A) s (wC K ca RL LP fv FR day ever mo (nI 0) q wr ch ring ((q, .inl (ca 3, 10, .inr (.inr (.inr (.inr (fun _ => none)))))) :: rest)) H locs := hC
      exact t_aret (r := some q) hx hb hr (Or.inr ⟨_, rfl⟩) hlk zz_c hC (⟨q, rfl, rfl⟩) (Nat.le_of_ble_eq_true rfl) (Nat.le_of_ble_eq_true rfl) d_A_grow1_59
    · exact absurd rfl c17

set_option maxRecDepth 100000 in
set_option maxHeartbeats 4000000 in
theorem c_A_grow0_E {l : Launch} {D : va_G} {A : Nat → Prop} {e0 : Nat → Nat} {K : Nat → Nat} {ca : Nat → ClassId} {RL LP : List Nat} {fv FR : Nat → RW} {day ever mo : Int32} {wr : Int32} {ch : Int64} {ring : Nat → Int32} {rest : va_W} : tM l y_A_grow0 tb ({ frames := 2, cells := 1, slots := 60, locals := 63 }) D cls (ty0 ca) A (zz e0 A) [.ref (K 1)] (wC K ca RL LP fv FR day ever mo (nI 0) (e0 0) wr ch ring rest) (fun v w2 => ∃ q, v = some (.ref q) ∧ w2 = wC K ca RL LP fv FR day ever mo (nI 0) q wr ch ring ((q, .inl (ca 3, 10, .inr (.inr (.inr (.inr (fun _ => none)))))) :: rest)) (xN) := by
  refine t_ofW (by decide) w_326 (Nat.le_of_ble_eq_true rfl) ?_
  intro p e s m below meth c ls hx hb hr hts hown hlk hnm hml hex hl hC
  have hown : s.vm.findClass "java/util/ArrayList" = some m.cls := hown
  have hl : lv_has ls 1 [(0, .ref (K 1))] := hl
  refine lv_aload_n hx hb d_A_grow0_0 rfl (lv_at hl 0 rfl) ?_
  refine lv_aload_n hx hb d_A_grow0_1 rfl (lv_at hl 0 rfl) ?_
  refine t_get (v := .int (nI 0)) hx hb hts inA hown hC 1 rfl rfl 2 (by decide) (hts _ w_45) (fun _ h => h) rfl d_A_grow0_2 ?_
  refine lv_iconst (v := 1) hx hb d_A_grow0_5 (by decide) ?_
  refine lv_iadd hx hb d_A_grow0_6 ?_
  rw [nI_1]
  refine t_call (t_invV (As := [.int (nI (0 + 1))]) (rest := []) hx hb hown (hts _ w_327) (hts _ w_329) (hts _ s_A_grow1) (hts _ w_330) ⟨by decide, by decide⟩ (t_recv (q0 := 1) hC rfl rfl) rfl d_A_grow0_7) c_A_grow1_E zz_c tb_good hts w_4 hC (hl.1.trans hml.symm) ⟨Nat.le_of_ble_eq_true rfl, Nat.le_of_ble_eq_true rfl, Nat.le_of_ble_eq_true rfl, Nat.le_of_ble_eq_true rfl⟩ (Nat.le_of_ble_eq_true rfl) (fun E q ce w1 H1 l1 hp => hp.elim) (fun v w1 H locs hp hC => ?_)
  obtain ⟨q, rfl, hwe9⟩ := hp
  rw [hwe9] at hC
  have hC : tC D cls (ty0 ca) A (zz e0 A) s (wC K ca RL LP fv FR day ever mo (nI 0) q wr ch ring ((q, .inl (ca 3, 10, .inr (.inr (.inr (.inr (fun _ => none)))))) :: rest)) H locs := hC
  refine W.eq (g2 := F0 m 10 ls [.ref q]) rfl ?_
  exact t_aret (r := some q) hx hb hr (Or.inr ⟨_, rfl⟩) hlk zz_c hC (⟨q, rfl, rfl⟩) (Nat.le_of_ble_eq_true rfl) (Nat.le_of_ble_eq_true rfl) d_A_grow0_10

set_option maxRecDepth 100000 in
set_option maxHeartbeats 4000000 in
theorem c_A_grow1_F {l : Launch} {D : va_G} {A : Nat → Prop} {e0 : Nat → Nat} {K : Nat → Nat} {ca : Nat → ClassId} {RL LP : List Nat} {fv FR : Nat → RW} {day ever mo : Int32} {ea : Nat} {wr : Int32} {ch : Int64} {ring : Nat → Int32} {rest : va_W} {vs : List Nat} {el : Nat → Option Nat} (hv0 : 0 < vs.length) (hv40 : vs.length < 40) (hel : ∀ i y, i < vs.length → el i = some y → y ∈ LP) : tM l y_A_grow1 tb ({ frames := 3, cells := 1, slots := 60, locals := 84 }) D cls (ty0 ca) A (zz e0 A) [.ref (K 1), .int (nI (vs.length + 1))] (wC K ca RL LP fv FR day ever mo (nI vs.length) ea wr ch ring ((ea, .inl (ca 3, vs.length, .inr (.inr (.inr (.inr el))))) :: rest)) (fun v w2 => ∃ q, v = some (.ref q) ∧ w2 = wC K ca RL LP fv FR day ever mo (nI vs.length) q wr ch ring ((q, .inl (ca 3, (vs.length + max 1 (vs.length / 2)), .inr (.inr (.inr (.inr (va_cpy el (fun _ => none) 0 0 vs.length)))))) :: rest)) (xN) := by
  refine t_ofW (by decide) w_330 (Nat.le_of_ble_eq_true rfl) ?_
  intro p e s m below meth c ls hx hb hr hts hown hlk hnm hml hex hl hC
  have hown : s.vm.findClass "java/util/ArrayList" = some m.cls := hown
  have hl : lv_has ls 4 [(0, .ref (K 1)), (1, .int (nI (vs.length + 1)))] := hl
  refine lv_aload_n hx hb d_A_grow1_0 rfl (lv_at hl 0 rfl) ?_
  refine t_get (v := .ref ea) hx hb hts inA hown hC 1 rfl rfl 1 (by decide) (hts _ w_44) (fun _ h => h) rfl d_A_grow1_1 ?_
  obtain ⟨q0, hq0⟩ : ∃ k, (wC K ca RL LP fv FR day ever mo (nI vs.length) ea wr ch ring ((ea, .inl (ca 3, vs.length, .inr (.inr (.inr (.inr el))))) :: rest))[k]? = some ((ea, .inl (ca 3, vs.length, .inr (.inr (.inr (.inr el))))) : Nat × va_E) := List.getElem?_of_mem (by simp [wC])
  refine t_alen (v := nI vs.length) hx hb hC q0 3 hq0 rfl rfl d_A_grow1_4 ?_
  refine lv_istore_n (lv' := [(2, .int (nI vs.length)), (0, .ref (K 1)), (1, .int (nI (vs.length + 1)))]) hx hb d_A_grow1_5 rfl hl (by decide) rfl (fun ls hl => ?_)
  refine lv_iload_n hx hb d_A_grow1_6 rfl (lv_at hl 0 rfl) ?_
  refine lv_if_gt (tgt := 20) hx hb d_A_grow1_7 (by decide) (fun c7 => ?_) (fun c7 => ?_)
  · skip
    refine lv_iload_n hx hb d_A_grow1_20 rfl (lv_at hl 0 rfl) ?_
    refine lv_iload_n hx hb d_A_grow1_21 rfl (lv_at hl 2 rfl) ?_
    refine lv_iload_n hx hb d_A_grow1_22 rfl (lv_at hl 0 rfl) ?_
    refine lv_isub hx hb d_A_grow1_23 ?_
    rw [nI_sub1]
    refine lv_iload_n hx hb d_A_grow1_24 rfl (lv_at hl 0 rfl) ?_
    refine lv_iconst (v := 1) hx hb d_A_grow1_25 (by decide) ?_
    refine lv_ishr hx hb d_A_grow1_26 ?_
    rw [sh1 vs.length (by omega)]
    refine t_call (t_invS (As := [.int (nI vs.length), .int (nI 1), .int (nI (vs.length / 2))]) (rest := []) hx hb hown (hts _ w_331) (hts _ w_332) (hts _ w_16) (hts _ w_333) ⟨by decide, by decide⟩ rfl d_A_grow1_27) (c_AS_newLength zz_c (x := vs.length) (by omega)) zz_c tb_good hts w_16 hC (hl.1.trans hml.symm) ⟨Nat.le_of_ble_eq_true rfl, Nat.le_of_ble_eq_true rfl, Nat.le_of_ble_eq_true rfl, Nat.le_of_ble_eq_true rfl⟩ (Nat.le_of_ble_eq_true rfl) (fun E q ce w1 H1 l1 hp => hp.elim) (fun v w1 H locs hp hC => ?_)
    obtain ⟨rfl, hwe9⟩ := hp
    rw [hwe9] at hC
    have hC : tC D cls (ty0 ca) A (zz e0 A) s (wC K ca RL LP fv FR day ever mo (nI vs.length) ea wr ch ring ((ea, .inl (ca 3, vs.length, .inr (.inr (.inr (.inr el))))) :: rest)) H locs := hC
    refine W.eq (g2 := F0 m 30 ls [.int (nI (vs.length + max 1 (vs.length / 2)))]) rfl ?_
    refine lv_istore_n (lv' := [(3, .int (nI (vs.length + max 1 (vs.length / 2)))), (2, .int (nI vs.length)), (0, .ref (K 1)), (1, .int (nI (vs.length + 1)))]) hx hb d_A_grow1_30 rfl hl (by decide) rfl (fun ls hl => ?_)
    refine lv_aload_n hx hb d_A_grow1_31 rfl (lv_at hl 2 rfl) ?_
    refine lv_aload_n hx hb d_A_grow1_32 rfl (lv_at hl 2 rfl) ?_
    refine t_get (v := .ref ea) hx hb hts inA hown hC 1 rfl rfl 1 (by decide) (hts _ w_44) (fun _ h => h) rfl d_A_grow1_33 ?_
    refine lv_iload_n hx hb d_A_grow1_36 rfl (lv_at hl 0 rfl) ?_
    refine t_call (t_invS (As := [.ref ea, .int (nI (vs.length + max 1 (vs.length / 2)))]) (rest := [.ref (K 1)]) hx hb hown (hts _ w_341) (hts _ w_342) (hts _ w_18) (hts _ w_343) ⟨by decide, by decide⟩ rfl d_A_grow1_37) (c_AR_copyOf0 (n2 := (vs.length + max 1 (vs.length / 2))) (by omega) (by omega) hel) zz_c tb_good hts w_18 hC (hl.1.trans hml.symm) ⟨Nat.le_of_ble_eq_true rfl, Nat.le_of_ble_eq_true rfl, Nat.le_of_ble_eq_true rfl, Nat.le_of_ble_eq_true rfl⟩ (Nat.le_of_ble_eq_true rfl) (fun E q ce w1 H1 l1 hp => hp.elim) (fun v w1 H locs hp hC => ?_)
    obtain ⟨q, rfl, hwe9⟩ := hp
    rw [hwe9] at hC
    have hC : tC D cls (ty0 ca) A (zz e0 A) s (wC K ca RL LP fv FR day ever mo (nI vs.length) ea wr ch ring ((q, .inl (ca 3, (vs.length + max 1 (vs.length / 2)), .inr (.inr (.inr (.inr (va_cpy el (fun _ => none) 0 0 vs.length)))))) :: (ea, .inl (ca 3, vs.length, .inr (.inr (.inr (.inr el))))) :: rest)) H locs := hC
    refine W.eq (g2 := F0 m 40 ls [.ref q, .ref (K 1)]) rfl ?_
    have hC := wC_drop2 hC
    have hC : tC D cls (ty0 ca) A (zz e0 A) s (wC K ca RL LP fv FR day ever mo (nI vs.length) ea wr ch ring ((q, .inl (ca 3, (vs.length + max 1 (vs.length / 2)), .inr (.inr (.inr (.inr (va_cpy el (fun _ => none) 0 0 vs.length)))))) :: rest)) H locs := hC
    refine lv_dup_x1 hx hb d_A_grow1_40 rfl rfl ?_
    refine t_put (ty := .array (.object "java/lang/Object")) (v := .ref q) hx hb hts inA TA tyA nmA hown hC 1 rfl rfl 1 (by decide) (hts _ w_44) (fun _ h => h) rfl (by decide +kernel) rfl rfl (Nat.le_of_ble_eq_true rfl) d_A_grow1_41 (fun H locs hC => ?_)
    have hC : tC D cls (ty0 ca) A (zz e0 A) s (wC K ca RL LP fv FR day ever mo (nI vs.length) q wr ch ring ((q, .inl (ca 3, (vs.length + max 1 (vs.length / 2)), .inr (.inr (.inr (.inr (va_cpy el (fun _ => none) 0 0 vs.length)))))) :: rest)) H locs := hC
    exact t_aret (r := some q) hx hb hr (Or.inr ⟨_, rfl⟩) hlk zz_c hC (⟨q, rfl, rfl⟩) (Nat.le_of_ble_eq_true rfl) (Nat.le_of_ble_eq_true rfl) d_A_grow1_44
  · exact absurd (show nI 0 < nI vs.length from nI_lt hv0 (by omega)) c7

set_option maxRecDepth 100000 in
set_option maxHeartbeats 4000000 in
theorem c_A_grow0_F {l : Launch} {D : va_G} {A : Nat → Prop} {e0 : Nat → Nat} {K : Nat → Nat} {ca : Nat → ClassId} {RL LP : List Nat} {fv FR : Nat → RW} {day ever mo : Int32} {ea : Nat} {wr : Int32} {ch : Int64} {ring : Nat → Int32} {rest : va_W} {vs : List Nat} {el : Nat → Option Nat} (hv0 : 0 < vs.length) (hv40 : vs.length < 40) (hel : ∀ i y, i < vs.length → el i = some y → y ∈ LP) : tM l y_A_grow0 tb ({ frames := 4, cells := 1, slots := 60, locals := 107 }) D cls (ty0 ca) A (zz e0 A) [.ref (K 1)] (wC K ca RL LP fv FR day ever mo (nI vs.length) ea wr ch ring ((ea, .inl (ca 3, vs.length, .inr (.inr (.inr (.inr el))))) :: rest)) (fun v w2 => ∃ q, v = some (.ref q) ∧ w2 = wC K ca RL LP fv FR day ever mo (nI vs.length) q wr ch ring ((q, .inl (ca 3, (vs.length + max 1 (vs.length / 2)), .inr (.inr (.inr (.inr (va_cpy el (fun _ => none) 0 0 vs.length)))))) :: rest)) (xN) := by
  refine t_ofW (by decide) w_326 (Nat.le_of_ble_eq_true rfl) ?_
  intro p e s m below meth c ls hx hb hr hts hown hlk hnm hml hex hl hC
  have hown : s.vm.findClass "java/util/ArrayList" = some m.cls := hown
  have hl : lv_has ls 1 [(0, .ref (K 1))] := hl
  refine lv_aload_n hx hb d_A_grow0_0 rfl (lv_at hl 0 rfl) ?_
  refine lv_aload_n hx hb d_A_grow0_1 rfl (lv_at hl 0 rfl) ?_
  refine t_get (v := .int (nI vs.length)) hx hb hts inA hown hC 1 rfl rfl 2 (by decide) (hts _ w_45) (fun _ h => h) rfl d_A_grow0_2 ?_
  refine lv_iconst (v := 1) hx hb d_A_grow0_5 (by decide) ?_
  refine lv_iadd hx hb d_A_grow0_6 ?_
  rw [nI_1]
  refine t_call (t_invV (As := [.int (nI (vs.length + 1))]) (rest := []) hx hb hown (hts _ w_327) (hts _ w_329) (hts _ s_A_grow1) (hts _ w_330) ⟨by decide, by decide⟩ (t_recv (q0 := 1) hC rfl rfl) rfl d_A_grow0_7) (c_A_grow1_F hv0 hv40 hel) zz_c tb_good hts w_4 hC (hl.1.trans hml.symm) ⟨Nat.le_of_ble_eq_true rfl, Nat.le_of_ble_eq_true rfl, Nat.le_of_ble_eq_true rfl, Nat.le_of_ble_eq_true rfl⟩ (Nat.le_of_ble_eq_true rfl) (fun E q ce w1 H1 l1 hp => hp.elim) (fun v w1 H locs hp hC => ?_)
  obtain ⟨q, rfl, hwe9⟩ := hp
  rw [hwe9] at hC
  have hC : tC D cls (ty0 ca) A (zz e0 A) s (wC K ca RL LP fv FR day ever mo (nI vs.length) q wr ch ring ((q, .inl (ca 3, (vs.length + max 1 (vs.length / 2)), .inr (.inr (.inr (.inr (va_cpy el (fun _ => none) 0 0 vs.length)))))) :: rest)) H locs := hC
  refine W.eq (g2 := F0 m 10 ls [.ref q]) rfl ?_
  exact t_aret (r := some q) hx hb hr (Or.inr ⟨_, rfl⟩) hlk zz_c hC (⟨q, rfl, rfl⟩) (Nat.le_of_ble_eq_true rfl) (Nat.le_of_ble_eq_true rfl) d_A_grow0_10

set_option maxRecDepth 100000 in
set_option maxHeartbeats 4000000 in
theorem c_A_add1_E {l : Launch} {D : va_G} {A : Nat → Prop} {e0 : Nat → Nat} {K : Nat → Nat} {ca : Nat → ClassId} {RL LP : List Nat} {fv FR : Nat → RW} {day ever mo : Int32} {wr : Int32} {ch : Int64} {ring : Nat → Int32} {rest : va_W} {a : Nat} (ha : a ∈ LP) : tM l y_A_add1 tb ({ frames := 5, cells := 1, slots := 60, locals := 127 }) D cls (ty0 ca) A (zz e0 A) [.ref (K 1), .ref a, .ref (e0 0), .int (nI 0)] (wC K ca RL LP fv FR day ever mo (nI 0) (e0 0) wr ch ring rest) (fun v w2 => v = none ∧ ∃ q, w2 = wC K ca RL LP fv FR day ever mo (nI (0 + 1)) q wr ch ring ((q, .inl (ca 3, 10, .inr (.inr (.inr (.inr (va_up (fun _ => none) 0 (some a))))))) :: rest)) (xN) := by
  refine t_ofW (by decide) w_322 (Nat.le_of_ble_eq_true rfl) ?_
  intro p e s m below meth c ls hx hb hr hts hown hlk hnm hml hex hl hC
  have hown : s.vm.findClass "java/util/ArrayList" = some m.cls := hown
  have hl : lv_has ls 4 [(0, .ref (K 1)), (1, .ref a), (2, .ref (e0 0)), (3, .int (nI 0))] := hl
  refine lv_iload_n hx hb d_A_add1_0 rfl (lv_at hl 3 rfl) ?_
  refine lv_aload_n hx hb d_A_add1_1 rfl (lv_at hl 2 rfl) ?_
  refine t_alen0 hx hb hC d_A_add1_2 ?_
  refine lv_icmp_ne (tgt := 11) hx hb d_A_add1_3 (by decide) (fun c3 => ?_) (fun c3 => ?_)
  · exact absurd rfl c3
  · skip
    refine lv_aload_n hx hb d_A_add1_6 rfl (lv_at hl 0 rfl) ?_
    refine t_call (t_invV (As := []) (rest := []) hx hb hown (hts _ w_323) (hts _ w_325) (hts _ s_A_grow0) (hts _ w_326) ⟨by decide, by decide⟩ (t_recv (q0 := 1) hC rfl rfl) rfl d_A_add1_7) c_A_grow0_E zz_c tb_good hts w_4 hC (hl.1.trans hml.symm) ⟨Nat.le_of_ble_eq_true rfl, Nat.le_of_ble_eq_true rfl, Nat.le_of_ble_eq_true rfl, Nat.le_of_ble_eq_true rfl⟩ (Nat.le_of_ble_eq_true rfl) (fun E q ce w1 H1 l1 hp => hp.elim) (fun v w1 H locs hp hC => ?_)
    obtain ⟨q, rfl, hwe9⟩ := hp
    rw [hwe9] at hC
    have hC : tC D cls (ty0 ca) A (zz e0 A) s (wC K ca RL LP fv FR day ever mo (nI 0) q wr ch ring ((q, .inl (ca 3, 10, .inr (.inr (.inr (.inr (fun _ => none)))))) :: rest)) H locs := hC
    refine W.eq (g2 := F0 m 10 ls [.ref q]) rfl ?_
    refine lv_astore_n (lv' := [(2, .ref q), (0, .ref (K 1)), (1, .ref a), (3, .int (nI 0))]) hx hb d_A_add1_10 rfl hl (by decide) rfl (fun ls hl => ?_)
    refine lv_aload_n hx hb d_A_add1_11 rfl (lv_at hl 0 rfl) ?_
    refine lv_iload_n hx hb d_A_add1_12 rfl (lv_at hl 3 rfl) ?_
    refine lv_aload_n hx hb d_A_add1_13 rfl (lv_at hl 2 rfl) ?_
    obtain ⟨qk, hqk⟩ := wC_N (ex := [(q, .inl (ca 3, 10, .inr (.inr (.inr (.inr (fun _ => none))))))]) (wC_out hC) ha
    have hC := wC_out hC
    refine t_astqO hx hb hC 0 3 qk 3 rfl rfl (zz_cast hC.2.2.2.2.2 (by decide +kernel)) hqk rfl (vp_in_nI (by omega) (by omega)) d_A_add1_14 (fun H locs hC => ?_)
    rw [nI_clamp (by omega)] at hC
    have hC := wC_in hC
    have hC : tC D cls (ty0 ca) A (zz e0 A) s (wC K ca RL LP fv FR day ever mo (nI 0) q wr ch ring ((q, .inl (ca 3, 10, .inr (.inr (.inr (.inr (va_up (fun _ => none) 0 (some a))))))) :: rest)) H locs := hC
    refine lv_aload_n hx hb d_A_add1_15 rfl (lv_at hl 1 rfl) ?_
    refine lv_iload_n hx hb d_A_add1_16 rfl (lv_at hl 3 rfl) ?_
    refine lv_iconst (v := 1) hx hb d_A_add1_17 (by decide) ?_
    refine lv_iadd hx hb d_A_add1_18 ?_
    rw [nI_1]
    refine t_put (ty := .int) (v := .int (nI (0 + 1))) hx hb hts inA TA tyA nmA hown hC 1 rfl rfl 2 (by decide) (hts _ w_45) (fun _ h => h) rfl (by decide +kernel) rfl rfl (Nat.le_of_ble_eq_true rfl) d_A_add1_19 (fun H locs hC => ?_)
    have hC : tC D cls (ty0 ca) A (zz e0 A) s (wC K ca RL LP fv FR day ever mo (nI (0 + 1)) q wr ch ring ((q, .inl (ca 3, 10, .inr (.inr (.inr (.inr (va_up (fun _ => none) 0 (some a))))))) :: rest)) H locs := hC
    exact t_vret hx hb hr hlk zz_c hC (⟨rfl, q, rfl⟩) (Nat.le_of_ble_eq_true rfl) (Nat.le_of_ble_eq_true rfl) d_A_add1_22

set_option maxRecDepth 100000 in
set_option maxHeartbeats 4000000 in
theorem c_A_add1_F {l : Launch} {D : va_G} {A : Nat → Prop} {e0 : Nat → Nat} {K : Nat → Nat} {ca : Nat → ClassId} {RL LP : List Nat} {fv FR : Nat → RW} {day ever mo : Int32} {ea : Nat} {wr : Int32} {ch : Int64} {ring : Nat → Int32} {rest : va_W} {vs : List Nat} {el : Nat → Option Nat} (hv0 : 0 < vs.length) (hv40 : vs.length < 40) (hel : ∀ i y, i < vs.length → el i = some y → y ∈ LP) {a : Nat} (ha : a ∈ LP) : tM l y_A_add1 tb ({ frames := 5, cells := 1, slots := 60, locals := 127 }) D cls (ty0 ca) A (zz e0 A) [.ref (K 1), .ref a, .ref ea, .int (nI vs.length)] (wC K ca RL LP fv FR day ever mo (nI vs.length) ea wr ch ring ((ea, .inl (ca 3, vs.length, .inr (.inr (.inr (.inr el))))) :: rest)) (fun v w2 => v = none ∧ ∃ q, w2 = wC K ca RL LP fv FR day ever mo (nI (vs.length + 1)) q wr ch ring ((q, .inl (ca 3, (vs.length + max 1 (vs.length / 2)), .inr (.inr (.inr (.inr (va_up (va_cpy el (fun _ => none) 0 0 vs.length) vs.length (some a))))))) :: rest)) (xN) := by
  refine t_ofW (by decide) w_322 (Nat.le_of_ble_eq_true rfl) ?_
  intro p e s m below meth c ls hx hb hr hts hown hlk hnm hml hex hl hC
  have hown : s.vm.findClass "java/util/ArrayList" = some m.cls := hown
  have hl : lv_has ls 4 [(0, .ref (K 1)), (1, .ref a), (2, .ref ea), (3, .int (nI vs.length))] := hl
  refine lv_iload_n hx hb d_A_add1_0 rfl (lv_at hl 3 rfl) ?_
  refine lv_aload_n hx hb d_A_add1_1 rfl (lv_at hl 2 rfl) ?_
  obtain ⟨q0, hq0⟩ : ∃ k, (wC K ca RL LP fv FR day ever mo (nI vs.length) ea wr ch ring ((ea, .inl (ca 3, vs.length, .inr (.inr (.inr (.inr el))))) :: rest))[k]? = some ((ea, .inl (ca 3, vs.length, .inr (.inr (.inr (.inr el))))) : Nat × va_E) := List.getElem?_of_mem (by simp [wC])
  refine t_alen (v := nI vs.length) hx hb hC q0 3 hq0 rfl rfl d_A_add1_2 ?_
  refine lv_icmp_ne (tgt := 11) hx hb d_A_add1_3 (by decide) (fun c3 => ?_) (fun c3 => ?_)
  · exact absurd rfl c3
  · skip
    refine lv_aload_n hx hb d_A_add1_6 rfl (lv_at hl 0 rfl) ?_
    refine t_call (t_invV (As := []) (rest := []) hx hb hown (hts _ w_323) (hts _ w_325) (hts _ s_A_grow0) (hts _ w_326) ⟨by decide, by decide⟩ (t_recv (q0 := 1) hC rfl rfl) rfl d_A_add1_7) (c_A_grow0_F hv0 hv40 hel) zz_c tb_good hts w_4 hC (hl.1.trans hml.symm) ⟨Nat.le_of_ble_eq_true rfl, Nat.le_of_ble_eq_true rfl, Nat.le_of_ble_eq_true rfl, Nat.le_of_ble_eq_true rfl⟩ (Nat.le_of_ble_eq_true rfl) (fun E q ce w1 H1 l1 hp => hp.elim) (fun v w1 H locs hp hC => ?_)
    obtain ⟨q, rfl, hwe9⟩ := hp
    rw [hwe9] at hC
    have hC : tC D cls (ty0 ca) A (zz e0 A) s (wC K ca RL LP fv FR day ever mo (nI vs.length) q wr ch ring ((q, .inl (ca 3, (vs.length + max 1 (vs.length / 2)), .inr (.inr (.inr (.inr (va_cpy el (fun _ => none) 0 0 vs.length)))))) :: rest)) H locs := hC
    refine W.eq (g2 := F0 m 10 ls [.ref q]) rfl ?_
    refine lv_astore_n (lv' := [(2, .ref q), (0, .ref (K 1)), (1, .ref a), (3, .int (nI vs.length))]) hx hb d_A_add1_10 rfl hl (by decide) rfl (fun ls hl => ?_)
    refine lv_aload_n hx hb d_A_add1_11 rfl (lv_at hl 0 rfl) ?_
    refine lv_iload_n hx hb d_A_add1_12 rfl (lv_at hl 3 rfl) ?_
    refine lv_aload_n hx hb d_A_add1_13 rfl (lv_at hl 2 rfl) ?_
    obtain ⟨qk, hqk⟩ := wC_N (ex := [(q, .inl (ca 3, (vs.length + max 1 (vs.length / 2)), .inr (.inr (.inr (.inr (va_cpy el (fun _ => none) 0 0 vs.length))))))]) (wC_out hC) ha
    have hC := wC_out hC
    refine t_astqO hx hb hC 0 3 qk 3 rfl rfl (zz_cast hC.2.2.2.2.2 (by decide +kernel)) hqk rfl (vp_in_nI (by omega) (by omega)) d_A_add1_14 (fun H locs hC => ?_)
    rw [nI_clamp (by omega)] at hC
    have hC := wC_in hC
    have hC : tC D cls (ty0 ca) A (zz e0 A) s (wC K ca RL LP fv FR day ever mo (nI vs.length) q wr ch ring ((q, .inl (ca 3, (vs.length + max 1 (vs.length / 2)), .inr (.inr (.inr (.inr (va_up (va_cpy el (fun _ => none) 0 0 vs.length) vs.length (some a))))))) :: rest)) H locs := hC
    refine lv_aload_n hx hb d_A_add1_15 rfl (lv_at hl 1 rfl) ?_
    refine lv_iload_n hx hb d_A_add1_16 rfl (lv_at hl 3 rfl) ?_
    refine lv_iconst (v := 1) hx hb d_A_add1_17 (by decide) ?_
    refine lv_iadd hx hb d_A_add1_18 ?_
    rw [nI_1]
    refine t_put (ty := .int) (v := .int (nI (vs.length + 1))) hx hb hts inA TA tyA nmA hown hC 1 rfl rfl 2 (by decide) (hts _ w_45) (fun _ h => h) rfl (by decide +kernel) rfl rfl (Nat.le_of_ble_eq_true rfl) d_A_add1_19 (fun H locs hC => ?_)
    have hC : tC D cls (ty0 ca) A (zz e0 A) s (wC K ca RL LP fv FR day ever mo (nI (vs.length + 1)) q wr ch ring ((q, .inl (ca 3, (vs.length + max 1 (vs.length / 2)), .inr (.inr (.inr (.inr (va_up (va_cpy el (fun _ => none) 0 0 vs.length) vs.length (some a))))))) :: rest)) H locs := hC
    exact t_vret hx hb hr hlk zz_c hC (⟨rfl, q, rfl⟩) (Nat.le_of_ble_eq_true rfl) (Nat.le_of_ble_eq_true rfl) d_A_add1_22

set_option maxRecDepth 100000 in
set_option maxHeartbeats 4000000 in
theorem c_A_add1_N {l : Launch} {D : va_G} {A : Nat → Prop} {e0 : Nat → Nat} {K : Nat → Nat} {ca : Nat → ClassId} {RL LP : List Nat} {fv FR : Nat → RW} {day ever mo : Int32} {ea : Nat} {wr : Int32} {ch : Int64} {ring : Nat → Int32} {rest : va_W} {vs : List Nat} {cap : Nat} {el : Nat → Option Nat} (hvc : vs.length < cap) (hc60 : cap ≤ 60) {a : Nat} (ha : a ∈ LP) : tM l y_A_add1 tb ({ frames := 1, cells := 1, slots := 60, locals := 200 }) D cls (ty0 ca) A (zz e0 A) [.ref (K 1), .ref a, .ref ea, .int (nI vs.length)] (wC K ca RL LP fv FR day ever mo (nI vs.length) ea wr ch ring ((ea, .inl (ca 3, cap, .inr (.inr (.inr (.inr el))))) :: rest)) (fun v w2 => v = none ∧ w2 = wC K ca RL LP fv FR day ever mo (nI (vs.length + 1)) ea wr ch ring ((ea, .inl (ca 3, cap, .inr (.inr (.inr (.inr (va_up el vs.length (some a))))))) :: rest)) (xN) := by
  refine t_ofW (by decide) w_322 (Nat.le_of_ble_eq_true rfl) ?_
  intro p e s m below meth c ls hx hb hr hts hown hlk hnm hml hex hl hC
  have hown : s.vm.findClass "java/util/ArrayList" = some m.cls := hown
  have hl : lv_has ls 4 [(0, .ref (K 1)), (1, .ref a), (2, .ref ea), (3, .int (nI vs.length))] := hl
  refine lv_iload_n hx hb d_A_add1_0 rfl (lv_at hl 3 rfl) ?_
  refine lv_aload_n hx hb d_A_add1_1 rfl (lv_at hl 2 rfl) ?_
  obtain ⟨q0, hq0⟩ : ∃ k, (wC K ca RL LP fv FR day ever mo (nI vs.length) ea wr ch ring ((ea, .inl (ca 3, cap, .inr (.inr (.inr (.inr el))))) :: rest))[k]? = some ((ea, .inl (ca 3, cap, .inr (.inr (.inr (.inr el))))) : Nat × va_E) := List.getElem?_of_mem (by simp [wC])
  refine t_alen (v := nI cap) hx hb hC q0 3 hq0 rfl rfl d_A_add1_2 ?_
  refine lv_icmp_ne (tgt := 11) hx hb d_A_add1_3 (by decide) (fun c3 => ?_) (fun c3 => ?_)
  · skip
    refine lv_aload_n hx hb d_A_add1_11 rfl (lv_at hl 2 rfl) ?_
    refine lv_iload_n hx hb d_A_add1_12 rfl (lv_at hl 3 rfl) ?_
    refine lv_aload_n hx hb d_A_add1_13 rfl (lv_at hl 1 rfl) ?_
    obtain ⟨qk, hqk⟩ := wC_N (ex := [(ea, .inl (ca 3, cap, .inr (.inr (.inr (.inr el)))))]) (wC_out hC) ha
    have hC := wC_out hC
    refine t_astqO hx hb hC 0 3 qk 3 rfl rfl (zz_cast hC.2.2.2.2.2 (by decide +kernel)) hqk rfl (vp_in_nI (by omega) (by omega)) d_A_add1_14 (fun H locs hC => ?_)
    rw [nI_clamp (by omega)] at hC
    have hC := wC_in hC
    have hC : tC D cls (ty0 ca) A (zz e0 A) s (wC K ca RL LP fv FR day ever mo (nI vs.length) ea wr ch ring ((ea, .inl (ca 3, cap, .inr (.inr (.inr (.inr (va_up el vs.length (some a))))))) :: rest)) H locs := hC
    refine lv_aload_n hx hb d_A_add1_15 rfl (lv_at hl 0 rfl) ?_
    refine lv_iload_n hx hb d_A_add1_16 rfl (lv_at hl 3 rfl) ?_
    refine lv_iconst (v := 1) hx hb d_A_add1_17 (by decide) ?_
    refine lv_iadd hx hb d_A_add1_18 ?_
    rw [nI_1]
    refine t_put (ty := .int) (v := .int (nI (vs.length + 1))) hx hb hts inA TA tyA nmA hown hC 1 rfl rfl 2 (by decide) (hts _ w_45) (fun _ h => h) rfl (by decide +kernel) rfl rfl (Nat.le_of_ble_eq_true rfl) d_A_add1_19 (fun H locs hC => ?_)
    have hC : tC D cls (ty0 ca) A (zz e0 A) s (wC K ca RL LP fv FR day ever mo (nI (vs.length + 1)) ea wr ch ring ((ea, .inl (ca 3, cap, .inr (.inr (.inr (.inr (va_up el vs.length (some a))))))) :: rest)) H locs := hC
    exact t_vret hx hb hr hlk zz_c hC (⟨rfl, rfl⟩) (Nat.le_of_ble_eq_true rfl) (Nat.le_of_ble_eq_true rfl) d_A_add1_22
  · exact absurd ((nI_eq (by omega) (by omega)).mp c3) (by omega)
