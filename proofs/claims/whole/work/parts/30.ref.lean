/-! The reference: its world; its small methods. Laid by program (wip/whole/p30.py) -/
def wM (J : Nat → Nat) (ca : Nat → ClassId) (code day made count : Int32) (M U : Nat → Nat → Int32) (en : Int32) (log : Nat → Int32) (lk : Int64) (rest : va_W) : va_W :=
  (J 0, .inr (4, [.int code, .int day, .int made, .int count, .ref (J 1), .ref (J 2), .ref (J 3), .ref (J 4), .ref (J 5), .ref (J 6), .ref (J 7), .ref (J 8), .ref (J 9), .ref (J 10), .ref (J 11), .ref (J 12), .ref (J 13), .ref (J 14), .ref (J 15), .ref (J 16), .int en, .ref (J 17), .long lk])) ::
  (J 1, .inl (ca 0, 40, .inl (M 0))) ::
  (J 2, .inl (ca 0, 40, .inl (M 1))) ::
  (J 3, .inl (ca 0, 40, .inl (M 3))) ::
  (J 4, .inl (ca 0, 40, .inl (M 4))) ::
  (J 5, .inl (ca 0, 40, .inl (M 2))) ::
  (J 6, .inl (ca 0, 40, .inl (M 7))) ::
  (J 7, .inl (ca 0, 40, .inl (M 5))) ::
  (J 8, .inl (ca 0, 40, .inl (M 8))) ::
  (J 9, .inl (ca 1, 40, .inl (M 9))) ::
  (J 10, .inl (ca 0, 40, .inl (M 10))) ::
  (J 11, .inl (ca 0, 40, .inl (M 11))) ::
  (J 12, .inl (ca 0, 40, .inl (M 12))) ::
  (J 13, .inl (ca 0, 6, .inl (U 3))) ::
  (J 14, .inl (ca 0, 6, .inl (U 0))) ::
  (J 15, .inl (ca 1, 6, .inl (U 1))) ::
  (J 16, .inl (ca 0, 6, .inl (U 2))) ::
  (J 17, .inl (ca 0, 256, .inl log)) :: rest
/-- the reference's columns say what the rows say (column 6 it has none) -/
def mA (rows : List RW) (M : Nat → Nat → Int32) : Prop := ∀ i, i < rows.length → ∀ c, c < 13 → c ≠ 6 → M c i = rw_at rows i c
def uA (Rs : List RW) (U : Nat → Nat → Int32) : Prop := ∀ r, r < 6 → ∀ c, c < 4 → U c r = rw_at Rs r c
def rw_lastN (rows : List RW) (v : Int32) : Nat → Option Nat
  | 0 => none
  | n + 1 => if rw_at rows n 0 = v then some n else rw_lastN rows v n
def oI (o : Option Nat) : Int32 := match o with
  | none => -1
  | some i => nI i
def rw_obj (rows : List RW) (v : Int32) : Option Nat := match rw_lastN rows v rows.length with
  | none => none
  | some i => if 0 < rw_at rows i 3 then some i else none
theorem rw_lastN_lt {rows : List RW} {v : Int32} {i : Nat} : ∀ {n : Nat}, rw_lastN rows v n = some i → i < n ∧ rw_at rows i 0 = v := by
  intro n
  induction n with
  | zero => intro h; cases h
  | succ n ih =>
    intro h
    unfold rw_lastN at h
    split at h
    · cases h; rename_i h2; exact ⟨Nat.lt_succ_self _, h2⟩
    · have := ih h; exact ⟨by omega, this.2⟩
theorem up_ne {M M2 : Nat → Nat → Int32} {c d : Nat} {g : Nat → Int32} (h : va_up M c g = M2) (hd : d ≠ c) : M2 d = M d := by
  rw [← h]
  simp only [va_up, if_neg hd]
theorem up_eq {M M2 : Nat → Nat → Int32} {c : Nat} {g : Nat → Int32} (h : va_up M c g = M2) : M2 c = g := by
  rw [← h]
  simp only [va_up, if_pos]
section GM
variable {D : va_G} {A : Nat → Prop} {Z : State → Heap → Prop} {s : State} {H : Heap} {locs : List Loc} {J : Nat → Nat} {ca : Nat → ClassId} {code day made count : Int32} {M U M1 U1 : Nat → Nat → Int32} {en : Int32} {log : Nat → Int32} {lk : Int64} {rest : va_W} {G : Prop}
/-- a name for what the columns have become (by a lemma: so that terms stay small) -/
theorem gM (hC : tC D cls (ty0 ca) A Z s (wM J ca code day made count M1 U en log lk rest) H locs) (k : ∀ M2, M1 = M2 → tC D cls (ty0 ca) A Z s (wM J ca code day made count M2 U en log lk rest) H locs → G) : G := k M1 rfl hC
theorem gU (hC : tC D cls (ty0 ca) A Z s (wM J ca code day made count M U1 en log lk rest) H locs) (k : ∀ U2, U1 = U2 → tC D cls (ty0 ca) A Z s (wM J ca code day made count M U2 en log lk rest) H locs → G) : G := k U1 rfl hC
end GM
section TM
variable {p : Program} {l : Launch} {e : Env} {R : Room} {s : State} {m : MethodId} {args : Array Value} {below : List Frame} {meth : Method} {c : Code} {H : Heap} {locs : List Loc} {cells slots : Nat} {Q : State → Prop}
variable {cc : ByteArray} {pc : Nat} {ls : Array Slot} {rest : List Value} {D : va_G} {cl : List vw_C} {A : Nat → Prop} {Z : State → Heap → Prop} {a : Nat} {tys : List (ClassId × FieldType)} {w : va_W}
theorem lv_iaddN {a b : Nat} {y : Int32} (hx : p.tables.exec = Jvm.exec) (hb : c.code = cc) (hy : y = nI b) (hdg : decode cc pc = .ok (.iadd, 1)) (k : W p l e R s m args below meth c H locs cells slots Q (F0 m (pc + 1) ls (.int (nI (a + b)) :: rest))) : W p l e R s m args below meth c H locs cells slots Q (F0 m pc ls (.int y :: .int (nI a) :: rest)) := by
  subst hy
  refine lv_iadd hx hb hdg ?_
  rw [nI_add]
  exact k
theorem t_ialdN (hx : p.tables.exec = Jvm.exec) (hb : c.code = cc) (hC : tC D cl tys A Z s w H locs) (q0 t0 : Nat) {cA : ClassId} {n : Nat} {f : Nat → Int32} (ha : w[q0]? = some (a, .inl (cA, n, .inl f))) (ht : tys[t0]? = some (cA, .int)) {k : Nat} (hk : k < n) (hn : n < 2 ^ 31) (hdg : decode cc pc = .ok (.iaload, 1))
    (kk : W p l e R s m args below meth c H locs cells slots Q (F0 m (pc + 1) ls (.int (f k) :: rest))) : W p l e R s m args below meth c H locs cells slots Q (F0 m pc ls (.int (nI k) :: .ref a :: rest)) := by
  refine t_iald hx hb hC q0 t0 ha ht (vp_in_nI hk hn) hdg ?_
  rw [nI_clamp (by omega)]
  exact kk
theorem t_zaldN (hx : p.tables.exec = Jvm.exec) (hb : c.code = cc) (hC : tC D cl tys A Z s w H locs) (q0 t0 : Nat) {cA : ClassId} {n : Nat} {f : Nat → Int32} (ha : w[q0]? = some (a, .inl (cA, n, .inl f))) (ht : tys[t0]? = some (cA, .boolean)) {k : Nat} (hk : k < n) (hn : n < 2 ^ 31) (hdg : decode cc pc = .ok (.baload, 1))
    (kk : W p l e R s m args below meth c H locs cells slots Q (F0 m (pc + 1) ls (.int (f k) :: rest))) : W p l e R s m args below meth c H locs cells slots Q (F0 m pc ls (.int (nI k) :: .ref a :: rest)) := by
  refine t_zald hx hb hC q0 t0 ha ht (vp_in_nI hk hn) hdg ?_
  rw [nI_clamp (by omega)]
  exact kk
theorem t_iastN (hx : p.tables.exec = Jvm.exec) (hb : c.code = cc) (hC : tC D cl tys A Z s w H locs) (q0 t0 : Nat) {cA : ClassId} {n : Nat} {f : Nat → Int32} (ha : w[q0]? = some (a, .inl (cA, n, .inl f))) (ht : tys[t0]? = some (cA, .int)) {k : Nat} {x : Int32} (hk : k < n) (hn : n < 2 ^ 31) (hdg : decode cc pc = .ok (.iastore, 1))
    (kk : ∀ (H1 : Heap) (locs1 : List Loc), tC D cl tys A Z s (w.set q0 (a, .inl (cA, n, .inl (upd f k x)))) H1 locs1 → W p l e R s m args below meth c H1 locs1 cells slots Q (F0 m (pc + 1) ls rest)) : W p l e R s m args below meth c H locs cells slots Q (F0 m pc ls (.int x :: .int (nI k) :: .ref a :: rest)) := by
  refine t_iast hx hb hC q0 t0 ha ht (vp_in_nI hk hn) hdg (fun H1 l1 h1 => ?_)
  rw [nI_clamp (by omega)] at h1
  exact kk H1 l1 h1
theorem t_zastN (hx : p.tables.exec = Jvm.exec) (hb : c.code = cc) (hC : tC D cl tys A Z s w H locs) (q0 t0 : Nat) {cA : ClassId} {n : Nat} {f : Nat → Int32} (ha : w[q0]? = some (a, .inl (cA, n, .inl f))) (ht : tys[t0]? = some (cA, .boolean)) {k : Nat} {x : Int32} (hk : k < n) (hn : n < 2 ^ 31) (hz : x = 0 ∨ x = 1) (hdg : decode cc pc = .ok (.bastore, 1))
    (kk : ∀ (H1 : Heap) (locs1 : List Loc), tC D cl tys A Z s (w.set q0 (a, .inl (cA, n, .inl (upd f k x)))) H1 locs1 → W p l e R s m args below meth c H1 locs1 cells slots Q (F0 m (pc + 1) ls rest)) : W p l e R s m args below meth c H locs cells slots Q (F0 m pc ls (.int x :: .int (nI k) :: .ref a :: rest)) := by
  refine t_zast hx hb hC q0 t0 ha ht (vp_in_nI hk hn) hz hdg (fun H1 l1 h1 => ?_)
  rw [nI_clamp (by omega)] at h1
  exact kk H1 l1 h1
end TM

theorem up4_0 {f : Nat → Int32} {n : Nat} {a b c d : Int32} : upd (upd (upd (upd f n a) (n + 1) b) (n + 2) c) (n + 3) d (n + 0) = a := by
  rw [pk_un (by omega), pk_un (by omega), pk_un (by omega), Nat.add_zero, pk_us]
theorem up4_1 {f : Nat → Int32} {n : Nat} {a b c d : Int32} : upd (upd (upd (upd f n a) (n + 1) b) (n + 2) c) (n + 3) d (n + 1) = b := by
  rw [pk_un (by omega), pk_un (by omega), pk_us]
theorem up4_2 {f : Nat → Int32} {n : Nat} {a b c d : Int32} : upd (upd (upd (upd f n a) (n + 1) b) (n + 2) c) (n + 3) d (n + 2) = c := by
  rw [pk_un (by omega), pk_us]
theorem up4_3 {f : Nat → Int32} {n : Nat} {a b c d : Int32} : upd (upd (upd (upd f n a) (n + 1) b) (n + 2) c) (n + 3) d (n + 3) = d := pk_us

set_option maxRecDepth 100000 in
set_option maxHeartbeats 4000000 in
theorem c_M_enter {l : Launch} {D : va_G} {A : Nat → Prop} {Z : State → Heap → Prop} (hZc : tZ A Z) {J : Nat → Nat} {ca : Nat → ClassId} {code day made count : Int32} {M U : Nat → Nat → Int32} {log : Nat → Int32} {lk : Int64} {rest : va_W} {kind of9 det : Int32} {w9 : Nat} (hw9 : w9 < 2 ^ 31) : tM l y_M_enter tb ({ frames := 0, cells := 0, slots := 0, locals := 0 }) D cls (ty0 ca) A Z [.ref (J 0), .int kind, .int of9, .int det] (wM J ca code day made count M U (nI w9) log lk rest) (fun v w2 => v = none ∧ w2 = wM J ca code day made count M U (nI (w9 + 1)) ((lg_wr (log, w9, lk) day kind of9 det).1) ((lg_wr (log, w9, lk) day kind of9 det).2.2) rest) (xN) := by
  refine t_ofW (by decide) w_728 (Nat.le_of_ble_eq_true rfl) ?_
  intro p e s m below meth c ls hx hb hr hts hown hlk hnm hml hex hl hC
  have hown : s.vm.findClass "RetentionVaultModel" = some m.cls := hown
  have hl : lv_has ls 6 [(0, .ref (J 0)), (1, .int kind), (2, .int of9), (3, .int det)] := hl
  refine lv_aload_n hx hb d_M_enter_0 rfl (lv_at hl 0 rfl) ?_
  refine t_get (v := .int (nI w9)) hx hb hts inM hown hC 0 rfl rfl 20 (by decide) (hts _ w_657) (fun _ h => h) rfl d_M_enter_1 ?_
  refine lv_bipush (v := 64) hx hb d_M_enter_4 (by decide) ?_
  refine lv_irem hx hb d_M_enter_6 (by decide) ?_
  rw [show nI w9 - nI w9 / 64 * 64 = nI (w9 % 64) from pk_rem (d := 64) (by omega) (by decide) (by decide)]
  refine lv_iconst (v := 4) hx hb d_M_enter_7 (by decide) ?_
  refine lv_imul hx hb d_M_enter_8 ?_
  rw [show nI (w9 % 64) * 4 = nI ((w9 % 64) * 4) from pk_mul _ _]
  refine lv_istore (lv' := [(4, .int (nI ((w9 % 64) * 4))), (0, .ref (J 0)), (1, .int kind), (2, .int of9), (3, .int det)]) hx hb d_M_enter_9 hl (by decide) rfl (fun ls hl => ?_)
  refine lv_aload_n hx hb d_M_enter_11 rfl (lv_at hl 1 rfl) ?_
  refine t_get (v := .ref (J 17)) hx hb hts inM hown hC 0 rfl rfl 21 (by decide) (hts _ w_658) (fun _ h => h) rfl d_M_enter_12 ?_
  refine lv_iload hx hb d_M_enter_15 (lv_at hl 0 rfl) ?_
  refine lv_aload_n hx hb d_M_enter_17 rfl (lv_at hl 1 rfl) ?_
  refine t_get (v := .int day) hx hb hts inM hown hC 0 rfl rfl 1 (by decide) (hts _ w_638) (fun _ h => h) rfl d_M_enter_18 ?_
  refine t_iastN (k := ((w9 % 64) * 4)) hx hb hC 17 0 rfl rfl (by omega) (by decide) d_M_enter_21 (fun H locs hC => ?_)
  have hC : tC D cls (ty0 ca) A Z s (wM J ca code day made count M U (nI w9) (upd log ((w9 % 64) * 4) day) lk rest) H locs := hC
  refine lv_aload_n hx hb d_M_enter_22 rfl (lv_at hl 1 rfl) ?_
  refine t_get (v := .ref (J 17)) hx hb hts inM hown hC 0 rfl rfl 21 (by decide) (hts _ w_658) (fun _ h => h) rfl d_M_enter_23 ?_
  refine lv_iload hx hb d_M_enter_26 (lv_at hl 0 rfl) ?_
  refine lv_iconst (v := 1) hx hb d_M_enter_28 (by decide) ?_
  refine lv_iaddN (a := ((w9 % 64) * 4)) (b := 1) hx hb rfl d_M_enter_29 ?_
  refine lv_iload_n hx hb d_M_enter_30 rfl (lv_at hl 2 rfl) ?_
  refine t_iastN (k := (((w9 % 64) * 4) + 1)) hx hb hC 17 0 rfl rfl (by omega) (by decide) d_M_enter_31 (fun H locs hC => ?_)
  have hC : tC D cls (ty0 ca) A Z s (wM J ca code day made count M U (nI w9) (upd (upd log ((w9 % 64) * 4) day) (((w9 % 64) * 4) + 1) kind) lk rest) H locs := hC
  refine lv_aload_n hx hb d_M_enter_32 rfl (lv_at hl 1 rfl) ?_
  refine t_get (v := .ref (J 17)) hx hb hts inM hown hC 0 rfl rfl 21 (by decide) (hts _ w_658) (fun _ h => h) rfl d_M_enter_33 ?_
  refine lv_iload hx hb d_M_enter_36 (lv_at hl 0 rfl) ?_
  refine lv_iconst (v := 2) hx hb d_M_enter_38 (by decide) ?_
  refine lv_iaddN (a := ((w9 % 64) * 4)) (b := 2) hx hb rfl d_M_enter_39 ?_
  refine lv_iload_n hx hb d_M_enter_40 rfl (lv_at hl 3 rfl) ?_
  refine t_iastN (k := (((w9 % 64) * 4) + 2)) hx hb hC 17 0 rfl rfl (by omega) (by decide) d_M_enter_41 (fun H locs hC => ?_)
  have hC : tC D cls (ty0 ca) A Z s (wM J ca code day made count M U (nI w9) (upd (upd (upd log ((w9 % 64) * 4) day) (((w9 % 64) * 4) + 1) kind) (((w9 % 64) * 4) + 2) of9) lk rest) H locs := hC
  refine lv_aload_n hx hb d_M_enter_42 rfl (lv_at hl 1 rfl) ?_
  refine t_get (v := .ref (J 17)) hx hb hts inM hown hC 0 rfl rfl 21 (by decide) (hts _ w_658) (fun _ h => h) rfl d_M_enter_43 ?_
  refine lv_iload hx hb d_M_enter_46 (lv_at hl 0 rfl) ?_
  refine lv_iconst (v := 3) hx hb d_M_enter_48 (by decide) ?_
  refine lv_iaddN (a := ((w9 % 64) * 4)) (b := 3) hx hb rfl d_M_enter_49 ?_
  refine lv_iload_n hx hb d_M_enter_50 rfl (lv_at hl 4 rfl) ?_
  refine t_iastN (k := (((w9 % 64) * 4) + 3)) hx hb hC 17 0 rfl rfl (by omega) (by decide) d_M_enter_51 (fun H locs hC => ?_)
  have hC : tC D cls (ty0 ca) A Z s (wM J ca code day made count M U (nI w9) (upd (upd (upd (upd log ((w9 % 64) * 4) day) (((w9 % 64) * 4) + 1) kind) (((w9 % 64) * 4) + 2) of9) (((w9 % 64) * 4) + 3) det) lk rest) H locs := hC
  refine lv_aload_n hx hb d_M_enter_52 rfl (lv_at hl 1 rfl) ?_
  refine lv_dup hx hb d_M_enter_53 rfl ?_
  refine t_get (v := .int (nI w9)) hx hb hts inM hown hC 0 rfl rfl 20 (by decide) (hts _ w_657) (fun _ h => h) rfl d_M_enter_54 ?_
  refine lv_iconst (v := 1) hx hb d_M_enter_57 (by decide) ?_
  refine lv_iaddN (a := w9) (b := 1) hx hb rfl d_M_enter_58 ?_
  refine t_put (ty := .int) (v := .int (nI (w9 + 1))) hx hb hts inM TM tyM nmM hown hC 0 rfl rfl 20 (by decide) (hts _ w_657) (fun _ h => h) rfl (by decide +kernel) rfl rfl (Nat.le_of_ble_eq_true rfl) d_M_enter_59 (fun H locs hC => ?_)
  have hC : tC D cls (ty0 ca) A Z s (wM J ca code day made count M U (nI (w9 + 1)) (upd (upd (upd (upd log ((w9 % 64) * 4) day) (((w9 % 64) * 4) + 1) kind) (((w9 % 64) * 4) + 2) of9) (((w9 % 64) * 4) + 3) det) lk rest) H locs := hC
  refine lv_iconst (v := 0) hx hb d_M_enter_62 (by decide) ?_
  refine lv_istore (lv' := [(5, .int 0), (4, .int (nI ((w9 % 64) * 4))), (0, .ref (J 0)), (1, .int kind), (2, .int of9), (3, .int det)]) hx hb d_M_enter_63 hl (by decide) rfl (fun ls hl => ?_)
  refine lv_iload hx hb d_M_enter_65 (lv_at hl 0 rfl) ?_
  refine lv_iconst (v := 4) hx hb d_M_enter_67 (by decide) ?_
  refine lv_icmp_ge (tgt := 101) hx hb d_M_enter_68 (by decide) (fun c68 => ?_) (fun c68 => ?_)
  · first | exact absurd c68 (by decide) | exact absurd (by decide) c68
  · skip
    refine lv_aload_n hx hb d_M_enter_71 rfl (lv_at hl 2 rfl) ?_
    refine lv_aload_n hx hb d_M_enter_72 rfl (lv_at hl 2 rfl) ?_
    refine t_get (v := .long lk) hx hb hts inM hown hC 0 rfl rfl 22 (by decide) (hts _ w_659) (fun _ h => h) rfl d_M_enter_73 ?_
    refine lv_aload_n hx hb d_M_enter_76 rfl (lv_at hl 2 rfl) ?_
    refine t_get (v := .ref (J 17)) hx hb hts inM hown hC 0 rfl rfl 21 (by decide) (hts _ w_658) (fun _ h => h) rfl d_M_enter_77 ?_
    refine lv_iload hx hb d_M_enter_80 (lv_at hl 1 rfl) ?_
    refine lv_iload hx hb d_M_enter_82 (lv_at hl 0 rfl) ?_
    refine lv_iaddN (a := ((w9 % 64) * 4)) (b := 0) hx hb rfl d_M_enter_84 ?_
    refine t_ialdN (k := (((w9 % 64) * 4) + 0)) hx hb hC 17 0 rfl rfl (by omega) (by decide) d_M_enter_85 ?_
    rw [up4_0]
    refine lv_i2l (v := day.toInt64) hx hb d_M_enter_86 rfl ?_
    refine lv_lxor hx hb d_M_enter_87 ?_
    refine lv_ldc2 (v := 1099511628211) hx hb hown (hts _ w_729) d_M_enter_88 ?_
    refine lv_lmul hx hb d_M_enter_91 ?_
    refine t_put (ty := .long) (v := .long ((lk ^^^ day.toInt64) * 1099511628211)) hx hb hts inM TM tyM nmM hown hC 0 rfl rfl 22 (by decide) (hts _ w_659) (fun _ h => h) rfl (by decide +kernel) rfl rfl (Nat.le_of_ble_eq_true rfl) d_M_enter_92 (fun H locs hC => ?_)
    have hC : tC D cls (ty0 ca) A Z s (wM J ca code day made count M U (nI (w9 + 1)) (upd (upd (upd (upd log ((w9 % 64) * 4) day) (((w9 % 64) * 4) + 1) kind) (((w9 % 64) * 4) + 2) of9) (((w9 % 64) * 4) + 3) det) ((lk ^^^ day.toInt64) * 1099511628211) rest) H locs := hC
    refine lv_iinc (k := 0) (v := 1) (lv' := [(5, .int 1), (4, .int (nI ((w9 % 64) * 4))), (0, .ref (J 0)), (1, .int kind), (2, .int of9), (3, .int det)]) hx hb d_M_enter_95 hl rfl (by decide) (by decide) rfl (fun ls hl => ?_)
    refine lv_goto (tgt := 65) hx hb d_M_enter_98 (by decide) ?_
    refine lv_iload hx hb d_M_enter_65 (lv_at hl 0 rfl) ?_
    refine lv_iconst (v := 4) hx hb d_M_enter_67 (by decide) ?_
    refine lv_icmp_ge (tgt := 101) hx hb d_M_enter_68 (by decide) (fun c68 => ?_) (fun c68 => ?_)
    · first | exact absurd c68 (by decide) | exact absurd (by decide) c68
    · skip
      refine lv_aload_n hx hb d_M_enter_71 rfl (lv_at hl 2 rfl) ?_
      refine lv_aload_n hx hb d_M_enter_72 rfl (lv_at hl 2 rfl) ?_
      refine t_get (v := .long ((lk ^^^ day.toInt64) * 1099511628211)) hx hb hts inM hown hC 0 rfl rfl 22 (by decide) (hts _ w_659) (fun _ h => h) rfl d_M_enter_73 ?_
      refine lv_aload_n hx hb d_M_enter_76 rfl (lv_at hl 2 rfl) ?_
      refine t_get (v := .ref (J 17)) hx hb hts inM hown hC 0 rfl rfl 21 (by decide) (hts _ w_658) (fun _ h => h) rfl d_M_enter_77 ?_
      refine lv_iload hx hb d_M_enter_80 (lv_at hl 1 rfl) ?_
      refine lv_iload hx hb d_M_enter_82 (lv_at hl 0 rfl) ?_
      refine lv_iaddN (a := ((w9 % 64) * 4)) (b := 1) hx hb rfl d_M_enter_84 ?_
      refine t_ialdN (k := (((w9 % 64) * 4) + 1)) hx hb hC 17 0 rfl rfl (by omega) (by decide) d_M_enter_85 ?_
      rw [up4_1]
      refine lv_i2l (v := kind.toInt64) hx hb d_M_enter_86 rfl ?_
      refine lv_lxor hx hb d_M_enter_87 ?_
      refine lv_ldc2 (v := 1099511628211) hx hb hown (hts _ w_729) d_M_enter_88 ?_
      refine lv_lmul hx hb d_M_enter_91 ?_
      refine t_put (ty := .long) (v := .long ((((lk ^^^ day.toInt64) * 1099511628211) ^^^ kind.toInt64) * 1099511628211)) hx hb hts inM TM tyM nmM hown hC 0 rfl rfl 22 (by decide) (hts _ w_659) (fun _ h => h) rfl (by decide +kernel) rfl rfl (Nat.le_of_ble_eq_true rfl) d_M_enter_92 (fun H locs hC => ?_)
      have hC : tC D cls (ty0 ca) A Z s (wM J ca code day made count M U (nI (w9 + 1)) (upd (upd (upd (upd log ((w9 % 64) * 4) day) (((w9 % 64) * 4) + 1) kind) (((w9 % 64) * 4) + 2) of9) (((w9 % 64) * 4) + 3) det) ((((lk ^^^ day.toInt64) * 1099511628211) ^^^ kind.toInt64) * 1099511628211) rest) H locs := hC
      refine lv_iinc (k := 0) (v := 2) (lv' := [(5, .int 2), (4, .int (nI ((w9 % 64) * 4))), (0, .ref (J 0)), (1, .int kind), (2, .int of9), (3, .int det)]) hx hb d_M_enter_95 hl rfl (by decide) (by decide) rfl (fun ls hl => ?_)
      refine lv_goto (tgt := 65) hx hb d_M_enter_98 (by decide) ?_
      refine lv_iload hx hb d_M_enter_65 (lv_at hl 0 rfl) ?_
      refine lv_iconst (v := 4) hx hb d_M_enter_67 (by decide) ?_
      refine lv_icmp_ge (tgt := 101) hx hb d_M_enter_68 (by decide) (fun c68 => ?_) (fun c68 => ?_)
      · first | exact absurd c68 (by decide) | exact absurd (by decide) c68
      · skip
        refine lv_aload_n hx hb d_M_enter_71 rfl (lv_at hl 2 rfl) ?_
        refine lv_aload_n hx hb d_M_enter_72 rfl (lv_at hl 2 rfl) ?_
        refine t_get (v := .long ((((lk ^^^ day.toInt64) * 1099511628211) ^^^ kind.toInt64) * 1099511628211)) hx hb hts inM hown hC 0 rfl rfl 22 (by decide) (hts _ w_659) (fun _ h => h) rfl d_M_enter_73 ?_
        refine lv_aload_n hx hb d_M_enter_76 rfl (lv_at hl 2 rfl) ?_
        refine t_get (v := .ref (J 17)) hx hb hts inM hown hC 0 rfl rfl 21 (by decide) (hts _ w_658) (fun _ h => h) rfl d_M_enter_77 ?_
        refine lv_iload hx hb d_M_enter_80 (lv_at hl 1 rfl) ?_
        refine lv_iload hx hb d_M_enter_82 (lv_at hl 0 rfl) ?_
        refine lv_iaddN (a := ((w9 % 64) * 4)) (b := 2) hx hb rfl d_M_enter_84 ?_
        refine t_ialdN (k := (((w9 % 64) * 4) + 2)) hx hb hC 17 0 rfl rfl (by omega) (by decide) d_M_enter_85 ?_
        rw [up4_2]
        refine lv_i2l (v := of9.toInt64) hx hb d_M_enter_86 rfl ?_
        refine lv_lxor hx hb d_M_enter_87 ?_
        refine lv_ldc2 (v := 1099511628211) hx hb hown (hts _ w_729) d_M_enter_88 ?_
        refine lv_lmul hx hb d_M_enter_91 ?_
        refine t_put (ty := .long) (v := .long ((((((lk ^^^ day.toInt64) * 1099511628211) ^^^ kind.toInt64) * 1099511628211) ^^^ of9.toInt64) * 1099511628211)) hx hb hts inM TM tyM nmM hown hC 0 rfl rfl 22 (by decide) (hts _ w_659) (fun _ h => h) rfl (by decide +kernel) rfl rfl (Nat.le_of_ble_eq_true rfl) d_M_enter_92 (fun H locs hC => ?_)
        have hC : tC D cls (ty0 ca) A Z s (wM J ca code day made count M U (nI (w9 + 1)) (upd (upd (upd (upd log ((w9 % 64) * 4) day) (((w9 % 64) * 4) + 1) kind) (((w9 % 64) * 4) + 2) of9) (((w9 % 64) * 4) + 3) det) ((((((lk ^^^ day.toInt64) * 1099511628211) ^^^ kind.toInt64) * 1099511628211) ^^^ of9.toInt64) * 1099511628211) rest) H locs := hC
        refine lv_iinc (k := 0) (v := 3) (lv' := [(5, .int 3), (4, .int (nI ((w9 % 64) * 4))), (0, .ref (J 0)), (1, .int kind), (2, .int of9), (3, .int det)]) hx hb d_M_enter_95 hl rfl (by decide) (by decide) rfl (fun ls hl => ?_)
        refine lv_goto (tgt := 65) hx hb d_M_enter_98 (by decide) ?_
        refine lv_iload hx hb d_M_enter_65 (lv_at hl 0 rfl) ?_
        refine lv_iconst (v := 4) hx hb d_M_enter_67 (by decide) ?_
        refine lv_icmp_ge (tgt := 101) hx hb d_M_enter_68 (by decide) (fun c68 => ?_) (fun c68 => ?_)
        · first | exact absurd c68 (by decide) | exact absurd (by decide) c68
        · skip
          refine lv_aload_n hx hb d_M_enter_71 rfl (lv_at hl 2 rfl) ?_
          refine lv_aload_n hx hb d_M_enter_72 rfl (lv_at hl 2 rfl) ?_
          refine t_get (v := .long ((((((lk ^^^ day.toInt64) * 1099511628211) ^^^ kind.toInt64) * 1099511628211) ^^^ of9.toInt64) * 1099511628211)) hx hb hts inM hown hC 0 rfl rfl 22 (by decide) (hts _ w_659) (fun _ h => h) rfl d_M_enter_73 ?_
          refine lv_aload_n hx hb d_M_enter_76 rfl (lv_at hl 2 rfl) ?_
          refine t_get (v := .ref (J 17)) hx hb hts inM hown hC 0 rfl rfl 21 (by decide) (hts _ w_658) (fun _ h => h) rfl d_M_enter_77 ?_
          refine lv_iload hx hb d_M_enter_80 (lv_at hl 1 rfl) ?_
          refine lv_iload hx hb d_M_enter_82 (lv_at hl 0 rfl) ?_
          refine lv_iaddN (a := ((w9 % 64) * 4)) (b := 3) hx hb rfl d_M_enter_84 ?_
          refine t_ialdN (k := (((w9 % 64) * 4) + 3)) hx hb hC 17 0 rfl rfl (by omega) (by decide) d_M_enter_85 ?_
          rw [up4_3]
          refine lv_i2l (v := det.toInt64) hx hb d_M_enter_86 rfl ?_
          refine lv_lxor hx hb d_M_enter_87 ?_
          refine lv_ldc2 (v := 1099511628211) hx hb hown (hts _ w_729) d_M_enter_88 ?_
          refine lv_lmul hx hb d_M_enter_91 ?_
          refine t_put (ty := .long) (v := .long ((((((((lk ^^^ day.toInt64) * 1099511628211) ^^^ kind.toInt64) * 1099511628211) ^^^ of9.toInt64) * 1099511628211) ^^^ det.toInt64) * 1099511628211)) hx hb hts inM TM tyM nmM hown hC 0 rfl rfl 22 (by decide) (hts _ w_659) (fun _ h => h) rfl (by decide +kernel) rfl rfl (Nat.le_of_ble_eq_true rfl) d_M_enter_92 (fun H locs hC => ?_)
          have hC : tC D cls (ty0 ca) A Z s (wM J ca code day made count M U (nI (w9 + 1)) (upd (upd (upd (upd log ((w9 % 64) * 4) day) (((w9 % 64) * 4) + 1) kind) (((w9 % 64) * 4) + 2) of9) (((w9 % 64) * 4) + 3) det) ((((((((lk ^^^ day.toInt64) * 1099511628211) ^^^ kind.toInt64) * 1099511628211) ^^^ of9.toInt64) * 1099511628211) ^^^ det.toInt64) * 1099511628211) rest) H locs := hC
          refine lv_iinc (k := 0) (v := 4) (lv' := [(5, .int 4), (4, .int (nI ((w9 % 64) * 4))), (0, .ref (J 0)), (1, .int kind), (2, .int of9), (3, .int det)]) hx hb d_M_enter_95 hl rfl (by decide) (by decide) rfl (fun ls hl => ?_)
          refine lv_goto (tgt := 65) hx hb d_M_enter_98 (by decide) ?_
          refine lv_iload hx hb d_M_enter_65 (lv_at hl 0 rfl) ?_
          refine lv_iconst (v := 4) hx hb d_M_enter_67 (by decide) ?_
          refine lv_icmp_ge (tgt := 101) hx hb d_M_enter_68 (by decide) (fun c68 => ?_) (fun c68 => ?_)
          · skip
            exact t_vret hx hb hr hlk hZc hC (⟨rfl, rfl⟩) (Nat.le_of_ble_eq_true rfl) (Nat.le_of_ble_eq_true rfl) d_M_enter_101
          · first | exact absurd c68 (by decide) | exact absurd (by decide) c68

theorem la_ne {rows : List RW} {v x : Int32} {i : Nat} (hx : x = rw_at rows i 0) (h : ¬ x = v) : rw_lastN rows v (i + 1) = rw_lastN rows v i := by
  show (if rw_at rows i 0 = v then some i else _) = _
  rw [← hx, if_neg h]
theorem la_eq {rows : List RW} {v x : Int32} {i : Nat} (hx : x = rw_at rows i 0) (h : x = v) : rw_lastN rows v (i + 1) = some i := by
  show (if rw_at rows i 0 = v then some i else _) = _
  rw [← hx, if_pos h]
theorem lb_ne {rows : List RW} {v x : Int32} {i : Nat} (hx : x = rw_at rows i 1) (h : ¬ x = v) : rw_last rows v (i + 1) = rw_last rows v i := by
  show (if rw_at rows i 1 = v then some i else _) = _
  rw [← hx, if_neg h]
theorem lb_eq {rows : List RW} {v x : Int32} {i : Nat} (hx : x = rw_at rows i 1) (h : x = v) : rw_last rows v (i + 1) = some i := by
  show (if rw_at rows i 1 = v then some i else _) = _
  rw [← hx, if_pos h]

set_option maxRecDepth 100000 in
set_option maxHeartbeats 4000000 in
theorem c_M_find {l : Launch} {D : va_G} {A : Nat → Prop} {Z : State → Heap → Prop} (hZc : tZ A Z) {J : Nat → Nat} {ca : Nat → ClassId} {code day made : Int32} {M U : Nat → Nat → Int32} {log : Nat → Int32} {lk : Int64} {rest : va_W} {w9 : Nat} {v9 : Int32} {rows : List RW} (hag : mA rows M) (h40 : rows.length ≤ 40) : tM l y_M_find tb ({ frames := 0, cells := 0, slots := 0, locals := 0 }) D cls (ty0 ca) A Z [.ref (J 0), .int v9] (wM J ca code day made (nI rows.length) M U (nI w9) log lk rest) (pR (.int (oI (rw_lastN rows v9 rows.length))) (wM J ca code day made (nI rows.length) M U (nI w9) log lk rest)) (xN) := by
  refine t_ofW (by decide) w_741 (Nat.le_of_ble_eq_true rfl) ?_
  intro p e s m below meth c ls hx hb hr hts hown hlk hnm hml hex hl hC
  have hown : s.vm.findClass "RetentionVaultModel" = some m.cls := hown
  have hl : lv_has ls 4 [(0, .ref (J 0)), (1, .int v9)] := hl
  refine lv_iconst (v := (-1)) hx hb d_M_find_0 (by decide) ?_
  refine lv_istore_n (lv' := [(2, .int (-1)), (0, .ref (J 0)), (1, .int v9)]) hx hb d_M_find_1 rfl hl (by decide) rfl (fun ls hl => ?_)
  refine lv_iconst (v := 0) hx hb d_M_find_2 (by decide) ?_
  refine lv_istore_n (lv' := [(3, .int 0), (2, .int (-1)), (0, .ref (J 0)), (1, .int v9)]) hx hb d_M_find_3 rfl hl (by decide) rfl (fun ls hl => ?_)
  have loop : ∀ (k i : Nat) (ls : Array Slot), rows.length - i = k → i ≤ rows.length → lv_has ls 4 [(3, .int (nI i)), (2, .int (oI (rw_lastN rows v9 i))), (0, .ref (J 0)), (1, .int v9)] → tB p l e ({ frames := 0, cells := 0, slots := 0, locals := 0 }) s m [.ref (J 0), .int v9] below meth c D (ty0 ca) A Z (pR (.int (oI (rw_lastN rows v9 rows.length))) (wM J ca code day made (nI rows.length) M U (nI w9) log lk rest)) (xN) s.heap [] 0 0 (F0 m 4 ls []) := by
    intro k
    induction k using Nat.strongRecOn with
    | ind k ih =>
      intro i ls hk hle hl
      refine lv_iload_n hx hb d_M_find_4 rfl (lv_at hl 0 rfl) ?_
      refine lv_aload_n hx hb d_M_find_5 rfl (lv_at hl 2 rfl) ?_
      refine t_get (v := .int (nI rows.length)) hx hb hts inM hown hC 0 rfl rfl 3 (by decide) (hts _ w_640) (fun _ h => h) rfl d_M_find_6 ?_
      refine lv_icmp_ge (tgt := 34) hx hb d_M_find_9 (by decide) (fun c9 => ?_) (fun c9 => ?_)
      · skip
        have hil : i = rows.length := Nat.le_antisymm hle ((nI_leI (by omega) (by omega)).mp c9)
        refine lv_iload_n hx hb d_M_find_34 rfl (lv_at hl 1 rfl) ?_
        exact t_iret hx hb hr hlk hZc hC (⟨by rw [hil], rfl⟩) (Nat.le_of_ble_eq_true rfl) (Nat.le_of_ble_eq_true rfl) d_M_find_35
      · skip
        have hil : i < rows.length := Nat.not_le.mp (fun h => c9 ((nI_leI (by omega) (by omega)).mpr h))
        refine lv_aload_n hx hb d_M_find_12 rfl (lv_at hl 2 rfl) ?_
        refine t_get (v := .ref (J 1)) hx hb hts inM hown hC 0 rfl rfl 4 (by decide) (hts _ w_641) (fun _ h => h) rfl d_M_find_13 ?_
        refine lv_iload_n hx hb d_M_find_16 rfl (lv_at hl 0 rfl) ?_
        refine t_ialdN (k := i) hx hb hC 1 0 rfl rfl (by omega) (by decide) d_M_find_17 ?_
        refine lv_iload_n hx hb d_M_find_18 rfl (lv_at hl 3 rfl) ?_
        refine lv_icmp_ne (tgt := 26) hx hb d_M_find_19 (by decide) (fun c19 => ?_) (fun c19 => ?_)
        · skip
          refine lv_iload_n hx hb d_M_find_26 rfl (lv_at hl 1 rfl) ?_
          refine W.eq (g2 := F0 m 27 ls [.int (oI (rw_lastN rows v9 (i + 1)))]) (by rw [la_ne (hag i hil 0 (by decide) (by decide)) c19]) ?_
          refine lv_istore_n (lv' := [(2, .int (oI (rw_lastN rows v9 (i + 1)))), (3, .int (nI i)), (0, .ref (J 0)), (1, .int v9)]) hx hb d_M_find_27 rfl hl (by decide) rfl (fun ls hl => ?_)
          refine lv_iinc (k := 1) (v := nI (i + 1)) (lv' := [(3, .int (nI (i + 1))), (2, .int (oI (rw_lastN rows v9 (i + 1)))), (0, .ref (J 0)), (1, .int v9)]) hx hb d_M_find_28 hl rfl (nI_1 i) (by decide) rfl (fun ls hl => ?_)
          refine lv_goto (tgt := 4) hx hb d_M_find_31 (by decide) ?_
          exact ih (rows.length - (i + 1)) (by omega) (i + 1) ls rfl (by omega) (lv_sub hl [0, 1, 2, 3] rfl)
        · skip
          refine lv_iload_n hx hb d_M_find_22 rfl (lv_at hl 0 rfl) ?_
          refine lv_goto (tgt := 27) hx hb d_M_find_23 (by decide) ?_
          refine W.eq (g2 := F0 m 27 ls [.int (oI (rw_lastN rows v9 (i + 1)))]) (by rw [la_eq (hag i hil 0 (by decide) (by decide)) c19]; rfl) ?_
          refine lv_istore_n (lv' := [(2, .int (oI (rw_lastN rows v9 (i + 1)))), (3, .int (nI i)), (0, .ref (J 0)), (1, .int v9)]) hx hb d_M_find_27 rfl hl (by decide) rfl (fun ls hl => ?_)
          refine lv_iinc (k := 1) (v := nI (i + 1)) (lv' := [(3, .int (nI (i + 1))), (2, .int (oI (rw_lastN rows v9 (i + 1)))), (0, .ref (J 0)), (1, .int v9)]) hx hb d_M_find_28 hl rfl (nI_1 i) (by decide) rfl (fun ls hl => ?_)
          refine lv_goto (tgt := 4) hx hb d_M_find_31 (by decide) ?_
          exact ih (rows.length - (i + 1)) (by omega) (i + 1) ls rfl (by omega) (lv_sub hl [0, 1, 2, 3] rfl)
  exact loop _ 0 ls rfl (by omega) hl

set_option maxRecDepth 100000 in
set_option maxHeartbeats 4000000 in
theorem c_M_currentOf {l : Launch} {D : va_G} {A : Nat → Prop} {Z : State → Heap → Prop} (hZc : tZ A Z) {J : Nat → Nat} {ca : Nat → ClassId} {code day made : Int32} {M U : Nat → Nat → Int32} {log : Nat → Int32} {lk : Int64} {rest : va_W} {w9 : Nat} {v9 : Int32} {rows : List RW} (hag : mA rows M) (h40 : rows.length ≤ 40) : tM l y_M_currentOf tb ({ frames := 0, cells := 0, slots := 0, locals := 0 }) D cls (ty0 ca) A Z [.ref (J 0), .int v9] (wM J ca code day made (nI rows.length) M U (nI w9) log lk rest) (pR (.int (oI (rw_latest rows v9))) (wM J ca code day made (nI rows.length) M U (nI w9) log lk rest)) (xN) := by
  refine t_ofW (by decide) w_724 (Nat.le_of_ble_eq_true rfl) ?_
  intro p e s m below meth c ls hx hb hr hts hown hlk hnm hml hex hl hC
  have hown : s.vm.findClass "RetentionVaultModel" = some m.cls := hown
  have hl : lv_has ls 4 [(0, .ref (J 0)), (1, .int v9)] := hl
  refine lv_iconst (v := (-1)) hx hb d_M_currentOf_0 (by decide) ?_
  refine lv_istore_n (lv' := [(2, .int (-1)), (0, .ref (J 0)), (1, .int v9)]) hx hb d_M_currentOf_1 rfl hl (by decide) rfl (fun ls hl => ?_)
  refine lv_iconst (v := 0) hx hb d_M_currentOf_2 (by decide) ?_
  refine lv_istore_n (lv' := [(3, .int 0), (2, .int (-1)), (0, .ref (J 0)), (1, .int v9)]) hx hb d_M_currentOf_3 rfl hl (by decide) rfl (fun ls hl => ?_)
  have loop : ∀ (k i : Nat) (ls : Array Slot), rows.length - i = k → i ≤ rows.length → lv_has ls 4 [(3, .int (nI i)), (2, .int (oI (rw_last rows v9 i))), (0, .ref (J 0)), (1, .int v9)] → tB p l e ({ frames := 0, cells := 0, slots := 0, locals := 0 }) s m [.ref (J 0), .int v9] below meth c D (ty0 ca) A Z (pR (.int (oI (rw_latest rows v9))) (wM J ca code day made (nI rows.length) M U (nI w9) log lk rest)) (xN) s.heap [] 0 0 (F0 m 4 ls []) := by
    intro k
    induction k using Nat.strongRecOn with
    | ind k ih =>
      intro i ls hk hle hl
      refine lv_iload_n hx hb d_M_currentOf_4 rfl (lv_at hl 0 rfl) ?_
      refine lv_aload_n hx hb d_M_currentOf_5 rfl (lv_at hl 2 rfl) ?_
      refine t_get (v := .int (nI rows.length)) hx hb hts inM hown hC 0 rfl rfl 3 (by decide) (hts _ w_640) (fun _ h => h) rfl d_M_currentOf_6 ?_
      refine lv_icmp_ge (tgt := 34) hx hb d_M_currentOf_9 (by decide) (fun c9 => ?_) (fun c9 => ?_)
      · skip
        have hil : i = rows.length := Nat.le_antisymm hle ((nI_leI (by omega) (by omega)).mp c9)
        refine lv_iload_n hx hb d_M_currentOf_34 rfl (lv_at hl 1 rfl) ?_
        exact t_iret hx hb hr hlk hZc hC (⟨by rw [hil]; rfl, rfl⟩) (Nat.le_of_ble_eq_true rfl) (Nat.le_of_ble_eq_true rfl) d_M_currentOf_35
      · skip
        have hil : i < rows.length := Nat.not_le.mp (fun h => c9 ((nI_leI (by omega) (by omega)).mpr h))
        refine lv_aload_n hx hb d_M_currentOf_12 rfl (lv_at hl 2 rfl) ?_
        refine t_get (v := .ref (J 2)) hx hb hts inM hown hC 0 rfl rfl 5 (by decide) (hts _ w_642) (fun _ h => h) rfl d_M_currentOf_13 ?_
        refine lv_iload_n hx hb d_M_currentOf_16 rfl (lv_at hl 0 rfl) ?_
        refine t_ialdN (k := i) hx hb hC 2 0 rfl rfl (by omega) (by decide) d_M_currentOf_17 ?_
        refine lv_iload_n hx hb d_M_currentOf_18 rfl (lv_at hl 3 rfl) ?_
        refine lv_icmp_ne (tgt := 26) hx hb d_M_currentOf_19 (by decide) (fun c19 => ?_) (fun c19 => ?_)
        · skip
          refine lv_iload_n hx hb d_M_currentOf_26 rfl (lv_at hl 1 rfl) ?_
          refine W.eq (g2 := F0 m 27 ls [.int (oI (rw_last rows v9 (i + 1)))]) (by rw [lb_ne (hag i hil 1 (by decide) (by decide)) c19]) ?_
          refine lv_istore_n (lv' := [(2, .int (oI (rw_last rows v9 (i + 1)))), (3, .int (nI i)), (0, .ref (J 0)), (1, .int v9)]) hx hb d_M_currentOf_27 rfl hl (by decide) rfl (fun ls hl => ?_)
          refine lv_iinc (k := 1) (v := nI (i + 1)) (lv' := [(3, .int (nI (i + 1))), (2, .int (oI (rw_last rows v9 (i + 1)))), (0, .ref (J 0)), (1, .int v9)]) hx hb d_M_currentOf_28 hl rfl (nI_1 i) (by decide) rfl (fun ls hl => ?_)
          refine lv_goto (tgt := 4) hx hb d_M_currentOf_31 (by decide) ?_
          exact ih (rows.length - (i + 1)) (by omega) (i + 1) ls rfl (by omega) (lv_sub hl [0, 1, 2, 3] rfl)
        · skip
          refine lv_iload_n hx hb d_M_currentOf_22 rfl (lv_at hl 0 rfl) ?_
          refine lv_goto (tgt := 27) hx hb d_M_currentOf_23 (by decide) ?_
          refine W.eq (g2 := F0 m 27 ls [.int (oI (rw_last rows v9 (i + 1)))]) (by rw [lb_eq (hag i hil 1 (by decide) (by decide)) c19]; rfl) ?_
          refine lv_istore_n (lv' := [(2, .int (oI (rw_last rows v9 (i + 1)))), (3, .int (nI i)), (0, .ref (J 0)), (1, .int v9)]) hx hb d_M_currentOf_27 rfl hl (by decide) rfl (fun ls hl => ?_)
          refine lv_iinc (k := 1) (v := nI (i + 1)) (lv' := [(3, .int (nI (i + 1))), (2, .int (oI (rw_last rows v9 (i + 1)))), (0, .ref (J 0)), (1, .int v9)]) hx hb d_M_currentOf_28 hl rfl (nI_1 i) (by decide) rfl (fun ls hl => ?_)
          refine lv_goto (tgt := 4) hx hb d_M_currentOf_31 (by decide) ?_
          exact ih (rows.length - (i + 1)) (by omega) (i + 1) ls rfl (by omega) (lv_sub hl [0, 1, 2, 3] rfl)
  exact loop _ 0 ls rfl (by omega) hl

set_option maxRecDepth 100000 in
set_option maxHeartbeats 4000000 in
theorem c_M_object {l : Launch} {D : va_G} {A : Nat → Prop} {Z : State → Heap → Prop} (hZc : tZ A Z) {J : Nat → Nat} {ca : Nat → ClassId} {code day made : Int32} {M U : Nat → Nat → Int32} {log : Nat → Int32} {lk : Int64} {rest : va_W} {w9 : Nat} {v9 : Int32} {rows : List RW} (hag : mA rows M) (h40 : rows.length ≤ 40) : tM l y_M_object tb ({ frames := 1, cells := 0, slots := 0, locals := 23 }) D cls (ty0 ca) A Z [.ref (J 0), .int v9] (wM J ca code day made (nI rows.length) M U (nI w9) log lk rest) (pR (.int (oI (rw_obj rows v9))) (wM J ca code day made (nI rows.length) M U (nI w9) log lk rest)) (xN) := by
  refine t_ofW (by decide) w_757 (Nat.le_of_ble_eq_true rfl) ?_
  intro p e s m below meth c ls hx hb hr hts hown hlk hnm hml hex hl hC
  have hown : s.vm.findClass "RetentionVaultModel" = some m.cls := hown
  have hl : lv_has ls 3 [(0, .ref (J 0)), (1, .int v9)] := hl
  refine lv_aload_n hx hb d_M_object_0 rfl (lv_at hl 0 rfl) ?_
  refine lv_iload_n hx hb d_M_object_1 rfl (lv_at hl 1 rfl) ?_
  refine t_call (t_invV (As := [.int v9]) (rest := []) hx hb hown (hts _ w_738) (hts _ w_740) (hts _ s_M_find) (hts _ w_741) ⟨by decide, by decide⟩ (t_recv (q0 := 0) hC rfl rfl) rfl d_M_object_2) (c_M_find hZc hag h40) hZc tb_good hts w_7 hC (hl.1.trans hml.symm) ⟨Nat.le_of_ble_eq_true rfl, Nat.le_of_ble_eq_true rfl, Nat.le_of_ble_eq_true rfl, Nat.le_of_ble_eq_true rfl⟩ (Nat.le_of_ble_eq_true rfl) (fun E q ce w1 H1 l1 hp => hp.elim) (fun v w1 H locs hp hC => ?_)
  obtain ⟨rfl, hwe9⟩ := hp
  rw [hwe9] at hC
  have hC : tC D cls (ty0 ca) A Z s (wM J ca code day made (nI rows.length) M U (nI w9) log lk rest) H locs := hC
  refine W.eq (g2 := F0 m 5 ls [.int (oI (rw_lastN rows v9 rows.length))]) rfl ?_
  rcases op_two (rw_lastN rows v9 rows.length) with hlo | ⟨o, hlo⟩
  · refine W.eq (g2 := F0 m 5 ls [.int (-1)]) (by rw [hlo]; rfl) ?_
    refine lv_istore_n (lv' := [(2, .int (-1)), (0, .ref (J 0)), (1, .int v9)]) hx hb d_M_object_5 rfl hl (by decide) rfl (fun ls hl => ?_)
    refine lv_iload_n hx hb d_M_object_6 rfl (lv_at hl 0 rfl) ?_
    refine lv_if_lt (tgt := 23) hx hb d_M_object_7 (by decide) (fun c7 => ?_) (fun c7 => ?_)
    · skip
      refine lv_iconst (v := (-1)) hx hb d_M_object_23 (by decide) ?_
      exact t_iret hx hb hr hlk hZc hC (⟨by unfold rw_obj; rw [hlo]; rfl, rfl⟩) (Nat.le_of_ble_eq_true rfl) (Nat.le_of_ble_eq_true rfl) d_M_object_24
    · first | exact absurd c7 (by decide) | exact absurd (by decide) c7
  · have ho : o < rows.length := (rw_lastN_lt hlo).1
    have hop := nI_pos (n := o) (by omega)
    refine W.eq (g2 := F0 m 5 ls [.int (nI o)]) (by rw [hlo]; rfl) ?_
    refine lv_istore_n (lv' := [(2, .int (nI o)), (0, .ref (J 0)), (1, .int v9)]) hx hb d_M_object_5 rfl hl (by decide) rfl (fun ls hl => ?_)
    refine lv_iload_n hx hb d_M_object_6 rfl (lv_at hl 0 rfl) ?_
    refine lv_if_lt (tgt := 23) hx hb d_M_object_7 (by decide) (fun c7 => ?_) (fun c7 => ?_)
    · exact absurd c7 hop
    · skip
      refine lv_aload_n hx hb d_M_object_10 rfl (lv_at hl 1 rfl) ?_
      refine t_get (v := .ref (J 3)) hx hb hts inM hown hC 0 rfl rfl 6 (by decide) (hts _ w_643) (fun _ h => h) rfl d_M_object_11 ?_
      refine lv_iload_n hx hb d_M_object_14 rfl (lv_at hl 0 rfl) ?_
      refine t_ialdN (k := o) hx hb hC 3 0 rfl rfl (by omega) (by decide) d_M_object_15 ?_
      refine lv_if_le (tgt := 23) hx hb d_M_object_16 (by decide) (fun c16 => ?_) (fun c16 => ?_)
      · skip
        refine lv_iconst (v := (-1)) hx hb d_M_object_23 (by decide) ?_
        exact t_iret hx hb hr hlk hZc hC (⟨by unfold rw_obj; rw [hlo]; show _ = some (Value.int (oI (if 0 < rw_at rows o 3 then some o else none))); rw [if_neg (by rw [← hag o ho 3 (by decide) (by decide)]; exact Int32.not_lt.mpr c16)]; rfl, rfl⟩) (Nat.le_of_ble_eq_true rfl) (Nat.le_of_ble_eq_true rfl) d_M_object_24
      · skip
        refine lv_iload_n hx hb d_M_object_19 rfl (lv_at hl 0 rfl) ?_
        refine lv_goto (tgt := 24) hx hb d_M_object_20 (by decide) ?_
        exact t_iret hx hb hr hlk hZc hC (⟨by unfold rw_obj; rw [hlo]; show _ = some (Value.int (oI (if 0 < rw_at rows o 3 then some o else none))); rw [if_pos (by rw [← hag o ho 3 (by decide) (by decide)]; exact Int32.not_le.mp c16)]; rfl, rfl⟩) (Nat.le_of_ble_eq_true rfl) (Nat.le_of_ble_eq_true rfl) d_M_object_24

theorem oI_eq {o : Option Nat} {i n : Nat} (ho : ∀ j, o = some j → j < n) (hi : i < n) (hn : n ≤ 40) : oI o = nI i ↔ o = some i := by
  cases o with
  | none =>
    constructor
    · intro h
      have h1 : ¬ nI i < 0 := nI_pos (by omega)
      have h2 : (-1 : Int32) = nI i := h
      rw [← h2] at h1
      exact absurd (by decide) h1
    · intro h; cases h
  | some j =>
    have hj := ho j rfl
    show nI j = nI i ↔ _
    rw [nI_eq (by omega) (by omega)]
    exact ⟨fun h => by rw [h], fun h => Option.some.inj h⟩
theorem cu_at {rows : List RW} (hcu : rw_CurOK rows) {i : Nat} (hi : i < rows.length) (hn : rows.length ≤ 40) {x : Int32} (hx : x = rw_at rows i 1) : (oI (rw_latest rows x) = nI i → rw_at rows i 6 = 1) ∧ (¬ oI (rw_latest rows x) = nI i → rw_at rows i 6 = 0) := by
  subst hx
  have h := hcu i hi
  have e := oI_eq (o := rw_latest rows (rw_at rows i 1)) (i := i) (n := rows.length) (fun j hj => (rw_last_some.mp hj).1) hi hn
  constructor
  · intro h1; rw [h, if_pos (e.mp h1)]
  · intro h1; rw [h, if_neg (fun q => h1 (e.mpr q))]

set_option maxRecDepth 100000 in
set_option maxHeartbeats 4000000 in
theorem c_M_isCurrent {l : Launch} {D : va_G} {A : Nat → Prop} {Z : State → Heap → Prop} (hZc : tZ A Z) {J : Nat → Nat} {ca : Nat → ClassId} {code day made : Int32} {M U : Nat → Nat → Int32} {log : Nat → Int32} {lk : Int64} {rest : va_W} {w9 : Nat} {rows : List RW} (hag : mA rows M) (h40 : rows.length ≤ 40) (hcu : rw_CurOK rows) {i : Nat} (hi : i < rows.length) : tM l y_M_isCurrent tb ({ frames := 1, cells := 0, slots := 0, locals := 23 }) D cls (ty0 ca) A Z [.ref (J 0), .int (nI i)] (wM J ca code day made (nI rows.length) M U (nI w9) log lk rest) (pR (.int (rw_at rows i 6)) (wM J ca code day made (nI rows.length) M U (nI w9) log lk rest)) (xN) := by
  refine t_ofW (by decide) w_789 (Nat.le_of_ble_eq_true rfl) ?_
  intro p e s m below meth c ls hx hb hr hts hown hlk hnm hml hex hl hC
  have hown : s.vm.findClass "RetentionVaultModel" = some m.cls := hown
  have hl : lv_has ls 2 [(0, .ref (J 0)), (1, .int (nI i))] := hl
  refine lv_aload_n hx hb d_M_isCurrent_0 rfl (lv_at hl 0 rfl) ?_
  refine lv_aload_n hx hb d_M_isCurrent_1 rfl (lv_at hl 0 rfl) ?_
  refine t_get (v := .ref (J 2)) hx hb hts inM hown hC 0 rfl rfl 5 (by decide) (hts _ w_642) (fun _ h => h) rfl d_M_isCurrent_2 ?_
  refine lv_iload_n hx hb d_M_isCurrent_5 rfl (lv_at hl 1 rfl) ?_
  refine t_ialdN (k := i) hx hb hC 2 0 rfl rfl (by omega) (by decide) d_M_isCurrent_6 ?_
  refine t_call (t_invV (As := [.int (M 1 i)]) (rest := []) hx hb hown (hts _ w_721) (hts _ w_723) (hts _ s_M_currentOf) (hts _ w_724) ⟨by decide, by decide⟩ (t_recv (q0 := 0) hC rfl rfl) rfl d_M_isCurrent_7) (c_M_currentOf hZc hag h40) hZc tb_good hts w_7 hC (hl.1.trans hml.symm) ⟨Nat.le_of_ble_eq_true rfl, Nat.le_of_ble_eq_true rfl, Nat.le_of_ble_eq_true rfl, Nat.le_of_ble_eq_true rfl⟩ (Nat.le_of_ble_eq_true rfl) (fun E q ce w1 H1 l1 hp => hp.elim) (fun v w1 H locs hp hC => ?_)
  obtain ⟨rfl, hwe9⟩ := hp
  rw [hwe9] at hC
  have hC : tC D cls (ty0 ca) A Z s (wM J ca code day made (nI rows.length) M U (nI w9) log lk rest) H locs := hC
  refine W.eq (g2 := F0 m 10 ls [.int (oI (rw_latest rows (M 1 i)))]) rfl ?_
  refine lv_iload_n hx hb d_M_isCurrent_10 rfl (lv_at hl 1 rfl) ?_
  refine lv_icmp_ne (tgt := 18) hx hb d_M_isCurrent_11 (by decide) (fun c11 => ?_) (fun c11 => ?_)
  · skip
    refine lv_iconst (v := 0) hx hb d_M_isCurrent_18 (by decide) ?_
    exact t_zret hx hb hr hlk (Or.inl rfl) hZc hC (⟨by rw [(cu_at hcu hi h40 (hag i hi 1 (by decide) (by decide))).2 c11], rfl⟩) (Nat.le_of_ble_eq_true rfl) (Nat.le_of_ble_eq_true rfl) d_M_isCurrent_19
  · skip
    refine lv_iconst (v := 1) hx hb d_M_isCurrent_14 (by decide) ?_
    refine lv_goto (tgt := 19) hx hb d_M_isCurrent_15 (by decide) ?_
    exact t_zret hx hb hr hlk (Or.inr rfl) hZc hC (⟨by rw [(cu_at hcu hi h40 (hag i hi 1 (by decide) (by decide))).1 c11], rfl⟩) (Nat.le_of_ble_eq_true rfl) (Nat.le_of_ble_eq_true rfl) d_M_isCurrent_19

set_option maxRecDepth 100000 in
set_option maxHeartbeats 4000000 in
theorem c_M_isRetained {l : Launch} {D : va_G} {A : Nat → Prop} {Z : State → Heap → Prop} (hZc : tZ A Z) {J : Nat → Nat} {ca : Nat → ClassId} {code day made : Int32} {M U : Nat → Nat → Int32} {log : Nat → Int32} {lk : Int64} {rest : va_W} {w9 : Nat} {rows : List RW} (hag : mA rows M) (h40 : rows.length ≤ 40) {i : Nat} (hi : i < rows.length) : tM l y_M_isRetained tb ({ frames := 0, cells := 0, slots := 0, locals := 0 }) D cls (ty0 ca) A Z [.ref (J 0), .int (nI i)] (wM J ca code day made (nI rows.length) M U (nI w9) log lk rest) (pR (.int (bI (day < rw_at rows i 8))) (wM J ca code day made (nI rows.length) M U (nI w9) log lk rest)) (xN) := by
  refine t_ofW (by decide) w_745 (Nat.le_of_ble_eq_true rfl) ?_
  intro p e s m below meth c ls hx hb hr hts hown hlk hnm hml hex hl hC
  have hown : s.vm.findClass "RetentionVaultModel" = some m.cls := hown
  have hl : lv_has ls 2 [(0, .ref (J 0)), (1, .int (nI i))] := hl
  refine lv_aload_n hx hb d_M_isRetained_0 rfl (lv_at hl 0 rfl) ?_
  refine t_get (v := .int day) hx hb hts inM hown hC 0 rfl rfl 1 (by decide) (hts _ w_638) (fun _ h => h) rfl d_M_isRetained_1 ?_
  refine lv_aload_n hx hb d_M_isRetained_4 rfl (lv_at hl 0 rfl) ?_
  refine t_get (v := .ref (J 8)) hx hb hts inM hown hC 0 rfl rfl 11 (by decide) (hts _ w_648) (fun _ h => h) rfl d_M_isRetained_5 ?_
  refine lv_iload_n hx hb d_M_isRetained_8 rfl (lv_at hl 1 rfl) ?_
  refine t_ialdN (k := i) hx hb hC 8 0 rfl rfl (by omega) (by decide) d_M_isRetained_9 ?_
  refine lv_icmp_ge (tgt := 17) hx hb d_M_isRetained_10 (by decide) (fun c10 => ?_) (fun c10 => ?_)
  · skip
    refine lv_iconst (v := 0) hx hb d_M_isRetained_17 (by decide) ?_
    exact t_zret hx hb hr hlk (Or.inl rfl) hZc hC (⟨by rw [← hag i hi 8 (by decide) (by decide)]; first | rfl | (simp only [bI, *]; rfl) | (simp [bI, *]; done) | (simp_all [bI, Int32.not_lt, Int32.not_le]; done), rfl⟩) (Nat.le_of_ble_eq_true rfl) (Nat.le_of_ble_eq_true rfl) d_M_isRetained_18
  · skip
    refine lv_iconst (v := 1) hx hb d_M_isRetained_13 (by decide) ?_
    refine lv_goto (tgt := 18) hx hb d_M_isRetained_14 (by decide) ?_
    exact t_zret hx hb hr hlk (Or.inr rfl) hZc hC (⟨by rw [← hag i hi 8 (by decide) (by decide)]; first | rfl | (simp only [bI, *]; rfl) | (simp [bI, *]; done) | (simp_all [bI, Int32.not_lt, Int32.not_le]; done), rfl⟩) (Nat.le_of_ble_eq_true rfl) (Nat.le_of_ble_eq_true rfl) d_M_isRetained_18

set_option maxRecDepth 100000 in
set_option maxHeartbeats 4000000 in
theorem c_M_isGuarded {l : Launch} {D : va_G} {A : Nat → Prop} {Z : State → Heap → Prop} (hZc : tZ A Z) {J : Nat → Nat} {ca : Nat → ClassId} {code day made : Int32} {M U : Nat → Nat → Int32} {log : Nat → Int32} {lk : Int64} {rest : va_W} {w9 : Nat} {rows : List RW} (hag : mA rows M) (h40 : rows.length ≤ 40) {i : Nat} (hi : i < rows.length) : tM l y_M_isGuarded tb ({ frames := 1, cells := 0, slots := 0, locals := 21 }) D cls (ty0 ca) A Z [.ref (J 0), .int (nI i)] (wM J ca code day made (nI rows.length) M U (nI w9) log lk rest) (pR (.int (bI (p_grd (rw_at rows i) day))) (wM J ca code day made (nI rows.length) M U (nI w9) log lk rest)) (xN) := by
  refine t_ofW (by decide) w_797 (Nat.le_of_ble_eq_true rfl) ?_
  intro p e s m below meth c ls hx hb hr hts hown hlk hnm hml hex hl hC
  have hown : s.vm.findClass "RetentionVaultModel" = some m.cls := hown
  have hl : lv_has ls 2 [(0, .ref (J 0)), (1, .int (nI i))] := hl
  refine lv_aload_n hx hb d_M_isGuarded_0 rfl (lv_at hl 0 rfl) ?_
  refine lv_iload_n hx hb d_M_isGuarded_1 rfl (lv_at hl 1 rfl) ?_
  refine t_call (t_invV (As := [.int (nI i)]) (rest := []) hx hb hown (hts _ w_742) (hts _ w_744) (hts _ s_M_isRetained) (hts _ w_745) ⟨by decide, by decide⟩ (t_recv (q0 := 0) hC rfl rfl) rfl d_M_isGuarded_2) (c_M_isRetained hZc hag h40 hi) hZc tb_good hts w_7 hC (hl.1.trans hml.symm) ⟨Nat.le_of_ble_eq_true rfl, Nat.le_of_ble_eq_true rfl, Nat.le_of_ble_eq_true rfl, Nat.le_of_ble_eq_true rfl⟩ (Nat.le_of_ble_eq_true rfl) (fun E q ce w1 H1 l1 hp => hp.elim) (fun v w1 H locs hp hC => ?_)
  obtain ⟨rfl, hwe9⟩ := hp
  rw [hwe9] at hC
  have hC : tC D cls (ty0 ca) A Z s (wM J ca code day made (nI rows.length) M U (nI w9) log lk rest) H locs := hC
  refine W.eq (g2 := F0 m 5 ls [.int (bI (day < rw_at rows i 8))]) rfl ?_
  refine lv_if_ne (tgt := 17) hx hb d_M_isGuarded_5 (by decide) (fun c5 => ?_) (fun c5 => ?_)
  · skip
    refine lv_iconst (v := 1) hx hb d_M_isGuarded_17 (by decide) ?_
    refine lv_goto (tgt := 22) hx hb d_M_isGuarded_18 (by decide) ?_
    exact t_zret hx hb hr hlk (Or.inr rfl) hZc hC (⟨by rw [bI_t (Or.inr (Classical.not_not.mp (fun q => c5 (bI_ne.mpr q))))], rfl⟩) (Nat.le_of_ble_eq_true rfl) (Nat.le_of_ble_eq_true rfl) d_M_isGuarded_22
  · skip
    refine lv_aload_n hx hb d_M_isGuarded_8 rfl (lv_at hl 0 rfl) ?_
    refine t_get (v := .ref (J 10)) hx hb hts inM hown hC 0 rfl rfl 13 (by decide) (hts _ w_650) (fun _ h => h) rfl d_M_isGuarded_9 ?_
    refine lv_iload_n hx hb d_M_isGuarded_12 rfl (lv_at hl 1 rfl) ?_
    refine t_ialdN (k := i) hx hb hC 10 0 rfl rfl (by omega) (by decide) d_M_isGuarded_13 ?_
    refine lv_if_eq (tgt := 21) hx hb d_M_isGuarded_14 (by decide) (fun c14 => ?_) (fun c14 => ?_)
    · skip
      refine lv_iconst (v := 0) hx hb d_M_isGuarded_21 (by decide) ?_
      exact t_zret hx hb hr hlk (Or.inl rfl) hZc hC (⟨by rw [bI_f (fun h => h.elim (fun h => h (by rw [← hag i hi 10 (by decide) (by decide)]; exact c14)) (bI_ne.mp c5))], rfl⟩) (Nat.le_of_ble_eq_true rfl) (Nat.le_of_ble_eq_true rfl) d_M_isGuarded_22
    · skip
      refine lv_iconst (v := 1) hx hb d_M_isGuarded_17 (by decide) ?_
      refine lv_goto (tgt := 22) hx hb d_M_isGuarded_18 (by decide) ?_
      exact t_zret hx hb hr hlk (Or.inr rfl) hZc hC (⟨by rw [bI_t (Or.inl (by rw [← hag i hi 10 (by decide) (by decide)]; exact c14))], rfl⟩) (Nat.le_of_ble_eq_true rfl) (Nat.le_of_ble_eq_true rfl) d_M_isGuarded_22

set_option maxRecDepth 100000 in
set_option maxHeartbeats 4000000 in
theorem c_M_since {l : Launch} {D : va_G} {A : Nat → Prop} {Z : State → Heap → Prop} (hZc : tZ A Z) {J : Nat → Nat} {ca : Nat → ClassId} {code day made : Int32} {M U : Nat → Nat → Int32} {log : Nat → Int32} {lk : Int64} {rest : va_W} {w9 : Nat} {rows : List RW} (hag : mA rows M) (h40 : rows.length ≤ 40) (hcu : rw_CurOK rows) {i : Nat} (hi : i < rows.length) : tM l y_M_since tb ({ frames := 2, cells := 0, slots := 0, locals := 44 }) D cls (ty0 ca) A Z [.ref (J 0), .int (nI i)] (wM J ca code day made (nI rows.length) M U (nI w9) log lk rest) (pR (.int (if rw_at rows i 6 = 0 then rw_at rows i 7 else rw_at rows i 2)) (wM J ca code day made (nI rows.length) M U (nI w9) log lk rest)) (xN) := by
  refine t_ofW (by decide) w_793 (Nat.le_of_ble_eq_true rfl) ?_
  intro p e s m below meth c ls hx hb hr hts hown hlk hnm hml hex hl hC
  have hown : s.vm.findClass "RetentionVaultModel" = some m.cls := hown
  have hl : lv_has ls 2 [(0, .ref (J 0)), (1, .int (nI i))] := hl
  refine lv_aload_n hx hb d_M_since_0 rfl (lv_at hl 0 rfl) ?_
  refine lv_iload_n hx hb d_M_since_1 rfl (lv_at hl 1 rfl) ?_
  refine t_call (t_invV (As := [.int (nI i)]) (rest := []) hx hb hown (hts _ w_786) (hts _ w_788) (hts _ s_M_isCurrent) (hts _ w_789) ⟨by decide, by decide⟩ (t_recv (q0 := 0) hC rfl rfl) rfl d_M_since_2) (c_M_isCurrent hZc hag h40 hcu hi) hZc tb_good hts w_7 hC (hl.1.trans hml.symm) ⟨Nat.le_of_ble_eq_true rfl, Nat.le_of_ble_eq_true rfl, Nat.le_of_ble_eq_true rfl, Nat.le_of_ble_eq_true rfl⟩ (Nat.le_of_ble_eq_true rfl) (fun E q ce w1 H1 l1 hp => hp.elim) (fun v w1 H locs hp hC => ?_)
  obtain ⟨rfl, hwe9⟩ := hp
  rw [hwe9] at hC
  have hC : tC D cls (ty0 ca) A Z s (wM J ca code day made (nI rows.length) M U (nI w9) log lk rest) H locs := hC
  refine W.eq (g2 := F0 m 5 ls [.int (rw_at rows i 6)]) rfl ?_
  refine lv_if_eq (tgt := 17) hx hb d_M_since_5 (by decide) (fun c5 => ?_) (fun c5 => ?_)
  · skip
    refine lv_aload_n hx hb d_M_since_17 rfl (lv_at hl 0 rfl) ?_
    refine t_get (v := .ref (J 6)) hx hb hts inM hown hC 0 rfl rfl 9 (by decide) (hts _ w_646) (fun _ h => h) rfl d_M_since_18 ?_
    refine lv_iload_n hx hb d_M_since_21 rfl (lv_at hl 1 rfl) ?_
    refine t_ialdN (k := i) hx hb hC 6 0 rfl rfl (by omega) (by decide) d_M_since_22 ?_
    exact t_iret hx hb hr hlk hZc hC (⟨by rw [if_pos c5, hag i hi 7 (by decide) (by decide)], rfl⟩) (Nat.le_of_ble_eq_true rfl) (Nat.le_of_ble_eq_true rfl) d_M_since_23
  · skip
    refine lv_aload_n hx hb d_M_since_8 rfl (lv_at hl 0 rfl) ?_
    refine t_get (v := .ref (J 5)) hx hb hts inM hown hC 0 rfl rfl 8 (by decide) (hts _ w_645) (fun _ h => h) rfl d_M_since_9 ?_
    refine lv_iload_n hx hb d_M_since_12 rfl (lv_at hl 1 rfl) ?_
    refine t_ialdN (k := i) hx hb hC 5 0 rfl rfl (by omega) (by decide) d_M_since_13 ?_
    refine lv_goto (tgt := 23) hx hb d_M_since_14 (by decide) ?_
    exact t_iret hx hb hr hlk hZc hC (⟨by rw [if_neg c5, hag i hi 2 (by decide) (by decide)], rfl⟩) (Nat.le_of_ble_eq_true rfl) (Nat.le_of_ble_eq_true rfl) d_M_since_23

/-- what rules may be -/
def rI (Rs : List RW) : Prop := ∀ r, r < 6 → 0 ≤ rw_at Rs r 3 ∧ rw_at Rs r 3 ≤ 4 ∧ -1 ≤ rw_at Rs r 0 ∧ (rw_at Rs r 1 = 0 ∨ rw_at Rs r 1 = 1)
theorem i_lt1 {x : Int32} (h : -1 ≤ x) (h2 : x < 0) : x = -1 := by
  apply Int32.toInt_inj.mp
  have a1 := Int32.le_iff_toInt_le.mp h
  have a2 := Int32.lt_iff_toInt_lt.mp h2
  have e1 : (-1 : Int32).toInt = -1 := by decide
  have e2 : (0 : Int32).toInt = 0 := by decide
  rw [e1] at a1 ⊢
  rw [e2] at a2
  omega
theorem i_le0 {x : Int32} (h : 0 ≤ x) (h2 : x ≤ 0) : x = 0 := Int32.le_antisymm h2 h

set_option maxRecDepth 100000 in
set_option maxHeartbeats 4000000 in
theorem c_M_isDue {l : Launch} {D : va_G} {A : Nat → Prop} {Z : State → Heap → Prop} (hZc : tZ A Z) {J : Nat → Nat} {ca : Nat → ClassId} {code day made : Int32} {M U : Nat → Nat → Int32} {log : Nat → Int32} {lk : Int64} {rest : va_W} {w9 : Nat} {rows : List RW} (hag : mA rows M) (h40 : rows.length ≤ 40) (hcu : rw_CurOK rows) {i : Nat} (hi : i < rows.length) {Rs : List RW} (huA : uA Rs U) (hrI : rI Rs) {r : Nat} (hr6 : r < 6) : tM l y_M_isDue tb ({ frames := 3, cells := 0, slots := 0, locals := 65 }) D cls (ty0 ca) A Z [.ref (J 0), .int (nI r), .int (nI i)] (wM J ca code day made (nI rows.length) M U (nI w9) log lk rest) (pR (.int (bI (p_due (rw_at Rs r) (rw_at rows i) day))) (wM J ca code day made (nI rows.length) M U (nI w9) log lk rest)) (xN) := by
  refine t_ofW (by decide) w_785 (Nat.le_of_ble_eq_true rfl) ?_
  intro p e s m below meth c ls hx hb hr hts hown hlk hnm hml hex hl hC
  have hown : s.vm.findClass "RetentionVaultModel" = some m.cls := hown
  have hl : lv_has ls 4 [(0, .ref (J 0)), (1, .int (nI r)), (2, .int (nI i))] := hl
  refine lv_aload_n hx hb d_M_isDue_0 rfl (lv_at hl 0 rfl) ?_
  refine t_get (v := .ref (J 13)) hx hb hts inM hown hC 0 rfl rfl 16 (by decide) (hts _ w_653) (fun _ h => h) rfl d_M_isDue_1 ?_
  refine lv_iload_n hx hb d_M_isDue_4 rfl (lv_at hl 1 rfl) ?_
  refine t_ialdN (k := r) hx hb hC 13 0 rfl rfl (by omega) (by decide) d_M_isDue_5 ?_
  refine lv_if_le (tgt := 51) hx hb d_M_isDue_6 (by decide) (fun c6 => ?_) (fun c6 => ?_)
  · skip
    refine lv_iconst (v := 0) hx hb d_M_isDue_51 (by decide) ?_
    refine lv_istore_n (lv' := [(3, .int 0), (0, .ref (J 0)), (1, .int (nI r)), (2, .int (nI i))]) hx hb d_M_isDue_52 rfl hl (by decide) rfl (fun ls hl => ?_)
    refine lv_iload_n hx hb d_M_isDue_53 rfl (lv_at hl 0 rfl) ?_
    refine lv_if_eq (tgt := 80) hx hb d_M_isDue_54 (by decide) (fun c54 => ?_) (fun c54 => ?_)
    · skip
      refine lv_iconst (v := 0) hx hb d_M_isDue_80 (by decide) ?_
      exact t_zret hx hb hr hlk (Or.inl rfl) hZc hC (⟨by rw [bI_f (fun h => h.1 (i_le0 (hrI r hr6).1 (by rw [← (huA r hr6 3 (by decide))]; exact c6)))], rfl⟩) (Nat.le_of_ble_eq_true rfl) (Nat.le_of_ble_eq_true rfl) d_M_isDue_81
    · first | exact absurd c54 (by decide) | exact absurd (by decide) c54
  · skip
    refine lv_aload_n hx hb d_M_isDue_9 rfl (lv_at hl 0 rfl) ?_
    refine t_get (v := .ref (J 14)) hx hb hts inM hown hC 0 rfl rfl 17 (by decide) (hts _ w_654) (fun _ h => h) rfl d_M_isDue_10 ?_
    refine lv_iload_n hx hb d_M_isDue_13 rfl (lv_at hl 1 rfl) ?_
    refine t_ialdN (k := r) hx hb hC 14 0 rfl rfl (by omega) (by decide) d_M_isDue_14 ?_
    refine lv_if_lt (tgt := 33) hx hb d_M_isDue_15 (by decide) (fun c15 => ?_) (fun c15 => ?_)
    · skip
      refine lv_aload_n hx hb d_M_isDue_33 rfl (lv_at hl 0 rfl) ?_
      refine t_get (v := .ref (J 15)) hx hb hts inM hown hC 0 rfl rfl 18 (by decide) (hts _ w_655) (fun _ h => h) rfl d_M_isDue_34 ?_
      refine lv_iload_n hx hb d_M_isDue_37 rfl (lv_at hl 1 rfl) ?_
      refine t_zaldN (k := r) hx hb hC 15 1 rfl rfl (by omega) (by decide) d_M_isDue_38 ?_
      refine lv_aload_n hx hb d_M_isDue_39 rfl (lv_at hl 0 rfl) ?_
      refine lv_iload_n hx hb d_M_isDue_40 rfl (lv_at hl 2 rfl) ?_
      refine t_call (t_invV (As := [.int (nI i)]) (rest := [.int (U 1 r)]) hx hb hown (hts _ w_786) (hts _ w_788) (hts _ s_M_isCurrent) (hts _ w_789) ⟨by decide, by decide⟩ (t_recv (q0 := 0) hC rfl rfl) rfl d_M_isDue_41) (c_M_isCurrent hZc hag h40 hcu hi) hZc tb_good hts w_7 hC (hl.1.trans hml.symm) ⟨Nat.le_of_ble_eq_true rfl, Nat.le_of_ble_eq_true rfl, Nat.le_of_ble_eq_true rfl, Nat.le_of_ble_eq_true rfl⟩ (Nat.le_of_ble_eq_true rfl) (fun E q ce w1 H1 l1 hp => hp.elim) (fun v w1 H locs hp hC => ?_)
      obtain ⟨rfl, hwe9⟩ := hp
      rw [hwe9] at hC
      have hC : tC D cls (ty0 ca) A Z s (wM J ca code day made (nI rows.length) M U (nI w9) log lk rest) H locs := hC
      refine W.eq (g2 := F0 m 44 ls [.int (rw_at rows i 6), .int (U 1 r)]) rfl ?_
      refine lv_icmp_ne (tgt := 51) hx hb d_M_isDue_44 (by decide) (fun c44 => ?_) (fun c44 => ?_)
      · skip
        refine lv_iconst (v := 0) hx hb d_M_isDue_51 (by decide) ?_
        refine lv_istore_n (lv' := [(3, .int 0), (0, .ref (J 0)), (1, .int (nI r)), (2, .int (nI i))]) hx hb d_M_isDue_52 rfl hl (by decide) rfl (fun ls hl => ?_)
        refine lv_iload_n hx hb d_M_isDue_53 rfl (lv_at hl 0 rfl) ?_
        refine lv_if_eq (tgt := 80) hx hb d_M_isDue_54 (by decide) (fun c54 => ?_) (fun c54 => ?_)
        · skip
          refine lv_iconst (v := 0) hx hb d_M_isDue_80 (by decide) ?_
          exact t_zret hx hb hr hlk (Or.inl rfl) hZc hC (⟨by rw [bI_f (fun h => c44 (by rw [(huA r hr6 1 (by decide))]; exact h.2.2.1))], rfl⟩) (Nat.le_of_ble_eq_true rfl) (Nat.le_of_ble_eq_true rfl) d_M_isDue_81
        · first | exact absurd c54 (by decide) | exact absurd (by decide) c54
      · skip
        refine lv_iconst (v := 1) hx hb d_M_isDue_47 (by decide) ?_
        refine lv_goto (tgt := 52) hx hb d_M_isDue_48 (by decide) ?_
        refine lv_istore_n (lv' := [(3, .int 1), (0, .ref (J 0)), (1, .int (nI r)), (2, .int (nI i))]) hx hb d_M_isDue_52 rfl hl (by decide) rfl (fun ls hl => ?_)
        refine lv_iload_n hx hb d_M_isDue_53 rfl (lv_at hl 0 rfl) ?_
        refine lv_if_eq (tgt := 80) hx hb d_M_isDue_54 (by decide) (fun c54 => ?_) (fun c54 => ?_)
        · first | exact absurd c54 (by decide) | exact absurd (by decide) c54
        · skip
          refine lv_aload_n hx hb d_M_isDue_57 rfl (lv_at hl 1 rfl) ?_
          refine t_get (v := .int day) hx hb hts inM hown hC 0 rfl rfl 1 (by decide) (hts _ w_638) (fun _ h => h) rfl d_M_isDue_58 ?_
          refine lv_aload_n hx hb d_M_isDue_61 rfl (lv_at hl 1 rfl) ?_
          refine lv_iload_n hx hb d_M_isDue_62 rfl (lv_at hl 3 rfl) ?_
          refine t_call (t_invV (As := [.int (nI i)]) (rest := [.int day]) hx hb hown (hts _ w_790) (hts _ w_792) (hts _ s_M_since) (hts _ w_793) ⟨by decide, by decide⟩ (t_recv (q0 := 0) hC rfl rfl) rfl d_M_isDue_63) (c_M_since hZc hag h40 hcu hi) hZc tb_good hts w_7 hC (hl.1.trans hml.symm) ⟨Nat.le_of_ble_eq_true rfl, Nat.le_of_ble_eq_true rfl, Nat.le_of_ble_eq_true rfl, Nat.le_of_ble_eq_true rfl⟩ (Nat.le_of_ble_eq_true rfl) (fun E q ce w1 H1 l1 hp => hp.elim) (fun v w1 H locs hp hC => ?_)
          obtain ⟨rfl, hwe9⟩ := hp
          rw [hwe9] at hC
          have hC : tC D cls (ty0 ca) A Z s (wM J ca code day made (nI rows.length) M U (nI w9) log lk rest) H locs := hC
          refine W.eq (g2 := F0 m 66 ls [.int (if rw_at rows i 6 = 0 then rw_at rows i 7 else rw_at rows i 2), .int day]) rfl ?_
          refine lv_aload_n hx hb d_M_isDue_66 rfl (lv_at hl 1 rfl) ?_
          refine t_get (v := .ref (J 16)) hx hb hts inM hown hC 0 rfl rfl 19 (by decide) (hts _ w_656) (fun _ h => h) rfl d_M_isDue_67 ?_
          refine lv_iload_n hx hb d_M_isDue_70 rfl (lv_at hl 2 rfl) ?_
          refine t_ialdN (k := r) hx hb hC 16 0 rfl rfl (by omega) (by decide) d_M_isDue_71 ?_
          refine lv_iadd hx hb d_M_isDue_72 ?_
          refine lv_icmp_lt (tgt := 80) hx hb d_M_isDue_73 (by decide) (fun c73 => ?_) (fun c73 => ?_)
          · skip
            refine lv_iconst (v := 0) hx hb d_M_isDue_80 (by decide) ?_
            exact t_zret hx hb hr hlk (Or.inl rfl) hZc hC (⟨by rw [bI_f (fun h => h.2.2.2 (by rw [← (huA r hr6 2 (by decide))]; exact c73))], rfl⟩) (Nat.le_of_ble_eq_true rfl) (Nat.le_of_ble_eq_true rfl) d_M_isDue_81
          · skip
            refine lv_iconst (v := 1) hx hb d_M_isDue_76 (by decide) ?_
            refine lv_goto (tgt := 81) hx hb d_M_isDue_77 (by decide) ?_
            exact t_zret hx hb hr hlk (Or.inr rfl) hZc hC (⟨by rw [bI_t ⟨fun q => c6 (by rw [(huA r hr6 3 (by decide)), q]; decide), Or.inl (i_lt1 (hrI r hr6).2.2.1 (by rw [← (huA r hr6 0 (by decide))]; exact c15)), by rw [← (huA r hr6 1 (by decide))]; exact c44, by rw [← (huA r hr6 2 (by decide))]; exact c73⟩], rfl⟩) (Nat.le_of_ble_eq_true rfl) (Nat.le_of_ble_eq_true rfl) d_M_isDue_81
    · skip
      refine lv_aload_n hx hb d_M_isDue_18 rfl (lv_at hl 0 rfl) ?_
      refine t_get (v := .ref (J 14)) hx hb hts inM hown hC 0 rfl rfl 17 (by decide) (hts _ w_654) (fun _ h => h) rfl d_M_isDue_19 ?_
      refine lv_iload_n hx hb d_M_isDue_22 rfl (lv_at hl 1 rfl) ?_
      refine t_ialdN (k := r) hx hb hC 14 0 rfl rfl (by omega) (by decide) d_M_isDue_23 ?_
      refine lv_aload_n hx hb d_M_isDue_24 rfl (lv_at hl 0 rfl) ?_
      refine t_get (v := .ref (J 4)) hx hb hts inM hown hC 0 rfl rfl 7 (by decide) (hts _ w_644) (fun _ h => h) rfl d_M_isDue_25 ?_
      refine lv_iload_n hx hb d_M_isDue_28 rfl (lv_at hl 2 rfl) ?_
      refine t_ialdN (k := i) hx hb hC 4 0 rfl rfl (by omega) (by decide) d_M_isDue_29 ?_
      refine lv_icmp_ne (tgt := 51) hx hb d_M_isDue_30 (by decide) (fun c30 => ?_) (fun c30 => ?_)
      · skip
        refine lv_iconst (v := 0) hx hb d_M_isDue_51 (by decide) ?_
        refine lv_istore_n (lv' := [(3, .int 0), (0, .ref (J 0)), (1, .int (nI r)), (2, .int (nI i))]) hx hb d_M_isDue_52 rfl hl (by decide) rfl (fun ls hl => ?_)
        refine lv_iload_n hx hb d_M_isDue_53 rfl (lv_at hl 0 rfl) ?_
        refine lv_if_eq (tgt := 80) hx hb d_M_isDue_54 (by decide) (fun c54 => ?_) (fun c54 => ?_)
        · skip
          refine lv_iconst (v := 0) hx hb d_M_isDue_80 (by decide) ?_
          exact t_zret hx hb hr hlk (Or.inl rfl) hZc hC (⟨by rw [bI_f (fun h => h.2.1.elim (fun q => c15 (by rw [(huA r hr6 0 (by decide)), q]; decide)) (fun q => c30 (by rw [(huA r hr6 0 (by decide)), hag i hi 4 (by decide) (by decide)]; exact q)))], rfl⟩) (Nat.le_of_ble_eq_true rfl) (Nat.le_of_ble_eq_true rfl) d_M_isDue_81
        · first | exact absurd c54 (by decide) | exact absurd (by decide) c54
      · skip
        refine lv_aload_n hx hb d_M_isDue_33 rfl (lv_at hl 0 rfl) ?_
        refine t_get (v := .ref (J 15)) hx hb hts inM hown hC 0 rfl rfl 18 (by decide) (hts _ w_655) (fun _ h => h) rfl d_M_isDue_34 ?_
        refine lv_iload_n hx hb d_M_isDue_37 rfl (lv_at hl 1 rfl) ?_
        refine t_zaldN (k := r) hx hb hC 15 1 rfl rfl (by omega) (by decide) d_M_isDue_38 ?_
        refine lv_aload_n hx hb d_M_isDue_39 rfl (lv_at hl 0 rfl) ?_
        refine lv_iload_n hx hb d_M_isDue_40 rfl (lv_at hl 2 rfl) ?_
        refine t_call (t_invV (As := [.int (nI i)]) (rest := [.int (U 1 r)]) hx hb hown (hts _ w_786) (hts _ w_788) (hts _ s_M_isCurrent) (hts _ w_789) ⟨by decide, by decide⟩ (t_recv (q0 := 0) hC rfl rfl) rfl d_M_isDue_41) (c_M_isCurrent hZc hag h40 hcu hi) hZc tb_good hts w_7 hC (hl.1.trans hml.symm) ⟨Nat.le_of_ble_eq_true rfl, Nat.le_of_ble_eq_true rfl, Nat.le_of_ble_eq_true rfl, Nat.le_of_ble_eq_true rfl⟩ (Nat.le_of_ble_eq_true rfl) (fun E q ce w1 H1 l1 hp => hp.elim) (fun v w1 H locs hp hC => ?_)
        obtain ⟨rfl, hwe9⟩ := hp
        rw [hwe9] at hC
        have hC : tC D cls (ty0 ca) A Z s (wM J ca code day made (nI rows.length) M U (nI w9) log lk rest) H locs := hC
        refine W.eq (g2 := F0 m 44 ls [.int (rw_at rows i 6), .int (U 1 r)]) rfl ?_
        refine lv_icmp_ne (tgt := 51) hx hb d_M_isDue_44 (by decide) (fun c44 => ?_) (fun c44 => ?_)
        · skip
          refine lv_iconst (v := 0) hx hb d_M_isDue_51 (by decide) ?_
          refine lv_istore_n (lv' := [(3, .int 0), (0, .ref (J 0)), (1, .int (nI r)), (2, .int (nI i))]) hx hb d_M_isDue_52 rfl hl (by decide) rfl (fun ls hl => ?_)
          refine lv_iload_n hx hb d_M_isDue_53 rfl (lv_at hl 0 rfl) ?_
          refine lv_if_eq (tgt := 80) hx hb d_M_isDue_54 (by decide) (fun c54 => ?_) (fun c54 => ?_)
          · skip
            refine lv_iconst (v := 0) hx hb d_M_isDue_80 (by decide) ?_
            exact t_zret hx hb hr hlk (Or.inl rfl) hZc hC (⟨by rw [bI_f (fun h => c44 (by rw [(huA r hr6 1 (by decide))]; exact h.2.2.1))], rfl⟩) (Nat.le_of_ble_eq_true rfl) (Nat.le_of_ble_eq_true rfl) d_M_isDue_81
          · first | exact absurd c54 (by decide) | exact absurd (by decide) c54
        · skip
          refine lv_iconst (v := 1) hx hb d_M_isDue_47 (by decide) ?_
          refine lv_goto (tgt := 52) hx hb d_M_isDue_48 (by decide) ?_
          refine lv_istore_n (lv' := [(3, .int 1), (0, .ref (J 0)), (1, .int (nI r)), (2, .int (nI i))]) hx hb d_M_isDue_52 rfl hl (by decide) rfl (fun ls hl => ?_)
          refine lv_iload_n hx hb d_M_isDue_53 rfl (lv_at hl 0 rfl) ?_
          refine lv_if_eq (tgt := 80) hx hb d_M_isDue_54 (by decide) (fun c54 => ?_) (fun c54 => ?_)
          · first | exact absurd c54 (by decide) | exact absurd (by decide) c54
          · skip
            refine lv_aload_n hx hb d_M_isDue_57 rfl (lv_at hl 1 rfl) ?_
            refine t_get (v := .int day) hx hb hts inM hown hC 0 rfl rfl 1 (by decide) (hts _ w_638) (fun _ h => h) rfl d_M_isDue_58 ?_
            refine lv_aload_n hx hb d_M_isDue_61 rfl (lv_at hl 1 rfl) ?_
            refine lv_iload_n hx hb d_M_isDue_62 rfl (lv_at hl 3 rfl) ?_
            refine t_call (t_invV (As := [.int (nI i)]) (rest := [.int day]) hx hb hown (hts _ w_790) (hts _ w_792) (hts _ s_M_since) (hts _ w_793) ⟨by decide, by decide⟩ (t_recv (q0 := 0) hC rfl rfl) rfl d_M_isDue_63) (c_M_since hZc hag h40 hcu hi) hZc tb_good hts w_7 hC (hl.1.trans hml.symm) ⟨Nat.le_of_ble_eq_true rfl, Nat.le_of_ble_eq_true rfl, Nat.le_of_ble_eq_true rfl, Nat.le_of_ble_eq_true rfl⟩ (Nat.le_of_ble_eq_true rfl) (fun E q ce w1 H1 l1 hp => hp.elim) (fun v w1 H locs hp hC => ?_)
            obtain ⟨rfl, hwe9⟩ := hp
            rw [hwe9] at hC
            have hC : tC D cls (ty0 ca) A Z s (wM J ca code day made (nI rows.length) M U (nI w9) log lk rest) H locs := hC
            refine W.eq (g2 := F0 m 66 ls [.int (if rw_at rows i 6 = 0 then rw_at rows i 7 else rw_at rows i 2), .int day]) rfl ?_
            refine lv_aload_n hx hb d_M_isDue_66 rfl (lv_at hl 1 rfl) ?_
            refine t_get (v := .ref (J 16)) hx hb hts inM hown hC 0 rfl rfl 19 (by decide) (hts _ w_656) (fun _ h => h) rfl d_M_isDue_67 ?_
            refine lv_iload_n hx hb d_M_isDue_70 rfl (lv_at hl 2 rfl) ?_
            refine t_ialdN (k := r) hx hb hC 16 0 rfl rfl (by omega) (by decide) d_M_isDue_71 ?_
            refine lv_iadd hx hb d_M_isDue_72 ?_
            refine lv_icmp_lt (tgt := 80) hx hb d_M_isDue_73 (by decide) (fun c73 => ?_) (fun c73 => ?_)
            · skip
              refine lv_iconst (v := 0) hx hb d_M_isDue_80 (by decide) ?_
              exact t_zret hx hb hr hlk (Or.inl rfl) hZc hC (⟨by rw [bI_f (fun h => h.2.2.2 (by rw [← (huA r hr6 2 (by decide))]; exact c73))], rfl⟩) (Nat.le_of_ble_eq_true rfl) (Nat.le_of_ble_eq_true rfl) d_M_isDue_81
            · skip
              refine lv_iconst (v := 1) hx hb d_M_isDue_76 (by decide) ?_
              refine lv_goto (tgt := 81) hx hb d_M_isDue_77 (by decide) ?_
              exact t_zret hx hb hr hlk (Or.inr rfl) hZc hC (⟨by rw [bI_t ⟨fun q => c6 (by rw [(huA r hr6 3 (by decide)), q]; decide), Or.inr (by rw [← (huA r hr6 0 (by decide)), ← hag i hi 4 (by decide) (by decide)]; exact c30), by rw [← (huA r hr6 1 (by decide))]; exact c44, by rw [← (huA r hr6 2 (by decide))]; exact c73⟩], rfl⟩) (Nat.le_of_ble_eq_true rfl) (Nat.le_of_ble_eq_true rfl) d_M_isDue_81

def rw_num (rows : List RW) (key : Int32) : Nat → Nat
  | 0 => 0
  | n + 1 => rw_num rows key n + if rw_at rows n 1 = key then 1 else 0
theorem rw_num_le {rows : List RW} {key : Int32} : ∀ {n : Nat}, rw_num rows key n ≤ n := by
  intro n
  induction n with
  | zero => exact Nat.le_refl _
  | succ n ih =>
    unfold rw_num
    split <;> omega
theorem nu_t {rows : List RW} {v x : Int32} {i : Nat} (hx : x = rw_at rows i 1) (h : ¬ x = v) : rw_num rows v (i + 1) = rw_num rows v i + 0 := by
  show rw_num rows v i + (if rw_at rows i 1 = v then 1 else 0) = _
  rw [← hx, if_neg h]
theorem nu_f {rows : List RW} {v x : Int32} {i : Nat} (hx : x = rw_at rows i 1) (h : x = v) : rw_num rows v (i + 1) = rw_num rows v i + 1 := by
  show rw_num rows v i + (if rw_at rows i 1 = v then 1 else 0) = _
  rw [← hx, if_pos h]

set_option maxRecDepth 100000 in
set_option maxHeartbeats 4000000 in
theorem c_M_versionsOf {l : Launch} {D : va_G} {A : Nat → Prop} {Z : State → Heap → Prop} (hZc : tZ A Z) {J : Nat → Nat} {ca : Nat → ClassId} {code day made : Int32} {M U : Nat → Nat → Int32} {log : Nat → Int32} {lk : Int64} {rest : va_W} {w9 : Nat} {v9 : Int32} {rows : List RW} (hag : mA rows M) (h40 : rows.length ≤ 40) : tM l y_M_versionsOf tb ({ frames := 0, cells := 0, slots := 0, locals := 0 }) D cls (ty0 ca) A Z [.ref (J 0), .int v9] (wM J ca code day made (nI rows.length) M U (nI w9) log lk rest) (pR (.int (nI (rw_num rows v9 rows.length))) (wM J ca code day made (nI rows.length) M U (nI w9) log lk rest)) (xN) := by
  refine t_ofW (by decide) w_801 (Nat.le_of_ble_eq_true rfl) ?_
  intro p e s m below meth c ls hx hb hr hts hown hlk hnm hml hex hl hC
  have hown : s.vm.findClass "RetentionVaultModel" = some m.cls := hown
  have hl : lv_has ls 4 [(0, .ref (J 0)), (1, .int v9)] := hl
  refine lv_iconst (v := 0) hx hb d_M_versionsOf_0 (by decide) ?_
  refine lv_istore_n (lv' := [(2, .int 0), (0, .ref (J 0)), (1, .int v9)]) hx hb d_M_versionsOf_1 rfl hl (by decide) rfl (fun ls hl => ?_)
  refine lv_iconst (v := 0) hx hb d_M_versionsOf_2 (by decide) ?_
  refine lv_istore_n (lv' := [(3, .int 0), (2, .int 0), (0, .ref (J 0)), (1, .int v9)]) hx hb d_M_versionsOf_3 rfl hl (by decide) rfl (fun ls hl => ?_)
  have loop : ∀ (k i : Nat) (ls : Array Slot), rows.length - i = k → i ≤ rows.length → lv_has ls 4 [(3, .int (nI i)), (2, .int (nI (rw_num rows v9 i))), (0, .ref (J 0)), (1, .int v9)] → tB p l e ({ frames := 0, cells := 0, slots := 0, locals := 0 }) s m [.ref (J 0), .int v9] below meth c D (ty0 ca) A Z (pR (.int (nI (rw_num rows v9 rows.length))) (wM J ca code day made (nI rows.length) M U (nI w9) log lk rest)) (xN) s.heap [] 0 0 (F0 m 4 ls []) := by
    intro k
    induction k using Nat.strongRecOn with
    | ind k ih =>
      intro i ls hk hle hl
      refine lv_iload_n hx hb d_M_versionsOf_4 rfl (lv_at hl 0 rfl) ?_
      refine lv_aload_n hx hb d_M_versionsOf_5 rfl (lv_at hl 2 rfl) ?_
      refine t_get (v := .int (nI rows.length)) hx hb hts inM hown hC 0 rfl rfl 3 (by decide) (hts _ w_640) (fun _ h => h) rfl d_M_versionsOf_6 ?_
      refine lv_icmp_ge (tgt := 36) hx hb d_M_versionsOf_9 (by decide) (fun c9 => ?_) (fun c9 => ?_)
      · skip
        have hil : i = rows.length := Nat.le_antisymm hle ((nI_leI (by omega) (by omega)).mp c9)
        refine lv_iload_n hx hb d_M_versionsOf_36 rfl (lv_at hl 1 rfl) ?_
        exact t_iret hx hb hr hlk hZc hC (⟨by rw [hil], rfl⟩) (Nat.le_of_ble_eq_true rfl) (Nat.le_of_ble_eq_true rfl) d_M_versionsOf_37
      · skip
        have hil : i < rows.length := Nat.not_le.mp (fun h => c9 ((nI_leI (by omega) (by omega)).mpr h))
        refine lv_iload_n hx hb d_M_versionsOf_12 rfl (lv_at hl 1 rfl) ?_
        refine lv_aload_n hx hb d_M_versionsOf_13 rfl (lv_at hl 2 rfl) ?_
        refine t_get (v := .ref (J 2)) hx hb hts inM hown hC 0 rfl rfl 5 (by decide) (hts _ w_642) (fun _ h => h) rfl d_M_versionsOf_14 ?_
        refine lv_iload_n hx hb d_M_versionsOf_17 rfl (lv_at hl 0 rfl) ?_
        refine t_ialdN (k := i) hx hb hC 2 0 rfl rfl (by omega) (by decide) d_M_versionsOf_18 ?_
        refine lv_iload_n hx hb d_M_versionsOf_19 rfl (lv_at hl 3 rfl) ?_
        refine lv_icmp_ne (tgt := 27) hx hb d_M_versionsOf_20 (by decide) (fun c20 => ?_) (fun c20 => ?_)
        · skip
          refine lv_iconst (v := 0) hx hb d_M_versionsOf_27 (by decide) ?_
          refine lv_iaddN (a := (rw_num rows v9 i)) (b := 0) hx hb rfl d_M_versionsOf_28 ?_
          rw [← nu_t (hag i hil 1 (by decide) (by decide)) c20]
          refine lv_istore_n (lv' := [(2, .int (nI (rw_num rows v9 (i + 1)))), (3, .int (nI i)), (0, .ref (J 0)), (1, .int v9)]) hx hb d_M_versionsOf_29 rfl hl (by decide) rfl (fun ls hl => ?_)
          refine lv_iinc (k := 1) (v := nI (i + 1)) (lv' := [(3, .int (nI (i + 1))), (2, .int (nI (rw_num rows v9 (i + 1)))), (0, .ref (J 0)), (1, .int v9)]) hx hb d_M_versionsOf_30 hl rfl (nI_1 i) (by decide) rfl (fun ls hl => ?_)
          refine lv_goto (tgt := 4) hx hb d_M_versionsOf_33 (by decide) ?_
          exact ih (rows.length - (i + 1)) (by omega) (i + 1) ls rfl (by omega) (lv_sub hl [0, 1, 2, 3] rfl)
        · skip
          refine lv_iconst (v := 1) hx hb d_M_versionsOf_23 (by decide) ?_
          refine lv_goto (tgt := 28) hx hb d_M_versionsOf_24 (by decide) ?_
          refine lv_iaddN (a := (rw_num rows v9 i)) (b := 1) hx hb rfl d_M_versionsOf_28 ?_
          rw [← nu_f (hag i hil 1 (by decide) (by decide)) c20]
          refine lv_istore_n (lv' := [(2, .int (nI (rw_num rows v9 (i + 1)))), (3, .int (nI i)), (0, .ref (J 0)), (1, .int v9)]) hx hb d_M_versionsOf_29 rfl hl (by decide) rfl (fun ls hl => ?_)
          refine lv_iinc (k := 1) (v := nI (i + 1)) (lv' := [(3, .int (nI (i + 1))), (2, .int (nI (rw_num rows v9 (i + 1)))), (0, .ref (J 0)), (1, .int v9)]) hx hb d_M_versionsOf_30 hl rfl (nI_1 i) (by decide) rfl (fun ls hl => ?_)
          refine lv_goto (tgt := 4) hx hb d_M_versionsOf_33 (by decide) ?_
          exact ih (rows.length - (i + 1)) (by omega) (i + 1) ls rfl (by omega) (lv_sub hl [0, 1, 2, 3] rfl)
  exact loop _ 0 ls rfl (by omega) hl
