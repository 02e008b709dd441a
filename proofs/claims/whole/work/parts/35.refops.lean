/-! The reference: its public methods. Laid by program (wip/whole/p35.py) -/
/-- what a call of the reference leaves -/
def oM (J : Nat → Nat) (ca : Nat → ClassId) (o : OR) (day : Int32) (Rs : List RW) (rest : va_W) (v : Option Value) (w2 : va_W) : Prop := (∃ b, v = some (.int b) ∧ (o.1 = 0 → b = o.2.1)) ∧ ∃ M2 U2, mA o.2.2.1 M2 ∧ uA Rs U2 ∧ w2 = wS J ca o.1 day o.2.2 M2 U2 rest
def oN (J : Nat → Nat) (ca : Nat → ClassId) (o : OR) (day : Int32) (Rs : List RW) (rest : va_W) (v : Option Value) (w2 : va_W) : Prop := v = none ∧ ∃ M2 U2, mA o.2.2.1 M2 ∧ uA Rs U2 ∧ w2 = wS J ca o.1 day o.2.2 M2 U2 rest
theorem oM_mk {J : Nat → Nat} {ca : Nat → ClassId} {o : OR} {c a b day : Int32} {S' : PS} {Rs : List RW} {rest w2 : va_W} {M2 U2 : Nat → Nat → Int32} (e : o = (c, a, S')) (hb : c = 0 → b = a) (hm : mA S'.1 M2) (hu : uA Rs U2) (hw : w2 = wS J ca c day S' M2 U2 rest) : oM J ca o day Rs rest (some (.int b)) w2 := by
  subst e
  exact ⟨⟨b, rfl, hb⟩, M2, U2, hm, hu, hw⟩
theorem oN_mk {J : Nat → Nat} {ca : Nat → ClassId} {o : OR} {c a day : Int32} {S' : PS} {Rs : List RW} {rest w2 : va_W} {M2 U2 : Nat → Nat → Int32} (e : o = (c, a, S')) (hm : mA S'.1 M2) (hu : uA Rs U2) (hw : w2 = wS J ca c day S' M2 U2 rest) : oN J ca o day Rs rest none w2 := by
  subst e
  exact ⟨rfl, M2, U2, hm, hu, hw⟩
theorem wS_set {J : Nat → Nat} {ca : Nat → ClassId} {code day : Int32} {rows : List RW} {log : Nat → Int32} {w9 ev9 i : Nat} {lk : Int64} {r : RW} {kd nu de : Int32} {M U : Nat → Nat → Int32} {rest : va_W} : wM J ca code day (nI ev9) (nI rows.length) M U (nI (w9 + 1)) (lg_wr (log, w9, lk) day kd nu de).1 (lg_wr (log, w9, lk) day kd nu de).2.2 rest = wS J ca code day (p_set day i r kd nu de (rows, (log, w9, lk), ev9)) M U rest := by
  show _ = wM J ca code day (nI ev9) (nI (rows.set i r).length) M U (nI (w9 + 1)) (lg_wr (log, w9, lk) day kd nu de).1 (lg_wr (log, w9, lk) day kd nu de).2.2 rest
  rw [List.length_set]
theorem mA_set2 {rows : List RW} {M M1 M2 : Nat → Nat → Int32} {i c1 c2 : Nat} {x y : Int32} (hag : mA rows M) (hi : i < rows.length) (h1 : va_up M c1 (upd (M c1) i x) = M1) (h2 : va_up M1 c2 (upd (M1 c2) i y) = M2) : mA (rows.set i (upd (upd (rw_at rows i) c1 x) c2 y)) M2 := by
  have h := mA_set (mA_set hag hi h1) (by rw [List.length_set]; exact hi) h2
  rw [rw_at_set hi, if_pos rfl, List.set_set] at h
  exact h
theorem uA_set {Rs : List RW} {U U2 : Nat → Nat → Int32} {j : Nat} {r : RW} (hl : Rs.length = 6) (hu : uA Rs U) (hj : j < 6) (h : ∀ c, c < 4 → U2 c = upd (U c) j (r c)) : uA (Rs.set j r) U2 := by
  intro k hk c hc
  rw [rw_at_set (by omega), h c hc]
  by_cases e : k = j
  · rw [if_pos e, e, pk_us]
  · rw [if_neg e, pk_un e]; exact hu k hk c hc
theorem sw0_6 (x : Int32) : x = 0 ∨ x = 1 ∨ x = 2 ∨ x = 3 ∨ x = 4 ∨ x = 5 ∨ x = 6 ∨ (x.toInt < 0 ∨ 6 < x.toInt) := by
  rcases pk_ix x (n := 7) (by decide) with h | h | ⟨j, hj, rfl⟩
  · have h1 : x.toInt < 0 := Int32.lt_iff_toInt_lt.mp h
    simp [h1]
  · have h1 : (nI 7).toInt ≤ x.toInt := Int32.le_iff_toInt_le.mp h
    have h2 : (nI 7).toInt = 7 := by decide
    have h3 : 6 < x.toInt := by omega
    simp [h3]
  · rcases (by omega : j = 0 ∨ j = 1 ∨ j = 2 ∨ j = 3 ∨ j = 4 ∨ j = 5 ∨ j = 6) with rfl | rfl | rfl | rfl | rfl | rfl | rfl <;> decide
theorem sw_7 {x : Int32} (h : x ≤ 7) (h0 : 0 ≤ x) (hs : x.toInt < 0 ∨ 6 < x.toInt) : x = 7 := by
  apply Int32.toInt_inj.mp
  have a1 := Int32.le_iff_toInt_le.mp h
  have a2 := Int32.le_iff_toInt_le.mp h0
  have e1 : (7 : Int32).toInt = 7 := by decide
  have e2 : (0 : Int32).toInt = 0 := by decide
  rw [e1] at a1 ⊢
  rw [e2] at a2
  omega

set_option maxRecDepth 100000 in
set_option maxHeartbeats 4000000 in
theorem c_M_put {l : Launch} {D : va_G} {A : Nat → Prop} {Z : State → Heap → Prop} (hZc : tZ A Z) {J : Nat → Nat} {ca : Nat → ClassId} {code day : Int32} {M U : Nat → Nat → Int32} {log : Nat → Int32} {lk : Int64} {rest : va_W} {k9 si9 tg9 : Int32} {rows : List RW} {w9 ev9 : Nat} (hw9 : w9 < 2 ^ 31) (hag : mA rows M) (hPI : PI (rows, (log, w9, lk), ev9)) {Rs : List RW} (huA : uA Rs U) : tM l y_M_put tb ({ frames := 2, cells := 0, slots := 0, locals := 49 }) D cls (ty0 ca) A Z [.ref (J 0), .int k9, .int si9, .int tg9] (wM J ca code day (nI ev9) (nI rows.length) M U (nI w9) log lk rest) (oM J ca (o_put day k9 si9 tg9 (rows, (log, w9, lk), ev9)) day Rs rest) (xN) := by
  refine t_ofW (by decide) w_715 (Nat.le_of_ble_eq_true rfl) ?_
  intro p e s m below meth c ls hx hb hr hts hown hlk hnm hml hex hl hC
  have hown : s.vm.findClass "RetentionVaultModel" = some m.cls := hown
  have hl : lv_has ls 4 [(0, .ref (J 0)), (1, .int k9), (2, .int si9), (3, .int tg9)] := hl
  have h40 : rows.length ≤ 40 := hPI.1
  have hcu : rw_CurOK rows := hPI.2.1
  refine lv_aload_n hx hb d_M_put_0 rfl (lv_at hl 0 rfl) ?_
  refine lv_iload_n hx hb d_M_put_1 rfl (lv_at hl 2 rfl) ?_
  refine lv_iconst (v := 1) hx hb d_M_put_2 (by decide) ?_
  refine lv_icmp_lt (tgt := 21) hx hb d_M_put_3 (by decide) (fun c3 => ?_) (fun c3 => ?_)
  · skip
    refine lv_iconst (v := 1) hx hb d_M_put_21 (by decide) ?_
    refine lv_goto (tgt := 39) hx hb d_M_put_22 (by decide) ?_
    refine t_put (ty := .int) (v := .int 1) hx hb hts inM TM tyM nmM hown hC 0 rfl rfl 0 (by decide) (hts _ w_637) (fun _ h => h) rfl (by decide +kernel) rfl rfl (Nat.le_of_ble_eq_true rfl) d_M_put_39 (fun H locs hC => ?_)
    have hC : tC D cls (ty0 ca) A Z s (wM J ca 1 day (nI ev9) (nI rows.length) M U (nI w9) log lk rest) H locs := hC
    refine lv_aload_n hx hb d_M_put_42 rfl (lv_at hl 0 rfl) ?_
    refine t_get (v := .int 1) hx hb hts inM hown hC 0 rfl rfl 0 (by decide) (hts _ w_637) (fun _ h => h) rfl d_M_put_43 ?_
    refine lv_if_le (tgt := 53) hx hb d_M_put_46 (by decide) (fun c46 => ?_) (fun c46 => ?_)
    · first | exact absurd c46 (by decide) | exact absurd (by decide) c46
    · skip
      refine lv_iconst (v := 0) hx hb d_M_put_49 (by decide) ?_
      refine lv_goto (tgt := 60) hx hb d_M_put_50 (by decide) ?_
      exact t_iret hx hb hr hlk hZc hC (oM_mk (c := 1) (a := 0) (S' := (rows, (log, w9, lk), ev9)) (if_neg (fun h => absurd h.1.1 (Int32.not_le.mpr c3))) (fun h => absurd h (by decide)) hag huA (rfl)) (Nat.le_of_ble_eq_true rfl) (Nat.le_of_ble_eq_true rfl) d_M_put_60
  · skip
    refine lv_iload_n hx hb d_M_put_6 rfl (lv_at hl 2 rfl) ?_
    refine lv_ldc (v := 1000000) hx hb hown (hts _ w_716) d_M_put_7 ?_
    refine lv_icmp_gt (tgt := 21) hx hb d_M_put_9 (by decide) (fun c9 => ?_) (fun c9 => ?_)
    · skip
      refine lv_iconst (v := 1) hx hb d_M_put_21 (by decide) ?_
      refine lv_goto (tgt := 39) hx hb d_M_put_22 (by decide) ?_
      refine t_put (ty := .int) (v := .int 1) hx hb hts inM TM tyM nmM hown hC 0 rfl rfl 0 (by decide) (hts _ w_637) (fun _ h => h) rfl (by decide +kernel) rfl rfl (Nat.le_of_ble_eq_true rfl) d_M_put_39 (fun H locs hC => ?_)
      have hC : tC D cls (ty0 ca) A Z s (wM J ca 1 day (nI ev9) (nI rows.length) M U (nI w9) log lk rest) H locs := hC
      refine lv_aload_n hx hb d_M_put_42 rfl (lv_at hl 0 rfl) ?_
      refine t_get (v := .int 1) hx hb hts inM hown hC 0 rfl rfl 0 (by decide) (hts _ w_637) (fun _ h => h) rfl d_M_put_43 ?_
      refine lv_if_le (tgt := 53) hx hb d_M_put_46 (by decide) (fun c46 => ?_) (fun c46 => ?_)
      · first | exact absurd c46 (by decide) | exact absurd (by decide) c46
      · skip
        refine lv_iconst (v := 0) hx hb d_M_put_49 (by decide) ?_
        refine lv_goto (tgt := 60) hx hb d_M_put_50 (by decide) ?_
        exact t_iret hx hb hr hlk hZc hC (oM_mk (c := 1) (a := 0) (S' := (rows, (log, w9, lk), ev9)) (if_neg (fun h => absurd h.1.2 (Int32.not_le.mpr c9))) (fun h => absurd h (by decide)) hag huA (rfl)) (Nat.le_of_ble_eq_true rfl) (Nat.le_of_ble_eq_true rfl) d_M_put_60
    · skip
      refine lv_iload_n hx hb d_M_put_12 rfl (lv_at hl 3 rfl) ?_
      refine lv_if_lt (tgt := 21) hx hb d_M_put_13 (by decide) (fun c13 => ?_) (fun c13 => ?_)
      · skip
        refine lv_iconst (v := 1) hx hb d_M_put_21 (by decide) ?_
        refine lv_goto (tgt := 39) hx hb d_M_put_22 (by decide) ?_
        refine t_put (ty := .int) (v := .int 1) hx hb hts inM TM tyM nmM hown hC 0 rfl rfl 0 (by decide) (hts _ w_637) (fun _ h => h) rfl (by decide +kernel) rfl rfl (Nat.le_of_ble_eq_true rfl) d_M_put_39 (fun H locs hC => ?_)
        have hC : tC D cls (ty0 ca) A Z s (wM J ca 1 day (nI ev9) (nI rows.length) M U (nI w9) log lk rest) H locs := hC
        refine lv_aload_n hx hb d_M_put_42 rfl (lv_at hl 0 rfl) ?_
        refine t_get (v := .int 1) hx hb hts inM hown hC 0 rfl rfl 0 (by decide) (hts _ w_637) (fun _ h => h) rfl d_M_put_43 ?_
        refine lv_if_le (tgt := 53) hx hb d_M_put_46 (by decide) (fun c46 => ?_) (fun c46 => ?_)
        · first | exact absurd c46 (by decide) | exact absurd (by decide) c46
        · skip
          refine lv_iconst (v := 0) hx hb d_M_put_49 (by decide) ?_
          refine lv_goto (tgt := 60) hx hb d_M_put_50 (by decide) ?_
          exact t_iret hx hb hr hlk hZc hC (oM_mk (c := 1) (a := 0) (S' := (rows, (log, w9, lk), ev9)) (if_neg (fun h => absurd h.2.1 (Int32.not_le.mpr c13))) (fun h => absurd h (by decide)) hag huA (rfl)) (Nat.le_of_ble_eq_true rfl) (Nat.le_of_ble_eq_true rfl) d_M_put_60
      · skip
        refine lv_iload_n hx hb d_M_put_16 rfl (lv_at hl 3 rfl) ?_
        refine lv_iconst (v := 3) hx hb d_M_put_17 (by decide) ?_
        refine lv_icmp_le (tgt := 25) hx hb d_M_put_18 (by decide) (fun c18 => ?_) (fun c18 => ?_)
        · skip
          refine lv_aload_n hx hb d_M_put_25 rfl (lv_at hl 0 rfl) ?_
          refine t_get (v := .int (nI rows.length)) hx hb hts inM hown hC 0 rfl rfl 3 (by decide) (hts _ w_640) (fun _ h => h) rfl d_M_put_26 ?_
          refine lv_bipush (v := 40) hx hb d_M_put_29 (by decide) ?_
          refine lv_icmp_ne (tgt := 38) hx hb d_M_put_31 (by decide) (fun c31 => ?_) (fun c31 => ?_)
          · skip
            have hlr : rows.length < 40 := Nat.not_le.mp (fun h => c31 ((n40 h40).mpr h))
            refine lv_iconst (v := 0) hx hb d_M_put_38 (by decide) ?_
            refine t_put (ty := .int) (v := .int 0) hx hb hts inM TM tyM nmM hown hC 0 rfl rfl 0 (by decide) (hts _ w_637) (fun _ h => h) rfl (by decide +kernel) rfl rfl (Nat.le_of_ble_eq_true rfl) d_M_put_39 (fun H locs hC => ?_)
            have hC : tC D cls (ty0 ca) A Z s (wM J ca 0 day (nI ev9) (nI rows.length) M U (nI w9) log lk rest) H locs := hC
            refine lv_aload_n hx hb d_M_put_42 rfl (lv_at hl 0 rfl) ?_
            refine t_get (v := .int 0) hx hb hts inM hown hC 0 rfl rfl 0 (by decide) (hts _ w_637) (fun _ h => h) rfl d_M_put_43 ?_
            refine lv_if_le (tgt := 53) hx hb d_M_put_46 (by decide) (fun c46 => ?_) (fun c46 => ?_)
            · skip
              refine lv_aload_n hx hb d_M_put_53 rfl (lv_at hl 0 rfl) ?_
              refine lv_iload_n hx hb d_M_put_54 rfl (lv_at hl 1 rfl) ?_
              refine lv_iload_n hx hb d_M_put_55 rfl (lv_at hl 2 rfl) ?_
              refine lv_iload_n hx hb d_M_put_56 rfl (lv_at hl 3 rfl) ?_
              refine t_call (t_invV (As := [.int k9, .int si9, .int tg9]) (rest := []) hx hb hown (hts _ w_717) (hts _ w_719) (hts _ s_M_add) (hts _ w_720) ⟨by decide, by decide⟩ (t_recv (q0 := 0) hC rfl rfl) rfl d_M_put_57) (c_M_addS hZc hw9 hag h40 hlr (row := mkObj (nI ev9) k9 day si9 tg9) ⟨rfl, rfl, rfl, rfl, rfl, (if_pos (Int32.lt_of_lt_of_le (by decide) (Int32.not_lt.mp c3))).symm, rfl, rfl, rfl, rfl, rfl, rfl⟩) hZc tb_good hts w_7 hC (hl.1.trans hml.symm) ⟨Nat.le_of_ble_eq_true rfl, Nat.le_of_ble_eq_true rfl, Nat.le_of_ble_eq_true rfl, Nat.le_of_ble_eq_true rfl⟩ (Nat.le_of_ble_eq_true rfl) (fun E q ce w1 H1 l1 hp => hp.elim) (fun v w1 H locs hp hC => ?_)
              obtain ⟨rfl, M2, hmA2, hwe9⟩ := hp
              rw [hwe9] at hC
              skip
              have hC : tC D cls (ty0 ca) A Z s (wM J ca 0 day (nI (p_add day (mkObj (nI ev9) k9 day si9 tg9) (rows, (log, w9, lk), ev9)).2.2) (nI (p_add day (mkObj (nI ev9) k9 day si9 tg9) (rows, (log, w9, lk), ev9)).1.length) M2 U (nI (p_add day (mkObj (nI ev9) k9 day si9 tg9) (rows, (log, w9, lk), ev9)).2.1.2.1) ((p_add day (mkObj (nI ev9) k9 day si9 tg9) (rows, (log, w9, lk), ev9)).2.1.1) ((p_add day (mkObj (nI ev9) k9 day si9 tg9) (rows, (log, w9, lk), ev9)).2.1.2.2) rest) H locs := hC
              refine W.eq (g2 := F0 m 60 ls [.int (nI ev9)]) rfl ?_
              exact t_iret hx hb hr hlk hZc hC (oM_mk (c := 0) (a := nI ev9) (S' := p_add day (mkObj (nI ev9) k9 day si9 tg9) (rows, (log, w9, lk), ev9)) ((if_pos ⟨⟨Int32.not_lt.mp c3, Int32.not_lt.mp c9⟩, ⟨Int32.not_lt.mp c13, c18⟩⟩).trans (if_neg (fun h => c31 ((n40 h40).mpr h)))) (fun _ => rfl) hmA2 huA (rfl)) (Nat.le_of_ble_eq_true rfl) (Nat.le_of_ble_eq_true rfl) d_M_put_60
            · first | exact absurd c46 (by decide) | exact absurd (by decide) c46
          · skip
            refine lv_iconst (v := 2) hx hb d_M_put_34 (by decide) ?_
            refine lv_goto (tgt := 39) hx hb d_M_put_35 (by decide) ?_
            refine t_put (ty := .int) (v := .int 2) hx hb hts inM TM tyM nmM hown hC 0 rfl rfl 0 (by decide) (hts _ w_637) (fun _ h => h) rfl (by decide +kernel) rfl rfl (Nat.le_of_ble_eq_true rfl) d_M_put_39 (fun H locs hC => ?_)
            have hC : tC D cls (ty0 ca) A Z s (wM J ca 2 day (nI ev9) (nI rows.length) M U (nI w9) log lk rest) H locs := hC
            refine lv_aload_n hx hb d_M_put_42 rfl (lv_at hl 0 rfl) ?_
            refine t_get (v := .int 2) hx hb hts inM hown hC 0 rfl rfl 0 (by decide) (hts _ w_637) (fun _ h => h) rfl d_M_put_43 ?_
            refine lv_if_le (tgt := 53) hx hb d_M_put_46 (by decide) (fun c46 => ?_) (fun c46 => ?_)
            · first | exact absurd c46 (by decide) | exact absurd (by decide) c46
            · skip
              refine lv_iconst (v := 0) hx hb d_M_put_49 (by decide) ?_
              refine lv_goto (tgt := 60) hx hb d_M_put_50 (by decide) ?_
              exact t_iret hx hb hr hlk hZc hC (oM_mk (c := 2) (a := 0) (S' := (rows, (log, w9, lk), ev9)) ((if_pos ⟨⟨Int32.not_lt.mp c3, Int32.not_lt.mp c9⟩, ⟨Int32.not_lt.mp c13, c18⟩⟩).trans (if_pos ((n40 h40).mp c31))) (fun h => absurd h (by decide)) hag huA (rfl)) (Nat.le_of_ble_eq_true rfl) (Nat.le_of_ble_eq_true rfl) d_M_put_60
        · skip
          refine lv_iconst (v := 1) hx hb d_M_put_21 (by decide) ?_
          refine lv_goto (tgt := 39) hx hb d_M_put_22 (by decide) ?_
          refine t_put (ty := .int) (v := .int 1) hx hb hts inM TM tyM nmM hown hC 0 rfl rfl 0 (by decide) (hts _ w_637) (fun _ h => h) rfl (by decide +kernel) rfl rfl (Nat.le_of_ble_eq_true rfl) d_M_put_39 (fun H locs hC => ?_)
          have hC : tC D cls (ty0 ca) A Z s (wM J ca 1 day (nI ev9) (nI rows.length) M U (nI w9) log lk rest) H locs := hC
          refine lv_aload_n hx hb d_M_put_42 rfl (lv_at hl 0 rfl) ?_
          refine t_get (v := .int 1) hx hb hts inM hown hC 0 rfl rfl 0 (by decide) (hts _ w_637) (fun _ h => h) rfl d_M_put_43 ?_
          refine lv_if_le (tgt := 53) hx hb d_M_put_46 (by decide) (fun c46 => ?_) (fun c46 => ?_)
          · first | exact absurd c46 (by decide) | exact absurd (by decide) c46
          · skip
            refine lv_iconst (v := 0) hx hb d_M_put_49 (by decide) ?_
            refine lv_goto (tgt := 60) hx hb d_M_put_50 (by decide) ?_
            exact t_iret hx hb hr hlk hZc hC (oM_mk (c := 1) (a := 0) (S' := (rows, (log, w9, lk), ev9)) (if_neg (fun h => c18 h.2.2)) (fun h => absurd h (by decide)) hag huA (rfl)) (Nat.le_of_ble_eq_true rfl) (Nat.le_of_ble_eq_true rfl) d_M_put_60

set_option maxRecDepth 100000 in
set_option maxHeartbeats 4000000 in
theorem c_M_mark {l : Launch} {D : va_G} {A : Nat → Prop} {Z : State → Heap → Prop} (hZc : tZ A Z) {J : Nat → Nat} {ca : Nat → ClassId} {code day : Int32} {M U : Nat → Nat → Int32} {log : Nat → Int32} {lk : Int64} {rest : va_W} {k9 : Int32} {rows : List RW} {w9 ev9 : Nat} (hw9 : w9 < 2 ^ 31) (hag : mA rows M) (hPI : PI (rows, (log, w9, lk), ev9)) {Rs : List RW} (huA : uA Rs U) : tM l y_M_mark tb ({ frames := 2, cells := 0, slots := 0, locals := 49 }) D cls (ty0 ca) A Z [.ref (J 0), .int k9] (wM J ca code day (nI ev9) (nI rows.length) M U (nI w9) log lk rest) (oM J ca (o_mark day k9 (rows, (log, w9, lk), ev9)) day Rs rest) (xN) := by
  refine t_ofW (by decide) w_733 (Nat.le_of_ble_eq_true rfl) ?_
  intro p e s m below meth c ls hx hb hr hts hown hlk hnm hml hex hl hC
  have hown : s.vm.findClass "RetentionVaultModel" = some m.cls := hown
  have hl : lv_has ls 3 [(0, .ref (J 0)), (1, .int k9)] := hl
  have h40 : rows.length ≤ 40 := hPI.1
  have hcu : rw_CurOK rows := hPI.2.1
  refine lv_aload_n hx hb d_M_mark_0 rfl (lv_at hl 0 rfl) ?_
  refine lv_iload_n hx hb d_M_mark_1 rfl (lv_at hl 1 rfl) ?_
  refine t_call (t_invV (As := [.int k9]) (rest := []) hx hb hown (hts _ w_721) (hts _ w_723) (hts _ s_M_currentOf) (hts _ w_724) ⟨by decide, by decide⟩ (t_recv (q0 := 0) hC rfl rfl) rfl d_M_mark_2) (c_M_currentOf hZc hag h40) hZc tb_good hts w_7 hC (hl.1.trans hml.symm) ⟨Nat.le_of_ble_eq_true rfl, Nat.le_of_ble_eq_true rfl, Nat.le_of_ble_eq_true rfl, Nat.le_of_ble_eq_true rfl⟩ (Nat.le_of_ble_eq_true rfl) (fun E q ce w1 H1 l1 hp => hp.elim) (fun v w1 H locs hp hC => ?_)
  obtain ⟨rfl, hwe9⟩ := hp
  rw [hwe9] at hC
  have hC : tC D cls (ty0 ca) A Z s (wM J ca code day (nI ev9) (nI rows.length) M U (nI w9) log lk rest) H locs := hC
  refine W.eq (g2 := F0 m 5 ls [.int (oI (rw_latest rows k9))]) rfl ?_
  rcases op_two (rw_latest rows k9) with hlo | ⟨i, hlo⟩
  · refine W.eq (g2 := F0 m 5 ls [.int (-1)]) (by rw [hlo]; rfl) ?_
    refine lv_istore_n (lv' := [(2, .int (-1)), (0, .ref (J 0)), (1, .int k9)]) hx hb d_M_mark_5 rfl hl (by decide) rfl (fun ls hl => ?_)
    refine lv_aload_n hx hb d_M_mark_6 rfl (lv_at hl 1 rfl) ?_
    refine lv_iload_n hx hb d_M_mark_7 rfl (lv_at hl 0 rfl) ?_
    refine lv_if_lt (tgt := 20) hx hb d_M_mark_8 (by decide) (fun c8 => ?_) (fun c8 => ?_)
    · skip
      refine lv_iconst (v := 1) hx hb d_M_mark_20 (by decide) ?_
      refine lv_goto (tgt := 38) hx hb d_M_mark_21 (by decide) ?_
      refine t_put (ty := .int) (v := .int 1) hx hb hts inM TM tyM nmM hown hC 0 rfl rfl 0 (by decide) (hts _ w_637) (fun _ h => h) rfl (by decide +kernel) rfl rfl (Nat.le_of_ble_eq_true rfl) d_M_mark_38 (fun H locs hC => ?_)
      have hC : tC D cls (ty0 ca) A Z s (wM J ca 1 day (nI ev9) (nI rows.length) M U (nI w9) log lk rest) H locs := hC
      refine lv_aload_n hx hb d_M_mark_41 rfl (lv_at hl 1 rfl) ?_
      refine t_get (v := .int 1) hx hb hts inM hown hC 0 rfl rfl 0 (by decide) (hts _ w_637) (fun _ h => h) rfl d_M_mark_42 ?_
      refine lv_if_le (tgt := 52) hx hb d_M_mark_45 (by decide) (fun c45 => ?_) (fun c45 => ?_)
      · first | exact absurd c45 (by decide) | exact absurd (by decide) c45
      · skip
        refine lv_iconst (v := 0) hx hb d_M_mark_48 (by decide) ?_
        refine lv_goto (tgt := 59) hx hb d_M_mark_49 (by decide) ?_
        exact t_iret hx hb hr hlk hZc hC (oM_mk (c := 1) (a := 0) (S' := (rows, (log, w9, lk), ev9)) (om_none hlo) (fun h => absurd h (by decide)) hag huA (rfl)) (Nat.le_of_ble_eq_true rfl) (Nat.le_of_ble_eq_true rfl) d_M_mark_59
    · first | exact absurd c8 (by decide) | exact absurd (by decide) c8
  · have hi : i < rows.length := (rw_last_some.mp hlo).1
    have hip := nI_pos (n := i) (by omega)
    refine W.eq (g2 := F0 m 5 ls [.int (nI i)]) (by rw [hlo]; rfl) ?_
    refine lv_istore_n (lv' := [(2, .int (nI i)), (0, .ref (J 0)), (1, .int k9)]) hx hb d_M_mark_5 rfl hl (by decide) rfl (fun ls hl => ?_)
    refine lv_aload_n hx hb d_M_mark_6 rfl (lv_at hl 1 rfl) ?_
    refine lv_iload_n hx hb d_M_mark_7 rfl (lv_at hl 0 rfl) ?_
    refine lv_if_lt (tgt := 20) hx hb d_M_mark_8 (by decide) (fun c8 => ?_) (fun c8 => ?_)
    · exact absurd c8 hip
    · skip
      refine lv_aload_n hx hb d_M_mark_11 rfl (lv_at hl 1 rfl) ?_
      refine t_get (v := .ref (J 3)) hx hb hts inM hown hC 0 rfl rfl 6 (by decide) (hts _ w_643) (fun _ h => h) rfl d_M_mark_12 ?_
      refine lv_iload_n hx hb d_M_mark_15 rfl (lv_at hl 0 rfl) ?_
      refine t_ialdN (k := i) hx hb hC 3 0 rfl rfl (by omega) (by decide) d_M_mark_16 ?_
      refine lv_if_ne (tgt := 24) hx hb d_M_mark_17 (by decide) (fun c17 => ?_) (fun c17 => ?_)
      · skip
        refine lv_aload_n hx hb d_M_mark_24 rfl (lv_at hl 1 rfl) ?_
        refine t_get (v := .int (nI rows.length)) hx hb hts inM hown hC 0 rfl rfl 3 (by decide) (hts _ w_640) (fun _ h => h) rfl d_M_mark_25 ?_
        refine lv_bipush (v := 40) hx hb d_M_mark_28 (by decide) ?_
        refine lv_icmp_ne (tgt := 37) hx hb d_M_mark_30 (by decide) (fun c30 => ?_) (fun c30 => ?_)
        · skip
          have hlr : rows.length < 40 := Nat.not_le.mp (fun h => c30 ((n40 h40).mpr h))
          refine lv_iconst (v := 0) hx hb d_M_mark_37 (by decide) ?_
          refine t_put (ty := .int) (v := .int 0) hx hb hts inM TM tyM nmM hown hC 0 rfl rfl 0 (by decide) (hts _ w_637) (fun _ h => h) rfl (by decide +kernel) rfl rfl (Nat.le_of_ble_eq_true rfl) d_M_mark_38 (fun H locs hC => ?_)
          have hC : tC D cls (ty0 ca) A Z s (wM J ca 0 day (nI ev9) (nI rows.length) M U (nI w9) log lk rest) H locs := hC
          refine lv_aload_n hx hb d_M_mark_41 rfl (lv_at hl 1 rfl) ?_
          refine t_get (v := .int 0) hx hb hts inM hown hC 0 rfl rfl 0 (by decide) (hts _ w_637) (fun _ h => h) rfl d_M_mark_42 ?_
          refine lv_if_le (tgt := 52) hx hb d_M_mark_45 (by decide) (fun c45 => ?_) (fun c45 => ?_)
          · skip
            refine lv_aload_n hx hb d_M_mark_52 rfl (lv_at hl 1 rfl) ?_
            refine lv_iload_n hx hb d_M_mark_53 rfl (lv_at hl 2 rfl) ?_
            refine lv_iconst (v := 0) hx hb d_M_mark_54 (by decide) ?_
            refine lv_iconst (v := 0) hx hb d_M_mark_55 (by decide) ?_
            refine t_call (t_invV (As := [.int k9, .int 0, .int 0]) (rest := []) hx hb hown (hts _ w_717) (hts _ w_719) (hts _ s_M_add) (hts _ w_720) ⟨by decide, by decide⟩ (t_recv (q0 := 0) hC rfl rfl) rfl d_M_mark_56) (c_M_addS hZc hw9 hag h40 hlr (row := mkMark (nI ev9) k9 day) ⟨rfl, rfl, rfl, rfl, rfl, (if_neg (by decide)).symm, rfl, rfl, rfl, rfl, rfl, rfl⟩) hZc tb_good hts w_7 hC (hl.1.trans hml.symm) ⟨Nat.le_of_ble_eq_true rfl, Nat.le_of_ble_eq_true rfl, Nat.le_of_ble_eq_true rfl, Nat.le_of_ble_eq_true rfl⟩ (Nat.le_of_ble_eq_true rfl) (fun E q ce w1 H1 l1 hp => hp.elim) (fun v w1 H locs hp hC => ?_)
            obtain ⟨rfl, M2, hmA2, hwe9⟩ := hp
            rw [hwe9] at hC
            skip
            have hC : tC D cls (ty0 ca) A Z s (wM J ca 0 day (nI (p_add day (mkMark (nI ev9) k9 day) (rows, (log, w9, lk), ev9)).2.2) (nI (p_add day (mkMark (nI ev9) k9 day) (rows, (log, w9, lk), ev9)).1.length) M2 U (nI (p_add day (mkMark (nI ev9) k9 day) (rows, (log, w9, lk), ev9)).2.1.2.1) ((p_add day (mkMark (nI ev9) k9 day) (rows, (log, w9, lk), ev9)).2.1.1) ((p_add day (mkMark (nI ev9) k9 day) (rows, (log, w9, lk), ev9)).2.1.2.2) rest) H locs := hC
            refine W.eq (g2 := F0 m 59 ls [.int (nI ev9)]) rfl ?_
            exact t_iret hx hb hr hlk hZc hC (oM_mk (c := 0) (a := nI ev9) (S' := p_mark day k9 (rows, (log, w9, lk), ev9)) (om_ok hlo (fun h => c17 (by rw [hag i hi 3 (by decide) (by decide)]; exact (kO_size (hPI.2.2.1 i hi)).2.mpr h)) (fun h => c30 ((n40 h40).mpr h))) (fun _ => rfl) hmA2 huA (rfl)) (Nat.le_of_ble_eq_true rfl) (Nat.le_of_ble_eq_true rfl) d_M_mark_59
          · first | exact absurd c45 (by decide) | exact absurd (by decide) c45
        · skip
          refine lv_iconst (v := 2) hx hb d_M_mark_33 (by decide) ?_
          refine lv_goto (tgt := 38) hx hb d_M_mark_34 (by decide) ?_
          refine t_put (ty := .int) (v := .int 2) hx hb hts inM TM tyM nmM hown hC 0 rfl rfl 0 (by decide) (hts _ w_637) (fun _ h => h) rfl (by decide +kernel) rfl rfl (Nat.le_of_ble_eq_true rfl) d_M_mark_38 (fun H locs hC => ?_)
          have hC : tC D cls (ty0 ca) A Z s (wM J ca 2 day (nI ev9) (nI rows.length) M U (nI w9) log lk rest) H locs := hC
          refine lv_aload_n hx hb d_M_mark_41 rfl (lv_at hl 1 rfl) ?_
          refine t_get (v := .int 2) hx hb hts inM hown hC 0 rfl rfl 0 (by decide) (hts _ w_637) (fun _ h => h) rfl d_M_mark_42 ?_
          refine lv_if_le (tgt := 52) hx hb d_M_mark_45 (by decide) (fun c45 => ?_) (fun c45 => ?_)
          · first | exact absurd c45 (by decide) | exact absurd (by decide) c45
          · skip
            refine lv_iconst (v := 0) hx hb d_M_mark_48 (by decide) ?_
            refine lv_goto (tgt := 59) hx hb d_M_mark_49 (by decide) ?_
            exact t_iret hx hb hr hlk hZc hC (oM_mk (c := 2) (a := 0) (S' := (rows, (log, w9, lk), ev9)) (om_full hlo (fun h => c17 (by rw [hag i hi 3 (by decide) (by decide)]; exact (kO_size (hPI.2.2.1 i hi)).2.mpr h)) ((n40 h40).mp c30)) (fun h => absurd h (by decide)) hag huA (rfl)) (Nat.le_of_ble_eq_true rfl) (Nat.le_of_ble_eq_true rfl) d_M_mark_59
      · skip
        refine lv_iconst (v := 1) hx hb d_M_mark_20 (by decide) ?_
        refine lv_goto (tgt := 38) hx hb d_M_mark_21 (by decide) ?_
        refine t_put (ty := .int) (v := .int 1) hx hb hts inM TM tyM nmM hown hC 0 rfl rfl 0 (by decide) (hts _ w_637) (fun _ h => h) rfl (by decide +kernel) rfl rfl (Nat.le_of_ble_eq_true rfl) d_M_mark_38 (fun H locs hC => ?_)
        have hC : tC D cls (ty0 ca) A Z s (wM J ca 1 day (nI ev9) (nI rows.length) M U (nI w9) log lk rest) H locs := hC
        refine lv_aload_n hx hb d_M_mark_41 rfl (lv_at hl 1 rfl) ?_
        refine t_get (v := .int 1) hx hb hts inM hown hC 0 rfl rfl 0 (by decide) (hts _ w_637) (fun _ h => h) rfl d_M_mark_42 ?_
        refine lv_if_le (tgt := 52) hx hb d_M_mark_45 (by decide) (fun c45 => ?_) (fun c45 => ?_)
        · first | exact absurd c45 (by decide) | exact absurd (by decide) c45
        · skip
          refine lv_iconst (v := 0) hx hb d_M_mark_48 (by decide) ?_
          refine lv_goto (tgt := 59) hx hb d_M_mark_49 (by decide) ?_
          exact t_iret hx hb hr hlk hZc hC (oM_mk (c := 1) (a := 0) (S' := (rows, (log, w9, lk), ev9)) (om_mk hlo ((kO_size (hPI.2.2.1 i hi)).2.mp (by rw [← hag i hi 3 (by decide) (by decide)]; exact c17))) (fun h => absurd h (by decide)) hag huA (rfl)) (Nat.le_of_ble_eq_true rfl) (Nat.le_of_ble_eq_true rfl) d_M_mark_59

set_option maxRecDepth 100000 in
set_option maxHeartbeats 4000000 in
theorem c_M_current {l : Launch} {D : va_G} {A : Nat → Prop} {Z : State → Heap → Prop} (hZc : tZ A Z) {J : Nat → Nat} {ca : Nat → ClassId} {code day : Int32} {M U : Nat → Nat → Int32} {log : Nat → Int32} {lk : Int64} {rest : va_W} {k9 : Int32} {rows : List RW} {w9 ev9 : Nat} (hw9 : w9 < 2 ^ 31) (hag : mA rows M) (hPI : PI (rows, (log, w9, lk), ev9)) {Rs : List RW} (huA : uA Rs U) : tM l y_M_current tb ({ frames := 1, cells := 0, slots := 0, locals := 23 }) D cls (ty0 ca) A Z [.ref (J 0), .int k9] (wM J ca code day (nI ev9) (nI rows.length) M U (nI w9) log lk rest) (oM J ca (o_current k9 (rows, (log, w9, lk), ev9)) day Rs rest) (xN) := by
  refine t_ofW (by decide) w_813 (Nat.le_of_ble_eq_true rfl) ?_
  intro p e s m below meth c ls hx hb hr hts hown hlk hnm hml hex hl hC
  have hown : s.vm.findClass "RetentionVaultModel" = some m.cls := hown
  have hl : lv_has ls 3 [(0, .ref (J 0)), (1, .int k9)] := hl
  have h40 : rows.length ≤ 40 := hPI.1
  have hcu : rw_CurOK rows := hPI.2.1
  refine lv_aload_n hx hb d_M_current_0 rfl (lv_at hl 0 rfl) ?_
  refine lv_iload_n hx hb d_M_current_1 rfl (lv_at hl 1 rfl) ?_
  refine t_call (t_invV (As := [.int k9]) (rest := []) hx hb hown (hts _ w_721) (hts _ w_723) (hts _ s_M_currentOf) (hts _ w_724) ⟨by decide, by decide⟩ (t_recv (q0 := 0) hC rfl rfl) rfl d_M_current_2) (c_M_currentOf hZc hag h40) hZc tb_good hts w_7 hC (hl.1.trans hml.symm) ⟨Nat.le_of_ble_eq_true rfl, Nat.le_of_ble_eq_true rfl, Nat.le_of_ble_eq_true rfl, Nat.le_of_ble_eq_true rfl⟩ (Nat.le_of_ble_eq_true rfl) (fun E q ce w1 H1 l1 hp => hp.elim) (fun v w1 H locs hp hC => ?_)
  obtain ⟨rfl, hwe9⟩ := hp
  rw [hwe9] at hC
  have hC : tC D cls (ty0 ca) A Z s (wM J ca code day (nI ev9) (nI rows.length) M U (nI w9) log lk rest) H locs := hC
  refine W.eq (g2 := F0 m 5 ls [.int (oI (rw_latest rows k9))]) rfl ?_
  rcases op_two (rw_latest rows k9) with hlo | ⟨i, hlo⟩
  · refine W.eq (g2 := F0 m 5 ls [.int (-1)]) (by rw [hlo]; rfl) ?_
    refine lv_istore_n (lv' := [(2, .int (-1)), (0, .ref (J 0)), (1, .int k9)]) hx hb d_M_current_5 rfl hl (by decide) rfl (fun ls hl => ?_)
    refine lv_aload_n hx hb d_M_current_6 rfl (lv_at hl 1 rfl) ?_
    refine lv_iload_n hx hb d_M_current_7 rfl (lv_at hl 0 rfl) ?_
    refine lv_if_lt (tgt := 20) hx hb d_M_current_8 (by decide) (fun c8 => ?_) (fun c8 => ?_)
    · skip
      refine lv_iconst (v := 1) hx hb d_M_current_20 (by decide) ?_
      refine lv_goto (tgt := 25) hx hb d_M_current_21 (by decide) ?_
      refine t_put (ty := .int) (v := .int 1) hx hb hts inM TM tyM nmM hown hC 0 rfl rfl 0 (by decide) (hts _ w_637) (fun _ h => h) rfl (by decide +kernel) rfl rfl (Nat.le_of_ble_eq_true rfl) d_M_current_25 (fun H locs hC => ?_)
      have hC : tC D cls (ty0 ca) A Z s (wM J ca 1 day (nI ev9) (nI rows.length) M U (nI w9) log lk rest) H locs := hC
      refine lv_aload_n hx hb d_M_current_28 rfl (lv_at hl 1 rfl) ?_
      refine t_get (v := .int 1) hx hb hts inM hown hC 0 rfl rfl 0 (by decide) (hts _ w_637) (fun _ h => h) rfl d_M_current_29 ?_
      refine lv_if_le (tgt := 39) hx hb d_M_current_32 (by decide) (fun c32 => ?_) (fun c32 => ?_)
      · first | exact absurd c32 (by decide) | exact absurd (by decide) c32
      · skip
        refine lv_iconst (v := 0) hx hb d_M_current_35 (by decide) ?_
        refine lv_goto (tgt := 45) hx hb d_M_current_36 (by decide) ?_
        exact t_iret hx hb hr hlk hZc hC (oM_mk (c := 1) (a := 0) (S' := (rows, (log, w9, lk), ev9)) (oc_none hlo) (fun h => absurd h (by decide)) hag huA (rfl)) (Nat.le_of_ble_eq_true rfl) (Nat.le_of_ble_eq_true rfl) d_M_current_45
    · first | exact absurd c8 (by decide) | exact absurd (by decide) c8
  · have hi : i < rows.length := (rw_last_some.mp hlo).1
    have hip := nI_pos (n := i) (by omega)
    refine W.eq (g2 := F0 m 5 ls [.int (nI i)]) (by rw [hlo]; rfl) ?_
    refine lv_istore_n (lv' := [(2, .int (nI i)), (0, .ref (J 0)), (1, .int k9)]) hx hb d_M_current_5 rfl hl (by decide) rfl (fun ls hl => ?_)
    refine lv_aload_n hx hb d_M_current_6 rfl (lv_at hl 1 rfl) ?_
    refine lv_iload_n hx hb d_M_current_7 rfl (lv_at hl 0 rfl) ?_
    refine lv_if_lt (tgt := 20) hx hb d_M_current_8 (by decide) (fun c8 => ?_) (fun c8 => ?_)
    · exact absurd c8 hip
    · skip
      refine lv_aload_n hx hb d_M_current_11 rfl (lv_at hl 1 rfl) ?_
      refine t_get (v := .ref (J 3)) hx hb hts inM hown hC 0 rfl rfl 6 (by decide) (hts _ w_643) (fun _ h => h) rfl d_M_current_12 ?_
      refine lv_iload_n hx hb d_M_current_15 rfl (lv_at hl 0 rfl) ?_
      refine t_ialdN (k := i) hx hb hC 3 0 rfl rfl (by omega) (by decide) d_M_current_16 ?_
      refine lv_if_ne (tgt := 24) hx hb d_M_current_17 (by decide) (fun c17 => ?_) (fun c17 => ?_)
      · skip
        refine lv_iconst (v := 0) hx hb d_M_current_24 (by decide) ?_
        refine t_put (ty := .int) (v := .int 0) hx hb hts inM TM tyM nmM hown hC 0 rfl rfl 0 (by decide) (hts _ w_637) (fun _ h => h) rfl (by decide +kernel) rfl rfl (Nat.le_of_ble_eq_true rfl) d_M_current_25 (fun H locs hC => ?_)
        have hC : tC D cls (ty0 ca) A Z s (wM J ca 0 day (nI ev9) (nI rows.length) M U (nI w9) log lk rest) H locs := hC
        refine lv_aload_n hx hb d_M_current_28 rfl (lv_at hl 1 rfl) ?_
        refine t_get (v := .int 0) hx hb hts inM hown hC 0 rfl rfl 0 (by decide) (hts _ w_637) (fun _ h => h) rfl d_M_current_29 ?_
        refine lv_if_le (tgt := 39) hx hb d_M_current_32 (by decide) (fun c32 => ?_) (fun c32 => ?_)
        · skip
          refine lv_aload_n hx hb d_M_current_39 rfl (lv_at hl 1 rfl) ?_
          refine t_get (v := .ref (J 1)) hx hb hts inM hown hC 0 rfl rfl 4 (by decide) (hts _ w_641) (fun _ h => h) rfl d_M_current_40 ?_
          refine lv_iload_n hx hb d_M_current_43 rfl (lv_at hl 0 rfl) ?_
          refine t_ialdN (k := i) hx hb hC 1 0 rfl rfl (by omega) (by decide) d_M_current_44 ?_
          exact t_iret hx hb hr hlk hZc hC (oM_mk (c := 0) (a := rw_at rows i 0) (S' := (rows, (log, w9, lk), ev9)) (oc_ok hlo (fun h => c17 (by rw [hag i hi 3 (by decide) (by decide)]; exact (kO_size (hPI.2.2.1 i hi)).2.mpr h))) (fun _ => hag i hi 0 (by decide) (by decide)) hag huA (rfl)) (Nat.le_of_ble_eq_true rfl) (Nat.le_of_ble_eq_true rfl) d_M_current_45
        · first | exact absurd c32 (by decide) | exact absurd (by decide) c32
      · skip
        refine lv_iconst (v := 1) hx hb d_M_current_20 (by decide) ?_
        refine lv_goto (tgt := 25) hx hb d_M_current_21 (by decide) ?_
        refine t_put (ty := .int) (v := .int 1) hx hb hts inM TM tyM nmM hown hC 0 rfl rfl 0 (by decide) (hts _ w_637) (fun _ h => h) rfl (by decide +kernel) rfl rfl (Nat.le_of_ble_eq_true rfl) d_M_current_25 (fun H locs hC => ?_)
        have hC : tC D cls (ty0 ca) A Z s (wM J ca 1 day (nI ev9) (nI rows.length) M U (nI w9) log lk rest) H locs := hC
        refine lv_aload_n hx hb d_M_current_28 rfl (lv_at hl 1 rfl) ?_
        refine t_get (v := .int 1) hx hb hts inM hown hC 0 rfl rfl 0 (by decide) (hts _ w_637) (fun _ h => h) rfl d_M_current_29 ?_
        refine lv_if_le (tgt := 39) hx hb d_M_current_32 (by decide) (fun c32 => ?_) (fun c32 => ?_)
        · first | exact absurd c32 (by decide) | exact absurd (by decide) c32
        · skip
          refine lv_iconst (v := 0) hx hb d_M_current_35 (by decide) ?_
          refine lv_goto (tgt := 45) hx hb d_M_current_36 (by decide) ?_
          exact t_iret hx hb hr hlk hZc hC (oM_mk (c := 1) (a := 0) (S' := (rows, (log, w9, lk), ev9)) (oc_mk hlo ((kO_size (hPI.2.2.1 i hi)).2.mp (by rw [← hag i hi 3 (by decide) (by decide)]; exact c17))) (fun h => absurd h (by decide)) hag huA (rfl)) (Nat.le_of_ble_eq_true rfl) (Nat.le_of_ble_eq_true rfl) d_M_current_45

set_option maxRecDepth 100000 in
set_option maxHeartbeats 4000000 in
theorem c_M_erase {l : Launch} {D : va_G} {A : Nat → Prop} {Z : State → Heap → Prop} (hZc : tZ A Z) {J : Nat → Nat} {ca : Nat → ClassId} {code day : Int32} {M U : Nat → Nat → Int32} {log : Nat → Int32} {lk : Int64} {rest : va_W} {v9 fo9 : Int32} {rows : List RW} {w9 ev9 : Nat} (hw9 : w9 < 2 ^ 31) (hag : mA rows M) (hPI : PI (rows, (log, w9, lk), ev9)) {Rs : List RW} (huA : uA Rs U) : tM l y_M_erase tb ({ frames := 2, cells := 0, slots := 0, locals := 47 }) D cls (ty0 ca) A Z [.ref (J 0), .int v9, .int fo9] (wM J ca code day (nI ev9) (nI rows.length) M U (nI w9) log lk rest) (oM J ca (o_erase day v9 fo9 (rows, (log, w9, lk), ev9)) day Rs rest) (xN) := by
  refine t_ofW (by decide) w_737 (Nat.le_of_ble_eq_true rfl) ?_
  intro p e s m below meth c ls hx hb hr hts hown hlk hnm hml hex hl hC
  have hown : s.vm.findClass "RetentionVaultModel" = some m.cls := hown
  have hl : lv_has ls 5 [(0, .ref (J 0)), (1, .int v9), (2, .int fo9)] := hl
  have h40 : rows.length ≤ 40 := hPI.1
  have hcu : rw_CurOK rows := hPI.2.1
  refine lv_aload_n hx hb d_M_erase_0 rfl (lv_at hl 0 rfl) ?_
  refine lv_iload_n hx hb d_M_erase_1 rfl (lv_at hl 1 rfl) ?_
  refine t_call (t_invV (As := [.int v9]) (rest := []) hx hb hown (hts _ w_738) (hts _ w_740) (hts _ s_M_find) (hts _ w_741) ⟨by decide, by decide⟩ (t_recv (q0 := 0) hC rfl rfl) rfl d_M_erase_2) (c_M_find hZc hag h40) hZc tb_good hts w_7 hC (hl.1.trans hml.symm) ⟨Nat.le_of_ble_eq_true rfl, Nat.le_of_ble_eq_true rfl, Nat.le_of_ble_eq_true rfl, Nat.le_of_ble_eq_true rfl⟩ (Nat.le_of_ble_eq_true rfl) (fun E q ce w1 H1 l1 hp => hp.elim) (fun v w1 H locs hp hC => ?_)
  obtain ⟨rfl, hwe9⟩ := hp
  rw [hwe9] at hC
  have hC : tC D cls (ty0 ca) A Z s (wM J ca code day (nI ev9) (nI rows.length) M U (nI w9) log lk rest) H locs := hC
  refine W.eq (g2 := F0 m 5 ls [.int (oI (rw_lastN rows v9 rows.length))]) rfl ?_
  rcases op_two (rw_lastN rows v9 rows.length) with hlo | ⟨i, hlo⟩
  · refine W.eq (g2 := F0 m 5 ls [.int (-1)]) (by rw [hlo]; rfl) ?_
    refine lv_istore_n (lv' := [(3, .int (-1)), (0, .ref (J 0)), (1, .int v9), (2, .int fo9)]) hx hb d_M_erase_5 rfl hl (by decide) rfl (fun ls hl => ?_)
    refine lv_aload_n hx hb d_M_erase_6 rfl (lv_at hl 1 rfl) ?_
    refine lv_iload_n hx hb d_M_erase_7 rfl (lv_at hl 0 rfl) ?_
    refine lv_if_ge (tgt := 15) hx hb d_M_erase_8 (by decide) (fun c8 => ?_) (fun c8 => ?_)
    · first | exact absurd c8 (by decide) | exact absurd (by decide) c8
    · skip
      refine lv_iconst (v := 1) hx hb d_M_erase_11 (by decide) ?_
      refine lv_goto (tgt := 50) hx hb d_M_erase_12 (by decide) ?_
      refine t_put (ty := .int) (v := .int 1) hx hb hts inM TM tyM nmM hown hC 0 rfl rfl 0 (by decide) (hts _ w_637) (fun _ h => h) rfl (by decide +kernel) rfl rfl (Nat.le_of_ble_eq_true rfl) d_M_erase_50 (fun H locs hC => ?_)
      have hC : tC D cls (ty0 ca) A Z s (wM J ca 1 day (nI ev9) (nI rows.length) M U (nI w9) log lk rest) H locs := hC
      refine lv_aload_n hx hb d_M_erase_53 rfl (lv_at hl 1 rfl) ?_
      refine t_get (v := .int 1) hx hb hts inM hown hC 0 rfl rfl 0 (by decide) (hts _ w_637) (fun _ h => h) rfl d_M_erase_54 ?_
      refine lv_if_le (tgt := 62) hx hb d_M_erase_57 (by decide) (fun c57 => ?_) (fun c57 => ?_)
      · first | exact absurd c57 (by decide) | exact absurd (by decide) c57
      · skip
        refine lv_iconst (v := 0) hx hb d_M_erase_60 (by decide) ?_
        exact t_iret hx hb hr hlk hZc hC (oM_mk (c := 1) (a := 0) (S' := (rows, (log, w9, lk), ev9)) (oe_none hlo) (fun h => absurd h (by decide)) hag huA (rfl)) (Nat.le_of_ble_eq_true rfl) (Nat.le_of_ble_eq_true rfl) d_M_erase_61
  · have hi : i < rows.length := (rw_lastN_lt hlo).1
    have hip := nI_pos (n := i) (by omega)
    refine W.eq (g2 := F0 m 5 ls [.int (nI i)]) (by rw [hlo]; rfl) ?_
    refine lv_istore_n (lv' := [(3, .int (nI i)), (0, .ref (J 0)), (1, .int v9), (2, .int fo9)]) hx hb d_M_erase_5 rfl hl (by decide) rfl (fun ls hl => ?_)
    refine lv_aload_n hx hb d_M_erase_6 rfl (lv_at hl 1 rfl) ?_
    refine lv_iload_n hx hb d_M_erase_7 rfl (lv_at hl 0 rfl) ?_
    refine lv_if_ge (tgt := 15) hx hb d_M_erase_8 (by decide) (fun c8 => ?_) (fun c8 => ?_)
    · skip
      refine lv_aload_n hx hb d_M_erase_15 rfl (lv_at hl 1 rfl) ?_
      refine t_get (v := .ref (J 10)) hx hb hts inM hown hC 0 rfl rfl 13 (by decide) (hts _ w_650) (fun _ h => h) rfl d_M_erase_16 ?_
      refine lv_iload_n hx hb d_M_erase_19 rfl (lv_at hl 0 rfl) ?_
      refine t_ialdN (k := i) hx hb hC 10 0 rfl rfl (by omega) (by decide) d_M_erase_20 ?_
      refine lv_if_ne (tgt := 45) hx hb d_M_erase_21 (by decide) (fun c21 => ?_) (fun c21 => ?_)
      · skip
        refine lv_iconst (v := 2) hx hb d_M_erase_45 (by decide) ?_
        refine lv_goto (tgt := 50) hx hb d_M_erase_46 (by decide) ?_
        refine t_put (ty := .int) (v := .int 2) hx hb hts inM TM tyM nmM hown hC 0 rfl rfl 0 (by decide) (hts _ w_637) (fun _ h => h) rfl (by decide +kernel) rfl rfl (Nat.le_of_ble_eq_true rfl) d_M_erase_50 (fun H locs hC => ?_)
        have hC : tC D cls (ty0 ca) A Z s (wM J ca 2 day (nI ev9) (nI rows.length) M U (nI w9) log lk rest) H locs := hC
        refine lv_aload_n hx hb d_M_erase_53 rfl (lv_at hl 1 rfl) ?_
        refine t_get (v := .int 2) hx hb hts inM hown hC 0 rfl rfl 0 (by decide) (hts _ w_637) (fun _ h => h) rfl d_M_erase_54 ?_
        refine lv_if_le (tgt := 62) hx hb d_M_erase_57 (by decide) (fun c57 => ?_) (fun c57 => ?_)
        · first | exact absurd c57 (by decide) | exact absurd (by decide) c57
        · skip
          refine lv_iconst (v := 0) hx hb d_M_erase_60 (by decide) ?_
          exact t_iret hx hb hr hlk hZc hC (oM_mk (c := 2) (a := 0) (S' := (rows, (log, w9, lk), ev9)) (oe_grd hlo (Or.inl (by rw [← hag i hi 10 (by decide) (by decide)]; exact c21))) (fun h => absurd h (by decide)) hag huA (rfl)) (Nat.le_of_ble_eq_true rfl) (Nat.le_of_ble_eq_true rfl) d_M_erase_61
      · skip
        refine lv_aload_n hx hb d_M_erase_24 rfl (lv_at hl 1 rfl) ?_
        refine lv_iload_n hx hb d_M_erase_25 rfl (lv_at hl 0 rfl) ?_
        refine t_call (t_invV (As := [.int (nI i)]) (rest := [.ref (J 0)]) hx hb hown (hts _ w_742) (hts _ w_744) (hts _ s_M_isRetained) (hts _ w_745) ⟨by decide, by decide⟩ (t_recv (q0 := 0) hC rfl rfl) rfl d_M_erase_26) (c_M_isRetained hZc hag h40 hi) hZc tb_good hts w_7 hC (hl.1.trans hml.symm) ⟨Nat.le_of_ble_eq_true rfl, Nat.le_of_ble_eq_true rfl, Nat.le_of_ble_eq_true rfl, Nat.le_of_ble_eq_true rfl⟩ (Nat.le_of_ble_eq_true rfl) (fun E q ce w1 H1 l1 hp => hp.elim) (fun v w1 H locs hp hC => ?_)
        obtain ⟨rfl, hwe9⟩ := hp
        rw [hwe9] at hC
        have hC : tC D cls (ty0 ca) A Z s (wM J ca code day (nI ev9) (nI rows.length) M U (nI w9) log lk rest) H locs := hC
        refine W.eq (g2 := F0 m 29 ls [.int (bI (day < rw_at rows i 8)), .ref (J 0)]) rfl ?_
        refine lv_if_eq (tgt := 49) hx hb d_M_erase_29 (by decide) (fun c29 => ?_) (fun c29 => ?_)
        · skip
          refine lv_iconst (v := 0) hx hb d_M_erase_49 (by decide) ?_
          refine t_put (ty := .int) (v := .int 0) hx hb hts inM TM tyM nmM hown hC 0 rfl rfl 0 (by decide) (hts _ w_637) (fun _ h => h) rfl (by decide +kernel) rfl rfl (Nat.le_of_ble_eq_true rfl) d_M_erase_50 (fun H locs hC => ?_)
          have hC : tC D cls (ty0 ca) A Z s (wM J ca 0 day (nI ev9) (nI rows.length) M U (nI w9) log lk rest) H locs := hC
          refine lv_aload_n hx hb d_M_erase_53 rfl (lv_at hl 1 rfl) ?_
          refine t_get (v := .int 0) hx hb hts inM hown hC 0 rfl rfl 0 (by decide) (hts _ w_637) (fun _ h => h) rfl d_M_erase_54 ?_
          refine lv_if_le (tgt := 62) hx hb d_M_erase_57 (by decide) (fun c57 => ?_) (fun c57 => ?_)
          · skip
            refine lv_aload_n hx hb d_M_erase_62 rfl (lv_at hl 1 rfl) ?_
            refine t_get (v := .ref (J 2)) hx hb hts inM hown hC 0 rfl rfl 5 (by decide) (hts _ w_642) (fun _ h => h) rfl d_M_erase_63 ?_
            refine lv_iload_n hx hb d_M_erase_66 rfl (lv_at hl 0 rfl) ?_
            refine t_ialdN (k := i) hx hb hC 2 0 rfl rfl (by omega) (by decide) d_M_erase_67 ?_
            refine lv_istore (lv' := [(4, .int (M 1 i)), (3, .int (nI i)), (0, .ref (J 0)), (1, .int v9), (2, .int fo9)]) hx hb d_M_erase_68 hl (by decide) rfl (fun ls hl => ?_)
            refine lv_aload_n hx hb d_M_erase_70 rfl (lv_at hl 2 rfl) ?_
            refine lv_iload_n hx hb d_M_erase_71 rfl (lv_at hl 1 rfl) ?_
            refine t_call (t_invV (As := [.int (nI i)]) (rest := []) hx hb hown (hts _ w_746) (hts _ w_748) (hts _ s_M_takeAway) (hts _ w_749) ⟨by decide, by decide⟩ (t_recv (q0 := 0) hC rfl rfl) rfl d_M_erase_72) (c_M_takeAwayS hZc hw9 hag h40 hi hPI.2.2.1) hZc tb_good hts w_7 hC (hl.1.trans hml.symm) ⟨Nat.le_of_ble_eq_true rfl, Nat.le_of_ble_eq_true rfl, Nat.le_of_ble_eq_true rfl, Nat.le_of_ble_eq_true rfl⟩ (Nat.le_of_ble_eq_true rfl) (fun E q ce w1 H1 l1 hp => hp.elim) (fun v w1 H locs hp hC => ?_)
            obtain ⟨rfl, M2, hmA2, hwe9⟩ := hp
            rw [hwe9] at hC
            skip
            have hC : tC D cls (ty0 ca) A Z s (wM J ca 0 day (nI (p_take day i (rows, (log, w9, lk), ev9)).2.2) (nI (p_take day i (rows, (log, w9, lk), ev9)).1.length) M2 U (nI (p_take day i (rows, (log, w9, lk), ev9)).2.1.2.1) ((p_take day i (rows, (log, w9, lk), ev9)).2.1.1) ((p_take day i (rows, (log, w9, lk), ev9)).2.1.2.2) rest) H locs := hC
            refine W.eq (g2 := F0 m 75 ls []) rfl ?_
            refine lv_iload hx hb d_M_erase_75 (lv_at hl 0 rfl) ?_
            exact t_iret hx hb hr hlk hZc hC (oM_mk (c := 0) (a := rw_at rows i 1) (S' := p_take day i (rows, (log, w9, lk), ev9)) (oe_ok hlo (fun h => h.elim (fun q => q (by rw [← hag i hi 10 (by decide) (by decide)]; exact c21)) (fun q => bI_ne.mp c29 q.1))) (fun _ => hag i hi 1 (by decide) (by decide)) hmA2 huA (rfl)) (Nat.le_of_ble_eq_true rfl) (Nat.le_of_ble_eq_true rfl) d_M_erase_77
          · first | exact absurd c57 (by decide) | exact absurd (by decide) c57
        · skip
          refine lv_aload_n hx hb d_M_erase_32 rfl (lv_at hl 1 rfl) ?_
          refine t_get (v := .ref (J 9)) hx hb hts inM hown hC 0 rfl rfl 12 (by decide) (hts _ w_649) (fun _ h => h) rfl d_M_erase_33 ?_
          refine lv_iload_n hx hb d_M_erase_36 rfl (lv_at hl 0 rfl) ?_
          refine t_zaldN (k := i) hx hb hC 9 1 rfl rfl (by omega) (by decide) d_M_erase_37 ?_
          refine lv_if_ne (tgt := 45) hx hb d_M_erase_38 (by decide) (fun c38 => ?_) (fun c38 => ?_)
          · skip
            refine lv_iconst (v := 2) hx hb d_M_erase_45 (by decide) ?_
            refine lv_goto (tgt := 50) hx hb d_M_erase_46 (by decide) ?_
            refine t_put (ty := .int) (v := .int 2) hx hb hts inM TM tyM nmM hown hC 0 rfl rfl 0 (by decide) (hts _ w_637) (fun _ h => h) rfl (by decide +kernel) rfl rfl (Nat.le_of_ble_eq_true rfl) d_M_erase_50 (fun H locs hC => ?_)
            have hC : tC D cls (ty0 ca) A Z s (wM J ca 2 day (nI ev9) (nI rows.length) M U (nI w9) log lk rest) H locs := hC
            refine lv_aload_n hx hb d_M_erase_53 rfl (lv_at hl 1 rfl) ?_
            refine t_get (v := .int 2) hx hb hts inM hown hC 0 rfl rfl 0 (by decide) (hts _ w_637) (fun _ h => h) rfl d_M_erase_54 ?_
            refine lv_if_le (tgt := 62) hx hb d_M_erase_57 (by decide) (fun c57 => ?_) (fun c57 => ?_)
            · first | exact absurd c57 (by decide) | exact absurd (by decide) c57
            · skip
              refine lv_iconst (v := 0) hx hb d_M_erase_60 (by decide) ?_
              exact t_iret hx hb hr hlk hZc hC (oM_mk (c := 2) (a := 0) (S' := (rows, (log, w9, lk), ev9)) (oe_grd hlo (Or.inr ⟨Classical.not_not.mp (fun q => c29 (bI_ne.mpr q)), Or.inl (by rw [← hag i hi 9 (by decide) (by decide)]; exact c38)⟩)) (fun h => absurd h (by decide)) hag huA (rfl)) (Nat.le_of_ble_eq_true rfl) (Nat.le_of_ble_eq_true rfl) d_M_erase_61
          · skip
            refine lv_iload_n hx hb d_M_erase_41 rfl (lv_at hl 3 rfl) ?_
            refine lv_if_ne (tgt := 49) hx hb d_M_erase_42 (by decide) (fun c42 => ?_) (fun c42 => ?_)
            · skip
              refine lv_iconst (v := 0) hx hb d_M_erase_49 (by decide) ?_
              refine t_put (ty := .int) (v := .int 0) hx hb hts inM TM tyM nmM hown hC 0 rfl rfl 0 (by decide) (hts _ w_637) (fun _ h => h) rfl (by decide +kernel) rfl rfl (Nat.le_of_ble_eq_true rfl) d_M_erase_50 (fun H locs hC => ?_)
              have hC : tC D cls (ty0 ca) A Z s (wM J ca 0 day (nI ev9) (nI rows.length) M U (nI w9) log lk rest) H locs := hC
              refine lv_aload_n hx hb d_M_erase_53 rfl (lv_at hl 1 rfl) ?_
              refine t_get (v := .int 0) hx hb hts inM hown hC 0 rfl rfl 0 (by decide) (hts _ w_637) (fun _ h => h) rfl d_M_erase_54 ?_
              refine lv_if_le (tgt := 62) hx hb d_M_erase_57 (by decide) (fun c57 => ?_) (fun c57 => ?_)
              · skip
                refine lv_aload_n hx hb d_M_erase_62 rfl (lv_at hl 1 rfl) ?_
                refine t_get (v := .ref (J 2)) hx hb hts inM hown hC 0 rfl rfl 5 (by decide) (hts _ w_642) (fun _ h => h) rfl d_M_erase_63 ?_
                refine lv_iload_n hx hb d_M_erase_66 rfl (lv_at hl 0 rfl) ?_
                refine t_ialdN (k := i) hx hb hC 2 0 rfl rfl (by omega) (by decide) d_M_erase_67 ?_
                refine lv_istore (lv' := [(4, .int (M 1 i)), (3, .int (nI i)), (0, .ref (J 0)), (1, .int v9), (2, .int fo9)]) hx hb d_M_erase_68 hl (by decide) rfl (fun ls hl => ?_)
                refine lv_aload_n hx hb d_M_erase_70 rfl (lv_at hl 2 rfl) ?_
                refine lv_iload_n hx hb d_M_erase_71 rfl (lv_at hl 1 rfl) ?_
                refine t_call (t_invV (As := [.int (nI i)]) (rest := []) hx hb hown (hts _ w_746) (hts _ w_748) (hts _ s_M_takeAway) (hts _ w_749) ⟨by decide, by decide⟩ (t_recv (q0 := 0) hC rfl rfl) rfl d_M_erase_72) (c_M_takeAwayS hZc hw9 hag h40 hi hPI.2.2.1) hZc tb_good hts w_7 hC (hl.1.trans hml.symm) ⟨Nat.le_of_ble_eq_true rfl, Nat.le_of_ble_eq_true rfl, Nat.le_of_ble_eq_true rfl, Nat.le_of_ble_eq_true rfl⟩ (Nat.le_of_ble_eq_true rfl) (fun E q ce w1 H1 l1 hp => hp.elim) (fun v w1 H locs hp hC => ?_)
                obtain ⟨rfl, M2, hmA2, hwe9⟩ := hp
                rw [hwe9] at hC
                skip
                have hC : tC D cls (ty0 ca) A Z s (wM J ca 0 day (nI (p_take day i (rows, (log, w9, lk), ev9)).2.2) (nI (p_take day i (rows, (log, w9, lk), ev9)).1.length) M2 U (nI (p_take day i (rows, (log, w9, lk), ev9)).2.1.2.1) ((p_take day i (rows, (log, w9, lk), ev9)).2.1.1) ((p_take day i (rows, (log, w9, lk), ev9)).2.1.2.2) rest) H locs := hC
                refine W.eq (g2 := F0 m 75 ls []) rfl ?_
                refine lv_iload hx hb d_M_erase_75 (lv_at hl 0 rfl) ?_
                exact t_iret hx hb hr hlk hZc hC (oM_mk (c := 0) (a := rw_at rows i 1) (S' := p_take day i (rows, (log, w9, lk), ev9)) (oe_ok hlo (fun h => h.elim (fun q => q (by rw [← hag i hi 10 (by decide) (by decide)]; exact c21)) (fun q => q.2.elim (fun z => z (by rw [← hag i hi 9 (by decide) (by decide)]; exact c38)) c42))) (fun _ => hag i hi 1 (by decide) (by decide)) hmA2 huA (rfl)) (Nat.le_of_ble_eq_true rfl) (Nat.le_of_ble_eq_true rfl) d_M_erase_77
              · first | exact absurd c57 (by decide) | exact absurd (by decide) c57
            · skip
              refine lv_iconst (v := 2) hx hb d_M_erase_45 (by decide) ?_
              refine lv_goto (tgt := 50) hx hb d_M_erase_46 (by decide) ?_
              refine t_put (ty := .int) (v := .int 2) hx hb hts inM TM tyM nmM hown hC 0 rfl rfl 0 (by decide) (hts _ w_637) (fun _ h => h) rfl (by decide +kernel) rfl rfl (Nat.le_of_ble_eq_true rfl) d_M_erase_50 (fun H locs hC => ?_)
              have hC : tC D cls (ty0 ca) A Z s (wM J ca 2 day (nI ev9) (nI rows.length) M U (nI w9) log lk rest) H locs := hC
              refine lv_aload_n hx hb d_M_erase_53 rfl (lv_at hl 1 rfl) ?_
              refine t_get (v := .int 2) hx hb hts inM hown hC 0 rfl rfl 0 (by decide) (hts _ w_637) (fun _ h => h) rfl d_M_erase_54 ?_
              refine lv_if_le (tgt := 62) hx hb d_M_erase_57 (by decide) (fun c57 => ?_) (fun c57 => ?_)
              · first | exact absurd c57 (by decide) | exact absurd (by decide) c57
              · skip
                refine lv_iconst (v := 0) hx hb d_M_erase_60 (by decide) ?_
                exact t_iret hx hb hr hlk hZc hC (oM_mk (c := 2) (a := 0) (S' := (rows, (log, w9, lk), ev9)) (oe_grd hlo (Or.inr ⟨Classical.not_not.mp (fun q => c29 (bI_ne.mpr q)), Or.inr c42⟩)) (fun h => absurd h (by decide)) hag huA (rfl)) (Nat.le_of_ble_eq_true rfl) (Nat.le_of_ble_eq_true rfl) d_M_erase_61
    · exact absurd (Int32.not_lt.mp hip) c8

set_option maxRecDepth 100000 in
set_option maxHeartbeats 4000000 in
theorem c_M_retain {l : Launch} {D : va_G} {A : Nat → Prop} {Z : State → Heap → Prop} (hZc : tZ A Z) {J : Nat → Nat} {ca : Nat → ClassId} {code day : Int32} {M U : Nat → Nat → Int32} {log : Nat → Int32} {lk : Int64} {rest : va_W} {v9 days st9 : Int32} (hb01 : st9 = 0 ∨ st9 = 1) {rows : List RW} {w9 ev9 : Nat} (hw9 : w9 < 2 ^ 31) (hag : mA rows M) (hPI : PI (rows, (log, w9, lk), ev9)) {Rs : List RW} (huA : uA Rs U) : tM l y_M_retain tb ({ frames := 2, cells := 0, slots := 0, locals := 45 }) D cls (ty0 ca) A Z [.ref (J 0), .int v9, .int days, .int st9] (wM J ca code day (nI ev9) (nI rows.length) M U (nI w9) log lk rest) (oN J ca (o_retain day v9 days st9 (rows, (log, w9, lk), ev9)) day Rs rest) (xN) := by
  refine t_ofW (by decide) w_753 (Nat.le_of_ble_eq_true rfl) ?_
  intro p e s m below meth c ls hx hb hr hts hown hlk hnm hml hex hl hC
  have hown : s.vm.findClass "RetentionVaultModel" = some m.cls := hown
  have hl : lv_has ls 5 [(0, .ref (J 0)), (1, .int v9), (2, .int days), (3, .int st9)] := hl
  have h40 : rows.length ≤ 40 := hPI.1
  have hcu : rw_CurOK rows := hPI.2.1
  refine lv_aload_n hx hb d_M_retain_0 rfl (lv_at hl 0 rfl) ?_
  refine lv_iload_n hx hb d_M_retain_1 rfl (lv_at hl 1 rfl) ?_
  refine t_call (t_invV (As := [.int v9]) (rest := []) hx hb hown (hts _ w_754) (hts _ w_756) (hts _ s_M_object) (hts _ w_757) ⟨by decide, by decide⟩ (t_recv (q0 := 0) hC rfl rfl) rfl d_M_retain_2) (c_M_object hZc hag h40) hZc tb_good hts w_7 hC (hl.1.trans hml.symm) ⟨Nat.le_of_ble_eq_true rfl, Nat.le_of_ble_eq_true rfl, Nat.le_of_ble_eq_true rfl, Nat.le_of_ble_eq_true rfl⟩ (Nat.le_of_ble_eq_true rfl) (fun E q ce w1 H1 l1 hp => hp.elim) (fun v w1 H locs hp hC => ?_)
  obtain ⟨rfl, hwe9⟩ := hp
  rw [hwe9] at hC
  have hC : tC D cls (ty0 ca) A Z s (wM J ca code day (nI ev9) (nI rows.length) M U (nI w9) log lk rest) H locs := hC
  refine W.eq (g2 := F0 m 5 ls [.int (oI (rw_obj rows v9))]) rfl ?_
  rcases op_two (rw_obj rows v9) with hlo | ⟨i, hlo⟩
  · refine W.eq (g2 := F0 m 5 ls [.int (-1)]) (by rw [hlo]; rfl) ?_
    refine lv_istore (lv' := [(4, .int (-1)), (0, .ref (J 0)), (1, .int v9), (2, .int days), (3, .int st9)]) hx hb d_M_retain_5 hl (by decide) rfl (fun ls hl => ?_)
    refine lv_aload_n hx hb d_M_retain_7 rfl (lv_at hl 1 rfl) ?_
    refine lv_iload hx hb d_M_retain_8 (lv_at hl 0 rfl) ?_
    refine lv_if_ge (tgt := 17) hx hb d_M_retain_10 (by decide) (fun c10 => ?_) (fun c10 => ?_)
    · first | exact absurd c10 (by decide) | exact absurd (by decide) c10
    · skip
      refine lv_iconst (v := 1) hx hb d_M_retain_13 (by decide) ?_
      refine lv_goto (tgt := 33) hx hb d_M_retain_14 (by decide) ?_
      refine t_put (ty := .int) (v := .int 1) hx hb hts inM TM tyM nmM hown hC 0 rfl rfl 0 (by decide) (hts _ w_637) (fun _ h => h) rfl (by decide +kernel) rfl rfl (Nat.le_of_ble_eq_true rfl) d_M_retain_33 (fun H locs hC => ?_)
      have hC : tC D cls (ty0 ca) A Z s (wM J ca 1 day (nI ev9) (nI rows.length) M U (nI w9) log lk rest) H locs := hC
      refine lv_aload_n hx hb d_M_retain_36 rfl (lv_at hl 1 rfl) ?_
      refine t_get (v := .int 1) hx hb hts inM hown hC 0 rfl rfl 0 (by decide) (hts _ w_637) (fun _ h => h) rfl d_M_retain_37 ?_
      refine lv_if_ne (tgt := 87) hx hb d_M_retain_40 (by decide) (fun c40 => ?_) (fun c40 => ?_)
      · skip
        refine lv_aload_n hx hb d_M_retain_87 rfl (lv_at hl 1 rfl) ?_
        refine t_get (v := .int 1) hx hb hts inM hown hC 0 rfl rfl 0 (by decide) (hts _ w_637) (fun _ h => h) rfl d_M_retain_88 ?_
        refine lv_if_ne (tgt := 128) hx hb d_M_retain_91 (by decide) (fun c91 => ?_) (fun c91 => ?_)
        · skip
          exact t_vret hx hb hr hlk hZc hC (oN_mk (c := 1) (a := 0) (S' := (rows, (log, w9, lk), ev9)) (or_none hlo) hag huA (rfl)) (Nat.le_of_ble_eq_true rfl) (Nat.le_of_ble_eq_true rfl) d_M_retain_128
        · first | exact absurd c91 (by decide) | exact absurd (by decide) c91
      · first | exact absurd c40 (by decide) | exact absurd (by decide) c40
  · have hi : i < rows.length := rw_obj_lt hlo
    have hip := nI_pos (n := i) (by omega)
    refine W.eq (g2 := F0 m 5 ls [.int (nI i)]) (by rw [hlo]; rfl) ?_
    refine lv_istore (lv' := [(4, .int (nI i)), (0, .ref (J 0)), (1, .int v9), (2, .int days), (3, .int st9)]) hx hb d_M_retain_5 hl (by decide) rfl (fun ls hl => ?_)
    refine lv_aload_n hx hb d_M_retain_7 rfl (lv_at hl 1 rfl) ?_
    refine lv_iload hx hb d_M_retain_8 (lv_at hl 0 rfl) ?_
    refine lv_if_ge (tgt := 17) hx hb d_M_retain_10 (by decide) (fun c10 => ?_) (fun c10 => ?_)
    · skip
      refine lv_iload_n hx hb d_M_retain_17 rfl (lv_at hl 3 rfl) ?_
      refine lv_if_lt (tgt := 28) hx hb d_M_retain_18 (by decide) (fun c18 => ?_) (fun c18 => ?_)
      · skip
        refine lv_iconst (v := 2) hx hb d_M_retain_28 (by decide) ?_
        refine lv_goto (tgt := 33) hx hb d_M_retain_29 (by decide) ?_
        refine t_put (ty := .int) (v := .int 2) hx hb hts inM TM tyM nmM hown hC 0 rfl rfl 0 (by decide) (hts _ w_637) (fun _ h => h) rfl (by decide +kernel) rfl rfl (Nat.le_of_ble_eq_true rfl) d_M_retain_33 (fun H locs hC => ?_)
        have hC : tC D cls (ty0 ca) A Z s (wM J ca 2 day (nI ev9) (nI rows.length) M U (nI w9) log lk rest) H locs := hC
        refine lv_aload_n hx hb d_M_retain_36 rfl (lv_at hl 1 rfl) ?_
        refine t_get (v := .int 2) hx hb hts inM hown hC 0 rfl rfl 0 (by decide) (hts _ w_637) (fun _ h => h) rfl d_M_retain_37 ?_
        refine lv_if_ne (tgt := 87) hx hb d_M_retain_40 (by decide) (fun c40 => ?_) (fun c40 => ?_)
        · skip
          refine lv_aload_n hx hb d_M_retain_87 rfl (lv_at hl 1 rfl) ?_
          refine t_get (v := .int 2) hx hb hts inM hown hC 0 rfl rfl 0 (by decide) (hts _ w_637) (fun _ h => h) rfl d_M_retain_88 ?_
          refine lv_if_ne (tgt := 128) hx hb d_M_retain_91 (by decide) (fun c91 => ?_) (fun c91 => ?_)
          · skip
            exact t_vret hx hb hr hlk hZc hC (oN_mk (c := 2) (a := 0) (S' := (rows, (log, w9, lk), ev9)) (or_bad hlo (fun h => absurd h.1 (Int32.not_le.mpr c18))) hag huA (rfl)) (Nat.le_of_ble_eq_true rfl) (Nat.le_of_ble_eq_true rfl) d_M_retain_128
          · first | exact absurd c91 (by decide) | exact absurd (by decide) c91
        · first | exact absurd c40 (by decide) | exact absurd (by decide) c40
      · skip
        refine lv_iload_n hx hb d_M_retain_21 rfl (lv_at hl 3 rfl) ?_
        refine lv_sipush (v := 10000) hx hb d_M_retain_22 (by decide) ?_
        refine lv_icmp_le (tgt := 32) hx hb d_M_retain_25 (by decide) (fun c25 => ?_) (fun c25 => ?_)
        · skip
          refine lv_iconst (v := 0) hx hb d_M_retain_32 (by decide) ?_
          refine t_put (ty := .int) (v := .int 0) hx hb hts inM TM tyM nmM hown hC 0 rfl rfl 0 (by decide) (hts _ w_637) (fun _ h => h) rfl (by decide +kernel) rfl rfl (Nat.le_of_ble_eq_true rfl) d_M_retain_33 (fun H locs hC => ?_)
          have hC : tC D cls (ty0 ca) A Z s (wM J ca 0 day (nI ev9) (nI rows.length) M U (nI w9) log lk rest) H locs := hC
          refine lv_aload_n hx hb d_M_retain_36 rfl (lv_at hl 1 rfl) ?_
          refine t_get (v := .int 0) hx hb hts inM hown hC 0 rfl rfl 0 (by decide) (hts _ w_637) (fun _ h => h) rfl d_M_retain_37 ?_
          refine lv_if_ne (tgt := 87) hx hb d_M_retain_40 (by decide) (fun c40 => ?_) (fun c40 => ?_)
          · first | exact absurd c40 (by decide) | exact absurd (by decide) c40
          · skip
            refine lv_aload_n hx hb d_M_retain_43 rfl (lv_at hl 1 rfl) ?_
            refine lv_iload hx hb d_M_retain_44 (lv_at hl 0 rfl) ?_
            refine t_call (t_invV (As := [.int (nI i)]) (rest := []) hx hb hown (hts _ w_742) (hts _ w_744) (hts _ s_M_isRetained) (hts _ w_745) ⟨by decide, by decide⟩ (t_recv (q0 := 0) hC rfl rfl) rfl d_M_retain_46) (c_M_isRetained hZc hag h40 hi) hZc tb_good hts w_7 hC (hl.1.trans hml.symm) ⟨Nat.le_of_ble_eq_true rfl, Nat.le_of_ble_eq_true rfl, Nat.le_of_ble_eq_true rfl, Nat.le_of_ble_eq_true rfl⟩ (Nat.le_of_ble_eq_true rfl) (fun E q ce w1 H1 l1 hp => hp.elim) (fun v w1 H locs hp hC => ?_)
            obtain ⟨rfl, hwe9⟩ := hp
            rw [hwe9] at hC
            have hC : tC D cls (ty0 ca) A Z s (wM J ca 0 day (nI ev9) (nI rows.length) M U (nI w9) log lk rest) H locs := hC
            refine W.eq (g2 := F0 m 49 ls [.int (bI (day < rw_at rows i 8))]) rfl ?_
            refine lv_if_eq (tgt := 87) hx hb d_M_retain_49 (by decide) (fun c49 => ?_) (fun c49 => ?_)
            · skip
              refine lv_aload_n hx hb d_M_retain_87 rfl (lv_at hl 1 rfl) ?_
              refine t_get (v := .int 0) hx hb hts inM hown hC 0 rfl rfl 0 (by decide) (hts _ w_637) (fun _ h => h) rfl d_M_retain_88 ?_
              refine lv_if_ne (tgt := 128) hx hb d_M_retain_91 (by decide) (fun c91 => ?_) (fun c91 => ?_)
              · first | exact absurd c91 (by decide) | exact absurd (by decide) c91
              · skip
                refine lv_aload_n hx hb d_M_retain_94 rfl (lv_at hl 1 rfl) ?_
                refine t_get (v := .ref (J 8)) hx hb hts inM hown hC 0 rfl rfl 11 (by decide) (hts _ w_648) (fun _ h => h) rfl d_M_retain_95 ?_
                refine lv_iload hx hb d_M_retain_98 (lv_at hl 0 rfl) ?_
                refine lv_aload_n hx hb d_M_retain_100 rfl (lv_at hl 1 rfl) ?_
                refine t_get (v := .int day) hx hb hts inM hown hC 0 rfl rfl 1 (by decide) (hts _ w_638) (fun _ h => h) rfl d_M_retain_101 ?_
                refine lv_iload_n hx hb d_M_retain_104 rfl (lv_at hl 3 rfl) ?_
                refine lv_iadd hx hb d_M_retain_105 ?_
                refine t_iastN (k := i) hx hb hC 8 0 rfl rfl (by omega) (by decide) d_M_retain_106 (fun H locs hC => ?_)
                have hC : tC D cls (ty0 ca) A Z s (wM J ca 0 day (nI ev9) (nI rows.length) (va_up M 8 (upd (M 8) i (day + days))) U (nI w9) log lk rest) H locs := hC
                refine gM hC (fun Mg1 hMg1 hC => ?_)
                refine lv_aload_n hx hb d_M_retain_107 rfl (lv_at hl 1 rfl) ?_
                refine t_get (v := .ref (J 9)) hx hb hts inM hown hC 0 rfl rfl 12 (by decide) (hts _ w_649) (fun _ h => h) rfl d_M_retain_108 ?_
                refine lv_iload hx hb d_M_retain_111 (lv_at hl 0 rfl) ?_
                refine lv_iload_n hx hb d_M_retain_113 rfl (lv_at hl 4 rfl) ?_
                refine t_zastN (k := i) hx hb hC 9 1 rfl rfl (by omega) (by decide) (hb01) d_M_retain_114 (fun H locs hC => ?_)
                have hC : tC D cls (ty0 ca) A Z s (wM J ca 0 day (nI ev9) (nI rows.length) (va_up Mg1 9 (upd (Mg1 9) i st9)) U (nI w9) log lk rest) H locs := hC
                refine gM hC (fun Mg2 hMg2 hC => ?_)
                refine lv_aload_n hx hb d_M_retain_115 rfl (lv_at hl 1 rfl) ?_
                refine lv_iconst (v := 5) hx hb d_M_retain_116 (by decide) ?_
                refine lv_iload_n hx hb d_M_retain_117 rfl (lv_at hl 2 rfl) ?_
                refine lv_aload_n hx hb d_M_retain_118 rfl (lv_at hl 1 rfl) ?_
                refine t_get (v := .ref (J 8)) hx hb hts inM hown hC 0 rfl rfl 11 (by decide) (hts _ w_648) (fun _ h => h) rfl d_M_retain_119 ?_
                refine lv_iload hx hb d_M_retain_122 (lv_at hl 0 rfl) ?_
                refine t_ialdN (k := i) hx hb hC 8 0 rfl rfl (by omega) (by decide) d_M_retain_124 ?_
                have hv8 : Mg2 8 i = day + days := by rw [show Mg2 8 = Mg1 8 from up_ne hMg2 (by decide), up_eq hMg1, pk_us]
                refine W.eq (g2 := F0 m 125 ls [.int (day + days), .int (rw_at rows i 0), .int 5, .ref (J 0)]) (by rw [hv8, rw_obj_num hlo]) ?_
                refine t_call (t_invV (As := [.int 5, .int (rw_at rows i 0), .int (day + days)]) (rest := []) hx hb hown (hts _ w_725) (hts _ w_727) (hts _ s_M_enter) (hts _ w_728) ⟨by decide, by decide⟩ (t_recv (q0 := 0) hC rfl rfl) rfl d_M_retain_125) (c_M_enter hZc hw9) hZc tb_good hts w_7 hC (hl.1.trans hml.symm) ⟨Nat.le_of_ble_eq_true rfl, Nat.le_of_ble_eq_true rfl, Nat.le_of_ble_eq_true rfl, Nat.le_of_ble_eq_true rfl⟩ (Nat.le_of_ble_eq_true rfl) (fun E q ce w1 H1 l1 hp => hp.elim) (fun v w1 H locs hp hC => ?_)
                obtain ⟨rfl, hwe9⟩ := hp
                rw [hwe9] at hC
                have hC : tC D cls (ty0 ca) A Z s (wM J ca 0 day (nI ev9) (nI rows.length) Mg2 U (nI (w9 + 1)) ((lg_wr (log, w9, lk) day 5 (rw_at rows i 0) (day + days)).1) ((lg_wr (log, w9, lk) day 5 (rw_at rows i 0) (day + days)).2.2) rest) H locs := hC
                refine W.eq (g2 := F0 m 128 ls []) rfl ?_
                exact t_vret hx hb hr hlk hZc hC (oN_mk (c := 0) (a := 0) (S' := p_set day i (upd (upd (rw_at rows i) 8 (day + days)) 9 st9) 5 (rw_at rows i 0) (day + days) (rows, (log, w9, lk), ev9)) (or_ok hlo ⟨Int32.not_lt.mp c18, c25⟩ (fun h => bI_ne.mp c49 h.1.2)) (mA_set2 hag hi hMg1 hMg2) huA (wS_set)) (Nat.le_of_ble_eq_true rfl) (Nat.le_of_ble_eq_true rfl) d_M_retain_128
            · skip
              refine lv_aload_n hx hb d_M_retain_52 rfl (lv_at hl 1 rfl) ?_
              refine t_get (v := .ref (J 9)) hx hb hts inM hown hC 0 rfl rfl 12 (by decide) (hts _ w_649) (fun _ h => h) rfl d_M_retain_53 ?_
              refine lv_iload hx hb d_M_retain_56 (lv_at hl 0 rfl) ?_
              refine t_zaldN (k := i) hx hb hC 9 1 rfl rfl (by omega) (by decide) d_M_retain_58 ?_
              refine lv_if_eq (tgt := 87) hx hb d_M_retain_59 (by decide) (fun c59 => ?_) (fun c59 => ?_)
              · skip
                refine lv_aload_n hx hb d_M_retain_87 rfl (lv_at hl 1 rfl) ?_
                refine t_get (v := .int 0) hx hb hts inM hown hC 0 rfl rfl 0 (by decide) (hts _ w_637) (fun _ h => h) rfl d_M_retain_88 ?_
                refine lv_if_ne (tgt := 128) hx hb d_M_retain_91 (by decide) (fun c91 => ?_) (fun c91 => ?_)
                · first | exact absurd c91 (by decide) | exact absurd (by decide) c91
                · skip
                  refine lv_aload_n hx hb d_M_retain_94 rfl (lv_at hl 1 rfl) ?_
                  refine t_get (v := .ref (J 8)) hx hb hts inM hown hC 0 rfl rfl 11 (by decide) (hts _ w_648) (fun _ h => h) rfl d_M_retain_95 ?_
                  refine lv_iload hx hb d_M_retain_98 (lv_at hl 0 rfl) ?_
                  refine lv_aload_n hx hb d_M_retain_100 rfl (lv_at hl 1 rfl) ?_
                  refine t_get (v := .int day) hx hb hts inM hown hC 0 rfl rfl 1 (by decide) (hts _ w_638) (fun _ h => h) rfl d_M_retain_101 ?_
                  refine lv_iload_n hx hb d_M_retain_104 rfl (lv_at hl 3 rfl) ?_
                  refine lv_iadd hx hb d_M_retain_105 ?_
                  refine t_iastN (k := i) hx hb hC 8 0 rfl rfl (by omega) (by decide) d_M_retain_106 (fun H locs hC => ?_)
                  have hC : tC D cls (ty0 ca) A Z s (wM J ca 0 day (nI ev9) (nI rows.length) (va_up M 8 (upd (M 8) i (day + days))) U (nI w9) log lk rest) H locs := hC
                  refine gM hC (fun Mg3 hMg3 hC => ?_)
                  refine lv_aload_n hx hb d_M_retain_107 rfl (lv_at hl 1 rfl) ?_
                  refine t_get (v := .ref (J 9)) hx hb hts inM hown hC 0 rfl rfl 12 (by decide) (hts _ w_649) (fun _ h => h) rfl d_M_retain_108 ?_
                  refine lv_iload hx hb d_M_retain_111 (lv_at hl 0 rfl) ?_
                  refine lv_iload_n hx hb d_M_retain_113 rfl (lv_at hl 4 rfl) ?_
                  refine t_zastN (k := i) hx hb hC 9 1 rfl rfl (by omega) (by decide) (hb01) d_M_retain_114 (fun H locs hC => ?_)
                  have hC : tC D cls (ty0 ca) A Z s (wM J ca 0 day (nI ev9) (nI rows.length) (va_up Mg3 9 (upd (Mg3 9) i st9)) U (nI w9) log lk rest) H locs := hC
                  refine gM hC (fun Mg4 hMg4 hC => ?_)
                  refine lv_aload_n hx hb d_M_retain_115 rfl (lv_at hl 1 rfl) ?_
                  refine lv_iconst (v := 5) hx hb d_M_retain_116 (by decide) ?_
                  refine lv_iload_n hx hb d_M_retain_117 rfl (lv_at hl 2 rfl) ?_
                  refine lv_aload_n hx hb d_M_retain_118 rfl (lv_at hl 1 rfl) ?_
                  refine t_get (v := .ref (J 8)) hx hb hts inM hown hC 0 rfl rfl 11 (by decide) (hts _ w_648) (fun _ h => h) rfl d_M_retain_119 ?_
                  refine lv_iload hx hb d_M_retain_122 (lv_at hl 0 rfl) ?_
                  refine t_ialdN (k := i) hx hb hC 8 0 rfl rfl (by omega) (by decide) d_M_retain_124 ?_
                  have hv8 : Mg4 8 i = day + days := by rw [show Mg4 8 = Mg3 8 from up_ne hMg4 (by decide), up_eq hMg3, pk_us]
                  refine W.eq (g2 := F0 m 125 ls [.int (day + days), .int (rw_at rows i 0), .int 5, .ref (J 0)]) (by rw [hv8, rw_obj_num hlo]) ?_
                  refine t_call (t_invV (As := [.int 5, .int (rw_at rows i 0), .int (day + days)]) (rest := []) hx hb hown (hts _ w_725) (hts _ w_727) (hts _ s_M_enter) (hts _ w_728) ⟨by decide, by decide⟩ (t_recv (q0 := 0) hC rfl rfl) rfl d_M_retain_125) (c_M_enter hZc hw9) hZc tb_good hts w_7 hC (hl.1.trans hml.symm) ⟨Nat.le_of_ble_eq_true rfl, Nat.le_of_ble_eq_true rfl, Nat.le_of_ble_eq_true rfl, Nat.le_of_ble_eq_true rfl⟩ (Nat.le_of_ble_eq_true rfl) (fun E q ce w1 H1 l1 hp => hp.elim) (fun v w1 H locs hp hC => ?_)
                  obtain ⟨rfl, hwe9⟩ := hp
                  rw [hwe9] at hC
                  have hC : tC D cls (ty0 ca) A Z s (wM J ca 0 day (nI ev9) (nI rows.length) Mg4 U (nI (w9 + 1)) ((lg_wr (log, w9, lk) day 5 (rw_at rows i 0) (day + days)).1) ((lg_wr (log, w9, lk) day 5 (rw_at rows i 0) (day + days)).2.2) rest) H locs := hC
                  refine W.eq (g2 := F0 m 128 ls []) rfl ?_
                  exact t_vret hx hb hr hlk hZc hC (oN_mk (c := 0) (a := 0) (S' := p_set day i (upd (upd (rw_at rows i) 8 (day + days)) 9 st9) 5 (rw_at rows i 0) (day + days) (rows, (log, w9, lk), ev9)) (or_ok hlo ⟨Int32.not_lt.mp c18, c25⟩ (fun h => h.1.1 (by rw [← hag i hi 9 (by decide) (by decide)]; exact c59))) (mA_set2 hag hi hMg3 hMg4) huA (wS_set)) (Nat.le_of_ble_eq_true rfl) (Nat.le_of_ble_eq_true rfl) d_M_retain_128
              · skip
                refine lv_iload_n hx hb d_M_retain_62 rfl (lv_at hl 4 rfl) ?_
                refine lv_if_eq (tgt := 82) hx hb d_M_retain_63 (by decide) (fun c63 => ?_) (fun c63 => ?_)
                · skip
                  refine lv_aload_n hx hb d_M_retain_82 rfl (lv_at hl 1 rfl) ?_
                  refine lv_iconst (v := 3) hx hb d_M_retain_83 (by decide) ?_
                  refine t_put (ty := .int) (v := .int 3) hx hb hts inM TM tyM nmM hown hC 0 rfl rfl 0 (by decide) (hts _ w_637) (fun _ h => h) rfl (by decide +kernel) rfl rfl (Nat.le_of_ble_eq_true rfl) d_M_retain_84 (fun H locs hC => ?_)
                  have hC : tC D cls (ty0 ca) A Z s (wM J ca 3 day (nI ev9) (nI rows.length) M U (nI w9) log lk rest) H locs := hC
                  refine lv_aload_n hx hb d_M_retain_87 rfl (lv_at hl 1 rfl) ?_
                  refine t_get (v := .int 3) hx hb hts inM hown hC 0 rfl rfl 0 (by decide) (hts _ w_637) (fun _ h => h) rfl d_M_retain_88 ?_
                  refine lv_if_ne (tgt := 128) hx hb d_M_retain_91 (by decide) (fun c91 => ?_) (fun c91 => ?_)
                  · skip
                    exact t_vret hx hb hr hlk hZc hC (oN_mk (c := 3) (a := 0) (S' := (rows, (log, w9, lk), ev9)) (or_weak hlo ⟨Int32.not_lt.mp c18, c25⟩ ⟨⟨(by rw [← hag i hi 9 (by decide) (by decide)]; exact c59), Classical.not_not.mp (fun q => c49 (bI_ne.mpr q))⟩, Or.inl c63⟩) hag huA (rfl)) (Nat.le_of_ble_eq_true rfl) (Nat.le_of_ble_eq_true rfl) d_M_retain_128
                  · first | exact absurd c91 (by decide) | exact absurd (by decide) c91
                · skip
                  refine lv_aload_n hx hb d_M_retain_66 rfl (lv_at hl 1 rfl) ?_
                  refine t_get (v := .int day) hx hb hts inM hown hC 0 rfl rfl 1 (by decide) (hts _ w_638) (fun _ h => h) rfl d_M_retain_67 ?_
                  refine lv_iload_n hx hb d_M_retain_70 rfl (lv_at hl 3 rfl) ?_
                  refine lv_iadd hx hb d_M_retain_71 ?_
                  refine lv_aload_n hx hb d_M_retain_72 rfl (lv_at hl 1 rfl) ?_
                  refine t_get (v := .ref (J 8)) hx hb hts inM hown hC 0 rfl rfl 11 (by decide) (hts _ w_648) (fun _ h => h) rfl d_M_retain_73 ?_
                  refine lv_iload hx hb d_M_retain_76 (lv_at hl 0 rfl) ?_
                  refine t_ialdN (k := i) hx hb hC 8 0 rfl rfl (by omega) (by decide) d_M_retain_78 ?_
                  refine lv_icmp_ge (tgt := 87) hx hb d_M_retain_79 (by decide) (fun c79 => ?_) (fun c79 => ?_)
                  · skip
                    refine lv_aload_n hx hb d_M_retain_87 rfl (lv_at hl 1 rfl) ?_
                    refine t_get (v := .int 0) hx hb hts inM hown hC 0 rfl rfl 0 (by decide) (hts _ w_637) (fun _ h => h) rfl d_M_retain_88 ?_
                    refine lv_if_ne (tgt := 128) hx hb d_M_retain_91 (by decide) (fun c91 => ?_) (fun c91 => ?_)
                    · first | exact absurd c91 (by decide) | exact absurd (by decide) c91
                    · skip
                      refine lv_aload_n hx hb d_M_retain_94 rfl (lv_at hl 1 rfl) ?_
                      refine t_get (v := .ref (J 8)) hx hb hts inM hown hC 0 rfl rfl 11 (by decide) (hts _ w_648) (fun _ h => h) rfl d_M_retain_95 ?_
                      refine lv_iload hx hb d_M_retain_98 (lv_at hl 0 rfl) ?_
                      refine lv_aload_n hx hb d_M_retain_100 rfl (lv_at hl 1 rfl) ?_
                      refine t_get (v := .int day) hx hb hts inM hown hC 0 rfl rfl 1 (by decide) (hts _ w_638) (fun _ h => h) rfl d_M_retain_101 ?_
                      refine lv_iload_n hx hb d_M_retain_104 rfl (lv_at hl 3 rfl) ?_
                      refine lv_iadd hx hb d_M_retain_105 ?_
                      refine t_iastN (k := i) hx hb hC 8 0 rfl rfl (by omega) (by decide) d_M_retain_106 (fun H locs hC => ?_)
                      have hC : tC D cls (ty0 ca) A Z s (wM J ca 0 day (nI ev9) (nI rows.length) (va_up M 8 (upd (M 8) i (day + days))) U (nI w9) log lk rest) H locs := hC
                      refine gM hC (fun Mg5 hMg5 hC => ?_)
                      refine lv_aload_n hx hb d_M_retain_107 rfl (lv_at hl 1 rfl) ?_
                      refine t_get (v := .ref (J 9)) hx hb hts inM hown hC 0 rfl rfl 12 (by decide) (hts _ w_649) (fun _ h => h) rfl d_M_retain_108 ?_
                      refine lv_iload hx hb d_M_retain_111 (lv_at hl 0 rfl) ?_
                      refine lv_iload_n hx hb d_M_retain_113 rfl (lv_at hl 4 rfl) ?_
                      refine t_zastN (k := i) hx hb hC 9 1 rfl rfl (by omega) (by decide) (hb01) d_M_retain_114 (fun H locs hC => ?_)
                      have hC : tC D cls (ty0 ca) A Z s (wM J ca 0 day (nI ev9) (nI rows.length) (va_up Mg5 9 (upd (Mg5 9) i st9)) U (nI w9) log lk rest) H locs := hC
                      refine gM hC (fun Mg6 hMg6 hC => ?_)
                      refine lv_aload_n hx hb d_M_retain_115 rfl (lv_at hl 1 rfl) ?_
                      refine lv_iconst (v := 5) hx hb d_M_retain_116 (by decide) ?_
                      refine lv_iload_n hx hb d_M_retain_117 rfl (lv_at hl 2 rfl) ?_
                      refine lv_aload_n hx hb d_M_retain_118 rfl (lv_at hl 1 rfl) ?_
                      refine t_get (v := .ref (J 8)) hx hb hts inM hown hC 0 rfl rfl 11 (by decide) (hts _ w_648) (fun _ h => h) rfl d_M_retain_119 ?_
                      refine lv_iload hx hb d_M_retain_122 (lv_at hl 0 rfl) ?_
                      refine t_ialdN (k := i) hx hb hC 8 0 rfl rfl (by omega) (by decide) d_M_retain_124 ?_
                      have hv8 : Mg6 8 i = day + days := by rw [show Mg6 8 = Mg5 8 from up_ne hMg6 (by decide), up_eq hMg5, pk_us]
                      refine W.eq (g2 := F0 m 125 ls [.int (day + days), .int (rw_at rows i 0), .int 5, .ref (J 0)]) (by rw [hv8, rw_obj_num hlo]) ?_
                      refine t_call (t_invV (As := [.int 5, .int (rw_at rows i 0), .int (day + days)]) (rest := []) hx hb hown (hts _ w_725) (hts _ w_727) (hts _ s_M_enter) (hts _ w_728) ⟨by decide, by decide⟩ (t_recv (q0 := 0) hC rfl rfl) rfl d_M_retain_125) (c_M_enter hZc hw9) hZc tb_good hts w_7 hC (hl.1.trans hml.symm) ⟨Nat.le_of_ble_eq_true rfl, Nat.le_of_ble_eq_true rfl, Nat.le_of_ble_eq_true rfl, Nat.le_of_ble_eq_true rfl⟩ (Nat.le_of_ble_eq_true rfl) (fun E q ce w1 H1 l1 hp => hp.elim) (fun v w1 H locs hp hC => ?_)
                      obtain ⟨rfl, hwe9⟩ := hp
                      rw [hwe9] at hC
                      have hC : tC D cls (ty0 ca) A Z s (wM J ca 0 day (nI ev9) (nI rows.length) Mg6 U (nI (w9 + 1)) ((lg_wr (log, w9, lk) day 5 (rw_at rows i 0) (day + days)).1) ((lg_wr (log, w9, lk) day 5 (rw_at rows i 0) (day + days)).2.2) rest) H locs := hC
                      refine W.eq (g2 := F0 m 128 ls []) rfl ?_
                      exact t_vret hx hb hr hlk hZc hC (oN_mk (c := 0) (a := 0) (S' := p_set day i (upd (upd (rw_at rows i) 8 (day + days)) 9 st9) 5 (rw_at rows i 0) (day + days) (rows, (log, w9, lk), ev9)) (or_ok hlo ⟨Int32.not_lt.mp c18, c25⟩ (fun h => h.2.elim c63 (fun q => absurd q (Int32.not_lt.mpr (by rw [← hag i hi 8 (by decide) (by decide)]; exact c79))))) (mA_set2 hag hi hMg5 hMg6) huA (wS_set)) (Nat.le_of_ble_eq_true rfl) (Nat.le_of_ble_eq_true rfl) d_M_retain_128
                  · skip
                    refine lv_aload_n hx hb d_M_retain_82 rfl (lv_at hl 1 rfl) ?_
                    refine lv_iconst (v := 3) hx hb d_M_retain_83 (by decide) ?_
                    refine t_put (ty := .int) (v := .int 3) hx hb hts inM TM tyM nmM hown hC 0 rfl rfl 0 (by decide) (hts _ w_637) (fun _ h => h) rfl (by decide +kernel) rfl rfl (Nat.le_of_ble_eq_true rfl) d_M_retain_84 (fun H locs hC => ?_)
                    have hC : tC D cls (ty0 ca) A Z s (wM J ca 3 day (nI ev9) (nI rows.length) M U (nI w9) log lk rest) H locs := hC
                    refine lv_aload_n hx hb d_M_retain_87 rfl (lv_at hl 1 rfl) ?_
                    refine t_get (v := .int 3) hx hb hts inM hown hC 0 rfl rfl 0 (by decide) (hts _ w_637) (fun _ h => h) rfl d_M_retain_88 ?_
                    refine lv_if_ne (tgt := 128) hx hb d_M_retain_91 (by decide) (fun c91 => ?_) (fun c91 => ?_)
                    · skip
                      exact t_vret hx hb hr hlk hZc hC (oN_mk (c := 3) (a := 0) (S' := (rows, (log, w9, lk), ev9)) (or_weak hlo ⟨Int32.not_lt.mp c18, c25⟩ ⟨⟨(by rw [← hag i hi 9 (by decide) (by decide)]; exact c59), Classical.not_not.mp (fun q => c49 (bI_ne.mpr q))⟩, Or.inr (by rw [← hag i hi 8 (by decide) (by decide)]; exact Int32.not_le.mp c79)⟩) hag huA (rfl)) (Nat.le_of_ble_eq_true rfl) (Nat.le_of_ble_eq_true rfl) d_M_retain_128
                    · first | exact absurd c91 (by decide) | exact absurd (by decide) c91
        · skip
          refine lv_iconst (v := 2) hx hb d_M_retain_28 (by decide) ?_
          refine lv_goto (tgt := 33) hx hb d_M_retain_29 (by decide) ?_
          refine t_put (ty := .int) (v := .int 2) hx hb hts inM TM tyM nmM hown hC 0 rfl rfl 0 (by decide) (hts _ w_637) (fun _ h => h) rfl (by decide +kernel) rfl rfl (Nat.le_of_ble_eq_true rfl) d_M_retain_33 (fun H locs hC => ?_)
          have hC : tC D cls (ty0 ca) A Z s (wM J ca 2 day (nI ev9) (nI rows.length) M U (nI w9) log lk rest) H locs := hC
          refine lv_aload_n hx hb d_M_retain_36 rfl (lv_at hl 1 rfl) ?_
          refine t_get (v := .int 2) hx hb hts inM hown hC 0 rfl rfl 0 (by decide) (hts _ w_637) (fun _ h => h) rfl d_M_retain_37 ?_
          refine lv_if_ne (tgt := 87) hx hb d_M_retain_40 (by decide) (fun c40 => ?_) (fun c40 => ?_)
          · skip
            refine lv_aload_n hx hb d_M_retain_87 rfl (lv_at hl 1 rfl) ?_
            refine t_get (v := .int 2) hx hb hts inM hown hC 0 rfl rfl 0 (by decide) (hts _ w_637) (fun _ h => h) rfl d_M_retain_88 ?_
            refine lv_if_ne (tgt := 128) hx hb d_M_retain_91 (by decide) (fun c91 => ?_) (fun c91 => ?_)
            · skip
              exact t_vret hx hb hr hlk hZc hC (oN_mk (c := 2) (a := 0) (S' := (rows, (log, w9, lk), ev9)) (or_bad hlo (fun h => c25 h.2)) hag huA (rfl)) (Nat.le_of_ble_eq_true rfl) (Nat.le_of_ble_eq_true rfl) d_M_retain_128
            · first | exact absurd c91 (by decide) | exact absurd (by decide) c91
          · first | exact absurd c40 (by decide) | exact absurd (by decide) c40
    · exact absurd (Int32.not_lt.mp hip) c10

set_option maxRecDepth 100000 in
set_option maxHeartbeats 4000000 in
theorem c_M_hold {l : Launch} {D : va_G} {A : Nat → Prop} {Z : State → Heap → Prop} (hZc : tZ A Z) {J : Nat → Nat} {ca : Nat → ClassId} {code day : Int32} {M U : Nat → Nat → Int32} {log : Nat → Int32} {lk : Int64} {rest : va_W} {v9 ho9 on9 : Int32} (hb01 : on9 = 0 ∨ on9 = 1) {rows : List RW} {w9 ev9 : Nat} (hw9 : w9 < 2 ^ 31) (hag : mA rows M) (hPI : PI (rows, (log, w9, lk), ev9)) {Rs : List RW} (huA : uA Rs U) : tM l y_M_hold tb ({ frames := 2, cells := 0, slots := 0, locals := 45 }) D cls (ty0 ca) A Z [.ref (J 0), .int v9, .int ho9, .int on9] (wM J ca code day (nI ev9) (nI rows.length) M U (nI w9) log lk rest) (oM J ca (o_hold day v9 ho9 on9 (rows, (log, w9, lk), ev9)) day Rs rest) (xN) := by
  refine t_ofW (by decide) w_761 (Nat.le_of_ble_eq_true rfl) ?_
  intro p e s m below meth c ls hx hb hr hts hown hlk hnm hml hex hl hC
  have hown : s.vm.findClass "RetentionVaultModel" = some m.cls := hown
  have hl : lv_has ls 5 [(0, .ref (J 0)), (1, .int v9), (2, .int ho9), (3, .int on9)] := hl
  have h40 : rows.length ≤ 40 := hPI.1
  have hcu : rw_CurOK rows := hPI.2.1
  refine lv_aload_n hx hb d_M_hold_0 rfl (lv_at hl 0 rfl) ?_
  refine lv_iload_n hx hb d_M_hold_1 rfl (lv_at hl 1 rfl) ?_
  refine t_call (t_invV (As := [.int v9]) (rest := []) hx hb hown (hts _ w_754) (hts _ w_756) (hts _ s_M_object) (hts _ w_757) ⟨by decide, by decide⟩ (t_recv (q0 := 0) hC rfl rfl) rfl d_M_hold_2) (c_M_object hZc hag h40) hZc tb_good hts w_7 hC (hl.1.trans hml.symm) ⟨Nat.le_of_ble_eq_true rfl, Nat.le_of_ble_eq_true rfl, Nat.le_of_ble_eq_true rfl, Nat.le_of_ble_eq_true rfl⟩ (Nat.le_of_ble_eq_true rfl) (fun E q ce w1 H1 l1 hp => hp.elim) (fun v w1 H locs hp hC => ?_)
  obtain ⟨rfl, hwe9⟩ := hp
  rw [hwe9] at hC
  have hC : tC D cls (ty0 ca) A Z s (wM J ca code day (nI ev9) (nI rows.length) M U (nI w9) log lk rest) H locs := hC
  refine W.eq (g2 := F0 m 5 ls [.int (oI (rw_obj rows v9))]) rfl ?_
  rcases op_two (rw_obj rows v9) with hlo | ⟨i, hlo⟩
  · refine W.eq (g2 := F0 m 5 ls [.int (-1)]) (by rw [hlo]; rfl) ?_
    refine lv_istore (lv' := [(4, .int (-1)), (0, .ref (J 0)), (1, .int v9), (2, .int ho9), (3, .int on9)]) hx hb d_M_hold_5 hl (by decide) rfl (fun ls hl => ?_)
    refine lv_aload_n hx hb d_M_hold_7 rfl (lv_at hl 1 rfl) ?_
    refine lv_iload hx hb d_M_hold_8 (lv_at hl 0 rfl) ?_
    refine lv_if_ge (tgt := 17) hx hb d_M_hold_10 (by decide) (fun c10 => ?_) (fun c10 => ?_)
    · first | exact absurd c10 (by decide) | exact absurd (by decide) c10
    · skip
      refine lv_iconst (v := 1) hx hb d_M_hold_13 (by decide) ?_
      refine lv_goto (tgt := 32) hx hb d_M_hold_14 (by decide) ?_
      refine t_put (ty := .int) (v := .int 1) hx hb hts inM TM tyM nmM hown hC 0 rfl rfl 0 (by decide) (hts _ w_637) (fun _ h => h) rfl (by decide +kernel) rfl rfl (Nat.le_of_ble_eq_true rfl) d_M_hold_32 (fun H locs hC => ?_)
      have hC : tC D cls (ty0 ca) A Z s (wM J ca 1 day (nI ev9) (nI rows.length) M U (nI w9) log lk rest) H locs := hC
      refine lv_aload_n hx hb d_M_hold_35 rfl (lv_at hl 1 rfl) ?_
      refine t_get (v := .int 1) hx hb hts inM hown hC 0 rfl rfl 0 (by decide) (hts _ w_637) (fun _ h => h) rfl d_M_hold_36 ?_
      refine lv_if_gt (tgt := 65) hx hb d_M_hold_39 (by decide) (fun c39 => ?_) (fun c39 => ?_)
      · skip
        refine lv_iconst (v := 0) hx hb d_M_hold_65 (by decide) ?_
        exact t_zret hx hb hr hlk (Or.inl rfl) hZc hC (oM_mk (c := 1) (a := 0) (S' := (rows, (log, w9, lk), ev9)) (oh_none hlo) (fun h => absurd h (by decide)) hag huA (rfl)) (Nat.le_of_ble_eq_true rfl) (Nat.le_of_ble_eq_true rfl) d_M_hold_66
      · first | exact absurd c39 (by decide) | exact absurd (by decide) c39
  · have hi : i < rows.length := rw_obj_lt hlo
    have hip := nI_pos (n := i) (by omega)
    refine W.eq (g2 := F0 m 5 ls [.int (nI i)]) (by rw [hlo]; rfl) ?_
    refine lv_istore (lv' := [(4, .int (nI i)), (0, .ref (J 0)), (1, .int v9), (2, .int ho9), (3, .int on9)]) hx hb d_M_hold_5 hl (by decide) rfl (fun ls hl => ?_)
    refine lv_aload_n hx hb d_M_hold_7 rfl (lv_at hl 1 rfl) ?_
    refine lv_iload hx hb d_M_hold_8 (lv_at hl 0 rfl) ?_
    refine lv_if_ge (tgt := 17) hx hb d_M_hold_10 (by decide) (fun c10 => ?_) (fun c10 => ?_)
    · skip
      refine lv_iload_n hx hb d_M_hold_17 rfl (lv_at hl 3 rfl) ?_
      refine lv_if_lt (tgt := 27) hx hb d_M_hold_18 (by decide) (fun c18 => ?_) (fun c18 => ?_)
      · skip
        refine lv_iconst (v := 2) hx hb d_M_hold_27 (by decide) ?_
        refine lv_goto (tgt := 32) hx hb d_M_hold_28 (by decide) ?_
        refine t_put (ty := .int) (v := .int 2) hx hb hts inM TM tyM nmM hown hC 0 rfl rfl 0 (by decide) (hts _ w_637) (fun _ h => h) rfl (by decide +kernel) rfl rfl (Nat.le_of_ble_eq_true rfl) d_M_hold_32 (fun H locs hC => ?_)
        have hC : tC D cls (ty0 ca) A Z s (wM J ca 2 day (nI ev9) (nI rows.length) M U (nI w9) log lk rest) H locs := hC
        refine lv_aload_n hx hb d_M_hold_35 rfl (lv_at hl 1 rfl) ?_
        refine t_get (v := .int 2) hx hb hts inM hown hC 0 rfl rfl 0 (by decide) (hts _ w_637) (fun _ h => h) rfl d_M_hold_36 ?_
        refine lv_if_gt (tgt := 65) hx hb d_M_hold_39 (by decide) (fun c39 => ?_) (fun c39 => ?_)
        · skip
          refine lv_iconst (v := 0) hx hb d_M_hold_65 (by decide) ?_
          exact t_zret hx hb hr hlk (Or.inl rfl) hZc hC (oM_mk (c := 2) (a := 0) (S' := (rows, (log, w9, lk), ev9)) (oh_bad hlo (fun h => absurd h.1 (Int32.not_le.mpr c18))) (fun h => absurd h (by decide)) hag huA (rfl)) (Nat.le_of_ble_eq_true rfl) (Nat.le_of_ble_eq_true rfl) d_M_hold_66
        · first | exact absurd c39 (by decide) | exact absurd (by decide) c39
      · skip
        refine lv_iload_n hx hb d_M_hold_21 rfl (lv_at hl 3 rfl) ?_
        refine lv_bipush (v := 7) hx hb d_M_hold_22 (by decide) ?_
        refine lv_icmp_le (tgt := 31) hx hb d_M_hold_24 (by decide) (fun c24 => ?_) (fun c24 => ?_)
        · skip
          refine lv_iconst (v := 0) hx hb d_M_hold_31 (by decide) ?_
          refine t_put (ty := .int) (v := .int 0) hx hb hts inM TM tyM nmM hown hC 0 rfl rfl 0 (by decide) (hts _ w_637) (fun _ h => h) rfl (by decide +kernel) rfl rfl (Nat.le_of_ble_eq_true rfl) d_M_hold_32 (fun H locs hC => ?_)
          have hC : tC D cls (ty0 ca) A Z s (wM J ca 0 day (nI ev9) (nI rows.length) M U (nI w9) log lk rest) H locs := hC
          refine lv_aload_n hx hb d_M_hold_35 rfl (lv_at hl 1 rfl) ?_
          refine t_get (v := .int 0) hx hb hts inM hown hC 0 rfl rfl 0 (by decide) (hts _ w_637) (fun _ h => h) rfl d_M_hold_36 ?_
          refine lv_if_gt (tgt := 65) hx hb d_M_hold_39 (by decide) (fun c39 => ?_) (fun c39 => ?_)
          · first | exact absurd c39 (by decide) | exact absurd (by decide) c39
          · skip
            refine lv_aload_n hx hb d_M_hold_42 rfl (lv_at hl 1 rfl) ?_
            refine t_get (v := .ref (J 10)) hx hb hts inM hown hC 0 rfl rfl 13 (by decide) (hts _ w_650) (fun _ h => h) rfl d_M_hold_43 ?_
            refine lv_iload hx hb d_M_hold_46 (lv_at hl 0 rfl) ?_
            refine t_ialdN (k := i) hx hb hC 10 0 rfl rfl (by omega) (by decide) d_M_hold_48 ?_
            refine lv_iload_n hx hb d_M_hold_49 rfl (lv_at hl 3 rfl) ?_
            refine lv_ishr hx hb d_M_hold_50 ?_
            refine lv_iconst (v := 1) hx hb d_M_hold_51 (by decide) ?_
            refine lv_iand hx hb d_M_hold_52 ?_
            refine lv_iload_n hx hb d_M_hold_53 rfl (lv_at hl 4 rfl) ?_
            refine lv_if_eq (tgt := 61) hx hb d_M_hold_54 (by decide) (fun c54 => ?_) (fun c54 => ?_)
            · skip
              refine lv_iconst (v := 0) hx hb d_M_hold_61 (by decide) ?_
              refine lv_icmp_ne (tgt := 67) hx hb d_M_hold_62 (by decide) (fun c62 => ?_) (fun c62 => ?_)
              · skip
                refine lv_aload_n hx hb d_M_hold_67 rfl (lv_at hl 1 rfl) ?_
                refine t_get (v := .ref (J 10)) hx hb hts inM hown hC 0 rfl rfl 13 (by decide) (hts _ w_650) (fun _ h => h) rfl d_M_hold_68 ?_
                refine lv_iload hx hb d_M_hold_71 (lv_at hl 0 rfl) ?_
                refine lv_dup2_11 hx hb d_M_hold_73 rfl rfl ?_
                refine t_ialdN (k := i) hx hb hC 10 0 rfl rfl (by omega) (by decide) d_M_hold_74 ?_
                refine lv_iconst (v := 1) hx hb d_M_hold_75 (by decide) ?_
                refine lv_iload_n hx hb d_M_hold_76 rfl (lv_at hl 3 rfl) ?_
                refine lv_ishl hx hb d_M_hold_77 ?_
                refine lv_ixor hx hb d_M_hold_78 ?_
                refine W.eq (g2 := F0 m 79 ls [.int (rw_at rows i 10 ^^^ (1 <<< (ho9 &&& 31))), .int (nI i), .ref (J 10)]) (by rw [hag i hi 10 (by decide) (by decide)]) ?_
                refine t_iastN (k := i) hx hb hC 10 0 rfl rfl (by omega) (by decide) d_M_hold_79 (fun H locs hC => ?_)
                have hC : tC D cls (ty0 ca) A Z s (wM J ca 0 day (nI ev9) (nI rows.length) (va_up M 10 (upd (M 10) i (rw_at rows i 10 ^^^ (1 <<< (ho9 &&& 31))))) U (nI w9) log lk rest) H locs := hC
                refine gM hC (fun Mg1 hMg1 hC => ?_)
                refine lv_aload_n hx hb d_M_hold_80 rfl (lv_at hl 1 rfl) ?_
                refine lv_iload_n hx hb d_M_hold_81 rfl (lv_at hl 4 rfl) ?_
                refine lv_if_eq (tgt := 90) hx hb d_M_hold_82 (by decide) (fun c82 => ?_) (fun c82 => ?_)
                · skip
                  refine lv_bipush (v := 7) hx hb d_M_hold_90 (by decide) ?_
                  refine lv_iload_n hx hb d_M_hold_92 rfl (lv_at hl 2 rfl) ?_
                  refine lv_iload_n hx hb d_M_hold_93 rfl (lv_at hl 3 rfl) ?_
                  refine W.eq (g2 := F0 m 94 ls [.int ho9, .int (rw_at rows i 0), .int 7, .ref (J 0)]) (by rw [rw_obj_num hlo]) ?_
                  refine t_call (t_invV (As := [.int 7, .int (rw_at rows i 0), .int ho9]) (rest := []) hx hb hown (hts _ w_725) (hts _ w_727) (hts _ s_M_enter) (hts _ w_728) ⟨by decide, by decide⟩ (t_recv (q0 := 0) hC rfl rfl) rfl d_M_hold_94) (c_M_enter hZc hw9) hZc tb_good hts w_7 hC (hl.1.trans hml.symm) ⟨Nat.le_of_ble_eq_true rfl, Nat.le_of_ble_eq_true rfl, Nat.le_of_ble_eq_true rfl, Nat.le_of_ble_eq_true rfl⟩ (Nat.le_of_ble_eq_true rfl) (fun E q ce w1 H1 l1 hp => hp.elim) (fun v w1 H locs hp hC => ?_)
                  obtain ⟨rfl, hwe9⟩ := hp
                  rw [hwe9] at hC
                  have hC : tC D cls (ty0 ca) A Z s (wM J ca 0 day (nI ev9) (nI rows.length) Mg1 U (nI (w9 + 1)) ((lg_wr (log, w9, lk) day 7 (rw_at rows i 0) ho9).1) ((lg_wr (log, w9, lk) day 7 (rw_at rows i 0) ho9).2.2) rest) H locs := hC
                  refine W.eq (g2 := F0 m 97 ls []) rfl ?_
                  refine lv_iconst (v := 1) hx hb d_M_hold_97 (by decide) ?_
                  exact t_zret hx hb hr hlk (Or.inr rfl) hZc hC (oM_mk (c := 0) (a := 1) (S' := p_set day i (upd (rw_at rows i) 10 (rw_at rows i 10 ^^^ (1 <<< (ho9 &&& 31)))) (if on9 = 0 then 7 else 6) (rw_at rows i 0) ho9 (rows, (log, w9, lk), ev9)) (oh_ok hlo ⟨Int32.not_lt.mp c18, c24⟩ (fun h => c62 (by rw [← bit_h ⟨Int32.not_lt.mp c18, c24⟩, ← hag i hi 10 (by decide) (by decide)] at h; rw [h, c54]))) (fun _ => rfl) (mA_set hag hi hMg1) huA (by rw [if_pos c54]; exact wS_set)) (Nat.le_of_ble_eq_true rfl) (Nat.le_of_ble_eq_true rfl) d_M_hold_98
                · exact absurd c54 c82
              · skip
                refine lv_iconst (v := 0) hx hb d_M_hold_65 (by decide) ?_
                exact t_zret hx hb hr hlk (Or.inl rfl) hZc hC (oM_mk (c := 0) (a := 0) (S' := (rows, (log, w9, lk), ev9)) (oh_same hlo ⟨Int32.not_lt.mp c18, c24⟩ (by rw [← bit_h ⟨Int32.not_lt.mp c18, c24⟩, ← hag i hi 10 (by decide) (by decide), c54]; exact c62)) (fun _ => rfl) hag huA (rfl)) (Nat.le_of_ble_eq_true rfl) (Nat.le_of_ble_eq_true rfl) d_M_hold_66
            · skip
              refine lv_iconst (v := 1) hx hb d_M_hold_57 (by decide) ?_
              refine lv_goto (tgt := 62) hx hb d_M_hold_58 (by decide) ?_
              refine lv_icmp_ne (tgt := 67) hx hb d_M_hold_62 (by decide) (fun c62 => ?_) (fun c62 => ?_)
              · skip
                refine lv_aload_n hx hb d_M_hold_67 rfl (lv_at hl 1 rfl) ?_
                refine t_get (v := .ref (J 10)) hx hb hts inM hown hC 0 rfl rfl 13 (by decide) (hts _ w_650) (fun _ h => h) rfl d_M_hold_68 ?_
                refine lv_iload hx hb d_M_hold_71 (lv_at hl 0 rfl) ?_
                refine lv_dup2_11 hx hb d_M_hold_73 rfl rfl ?_
                refine t_ialdN (k := i) hx hb hC 10 0 rfl rfl (by omega) (by decide) d_M_hold_74 ?_
                refine lv_iconst (v := 1) hx hb d_M_hold_75 (by decide) ?_
                refine lv_iload_n hx hb d_M_hold_76 rfl (lv_at hl 3 rfl) ?_
                refine lv_ishl hx hb d_M_hold_77 ?_
                refine lv_ixor hx hb d_M_hold_78 ?_
                refine W.eq (g2 := F0 m 79 ls [.int (rw_at rows i 10 ^^^ (1 <<< (ho9 &&& 31))), .int (nI i), .ref (J 10)]) (by rw [hag i hi 10 (by decide) (by decide)]) ?_
                refine t_iastN (k := i) hx hb hC 10 0 rfl rfl (by omega) (by decide) d_M_hold_79 (fun H locs hC => ?_)
                have hC : tC D cls (ty0 ca) A Z s (wM J ca 0 day (nI ev9) (nI rows.length) (va_up M 10 (upd (M 10) i (rw_at rows i 10 ^^^ (1 <<< (ho9 &&& 31))))) U (nI w9) log lk rest) H locs := hC
                refine gM hC (fun Mg2 hMg2 hC => ?_)
                refine lv_aload_n hx hb d_M_hold_80 rfl (lv_at hl 1 rfl) ?_
                refine lv_iload_n hx hb d_M_hold_81 rfl (lv_at hl 4 rfl) ?_
                refine lv_if_eq (tgt := 90) hx hb d_M_hold_82 (by decide) (fun c82 => ?_) (fun c82 => ?_)
                · exact absurd c82 c54
                · skip
                  refine lv_bipush (v := 6) hx hb d_M_hold_85 (by decide) ?_
                  refine lv_goto (tgt := 92) hx hb d_M_hold_87 (by decide) ?_
                  refine lv_iload_n hx hb d_M_hold_92 rfl (lv_at hl 2 rfl) ?_
                  refine lv_iload_n hx hb d_M_hold_93 rfl (lv_at hl 3 rfl) ?_
                  refine W.eq (g2 := F0 m 94 ls [.int ho9, .int (rw_at rows i 0), .int 6, .ref (J 0)]) (by rw [rw_obj_num hlo]) ?_
                  refine t_call (t_invV (As := [.int 6, .int (rw_at rows i 0), .int ho9]) (rest := []) hx hb hown (hts _ w_725) (hts _ w_727) (hts _ s_M_enter) (hts _ w_728) ⟨by decide, by decide⟩ (t_recv (q0 := 0) hC rfl rfl) rfl d_M_hold_94) (c_M_enter hZc hw9) hZc tb_good hts w_7 hC (hl.1.trans hml.symm) ⟨Nat.le_of_ble_eq_true rfl, Nat.le_of_ble_eq_true rfl, Nat.le_of_ble_eq_true rfl, Nat.le_of_ble_eq_true rfl⟩ (Nat.le_of_ble_eq_true rfl) (fun E q ce w1 H1 l1 hp => hp.elim) (fun v w1 H locs hp hC => ?_)
                  obtain ⟨rfl, hwe9⟩ := hp
                  rw [hwe9] at hC
                  have hC : tC D cls (ty0 ca) A Z s (wM J ca 0 day (nI ev9) (nI rows.length) Mg2 U (nI (w9 + 1)) ((lg_wr (log, w9, lk) day 6 (rw_at rows i 0) ho9).1) ((lg_wr (log, w9, lk) day 6 (rw_at rows i 0) ho9).2.2) rest) H locs := hC
                  refine W.eq (g2 := F0 m 97 ls []) rfl ?_
                  refine lv_iconst (v := 1) hx hb d_M_hold_97 (by decide) ?_
                  exact t_zret hx hb hr hlk (Or.inr rfl) hZc hC (oM_mk (c := 0) (a := 1) (S' := p_set day i (upd (rw_at rows i) 10 (rw_at rows i 10 ^^^ (1 <<< (ho9 &&& 31)))) (if on9 = 0 then 7 else 6) (rw_at rows i 0) ho9 (rows, (log, w9, lk), ev9)) (oh_ok hlo ⟨Int32.not_lt.mp c18, c24⟩ (fun h => c62 (by rw [← bit_h ⟨Int32.not_lt.mp c18, c24⟩, ← hag i hi 10 (by decide) (by decide)] at h; rw [h, (hb01.resolve_left c54)]))) (fun _ => rfl) (mA_set hag hi hMg2) huA (by rw [if_neg c54]; exact wS_set)) (Nat.le_of_ble_eq_true rfl) (Nat.le_of_ble_eq_true rfl) d_M_hold_98
              · skip
                refine lv_iconst (v := 0) hx hb d_M_hold_65 (by decide) ?_
                exact t_zret hx hb hr hlk (Or.inl rfl) hZc hC (oM_mk (c := 0) (a := 0) (S' := (rows, (log, w9, lk), ev9)) (oh_same hlo ⟨Int32.not_lt.mp c18, c24⟩ (by rw [← bit_h ⟨Int32.not_lt.mp c18, c24⟩, ← hag i hi 10 (by decide) (by decide), (hb01.resolve_left c54)]; exact c62)) (fun _ => rfl) hag huA (rfl)) (Nat.le_of_ble_eq_true rfl) (Nat.le_of_ble_eq_true rfl) d_M_hold_66
        · skip
          refine lv_iconst (v := 2) hx hb d_M_hold_27 (by decide) ?_
          refine lv_goto (tgt := 32) hx hb d_M_hold_28 (by decide) ?_
          refine t_put (ty := .int) (v := .int 2) hx hb hts inM TM tyM nmM hown hC 0 rfl rfl 0 (by decide) (hts _ w_637) (fun _ h => h) rfl (by decide +kernel) rfl rfl (Nat.le_of_ble_eq_true rfl) d_M_hold_32 (fun H locs hC => ?_)
          have hC : tC D cls (ty0 ca) A Z s (wM J ca 2 day (nI ev9) (nI rows.length) M U (nI w9) log lk rest) H locs := hC
          refine lv_aload_n hx hb d_M_hold_35 rfl (lv_at hl 1 rfl) ?_
          refine t_get (v := .int 2) hx hb hts inM hown hC 0 rfl rfl 0 (by decide) (hts _ w_637) (fun _ h => h) rfl d_M_hold_36 ?_
          refine lv_if_gt (tgt := 65) hx hb d_M_hold_39 (by decide) (fun c39 => ?_) (fun c39 => ?_)
          · skip
            refine lv_iconst (v := 0) hx hb d_M_hold_65 (by decide) ?_
            exact t_zret hx hb hr hlk (Or.inl rfl) hZc hC (oM_mk (c := 2) (a := 0) (S' := (rows, (log, w9, lk), ev9)) (oh_bad hlo (fun h => c24 h.2)) (fun h => absurd h (by decide)) hag huA (rfl)) (Nat.le_of_ble_eq_true rfl) (Nat.le_of_ble_eq_true rfl) d_M_hold_66
          · first | exact absurd c39 (by decide) | exact absurd (by decide) c39
    · exact absurd (Int32.not_lt.mp hip) c10

set_option maxRecDepth 100000 in
set_option maxHeartbeats 4000000 in
theorem c_M_rule {l : Launch} {D : va_G} {A : Nat → Prop} {Z : State → Heap → Prop} (hZc : tZ A Z) {J : Nat → Nat} {ca : Nat → ClassId} {code day : Int32} {M U : Nat → Nat → Int32} {log : Nat → Int32} {lk : Int64} {rest : va_W} {ru9 tg9 cu9 da9 ac9 : Int32} (hb01 : cu9 = 0 ∨ cu9 = 1) {rows : List RW} {w9 ev9 : Nat} (hw9 : w9 < 2 ^ 31) (hag : mA rows M) (hPI : PI (rows, (log, w9, lk), ev9)) {Rs : List RW} (huA : uA Rs U) (hRs : Rs.length = 6) : tM l y_M_rule tb ({ frames := 1, cells := 0, slots := 0, locals := 25 }) D cls (ty0 ca) A Z [.ref (J 0), .int ru9, .int tg9, .int cu9, .int da9, .int ac9] (wM J ca code day (nI ev9) (nI rows.length) M U (nI w9) log lk rest) (oN J ca (o_rule day ru9 tg9 da9 ac9 (rows, (log, w9, lk), ev9)) day (n_rule ru9 tg9 cu9 da9 ac9 Rs) rest) (xN) := by
  refine t_ofW (by decide) w_765 (Nat.le_of_ble_eq_true rfl) ?_
  intro p e s m below meth c ls hx hb hr hts hown hlk hnm hml hex hl hC
  have hown : s.vm.findClass "RetentionVaultModel" = some m.cls := hown
  have hl : lv_has ls 6 [(0, .ref (J 0)), (1, .int ru9), (2, .int tg9), (3, .int cu9), (4, .int da9), (5, .int ac9)] := hl
  have h40 : rows.length ≤ 40 := hPI.1
  have hcu : rw_CurOK rows := hPI.2.1
  refine lv_aload_n hx hb d_M_rule_0 rfl (lv_at hl 0 rfl) ?_
  refine lv_iload_n hx hb d_M_rule_1 rfl (lv_at hl 1 rfl) ?_
  refine lv_if_lt (tgt := 45) hx hb d_M_rule_2 (by decide) (fun c2 => ?_) (fun c2 => ?_)
  · skip
    refine lv_iconst (v := 1) hx hb d_M_rule_45 (by decide) ?_
    refine lv_goto (tgt := 50) hx hb d_M_rule_46 (by decide) ?_
    refine t_put (ty := .int) (v := .int 1) hx hb hts inM TM tyM nmM hown hC 0 rfl rfl 0 (by decide) (hts _ w_637) (fun _ h => h) rfl (by decide +kernel) rfl rfl (Nat.le_of_ble_eq_true rfl) d_M_rule_50 (fun H locs hC => ?_)
    have hC : tC D cls (ty0 ca) A Z s (wM J ca 1 day (nI ev9) (nI rows.length) M U (nI w9) log lk rest) H locs := hC
    refine lv_aload_n hx hb d_M_rule_53 rfl (lv_at hl 0 rfl) ?_
    refine t_get (v := .int 1) hx hb hts inM hown hC 0 rfl rfl 0 (by decide) (hts _ w_637) (fun _ h => h) rfl d_M_rule_54 ?_
    refine lv_if_ne (tgt := 99) hx hb d_M_rule_57 (by decide) (fun c57 => ?_) (fun c57 => ?_)
    · skip
      exact t_vret hx hb hr hlk hZc hC (oN_mk (c := 1) (a := 0) (S' := (rows, (log, w9, lk), ev9)) (if_neg (fun h => absurd h.1.1 (Int32.not_le.mpr c2))) hag (show uA (n_rule ru9 tg9 cu9 da9 ac9 Rs) U by rw [show n_rule ru9 tg9 cu9 da9 ac9 Rs = Rs from if_neg (fun h => absurd h.1.1 (Int32.not_le.mpr c2))]; exact huA) (rfl)) (Nat.le_of_ble_eq_true rfl) (Nat.le_of_ble_eq_true rfl) d_M_rule_99
    · first | exact absurd c57 (by decide) | exact absurd (by decide) c57
  · skip
    refine lv_iload_n hx hb d_M_rule_5 rfl (lv_at hl 1 rfl) ?_
    refine lv_iconst (v := 5) hx hb d_M_rule_6 (by decide) ?_
    refine lv_icmp_gt (tgt := 45) hx hb d_M_rule_7 (by decide) (fun c7 => ?_) (fun c7 => ?_)
    · skip
      refine lv_iconst (v := 1) hx hb d_M_rule_45 (by decide) ?_
      refine lv_goto (tgt := 50) hx hb d_M_rule_46 (by decide) ?_
      refine t_put (ty := .int) (v := .int 1) hx hb hts inM TM tyM nmM hown hC 0 rfl rfl 0 (by decide) (hts _ w_637) (fun _ h => h) rfl (by decide +kernel) rfl rfl (Nat.le_of_ble_eq_true rfl) d_M_rule_50 (fun H locs hC => ?_)
      have hC : tC D cls (ty0 ca) A Z s (wM J ca 1 day (nI ev9) (nI rows.length) M U (nI w9) log lk rest) H locs := hC
      refine lv_aload_n hx hb d_M_rule_53 rfl (lv_at hl 0 rfl) ?_
      refine t_get (v := .int 1) hx hb hts inM hown hC 0 rfl rfl 0 (by decide) (hts _ w_637) (fun _ h => h) rfl d_M_rule_54 ?_
      refine lv_if_ne (tgt := 99) hx hb d_M_rule_57 (by decide) (fun c57 => ?_) (fun c57 => ?_)
      · skip
        exact t_vret hx hb hr hlk hZc hC (oN_mk (c := 1) (a := 0) (S' := (rows, (log, w9, lk), ev9)) (if_neg (fun h => absurd h.1.2 (Int32.not_le.mpr c7))) hag (show uA (n_rule ru9 tg9 cu9 da9 ac9 Rs) U by rw [show n_rule ru9 tg9 cu9 da9 ac9 Rs = Rs from if_neg (fun h => absurd h.1.2 (Int32.not_le.mpr c7))]; exact huA) (rfl)) (Nat.le_of_ble_eq_true rfl) (Nat.le_of_ble_eq_true rfl) d_M_rule_99
      · first | exact absurd c57 (by decide) | exact absurd (by decide) c57
    · skip
      refine lv_iload_n hx hb d_M_rule_10 rfl (lv_at hl 2 rfl) ?_
      refine lv_iconst (v := (-1)) hx hb d_M_rule_11 (by decide) ?_
      refine lv_icmp_lt (tgt := 45) hx hb d_M_rule_12 (by decide) (fun c12 => ?_) (fun c12 => ?_)
      · skip
        refine lv_iconst (v := 1) hx hb d_M_rule_45 (by decide) ?_
        refine lv_goto (tgt := 50) hx hb d_M_rule_46 (by decide) ?_
        refine t_put (ty := .int) (v := .int 1) hx hb hts inM TM tyM nmM hown hC 0 rfl rfl 0 (by decide) (hts _ w_637) (fun _ h => h) rfl (by decide +kernel) rfl rfl (Nat.le_of_ble_eq_true rfl) d_M_rule_50 (fun H locs hC => ?_)
        have hC : tC D cls (ty0 ca) A Z s (wM J ca 1 day (nI ev9) (nI rows.length) M U (nI w9) log lk rest) H locs := hC
        refine lv_aload_n hx hb d_M_rule_53 rfl (lv_at hl 0 rfl) ?_
        refine t_get (v := .int 1) hx hb hts inM hown hC 0 rfl rfl 0 (by decide) (hts _ w_637) (fun _ h => h) rfl d_M_rule_54 ?_
        refine lv_if_ne (tgt := 99) hx hb d_M_rule_57 (by decide) (fun c57 => ?_) (fun c57 => ?_)
        · skip
          exact t_vret hx hb hr hlk hZc hC (oN_mk (c := 1) (a := 0) (S' := (rows, (log, w9, lk), ev9)) (if_neg (fun h => absurd h.2.1.1 (Int32.not_le.mpr c12))) hag (show uA (n_rule ru9 tg9 cu9 da9 ac9 Rs) U by rw [show n_rule ru9 tg9 cu9 da9 ac9 Rs = Rs from if_neg (fun h => absurd h.2.1.1 (Int32.not_le.mpr c12))]; exact huA) (rfl)) (Nat.le_of_ble_eq_true rfl) (Nat.le_of_ble_eq_true rfl) d_M_rule_99
        · first | exact absurd c57 (by decide) | exact absurd (by decide) c57
      · skip
        refine lv_iload_n hx hb d_M_rule_15 rfl (lv_at hl 2 rfl) ?_
        refine lv_iconst (v := 3) hx hb d_M_rule_16 (by decide) ?_
        refine lv_icmp_gt (tgt := 45) hx hb d_M_rule_17 (by decide) (fun c17 => ?_) (fun c17 => ?_)
        · skip
          refine lv_iconst (v := 1) hx hb d_M_rule_45 (by decide) ?_
          refine lv_goto (tgt := 50) hx hb d_M_rule_46 (by decide) ?_
          refine t_put (ty := .int) (v := .int 1) hx hb hts inM TM tyM nmM hown hC 0 rfl rfl 0 (by decide) (hts _ w_637) (fun _ h => h) rfl (by decide +kernel) rfl rfl (Nat.le_of_ble_eq_true rfl) d_M_rule_50 (fun H locs hC => ?_)
          have hC : tC D cls (ty0 ca) A Z s (wM J ca 1 day (nI ev9) (nI rows.length) M U (nI w9) log lk rest) H locs := hC
          refine lv_aload_n hx hb d_M_rule_53 rfl (lv_at hl 0 rfl) ?_
          refine t_get (v := .int 1) hx hb hts inM hown hC 0 rfl rfl 0 (by decide) (hts _ w_637) (fun _ h => h) rfl d_M_rule_54 ?_
          refine lv_if_ne (tgt := 99) hx hb d_M_rule_57 (by decide) (fun c57 => ?_) (fun c57 => ?_)
          · skip
            exact t_vret hx hb hr hlk hZc hC (oN_mk (c := 1) (a := 0) (S' := (rows, (log, w9, lk), ev9)) (if_neg (fun h => absurd h.2.1.2 (Int32.not_le.mpr c17))) hag (show uA (n_rule ru9 tg9 cu9 da9 ac9 Rs) U by rw [show n_rule ru9 tg9 cu9 da9 ac9 Rs = Rs from if_neg (fun h => absurd h.2.1.2 (Int32.not_le.mpr c17))]; exact huA) (rfl)) (Nat.le_of_ble_eq_true rfl) (Nat.le_of_ble_eq_true rfl) d_M_rule_99
          · first | exact absurd c57 (by decide) | exact absurd (by decide) c57
        · skip
          refine lv_iload hx hb d_M_rule_20 (lv_at hl 4 rfl) ?_
          refine lv_if_lt (tgt := 45) hx hb d_M_rule_22 (by decide) (fun c22 => ?_) (fun c22 => ?_)
          · skip
            refine lv_iconst (v := 1) hx hb d_M_rule_45 (by decide) ?_
            refine lv_goto (tgt := 50) hx hb d_M_rule_46 (by decide) ?_
            refine t_put (ty := .int) (v := .int 1) hx hb hts inM TM tyM nmM hown hC 0 rfl rfl 0 (by decide) (hts _ w_637) (fun _ h => h) rfl (by decide +kernel) rfl rfl (Nat.le_of_ble_eq_true rfl) d_M_rule_50 (fun H locs hC => ?_)
            have hC : tC D cls (ty0 ca) A Z s (wM J ca 1 day (nI ev9) (nI rows.length) M U (nI w9) log lk rest) H locs := hC
            refine lv_aload_n hx hb d_M_rule_53 rfl (lv_at hl 0 rfl) ?_
            refine t_get (v := .int 1) hx hb hts inM hown hC 0 rfl rfl 0 (by decide) (hts _ w_637) (fun _ h => h) rfl d_M_rule_54 ?_
            refine lv_if_ne (tgt := 99) hx hb d_M_rule_57 (by decide) (fun c57 => ?_) (fun c57 => ?_)
            · skip
              exact t_vret hx hb hr hlk hZc hC (oN_mk (c := 1) (a := 0) (S' := (rows, (log, w9, lk), ev9)) (if_neg (fun h => absurd h.2.2.1.1 (Int32.not_le.mpr c22))) hag (show uA (n_rule ru9 tg9 cu9 da9 ac9 Rs) U by rw [show n_rule ru9 tg9 cu9 da9 ac9 Rs = Rs from if_neg (fun h => absurd h.2.2.1.1 (Int32.not_le.mpr c22))]; exact huA) (rfl)) (Nat.le_of_ble_eq_true rfl) (Nat.le_of_ble_eq_true rfl) d_M_rule_99
            · first | exact absurd c57 (by decide) | exact absurd (by decide) c57
          · skip
            refine lv_iload hx hb d_M_rule_25 (lv_at hl 4 rfl) ?_
            refine lv_sipush (v := 10000) hx hb d_M_rule_27 (by decide) ?_
            refine lv_icmp_gt (tgt := 45) hx hb d_M_rule_30 (by decide) (fun c30 => ?_) (fun c30 => ?_)
            · skip
              refine lv_iconst (v := 1) hx hb d_M_rule_45 (by decide) ?_
              refine lv_goto (tgt := 50) hx hb d_M_rule_46 (by decide) ?_
              refine t_put (ty := .int) (v := .int 1) hx hb hts inM TM tyM nmM hown hC 0 rfl rfl 0 (by decide) (hts _ w_637) (fun _ h => h) rfl (by decide +kernel) rfl rfl (Nat.le_of_ble_eq_true rfl) d_M_rule_50 (fun H locs hC => ?_)
              have hC : tC D cls (ty0 ca) A Z s (wM J ca 1 day (nI ev9) (nI rows.length) M U (nI w9) log lk rest) H locs := hC
              refine lv_aload_n hx hb d_M_rule_53 rfl (lv_at hl 0 rfl) ?_
              refine t_get (v := .int 1) hx hb hts inM hown hC 0 rfl rfl 0 (by decide) (hts _ w_637) (fun _ h => h) rfl d_M_rule_54 ?_
              refine lv_if_ne (tgt := 99) hx hb d_M_rule_57 (by decide) (fun c57 => ?_) (fun c57 => ?_)
              · skip
                exact t_vret hx hb hr hlk hZc hC (oN_mk (c := 1) (a := 0) (S' := (rows, (log, w9, lk), ev9)) (if_neg (fun h => absurd h.2.2.1.2 (Int32.not_le.mpr c30))) hag (show uA (n_rule ru9 tg9 cu9 da9 ac9 Rs) U by rw [show n_rule ru9 tg9 cu9 da9 ac9 Rs = Rs from if_neg (fun h => absurd h.2.2.1.2 (Int32.not_le.mpr c30))]; exact huA) (rfl)) (Nat.le_of_ble_eq_true rfl) (Nat.le_of_ble_eq_true rfl) d_M_rule_99
              · first | exact absurd c57 (by decide) | exact absurd (by decide) c57
            · skip
              refine lv_iload hx hb d_M_rule_33 (lv_at hl 5 rfl) ?_
              refine lv_iconst (v := 1) hx hb d_M_rule_35 (by decide) ?_
              refine lv_icmp_lt (tgt := 45) hx hb d_M_rule_36 (by decide) (fun c36 => ?_) (fun c36 => ?_)
              · skip
                refine lv_iconst (v := 1) hx hb d_M_rule_45 (by decide) ?_
                refine lv_goto (tgt := 50) hx hb d_M_rule_46 (by decide) ?_
                refine t_put (ty := .int) (v := .int 1) hx hb hts inM TM tyM nmM hown hC 0 rfl rfl 0 (by decide) (hts _ w_637) (fun _ h => h) rfl (by decide +kernel) rfl rfl (Nat.le_of_ble_eq_true rfl) d_M_rule_50 (fun H locs hC => ?_)
                have hC : tC D cls (ty0 ca) A Z s (wM J ca 1 day (nI ev9) (nI rows.length) M U (nI w9) log lk rest) H locs := hC
                refine lv_aload_n hx hb d_M_rule_53 rfl (lv_at hl 0 rfl) ?_
                refine t_get (v := .int 1) hx hb hts inM hown hC 0 rfl rfl 0 (by decide) (hts _ w_637) (fun _ h => h) rfl d_M_rule_54 ?_
                refine lv_if_ne (tgt := 99) hx hb d_M_rule_57 (by decide) (fun c57 => ?_) (fun c57 => ?_)
                · skip
                  exact t_vret hx hb hr hlk hZc hC (oN_mk (c := 1) (a := 0) (S' := (rows, (log, w9, lk), ev9)) (if_neg (fun h => absurd h.2.2.2.1 (Int32.not_le.mpr c36))) hag (show uA (n_rule ru9 tg9 cu9 da9 ac9 Rs) U by rw [show n_rule ru9 tg9 cu9 da9 ac9 Rs = Rs from if_neg (fun h => absurd h.2.2.2.1 (Int32.not_le.mpr c36))]; exact huA) (rfl)) (Nat.le_of_ble_eq_true rfl) (Nat.le_of_ble_eq_true rfl) d_M_rule_99
                · first | exact absurd c57 (by decide) | exact absurd (by decide) c57
              · skip
                refine lv_iload hx hb d_M_rule_39 (lv_at hl 5 rfl) ?_
                refine lv_iconst (v := 4) hx hb d_M_rule_41 (by decide) ?_
                refine lv_icmp_le (tgt := 49) hx hb d_M_rule_42 (by decide) (fun c42 => ?_) (fun c42 => ?_)
                · skip
                  refine lv_iconst (v := 0) hx hb d_M_rule_49 (by decide) ?_
                  refine t_put (ty := .int) (v := .int 0) hx hb hts inM TM tyM nmM hown hC 0 rfl rfl 0 (by decide) (hts _ w_637) (fun _ h => h) rfl (by decide +kernel) rfl rfl (Nat.le_of_ble_eq_true rfl) d_M_rule_50 (fun H locs hC => ?_)
                  have hC : tC D cls (ty0 ca) A Z s (wM J ca 0 day (nI ev9) (nI rows.length) M U (nI w9) log lk rest) H locs := hC
                  refine lv_aload_n hx hb d_M_rule_53 rfl (lv_at hl 0 rfl) ?_
                  refine t_get (v := .int 0) hx hb hts inM hown hC 0 rfl rfl 0 (by decide) (hts _ w_637) (fun _ h => h) rfl d_M_rule_54 ?_
                  refine lv_if_ne (tgt := 99) hx hb d_M_rule_57 (by decide) (fun c57 => ?_) (fun c57 => ?_)
                  · first | exact absurd c57 (by decide) | exact absurd (by decide) c57
                  · skip
                    obtain ⟨j, hj, rfl⟩ := nI_of2 (x := ru9) (M := 5) (n := 5) (by decide) (Int32.not_lt.mpr (Int32.not_lt.mp c2)) (Int32.not_lt.mp c7)
                    refine lv_aload_n hx hb d_M_rule_60 rfl (lv_at hl 0 rfl) ?_
                    refine t_get (v := .ref (J 13)) hx hb hts inM hown hC 0 rfl rfl 16 (by decide) (hts _ w_653) (fun _ h => h) rfl d_M_rule_61 ?_
                    refine lv_iload_n hx hb d_M_rule_64 rfl (lv_at hl 1 rfl) ?_
                    refine lv_iload hx hb d_M_rule_65 (lv_at hl 5 rfl) ?_
                    refine t_iastN (k := j) hx hb hC 13 0 rfl rfl (by omega) (by decide) d_M_rule_67 (fun H locs hC => ?_)
                    have hC : tC D cls (ty0 ca) A Z s (wM J ca 0 day (nI ev9) (nI rows.length) M (va_up U 3 (upd (U 3) j ac9)) (nI w9) log lk rest) H locs := hC
                    refine gU hC (fun Ug1 hUg1 hC => ?_)
                    refine lv_aload_n hx hb d_M_rule_68 rfl (lv_at hl 0 rfl) ?_
                    refine t_get (v := .ref (J 14)) hx hb hts inM hown hC 0 rfl rfl 17 (by decide) (hts _ w_654) (fun _ h => h) rfl d_M_rule_69 ?_
                    refine lv_iload_n hx hb d_M_rule_72 rfl (lv_at hl 1 rfl) ?_
                    refine lv_iload_n hx hb d_M_rule_73 rfl (lv_at hl 2 rfl) ?_
                    refine t_iastN (k := j) hx hb hC 14 0 rfl rfl (by omega) (by decide) d_M_rule_74 (fun H locs hC => ?_)
                    have hC : tC D cls (ty0 ca) A Z s (wM J ca 0 day (nI ev9) (nI rows.length) M (va_up Ug1 0 (upd (Ug1 0) j tg9)) (nI w9) log lk rest) H locs := hC
                    refine gU hC (fun Ug2 hUg2 hC => ?_)
                    refine lv_aload_n hx hb d_M_rule_75 rfl (lv_at hl 0 rfl) ?_
                    refine t_get (v := .ref (J 15)) hx hb hts inM hown hC 0 rfl rfl 18 (by decide) (hts _ w_655) (fun _ h => h) rfl d_M_rule_76 ?_
                    refine lv_iload_n hx hb d_M_rule_79 rfl (lv_at hl 1 rfl) ?_
                    refine lv_iload_n hx hb d_M_rule_80 rfl (lv_at hl 3 rfl) ?_
                    refine t_zastN (k := j) hx hb hC 15 1 rfl rfl (by omega) (by decide) (hb01) d_M_rule_81 (fun H locs hC => ?_)
                    have hC : tC D cls (ty0 ca) A Z s (wM J ca 0 day (nI ev9) (nI rows.length) M (va_up Ug2 1 (upd (Ug2 1) j cu9)) (nI w9) log lk rest) H locs := hC
                    refine gU hC (fun Ug3 hUg3 hC => ?_)
                    refine lv_aload_n hx hb d_M_rule_82 rfl (lv_at hl 0 rfl) ?_
                    refine t_get (v := .ref (J 16)) hx hb hts inM hown hC 0 rfl rfl 19 (by decide) (hts _ w_656) (fun _ h => h) rfl d_M_rule_83 ?_
                    refine lv_iload_n hx hb d_M_rule_86 rfl (lv_at hl 1 rfl) ?_
                    refine lv_iload hx hb d_M_rule_87 (lv_at hl 4 rfl) ?_
                    refine t_iastN (k := j) hx hb hC 16 0 rfl rfl (by omega) (by decide) d_M_rule_89 (fun H locs hC => ?_)
                    have hC : tC D cls (ty0 ca) A Z s (wM J ca 0 day (nI ev9) (nI rows.length) M (va_up Ug3 2 (upd (Ug3 2) j da9)) (nI w9) log lk rest) H locs := hC
                    refine gU hC (fun Ug4 hUg4 hC => ?_)
                    refine lv_aload_n hx hb d_M_rule_90 rfl (lv_at hl 0 rfl) ?_
                    refine lv_bipush (v := 9) hx hb d_M_rule_91 (by decide) ?_
                    refine lv_iload_n hx hb d_M_rule_93 rfl (lv_at hl 1 rfl) ?_
                    refine lv_iload hx hb d_M_rule_94 (lv_at hl 5 rfl) ?_
                    refine t_call (t_invV (As := [.int 9, .int (nI j), .int ac9]) (rest := []) hx hb hown (hts _ w_725) (hts _ w_727) (hts _ s_M_enter) (hts _ w_728) ⟨by decide, by decide⟩ (t_recv (q0 := 0) hC rfl rfl) rfl d_M_rule_96) (c_M_enter hZc hw9) hZc tb_good hts w_7 hC (hl.1.trans hml.symm) ⟨Nat.le_of_ble_eq_true rfl, Nat.le_of_ble_eq_true rfl, Nat.le_of_ble_eq_true rfl, Nat.le_of_ble_eq_true rfl⟩ (Nat.le_of_ble_eq_true rfl) (fun E q ce w1 H1 l1 hp => hp.elim) (fun v w1 H locs hp hC => ?_)
                    obtain ⟨rfl, hwe9⟩ := hp
                    rw [hwe9] at hC
                    have hC : tC D cls (ty0 ca) A Z s (wM J ca 0 day (nI ev9) (nI rows.length) M Ug4 (nI (w9 + 1)) ((lg_wr (log, w9, lk) day 9 (nI j) ac9).1) ((lg_wr (log, w9, lk) day 9 (nI j) ac9).2.2) rest) H locs := hC
                    refine W.eq (g2 := F0 m 99 ls []) rfl ?_
                    have hcol3 : Ug4 3 = upd (U 3) j ac9 := (show Ug4 3 = Ug1 3 from (up_ne hUg4 (by decide)).trans ((up_ne hUg3 (by decide)).trans (up_ne hUg2 (by decide)))).trans ((up_eq hUg1).trans (by rw [show U 3 = U 3 from rfl]))
                    have hcol0 : Ug4 0 = upd (U 0) j tg9 := (show Ug4 0 = Ug2 0 from (up_ne hUg4 (by decide)).trans (up_ne hUg3 (by decide))).trans ((up_eq hUg2).trans (by rw [show Ug1 0 = U 0 from up_ne hUg1 (by decide)]))
                    have hcol1 : Ug4 1 = upd (U 1) j cu9 := (show Ug4 1 = Ug3 1 from up_ne hUg4 (by decide)).trans ((up_eq hUg3).trans (by rw [show Ug2 1 = U 1 from (up_ne hUg2 (by decide)).trans (up_ne hUg1 (by decide))]))
                    have hcol2 : Ug4 2 = upd (U 2) j da9 := (show Ug4 2 = Ug4 2 from rfl).trans ((up_eq hUg4).trans (by rw [show Ug3 2 = U 2 from (up_ne hUg3 (by decide)).trans ((up_ne hUg2 (by decide)).trans (up_ne hUg1 (by decide)))]))
                    exact t_vret hx hb hr hlk hZc hC (oN_mk (c := 0) (a := 0) (S' := p_log day 9 (nI j) ac9 (rows, (log, w9, lk), ev9)) (if_pos ⟨⟨Int32.not_lt.mp c2, Int32.not_lt.mp c7⟩, ⟨Int32.not_lt.mp c12, Int32.not_lt.mp c17⟩, ⟨Int32.not_lt.mp c22, Int32.not_lt.mp c30⟩, Int32.not_lt.mp c36, c42⟩) hag (show uA (n_rule (nI j) tg9 cu9 da9 ac9 Rs) Ug4 by rw [show n_rule (nI j) tg9 cu9 da9 ac9 Rs = _ from if_pos ⟨⟨Int32.not_lt.mp c2, Int32.not_lt.mp c7⟩, ⟨Int32.not_lt.mp c12, Int32.not_lt.mp c17⟩, ⟨Int32.not_lt.mp c22, Int32.not_lt.mp c30⟩, Int32.not_lt.mp c36, c42⟩, nI_clamp (by omega)]; exact uA_set hRs huA (by omega) (fun c hc => by rcases (by omega : c = 0 ∨ c = 1 ∨ c = 2 ∨ c = 3) with rfl | rfl | rfl | rfl; exact hcol0; exact hcol1; exact hcol2; exact hcol3)) (rfl)) (Nat.le_of_ble_eq_true rfl) (Nat.le_of_ble_eq_true rfl) d_M_rule_99
                · skip
                  refine lv_iconst (v := 1) hx hb d_M_rule_45 (by decide) ?_
                  refine lv_goto (tgt := 50) hx hb d_M_rule_46 (by decide) ?_
                  refine t_put (ty := .int) (v := .int 1) hx hb hts inM TM tyM nmM hown hC 0 rfl rfl 0 (by decide) (hts _ w_637) (fun _ h => h) rfl (by decide +kernel) rfl rfl (Nat.le_of_ble_eq_true rfl) d_M_rule_50 (fun H locs hC => ?_)
                  have hC : tC D cls (ty0 ca) A Z s (wM J ca 1 day (nI ev9) (nI rows.length) M U (nI w9) log lk rest) H locs := hC
                  refine lv_aload_n hx hb d_M_rule_53 rfl (lv_at hl 0 rfl) ?_
                  refine t_get (v := .int 1) hx hb hts inM hown hC 0 rfl rfl 0 (by decide) (hts _ w_637) (fun _ h => h) rfl d_M_rule_54 ?_
                  refine lv_if_ne (tgt := 99) hx hb d_M_rule_57 (by decide) (fun c57 => ?_) (fun c57 => ?_)
                  · skip
                    exact t_vret hx hb hr hlk hZc hC (oN_mk (c := 1) (a := 0) (S' := (rows, (log, w9, lk), ev9)) (if_neg (fun h => c42 h.2.2.2.2)) hag (show uA (n_rule ru9 tg9 cu9 da9 ac9 Rs) U by rw [show n_rule ru9 tg9 cu9 da9 ac9 Rs = Rs from if_neg (fun h => c42 h.2.2.2.2)]; exact huA) (rfl)) (Nat.le_of_ble_eq_true rfl) (Nat.le_of_ble_eq_true rfl) d_M_rule_99
                  · first | exact absurd c57 (by decide) | exact absurd (by decide) c57

theorem uA_set1 {Rs : List RW} {U U2 : Nat → Nat → Int32} {j c : Nat} {x : Int32} (hl : Rs.length = 6) (hu : uA Rs U) (hj : j < 6) (h : va_up U c (upd (U c) j x) = U2) : uA (Rs.set j (upd (rw_at Rs j) c x)) U2 := by
  refine uA_set hl hu hj (fun d hd => ?_)
  by_cases e : d = c
  · subst e
    rw [up_eq h, rw_upd_eq]
  · rw [up_ne h e, rw_upd_ne e, ← hu j hj d hd]
    funext k
    by_cases ek : k = j
    · rw [ek, pk_us]
    · rw [pk_un ek]

set_option maxRecDepth 100000 in
set_option maxHeartbeats 4000000 in
theorem c_M_unrule {l : Launch} {D : va_G} {A : Nat → Prop} {Z : State → Heap → Prop} (hZc : tZ A Z) {J : Nat → Nat} {ca : Nat → ClassId} {code day : Int32} {M U : Nat → Nat → Int32} {log : Nat → Int32} {lk : Int64} {rest : va_W} {ru9 : Int32} {rows : List RW} {w9 ev9 : Nat} (hw9 : w9 < 2 ^ 31) (hag : mA rows M) (hPI : PI (rows, (log, w9, lk), ev9)) {Rs : List RW} (huA : uA Rs U) (hRs : Rs.length = 6) : tM l y_M_unrule tb ({ frames := 1, cells := 0, slots := 0, locals := 25 }) D cls (ty0 ca) A Z [.ref (J 0), .int ru9] (wM J ca code day (nI ev9) (nI rows.length) M U (nI w9) log lk rest) (oM J ca (o_unrule day ru9 Rs (rows, (log, w9, lk), ev9)) day (n_unrule ru9 Rs) rest) (xN) := by
  refine t_ofW (by decide) w_769 (Nat.le_of_ble_eq_true rfl) ?_
  intro p e s m below meth c ls hx hb hr hts hown hlk hnm hml hex hl hC
  have hown : s.vm.findClass "RetentionVaultModel" = some m.cls := hown
  have hl : lv_has ls 2 [(0, .ref (J 0)), (1, .int ru9)] := hl
  have h40 : rows.length ≤ 40 := hPI.1
  have hcu : rw_CurOK rows := hPI.2.1
  refine lv_aload_n hx hb d_M_unrule_0 rfl (lv_at hl 0 rfl) ?_
  refine lv_iload_n hx hb d_M_unrule_1 rfl (lv_at hl 1 rfl) ?_
  refine lv_if_lt (tgt := 10) hx hb d_M_unrule_2 (by decide) (fun c2 => ?_) (fun c2 => ?_)
  · skip
    refine lv_iconst (v := 1) hx hb d_M_unrule_10 (by decide) ?_
    refine lv_goto (tgt := 15) hx hb d_M_unrule_11 (by decide) ?_
    refine t_put (ty := .int) (v := .int 1) hx hb hts inM TM tyM nmM hown hC 0 rfl rfl 0 (by decide) (hts _ w_637) (fun _ h => h) rfl (by decide +kernel) rfl rfl (Nat.le_of_ble_eq_true rfl) d_M_unrule_15 (fun H locs hC => ?_)
    have hC : tC D cls (ty0 ca) A Z s (wM J ca 1 day (nI ev9) (nI rows.length) M U (nI w9) log lk rest) H locs := hC
    refine lv_aload_n hx hb d_M_unrule_18 rfl (lv_at hl 0 rfl) ?_
    refine t_get (v := .int 1) hx hb hts inM hown hC 0 rfl rfl 0 (by decide) (hts _ w_637) (fun _ h => h) rfl d_M_unrule_19 ?_
    refine lv_if_gt (tgt := 34) hx hb d_M_unrule_22 (by decide) (fun c22 => ?_) (fun c22 => ?_)
    · skip
      refine lv_iconst (v := 0) hx hb d_M_unrule_34 (by decide) ?_
      exact t_zret hx hb hr hlk (Or.inl rfl) hZc hC (oM_mk (c := 1) (a := 0) (S' := (rows, (log, w9, lk), ev9)) (if_neg (fun h => absurd h.1 (Int32.not_le.mpr c2))) (fun h => absurd h (by decide)) hag (show uA (n_unrule ru9 Rs) U by rw [show n_unrule ru9 Rs = Rs from if_neg (fun h => absurd h.1 (Int32.not_le.mpr c2))]; exact huA) (rfl)) (Nat.le_of_ble_eq_true rfl) (Nat.le_of_ble_eq_true rfl) d_M_unrule_35
    · first | exact absurd c22 (by decide) | exact absurd (by decide) c22
  · skip
    refine lv_iload_n hx hb d_M_unrule_5 rfl (lv_at hl 1 rfl) ?_
    refine lv_iconst (v := 5) hx hb d_M_unrule_6 (by decide) ?_
    refine lv_icmp_le (tgt := 14) hx hb d_M_unrule_7 (by decide) (fun c7 => ?_) (fun c7 => ?_)
    · skip
      refine lv_iconst (v := 0) hx hb d_M_unrule_14 (by decide) ?_
      refine t_put (ty := .int) (v := .int 0) hx hb hts inM TM tyM nmM hown hC 0 rfl rfl 0 (by decide) (hts _ w_637) (fun _ h => h) rfl (by decide +kernel) rfl rfl (Nat.le_of_ble_eq_true rfl) d_M_unrule_15 (fun H locs hC => ?_)
      have hC : tC D cls (ty0 ca) A Z s (wM J ca 0 day (nI ev9) (nI rows.length) M U (nI w9) log lk rest) H locs := hC
      refine lv_aload_n hx hb d_M_unrule_18 rfl (lv_at hl 0 rfl) ?_
      refine t_get (v := .int 0) hx hb hts inM hown hC 0 rfl rfl 0 (by decide) (hts _ w_637) (fun _ h => h) rfl d_M_unrule_19 ?_
      refine lv_if_gt (tgt := 34) hx hb d_M_unrule_22 (by decide) (fun c22 => ?_) (fun c22 => ?_)
      · first | exact absurd c22 (by decide) | exact absurd (by decide) c22
      · skip
        obtain ⟨j, hj, rfl⟩ := nI_of2 (x := ru9) (M := 5) (n := 5) (by decide) (Int32.not_lt.mpr (Int32.not_lt.mp c2)) (c7)
        refine lv_aload_n hx hb d_M_unrule_25 rfl (lv_at hl 0 rfl) ?_
        refine t_get (v := .ref (J 13)) hx hb hts inM hown hC 0 rfl rfl 16 (by decide) (hts _ w_653) (fun _ h => h) rfl d_M_unrule_26 ?_
        refine lv_iload_n hx hb d_M_unrule_29 rfl (lv_at hl 1 rfl) ?_
        refine t_ialdN (k := j) hx hb hC 13 0 rfl rfl (by omega) (by decide) d_M_unrule_30 ?_
        refine lv_if_ne (tgt := 36) hx hb d_M_unrule_31 (by decide) (fun c31 => ?_) (fun c31 => ?_)
        · skip
          have hz : ¬ rw_at Rs (nI j).toNatClampNeg 3 = 0 := by rw [nI_clamp (by omega), ← huA j (by omega) 3 (by decide)]; exact c31
          refine lv_aload_n hx hb d_M_unrule_36 rfl (lv_at hl 0 rfl) ?_
          refine t_get (v := .ref (J 13)) hx hb hts inM hown hC 0 rfl rfl 16 (by decide) (hts _ w_653) (fun _ h => h) rfl d_M_unrule_37 ?_
          refine lv_iload_n hx hb d_M_unrule_40 rfl (lv_at hl 1 rfl) ?_
          refine lv_iconst (v := 0) hx hb d_M_unrule_41 (by decide) ?_
          refine t_iastN (k := j) hx hb hC 13 0 rfl rfl (by omega) (by decide) d_M_unrule_42 (fun H locs hC => ?_)
          have hC : tC D cls (ty0 ca) A Z s (wM J ca 0 day (nI ev9) (nI rows.length) M (va_up U 3 (upd (U 3) j 0)) (nI w9) log lk rest) H locs := hC
          refine gU hC (fun Ug1 hUg1 hC => ?_)
          refine lv_aload_n hx hb d_M_unrule_43 rfl (lv_at hl 0 rfl) ?_
          refine lv_bipush (v := 10) hx hb d_M_unrule_44 (by decide) ?_
          refine lv_iload_n hx hb d_M_unrule_46 rfl (lv_at hl 1 rfl) ?_
          refine lv_iconst (v := 0) hx hb d_M_unrule_47 (by decide) ?_
          refine t_call (t_invV (As := [.int 10, .int (nI j), .int 0]) (rest := []) hx hb hown (hts _ w_725) (hts _ w_727) (hts _ s_M_enter) (hts _ w_728) ⟨by decide, by decide⟩ (t_recv (q0 := 0) hC rfl rfl) rfl d_M_unrule_48) (c_M_enter hZc hw9) hZc tb_good hts w_7 hC (hl.1.trans hml.symm) ⟨Nat.le_of_ble_eq_true rfl, Nat.le_of_ble_eq_true rfl, Nat.le_of_ble_eq_true rfl, Nat.le_of_ble_eq_true rfl⟩ (Nat.le_of_ble_eq_true rfl) (fun E q ce w1 H1 l1 hp => hp.elim) (fun v w1 H locs hp hC => ?_)
          obtain ⟨rfl, hwe9⟩ := hp
          rw [hwe9] at hC
          have hC : tC D cls (ty0 ca) A Z s (wM J ca 0 day (nI ev9) (nI rows.length) M Ug1 (nI (w9 + 1)) ((lg_wr (log, w9, lk) day 10 (nI j) 0).1) ((lg_wr (log, w9, lk) day 10 (nI j) 0).2.2) rest) H locs := hC
          refine W.eq (g2 := F0 m 51 ls []) rfl ?_
          refine lv_iconst (v := 1) hx hb d_M_unrule_51 (by decide) ?_
          exact t_zret hx hb hr hlk (Or.inr rfl) hZc hC (oM_mk (c := 0) (a := 1) (S' := p_log day 10 (nI j) 0 (rows, (log, w9, lk), ev9)) ((if_pos ⟨Int32.not_lt.mp c2, c7⟩).trans (if_neg hz)) (fun _ => rfl) hag (show uA (n_unrule (nI j) Rs) Ug1 by rw [show n_unrule (nI j) Rs = _ from (if_pos ⟨Int32.not_lt.mp c2, c7⟩).trans (if_neg hz), nI_clamp (by omega)]; exact uA_set1 hRs huA (by omega) hUg1) (rfl)) (Nat.le_of_ble_eq_true rfl) (Nat.le_of_ble_eq_true rfl) d_M_unrule_52
        · skip
          have hz : rw_at Rs (nI j).toNatClampNeg 3 = 0 := by rw [nI_clamp (by omega), ← huA j (by omega) 3 (by decide)]; exact c31
          refine lv_iconst (v := 0) hx hb d_M_unrule_34 (by decide) ?_
          exact t_zret hx hb hr hlk (Or.inl rfl) hZc hC (oM_mk (c := 0) (a := 0) (S' := (rows, (log, w9, lk), ev9)) ((if_pos ⟨Int32.not_lt.mp c2, c7⟩).trans (if_pos hz)) (fun _ => rfl) hag (show uA (n_unrule (nI j) Rs) U by rw [show n_unrule (nI j) Rs = Rs from (if_pos ⟨Int32.not_lt.mp c2, c7⟩).trans (if_pos hz)]; exact huA) (rfl)) (Nat.le_of_ble_eq_true rfl) (Nat.le_of_ble_eq_true rfl) d_M_unrule_35
    · skip
      refine lv_iconst (v := 1) hx hb d_M_unrule_10 (by decide) ?_
      refine lv_goto (tgt := 15) hx hb d_M_unrule_11 (by decide) ?_
      refine t_put (ty := .int) (v := .int 1) hx hb hts inM TM tyM nmM hown hC 0 rfl rfl 0 (by decide) (hts _ w_637) (fun _ h => h) rfl (by decide +kernel) rfl rfl (Nat.le_of_ble_eq_true rfl) d_M_unrule_15 (fun H locs hC => ?_)
      have hC : tC D cls (ty0 ca) A Z s (wM J ca 1 day (nI ev9) (nI rows.length) M U (nI w9) log lk rest) H locs := hC
      refine lv_aload_n hx hb d_M_unrule_18 rfl (lv_at hl 0 rfl) ?_
      refine t_get (v := .int 1) hx hb hts inM hown hC 0 rfl rfl 0 (by decide) (hts _ w_637) (fun _ h => h) rfl d_M_unrule_19 ?_
      refine lv_if_gt (tgt := 34) hx hb d_M_unrule_22 (by decide) (fun c22 => ?_) (fun c22 => ?_)
      · skip
        refine lv_iconst (v := 0) hx hb d_M_unrule_34 (by decide) ?_
        exact t_zret hx hb hr hlk (Or.inl rfl) hZc hC (oM_mk (c := 1) (a := 0) (S' := (rows, (log, w9, lk), ev9)) (if_neg (fun h => c7 h.2)) (fun h => absurd h (by decide)) hag (show uA (n_unrule ru9 Rs) U by rw [show n_unrule ru9 Rs = Rs from if_neg (fun h => c7 h.2)]; exact huA) (rfl)) (Nat.le_of_ble_eq_true rfl) (Nat.le_of_ble_eq_true rfl) d_M_unrule_35
      · first | exact absurd c22 (by decide) | exact absurd (by decide) c22

theorem f_two {day : Int32} {r : RW} (hk : kO r) (h2 : 2 ≤ r 5) : (r 5 = 2 → day + 1 = f_day day r) ∧ (¬ r 5 = 2 → day + 3 = f_day day r) := by
  unfold f_day
  constructor
  · intro h; rw [h, if_neg (by decide)]
  · intro h
    have h3 : r 5 = 3 := by
      rcases hk.2 with ⟨q, -⟩ | ⟨-, q, -⟩
      · rw [q] at h2; exact absurd h2 (by decide)
      · apply Int32.toInt_inj.mp
        have a1 := Int32.le_iff_toInt_le.mp h2
        have a2 := Int32.le_iff_toInt_le.mp q
        have a3 : (r 5).toInt ≠ (2 : Int32).toInt := fun e => h (Int32.toInt_inj.mp e)
        have e2 : (2 : Int32).toInt = 2 := by decide
        have e3 : (3 : Int32).toInt = 3 := by decide
        rw [e2] at a1 a3
        rw [e3] at a2 ⊢
        omega
    rw [if_pos h3]

set_option maxRecDepth 100000 in
set_option maxHeartbeats 4000000 in
theorem c_M_fetch {l : Launch} {D : va_G} {A : Nat → Prop} {Z : State → Heap → Prop} (hZc : tZ A Z) {J : Nat → Nat} {ca : Nat → ClassId} {code day : Int32} {M U : Nat → Nat → Int32} {log : Nat → Int32} {lk : Int64} {rest : va_W} {v9 days : Int32} {rows : List RW} {w9 ev9 : Nat} (hw9 : w9 < 2 ^ 31) (hag : mA rows M) (hPI : PI (rows, (log, w9, lk), ev9)) {Rs : List RW} (huA : uA Rs U) : tM l y_M_fetch tb ({ frames := 2, cells := 0, slots := 0, locals := 45 }) D cls (ty0 ca) A Z [.ref (J 0), .int v9, .int days] (wM J ca code day (nI ev9) (nI rows.length) M U (nI w9) log lk rest) (oM J ca (o_fetch day v9 days (rows, (log, w9, lk), ev9)) day Rs rest) (xN) := by
  refine t_ofW (by decide) w_805 (Nat.le_of_ble_eq_true rfl) ?_
  intro p e s m below meth c ls hx hb hr hts hown hlk hnm hml hex hl hC
  have hown : s.vm.findClass "RetentionVaultModel" = some m.cls := hown
  have hl : lv_has ls 4 [(0, .ref (J 0)), (1, .int v9), (2, .int days)] := hl
  have h40 : rows.length ≤ 40 := hPI.1
  have hcu : rw_CurOK rows := hPI.2.1
  refine lv_aload_n hx hb d_M_fetch_0 rfl (lv_at hl 0 rfl) ?_
  refine lv_iload_n hx hb d_M_fetch_1 rfl (lv_at hl 1 rfl) ?_
  refine t_call (t_invV (As := [.int v9]) (rest := []) hx hb hown (hts _ w_754) (hts _ w_756) (hts _ s_M_object) (hts _ w_757) ⟨by decide, by decide⟩ (t_recv (q0 := 0) hC rfl rfl) rfl d_M_fetch_2) (c_M_object hZc hag h40) hZc tb_good hts w_7 hC (hl.1.trans hml.symm) ⟨Nat.le_of_ble_eq_true rfl, Nat.le_of_ble_eq_true rfl, Nat.le_of_ble_eq_true rfl, Nat.le_of_ble_eq_true rfl⟩ (Nat.le_of_ble_eq_true rfl) (fun E q ce w1 H1 l1 hp => hp.elim) (fun v w1 H locs hp hC => ?_)
  obtain ⟨rfl, hwe9⟩ := hp
  rw [hwe9] at hC
  have hC : tC D cls (ty0 ca) A Z s (wM J ca code day (nI ev9) (nI rows.length) M U (nI w9) log lk rest) H locs := hC
  refine W.eq (g2 := F0 m 5 ls [.int (oI (rw_obj rows v9))]) rfl ?_
  rcases op_two (rw_obj rows v9) with hlo | ⟨i, hlo⟩
  · refine W.eq (g2 := F0 m 5 ls [.int (-1)]) (by rw [hlo]; rfl) ?_
    refine lv_istore_n (lv' := [(3, .int (-1)), (0, .ref (J 0)), (1, .int v9), (2, .int days)]) hx hb d_M_fetch_5 rfl hl (by decide) rfl (fun ls hl => ?_)
    refine lv_aload_n hx hb d_M_fetch_6 rfl (lv_at hl 1 rfl) ?_
    refine lv_iload_n hx hb d_M_fetch_7 rfl (lv_at hl 0 rfl) ?_
    refine lv_if_ge (tgt := 15) hx hb d_M_fetch_8 (by decide) (fun c8 => ?_) (fun c8 => ?_)
    · first | exact absurd c8 (by decide) | exact absurd (by decide) c8
    · skip
      refine lv_iconst (v := 1) hx hb d_M_fetch_11 (by decide) ?_
      refine lv_goto (tgt := 45) hx hb d_M_fetch_12 (by decide) ?_
      refine t_put (ty := .int) (v := .int 1) hx hb hts inM TM tyM nmM hown hC 0 rfl rfl 0 (by decide) (hts _ w_637) (fun _ h => h) rfl (by decide +kernel) rfl rfl (Nat.le_of_ble_eq_true rfl) d_M_fetch_45 (fun H locs hC => ?_)
      have hC : tC D cls (ty0 ca) A Z s (wM J ca 1 day (nI ev9) (nI rows.length) M U (nI w9) log lk rest) H locs := hC
      refine lv_aload_n hx hb d_M_fetch_48 rfl (lv_at hl 1 rfl) ?_
      refine t_get (v := .int 1) hx hb hts inM hown hC 0 rfl rfl 0 (by decide) (hts _ w_637) (fun _ h => h) rfl d_M_fetch_49 ?_
      refine lv_if_le (tgt := 57) hx hb d_M_fetch_52 (by decide) (fun c52 => ?_) (fun c52 => ?_)
      · first | exact absurd c52 (by decide) | exact absurd (by decide) c52
      · skip
        refine lv_iconst (v := 0) hx hb d_M_fetch_55 (by decide) ?_
        exact t_iret hx hb hr hlk hZc hC (oM_mk (c := 1) (a := 0) (S' := (rows, (log, w9, lk), ev9)) (of_none hlo) (fun h => absurd h (by decide)) hag huA (rfl)) (Nat.le_of_ble_eq_true rfl) (Nat.le_of_ble_eq_true rfl) d_M_fetch_56
  · have hi : i < rows.length := rw_obj_lt hlo
    have hip := nI_pos (n := i) (by omega)
    refine W.eq (g2 := F0 m 5 ls [.int (nI i)]) (by rw [hlo]; rfl) ?_
    refine lv_istore_n (lv' := [(3, .int (nI i)), (0, .ref (J 0)), (1, .int v9), (2, .int days)]) hx hb d_M_fetch_5 rfl hl (by decide) rfl (fun ls hl => ?_)
    refine lv_aload_n hx hb d_M_fetch_6 rfl (lv_at hl 1 rfl) ?_
    refine lv_iload_n hx hb d_M_fetch_7 rfl (lv_at hl 0 rfl) ?_
    refine lv_if_ge (tgt := 15) hx hb d_M_fetch_8 (by decide) (fun c8 => ?_) (fun c8 => ?_)
    · skip
      refine lv_iload_n hx hb d_M_fetch_15 rfl (lv_at hl 3 rfl) ?_
      refine lv_iconst (v := 1) hx hb d_M_fetch_16 (by decide) ?_
      refine lv_icmp_lt (tgt := 26) hx hb d_M_fetch_17 (by decide) (fun c17 => ?_) (fun c17 => ?_)
      · skip
        refine lv_iconst (v := 2) hx hb d_M_fetch_26 (by decide) ?_
        refine lv_goto (tgt := 45) hx hb d_M_fetch_27 (by decide) ?_
        refine t_put (ty := .int) (v := .int 2) hx hb hts inM TM tyM nmM hown hC 0 rfl rfl 0 (by decide) (hts _ w_637) (fun _ h => h) rfl (by decide +kernel) rfl rfl (Nat.le_of_ble_eq_true rfl) d_M_fetch_45 (fun H locs hC => ?_)
        have hC : tC D cls (ty0 ca) A Z s (wM J ca 2 day (nI ev9) (nI rows.length) M U (nI w9) log lk rest) H locs := hC
        refine lv_aload_n hx hb d_M_fetch_48 rfl (lv_at hl 1 rfl) ?_
        refine t_get (v := .int 2) hx hb hts inM hown hC 0 rfl rfl 0 (by decide) (hts _ w_637) (fun _ h => h) rfl d_M_fetch_49 ?_
        refine lv_if_le (tgt := 57) hx hb d_M_fetch_52 (by decide) (fun c52 => ?_) (fun c52 => ?_)
        · first | exact absurd c52 (by decide) | exact absurd (by decide) c52
        · skip
          refine lv_iconst (v := 0) hx hb d_M_fetch_55 (by decide) ?_
          exact t_iret hx hb hr hlk hZc hC (oM_mk (c := 2) (a := 0) (S' := (rows, (log, w9, lk), ev9)) (of_bad hlo (fun h => absurd h.1 (Int32.not_le.mpr c17))) (fun h => absurd h (by decide)) hag huA (rfl)) (Nat.le_of_ble_eq_true rfl) (Nat.le_of_ble_eq_true rfl) d_M_fetch_56
      · skip
        refine lv_iload_n hx hb d_M_fetch_20 rfl (lv_at hl 3 rfl) ?_
        refine lv_bipush (v := 100) hx hb d_M_fetch_21 (by decide) ?_
        refine lv_icmp_le (tgt := 30) hx hb d_M_fetch_23 (by decide) (fun c23 => ?_) (fun c23 => ?_)
        · skip
          refine lv_aload_n hx hb d_M_fetch_30 rfl (lv_at hl 1 rfl) ?_
          refine t_get (v := .ref (J 7)) hx hb hts inM hown hC 0 rfl rfl 10 (by decide) (hts _ w_647) (fun _ h => h) rfl d_M_fetch_31 ?_
          refine lv_iload_n hx hb d_M_fetch_34 rfl (lv_at hl 0 rfl) ?_
          refine t_ialdN (k := i) hx hb hC 7 0 rfl rfl (by omega) (by decide) d_M_fetch_35 ?_
          refine lv_iconst (v := 2) hx hb d_M_fetch_36 (by decide) ?_
          refine lv_icmp_ge (tgt := 44) hx hb d_M_fetch_37 (by decide) (fun c37 => ?_) (fun c37 => ?_)
          · skip
            refine lv_iconst (v := 0) hx hb d_M_fetch_44 (by decide) ?_
            refine t_put (ty := .int) (v := .int 0) hx hb hts inM TM tyM nmM hown hC 0 rfl rfl 0 (by decide) (hts _ w_637) (fun _ h => h) rfl (by decide +kernel) rfl rfl (Nat.le_of_ble_eq_true rfl) d_M_fetch_45 (fun H locs hC => ?_)
            have hC : tC D cls (ty0 ca) A Z s (wM J ca 0 day (nI ev9) (nI rows.length) M U (nI w9) log lk rest) H locs := hC
            refine lv_aload_n hx hb d_M_fetch_48 rfl (lv_at hl 1 rfl) ?_
            refine t_get (v := .int 0) hx hb hts inM hown hC 0 rfl rfl 0 (by decide) (hts _ w_637) (fun _ h => h) rfl d_M_fetch_49 ?_
            refine lv_if_le (tgt := 57) hx hb d_M_fetch_52 (by decide) (fun c52 => ?_) (fun c52 => ?_)
            · skip
              refine lv_aload_n hx hb d_M_fetch_57 rfl (lv_at hl 1 rfl) ?_
              refine t_get (v := .ref (J 11)) hx hb hts inM hown hC 0 rfl rfl 14 (by decide) (hts _ w_651) (fun _ h => h) rfl d_M_fetch_58 ?_
              refine lv_iload_n hx hb d_M_fetch_61 rfl (lv_at hl 0 rfl) ?_
              refine lv_aload_n hx hb d_M_fetch_62 rfl (lv_at hl 1 rfl) ?_
              refine t_get (v := .int day) hx hb hts inM hown hC 0 rfl rfl 1 (by decide) (hts _ w_638) (fun _ h => h) rfl d_M_fetch_63 ?_
              refine lv_aload_n hx hb d_M_fetch_66 rfl (lv_at hl 1 rfl) ?_
              refine t_get (v := .ref (J 7)) hx hb hts inM hown hC 0 rfl rfl 10 (by decide) (hts _ w_647) (fun _ h => h) rfl d_M_fetch_67 ?_
              refine lv_iload_n hx hb d_M_fetch_70 rfl (lv_at hl 0 rfl) ?_
              refine t_ialdN (k := i) hx hb hC 7 0 rfl rfl (by omega) (by decide) d_M_fetch_71 ?_
              refine lv_iconst (v := 2) hx hb d_M_fetch_72 (by decide) ?_
              refine lv_icmp_ne (tgt := 80) hx hb d_M_fetch_73 (by decide) (fun c73 => ?_) (fun c73 => ?_)
              · skip
                refine lv_iconst (v := 3) hx hb d_M_fetch_80 (by decide) ?_
                refine lv_iadd hx hb d_M_fetch_81 ?_
                refine W.eq (g2 := F0 m 82 ls [.int (f_day day (rw_at rows i)), .int (nI i), .ref (J 11)]) (by rw [(f_two (day := day) (hPI.2.2.1 i hi) (by rw [← hag i hi 5 (by decide) (by decide)]; exact c37)).2 (fun h => c73 (by rw [hag i hi 5 (by decide) (by decide)]; exact h))]) ?_
                refine t_iastN (k := i) hx hb hC 11 0 rfl rfl (by omega) (by decide) d_M_fetch_82 (fun H locs hC => ?_)
                have hC : tC D cls (ty0 ca) A Z s (wM J ca 0 day (nI ev9) (nI rows.length) (va_up M 11 (upd (M 11) i (f_day day (rw_at rows i)))) U (nI w9) log lk rest) H locs := hC
                refine gM hC (fun Mg1 hMg1 hC => ?_)
                refine lv_aload_n hx hb d_M_fetch_83 rfl (lv_at hl 1 rfl) ?_
                refine t_get (v := .ref (J 12)) hx hb hts inM hown hC 0 rfl rfl 15 (by decide) (hts _ w_652) (fun _ h => h) rfl d_M_fetch_84 ?_
                refine lv_iload_n hx hb d_M_fetch_87 rfl (lv_at hl 0 rfl) ?_
                refine lv_aload_n hx hb d_M_fetch_88 rfl (lv_at hl 1 rfl) ?_
                refine t_get (v := .ref (J 11)) hx hb hts inM hown hC 0 rfl rfl 14 (by decide) (hts _ w_651) (fun _ h => h) rfl d_M_fetch_89 ?_
                refine lv_iload_n hx hb d_M_fetch_92 rfl (lv_at hl 0 rfl) ?_
                refine t_ialdN (k := i) hx hb hC 11 0 rfl rfl (by omega) (by decide) d_M_fetch_93 ?_
                have h11a : Mg1 11 i = f_day day (rw_at rows i) := by rw [up_eq hMg1, pk_us]
                refine W.eq (g2 := F0 m 94 ls [.int (f_day day (rw_at rows i)), .int (nI i), .ref (J 12)]) (by rw [h11a]) ?_
                refine lv_iload_n hx hb d_M_fetch_94 rfl (lv_at hl 3 rfl) ?_
                refine lv_iadd hx hb d_M_fetch_95 ?_
                refine t_iastN (k := i) hx hb hC 12 0 rfl rfl (by omega) (by decide) d_M_fetch_96 (fun H locs hC => ?_)
                have hC : tC D cls (ty0 ca) A Z s (wM J ca 0 day (nI ev9) (nI rows.length) (va_up Mg1 12 (upd (Mg1 12) i ((f_day day (rw_at rows i)) + days))) U (nI w9) log lk rest) H locs := hC
                refine gM hC (fun Mg2 hMg2 hC => ?_)
                refine lv_aload_n hx hb d_M_fetch_97 rfl (lv_at hl 1 rfl) ?_
                refine lv_bipush (v := 8) hx hb d_M_fetch_98 (by decide) ?_
                refine lv_iload_n hx hb d_M_fetch_100 rfl (lv_at hl 2 rfl) ?_
                refine lv_aload_n hx hb d_M_fetch_101 rfl (lv_at hl 1 rfl) ?_
                refine t_get (v := .ref (J 11)) hx hb hts inM hown hC 0 rfl rfl 14 (by decide) (hts _ w_651) (fun _ h => h) rfl d_M_fetch_102 ?_
                refine lv_iload_n hx hb d_M_fetch_105 rfl (lv_at hl 0 rfl) ?_
                refine t_ialdN (k := i) hx hb hC 11 0 rfl rfl (by omega) (by decide) d_M_fetch_106 ?_
                have h11b : Mg2 11 i = f_day day (rw_at rows i) := by rw [show Mg2 11 = Mg1 11 from up_ne hMg2 (by decide), up_eq hMg1, pk_us]
                refine W.eq (g2 := F0 m 107 ls [.int (f_day day (rw_at rows i)), .int v9, .int 8, .ref (J 0)]) (by rw [h11b]) ?_
                refine W.eq (g2 := F0 m 107 ls [.int (f_day day (rw_at rows i)), .int (rw_at rows i 0), .int 8, .ref (J 0)]) (by rw [rw_obj_num hlo]) ?_
                refine t_call (t_invV (As := [.int 8, .int (rw_at rows i 0), .int (f_day day (rw_at rows i))]) (rest := []) hx hb hown (hts _ w_725) (hts _ w_727) (hts _ s_M_enter) (hts _ w_728) ⟨by decide, by decide⟩ (t_recv (q0 := 0) hC rfl rfl) rfl d_M_fetch_107) (c_M_enter hZc hw9) hZc tb_good hts w_7 hC (hl.1.trans hml.symm) ⟨Nat.le_of_ble_eq_true rfl, Nat.le_of_ble_eq_true rfl, Nat.le_of_ble_eq_true rfl, Nat.le_of_ble_eq_true rfl⟩ (Nat.le_of_ble_eq_true rfl) (fun E q ce w1 H1 l1 hp => hp.elim) (fun v w1 H locs hp hC => ?_)
                obtain ⟨rfl, hwe9⟩ := hp
                rw [hwe9] at hC
                have hC : tC D cls (ty0 ca) A Z s (wM J ca 0 day (nI ev9) (nI rows.length) Mg2 U (nI (w9 + 1)) ((lg_wr (log, w9, lk) day 8 (rw_at rows i 0) (f_day day (rw_at rows i))).1) ((lg_wr (log, w9, lk) day 8 (rw_at rows i 0) (f_day day (rw_at rows i))).2.2) rest) H locs := hC
                refine W.eq (g2 := F0 m 110 ls []) rfl ?_
                refine lv_aload_n hx hb d_M_fetch_110 rfl (lv_at hl 1 rfl) ?_
                refine t_get (v := .ref (J 11)) hx hb hts inM hown hC 0 rfl rfl 14 (by decide) (hts _ w_651) (fun _ h => h) rfl d_M_fetch_111 ?_
                refine lv_iload_n hx hb d_M_fetch_114 rfl (lv_at hl 0 rfl) ?_
                refine t_ialdN (k := i) hx hb hC 11 0 rfl rfl (by omega) (by decide) d_M_fetch_115 ?_
                have h11c : Mg2 11 i = f_day day (rw_at rows i) := by rw [show Mg2 11 = Mg1 11 from up_ne hMg2 (by decide), up_eq hMg1, pk_us]
                refine W.eq (g2 := F0 m 116 ls [.int (f_day day (rw_at rows i))]) (by rw [h11c]) ?_
                exact t_iret hx hb hr hlk hZc hC (oM_mk (c := 0) (a := f_day day (rw_at rows i)) (S' := p_set day i (upd (upd (rw_at rows i) 11 (f_day day (rw_at rows i))) 12 (f_day day (rw_at rows i) + days)) 8 (rw_at rows i 0) (f_day day (rw_at rows i)) (rows, (log, w9, lk), ev9)) (of_ok hlo ⟨Int32.not_lt.mp c17, c23⟩ (by rw [← hag i hi 5 (by decide) (by decide)]; exact c37)) (fun _ => rfl) (mA_set2 hag hi hMg1 hMg2) huA (wS_set)) (Nat.le_of_ble_eq_true rfl) (Nat.le_of_ble_eq_true rfl) d_M_fetch_116
              · skip
                refine lv_iconst (v := 1) hx hb d_M_fetch_76 (by decide) ?_
                refine lv_goto (tgt := 81) hx hb d_M_fetch_77 (by decide) ?_
                refine lv_iadd hx hb d_M_fetch_81 ?_
                refine W.eq (g2 := F0 m 82 ls [.int (f_day day (rw_at rows i)), .int (nI i), .ref (J 11)]) (by rw [(f_two (day := day) (hPI.2.2.1 i hi) (by rw [← hag i hi 5 (by decide) (by decide)]; exact c37)).1 (by rw [← hag i hi 5 (by decide) (by decide)]; exact c73)]) ?_
                refine t_iastN (k := i) hx hb hC 11 0 rfl rfl (by omega) (by decide) d_M_fetch_82 (fun H locs hC => ?_)
                have hC : tC D cls (ty0 ca) A Z s (wM J ca 0 day (nI ev9) (nI rows.length) (va_up M 11 (upd (M 11) i (f_day day (rw_at rows i)))) U (nI w9) log lk rest) H locs := hC
                refine gM hC (fun Mg3 hMg3 hC => ?_)
                refine lv_aload_n hx hb d_M_fetch_83 rfl (lv_at hl 1 rfl) ?_
                refine t_get (v := .ref (J 12)) hx hb hts inM hown hC 0 rfl rfl 15 (by decide) (hts _ w_652) (fun _ h => h) rfl d_M_fetch_84 ?_
                refine lv_iload_n hx hb d_M_fetch_87 rfl (lv_at hl 0 rfl) ?_
                refine lv_aload_n hx hb d_M_fetch_88 rfl (lv_at hl 1 rfl) ?_
                refine t_get (v := .ref (J 11)) hx hb hts inM hown hC 0 rfl rfl 14 (by decide) (hts _ w_651) (fun _ h => h) rfl d_M_fetch_89 ?_
                refine lv_iload_n hx hb d_M_fetch_92 rfl (lv_at hl 0 rfl) ?_
                refine t_ialdN (k := i) hx hb hC 11 0 rfl rfl (by omega) (by decide) d_M_fetch_93 ?_
                have h11a : Mg3 11 i = f_day day (rw_at rows i) := by rw [up_eq hMg3, pk_us]
                refine W.eq (g2 := F0 m 94 ls [.int (f_day day (rw_at rows i)), .int (nI i), .ref (J 12)]) (by rw [h11a]) ?_
                refine lv_iload_n hx hb d_M_fetch_94 rfl (lv_at hl 3 rfl) ?_
                refine lv_iadd hx hb d_M_fetch_95 ?_
                refine t_iastN (k := i) hx hb hC 12 0 rfl rfl (by omega) (by decide) d_M_fetch_96 (fun H locs hC => ?_)
                have hC : tC D cls (ty0 ca) A Z s (wM J ca 0 day (nI ev9) (nI rows.length) (va_up Mg3 12 (upd (Mg3 12) i ((f_day day (rw_at rows i)) + days))) U (nI w9) log lk rest) H locs := hC
                refine gM hC (fun Mg4 hMg4 hC => ?_)
                refine lv_aload_n hx hb d_M_fetch_97 rfl (lv_at hl 1 rfl) ?_
                refine lv_bipush (v := 8) hx hb d_M_fetch_98 (by decide) ?_
                refine lv_iload_n hx hb d_M_fetch_100 rfl (lv_at hl 2 rfl) ?_
                refine lv_aload_n hx hb d_M_fetch_101 rfl (lv_at hl 1 rfl) ?_
                refine t_get (v := .ref (J 11)) hx hb hts inM hown hC 0 rfl rfl 14 (by decide) (hts _ w_651) (fun _ h => h) rfl d_M_fetch_102 ?_
                refine lv_iload_n hx hb d_M_fetch_105 rfl (lv_at hl 0 rfl) ?_
                refine t_ialdN (k := i) hx hb hC 11 0 rfl rfl (by omega) (by decide) d_M_fetch_106 ?_
                have h11b : Mg4 11 i = f_day day (rw_at rows i) := by rw [show Mg4 11 = Mg3 11 from up_ne hMg4 (by decide), up_eq hMg3, pk_us]
                refine W.eq (g2 := F0 m 107 ls [.int (f_day day (rw_at rows i)), .int v9, .int 8, .ref (J 0)]) (by rw [h11b]) ?_
                refine W.eq (g2 := F0 m 107 ls [.int (f_day day (rw_at rows i)), .int (rw_at rows i 0), .int 8, .ref (J 0)]) (by rw [rw_obj_num hlo]) ?_
                refine t_call (t_invV (As := [.int 8, .int (rw_at rows i 0), .int (f_day day (rw_at rows i))]) (rest := []) hx hb hown (hts _ w_725) (hts _ w_727) (hts _ s_M_enter) (hts _ w_728) ⟨by decide, by decide⟩ (t_recv (q0 := 0) hC rfl rfl) rfl d_M_fetch_107) (c_M_enter hZc hw9) hZc tb_good hts w_7 hC (hl.1.trans hml.symm) ⟨Nat.le_of_ble_eq_true rfl, Nat.le_of_ble_eq_true rfl, Nat.le_of_ble_eq_true rfl, Nat.le_of_ble_eq_true rfl⟩ (Nat.le_of_ble_eq_true rfl) (fun E q ce w1 H1 l1 hp => hp.elim) (fun v w1 H locs hp hC => ?_)
                obtain ⟨rfl, hwe9⟩ := hp
                rw [hwe9] at hC
                have hC : tC D cls (ty0 ca) A Z s (wM J ca 0 day (nI ev9) (nI rows.length) Mg4 U (nI (w9 + 1)) ((lg_wr (log, w9, lk) day 8 (rw_at rows i 0) (f_day day (rw_at rows i))).1) ((lg_wr (log, w9, lk) day 8 (rw_at rows i 0) (f_day day (rw_at rows i))).2.2) rest) H locs := hC
                refine W.eq (g2 := F0 m 110 ls []) rfl ?_
                refine lv_aload_n hx hb d_M_fetch_110 rfl (lv_at hl 1 rfl) ?_
                refine t_get (v := .ref (J 11)) hx hb hts inM hown hC 0 rfl rfl 14 (by decide) (hts _ w_651) (fun _ h => h) rfl d_M_fetch_111 ?_
                refine lv_iload_n hx hb d_M_fetch_114 rfl (lv_at hl 0 rfl) ?_
                refine t_ialdN (k := i) hx hb hC 11 0 rfl rfl (by omega) (by decide) d_M_fetch_115 ?_
                have h11c : Mg4 11 i = f_day day (rw_at rows i) := by rw [show Mg4 11 = Mg3 11 from up_ne hMg4 (by decide), up_eq hMg3, pk_us]
                refine W.eq (g2 := F0 m 116 ls [.int (f_day day (rw_at rows i))]) (by rw [h11c]) ?_
                exact t_iret hx hb hr hlk hZc hC (oM_mk (c := 0) (a := f_day day (rw_at rows i)) (S' := p_set day i (upd (upd (rw_at rows i) 11 (f_day day (rw_at rows i))) 12 (f_day day (rw_at rows i) + days)) 8 (rw_at rows i 0) (f_day day (rw_at rows i)) (rows, (log, w9, lk), ev9)) (of_ok hlo ⟨Int32.not_lt.mp c17, c23⟩ (by rw [← hag i hi 5 (by decide) (by decide)]; exact c37)) (fun _ => rfl) (mA_set2 hag hi hMg3 hMg4) huA (wS_set)) (Nat.le_of_ble_eq_true rfl) (Nat.le_of_ble_eq_true rfl) d_M_fetch_116
            · first | exact absurd c52 (by decide) | exact absurd (by decide) c52
          · skip
            refine lv_iconst (v := 3) hx hb d_M_fetch_40 (by decide) ?_
            refine lv_goto (tgt := 45) hx hb d_M_fetch_41 (by decide) ?_
            refine t_put (ty := .int) (v := .int 3) hx hb hts inM TM tyM nmM hown hC 0 rfl rfl 0 (by decide) (hts _ w_637) (fun _ h => h) rfl (by decide +kernel) rfl rfl (Nat.le_of_ble_eq_true rfl) d_M_fetch_45 (fun H locs hC => ?_)
            have hC : tC D cls (ty0 ca) A Z s (wM J ca 3 day (nI ev9) (nI rows.length) M U (nI w9) log lk rest) H locs := hC
            refine lv_aload_n hx hb d_M_fetch_48 rfl (lv_at hl 1 rfl) ?_
            refine t_get (v := .int 3) hx hb hts inM hown hC 0 rfl rfl 0 (by decide) (hts _ w_637) (fun _ h => h) rfl d_M_fetch_49 ?_
            refine lv_if_le (tgt := 57) hx hb d_M_fetch_52 (by decide) (fun c52 => ?_) (fun c52 => ?_)
            · first | exact absurd c52 (by decide) | exact absurd (by decide) c52
            · skip
              refine lv_iconst (v := 0) hx hb d_M_fetch_55 (by decide) ?_
              exact t_iret hx hb hr hlk hZc hC (oM_mk (c := 3) (a := 0) (S' := (rows, (log, w9, lk), ev9)) (of_warm hlo ⟨Int32.not_lt.mp c17, c23⟩ (fun h => c37 (by rw [hag i hi 5 (by decide) (by decide)]; exact h))) (fun h => absurd h (by decide)) hag huA (rfl)) (Nat.le_of_ble_eq_true rfl) (Nat.le_of_ble_eq_true rfl) d_M_fetch_56
        · skip
          refine lv_iconst (v := 2) hx hb d_M_fetch_26 (by decide) ?_
          refine lv_goto (tgt := 45) hx hb d_M_fetch_27 (by decide) ?_
          refine t_put (ty := .int) (v := .int 2) hx hb hts inM TM tyM nmM hown hC 0 rfl rfl 0 (by decide) (hts _ w_637) (fun _ h => h) rfl (by decide +kernel) rfl rfl (Nat.le_of_ble_eq_true rfl) d_M_fetch_45 (fun H locs hC => ?_)
          have hC : tC D cls (ty0 ca) A Z s (wM J ca 2 day (nI ev9) (nI rows.length) M U (nI w9) log lk rest) H locs := hC
          refine lv_aload_n hx hb d_M_fetch_48 rfl (lv_at hl 1 rfl) ?_
          refine t_get (v := .int 2) hx hb hts inM hown hC 0 rfl rfl 0 (by decide) (hts _ w_637) (fun _ h => h) rfl d_M_fetch_49 ?_
          refine lv_if_le (tgt := 57) hx hb d_M_fetch_52 (by decide) (fun c52 => ?_) (fun c52 => ?_)
          · first | exact absurd c52 (by decide) | exact absurd (by decide) c52
          · skip
            refine lv_iconst (v := 0) hx hb d_M_fetch_55 (by decide) ?_
            exact t_iret hx hb hr hlk hZc hC (oM_mk (c := 2) (a := 0) (S' := (rows, (log, w9, lk), ev9)) (of_bad hlo (fun h => c23 h.2)) (fun h => absurd h (by decide)) hag huA (rfl)) (Nat.le_of_ble_eq_true rfl) (Nat.le_of_ble_eq_true rfl) d_M_fetch_56
    · exact absurd (Int32.not_lt.mp hip) c8

theorem i_2 {x : Int32} (h : 1 < x) : 2 ≤ x := by
  apply Int32.le_iff_toInt_le.mpr
  have a := Int32.lt_iff_toInt_lt.mp h
  have e1 : (1 : Int32).toInt = 1 := by decide
  have e2 : (2 : Int32).toInt = 2 := by decide
  rw [e1] at a
  rw [e2]
  omega
theorem i_2n {x : Int32} (h : x ≤ 1) : ¬ 2 ≤ x := fun q => absurd (Int32.le_trans q h) (by decide)

set_option maxRecDepth 100000 in
set_option maxHeartbeats 4000000 in
theorem c_M_read {l : Launch} {D : va_G} {A : Nat → Prop} {Z : State → Heap → Prop} (hZc : tZ A Z) {J : Nat → Nat} {ca : Nat → ClassId} {code day : Int32} {M U : Nat → Nat → Int32} {log : Nat → Int32} {lk : Int64} {rest : va_W} {v9 : Int32} {rows : List RW} {w9 ev9 : Nat} (hw9 : w9 < 2 ^ 31) (hag : mA rows M) (hPI : PI (rows, (log, w9, lk), ev9)) {Rs : List RW} (huA : uA Rs U) : tM l y_M_read tb ({ frames := 2, cells := 0, slots := 0, locals := 45 }) D cls (ty0 ca) A Z [.ref (J 0), .int v9] (wM J ca code day (nI ev9) (nI rows.length) M U (nI w9) log lk rest) (oM J ca (o_read day v9 (rows, (log, w9, lk), ev9)) day Rs rest) (xN) := by
  refine t_ofW (by decide) w_809 (Nat.le_of_ble_eq_true rfl) ?_
  intro p e s m below meth c ls hx hb hr hts hown hlk hnm hml hex hl hC
  have hown : s.vm.findClass "RetentionVaultModel" = some m.cls := hown
  have hl : lv_has ls 3 [(0, .ref (J 0)), (1, .int v9)] := hl
  have h40 : rows.length ≤ 40 := hPI.1
  have hcu : rw_CurOK rows := hPI.2.1
  refine lv_aload_n hx hb d_M_read_0 rfl (lv_at hl 0 rfl) ?_
  refine lv_iload_n hx hb d_M_read_1 rfl (lv_at hl 1 rfl) ?_
  refine t_call (t_invV (As := [.int v9]) (rest := []) hx hb hown (hts _ w_754) (hts _ w_756) (hts _ s_M_object) (hts _ w_757) ⟨by decide, by decide⟩ (t_recv (q0 := 0) hC rfl rfl) rfl d_M_read_2) (c_M_object hZc hag h40) hZc tb_good hts w_7 hC (hl.1.trans hml.symm) ⟨Nat.le_of_ble_eq_true rfl, Nat.le_of_ble_eq_true rfl, Nat.le_of_ble_eq_true rfl, Nat.le_of_ble_eq_true rfl⟩ (Nat.le_of_ble_eq_true rfl) (fun E q ce w1 H1 l1 hp => hp.elim) (fun v w1 H locs hp hC => ?_)
  obtain ⟨rfl, hwe9⟩ := hp
  rw [hwe9] at hC
  have hC : tC D cls (ty0 ca) A Z s (wM J ca code day (nI ev9) (nI rows.length) M U (nI w9) log lk rest) H locs := hC
  refine W.eq (g2 := F0 m 5 ls [.int (oI (rw_obj rows v9))]) rfl ?_
  rcases op_two (rw_obj rows v9) with hlo | ⟨i, hlo⟩
  · refine W.eq (g2 := F0 m 5 ls [.int (-1)]) (by rw [hlo]; rfl) ?_
    refine lv_istore_n (lv' := [(2, .int (-1)), (0, .ref (J 0)), (1, .int v9)]) hx hb d_M_read_5 rfl hl (by decide) rfl (fun ls hl => ?_)
    refine lv_aload_n hx hb d_M_read_6 rfl (lv_at hl 1 rfl) ?_
    refine lv_iload_n hx hb d_M_read_7 rfl (lv_at hl 0 rfl) ?_
    refine lv_if_ge (tgt := 15) hx hb d_M_read_8 (by decide) (fun c8 => ?_) (fun c8 => ?_)
    · first | exact absurd c8 (by decide) | exact absurd (by decide) c8
    · skip
      refine lv_iconst (v := 1) hx hb d_M_read_11 (by decide) ?_
      refine lv_goto (tgt := 56) hx hb d_M_read_12 (by decide) ?_
      refine t_put (ty := .int) (v := .int 1) hx hb hts inM TM tyM nmM hown hC 0 rfl rfl 0 (by decide) (hts _ w_637) (fun _ h => h) rfl (by decide +kernel) rfl rfl (Nat.le_of_ble_eq_true rfl) d_M_read_56 (fun H locs hC => ?_)
      have hC : tC D cls (ty0 ca) A Z s (wM J ca 1 day (nI ev9) (nI rows.length) M U (nI w9) log lk rest) H locs := hC
      refine lv_aload_n hx hb d_M_read_59 rfl (lv_at hl 1 rfl) ?_
      refine t_get (v := .int 1) hx hb hts inM hown hC 0 rfl rfl 0 (by decide) (hts _ w_637) (fun _ h => h) rfl d_M_read_60 ?_
      refine lv_if_le (tgt := 70) hx hb d_M_read_63 (by decide) (fun c63 => ?_) (fun c63 => ?_)
      · first | exact absurd c63 (by decide) | exact absurd (by decide) c63
      · skip
        refine lv_iconst (v := 0) hx hb d_M_read_66 (by decide) ?_
        refine lv_goto (tgt := 76) hx hb d_M_read_67 (by decide) ?_
        exact t_iret hx hb hr hlk hZc hC (oM_mk (c := 1) (a := 0) (S' := (rows, (log, w9, lk), ev9)) (oa_none hlo) (fun h => absurd h (by decide)) hag huA (rfl)) (Nat.le_of_ble_eq_true rfl) (Nat.le_of_ble_eq_true rfl) d_M_read_76
  · have hi : i < rows.length := rw_obj_lt hlo
    have hip := nI_pos (n := i) (by omega)
    refine W.eq (g2 := F0 m 5 ls [.int (nI i)]) (by rw [hlo]; rfl) ?_
    refine lv_istore_n (lv' := [(2, .int (nI i)), (0, .ref (J 0)), (1, .int v9)]) hx hb d_M_read_5 rfl hl (by decide) rfl (fun ls hl => ?_)
    refine lv_aload_n hx hb d_M_read_6 rfl (lv_at hl 1 rfl) ?_
    refine lv_iload_n hx hb d_M_read_7 rfl (lv_at hl 0 rfl) ?_
    refine lv_if_ge (tgt := 15) hx hb d_M_read_8 (by decide) (fun c8 => ?_) (fun c8 => ?_)
    · skip
      refine lv_aload_n hx hb d_M_read_15 rfl (lv_at hl 1 rfl) ?_
      refine t_get (v := .ref (J 7)) hx hb hts inM hown hC 0 rfl rfl 10 (by decide) (hts _ w_647) (fun _ h => h) rfl d_M_read_16 ?_
      refine lv_iload_n hx hb d_M_read_19 rfl (lv_at hl 0 rfl) ?_
      refine t_ialdN (k := i) hx hb hC 7 0 rfl rfl (by omega) (by decide) d_M_read_20 ?_
      refine lv_iconst (v := 1) hx hb d_M_read_21 (by decide) ?_
      refine lv_icmp_le (tgt := 55) hx hb d_M_read_22 (by decide) (fun c22 => ?_) (fun c22 => ?_)
      · skip
        refine lv_iconst (v := 0) hx hb d_M_read_55 (by decide) ?_
        refine t_put (ty := .int) (v := .int 0) hx hb hts inM TM tyM nmM hown hC 0 rfl rfl 0 (by decide) (hts _ w_637) (fun _ h => h) rfl (by decide +kernel) rfl rfl (Nat.le_of_ble_eq_true rfl) d_M_read_56 (fun H locs hC => ?_)
        have hC : tC D cls (ty0 ca) A Z s (wM J ca 0 day (nI ev9) (nI rows.length) M U (nI w9) log lk rest) H locs := hC
        refine lv_aload_n hx hb d_M_read_59 rfl (lv_at hl 1 rfl) ?_
        refine t_get (v := .int 0) hx hb hts inM hown hC 0 rfl rfl 0 (by decide) (hts _ w_637) (fun _ h => h) rfl d_M_read_60 ?_
        refine lv_if_le (tgt := 70) hx hb d_M_read_63 (by decide) (fun c63 => ?_) (fun c63 => ?_)
        · skip
          refine lv_aload_n hx hb d_M_read_70 rfl (lv_at hl 1 rfl) ?_
          refine t_get (v := .ref (J 3)) hx hb hts inM hown hC 0 rfl rfl 6 (by decide) (hts _ w_643) (fun _ h => h) rfl d_M_read_71 ?_
          refine lv_iload_n hx hb d_M_read_74 rfl (lv_at hl 0 rfl) ?_
          refine t_ialdN (k := i) hx hb hC 3 0 rfl rfl (by omega) (by decide) d_M_read_75 ?_
          exact t_iret hx hb hr hlk hZc hC (oM_mk (c := 0) (a := rw_at rows i 3) (S' := (rows, (log, w9, lk), ev9)) (oa_ok hlo (fun h => absurd (i_2n (by rw [← hag i hi 5 (by decide) (by decide)]; exact c22)) (fun q => q h.1))) (fun _ => hag i hi 3 (by decide) (by decide)) hag huA (rfl)) (Nat.le_of_ble_eq_true rfl) (Nat.le_of_ble_eq_true rfl) d_M_read_76
        · first | exact absurd c63 (by decide) | exact absurd (by decide) c63
      · skip
        refine lv_aload_n hx hb d_M_read_25 rfl (lv_at hl 1 rfl) ?_
        refine t_get (v := .int day) hx hb hts inM hown hC 0 rfl rfl 1 (by decide) (hts _ w_638) (fun _ h => h) rfl d_M_read_26 ?_
        refine lv_aload_n hx hb d_M_read_29 rfl (lv_at hl 1 rfl) ?_
        refine t_get (v := .ref (J 11)) hx hb hts inM hown hC 0 rfl rfl 14 (by decide) (hts _ w_651) (fun _ h => h) rfl d_M_read_30 ?_
        refine lv_iload_n hx hb d_M_read_33 rfl (lv_at hl 0 rfl) ?_
        refine t_ialdN (k := i) hx hb hC 11 0 rfl rfl (by omega) (by decide) d_M_read_34 ?_
        refine lv_icmp_lt (tgt := 51) hx hb d_M_read_35 (by decide) (fun c35 => ?_) (fun c35 => ?_)
        · skip
          refine lv_iconst (v := 2) hx hb d_M_read_51 (by decide) ?_
          refine lv_goto (tgt := 56) hx hb d_M_read_52 (by decide) ?_
          refine t_put (ty := .int) (v := .int 2) hx hb hts inM TM tyM nmM hown hC 0 rfl rfl 0 (by decide) (hts _ w_637) (fun _ h => h) rfl (by decide +kernel) rfl rfl (Nat.le_of_ble_eq_true rfl) d_M_read_56 (fun H locs hC => ?_)
          have hC : tC D cls (ty0 ca) A Z s (wM J ca 2 day (nI ev9) (nI rows.length) M U (nI w9) log lk rest) H locs := hC
          refine lv_aload_n hx hb d_M_read_59 rfl (lv_at hl 1 rfl) ?_
          refine t_get (v := .int 2) hx hb hts inM hown hC 0 rfl rfl 0 (by decide) (hts _ w_637) (fun _ h => h) rfl d_M_read_60 ?_
          refine lv_if_le (tgt := 70) hx hb d_M_read_63 (by decide) (fun c63 => ?_) (fun c63 => ?_)
          · first | exact absurd c63 (by decide) | exact absurd (by decide) c63
          · skip
            refine lv_iconst (v := 0) hx hb d_M_read_66 (by decide) ?_
            refine lv_goto (tgt := 76) hx hb d_M_read_67 (by decide) ?_
            exact t_iret hx hb hr hlk hZc hC (oM_mk (c := 2) (a := 0) (S' := (rows, (log, w9, lk), ev9)) (oa_cold hlo ⟨i_2 (by rw [← hag i hi 5 (by decide) (by decide)]; exact Int32.not_le.mp c22), fun h => absurd h.1 (Int32.not_le.mpr (by rw [← hag i hi 11 (by decide) (by decide)]; exact c35))⟩) (fun h => absurd h (by decide)) hag huA (rfl)) (Nat.le_of_ble_eq_true rfl) (Nat.le_of_ble_eq_true rfl) d_M_read_76
        · skip
          refine lv_aload_n hx hb d_M_read_38 rfl (lv_at hl 1 rfl) ?_
          refine t_get (v := .int day) hx hb hts inM hown hC 0 rfl rfl 1 (by decide) (hts _ w_638) (fun _ h => h) rfl d_M_read_39 ?_
          refine lv_aload_n hx hb d_M_read_42 rfl (lv_at hl 1 rfl) ?_
          refine t_get (v := .ref (J 12)) hx hb hts inM hown hC 0 rfl rfl 15 (by decide) (hts _ w_652) (fun _ h => h) rfl d_M_read_43 ?_
          refine lv_iload_n hx hb d_M_read_46 rfl (lv_at hl 0 rfl) ?_
          refine t_ialdN (k := i) hx hb hC 12 0 rfl rfl (by omega) (by decide) d_M_read_47 ?_
          refine lv_icmp_lt (tgt := 55) hx hb d_M_read_48 (by decide) (fun c48 => ?_) (fun c48 => ?_)
          · skip
            refine lv_iconst (v := 0) hx hb d_M_read_55 (by decide) ?_
            refine t_put (ty := .int) (v := .int 0) hx hb hts inM TM tyM nmM hown hC 0 rfl rfl 0 (by decide) (hts _ w_637) (fun _ h => h) rfl (by decide +kernel) rfl rfl (Nat.le_of_ble_eq_true rfl) d_M_read_56 (fun H locs hC => ?_)
            have hC : tC D cls (ty0 ca) A Z s (wM J ca 0 day (nI ev9) (nI rows.length) M U (nI w9) log lk rest) H locs := hC
            refine lv_aload_n hx hb d_M_read_59 rfl (lv_at hl 1 rfl) ?_
            refine t_get (v := .int 0) hx hb hts inM hown hC 0 rfl rfl 0 (by decide) (hts _ w_637) (fun _ h => h) rfl d_M_read_60 ?_
            refine lv_if_le (tgt := 70) hx hb d_M_read_63 (by decide) (fun c63 => ?_) (fun c63 => ?_)
            · skip
              refine lv_aload_n hx hb d_M_read_70 rfl (lv_at hl 1 rfl) ?_
              refine t_get (v := .ref (J 3)) hx hb hts inM hown hC 0 rfl rfl 6 (by decide) (hts _ w_643) (fun _ h => h) rfl d_M_read_71 ?_
              refine lv_iload_n hx hb d_M_read_74 rfl (lv_at hl 0 rfl) ?_
              refine t_ialdN (k := i) hx hb hC 3 0 rfl rfl (by omega) (by decide) d_M_read_75 ?_
              exact t_iret hx hb hr hlk hZc hC (oM_mk (c := 0) (a := rw_at rows i 3) (S' := (rows, (log, w9, lk), ev9)) (oa_ok hlo (fun h => h.2 ⟨Int32.not_lt.mp (by rw [← hag i hi 11 (by decide) (by decide)]; exact c35), (by rw [← hag i hi 12 (by decide) (by decide)]; exact c48)⟩)) (fun _ => hag i hi 3 (by decide) (by decide)) hag huA (rfl)) (Nat.le_of_ble_eq_true rfl) (Nat.le_of_ble_eq_true rfl) d_M_read_76
            · first | exact absurd c63 (by decide) | exact absurd (by decide) c63
          · skip
            refine lv_iconst (v := 2) hx hb d_M_read_51 (by decide) ?_
            refine lv_goto (tgt := 56) hx hb d_M_read_52 (by decide) ?_
            refine t_put (ty := .int) (v := .int 2) hx hb hts inM TM tyM nmM hown hC 0 rfl rfl 0 (by decide) (hts _ w_637) (fun _ h => h) rfl (by decide +kernel) rfl rfl (Nat.le_of_ble_eq_true rfl) d_M_read_56 (fun H locs hC => ?_)
            have hC : tC D cls (ty0 ca) A Z s (wM J ca 2 day (nI ev9) (nI rows.length) M U (nI w9) log lk rest) H locs := hC
            refine lv_aload_n hx hb d_M_read_59 rfl (lv_at hl 1 rfl) ?_
            refine t_get (v := .int 2) hx hb hts inM hown hC 0 rfl rfl 0 (by decide) (hts _ w_637) (fun _ h => h) rfl d_M_read_60 ?_
            refine lv_if_le (tgt := 70) hx hb d_M_read_63 (by decide) (fun c63 => ?_) (fun c63 => ?_)
            · first | exact absurd c63 (by decide) | exact absurd (by decide) c63
            · skip
              refine lv_iconst (v := 0) hx hb d_M_read_66 (by decide) ?_
              refine lv_goto (tgt := 76) hx hb d_M_read_67 (by decide) ?_
              exact t_iret hx hb hr hlk hZc hC (oM_mk (c := 2) (a := 0) (S' := (rows, (log, w9, lk), ev9)) (oa_cold hlo ⟨i_2 (by rw [← hag i hi 5 (by decide) (by decide)]; exact Int32.not_le.mp c22), fun h => c48 (by rw [hag i hi 12 (by decide) (by decide)]; exact h.2)⟩) (fun h => absurd h (by decide)) hag huA (rfl)) (Nat.le_of_ble_eq_true rfl) (Nat.le_of_ble_eq_true rfl) d_M_read_76
    · exact absurd (Int32.not_lt.mp hip) c8

set_option maxRecDepth 100000 in
set_option maxHeartbeats 4000000 in
theorem c_M_about {l : Launch} {D : va_G} {A : Nat → Prop} {Z : State → Heap → Prop} (hZc : tZ A Z) {J : Nat → Nat} {ca : Nat → ClassId} {code day : Int32} {M U : Nat → Nat → Int32} {log : Nat → Int32} {lk : Int64} {rest : va_W} {v9 wh9 : Int32} {rows : List RW} {w9 ev9 : Nat} (hw9 : w9 < 2 ^ 31) (hag : mA rows M) (hPI : PI (rows, (log, w9, lk), ev9)) {Rs : List RW} (huA : uA Rs U) : tM l y_M_about tb ({ frames := 3, cells := 0, slots := 0, locals := 65 }) D cls (ty0 ca) A Z [.ref (J 0), .int v9, .int wh9] (wM J ca code day (nI ev9) (nI rows.length) M U (nI w9) log lk rest) (oM J ca (o_about day v9 wh9 (rows, (log, w9, lk), ev9)) day Rs rest) (xN) := by
  refine t_ofW (by decide) w_817 (Nat.le_of_ble_eq_true rfl) ?_
  intro p e s m below meth c ls hx hb hr hts hown hlk hnm hml hex hl hC
  have hown : s.vm.findClass "RetentionVaultModel" = some m.cls := hown
  have hl : lv_has ls 4 [(0, .ref (J 0)), (1, .int v9), (2, .int wh9)] := hl
  have h40 : rows.length ≤ 40 := hPI.1
  have hcu : rw_CurOK rows := hPI.2.1
  refine lv_aload_n hx hb d_M_about_0 rfl (lv_at hl 0 rfl) ?_
  refine lv_iload_n hx hb d_M_about_1 rfl (lv_at hl 1 rfl) ?_
  refine t_call (t_invV (As := [.int v9]) (rest := []) hx hb hown (hts _ w_738) (hts _ w_740) (hts _ s_M_find) (hts _ w_741) ⟨by decide, by decide⟩ (t_recv (q0 := 0) hC rfl rfl) rfl d_M_about_2) (c_M_find hZc hag h40) hZc tb_good hts w_7 hC (hl.1.trans hml.symm) ⟨Nat.le_of_ble_eq_true rfl, Nat.le_of_ble_eq_true rfl, Nat.le_of_ble_eq_true rfl, Nat.le_of_ble_eq_true rfl⟩ (Nat.le_of_ble_eq_true rfl) (fun E q ce w1 H1 l1 hp => hp.elim) (fun v w1 H locs hp hC => ?_)
  obtain ⟨rfl, hwe9⟩ := hp
  rw [hwe9] at hC
  have hC : tC D cls (ty0 ca) A Z s (wM J ca code day (nI ev9) (nI rows.length) M U (nI w9) log lk rest) H locs := hC
  refine W.eq (g2 := F0 m 5 ls [.int (oI (rw_lastN rows v9 rows.length))]) rfl ?_
  rcases op_two (rw_lastN rows v9 rows.length) with hlo | ⟨i, hlo⟩
  · refine W.eq (g2 := F0 m 5 ls [.int (-1)]) (by rw [hlo]; rfl) ?_
    refine lv_istore_n (lv' := [(3, .int (-1)), (0, .ref (J 0)), (1, .int v9), (2, .int wh9)]) hx hb d_M_about_5 rfl hl (by decide) rfl (fun ls hl => ?_)
    refine lv_aload_n hx hb d_M_about_6 rfl (lv_at hl 1 rfl) ?_
    refine lv_iload_n hx hb d_M_about_7 rfl (lv_at hl 0 rfl) ?_
    refine lv_if_ge (tgt := 15) hx hb d_M_about_8 (by decide) (fun c8 => ?_) (fun c8 => ?_)
    · first | exact absurd c8 (by decide) | exact absurd (by decide) c8
    · skip
      refine lv_iconst (v := 1) hx hb d_M_about_11 (by decide) ?_
      refine lv_goto (tgt := 30) hx hb d_M_about_12 (by decide) ?_
      refine t_put (ty := .int) (v := .int 1) hx hb hts inM TM tyM nmM hown hC 0 rfl rfl 0 (by decide) (hts _ w_637) (fun _ h => h) rfl (by decide +kernel) rfl rfl (Nat.le_of_ble_eq_true rfl) d_M_about_30 (fun H locs hC => ?_)
      have hC : tC D cls (ty0 ca) A Z s (wM J ca 1 day (nI ev9) (nI rows.length) M U (nI w9) log lk rest) H locs := hC
      refine lv_aload_n hx hb d_M_about_33 rfl (lv_at hl 1 rfl) ?_
      refine t_get (v := .int 1) hx hb hts inM hown hC 0 rfl rfl 0 (by decide) (hts _ w_637) (fun _ h => h) rfl d_M_about_34 ?_
      refine lv_if_le (tgt := 42) hx hb d_M_about_37 (by decide) (fun c37 => ?_) (fun c37 => ?_)
      · first | exact absurd c37 (by decide) | exact absurd (by decide) c37
      · skip
        refine lv_iconst (v := 0) hx hb d_M_about_40 (by decide) ?_
        exact t_iret hx hb hr hlk hZc hC (oM_mk (c := 1) (a := 0) (S' := (rows, (log, w9, lk), ev9)) (ob_none hlo) (fun h => absurd h (by decide)) hag huA (rfl)) (Nat.le_of_ble_eq_true rfl) (Nat.le_of_ble_eq_true rfl) d_M_about_41
  · have hi : i < rows.length := (rw_lastN_lt hlo).1
    have hip := nI_pos (n := i) (by omega)
    refine W.eq (g2 := F0 m 5 ls [.int (nI i)]) (by rw [hlo]; rfl) ?_
    refine lv_istore_n (lv' := [(3, .int (nI i)), (0, .ref (J 0)), (1, .int v9), (2, .int wh9)]) hx hb d_M_about_5 rfl hl (by decide) rfl (fun ls hl => ?_)
    refine lv_aload_n hx hb d_M_about_6 rfl (lv_at hl 1 rfl) ?_
    refine lv_iload_n hx hb d_M_about_7 rfl (lv_at hl 0 rfl) ?_
    refine lv_if_ge (tgt := 15) hx hb d_M_about_8 (by decide) (fun c8 => ?_) (fun c8 => ?_)
    · skip
      refine lv_iload_n hx hb d_M_about_15 rfl (lv_at hl 3 rfl) ?_
      refine lv_if_lt (tgt := 25) hx hb d_M_about_16 (by decide) (fun c16 => ?_) (fun c16 => ?_)
      · skip
        refine lv_iconst (v := 2) hx hb d_M_about_25 (by decide) ?_
        refine lv_goto (tgt := 30) hx hb d_M_about_26 (by decide) ?_
        refine t_put (ty := .int) (v := .int 2) hx hb hts inM TM tyM nmM hown hC 0 rfl rfl 0 (by decide) (hts _ w_637) (fun _ h => h) rfl (by decide +kernel) rfl rfl (Nat.le_of_ble_eq_true rfl) d_M_about_30 (fun H locs hC => ?_)
        have hC : tC D cls (ty0 ca) A Z s (wM J ca 2 day (nI ev9) (nI rows.length) M U (nI w9) log lk rest) H locs := hC
        refine lv_aload_n hx hb d_M_about_33 rfl (lv_at hl 1 rfl) ?_
        refine t_get (v := .int 2) hx hb hts inM hown hC 0 rfl rfl 0 (by decide) (hts _ w_637) (fun _ h => h) rfl d_M_about_34 ?_
        refine lv_if_le (tgt := 42) hx hb d_M_about_37 (by decide) (fun c37 => ?_) (fun c37 => ?_)
        · first | exact absurd c37 (by decide) | exact absurd (by decide) c37
        · skip
          refine lv_iconst (v := 0) hx hb d_M_about_40 (by decide) ?_
          exact t_iret hx hb hr hlk hZc hC (oM_mk (c := 2) (a := 0) (S' := (rows, (log, w9, lk), ev9)) (ob_bad hlo (fun h => absurd h.1 (Int32.not_le.mpr c16))) (fun h => absurd h (by decide)) hag huA (rfl)) (Nat.le_of_ble_eq_true rfl) (Nat.le_of_ble_eq_true rfl) d_M_about_41
      · skip
        refine lv_iload_n hx hb d_M_about_19 rfl (lv_at hl 3 rfl) ?_
        refine lv_bipush (v := 7) hx hb d_M_about_20 (by decide) ?_
        refine lv_icmp_le (tgt := 29) hx hb d_M_about_22 (by decide) (fun c22 => ?_) (fun c22 => ?_)
        · skip
          refine lv_iconst (v := 0) hx hb d_M_about_29 (by decide) ?_
          refine t_put (ty := .int) (v := .int 0) hx hb hts inM TM tyM nmM hown hC 0 rfl rfl 0 (by decide) (hts _ w_637) (fun _ h => h) rfl (by decide +kernel) rfl rfl (Nat.le_of_ble_eq_true rfl) d_M_about_30 (fun H locs hC => ?_)
          have hC : tC D cls (ty0 ca) A Z s (wM J ca 0 day (nI ev9) (nI rows.length) M U (nI w9) log lk rest) H locs := hC
          refine lv_aload_n hx hb d_M_about_33 rfl (lv_at hl 1 rfl) ?_
          refine t_get (v := .int 0) hx hb hts inM hown hC 0 rfl rfl 0 (by decide) (hts _ w_637) (fun _ h => h) rfl d_M_about_34 ?_
          refine lv_if_le (tgt := 42) hx hb d_M_about_37 (by decide) (fun c37 => ?_) (fun c37 => ?_)
          · skip
            refine lv_iload_n hx hb d_M_about_42 rfl (lv_at hl 3 rfl) ?_
            rcases sw0_6 wh9 with rfl | rfl | rfl | rfl | rfl | rfl | rfl | hsw
            · refine lv_tableIn (off := 41) (tgt := 84) hx hb d_M_about_43 (by decide) (by decide) (by decide) (by decide) ?_
              refine lv_aload_n hx hb d_M_about_84 rfl (lv_at hl 1 rfl) ?_
              refine t_get (v := .ref (J 2)) hx hb hts inM hown hC 0 rfl rfl 5 (by decide) (hts _ w_642) (fun _ h => h) rfl d_M_about_85 ?_
              refine lv_iload_n hx hb d_M_about_88 rfl (lv_at hl 0 rfl) ?_
              refine t_ialdN (k := i) hx hb hC 2 0 rfl rfl (by omega) (by decide) d_M_about_89 ?_
              exact t_iret hx hb hr hlk hZc hC (oM_mk (c := 0) (a := rw_about (rw_at rows i) day 0) (S' := (rows, (log, w9, lk), ev9)) (ob_ok hlo ⟨Int32.not_lt.mp c16, c22⟩) (fun _ => (hag i hi 1 (by decide) (by decide))) hag huA (rfl)) (Nat.le_of_ble_eq_true rfl) (Nat.le_of_ble_eq_true rfl) d_M_about_90
            · refine lv_tableIn (off := 48) (tgt := 91) hx hb d_M_about_43 (by decide) (by decide) (by decide) (by decide) ?_
              refine lv_aload_n hx hb d_M_about_91 rfl (lv_at hl 1 rfl) ?_
              refine t_get (v := .ref (J 3)) hx hb hts inM hown hC 0 rfl rfl 6 (by decide) (hts _ w_643) (fun _ h => h) rfl d_M_about_92 ?_
              refine lv_iload_n hx hb d_M_about_95 rfl (lv_at hl 0 rfl) ?_
              refine t_ialdN (k := i) hx hb hC 3 0 rfl rfl (by omega) (by decide) d_M_about_96 ?_
              exact t_iret hx hb hr hlk hZc hC (oM_mk (c := 0) (a := rw_about (rw_at rows i) day 1) (S' := (rows, (log, w9, lk), ev9)) (ob_ok hlo ⟨Int32.not_lt.mp c16, c22⟩) (fun _ => (hag i hi 3 (by decide) (by decide))) hag huA (rfl)) (Nat.le_of_ble_eq_true rfl) (Nat.le_of_ble_eq_true rfl) d_M_about_97
            · refine lv_tableIn (off := 55) (tgt := 98) hx hb d_M_about_43 (by decide) (by decide) (by decide) (by decide) ?_
              refine lv_aload_n hx hb d_M_about_98 rfl (lv_at hl 1 rfl) ?_
              refine t_get (v := .ref (J 7)) hx hb hts inM hown hC 0 rfl rfl 10 (by decide) (hts _ w_647) (fun _ h => h) rfl d_M_about_99 ?_
              refine lv_iload_n hx hb d_M_about_102 rfl (lv_at hl 0 rfl) ?_
              refine t_ialdN (k := i) hx hb hC 7 0 rfl rfl (by omega) (by decide) d_M_about_103 ?_
              exact t_iret hx hb hr hlk hZc hC (oM_mk (c := 0) (a := rw_about (rw_at rows i) day 2) (S' := (rows, (log, w9, lk), ev9)) (ob_ok hlo ⟨Int32.not_lt.mp c16, c22⟩) (fun _ => (hag i hi 5 (by decide) (by decide))) hag huA (rfl)) (Nat.le_of_ble_eq_true rfl) (Nat.le_of_ble_eq_true rfl) d_M_about_104
            · refine lv_tableIn (off := 62) (tgt := 105) hx hb d_M_about_43 (by decide) (by decide) (by decide) (by decide) ?_
              refine lv_aload_n hx hb d_M_about_105 rfl (lv_at hl 1 rfl) ?_
              refine lv_iload_n hx hb d_M_about_106 rfl (lv_at hl 0 rfl) ?_
              refine t_call (t_invV (As := [.int (nI i)]) (rest := []) hx hb hown (hts _ w_790) (hts _ w_792) (hts _ s_M_since) (hts _ w_793) ⟨by decide, by decide⟩ (t_recv (q0 := 0) hC rfl rfl) rfl d_M_about_107) (c_M_since hZc hag h40 hcu hi) hZc tb_good hts w_7 hC (hl.1.trans hml.symm) ⟨Nat.le_of_ble_eq_true rfl, Nat.le_of_ble_eq_true rfl, Nat.le_of_ble_eq_true rfl, Nat.le_of_ble_eq_true rfl⟩ (Nat.le_of_ble_eq_true rfl) (fun E q ce w1 H1 l1 hp => hp.elim) (fun v w1 H locs hp hC => ?_)
              obtain ⟨rfl, hwe9⟩ := hp
              rw [hwe9] at hC
              have hC : tC D cls (ty0 ca) A Z s (wM J ca 0 day (nI ev9) (nI rows.length) M U (nI w9) log lk rest) H locs := hC
              refine W.eq (g2 := F0 m 110 ls [.int (if rw_at rows i 6 = 0 then rw_at rows i 7 else rw_at rows i 2)]) rfl ?_
              exact t_iret hx hb hr hlk hZc hC (oM_mk (c := 0) (a := rw_about (rw_at rows i) day 3) (S' := (rows, (log, w9, lk), ev9)) (ob_ok hlo ⟨Int32.not_lt.mp c16, c22⟩) (fun _ => rfl) hag huA (rfl)) (Nat.le_of_ble_eq_true rfl) (Nat.le_of_ble_eq_true rfl) d_M_about_110
            · refine lv_tableIn (off := 68) (tgt := 111) hx hb d_M_about_43 (by decide) (by decide) (by decide) (by decide) ?_
              refine lv_aload_n hx hb d_M_about_111 rfl (lv_at hl 1 rfl) ?_
              refine lv_iload_n hx hb d_M_about_112 rfl (lv_at hl 0 rfl) ?_
              refine t_call (t_invV (As := [.int (nI i)]) (rest := []) hx hb hown (hts _ w_786) (hts _ w_788) (hts _ s_M_isCurrent) (hts _ w_789) ⟨by decide, by decide⟩ (t_recv (q0 := 0) hC rfl rfl) rfl d_M_about_113) (c_M_isCurrent hZc hag h40 hcu hi) hZc tb_good hts w_7 hC (hl.1.trans hml.symm) ⟨Nat.le_of_ble_eq_true rfl, Nat.le_of_ble_eq_true rfl, Nat.le_of_ble_eq_true rfl, Nat.le_of_ble_eq_true rfl⟩ (Nat.le_of_ble_eq_true rfl) (fun E q ce w1 H1 l1 hp => hp.elim) (fun v w1 H locs hp hC => ?_)
              obtain ⟨rfl, hwe9⟩ := hp
              rw [hwe9] at hC
              have hC : tC D cls (ty0 ca) A Z s (wM J ca 0 day (nI ev9) (nI rows.length) M U (nI w9) log lk rest) H locs := hC
              refine W.eq (g2 := F0 m 116 ls [.int (rw_at rows i 6)]) rfl ?_
              refine lv_if_eq (tgt := 123) hx hb d_M_about_116 (by decide) (fun c116 => ?_) (fun c116 => ?_)
              · skip
                refine lv_iconst (v := 0) hx hb d_M_about_123 (by decide) ?_
                exact t_iret hx hb hr hlk hZc hC (oM_mk (c := 0) (a := rw_about (rw_at rows i) day 4) (S' := (rows, (log, w9, lk), ev9)) (ob_ok hlo ⟨Int32.not_lt.mp c16, c22⟩) (fun _ => (bI_f (fun h => h c116)).symm) hag huA (rfl)) (Nat.le_of_ble_eq_true rfl) (Nat.le_of_ble_eq_true rfl) d_M_about_124
              · skip
                refine lv_iconst (v := 1) hx hb d_M_about_119 (by decide) ?_
                refine lv_goto (tgt := 124) hx hb d_M_about_120 (by decide) ?_
                exact t_iret hx hb hr hlk hZc hC (oM_mk (c := 0) (a := rw_about (rw_at rows i) day 4) (S' := (rows, (log, w9, lk), ev9)) (ob_ok hlo ⟨Int32.not_lt.mp c16, c22⟩) (fun _ => (bI_t c116).symm) hag huA (rfl)) (Nat.le_of_ble_eq_true rfl) (Nat.le_of_ble_eq_true rfl) d_M_about_124
            · refine lv_tableIn (off := 82) (tgt := 125) hx hb d_M_about_43 (by decide) (by decide) (by decide) (by decide) ?_
              refine lv_aload_n hx hb d_M_about_125 rfl (lv_at hl 1 rfl) ?_
              refine t_get (v := .ref (J 8)) hx hb hts inM hown hC 0 rfl rfl 11 (by decide) (hts _ w_648) (fun _ h => h) rfl d_M_about_126 ?_
              refine lv_iload_n hx hb d_M_about_129 rfl (lv_at hl 0 rfl) ?_
              refine t_ialdN (k := i) hx hb hC 8 0 rfl rfl (by omega) (by decide) d_M_about_130 ?_
              exact t_iret hx hb hr hlk hZc hC (oM_mk (c := 0) (a := rw_about (rw_at rows i) day 5) (S' := (rows, (log, w9, lk), ev9)) (ob_ok hlo ⟨Int32.not_lt.mp c16, c22⟩) (fun _ => (hag i hi 8 (by decide) (by decide))) hag huA (rfl)) (Nat.le_of_ble_eq_true rfl) (Nat.le_of_ble_eq_true rfl) d_M_about_131
            · refine lv_tableIn (off := 89) (tgt := 132) hx hb d_M_about_43 (by decide) (by decide) (by decide) (by decide) ?_
              refine lv_aload_n hx hb d_M_about_132 rfl (lv_at hl 1 rfl) ?_
              refine t_get (v := .ref (J 10)) hx hb hts inM hown hC 0 rfl rfl 13 (by decide) (hts _ w_650) (fun _ h => h) rfl d_M_about_133 ?_
              refine lv_iload_n hx hb d_M_about_136 rfl (lv_at hl 0 rfl) ?_
              refine t_ialdN (k := i) hx hb hC 10 0 rfl rfl (by omega) (by decide) d_M_about_137 ?_
              exact t_iret hx hb hr hlk hZc hC (oM_mk (c := 0) (a := rw_about (rw_at rows i) day 6) (S' := (rows, (log, w9, lk), ev9)) (ob_ok hlo ⟨Int32.not_lt.mp c16, c22⟩) (fun _ => (hag i hi 10 (by decide) (by decide))) hag huA (rfl)) (Nat.le_of_ble_eq_true rfl) (Nat.le_of_ble_eq_true rfl) d_M_about_138
            · refine lv_tableOut (tgt := 139) hx hb d_M_about_43 hsw (by decide) ?_
              obtain rfl := sw_7 c22 (Int32.not_lt.mp c16) hsw
              refine lv_aload_n hx hb d_M_about_139 rfl (lv_at hl 1 rfl) ?_
              refine lv_iload_n hx hb d_M_about_140 rfl (lv_at hl 0 rfl) ?_
              refine t_call (t_invV (As := [.int (nI i)]) (rest := []) hx hb hown (hts _ w_794) (hts _ w_796) (hts _ s_M_isGuarded) (hts _ w_797) ⟨by decide, by decide⟩ (t_recv (q0 := 0) hC rfl rfl) rfl d_M_about_141) (c_M_isGuarded hZc hag h40 hi) hZc tb_good hts w_7 hC (hl.1.trans hml.symm) ⟨Nat.le_of_ble_eq_true rfl, Nat.le_of_ble_eq_true rfl, Nat.le_of_ble_eq_true rfl, Nat.le_of_ble_eq_true rfl⟩ (Nat.le_of_ble_eq_true rfl) (fun E q ce w1 H1 l1 hp => hp.elim) (fun v w1 H locs hp hC => ?_)
              obtain ⟨rfl, hwe9⟩ := hp
              rw [hwe9] at hC
              have hC : tC D cls (ty0 ca) A Z s (wM J ca 0 day (nI ev9) (nI rows.length) M U (nI w9) log lk rest) H locs := hC
              refine W.eq (g2 := F0 m 144 ls [.int (bI (p_grd (rw_at rows i) day))]) rfl ?_
              refine lv_if_eq (tgt := 151) hx hb d_M_about_144 (by decide) (fun c144 => ?_) (fun c144 => ?_)
              · skip
                refine lv_iconst (v := 0) hx hb d_M_about_151 (by decide) ?_
                exact t_iret hx hb hr hlk hZc hC (oM_mk (c := 0) (a := rw_about (rw_at rows i) day 7) (S' := (rows, (log, w9, lk), ev9)) (ob_ok hlo ⟨Int32.not_lt.mp c16, c22⟩) (fun _ => (bI_f (bI_ne.mp c144)).symm) hag huA (rfl)) (Nat.le_of_ble_eq_true rfl) (Nat.le_of_ble_eq_true rfl) d_M_about_152
              · skip
                refine lv_iconst (v := 1) hx hb d_M_about_147 (by decide) ?_
                refine lv_goto (tgt := 152) hx hb d_M_about_148 (by decide) ?_
                exact t_iret hx hb hr hlk hZc hC (oM_mk (c := 0) (a := rw_about (rw_at rows i) day 7) (S' := (rows, (log, w9, lk), ev9)) (ob_ok hlo ⟨Int32.not_lt.mp c16, c22⟩) (fun _ => (bI_t (Classical.not_not.mp (fun q => c144 (bI_ne.mpr q)))).symm) hag huA (rfl)) (Nat.le_of_ble_eq_true rfl) (Nat.le_of_ble_eq_true rfl) d_M_about_152
          · first | exact absurd c37 (by decide) | exact absurd (by decide) c37
        · skip
          refine lv_iconst (v := 2) hx hb d_M_about_25 (by decide) ?_
          refine lv_goto (tgt := 30) hx hb d_M_about_26 (by decide) ?_
          refine t_put (ty := .int) (v := .int 2) hx hb hts inM TM tyM nmM hown hC 0 rfl rfl 0 (by decide) (hts _ w_637) (fun _ h => h) rfl (by decide +kernel) rfl rfl (Nat.le_of_ble_eq_true rfl) d_M_about_30 (fun H locs hC => ?_)
          have hC : tC D cls (ty0 ca) A Z s (wM J ca 2 day (nI ev9) (nI rows.length) M U (nI w9) log lk rest) H locs := hC
          refine lv_aload_n hx hb d_M_about_33 rfl (lv_at hl 1 rfl) ?_
          refine t_get (v := .int 2) hx hb hts inM hown hC 0 rfl rfl 0 (by decide) (hts _ w_637) (fun _ h => h) rfl d_M_about_34 ?_
          refine lv_if_le (tgt := 42) hx hb d_M_about_37 (by decide) (fun c37 => ?_) (fun c37 => ?_)
          · first | exact absurd c37 (by decide) | exact absurd (by decide) c37
          · skip
            refine lv_iconst (v := 0) hx hb d_M_about_40 (by decide) ?_
            exact t_iret hx hb hr hlk hZc hC (oM_mk (c := 2) (a := 0) (S' := (rows, (log, w9, lk), ev9)) (ob_bad hlo (fun h => c22 h.2)) (fun h => absurd h (by decide)) hag huA (rfl)) (Nat.le_of_ble_eq_true rfl) (Nat.le_of_ble_eq_true rfl) d_M_about_41
    · exact absurd (Int32.not_lt.mp hip) c8

set_option maxRecDepth 100000 in
set_option maxHeartbeats 4000000 in
theorem c_M_entry {l : Launch} {D : va_G} {A : Nat → Prop} {Z : State → Heap → Prop} (hZc : tZ A Z) {J : Nat → Nat} {ca : Nat → ClassId} {code day : Int32} {M U : Nat → Nat → Int32} {log : Nat → Int32} {lk : Int64} {rest : va_W} {k9 wh9 : Int32} {rows : List RW} {w9 ev9 : Nat} (hw9 : w9 < 2 ^ 31) (hag : mA rows M) (hPI : PI (rows, (log, w9, lk), ev9)) {Rs : List RW} (huA : uA Rs U) : tM l y_M_entry tb ({ frames := 0, cells := 0, slots := 0, locals := 0 }) D cls (ty0 ca) A Z [.ref (J 0), .int k9, .int wh9] (wM J ca code day (nI ev9) (nI rows.length) M U (nI w9) log lk rest) (oM J ca (o_entry k9 wh9 (rows, (log, w9, lk), ev9)) day Rs rest) (xN) := by
  refine t_ofW (by decide) w_821 (Nat.le_of_ble_eq_true rfl) ?_
  intro p e s m below meth c ls hx hb hr hts hown hlk hnm hml hex hl hC
  have hown : s.vm.findClass "RetentionVaultModel" = some m.cls := hown
  have hl : lv_has ls 3 [(0, .ref (J 0)), (1, .int k9), (2, .int wh9)] := hl
  have h40 : rows.length ≤ 40 := hPI.1
  have hcu : rw_CurOK rows := hPI.2.1
  refine lv_aload_n hx hb d_M_entry_0 rfl (lv_at hl 0 rfl) ?_
  refine lv_iload_n hx hb d_M_entry_1 rfl (lv_at hl 2 rfl) ?_
  refine lv_if_lt (tgt := 10) hx hb d_M_entry_2 (by decide) (fun c2 => ?_) (fun c2 => ?_)
  · skip
    refine lv_iconst (v := 1) hx hb d_M_entry_10 (by decide) ?_
    refine lv_goto (tgt := 37) hx hb d_M_entry_11 (by decide) ?_
    refine t_put (ty := .int) (v := .int 1) hx hb hts inM TM tyM nmM hown hC 0 rfl rfl 0 (by decide) (hts _ w_637) (fun _ h => h) rfl (by decide +kernel) rfl rfl (Nat.le_of_ble_eq_true rfl) d_M_entry_37 (fun H locs hC => ?_)
    have hC : tC D cls (ty0 ca) A Z s (wM J ca 1 day (nI ev9) (nI rows.length) M U (nI w9) log lk rest) H locs := hC
    refine lv_aload_n hx hb d_M_entry_40 rfl (lv_at hl 0 rfl) ?_
    refine t_get (v := .int 1) hx hb hts inM hown hC 0 rfl rfl 0 (by decide) (hts _ w_637) (fun _ h => h) rfl d_M_entry_41 ?_
    refine lv_if_le (tgt := 51) hx hb d_M_entry_44 (by decide) (fun c44 => ?_) (fun c44 => ?_)
    · first | exact absurd c44 (by decide) | exact absurd (by decide) c44
    · skip
      refine lv_iconst (v := 0) hx hb d_M_entry_47 (by decide) ?_
      refine lv_goto (tgt := 71) hx hb d_M_entry_48 (by decide) ?_
      exact t_iret hx hb hr hlk hZc hC (oM_mk (c := 1) (a := 0) (S' := (rows, (log, w9, lk), ev9)) (if_neg (fun h => absurd h.1 (Int32.not_le.mpr c2))) (fun h => absurd h (by decide)) hag huA (rfl)) (Nat.le_of_ble_eq_true rfl) (Nat.le_of_ble_eq_true rfl) d_M_entry_71
  · skip
    refine lv_iload_n hx hb d_M_entry_5 rfl (lv_at hl 2 rfl) ?_
    refine lv_iconst (v := 3) hx hb d_M_entry_6 (by decide) ?_
    refine lv_icmp_le (tgt := 14) hx hb d_M_entry_7 (by decide) (fun c7 => ?_) (fun c7 => ?_)
    · skip
      refine lv_iload_n hx hb d_M_entry_14 rfl (lv_at hl 1 rfl) ?_
      refine lv_if_lt (tgt := 32) hx hb d_M_entry_15 (by decide) (fun c15 => ?_) (fun c15 => ?_)
      · skip
        refine lv_iconst (v := 2) hx hb d_M_entry_32 (by decide) ?_
        refine lv_goto (tgt := 37) hx hb d_M_entry_33 (by decide) ?_
        refine t_put (ty := .int) (v := .int 2) hx hb hts inM TM tyM nmM hown hC 0 rfl rfl 0 (by decide) (hts _ w_637) (fun _ h => h) rfl (by decide +kernel) rfl rfl (Nat.le_of_ble_eq_true rfl) d_M_entry_37 (fun H locs hC => ?_)
        have hC : tC D cls (ty0 ca) A Z s (wM J ca 2 day (nI ev9) (nI rows.length) M U (nI w9) log lk rest) H locs := hC
        refine lv_aload_n hx hb d_M_entry_40 rfl (lv_at hl 0 rfl) ?_
        refine t_get (v := .int 2) hx hb hts inM hown hC 0 rfl rfl 0 (by decide) (hts _ w_637) (fun _ h => h) rfl d_M_entry_41 ?_
        refine lv_if_le (tgt := 51) hx hb d_M_entry_44 (by decide) (fun c44 => ?_) (fun c44 => ?_)
        · first | exact absurd c44 (by decide) | exact absurd (by decide) c44
        · skip
          refine lv_iconst (v := 0) hx hb d_M_entry_47 (by decide) ?_
          refine lv_goto (tgt := 71) hx hb d_M_entry_48 (by decide) ?_
          exact t_iret hx hb hr hlk hZc hC (oM_mk (c := 2) (a := 0) (S' := (rows, (log, w9, lk), ev9)) ((if_pos ⟨Int32.not_lt.mp c2, c7⟩).trans (if_neg (fun h => absurd h.1 (Int32.not_le.mpr c15)))) (fun h => absurd h (by decide)) hag huA (rfl)) (Nat.le_of_ble_eq_true rfl) (Nat.le_of_ble_eq_true rfl) d_M_entry_71
      · skip
        refine lv_iload_n hx hb d_M_entry_18 rfl (lv_at hl 1 rfl) ?_
        refine lv_bipush (v := 63) hx hb d_M_entry_19 (by decide) ?_
        refine lv_icmp_gt (tgt := 32) hx hb d_M_entry_21 (by decide) (fun c21 => ?_) (fun c21 => ?_)
        · skip
          refine lv_iconst (v := 2) hx hb d_M_entry_32 (by decide) ?_
          refine lv_goto (tgt := 37) hx hb d_M_entry_33 (by decide) ?_
          refine t_put (ty := .int) (v := .int 2) hx hb hts inM TM tyM nmM hown hC 0 rfl rfl 0 (by decide) (hts _ w_637) (fun _ h => h) rfl (by decide +kernel) rfl rfl (Nat.le_of_ble_eq_true rfl) d_M_entry_37 (fun H locs hC => ?_)
          have hC : tC D cls (ty0 ca) A Z s (wM J ca 2 day (nI ev9) (nI rows.length) M U (nI w9) log lk rest) H locs := hC
          refine lv_aload_n hx hb d_M_entry_40 rfl (lv_at hl 0 rfl) ?_
          refine t_get (v := .int 2) hx hb hts inM hown hC 0 rfl rfl 0 (by decide) (hts _ w_637) (fun _ h => h) rfl d_M_entry_41 ?_
          refine lv_if_le (tgt := 51) hx hb d_M_entry_44 (by decide) (fun c44 => ?_) (fun c44 => ?_)
          · first | exact absurd c44 (by decide) | exact absurd (by decide) c44
          · skip
            refine lv_iconst (v := 0) hx hb d_M_entry_47 (by decide) ?_
            refine lv_goto (tgt := 71) hx hb d_M_entry_48 (by decide) ?_
            exact t_iret hx hb hr hlk hZc hC (oM_mk (c := 2) (a := 0) (S' := (rows, (log, w9, lk), ev9)) ((if_pos ⟨Int32.not_lt.mp c2, c7⟩).trans (if_neg (fun h => absurd h.2.1 (Int32.not_le.mpr c21)))) (fun h => absurd h (by decide)) hag huA (rfl)) (Nat.le_of_ble_eq_true rfl) (Nat.le_of_ble_eq_true rfl) d_M_entry_71
        · skip
          refine lv_iload_n hx hb d_M_entry_24 rfl (lv_at hl 1 rfl) ?_
          refine lv_aload_n hx hb d_M_entry_25 rfl (lv_at hl 0 rfl) ?_
          refine t_get (v := .int (nI w9)) hx hb hts inM hown hC 0 rfl rfl 20 (by decide) (hts _ w_657) (fun _ h => h) rfl d_M_entry_26 ?_
          refine lv_icmp_lt (tgt := 36) hx hb d_M_entry_29 (by decide) (fun c29 => ?_) (fun c29 => ?_)
          · skip
            refine lv_iconst (v := 0) hx hb d_M_entry_36 (by decide) ?_
            refine t_put (ty := .int) (v := .int 0) hx hb hts inM TM tyM nmM hown hC 0 rfl rfl 0 (by decide) (hts _ w_637) (fun _ h => h) rfl (by decide +kernel) rfl rfl (Nat.le_of_ble_eq_true rfl) d_M_entry_37 (fun H locs hC => ?_)
            have hC : tC D cls (ty0 ca) A Z s (wM J ca 0 day (nI ev9) (nI rows.length) M U (nI w9) log lk rest) H locs := hC
            refine lv_aload_n hx hb d_M_entry_40 rfl (lv_at hl 0 rfl) ?_
            refine t_get (v := .int 0) hx hb hts inM hown hC 0 rfl rfl 0 (by decide) (hts _ w_637) (fun _ h => h) rfl d_M_entry_41 ?_
            refine lv_if_le (tgt := 51) hx hb d_M_entry_44 (by decide) (fun c44 => ?_) (fun c44 => ?_)
            · skip
              obtain ⟨k, hk, rfl⟩ := nI_of2 (x := k9) (M := 63) (n := 63) (by decide) (Int32.not_lt.mpr (Int32.not_lt.mp c15)) (Int32.not_lt.mp c21)
              obtain ⟨t, ht, rfl⟩ := nI_of2 (x := wh9) (M := 3) (n := 3) (by decide) (Int32.not_lt.mpr (Int32.not_lt.mp c2)) (c7)
              have hkw : k < w9 := (nI_ltI (by omega) (by omega)).mp c29
              refine lv_aload_n hx hb d_M_entry_51 rfl (lv_at hl 0 rfl) ?_
              refine t_get (v := .ref (J 17)) hx hb hts inM hown hC 0 rfl rfl 21 (by decide) (hts _ w_658) (fun _ h => h) rfl d_M_entry_52 ?_
              refine lv_aload_n hx hb d_M_entry_55 rfl (lv_at hl 0 rfl) ?_
              refine t_get (v := .int (nI w9)) hx hb hts inM hown hC 0 rfl rfl 20 (by decide) (hts _ w_657) (fun _ h => h) rfl d_M_entry_56 ?_
              refine lv_iconst (v := 1) hx hb d_M_entry_59 (by decide) ?_
              refine lv_isub hx hb d_M_entry_60 ?_
              rw [show (nI w9) - 1 = nI (w9 - 1) from nI_subN (a := w9) (b := 1) (by omega)]
              refine lv_iload_n hx hb d_M_entry_61 rfl (lv_at hl 1 rfl) ?_
              refine lv_isub hx hb d_M_entry_62 ?_
              rw [show (nI (w9 - 1)) - (nI k) = nI (w9 - 1 - k) from nI_subN (a := w9 - 1) (b := k) (by omega)]
              refine lv_bipush (v := 64) hx hb d_M_entry_63 (by decide) ?_
              refine lv_irem hx hb d_M_entry_65 (by decide) ?_
              rw [show nI (w9 - 1 - k) - nI (w9 - 1 - k) / 64 * 64 = nI ((w9 - 1 - k) % 64) from pk_rem (d := 64) (by omega) (by decide) (by decide)]
              refine lv_iconst (v := 4) hx hb d_M_entry_66 (by decide) ?_
              refine lv_imul hx hb d_M_entry_67 ?_
              rw [show nI ((w9 - 1 - k) % 64) * 4 = nI (((w9 - 1 - k) % 64) * 4) from pk_mul _ _]
              refine lv_iload_n hx hb d_M_entry_68 rfl (lv_at hl 2 rfl) ?_
              refine lv_iaddN (a := (((w9 - 1 - k) % 64) * 4)) (b := t) hx hb rfl d_M_entry_69 ?_
              refine t_ialdN (k := ((((w9 - 1 - k) % 64) * 4) + t)) hx hb hC 17 0 rfl rfl (by omega) (by decide) d_M_entry_70 ?_
              exact t_iret hx hb hr hlk hZc hC (oM_mk (c := 0) (a := log ((w9 - 1 - (nI k).toNatClampNeg) % 64 * 4 + (nI t).toNatClampNeg)) (S' := (rows, (log, w9, lk), ev9)) ((if_pos ⟨Int32.not_lt.mp c2, c7⟩).trans (if_pos ⟨Int32.not_lt.mp c15, Int32.not_lt.mp c21, c29⟩)) (fun _ => by rw [nI_clamp (by omega), nI_clamp (by omega)]) hag huA (rfl)) (Nat.le_of_ble_eq_true rfl) (Nat.le_of_ble_eq_true rfl) d_M_entry_71
            · first | exact absurd c44 (by decide) | exact absurd (by decide) c44
          · skip
            refine lv_iconst (v := 2) hx hb d_M_entry_32 (by decide) ?_
            refine lv_goto (tgt := 37) hx hb d_M_entry_33 (by decide) ?_
            refine t_put (ty := .int) (v := .int 2) hx hb hts inM TM tyM nmM hown hC 0 rfl rfl 0 (by decide) (hts _ w_637) (fun _ h => h) rfl (by decide +kernel) rfl rfl (Nat.le_of_ble_eq_true rfl) d_M_entry_37 (fun H locs hC => ?_)
            have hC : tC D cls (ty0 ca) A Z s (wM J ca 2 day (nI ev9) (nI rows.length) M U (nI w9) log lk rest) H locs := hC
            refine lv_aload_n hx hb d_M_entry_40 rfl (lv_at hl 0 rfl) ?_
            refine t_get (v := .int 2) hx hb hts inM hown hC 0 rfl rfl 0 (by decide) (hts _ w_637) (fun _ h => h) rfl d_M_entry_41 ?_
            refine lv_if_le (tgt := 51) hx hb d_M_entry_44 (by decide) (fun c44 => ?_) (fun c44 => ?_)
            · first | exact absurd c44 (by decide) | exact absurd (by decide) c44
            · skip
              refine lv_iconst (v := 0) hx hb d_M_entry_47 (by decide) ?_
              refine lv_goto (tgt := 71) hx hb d_M_entry_48 (by decide) ?_
              exact t_iret hx hb hr hlk hZc hC (oM_mk (c := 2) (a := 0) (S' := (rows, (log, w9, lk), ev9)) ((if_pos ⟨Int32.not_lt.mp c2, c7⟩).trans (if_neg (fun h => c29 h.2.2))) (fun h => absurd h (by decide)) hag huA (rfl)) (Nat.le_of_ble_eq_true rfl) (Nat.le_of_ble_eq_true rfl) d_M_entry_71
    · skip
      refine lv_iconst (v := 1) hx hb d_M_entry_10 (by decide) ?_
      refine lv_goto (tgt := 37) hx hb d_M_entry_11 (by decide) ?_
      refine t_put (ty := .int) (v := .int 1) hx hb hts inM TM tyM nmM hown hC 0 rfl rfl 0 (by decide) (hts _ w_637) (fun _ h => h) rfl (by decide +kernel) rfl rfl (Nat.le_of_ble_eq_true rfl) d_M_entry_37 (fun H locs hC => ?_)
      have hC : tC D cls (ty0 ca) A Z s (wM J ca 1 day (nI ev9) (nI rows.length) M U (nI w9) log lk rest) H locs := hC
      refine lv_aload_n hx hb d_M_entry_40 rfl (lv_at hl 0 rfl) ?_
      refine t_get (v := .int 1) hx hb hts inM hown hC 0 rfl rfl 0 (by decide) (hts _ w_637) (fun _ h => h) rfl d_M_entry_41 ?_
      refine lv_if_le (tgt := 51) hx hb d_M_entry_44 (by decide) (fun c44 => ?_) (fun c44 => ?_)
      · first | exact absurd c44 (by decide) | exact absurd (by decide) c44
      · skip
        refine lv_iconst (v := 0) hx hb d_M_entry_47 (by decide) ?_
        refine lv_goto (tgt := 71) hx hb d_M_entry_48 (by decide) ?_
        exact t_iret hx hb hr hlk hZc hC (oM_mk (c := 1) (a := 0) (S' := (rows, (log, w9, lk), ev9)) (if_neg (fun h => c7 h.2)) (fun h => absurd h (by decide)) hag huA (rfl)) (Nat.le_of_ble_eq_true rfl) (Nat.le_of_ble_eq_true rfl) d_M_entry_71

theorem fg_m {rows : List RW} {day : Int32} {i : Nat} (hk : kO (rw_at rows i)) (hd : 0 ≤ day) (h : ¬ 0 < rw_at rows i 3) : rw_cnt rows day (i + 1) = rw_cnt rows day i := by
  show (if rw_at rows i 10 ≠ 0 ∨ day < rw_at rows i 8 then _ else _) = _
  rcases hk.2 with ⟨-, -, h8, h10, -⟩ | ⟨-, -, h3⟩
  · rw [h8, h10, if_neg (fun q => q.elim (fun q => q rfl) (Int32.not_lt.mpr hd))]
  · exact absurd h3 h
theorem fg_g {rows : List RW} {day : Int32} {i : Nat} (h : p_grd (rw_at rows i) day) : rw_cnt rows day (i + 1) = rw_cnt rows day i + 1 := if_pos h
theorem fg_n {rows : List RW} {day : Int32} {i : Nat} (h : ¬ p_grd (rw_at rows i) day) : rw_cnt rows day (i + 1) = rw_cnt rows day i := if_neg h
theorem fig_5 {k : Int32} (h : 0 ≤ k ∧ k ≤ 5) (h0 : ¬ k = 0) (h1 : ¬ k = 1) (h2 : ¬ k = 2) (h3 : ¬ k = 3) (h4 : ¬ k = 4) : k = 5 := by
  rcases sw0_5 k with q | q | q | q | q | q | q
  · exact absurd q h0
  · exact absurd q h1
  · exact absurd q h2
  · exact absurd q h3
  · exact absurd q h4
  · exact q
  · have a1 := Int32.le_iff_toInt_le.mp h.1
    have a2 := Int32.le_iff_toInt_le.mp h.2
    have e0 : (0 : Int32).toInt = 0 := by decide
    have e5 : (5 : Int32).toInt = 5 := by decide
    rw [e0] at a1
    rw [e5] at a2
    omega

set_option maxRecDepth 100000 in
set_option maxHeartbeats 4000000 in
theorem c_M_figure {l : Launch} {D : va_G} {A : Nat → Prop} {Z : State → Heap → Prop} (hZc : tZ A Z) {J : Nat → Nat} {ca : Nat → ClassId} {code day : Int32} {M U : Nat → Nat → Int32} {log : Nat → Int32} {lk : Int64} {rest : va_W} {k9 : Int32} (hd0 : 0 ≤ day) {rows : List RW} {w9 ev9 : Nat} (hw9 : w9 < 2 ^ 31) (hag : mA rows M) (hPI : PI (rows, (log, w9, lk), ev9)) {Rs : List RW} (huA : uA Rs U) : tM l y_M_figure tb ({ frames := 2, cells := 0, slots := 0, locals := 42 }) D cls (ty0 ca) A Z [.ref (J 0), .int k9] (wM J ca code day (nI ev9) (nI rows.length) M U (nI w9) log lk rest) (oM J ca (o_figure day k9 (rows, (log, w9, lk), ev9)) day Rs rest) (xN) := by
  refine t_ofW (by decide) w_829 (Nat.le_of_ble_eq_true rfl) ?_
  intro p e s m below meth c ls hx hb hr hts hown hlk hnm hml hex hl hC
  have hown : s.vm.findClass "RetentionVaultModel" = some m.cls := hown
  have hl : lv_has ls 5 [(0, .ref (J 0)), (1, .int k9)] := hl
  have h40 : rows.length ≤ 40 := hPI.1
  have hcu : rw_CurOK rows := hPI.2.1
  refine lv_aload_n hx hb d_M_figure_0 rfl (lv_at hl 0 rfl) ?_
  refine lv_iload_n hx hb d_M_figure_1 rfl (lv_at hl 1 rfl) ?_
  refine lv_if_lt (tgt := 10) hx hb d_M_figure_2 (by decide) (fun c2 => ?_) (fun c2 => ?_)
  · skip
    refine lv_iconst (v := 1) hx hb d_M_figure_10 (by decide) ?_
    refine lv_goto (tgt := 15) hx hb d_M_figure_11 (by decide) ?_
    refine t_put (ty := .int) (v := .int 1) hx hb hts inM TM tyM nmM hown hC 0 rfl rfl 0 (by decide) (hts _ w_637) (fun _ h => h) rfl (by decide +kernel) rfl rfl (Nat.le_of_ble_eq_true rfl) d_M_figure_15 (fun H locs hC => ?_)
    have hC : tC D cls (ty0 ca) A Z s (wM J ca 1 day (nI ev9) (nI rows.length) M U (nI w9) log lk rest) H locs := hC
    refine lv_aload_n hx hb d_M_figure_18 rfl (lv_at hl 0 rfl) ?_
    refine t_get (v := .int 1) hx hb hts inM hown hC 0 rfl rfl 0 (by decide) (hts _ w_637) (fun _ h => h) rfl d_M_figure_19 ?_
    refine lv_if_le (tgt := 27) hx hb d_M_figure_22 (by decide) (fun c22 => ?_) (fun c22 => ?_)
    · first | exact absurd c22 (by decide) | exact absurd (by decide) c22
    · skip
      refine lv_iconst (v := 0) hx hb d_M_figure_25 (by decide) ?_
      exact t_iret hx hb hr hlk hZc hC (oM_mk (c := 1) (a := 0) (S' := (rows, (log, w9, lk), ev9)) (if_neg (fun h => absurd h.1 (Int32.not_le.mpr c2))) (fun h => absurd h (by decide)) hag huA (rfl)) (Nat.le_of_ble_eq_true rfl) (Nat.le_of_ble_eq_true rfl) d_M_figure_26
  · skip
    refine lv_iload_n hx hb d_M_figure_5 rfl (lv_at hl 1 rfl) ?_
    refine lv_iconst (v := 5) hx hb d_M_figure_6 (by decide) ?_
    refine lv_icmp_le (tgt := 14) hx hb d_M_figure_7 (by decide) (fun c7 => ?_) (fun c7 => ?_)
    · skip
      refine lv_iconst (v := 0) hx hb d_M_figure_14 (by decide) ?_
      refine t_put (ty := .int) (v := .int 0) hx hb hts inM TM tyM nmM hown hC 0 rfl rfl 0 (by decide) (hts _ w_637) (fun _ h => h) rfl (by decide +kernel) rfl rfl (Nat.le_of_ble_eq_true rfl) d_M_figure_15 (fun H locs hC => ?_)
      have hC : tC D cls (ty0 ca) A Z s (wM J ca 0 day (nI ev9) (nI rows.length) M U (nI w9) log lk rest) H locs := hC
      refine lv_aload_n hx hb d_M_figure_18 rfl (lv_at hl 0 rfl) ?_
      refine t_get (v := .int 0) hx hb hts inM hown hC 0 rfl rfl 0 (by decide) (hts _ w_637) (fun _ h => h) rfl d_M_figure_19 ?_
      refine lv_if_le (tgt := 27) hx hb d_M_figure_22 (by decide) (fun c22 => ?_) (fun c22 => ?_)
      · skip
        refine lv_iconst (v := 0) hx hb d_M_figure_27 (by decide) ?_
        refine lv_istore_n (lv' := [(2, .int 0), (0, .ref (J 0)), (1, .int k9)]) hx hb d_M_figure_28 rfl hl (by decide) rfl (fun ls hl => ?_)
        refine lv_iconst (v := 0) hx hb d_M_figure_29 (by decide) ?_
        refine lv_istore_n (lv' := [(3, .int 0), (2, .int 0), (0, .ref (J 0)), (1, .int k9)]) hx hb d_M_figure_30 rfl hl (by decide) rfl (fun ls hl => ?_)
        refine lv_iconst (v := 0) hx hb d_M_figure_31 (by decide) ?_
        refine lv_istore (lv' := [(4, .int 0), (3, .int 0), (2, .int 0), (0, .ref (J 0)), (1, .int k9)]) hx hb d_M_figure_32 hl (by decide) rfl (fun ls hl => ?_)
        have loop : ∀ (k i : Nat) (ls : Array Slot) (H : Heap) (locs : List Loc), rows.length - i = k → i ≤ rows.length → lv_has ls 5 [(4, .int (nI i)), (3, .int (rw_cnt rows day i)), (2, .int (rw_sum rows i)), (0, .ref (J 0)), (1, .int k9)] → tC D cls (ty0 ca) A Z s (wM J ca 0 day (nI ev9) (nI rows.length) M U (nI w9) log lk rest) H locs → tB p l e ({ frames := 2, cells := 0, slots := 0, locals := 42 }) s m [.ref (J 0), .int k9] below meth c D (ty0 ca) A Z (oM J ca (o_figure day k9 (rows, (log, w9, lk), ev9)) day Rs rest) (xN) H locs 0 0 (F0 m 34 ls []) := by
          intro k
          induction k using Nat.strongRecOn with
          | ind k ih =>
            intro i ls H locs hk hle hl hC
            refine lv_iload hx hb d_M_figure_34 (lv_at hl 0 rfl) ?_
            refine lv_aload_n hx hb d_M_figure_36 rfl (lv_at hl 3 rfl) ?_
            refine t_get (v := .int (nI rows.length)) hx hb hts inM hown hC 0 rfl rfl 3 (by decide) (hts _ w_640) (fun _ h => h) rfl d_M_figure_37 ?_
            refine lv_icmp_ge (tgt := 86) hx hb d_M_figure_40 (by decide) (fun c40 => ?_) (fun c40 => ?_)
            · skip
              have hil : i = rows.length := Nat.le_antisymm hle ((nI_leI (by omega) (by omega)).mp c40)
              refine lv_iload_n hx hb d_M_figure_86 rfl (lv_at hl 4 rfl) ?_
              refine lv_if_ne (tgt := 97) hx hb d_M_figure_87 (by decide) (fun c87 => ?_) (fun c87 => ?_)
              · skip
                refine lv_iload_n hx hb d_M_figure_97 rfl (lv_at hl 4 rfl) ?_
                refine lv_iconst (v := 1) hx hb d_M_figure_98 (by decide) ?_
                refine lv_icmp_ne (tgt := 109) hx hb d_M_figure_99 (by decide) (fun c99 => ?_) (fun c99 => ?_)
                · skip
                  refine lv_iload_n hx hb d_M_figure_109 rfl (lv_at hl 4 rfl) ?_
                  refine lv_iconst (v := 2) hx hb d_M_figure_110 (by decide) ?_
                  refine lv_icmp_ne (tgt := 121) hx hb d_M_figure_111 (by decide) (fun c111 => ?_) (fun c111 => ?_)
                  · skip
                    refine lv_iload_n hx hb d_M_figure_121 rfl (lv_at hl 4 rfl) ?_
                    refine lv_iconst (v := 3) hx hb d_M_figure_122 (by decide) ?_
                    refine lv_icmp_ne (tgt := 133) hx hb d_M_figure_123 (by decide) (fun c123 => ?_) (fun c123 => ?_)
                    · skip
                      refine lv_iload_n hx hb d_M_figure_133 rfl (lv_at hl 4 rfl) ?_
                      refine lv_iconst (v := 4) hx hb d_M_figure_134 (by decide) ?_
                      refine lv_icmp_ne (tgt := 142) hx hb d_M_figure_135 (by decide) (fun c135 => ?_) (fun c135 => ?_)
                      · skip
                        refine lv_iload_n hx hb d_M_figure_142 rfl (lv_at hl 1 rfl) ?_
                        exact t_iret hx hb hr hlk hZc hC (oM_mk (c := 0) (a := rw_fig rows day (nI ev9) (nI w9) k9) (S' := (rows, (log, w9, lk), ev9)) (if_pos ⟨Int32.not_lt.mp c2, c7⟩) (fun _ => by unfold rw_fig; rw [if_neg c87, if_neg c99, if_neg c111, if_neg c123, if_neg c135, hil]) hag huA (rfl)) (Nat.le_of_ble_eq_true rfl) (Nat.le_of_ble_eq_true rfl) d_M_figure_143
                      · skip
                        refine lv_iload_n hx hb d_M_figure_138 rfl (lv_at hl 2 rfl) ?_
                        refine lv_goto (tgt := 143) hx hb d_M_figure_139 (by decide) ?_
                        exact t_iret hx hb hr hlk hZc hC (oM_mk (c := 0) (a := rw_fig rows day (nI ev9) (nI w9) k9) (S' := (rows, (log, w9, lk), ev9)) (if_pos ⟨Int32.not_lt.mp c2, c7⟩) (fun _ => by unfold rw_fig; rw [if_neg c87, if_neg c99, if_neg c111, if_neg c123, if_pos c135, hil]) hag huA (rfl)) (Nat.le_of_ble_eq_true rfl) (Nat.le_of_ble_eq_true rfl) d_M_figure_143
                    · skip
                      refine lv_aload_n hx hb d_M_figure_126 rfl (lv_at hl 3 rfl) ?_
                      refine t_get (v := .int (nI w9)) hx hb hts inM hown hC 0 rfl rfl 20 (by decide) (hts _ w_657) (fun _ h => h) rfl d_M_figure_127 ?_
                      refine lv_goto (tgt := 143) hx hb d_M_figure_130 (by decide) ?_
                      exact t_iret hx hb hr hlk hZc hC (oM_mk (c := 0) (a := rw_fig rows day (nI ev9) (nI w9) k9) (S' := (rows, (log, w9, lk), ev9)) (if_pos ⟨Int32.not_lt.mp c2, c7⟩) (fun _ => by unfold rw_fig; rw [if_neg c87, if_neg c99, if_neg c111, if_pos c123]) hag huA (rfl)) (Nat.le_of_ble_eq_true rfl) (Nat.le_of_ble_eq_true rfl) d_M_figure_143
                  · skip
                    refine lv_aload_n hx hb d_M_figure_114 rfl (lv_at hl 3 rfl) ?_
                    refine t_get (v := .int (nI ev9)) hx hb hts inM hown hC 0 rfl rfl 2 (by decide) (hts _ w_639) (fun _ h => h) rfl d_M_figure_115 ?_
                    refine lv_goto (tgt := 143) hx hb d_M_figure_118 (by decide) ?_
                    exact t_iret hx hb hr hlk hZc hC (oM_mk (c := 0) (a := rw_fig rows day (nI ev9) (nI w9) k9) (S' := (rows, (log, w9, lk), ev9)) (if_pos ⟨Int32.not_lt.mp c2, c7⟩) (fun _ => by unfold rw_fig; rw [if_neg c87, if_neg c99, if_pos c111]) hag huA (rfl)) (Nat.le_of_ble_eq_true rfl) (Nat.le_of_ble_eq_true rfl) d_M_figure_143
                · skip
                  refine lv_aload_n hx hb d_M_figure_102 rfl (lv_at hl 3 rfl) ?_
                  refine t_get (v := .int (nI rows.length)) hx hb hts inM hown hC 0 rfl rfl 3 (by decide) (hts _ w_640) (fun _ h => h) rfl d_M_figure_103 ?_
                  refine lv_goto (tgt := 143) hx hb d_M_figure_106 (by decide) ?_
                  exact t_iret hx hb hr hlk hZc hC (oM_mk (c := 0) (a := rw_fig rows day (nI ev9) (nI w9) k9) (S' := (rows, (log, w9, lk), ev9)) (if_pos ⟨Int32.not_lt.mp c2, c7⟩) (fun _ => by unfold rw_fig; rw [if_neg c87, if_pos c99]) hag huA (rfl)) (Nat.le_of_ble_eq_true rfl) (Nat.le_of_ble_eq_true rfl) d_M_figure_143
              · skip
                refine lv_aload_n hx hb d_M_figure_90 rfl (lv_at hl 3 rfl) ?_
                refine t_get (v := .int day) hx hb hts inM hown hC 0 rfl rfl 1 (by decide) (hts _ w_638) (fun _ h => h) rfl d_M_figure_91 ?_
                refine lv_goto (tgt := 143) hx hb d_M_figure_94 (by decide) ?_
                exact t_iret hx hb hr hlk hZc hC (oM_mk (c := 0) (a := rw_fig rows day (nI ev9) (nI w9) k9) (S' := (rows, (log, w9, lk), ev9)) (if_pos ⟨Int32.not_lt.mp c2, c7⟩) (fun _ => by unfold rw_fig; rw [if_pos c87]) hag huA (rfl)) (Nat.le_of_ble_eq_true rfl) (Nat.le_of_ble_eq_true rfl) d_M_figure_143
            · skip
              have hil : i < rows.length := Nat.not_le.mp (fun h => c40 ((nI_leI (by omega) (by omega)).mpr h))
              refine lv_iload_n hx hb d_M_figure_43 rfl (lv_at hl 2 rfl) ?_
              refine lv_aload_n hx hb d_M_figure_44 rfl (lv_at hl 3 rfl) ?_
              refine t_get (v := .ref (J 3)) hx hb hts inM hown hC 0 rfl rfl 6 (by decide) (hts _ w_643) (fun _ h => h) rfl d_M_figure_45 ?_
              refine lv_iload hx hb d_M_figure_48 (lv_at hl 0 rfl) ?_
              refine t_ialdN (k := i) hx hb hC 3 0 rfl rfl (by omega) (by decide) d_M_figure_50 ?_
              refine lv_iadd hx hb d_M_figure_51 ?_
              rw [hag i hil 3 (by decide) (by decide), show rw_sum rows i + rw_at rows i 3 = rw_sum rows (i + 1) from rfl]
              refine lv_istore_n (lv' := [(2, .int (rw_sum rows (i + 1))), (4, .int (nI i)), (3, .int (rw_cnt rows day i)), (0, .ref (J 0)), (1, .int k9)]) hx hb d_M_figure_52 rfl hl (by decide) rfl (fun ls hl => ?_)
              refine lv_iload_n hx hb d_M_figure_53 rfl (lv_at hl 2 rfl) ?_
              refine lv_aload_n hx hb d_M_figure_54 rfl (lv_at hl 3 rfl) ?_
              refine t_get (v := .ref (J 3)) hx hb hts inM hown hC 0 rfl rfl 6 (by decide) (hts _ w_643) (fun _ h => h) rfl d_M_figure_55 ?_
              refine lv_iload hx hb d_M_figure_58 (lv_at hl 1 rfl) ?_
              refine t_ialdN (k := i) hx hb hC 3 0 rfl rfl (by omega) (by decide) d_M_figure_60 ?_
              refine lv_if_le (tgt := 77) hx hb d_M_figure_61 (by decide) (fun c61 => ?_) (fun c61 => ?_)
              · skip
                refine lv_iconst (v := 0) hx hb d_M_figure_77 (by decide) ?_
                refine lv_iadd hx hb d_M_figure_78 ?_
                rw [Int32.add_zero, ← fg_m (hPI.2.2.1 i hil) hd0 (by rw [← hag i hil 3 (by decide) (by decide)]; exact Int32.not_lt.mpr c61)]
                refine lv_istore_n (lv' := [(3, .int (rw_cnt rows day (i + 1))), (2, .int (rw_sum rows (i + 1))), (4, .int (nI i)), (0, .ref (J 0)), (1, .int k9)]) hx hb d_M_figure_79 rfl hl (by decide) rfl (fun ls hl => ?_)
                refine lv_iinc (k := 2) (v := nI (i + 1)) (lv' := [(4, .int (nI (i + 1))), (3, .int (rw_cnt rows day (i + 1))), (2, .int (rw_sum rows (i + 1))), (0, .ref (J 0)), (1, .int k9)]) hx hb d_M_figure_80 hl rfl (nI_1 i) (by decide) rfl (fun ls hl => ?_)
                refine lv_goto (tgt := 34) hx hb d_M_figure_83 (by decide) ?_
                exact ih (rows.length - (i + 1)) (by omega) (i + 1) ls H locs rfl (by omega) (lv_sub hl [0, 1, 2, 3, 4] rfl) hC
              · skip
                refine lv_aload_n hx hb d_M_figure_64 rfl (lv_at hl 3 rfl) ?_
                refine lv_iload hx hb d_M_figure_65 (lv_at hl 1 rfl) ?_
                refine t_call (t_invV (As := [.int (nI i)]) (rest := [.int (rw_cnt rows day i)]) hx hb hown (hts _ w_794) (hts _ w_796) (hts _ s_M_isGuarded) (hts _ w_797) ⟨by decide, by decide⟩ (t_recv (q0 := 0) hC rfl rfl) rfl d_M_figure_67) (c_M_isGuarded hZc hag h40 hil) hZc tb_good hts w_7 hC (hl.1.trans hml.symm) ⟨Nat.le_of_ble_eq_true rfl, Nat.le_of_ble_eq_true rfl, Nat.le_of_ble_eq_true rfl, Nat.le_of_ble_eq_true rfl⟩ (Nat.le_of_ble_eq_true rfl) (fun E q ce w1 H1 l1 hp => hp.elim) (fun v w1 H locs hp hC => ?_)
                obtain ⟨rfl, hwe9⟩ := hp
                rw [hwe9] at hC
                have hC : tC D cls (ty0 ca) A Z s (wM J ca 0 day (nI ev9) (nI rows.length) M U (nI w9) log lk rest) H locs := hC
                refine W.eq (g2 := F0 m 70 ls [.int (bI (p_grd (rw_at rows i) day)), .int (rw_cnt rows day i)]) rfl ?_
                refine lv_if_eq (tgt := 77) hx hb d_M_figure_70 (by decide) (fun c70 => ?_) (fun c70 => ?_)
                · skip
                  refine lv_iconst (v := 0) hx hb d_M_figure_77 (by decide) ?_
                  refine lv_iadd hx hb d_M_figure_78 ?_
                  rw [Int32.add_zero, ← fg_n (bI_ne.mp c70)]
                  refine lv_istore_n (lv' := [(3, .int (rw_cnt rows day (i + 1))), (2, .int (rw_sum rows (i + 1))), (4, .int (nI i)), (0, .ref (J 0)), (1, .int k9)]) hx hb d_M_figure_79 rfl hl (by decide) rfl (fun ls hl => ?_)
                  refine lv_iinc (k := 2) (v := nI (i + 1)) (lv' := [(4, .int (nI (i + 1))), (3, .int (rw_cnt rows day (i + 1))), (2, .int (rw_sum rows (i + 1))), (0, .ref (J 0)), (1, .int k9)]) hx hb d_M_figure_80 hl rfl (nI_1 i) (by decide) rfl (fun ls hl => ?_)
                  refine lv_goto (tgt := 34) hx hb d_M_figure_83 (by decide) ?_
                  exact ih (rows.length - (i + 1)) (by omega) (i + 1) ls H locs rfl (by omega) (lv_sub hl [0, 1, 2, 3, 4] rfl) hC
                · skip
                  refine lv_iconst (v := 1) hx hb d_M_figure_73 (by decide) ?_
                  refine lv_goto (tgt := 78) hx hb d_M_figure_74 (by decide) ?_
                  refine lv_iadd hx hb d_M_figure_78 ?_
                  rw [← fg_g (Classical.not_not.mp (fun q => c70 (bI_ne.mpr q)))]
                  refine lv_istore_n (lv' := [(3, .int (rw_cnt rows day (i + 1))), (2, .int (rw_sum rows (i + 1))), (4, .int (nI i)), (0, .ref (J 0)), (1, .int k9)]) hx hb d_M_figure_79 rfl hl (by decide) rfl (fun ls hl => ?_)
                  refine lv_iinc (k := 2) (v := nI (i + 1)) (lv' := [(4, .int (nI (i + 1))), (3, .int (rw_cnt rows day (i + 1))), (2, .int (rw_sum rows (i + 1))), (0, .ref (J 0)), (1, .int k9)]) hx hb d_M_figure_80 hl rfl (nI_1 i) (by decide) rfl (fun ls hl => ?_)
                  refine lv_goto (tgt := 34) hx hb d_M_figure_83 (by decide) ?_
                  exact ih (rows.length - (i + 1)) (by omega) (i + 1) ls H locs rfl (by omega) (lv_sub hl [0, 1, 2, 3, 4] rfl) hC
        exact loop _ 0 ls H locs rfl (by omega) hl hC
      · first | exact absurd c22 (by decide) | exact absurd (by decide) c22
    · skip
      refine lv_iconst (v := 1) hx hb d_M_figure_10 (by decide) ?_
      refine lv_goto (tgt := 15) hx hb d_M_figure_11 (by decide) ?_
      refine t_put (ty := .int) (v := .int 1) hx hb hts inM TM tyM nmM hown hC 0 rfl rfl 0 (by decide) (hts _ w_637) (fun _ h => h) rfl (by decide +kernel) rfl rfl (Nat.le_of_ble_eq_true rfl) d_M_figure_15 (fun H locs hC => ?_)
      have hC : tC D cls (ty0 ca) A Z s (wM J ca 1 day (nI ev9) (nI rows.length) M U (nI w9) log lk rest) H locs := hC
      refine lv_aload_n hx hb d_M_figure_18 rfl (lv_at hl 0 rfl) ?_
      refine t_get (v := .int 1) hx hb hts inM hown hC 0 rfl rfl 0 (by decide) (hts _ w_637) (fun _ h => h) rfl d_M_figure_19 ?_
      refine lv_if_le (tgt := 27) hx hb d_M_figure_22 (by decide) (fun c22 => ?_) (fun c22 => ?_)
      · first | exact absurd c22 (by decide) | exact absurd (by decide) c22
      · skip
        refine lv_iconst (v := 0) hx hb d_M_figure_25 (by decide) ?_
        exact t_iret hx hb hr hlk hZc hC (oM_mk (c := 1) (a := 0) (S' := (rows, (log, w9, lk), ev9)) (if_neg (fun h => c7 h.2)) (fun h => absurd h (by decide)) hag huA (rfl)) (Nat.le_of_ble_eq_true rfl) (Nat.le_of_ble_eq_true rfl) d_M_figure_26

set_option maxRecDepth 100000 in
set_option maxHeartbeats 4000000 in
theorem c_M_link {l : Launch} {D : va_G} {A : Nat → Prop} {Z : State → Heap → Prop} (hZc : tZ A Z) {J : Nat → Nat} {ca : Nat → ClassId} {code day : Int32} {M U : Nat → Nat → Int32} {log : Nat → Int32} {lk : Int64} {rest : va_W} {rows : List RW} {w9 ev9 : Nat} : tM l y_M_link tb ({ frames := 0, cells := 0, slots := 0, locals := 0 }) D cls (ty0 ca) A Z [.ref (J 0)] (wM J ca code day (nI ev9) (nI rows.length) M U (nI w9) log lk rest) (fun v w2 => v = some (.long lk) ∧ w2 = wM J ca 0 day (nI ev9) (nI rows.length) M U (nI w9) log lk rest) (xN) := by
  refine t_ofW (by decide) w_825 (Nat.le_of_ble_eq_true rfl) ?_
  intro p e s m below meth c ls hx hb hr hts hown hlk hnm hml hex hl hC
  have hown : s.vm.findClass "RetentionVaultModel" = some m.cls := hown
  have hl : lv_has ls 1 [(0, .ref (J 0))] := hl
  refine lv_aload_n hx hb d_M_link_0 rfl (lv_at hl 0 rfl) ?_
  refine lv_iconst (v := 0) hx hb d_M_link_1 (by decide) ?_
  refine t_put (ty := .int) (v := .int 0) hx hb hts inM TM tyM nmM hown hC 0 rfl rfl 0 (by decide) (hts _ w_637) (fun _ h => h) rfl (by decide +kernel) rfl rfl (Nat.le_of_ble_eq_true rfl) d_M_link_2 (fun H locs hC => ?_)
  have hC : tC D cls (ty0 ca) A Z s (wM J ca 0 day (nI ev9) (nI rows.length) M U (nI w9) log lk rest) H locs := hC
  refine lv_aload_n hx hb d_M_link_5 rfl (lv_at hl 0 rfl) ?_
  refine t_get (v := .long lk) hx hb hts inM hown hC 0 rfl rfl 22 (by decide) (hts _ w_659) (fun _ h => h) rfl d_M_link_6 ?_
  exact t_lret hx hb hr hlk hZc hC (⟨rfl, rfl⟩) (Nat.le_of_ble_eq_true rfl) (Nat.le_of_ble_eq_true rfl) d_M_link_9

set_option maxRecDepth 100000 in
set_option maxHeartbeats 4000000 in
theorem c_M_thrown {l : Launch} {D : va_G} {A : Nat → Prop} {Z : State → Heap → Prop} (hZc : tZ A Z) {J : Nat → Nat} {ca : Nat → ClassId} {code day made count : Int32} {M U : Nat → Nat → Int32} {en : Int32} {log : Nat → Int32} {lk : Int64} {rest : va_W} : tM l y_M_thrown tb ({ frames := 0, cells := 0, slots := 0, locals := 0 }) D cls (ty0 ca) A Z [.ref (J 0)] (wM J ca code day made count M U en log lk rest) (pR (.int code) (wM J ca code day made count M U en log lk rest)) (xN) := by
  refine t_ofW (by decide) w_711 (Nat.le_of_ble_eq_true rfl) ?_
  intro p e s m below meth c ls hx hb hr hts hown hlk hnm hml hex hl hC
  have hown : s.vm.findClass "RetentionVaultModel" = some m.cls := hown
  have hl : lv_has ls 1 [(0, .ref (J 0))] := hl
  refine lv_aload_n hx hb d_M_thrown_0 rfl (lv_at hl 0 rfl) ?_
  refine t_get (v := .int code) hx hb hts inM hown hC 0 rfl rfl 0 (by decide) (hts _ w_637) (fun _ h => h) rfl d_M_thrown_1 ?_
  exact t_iret hx hb hr hlk hZc hC (⟨rfl, rfl⟩) (Nat.le_of_ble_eq_true rfl) (Nat.le_of_ble_eq_true rfl) d_M_thrown_4

theorem c_M_tickO {l : Launch} {D : va_G} {A : Nat → Prop} {Z : State → Heap → Prop} (hZc : tZ A Z) {J : Nat → Nat} {ca : Nat → ClassId} {code day : Int32} {M U : Nat → Nat → Int32} {log : Nat → Int32} {lk : Int64} {rest : va_W} {rows : List RW} {w9 ev9 : Nat} {days : Int32} (hw6 : w9 + 280000 < 2 ^ 31) (hag : mA rows M) (hPI : PI (rows, (log, w9, lk), ev9)) (hevp : ev9 + pot rows < 2 ^ 31) {Rs : List RW} (huA : uA Rs U) (hrI : rI Rs) (hRs : Rs.length = 6) : tM l y_M_tick tb ({ frames := 6, cells := 0, slots := 0, locals := 134 }) D cls (ty0 ca) A Z [.ref (J 0), .int days] (wM J ca code day (nI ev9) (nI rows.length) M U (nI w9) log lk rest) (oM J ca (o_tick day days Rs (rows, (log, w9, lk), ev9)) (d_tick day days) Rs rest) xN := by
  refine t_monoM (c_M_tick hZc rfl rfl rfl hag hPI hevp huA hrI hRs hw6 rfl) ?_ (fun _ _ h => h)
  rintro v w2 (⟨hd, rfl, M2, h1, h2⟩ | ⟨hd, ⟨x, rfl⟩, h2⟩)
  · rw [show d_tick day days = day + days from if_pos hd]
    exact oM_mk (c := 0) (if_pos hd) (fun _ => rfl) h1 huA h2
  · rw [show d_tick day days = day from if_neg hd]
    exact oM_mk (c := 1) (if_neg hd) (fun h => absurd h (by decide)) hag huA h2
