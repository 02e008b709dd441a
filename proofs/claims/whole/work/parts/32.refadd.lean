/-! The reference: add, takeAway, go. Laid by program (wip/whole/p32.py) -/
theorem mA_add {rows : List RW} {M1 M2 : Nat → Nat → Int32} {row : RW} {day : Int32} (h1 : ∀ i, i < rows.length → ∀ c, c < 13 → c ≠ 6 → M1 c i = rw_at (rw_old rows day (row 1)) i c) (h2 : ∀ c, c < 13 → c ≠ 6 → M2 c = upd (M1 c) rows.length (row c)) : mA (rw_add rows day row) M2 := by
  intro i hi c hc h6
  rw [rw_add_len] at hi
  rw [h2 c hc h6]
  unfold rw_add
  rw [rw_at_app (by rw [rw_old_len]; omega), rw_old_len]
  by_cases e : i = rows.length
  · rw [if_pos e, e, pk_us]
  · rw [if_neg e, pk_un e]; exact h1 i (by omega) c hc h6
theorem mA_old_none {rows : List RW} {M : Nat → Nat → Int32} {day k : Int32} (hag : mA rows M) (h : rw_latest rows k = none) : ∀ i, i < rows.length → ∀ c, c < 13 → c ≠ 6 → M c i = rw_at (rw_old rows day k) i c := by
  intro i hi c hc h6
  rw [rw_old_at, h, if_neg (fun e => by cases e)]
  exact hag i hi c hc h6
theorem mA_old_some {rows : List RW} {M : Nat → Nat → Int32} {day k : Int32} {o : Nat} (hag : mA rows M) (h : rw_latest rows k = some o) : ∀ i, i < rows.length → ∀ c, c < 13 → c ≠ 6 → va_up M 7 (upd (M 7) o day) c i = rw_at (rw_old rows day k) i c := by
  intro i hi c hc h6
  rw [rw_old_at, h]
  by_cases e : o = i
  · subst e
    rw [if_pos rfl]
    by_cases e7 : c = 7
    · subst e7
      rw [rw_upd_eq]
      simp [va_up, upd]
    · rw [rw_upd_ne e7, rw_upd_ne h6]
      simp only [va_up, if_neg e7]
      exact hag o hi c hc h6
  · rw [if_neg (fun q => e (Option.some.inj q))]
    by_cases e7 : c = 7
    · subst e7
      simp only [va_up, if_pos]
      rw [pk_un (fun q => e q.symm)]
      exact hag i hi 7 hc h6
    · simp only [va_up, if_neg e7]
      exact hag i hi c hc h6

set_option maxRecDepth 100000 in
set_option maxHeartbeats 4000000 in
theorem c_M_add {l : Launch} {D : va_G} {A : Nat → Prop} {Z : State → Heap → Prop} (hZc : tZ A Z) {J : Nat → Nat} {ca : Nat → ClassId} {code day made : Int32} {M U : Nat → Nat → Int32} {log : Nat → Int32} {lk : Int64} {rest : va_W} {k9 by9 tg9 : Int32} {w9 : Nat} (hw9 : w9 < 2 ^ 31) {rows : List RW} (hag : mA rows M) (h40 : rows.length ≤ 40) (hlr : rows.length < 40) {row : RW} (hrw : (row 0 = made ∧ row 1 = k9 ∧ row 2 = day ∧ row 3 = by9 ∧ row 4 = tg9 ∧ row 5 = (if 0 < by9 then 0 else -1) ∧ row 7 = 0 ∧ row 8 = 0 ∧ row 9 = 0 ∧ row 10 = 0 ∧ row 11 = 0 ∧ row 12 = 0)) : tM l y_M_add tb ({ frames := 1, cells := 0, slots := 0, locals := 25 }) D cls (ty0 ca) A Z [.ref (J 0), .int k9, .int by9, .int tg9] (wM J ca code day made (nI rows.length) M U (nI w9) log lk rest) (fun v w2 => v = some (.int made) ∧ ∃ M2, mA (rw_add rows day row) M2 ∧ w2 = wM J ca code day (made + 1) (nI (rows.length + 1)) M2 U (nI (w9 + 1)) ((lg_wr (log, w9, lk) day (if 0 < by9 then 1 else 2) made k9).1) ((lg_wr (log, w9, lk) day (if 0 < by9 then 1 else 2) made k9).2.2) rest) (xN) := by
  refine t_ofW (by decide) w_720 (Nat.le_of_ble_eq_true rfl) ?_
  intro p e s m below meth c ls hx hb hr hts hown hlk hnm hml hex hl hC
  have hown : s.vm.findClass "RetentionVaultModel" = some m.cls := hown
  have hl : lv_has ls 5 [(0, .ref (J 0)), (1, .int k9), (2, .int by9), (3, .int tg9)] := hl
  refine lv_aload_n hx hb d_M_add_0 rfl (lv_at hl 0 rfl) ?_
  refine lv_iload_n hx hb d_M_add_1 rfl (lv_at hl 1 rfl) ?_
  refine t_call (t_invV (As := [.int k9]) (rest := []) hx hb hown (hts _ w_721) (hts _ w_723) (hts _ s_M_currentOf) (hts _ w_724) ⟨by decide, by decide⟩ (t_recv (q0 := 0) hC rfl rfl) rfl d_M_add_2) (c_M_currentOf hZc hag h40) hZc tb_good hts w_7 hC (hl.1.trans hml.symm) ⟨Nat.le_of_ble_eq_true rfl, Nat.le_of_ble_eq_true rfl, Nat.le_of_ble_eq_true rfl, Nat.le_of_ble_eq_true rfl⟩ (Nat.le_of_ble_eq_true rfl) (fun E q ce w1 H1 l1 hp => hp.elim) (fun v w1 H locs hp hC => ?_)
  obtain ⟨rfl, hwe9⟩ := hp
  rw [hwe9] at hC
  have hC : tC D cls (ty0 ca) A Z s (wM J ca code day made (nI rows.length) M U (nI w9) log lk rest) H locs := hC
  refine W.eq (g2 := F0 m 5 ls [.int (oI (rw_latest rows k9))]) rfl ?_
  rcases op_two (rw_latest rows k9) with hlo | ⟨o, hlo⟩
  · refine W.eq (g2 := F0 m 5 ls [.int (-1)]) (by rw [hlo]; rfl) ?_
    refine lv_istore (lv' := [(4, .int (-1)), (0, .ref (J 0)), (1, .int k9), (2, .int by9), (3, .int tg9)]) hx hb d_M_add_5 hl (by decide) rfl (fun ls hl => ?_)
    refine lv_iload hx hb d_M_add_7 (lv_at hl 0 rfl) ?_
    refine lv_if_lt (tgt := 23) hx hb d_M_add_9 (by decide) (fun c9 => ?_) (fun c9 => ?_)
    · skip
      have hold := mA_old_none (day := day) hag (hrw.2.1.symm ▸ hlo : rw_latest rows (row 1) = none)
      refine lv_aload_n hx hb d_M_add_23 rfl (lv_at hl 1 rfl) ?_
      refine t_get (v := .ref (J 1)) hx hb hts inM hown hC 0 rfl rfl 4 (by decide) (hts _ w_641) (fun _ h => h) rfl d_M_add_24 ?_
      refine lv_aload_n hx hb d_M_add_27 rfl (lv_at hl 1 rfl) ?_
      refine t_get (v := .int (nI rows.length)) hx hb hts inM hown hC 0 rfl rfl 3 (by decide) (hts _ w_640) (fun _ h => h) rfl d_M_add_28 ?_
      refine lv_aload_n hx hb d_M_add_31 rfl (lv_at hl 1 rfl) ?_
      refine t_get (v := .int made) hx hb hts inM hown hC 0 rfl rfl 2 (by decide) (hts _ w_639) (fun _ h => h) rfl d_M_add_32 ?_
      refine t_iastN (k := rows.length) hx hb hC 1 0 rfl rfl (by omega) (by decide) d_M_add_35 (fun H locs hC => ?_)
      have hC : tC D cls (ty0 ca) A Z s (wM J ca code day made (nI rows.length) (va_up M 0 (upd (M 0) rows.length made)) U (nI w9) log lk rest) H locs := hC
      refine gM hC (fun Mg1 hMg1 hC => ?_)
      refine lv_aload_n hx hb d_M_add_36 rfl (lv_at hl 1 rfl) ?_
      refine t_get (v := .ref (J 2)) hx hb hts inM hown hC 0 rfl rfl 5 (by decide) (hts _ w_642) (fun _ h => h) rfl d_M_add_37 ?_
      refine lv_aload_n hx hb d_M_add_40 rfl (lv_at hl 1 rfl) ?_
      refine t_get (v := .int (nI rows.length)) hx hb hts inM hown hC 0 rfl rfl 3 (by decide) (hts _ w_640) (fun _ h => h) rfl d_M_add_41 ?_
      refine lv_iload_n hx hb d_M_add_44 rfl (lv_at hl 2 rfl) ?_
      refine t_iastN (k := rows.length) hx hb hC 2 0 rfl rfl (by omega) (by decide) d_M_add_45 (fun H locs hC => ?_)
      have hC : tC D cls (ty0 ca) A Z s (wM J ca code day made (nI rows.length) (va_up Mg1 1 (upd (Mg1 1) rows.length k9)) U (nI w9) log lk rest) H locs := hC
      refine gM hC (fun Mg2 hMg2 hC => ?_)
      refine lv_aload_n hx hb d_M_add_46 rfl (lv_at hl 1 rfl) ?_
      refine t_get (v := .ref (J 3)) hx hb hts inM hown hC 0 rfl rfl 6 (by decide) (hts _ w_643) (fun _ h => h) rfl d_M_add_47 ?_
      refine lv_aload_n hx hb d_M_add_50 rfl (lv_at hl 1 rfl) ?_
      refine t_get (v := .int (nI rows.length)) hx hb hts inM hown hC 0 rfl rfl 3 (by decide) (hts _ w_640) (fun _ h => h) rfl d_M_add_51 ?_
      refine lv_iload_n hx hb d_M_add_54 rfl (lv_at hl 3 rfl) ?_
      refine t_iastN (k := rows.length) hx hb hC 3 0 rfl rfl (by omega) (by decide) d_M_add_55 (fun H locs hC => ?_)
      have hC : tC D cls (ty0 ca) A Z s (wM J ca code day made (nI rows.length) (va_up Mg2 3 (upd (Mg2 3) rows.length by9)) U (nI w9) log lk rest) H locs := hC
      refine gM hC (fun Mg3 hMg3 hC => ?_)
      refine lv_aload_n hx hb d_M_add_56 rfl (lv_at hl 1 rfl) ?_
      refine t_get (v := .ref (J 4)) hx hb hts inM hown hC 0 rfl rfl 7 (by decide) (hts _ w_644) (fun _ h => h) rfl d_M_add_57 ?_
      refine lv_aload_n hx hb d_M_add_60 rfl (lv_at hl 1 rfl) ?_
      refine t_get (v := .int (nI rows.length)) hx hb hts inM hown hC 0 rfl rfl 3 (by decide) (hts _ w_640) (fun _ h => h) rfl d_M_add_61 ?_
      refine lv_iload_n hx hb d_M_add_64 rfl (lv_at hl 4 rfl) ?_
      refine t_iastN (k := rows.length) hx hb hC 4 0 rfl rfl (by omega) (by decide) d_M_add_65 (fun H locs hC => ?_)
      have hC : tC D cls (ty0 ca) A Z s (wM J ca code day made (nI rows.length) (va_up Mg3 4 (upd (Mg3 4) rows.length tg9)) U (nI w9) log lk rest) H locs := hC
      refine gM hC (fun Mg4 hMg4 hC => ?_)
      refine lv_aload_n hx hb d_M_add_66 rfl (lv_at hl 1 rfl) ?_
      refine t_get (v := .ref (J 5)) hx hb hts inM hown hC 0 rfl rfl 8 (by decide) (hts _ w_645) (fun _ h => h) rfl d_M_add_67 ?_
      refine lv_aload_n hx hb d_M_add_70 rfl (lv_at hl 1 rfl) ?_
      refine t_get (v := .int (nI rows.length)) hx hb hts inM hown hC 0 rfl rfl 3 (by decide) (hts _ w_640) (fun _ h => h) rfl d_M_add_71 ?_
      refine lv_aload_n hx hb d_M_add_74 rfl (lv_at hl 1 rfl) ?_
      refine t_get (v := .int day) hx hb hts inM hown hC 0 rfl rfl 1 (by decide) (hts _ w_638) (fun _ h => h) rfl d_M_add_75 ?_
      refine t_iastN (k := rows.length) hx hb hC 5 0 rfl rfl (by omega) (by decide) d_M_add_78 (fun H locs hC => ?_)
      have hC : tC D cls (ty0 ca) A Z s (wM J ca code day made (nI rows.length) (va_up Mg4 2 (upd (Mg4 2) rows.length day)) U (nI w9) log lk rest) H locs := hC
      refine gM hC (fun Mg5 hMg5 hC => ?_)
      refine lv_aload_n hx hb d_M_add_79 rfl (lv_at hl 1 rfl) ?_
      refine t_get (v := .ref (J 6)) hx hb hts inM hown hC 0 rfl rfl 9 (by decide) (hts _ w_646) (fun _ h => h) rfl d_M_add_80 ?_
      refine lv_aload_n hx hb d_M_add_83 rfl (lv_at hl 1 rfl) ?_
      refine t_get (v := .int (nI rows.length)) hx hb hts inM hown hC 0 rfl rfl 3 (by decide) (hts _ w_640) (fun _ h => h) rfl d_M_add_84 ?_
      refine lv_iconst (v := 0) hx hb d_M_add_87 (by decide) ?_
      refine t_iastN (k := rows.length) hx hb hC 6 0 rfl rfl (by omega) (by decide) d_M_add_88 (fun H locs hC => ?_)
      have hC : tC D cls (ty0 ca) A Z s (wM J ca code day made (nI rows.length) (va_up Mg5 7 (upd (Mg5 7) rows.length 0)) U (nI w9) log lk rest) H locs := hC
      refine gM hC (fun Mg6 hMg6 hC => ?_)
      refine lv_aload_n hx hb d_M_add_89 rfl (lv_at hl 1 rfl) ?_
      refine t_get (v := .ref (J 7)) hx hb hts inM hown hC 0 rfl rfl 10 (by decide) (hts _ w_647) (fun _ h => h) rfl d_M_add_90 ?_
      refine lv_aload_n hx hb d_M_add_93 rfl (lv_at hl 1 rfl) ?_
      refine t_get (v := .int (nI rows.length)) hx hb hts inM hown hC 0 rfl rfl 3 (by decide) (hts _ w_640) (fun _ h => h) rfl d_M_add_94 ?_
      refine lv_iload_n hx hb d_M_add_97 rfl (lv_at hl 3 rfl) ?_
      refine lv_if_le (tgt := 105) hx hb d_M_add_98 (by decide) (fun c98 => ?_) (fun c98 => ?_)
      · skip
        refine lv_iconst (v := (-1)) hx hb d_M_add_105 (by decide) ?_
        refine t_iastN (k := rows.length) hx hb hC 7 0 rfl rfl (by omega) (by decide) d_M_add_106 (fun H locs hC => ?_)
        have hC : tC D cls (ty0 ca) A Z s (wM J ca code day made (nI rows.length) (va_up Mg6 5 (upd (Mg6 5) rows.length (-1))) U (nI w9) log lk rest) H locs := hC
        refine gM hC (fun Mg7 hMg7 hC => ?_)
        refine lv_aload_n hx hb d_M_add_107 rfl (lv_at hl 1 rfl) ?_
        refine t_get (v := .ref (J 8)) hx hb hts inM hown hC 0 rfl rfl 11 (by decide) (hts _ w_648) (fun _ h => h) rfl d_M_add_108 ?_
        refine lv_aload_n hx hb d_M_add_111 rfl (lv_at hl 1 rfl) ?_
        refine t_get (v := .int (nI rows.length)) hx hb hts inM hown hC 0 rfl rfl 3 (by decide) (hts _ w_640) (fun _ h => h) rfl d_M_add_112 ?_
        refine lv_iconst (v := 0) hx hb d_M_add_115 (by decide) ?_
        refine t_iastN (k := rows.length) hx hb hC 8 0 rfl rfl (by omega) (by decide) d_M_add_116 (fun H locs hC => ?_)
        have hC : tC D cls (ty0 ca) A Z s (wM J ca code day made (nI rows.length) (va_up Mg7 8 (upd (Mg7 8) rows.length 0)) U (nI w9) log lk rest) H locs := hC
        refine gM hC (fun Mg8 hMg8 hC => ?_)
        refine lv_aload_n hx hb d_M_add_117 rfl (lv_at hl 1 rfl) ?_
        refine t_get (v := .ref (J 9)) hx hb hts inM hown hC 0 rfl rfl 12 (by decide) (hts _ w_649) (fun _ h => h) rfl d_M_add_118 ?_
        refine lv_aload_n hx hb d_M_add_121 rfl (lv_at hl 1 rfl) ?_
        refine t_get (v := .int (nI rows.length)) hx hb hts inM hown hC 0 rfl rfl 3 (by decide) (hts _ w_640) (fun _ h => h) rfl d_M_add_122 ?_
        refine lv_iconst (v := 0) hx hb d_M_add_125 (by decide) ?_
        refine t_zastN (k := rows.length) hx hb hC 9 1 rfl rfl (by omega) (by decide) (Or.inl rfl) d_M_add_126 (fun H locs hC => ?_)
        have hC : tC D cls (ty0 ca) A Z s (wM J ca code day made (nI rows.length) (va_up Mg8 9 (upd (Mg8 9) rows.length 0)) U (nI w9) log lk rest) H locs := hC
        refine gM hC (fun Mg9 hMg9 hC => ?_)
        refine lv_aload_n hx hb d_M_add_127 rfl (lv_at hl 1 rfl) ?_
        refine t_get (v := .ref (J 10)) hx hb hts inM hown hC 0 rfl rfl 13 (by decide) (hts _ w_650) (fun _ h => h) rfl d_M_add_128 ?_
        refine lv_aload_n hx hb d_M_add_131 rfl (lv_at hl 1 rfl) ?_
        refine t_get (v := .int (nI rows.length)) hx hb hts inM hown hC 0 rfl rfl 3 (by decide) (hts _ w_640) (fun _ h => h) rfl d_M_add_132 ?_
        refine lv_iconst (v := 0) hx hb d_M_add_135 (by decide) ?_
        refine t_iastN (k := rows.length) hx hb hC 10 0 rfl rfl (by omega) (by decide) d_M_add_136 (fun H locs hC => ?_)
        have hC : tC D cls (ty0 ca) A Z s (wM J ca code day made (nI rows.length) (va_up Mg9 10 (upd (Mg9 10) rows.length 0)) U (nI w9) log lk rest) H locs := hC
        refine gM hC (fun Mg10 hMg10 hC => ?_)
        refine lv_aload_n hx hb d_M_add_137 rfl (lv_at hl 1 rfl) ?_
        refine t_get (v := .ref (J 11)) hx hb hts inM hown hC 0 rfl rfl 14 (by decide) (hts _ w_651) (fun _ h => h) rfl d_M_add_138 ?_
        refine lv_aload_n hx hb d_M_add_141 rfl (lv_at hl 1 rfl) ?_
        refine t_get (v := .int (nI rows.length)) hx hb hts inM hown hC 0 rfl rfl 3 (by decide) (hts _ w_640) (fun _ h => h) rfl d_M_add_142 ?_
        refine lv_iconst (v := 0) hx hb d_M_add_145 (by decide) ?_
        refine t_iastN (k := rows.length) hx hb hC 11 0 rfl rfl (by omega) (by decide) d_M_add_146 (fun H locs hC => ?_)
        have hC : tC D cls (ty0 ca) A Z s (wM J ca code day made (nI rows.length) (va_up Mg10 11 (upd (Mg10 11) rows.length 0)) U (nI w9) log lk rest) H locs := hC
        refine gM hC (fun Mg11 hMg11 hC => ?_)
        refine lv_aload_n hx hb d_M_add_147 rfl (lv_at hl 1 rfl) ?_
        refine t_get (v := .ref (J 12)) hx hb hts inM hown hC 0 rfl rfl 15 (by decide) (hts _ w_652) (fun _ h => h) rfl d_M_add_148 ?_
        refine lv_aload_n hx hb d_M_add_151 rfl (lv_at hl 1 rfl) ?_
        refine t_get (v := .int (nI rows.length)) hx hb hts inM hown hC 0 rfl rfl 3 (by decide) (hts _ w_640) (fun _ h => h) rfl d_M_add_152 ?_
        refine lv_iconst (v := 0) hx hb d_M_add_155 (by decide) ?_
        refine t_iastN (k := rows.length) hx hb hC 12 0 rfl rfl (by omega) (by decide) d_M_add_156 (fun H locs hC => ?_)
        have hC : tC D cls (ty0 ca) A Z s (wM J ca code day made (nI rows.length) (va_up Mg11 12 (upd (Mg11 12) rows.length 0)) U (nI w9) log lk rest) H locs := hC
        refine gM hC (fun Mg12 hMg12 hC => ?_)
        refine lv_aload_n hx hb d_M_add_157 rfl (lv_at hl 1 rfl) ?_
        refine lv_dup hx hb d_M_add_158 rfl ?_
        refine t_get (v := .int (nI rows.length)) hx hb hts inM hown hC 0 rfl rfl 3 (by decide) (hts _ w_640) (fun _ h => h) rfl d_M_add_159 ?_
        refine lv_iconst (v := 1) hx hb d_M_add_162 (by decide) ?_
        refine lv_iaddN (a := rows.length) (b := 1) hx hb rfl d_M_add_163 ?_
        refine t_put (ty := .int) (v := .int (nI (rows.length + 1))) hx hb hts inM TM tyM nmM hown hC 0 rfl rfl 3 (by decide) (hts _ w_640) (fun _ h => h) rfl (by decide +kernel) rfl rfl (Nat.le_of_ble_eq_true rfl) d_M_add_164 (fun H locs hC => ?_)
        have hC : tC D cls (ty0 ca) A Z s (wM J ca code day made (nI (rows.length + 1)) Mg12 U (nI w9) log lk rest) H locs := hC
        refine lv_aload_n hx hb d_M_add_167 rfl (lv_at hl 1 rfl) ?_
        refine lv_dup hx hb d_M_add_168 rfl ?_
        refine t_get (v := .int made) hx hb hts inM hown hC 0 rfl rfl 2 (by decide) (hts _ w_639) (fun _ h => h) rfl d_M_add_169 ?_
        refine lv_iconst (v := 1) hx hb d_M_add_172 (by decide) ?_
        refine lv_iadd hx hb d_M_add_173 ?_
        refine t_put (ty := .int) (v := .int (made + 1)) hx hb hts inM TM tyM nmM hown hC 0 rfl rfl 2 (by decide) (hts _ w_639) (fun _ h => h) rfl (by decide +kernel) rfl rfl (Nat.le_of_ble_eq_true rfl) d_M_add_174 (fun H locs hC => ?_)
        have hC : tC D cls (ty0 ca) A Z s (wM J ca code day (made + 1) (nI (rows.length + 1)) Mg12 U (nI w9) log lk rest) H locs := hC
        refine lv_aload_n hx hb d_M_add_177 rfl (lv_at hl 1 rfl) ?_
        refine lv_iload_n hx hb d_M_add_178 rfl (lv_at hl 3 rfl) ?_
        refine lv_if_le (tgt := 186) hx hb d_M_add_179 (by decide) (fun c179 => ?_) (fun c179 => ?_)
        · skip
          refine lv_iconst (v := 2) hx hb d_M_add_186 (by decide) ?_
          refine lv_aload_n hx hb d_M_add_187 rfl (lv_at hl 1 rfl) ?_
          refine t_get (v := .int (made + 1)) hx hb hts inM hown hC 0 rfl rfl 2 (by decide) (hts _ w_639) (fun _ h => h) rfl d_M_add_188 ?_
          refine lv_iconst (v := 1) hx hb d_M_add_191 (by decide) ?_
          refine lv_isub hx hb d_M_add_192 ?_
          rw [Int32.add_sub_cancel]
          refine lv_iload_n hx hb d_M_add_193 rfl (lv_at hl 2 rfl) ?_
          refine t_call (t_invV (As := [.int 2, .int made, .int k9]) (rest := []) hx hb hown (hts _ w_725) (hts _ w_727) (hts _ s_M_enter) (hts _ w_728) ⟨by decide, by decide⟩ (t_recv (q0 := 0) hC rfl rfl) rfl d_M_add_194) (c_M_enter hZc hw9) hZc tb_good hts w_7 hC (hl.1.trans hml.symm) ⟨Nat.le_of_ble_eq_true rfl, Nat.le_of_ble_eq_true rfl, Nat.le_of_ble_eq_true rfl, Nat.le_of_ble_eq_true rfl⟩ (Nat.le_of_ble_eq_true rfl) (fun E q ce w1 H1 l1 hp => hp.elim) (fun v w1 H locs hp hC => ?_)
          obtain ⟨rfl, hwe9⟩ := hp
          rw [hwe9] at hC
          have hC : tC D cls (ty0 ca) A Z s (wM J ca code day (made + 1) (nI (rows.length + 1)) Mg12 U (nI (w9 + 1)) ((lg_wr (log, w9, lk) day 2 made k9).1) ((lg_wr (log, w9, lk) day 2 made k9).2.2) rest) H locs := hC
          refine W.eq (g2 := F0 m 197 ls []) rfl ?_
          refine lv_aload_n hx hb d_M_add_197 rfl (lv_at hl 1 rfl) ?_
          refine t_get (v := .int (made + 1)) hx hb hts inM hown hC 0 rfl rfl 2 (by decide) (hts _ w_639) (fun _ h => h) rfl d_M_add_198 ?_
          refine lv_iconst (v := 1) hx hb d_M_add_201 (by decide) ?_
          refine lv_isub hx hb d_M_add_202 ?_
          rw [Int32.add_sub_cancel]
          have hcol0 : Mg12 0 = upd (M 0) rows.length made := (show Mg12 0 = Mg1 0 from (up_ne hMg12 (by decide)).trans ((up_ne hMg11 (by decide)).trans ((up_ne hMg10 (by decide)).trans ((up_ne hMg9 (by decide)).trans ((up_ne hMg8 (by decide)).trans ((up_ne hMg7 (by decide)).trans ((up_ne hMg6 (by decide)).trans ((up_ne hMg5 (by decide)).trans ((up_ne hMg4 (by decide)).trans ((up_ne hMg3 (by decide)).trans (up_ne hMg2 (by decide)))))))))))).trans ((up_eq hMg1).trans (by rw [show M 0 = M 0 from rfl]))
          have hcol1 : Mg12 1 = upd (M 1) rows.length k9 := (show Mg12 1 = Mg2 1 from (up_ne hMg12 (by decide)).trans ((up_ne hMg11 (by decide)).trans ((up_ne hMg10 (by decide)).trans ((up_ne hMg9 (by decide)).trans ((up_ne hMg8 (by decide)).trans ((up_ne hMg7 (by decide)).trans ((up_ne hMg6 (by decide)).trans ((up_ne hMg5 (by decide)).trans ((up_ne hMg4 (by decide)).trans (up_ne hMg3 (by decide))))))))))).trans ((up_eq hMg2).trans (by rw [show Mg1 1 = M 1 from up_ne hMg1 (by decide)]))
          have hcol3 : Mg12 3 = upd (M 3) rows.length by9 := (show Mg12 3 = Mg3 3 from (up_ne hMg12 (by decide)).trans ((up_ne hMg11 (by decide)).trans ((up_ne hMg10 (by decide)).trans ((up_ne hMg9 (by decide)).trans ((up_ne hMg8 (by decide)).trans ((up_ne hMg7 (by decide)).trans ((up_ne hMg6 (by decide)).trans ((up_ne hMg5 (by decide)).trans (up_ne hMg4 (by decide)))))))))).trans ((up_eq hMg3).trans (by rw [show Mg2 3 = M 3 from (up_ne hMg2 (by decide)).trans (up_ne hMg1 (by decide))]))
          have hcol4 : Mg12 4 = upd (M 4) rows.length tg9 := (show Mg12 4 = Mg4 4 from (up_ne hMg12 (by decide)).trans ((up_ne hMg11 (by decide)).trans ((up_ne hMg10 (by decide)).trans ((up_ne hMg9 (by decide)).trans ((up_ne hMg8 (by decide)).trans ((up_ne hMg7 (by decide)).trans ((up_ne hMg6 (by decide)).trans (up_ne hMg5 (by decide))))))))).trans ((up_eq hMg4).trans (by rw [show Mg3 4 = M 4 from (up_ne hMg3 (by decide)).trans ((up_ne hMg2 (by decide)).trans (up_ne hMg1 (by decide)))]))
          have hcol2 : Mg12 2 = upd (M 2) rows.length day := (show Mg12 2 = Mg5 2 from (up_ne hMg12 (by decide)).trans ((up_ne hMg11 (by decide)).trans ((up_ne hMg10 (by decide)).trans ((up_ne hMg9 (by decide)).trans ((up_ne hMg8 (by decide)).trans ((up_ne hMg7 (by decide)).trans (up_ne hMg6 (by decide)))))))).trans ((up_eq hMg5).trans (by rw [show Mg4 2 = M 2 from (up_ne hMg4 (by decide)).trans ((up_ne hMg3 (by decide)).trans ((up_ne hMg2 (by decide)).trans (up_ne hMg1 (by decide))))]))
          have hcol7 : Mg12 7 = upd (M 7) rows.length 0 := (show Mg12 7 = Mg6 7 from (up_ne hMg12 (by decide)).trans ((up_ne hMg11 (by decide)).trans ((up_ne hMg10 (by decide)).trans ((up_ne hMg9 (by decide)).trans ((up_ne hMg8 (by decide)).trans (up_ne hMg7 (by decide))))))).trans ((up_eq hMg6).trans (by rw [show Mg5 7 = M 7 from (up_ne hMg5 (by decide)).trans ((up_ne hMg4 (by decide)).trans ((up_ne hMg3 (by decide)).trans ((up_ne hMg2 (by decide)).trans (up_ne hMg1 (by decide)))))]))
          have hcol5 : Mg12 5 = upd (M 5) rows.length (-1) := (show Mg12 5 = Mg7 5 from (up_ne hMg12 (by decide)).trans ((up_ne hMg11 (by decide)).trans ((up_ne hMg10 (by decide)).trans ((up_ne hMg9 (by decide)).trans (up_ne hMg8 (by decide)))))).trans ((up_eq hMg7).trans (by rw [show Mg6 5 = M 5 from (up_ne hMg6 (by decide)).trans ((up_ne hMg5 (by decide)).trans ((up_ne hMg4 (by decide)).trans ((up_ne hMg3 (by decide)).trans ((up_ne hMg2 (by decide)).trans (up_ne hMg1 (by decide))))))]))
          have hcol8 : Mg12 8 = upd (M 8) rows.length 0 := (show Mg12 8 = Mg8 8 from (up_ne hMg12 (by decide)).trans ((up_ne hMg11 (by decide)).trans ((up_ne hMg10 (by decide)).trans (up_ne hMg9 (by decide))))).trans ((up_eq hMg8).trans (by rw [show Mg7 8 = M 8 from (up_ne hMg7 (by decide)).trans ((up_ne hMg6 (by decide)).trans ((up_ne hMg5 (by decide)).trans ((up_ne hMg4 (by decide)).trans ((up_ne hMg3 (by decide)).trans ((up_ne hMg2 (by decide)).trans (up_ne hMg1 (by decide)))))))]))
          have hcol9 : Mg12 9 = upd (M 9) rows.length 0 := (show Mg12 9 = Mg9 9 from (up_ne hMg12 (by decide)).trans ((up_ne hMg11 (by decide)).trans (up_ne hMg10 (by decide)))).trans ((up_eq hMg9).trans (by rw [show Mg8 9 = M 9 from (up_ne hMg8 (by decide)).trans ((up_ne hMg7 (by decide)).trans ((up_ne hMg6 (by decide)).trans ((up_ne hMg5 (by decide)).trans ((up_ne hMg4 (by decide)).trans ((up_ne hMg3 (by decide)).trans ((up_ne hMg2 (by decide)).trans (up_ne hMg1 (by decide))))))))]))
          have hcol10 : Mg12 10 = upd (M 10) rows.length 0 := (show Mg12 10 = Mg10 10 from (up_ne hMg12 (by decide)).trans (up_ne hMg11 (by decide))).trans ((up_eq hMg10).trans (by rw [show Mg9 10 = M 10 from (up_ne hMg9 (by decide)).trans ((up_ne hMg8 (by decide)).trans ((up_ne hMg7 (by decide)).trans ((up_ne hMg6 (by decide)).trans ((up_ne hMg5 (by decide)).trans ((up_ne hMg4 (by decide)).trans ((up_ne hMg3 (by decide)).trans ((up_ne hMg2 (by decide)).trans (up_ne hMg1 (by decide)))))))))]))
          have hcol11 : Mg12 11 = upd (M 11) rows.length 0 := (show Mg12 11 = Mg11 11 from up_ne hMg12 (by decide)).trans ((up_eq hMg11).trans (by rw [show Mg10 11 = M 11 from (up_ne hMg10 (by decide)).trans ((up_ne hMg9 (by decide)).trans ((up_ne hMg8 (by decide)).trans ((up_ne hMg7 (by decide)).trans ((up_ne hMg6 (by decide)).trans ((up_ne hMg5 (by decide)).trans ((up_ne hMg4 (by decide)).trans ((up_ne hMg3 (by decide)).trans ((up_ne hMg2 (by decide)).trans (up_ne hMg1 (by decide))))))))))]))
          have hcol12 : Mg12 12 = upd (M 12) rows.length 0 := (show Mg12 12 = Mg12 12 from rfl).trans ((up_eq hMg12).trans (by rw [show Mg11 12 = M 12 from (up_ne hMg11 (by decide)).trans ((up_ne hMg10 (by decide)).trans ((up_ne hMg9 (by decide)).trans ((up_ne hMg8 (by decide)).trans ((up_ne hMg7 (by decide)).trans ((up_ne hMg6 (by decide)).trans ((up_ne hMg5 (by decide)).trans ((up_ne hMg4 (by decide)).trans ((up_ne hMg3 (by decide)).trans ((up_ne hMg2 (by decide)).trans (up_ne hMg1 (by decide)))))))))))]))
          exact t_iret hx hb hr hlk hZc hC (⟨rfl, Mg12, mA_add hold (fun c hc h6 => by rcases (by omega : c = 0 ∨ c = 1 ∨ c = 2 ∨ c = 3 ∨ c = 4 ∨ c = 5 ∨ c = 7 ∨ c = 8 ∨ c = 9 ∨ c = 10 ∨ c = 11 ∨ c = 12) with rfl | rfl | rfl | rfl | rfl | rfl | rfl | rfl | rfl | rfl | rfl | rfl; exact hcol0.trans (by rw [hrw.1]); exact hcol1.trans (by rw [hrw.2.1]); exact hcol2.trans (by rw [hrw.2.2.1]); exact hcol3.trans (by rw [hrw.2.2.2.1]); exact hcol4.trans (by rw [hrw.2.2.2.2.1]); exact hcol5.trans (by rw [hrw.2.2.2.2.2.1, if_neg (Int32.not_lt.mpr c98)]); exact hcol7.trans (by rw [hrw.2.2.2.2.2.2.1]); exact hcol8.trans (by rw [hrw.2.2.2.2.2.2.2.1]); exact hcol9.trans (by rw [hrw.2.2.2.2.2.2.2.2.1]); exact hcol10.trans (by rw [hrw.2.2.2.2.2.2.2.2.2.1]); exact hcol11.trans (by rw [hrw.2.2.2.2.2.2.2.2.2.2.1]); exact hcol12.trans (by rw [hrw.2.2.2.2.2.2.2.2.2.2.2])), by rw [if_neg (Int32.not_lt.mpr c98)]⟩) (Nat.le_of_ble_eq_true rfl) (Nat.le_of_ble_eq_true rfl) d_M_add_203
        · exact absurd c98 c179
      · skip
        refine lv_iconst (v := 0) hx hb d_M_add_101 (by decide) ?_
        refine lv_goto (tgt := 106) hx hb d_M_add_102 (by decide) ?_
        refine t_iastN (k := rows.length) hx hb hC 7 0 rfl rfl (by omega) (by decide) d_M_add_106 (fun H locs hC => ?_)
        have hC : tC D cls (ty0 ca) A Z s (wM J ca code day made (nI rows.length) (va_up Mg6 5 (upd (Mg6 5) rows.length 0)) U (nI w9) log lk rest) H locs := hC
        refine gM hC (fun Mg13 hMg13 hC => ?_)
        refine lv_aload_n hx hb d_M_add_107 rfl (lv_at hl 1 rfl) ?_
        refine t_get (v := .ref (J 8)) hx hb hts inM hown hC 0 rfl rfl 11 (by decide) (hts _ w_648) (fun _ h => h) rfl d_M_add_108 ?_
        refine lv_aload_n hx hb d_M_add_111 rfl (lv_at hl 1 rfl) ?_
        refine t_get (v := .int (nI rows.length)) hx hb hts inM hown hC 0 rfl rfl 3 (by decide) (hts _ w_640) (fun _ h => h) rfl d_M_add_112 ?_
        refine lv_iconst (v := 0) hx hb d_M_add_115 (by decide) ?_
        refine t_iastN (k := rows.length) hx hb hC 8 0 rfl rfl (by omega) (by decide) d_M_add_116 (fun H locs hC => ?_)
        have hC : tC D cls (ty0 ca) A Z s (wM J ca code day made (nI rows.length) (va_up Mg13 8 (upd (Mg13 8) rows.length 0)) U (nI w9) log lk rest) H locs := hC
        refine gM hC (fun Mg14 hMg14 hC => ?_)
        refine lv_aload_n hx hb d_M_add_117 rfl (lv_at hl 1 rfl) ?_
        refine t_get (v := .ref (J 9)) hx hb hts inM hown hC 0 rfl rfl 12 (by decide) (hts _ w_649) (fun _ h => h) rfl d_M_add_118 ?_
        refine lv_aload_n hx hb d_M_add_121 rfl (lv_at hl 1 rfl) ?_
        refine t_get (v := .int (nI rows.length)) hx hb hts inM hown hC 0 rfl rfl 3 (by decide) (hts _ w_640) (fun _ h => h) rfl d_M_add_122 ?_
        refine lv_iconst (v := 0) hx hb d_M_add_125 (by decide) ?_
        refine t_zastN (k := rows.length) hx hb hC 9 1 rfl rfl (by omega) (by decide) (Or.inl rfl) d_M_add_126 (fun H locs hC => ?_)
        have hC : tC D cls (ty0 ca) A Z s (wM J ca code day made (nI rows.length) (va_up Mg14 9 (upd (Mg14 9) rows.length 0)) U (nI w9) log lk rest) H locs := hC
        refine gM hC (fun Mg15 hMg15 hC => ?_)
        refine lv_aload_n hx hb d_M_add_127 rfl (lv_at hl 1 rfl) ?_
        refine t_get (v := .ref (J 10)) hx hb hts inM hown hC 0 rfl rfl 13 (by decide) (hts _ w_650) (fun _ h => h) rfl d_M_add_128 ?_
        refine lv_aload_n hx hb d_M_add_131 rfl (lv_at hl 1 rfl) ?_
        refine t_get (v := .int (nI rows.length)) hx hb hts inM hown hC 0 rfl rfl 3 (by decide) (hts _ w_640) (fun _ h => h) rfl d_M_add_132 ?_
        refine lv_iconst (v := 0) hx hb d_M_add_135 (by decide) ?_
        refine t_iastN (k := rows.length) hx hb hC 10 0 rfl rfl (by omega) (by decide) d_M_add_136 (fun H locs hC => ?_)
        have hC : tC D cls (ty0 ca) A Z s (wM J ca code day made (nI rows.length) (va_up Mg15 10 (upd (Mg15 10) rows.length 0)) U (nI w9) log lk rest) H locs := hC
        refine gM hC (fun Mg16 hMg16 hC => ?_)
        refine lv_aload_n hx hb d_M_add_137 rfl (lv_at hl 1 rfl) ?_
        refine t_get (v := .ref (J 11)) hx hb hts inM hown hC 0 rfl rfl 14 (by decide) (hts _ w_651) (fun _ h => h) rfl d_M_add_138 ?_
        refine lv_aload_n hx hb d_M_add_141 rfl (lv_at hl 1 rfl) ?_
        refine t_get (v := .int (nI rows.length)) hx hb hts inM hown hC 0 rfl rfl 3 (by decide) (hts _ w_640) (fun _ h => h) rfl d_M_add_142 ?_
        refine lv_iconst (v := 0) hx hb d_M_add_145 (by decide) ?_
        refine t_iastN (k := rows.length) hx hb hC 11 0 rfl rfl (by omega) (by decide) d_M_add_146 (fun H locs hC => ?_)
        have hC : tC D cls (ty0 ca) A Z s (wM J ca code day made (nI rows.length) (va_up Mg16 11 (upd (Mg16 11) rows.length 0)) U (nI w9) log lk rest) H locs := hC
        refine gM hC (fun Mg17 hMg17 hC => ?_)
        refine lv_aload_n hx hb d_M_add_147 rfl (lv_at hl 1 rfl) ?_
        refine t_get (v := .ref (J 12)) hx hb hts inM hown hC 0 rfl rfl 15 (by decide) (hts _ w_652) (fun _ h => h) rfl d_M_add_148 ?_
        refine lv_aload_n hx hb d_M_add_151 rfl (lv_at hl 1 rfl) ?_
        refine t_get (v := .int (nI rows.length)) hx hb hts inM hown hC 0 rfl rfl 3 (by decide) (hts _ w_640) (fun _ h => h) rfl d_M_add_152 ?_
        refine lv_iconst (v := 0) hx hb d_M_add_155 (by decide) ?_
        refine t_iastN (k := rows.length) hx hb hC 12 0 rfl rfl (by omega) (by decide) d_M_add_156 (fun H locs hC => ?_)
        have hC : tC D cls (ty0 ca) A Z s (wM J ca code day made (nI rows.length) (va_up Mg17 12 (upd (Mg17 12) rows.length 0)) U (nI w9) log lk rest) H locs := hC
        refine gM hC (fun Mg18 hMg18 hC => ?_)
        refine lv_aload_n hx hb d_M_add_157 rfl (lv_at hl 1 rfl) ?_
        refine lv_dup hx hb d_M_add_158 rfl ?_
        refine t_get (v := .int (nI rows.length)) hx hb hts inM hown hC 0 rfl rfl 3 (by decide) (hts _ w_640) (fun _ h => h) rfl d_M_add_159 ?_
        refine lv_iconst (v := 1) hx hb d_M_add_162 (by decide) ?_
        refine lv_iaddN (a := rows.length) (b := 1) hx hb rfl d_M_add_163 ?_
        refine t_put (ty := .int) (v := .int (nI (rows.length + 1))) hx hb hts inM TM tyM nmM hown hC 0 rfl rfl 3 (by decide) (hts _ w_640) (fun _ h => h) rfl (by decide +kernel) rfl rfl (Nat.le_of_ble_eq_true rfl) d_M_add_164 (fun H locs hC => ?_)
        have hC : tC D cls (ty0 ca) A Z s (wM J ca code day made (nI (rows.length + 1)) Mg18 U (nI w9) log lk rest) H locs := hC
        refine lv_aload_n hx hb d_M_add_167 rfl (lv_at hl 1 rfl) ?_
        refine lv_dup hx hb d_M_add_168 rfl ?_
        refine t_get (v := .int made) hx hb hts inM hown hC 0 rfl rfl 2 (by decide) (hts _ w_639) (fun _ h => h) rfl d_M_add_169 ?_
        refine lv_iconst (v := 1) hx hb d_M_add_172 (by decide) ?_
        refine lv_iadd hx hb d_M_add_173 ?_
        refine t_put (ty := .int) (v := .int (made + 1)) hx hb hts inM TM tyM nmM hown hC 0 rfl rfl 2 (by decide) (hts _ w_639) (fun _ h => h) rfl (by decide +kernel) rfl rfl (Nat.le_of_ble_eq_true rfl) d_M_add_174 (fun H locs hC => ?_)
        have hC : tC D cls (ty0 ca) A Z s (wM J ca code day (made + 1) (nI (rows.length + 1)) Mg18 U (nI w9) log lk rest) H locs := hC
        refine lv_aload_n hx hb d_M_add_177 rfl (lv_at hl 1 rfl) ?_
        refine lv_iload_n hx hb d_M_add_178 rfl (lv_at hl 3 rfl) ?_
        refine lv_if_le (tgt := 186) hx hb d_M_add_179 (by decide) (fun c179 => ?_) (fun c179 => ?_)
        · exact absurd c179 c98
        · skip
          refine lv_iconst (v := 1) hx hb d_M_add_182 (by decide) ?_
          refine lv_goto (tgt := 187) hx hb d_M_add_183 (by decide) ?_
          refine lv_aload_n hx hb d_M_add_187 rfl (lv_at hl 1 rfl) ?_
          refine t_get (v := .int (made + 1)) hx hb hts inM hown hC 0 rfl rfl 2 (by decide) (hts _ w_639) (fun _ h => h) rfl d_M_add_188 ?_
          refine lv_iconst (v := 1) hx hb d_M_add_191 (by decide) ?_
          refine lv_isub hx hb d_M_add_192 ?_
          rw [Int32.add_sub_cancel]
          refine lv_iload_n hx hb d_M_add_193 rfl (lv_at hl 2 rfl) ?_
          refine t_call (t_invV (As := [.int 1, .int made, .int k9]) (rest := []) hx hb hown (hts _ w_725) (hts _ w_727) (hts _ s_M_enter) (hts _ w_728) ⟨by decide, by decide⟩ (t_recv (q0 := 0) hC rfl rfl) rfl d_M_add_194) (c_M_enter hZc hw9) hZc tb_good hts w_7 hC (hl.1.trans hml.symm) ⟨Nat.le_of_ble_eq_true rfl, Nat.le_of_ble_eq_true rfl, Nat.le_of_ble_eq_true rfl, Nat.le_of_ble_eq_true rfl⟩ (Nat.le_of_ble_eq_true rfl) (fun E q ce w1 H1 l1 hp => hp.elim) (fun v w1 H locs hp hC => ?_)
          obtain ⟨rfl, hwe9⟩ := hp
          rw [hwe9] at hC
          have hC : tC D cls (ty0 ca) A Z s (wM J ca code day (made + 1) (nI (rows.length + 1)) Mg18 U (nI (w9 + 1)) ((lg_wr (log, w9, lk) day 1 made k9).1) ((lg_wr (log, w9, lk) day 1 made k9).2.2) rest) H locs := hC
          refine W.eq (g2 := F0 m 197 ls []) rfl ?_
          refine lv_aload_n hx hb d_M_add_197 rfl (lv_at hl 1 rfl) ?_
          refine t_get (v := .int (made + 1)) hx hb hts inM hown hC 0 rfl rfl 2 (by decide) (hts _ w_639) (fun _ h => h) rfl d_M_add_198 ?_
          refine lv_iconst (v := 1) hx hb d_M_add_201 (by decide) ?_
          refine lv_isub hx hb d_M_add_202 ?_
          rw [Int32.add_sub_cancel]
          have hcol0 : Mg18 0 = upd (M 0) rows.length made := (show Mg18 0 = Mg1 0 from (up_ne hMg18 (by decide)).trans ((up_ne hMg17 (by decide)).trans ((up_ne hMg16 (by decide)).trans ((up_ne hMg15 (by decide)).trans ((up_ne hMg14 (by decide)).trans ((up_ne hMg13 (by decide)).trans ((up_ne hMg6 (by decide)).trans ((up_ne hMg5 (by decide)).trans ((up_ne hMg4 (by decide)).trans ((up_ne hMg3 (by decide)).trans (up_ne hMg2 (by decide)))))))))))).trans ((up_eq hMg1).trans (by rw [show M 0 = M 0 from rfl]))
          have hcol1 : Mg18 1 = upd (M 1) rows.length k9 := (show Mg18 1 = Mg2 1 from (up_ne hMg18 (by decide)).trans ((up_ne hMg17 (by decide)).trans ((up_ne hMg16 (by decide)).trans ((up_ne hMg15 (by decide)).trans ((up_ne hMg14 (by decide)).trans ((up_ne hMg13 (by decide)).trans ((up_ne hMg6 (by decide)).trans ((up_ne hMg5 (by decide)).trans ((up_ne hMg4 (by decide)).trans (up_ne hMg3 (by decide))))))))))).trans ((up_eq hMg2).trans (by rw [show Mg1 1 = M 1 from up_ne hMg1 (by decide)]))
          have hcol3 : Mg18 3 = upd (M 3) rows.length by9 := (show Mg18 3 = Mg3 3 from (up_ne hMg18 (by decide)).trans ((up_ne hMg17 (by decide)).trans ((up_ne hMg16 (by decide)).trans ((up_ne hMg15 (by decide)).trans ((up_ne hMg14 (by decide)).trans ((up_ne hMg13 (by decide)).trans ((up_ne hMg6 (by decide)).trans ((up_ne hMg5 (by decide)).trans (up_ne hMg4 (by decide)))))))))).trans ((up_eq hMg3).trans (by rw [show Mg2 3 = M 3 from (up_ne hMg2 (by decide)).trans (up_ne hMg1 (by decide))]))
          have hcol4 : Mg18 4 = upd (M 4) rows.length tg9 := (show Mg18 4 = Mg4 4 from (up_ne hMg18 (by decide)).trans ((up_ne hMg17 (by decide)).trans ((up_ne hMg16 (by decide)).trans ((up_ne hMg15 (by decide)).trans ((up_ne hMg14 (by decide)).trans ((up_ne hMg13 (by decide)).trans ((up_ne hMg6 (by decide)).trans (up_ne hMg5 (by decide))))))))).trans ((up_eq hMg4).trans (by rw [show Mg3 4 = M 4 from (up_ne hMg3 (by decide)).trans ((up_ne hMg2 (by decide)).trans (up_ne hMg1 (by decide)))]))
          have hcol2 : Mg18 2 = upd (M 2) rows.length day := (show Mg18 2 = Mg5 2 from (up_ne hMg18 (by decide)).trans ((up_ne hMg17 (by decide)).trans ((up_ne hMg16 (by decide)).trans ((up_ne hMg15 (by decide)).trans ((up_ne hMg14 (by decide)).trans ((up_ne hMg13 (by decide)).trans (up_ne hMg6 (by decide)))))))).trans ((up_eq hMg5).trans (by rw [show Mg4 2 = M 2 from (up_ne hMg4 (by decide)).trans ((up_ne hMg3 (by decide)).trans ((up_ne hMg2 (by decide)).trans (up_ne hMg1 (by decide))))]))
          have hcol7 : Mg18 7 = upd (M 7) rows.length 0 := (show Mg18 7 = Mg6 7 from (up_ne hMg18 (by decide)).trans ((up_ne hMg17 (by decide)).trans ((up_ne hMg16 (by decide)).trans ((up_ne hMg15 (by decide)).trans ((up_ne hMg14 (by decide)).trans (up_ne hMg13 (by decide))))))).trans ((up_eq hMg6).trans (by rw [show Mg5 7 = M 7 from (up_ne hMg5 (by decide)).trans ((up_ne hMg4 (by decide)).trans ((up_ne hMg3 (by decide)).trans ((up_ne hMg2 (by decide)).trans (up_ne hMg1 (by decide)))))]))
          have hcol5 : Mg18 5 = upd (M 5) rows.length 0 := (show Mg18 5 = Mg13 5 from (up_ne hMg18 (by decide)).trans ((up_ne hMg17 (by decide)).trans ((up_ne hMg16 (by decide)).trans ((up_ne hMg15 (by decide)).trans (up_ne hMg14 (by decide)))))).trans ((up_eq hMg13).trans (by rw [show Mg6 5 = M 5 from (up_ne hMg6 (by decide)).trans ((up_ne hMg5 (by decide)).trans ((up_ne hMg4 (by decide)).trans ((up_ne hMg3 (by decide)).trans ((up_ne hMg2 (by decide)).trans (up_ne hMg1 (by decide))))))]))
          have hcol8 : Mg18 8 = upd (M 8) rows.length 0 := (show Mg18 8 = Mg14 8 from (up_ne hMg18 (by decide)).trans ((up_ne hMg17 (by decide)).trans ((up_ne hMg16 (by decide)).trans (up_ne hMg15 (by decide))))).trans ((up_eq hMg14).trans (by rw [show Mg13 8 = M 8 from (up_ne hMg13 (by decide)).trans ((up_ne hMg6 (by decide)).trans ((up_ne hMg5 (by decide)).trans ((up_ne hMg4 (by decide)).trans ((up_ne hMg3 (by decide)).trans ((up_ne hMg2 (by decide)).trans (up_ne hMg1 (by decide)))))))]))
          have hcol9 : Mg18 9 = upd (M 9) rows.length 0 := (show Mg18 9 = Mg15 9 from (up_ne hMg18 (by decide)).trans ((up_ne hMg17 (by decide)).trans (up_ne hMg16 (by decide)))).trans ((up_eq hMg15).trans (by rw [show Mg14 9 = M 9 from (up_ne hMg14 (by decide)).trans ((up_ne hMg13 (by decide)).trans ((up_ne hMg6 (by decide)).trans ((up_ne hMg5 (by decide)).trans ((up_ne hMg4 (by decide)).trans ((up_ne hMg3 (by decide)).trans ((up_ne hMg2 (by decide)).trans (up_ne hMg1 (by decide))))))))]))
          have hcol10 : Mg18 10 = upd (M 10) rows.length 0 := (show Mg18 10 = Mg16 10 from (up_ne hMg18 (by decide)).trans (up_ne hMg17 (by decide))).trans ((up_eq hMg16).trans (by rw [show Mg15 10 = M 10 from (up_ne hMg15 (by decide)).trans ((up_ne hMg14 (by decide)).trans ((up_ne hMg13 (by decide)).trans ((up_ne hMg6 (by decide)).trans ((up_ne hMg5 (by decide)).trans ((up_ne hMg4 (by decide)).trans ((up_ne hMg3 (by decide)).trans ((up_ne hMg2 (by decide)).trans (up_ne hMg1 (by decide)))))))))]))
          have hcol11 : Mg18 11 = upd (M 11) rows.length 0 := (show Mg18 11 = Mg17 11 from up_ne hMg18 (by decide)).trans ((up_eq hMg17).trans (by rw [show Mg16 11 = M 11 from (up_ne hMg16 (by decide)).trans ((up_ne hMg15 (by decide)).trans ((up_ne hMg14 (by decide)).trans ((up_ne hMg13 (by decide)).trans ((up_ne hMg6 (by decide)).trans ((up_ne hMg5 (by decide)).trans ((up_ne hMg4 (by decide)).trans ((up_ne hMg3 (by decide)).trans ((up_ne hMg2 (by decide)).trans (up_ne hMg1 (by decide))))))))))]))
          have hcol12 : Mg18 12 = upd (M 12) rows.length 0 := (show Mg18 12 = Mg18 12 from rfl).trans ((up_eq hMg18).trans (by rw [show Mg17 12 = M 12 from (up_ne hMg17 (by decide)).trans ((up_ne hMg16 (by decide)).trans ((up_ne hMg15 (by decide)).trans ((up_ne hMg14 (by decide)).trans ((up_ne hMg13 (by decide)).trans ((up_ne hMg6 (by decide)).trans ((up_ne hMg5 (by decide)).trans ((up_ne hMg4 (by decide)).trans ((up_ne hMg3 (by decide)).trans ((up_ne hMg2 (by decide)).trans (up_ne hMg1 (by decide)))))))))))]))
          exact t_iret hx hb hr hlk hZc hC (⟨rfl, Mg18, mA_add hold (fun c hc h6 => by rcases (by omega : c = 0 ∨ c = 1 ∨ c = 2 ∨ c = 3 ∨ c = 4 ∨ c = 5 ∨ c = 7 ∨ c = 8 ∨ c = 9 ∨ c = 10 ∨ c = 11 ∨ c = 12) with rfl | rfl | rfl | rfl | rfl | rfl | rfl | rfl | rfl | rfl | rfl | rfl; exact hcol0.trans (by rw [hrw.1]); exact hcol1.trans (by rw [hrw.2.1]); exact hcol2.trans (by rw [hrw.2.2.1]); exact hcol3.trans (by rw [hrw.2.2.2.1]); exact hcol4.trans (by rw [hrw.2.2.2.2.1]); exact hcol5.trans (by rw [hrw.2.2.2.2.2.1, if_pos (Int32.not_le.mp c98)]); exact hcol7.trans (by rw [hrw.2.2.2.2.2.2.1]); exact hcol8.trans (by rw [hrw.2.2.2.2.2.2.2.1]); exact hcol9.trans (by rw [hrw.2.2.2.2.2.2.2.2.1]); exact hcol10.trans (by rw [hrw.2.2.2.2.2.2.2.2.2.1]); exact hcol11.trans (by rw [hrw.2.2.2.2.2.2.2.2.2.2.1]); exact hcol12.trans (by rw [hrw.2.2.2.2.2.2.2.2.2.2.2])), by rw [if_pos (Int32.not_le.mp c98)]⟩) (Nat.le_of_ble_eq_true rfl) (Nat.le_of_ble_eq_true rfl) d_M_add_203
    · first | exact absurd c9 (by decide) | exact absurd (by decide) c9
  · have ho : o < rows.length := (rw_last_some.mp hlo).1
    have hop := nI_pos (n := o) (by omega)
    refine W.eq (g2 := F0 m 5 ls [.int (nI o)]) (by rw [hlo]; rfl) ?_
    refine lv_istore (lv' := [(4, .int (nI o)), (0, .ref (J 0)), (1, .int k9), (2, .int by9), (3, .int tg9)]) hx hb d_M_add_5 hl (by decide) rfl (fun ls hl => ?_)
    refine lv_iload hx hb d_M_add_7 (lv_at hl 0 rfl) ?_
    refine lv_if_lt (tgt := 23) hx hb d_M_add_9 (by decide) (fun c9 => ?_) (fun c9 => ?_)
    · exact absurd c9 hop
    · skip
      refine lv_aload_n hx hb d_M_add_12 rfl (lv_at hl 1 rfl) ?_
      refine t_get (v := .ref (J 6)) hx hb hts inM hown hC 0 rfl rfl 9 (by decide) (hts _ w_646) (fun _ h => h) rfl d_M_add_13 ?_
      refine lv_iload hx hb d_M_add_16 (lv_at hl 0 rfl) ?_
      refine lv_aload_n hx hb d_M_add_18 rfl (lv_at hl 1 rfl) ?_
      refine t_get (v := .int day) hx hb hts inM hown hC 0 rfl rfl 1 (by decide) (hts _ w_638) (fun _ h => h) rfl d_M_add_19 ?_
      refine t_iastN (k := o) hx hb hC 6 0 rfl rfl (by omega) (by decide) d_M_add_22 (fun H locs hC => ?_)
      have hC : tC D cls (ty0 ca) A Z s (wM J ca code day made (nI rows.length) (va_up M 7 (upd (M 7) o day)) U (nI w9) log lk rest) H locs := hC
      refine gM hC (fun Mg19 hMg19 hC => ?_)
      have hold := mA_old_some (day := day) hag (hrw.2.1.symm ▸ hlo : rw_latest rows (row 1) = some o)
      rw [hMg19] at hold
      refine lv_aload_n hx hb d_M_add_23 rfl (lv_at hl 1 rfl) ?_
      refine t_get (v := .ref (J 1)) hx hb hts inM hown hC 0 rfl rfl 4 (by decide) (hts _ w_641) (fun _ h => h) rfl d_M_add_24 ?_
      refine lv_aload_n hx hb d_M_add_27 rfl (lv_at hl 1 rfl) ?_
      refine t_get (v := .int (nI rows.length)) hx hb hts inM hown hC 0 rfl rfl 3 (by decide) (hts _ w_640) (fun _ h => h) rfl d_M_add_28 ?_
      refine lv_aload_n hx hb d_M_add_31 rfl (lv_at hl 1 rfl) ?_
      refine t_get (v := .int made) hx hb hts inM hown hC 0 rfl rfl 2 (by decide) (hts _ w_639) (fun _ h => h) rfl d_M_add_32 ?_
      refine t_iastN (k := rows.length) hx hb hC 1 0 rfl rfl (by omega) (by decide) d_M_add_35 (fun H locs hC => ?_)
      have hC : tC D cls (ty0 ca) A Z s (wM J ca code day made (nI rows.length) (va_up Mg19 0 (upd (Mg19 0) rows.length made)) U (nI w9) log lk rest) H locs := hC
      refine gM hC (fun Mg20 hMg20 hC => ?_)
      refine lv_aload_n hx hb d_M_add_36 rfl (lv_at hl 1 rfl) ?_
      refine t_get (v := .ref (J 2)) hx hb hts inM hown hC 0 rfl rfl 5 (by decide) (hts _ w_642) (fun _ h => h) rfl d_M_add_37 ?_
      refine lv_aload_n hx hb d_M_add_40 rfl (lv_at hl 1 rfl) ?_
      refine t_get (v := .int (nI rows.length)) hx hb hts inM hown hC 0 rfl rfl 3 (by decide) (hts _ w_640) (fun _ h => h) rfl d_M_add_41 ?_
      refine lv_iload_n hx hb d_M_add_44 rfl (lv_at hl 2 rfl) ?_
      refine t_iastN (k := rows.length) hx hb hC 2 0 rfl rfl (by omega) (by decide) d_M_add_45 (fun H locs hC => ?_)
      have hC : tC D cls (ty0 ca) A Z s (wM J ca code day made (nI rows.length) (va_up Mg20 1 (upd (Mg20 1) rows.length k9)) U (nI w9) log lk rest) H locs := hC
      refine gM hC (fun Mg21 hMg21 hC => ?_)
      refine lv_aload_n hx hb d_M_add_46 rfl (lv_at hl 1 rfl) ?_
      refine t_get (v := .ref (J 3)) hx hb hts inM hown hC 0 rfl rfl 6 (by decide) (hts _ w_643) (fun _ h => h) rfl d_M_add_47 ?_
      refine lv_aload_n hx hb d_M_add_50 rfl (lv_at hl 1 rfl) ?_
      refine t_get (v := .int (nI rows.length)) hx hb hts inM hown hC 0 rfl rfl 3 (by decide) (hts _ w_640) (fun _ h => h) rfl d_M_add_51 ?_
      refine lv_iload_n hx hb d_M_add_54 rfl (lv_at hl 3 rfl) ?_
      refine t_iastN (k := rows.length) hx hb hC 3 0 rfl rfl (by omega) (by decide) d_M_add_55 (fun H locs hC => ?_)
      have hC : tC D cls (ty0 ca) A Z s (wM J ca code day made (nI rows.length) (va_up Mg21 3 (upd (Mg21 3) rows.length by9)) U (nI w9) log lk rest) H locs := hC
      refine gM hC (fun Mg22 hMg22 hC => ?_)
      refine lv_aload_n hx hb d_M_add_56 rfl (lv_at hl 1 rfl) ?_
      refine t_get (v := .ref (J 4)) hx hb hts inM hown hC 0 rfl rfl 7 (by decide) (hts _ w_644) (fun _ h => h) rfl d_M_add_57 ?_
      refine lv_aload_n hx hb d_M_add_60 rfl (lv_at hl 1 rfl) ?_
      refine t_get (v := .int (nI rows.length)) hx hb hts inM hown hC 0 rfl rfl 3 (by decide) (hts _ w_640) (fun _ h => h) rfl d_M_add_61 ?_
      refine lv_iload_n hx hb d_M_add_64 rfl (lv_at hl 4 rfl) ?_
      refine t_iastN (k := rows.length) hx hb hC 4 0 rfl rfl (by omega) (by decide) d_M_add_65 (fun H locs hC => ?_)
      have hC : tC D cls (ty0 ca) A Z s (wM J ca code day made (nI rows.length) (va_up Mg22 4 (upd (Mg22 4) rows.length tg9)) U (nI w9) log lk rest) H locs := hC
      refine gM hC (fun Mg23 hMg23 hC => ?_)
      refine lv_aload_n hx hb d_M_add_66 rfl (lv_at hl 1 rfl) ?_
      refine t_get (v := .ref (J 5)) hx hb hts inM hown hC 0 rfl rfl 8 (by decide) (hts _ w_645) (fun _ h => h) rfl d_M_add_67 ?_
      refine lv_aload_n hx hb d_M_add_70 rfl (lv_at hl 1 rfl) ?_
      refine t_get (v := .int (nI rows.length)) hx hb hts inM hown hC 0 rfl rfl 3 (by decide) (hts _ w_640) (fun _ h => h) rfl d_M_add_71 ?_
      refine lv_aload_n hx hb d_M_add_74 rfl (lv_at hl 1 rfl) ?_
      refine t_get (v := .int day) hx hb hts inM hown hC 0 rfl rfl 1 (by decide) (hts _ w_638) (fun _ h => h) rfl d_M_add_75 ?_
      refine t_iastN (k := rows.length) hx hb hC 5 0 rfl rfl (by omega) (by decide) d_M_add_78 (fun H locs hC => ?_)
      have hC : tC D cls (ty0 ca) A Z s (wM J ca code day made (nI rows.length) (va_up Mg23 2 (upd (Mg23 2) rows.length day)) U (nI w9) log lk rest) H locs := hC
      refine gM hC (fun Mg24 hMg24 hC => ?_)
      refine lv_aload_n hx hb d_M_add_79 rfl (lv_at hl 1 rfl) ?_
      refine t_get (v := .ref (J 6)) hx hb hts inM hown hC 0 rfl rfl 9 (by decide) (hts _ w_646) (fun _ h => h) rfl d_M_add_80 ?_
      refine lv_aload_n hx hb d_M_add_83 rfl (lv_at hl 1 rfl) ?_
      refine t_get (v := .int (nI rows.length)) hx hb hts inM hown hC 0 rfl rfl 3 (by decide) (hts _ w_640) (fun _ h => h) rfl d_M_add_84 ?_
      refine lv_iconst (v := 0) hx hb d_M_add_87 (by decide) ?_
      refine t_iastN (k := rows.length) hx hb hC 6 0 rfl rfl (by omega) (by decide) d_M_add_88 (fun H locs hC => ?_)
      have hC : tC D cls (ty0 ca) A Z s (wM J ca code day made (nI rows.length) (va_up Mg24 7 (upd (Mg24 7) rows.length 0)) U (nI w9) log lk rest) H locs := hC
      refine gM hC (fun Mg25 hMg25 hC => ?_)
      refine lv_aload_n hx hb d_M_add_89 rfl (lv_at hl 1 rfl) ?_
      refine t_get (v := .ref (J 7)) hx hb hts inM hown hC 0 rfl rfl 10 (by decide) (hts _ w_647) (fun _ h => h) rfl d_M_add_90 ?_
      refine lv_aload_n hx hb d_M_add_93 rfl (lv_at hl 1 rfl) ?_
      refine t_get (v := .int (nI rows.length)) hx hb hts inM hown hC 0 rfl rfl 3 (by decide) (hts _ w_640) (fun _ h => h) rfl d_M_add_94 ?_
      refine lv_iload_n hx hb d_M_add_97 rfl (lv_at hl 3 rfl) ?_
      refine lv_if_le (tgt := 105) hx hb d_M_add_98 (by decide) (fun c98 => ?_) (fun c98 => ?_)
      · skip
        refine lv_iconst (v := (-1)) hx hb d_M_add_105 (by decide) ?_
        refine t_iastN (k := rows.length) hx hb hC 7 0 rfl rfl (by omega) (by decide) d_M_add_106 (fun H locs hC => ?_)
        have hC : tC D cls (ty0 ca) A Z s (wM J ca code day made (nI rows.length) (va_up Mg25 5 (upd (Mg25 5) rows.length (-1))) U (nI w9) log lk rest) H locs := hC
        refine gM hC (fun Mg26 hMg26 hC => ?_)
        refine lv_aload_n hx hb d_M_add_107 rfl (lv_at hl 1 rfl) ?_
        refine t_get (v := .ref (J 8)) hx hb hts inM hown hC 0 rfl rfl 11 (by decide) (hts _ w_648) (fun _ h => h) rfl d_M_add_108 ?_
        refine lv_aload_n hx hb d_M_add_111 rfl (lv_at hl 1 rfl) ?_
        refine t_get (v := .int (nI rows.length)) hx hb hts inM hown hC 0 rfl rfl 3 (by decide) (hts _ w_640) (fun _ h => h) rfl d_M_add_112 ?_
        refine lv_iconst (v := 0) hx hb d_M_add_115 (by decide) ?_
        refine t_iastN (k := rows.length) hx hb hC 8 0 rfl rfl (by omega) (by decide) d_M_add_116 (fun H locs hC => ?_)
        have hC : tC D cls (ty0 ca) A Z s (wM J ca code day made (nI rows.length) (va_up Mg26 8 (upd (Mg26 8) rows.length 0)) U (nI w9) log lk rest) H locs := hC
        refine gM hC (fun Mg27 hMg27 hC => ?_)
        refine lv_aload_n hx hb d_M_add_117 rfl (lv_at hl 1 rfl) ?_
        refine t_get (v := .ref (J 9)) hx hb hts inM hown hC 0 rfl rfl 12 (by decide) (hts _ w_649) (fun _ h => h) rfl d_M_add_118 ?_
        refine lv_aload_n hx hb d_M_add_121 rfl (lv_at hl 1 rfl) ?_
        refine t_get (v := .int (nI rows.length)) hx hb hts inM hown hC 0 rfl rfl 3 (by decide) (hts _ w_640) (fun _ h => h) rfl d_M_add_122 ?_
        refine lv_iconst (v := 0) hx hb d_M_add_125 (by decide) ?_
        refine t_zastN (k := rows.length) hx hb hC 9 1 rfl rfl (by omega) (by decide) (Or.inl rfl) d_M_add_126 (fun H locs hC => ?_)
        have hC : tC D cls (ty0 ca) A Z s (wM J ca code day made (nI rows.length) (va_up Mg27 9 (upd (Mg27 9) rows.length 0)) U (nI w9) log lk rest) H locs := hC
        refine gM hC (fun Mg28 hMg28 hC => ?_)
        refine lv_aload_n hx hb d_M_add_127 rfl (lv_at hl 1 rfl) ?_
        refine t_get (v := .ref (J 10)) hx hb hts inM hown hC 0 rfl rfl 13 (by decide) (hts _ w_650) (fun _ h => h) rfl d_M_add_128 ?_
        refine lv_aload_n hx hb d_M_add_131 rfl (lv_at hl 1 rfl) ?_
        refine t_get (v := .int (nI rows.length)) hx hb hts inM hown hC 0 rfl rfl 3 (by decide) (hts _ w_640) (fun _ h => h) rfl d_M_add_132 ?_
        refine lv_iconst (v := 0) hx hb d_M_add_135 (by decide) ?_
        refine t_iastN (k := rows.length) hx hb hC 10 0 rfl rfl (by omega) (by decide) d_M_add_136 (fun H locs hC => ?_)
        have hC : tC D cls (ty0 ca) A Z s (wM J ca code day made (nI rows.length) (va_up Mg28 10 (upd (Mg28 10) rows.length 0)) U (nI w9) log lk rest) H locs := hC
        refine gM hC (fun Mg29 hMg29 hC => ?_)
        refine lv_aload_n hx hb d_M_add_137 rfl (lv_at hl 1 rfl) ?_
        refine t_get (v := .ref (J 11)) hx hb hts inM hown hC 0 rfl rfl 14 (by decide) (hts _ w_651) (fun _ h => h) rfl d_M_add_138 ?_
        refine lv_aload_n hx hb d_M_add_141 rfl (lv_at hl 1 rfl) ?_
        refine t_get (v := .int (nI rows.length)) hx hb hts inM hown hC 0 rfl rfl 3 (by decide) (hts _ w_640) (fun _ h => h) rfl d_M_add_142 ?_
        refine lv_iconst (v := 0) hx hb d_M_add_145 (by decide) ?_
        refine t_iastN (k := rows.length) hx hb hC 11 0 rfl rfl (by omega) (by decide) d_M_add_146 (fun H locs hC => ?_)
        have hC : tC D cls (ty0 ca) A Z s (wM J ca code day made (nI rows.length) (va_up Mg29 11 (upd (Mg29 11) rows.length 0)) U (nI w9) log lk rest) H locs := hC
        refine gM hC (fun Mg30 hMg30 hC => ?_)
        refine lv_aload_n hx hb d_M_add_147 rfl (lv_at hl 1 rfl) ?_
        refine t_get (v := .ref (J 12)) hx hb hts inM hown hC 0 rfl rfl 15 (by decide) (hts _ w_652) (fun _ h => h) rfl d_M_add_148 ?_
        refine lv_aload_n hx hb d_M_add_151 rfl (lv_at hl 1 rfl) ?_
        refine t_get (v := .int (nI rows.length)) hx hb hts inM hown hC 0 rfl rfl 3 (by decide) (hts _ w_640) (fun _ h => h) rfl d_M_add_152 ?_
        refine lv_iconst (v := 0) hx hb d_M_add_155 (by decide) ?_
        refine t_iastN (k := rows.length) hx hb hC 12 0 rfl rfl (by omega) (by decide) d_M_add_156 (fun H locs hC => ?_)
        have hC : tC D cls (ty0 ca) A Z s (wM J ca code day made (nI rows.length) (va_up Mg30 12 (upd (Mg30 12) rows.length 0)) U (nI w9) log lk rest) H locs := hC
        refine gM hC (fun Mg31 hMg31 hC => ?_)
        refine lv_aload_n hx hb d_M_add_157 rfl (lv_at hl 1 rfl) ?_
        refine lv_dup hx hb d_M_add_158 rfl ?_
        refine t_get (v := .int (nI rows.length)) hx hb hts inM hown hC 0 rfl rfl 3 (by decide) (hts _ w_640) (fun _ h => h) rfl d_M_add_159 ?_
        refine lv_iconst (v := 1) hx hb d_M_add_162 (by decide) ?_
        refine lv_iaddN (a := rows.length) (b := 1) hx hb rfl d_M_add_163 ?_
        refine t_put (ty := .int) (v := .int (nI (rows.length + 1))) hx hb hts inM TM tyM nmM hown hC 0 rfl rfl 3 (by decide) (hts _ w_640) (fun _ h => h) rfl (by decide +kernel) rfl rfl (Nat.le_of_ble_eq_true rfl) d_M_add_164 (fun H locs hC => ?_)
        have hC : tC D cls (ty0 ca) A Z s (wM J ca code day made (nI (rows.length + 1)) Mg31 U (nI w9) log lk rest) H locs := hC
        refine lv_aload_n hx hb d_M_add_167 rfl (lv_at hl 1 rfl) ?_
        refine lv_dup hx hb d_M_add_168 rfl ?_
        refine t_get (v := .int made) hx hb hts inM hown hC 0 rfl rfl 2 (by decide) (hts _ w_639) (fun _ h => h) rfl d_M_add_169 ?_
        refine lv_iconst (v := 1) hx hb d_M_add_172 (by decide) ?_
        refine lv_iadd hx hb d_M_add_173 ?_
        refine t_put (ty := .int) (v := .int (made + 1)) hx hb hts inM TM tyM nmM hown hC 0 rfl rfl 2 (by decide) (hts _ w_639) (fun _ h => h) rfl (by decide +kernel) rfl rfl (Nat.le_of_ble_eq_true rfl) d_M_add_174 (fun H locs hC => ?_)
        have hC : tC D cls (ty0 ca) A Z s (wM J ca code day (made + 1) (nI (rows.length + 1)) Mg31 U (nI w9) log lk rest) H locs := hC
        refine lv_aload_n hx hb d_M_add_177 rfl (lv_at hl 1 rfl) ?_
        refine lv_iload_n hx hb d_M_add_178 rfl (lv_at hl 3 rfl) ?_
        refine lv_if_le (tgt := 186) hx hb d_M_add_179 (by decide) (fun c179 => ?_) (fun c179 => ?_)
        · skip
          refine lv_iconst (v := 2) hx hb d_M_add_186 (by decide) ?_
          refine lv_aload_n hx hb d_M_add_187 rfl (lv_at hl 1 rfl) ?_
          refine t_get (v := .int (made + 1)) hx hb hts inM hown hC 0 rfl rfl 2 (by decide) (hts _ w_639) (fun _ h => h) rfl d_M_add_188 ?_
          refine lv_iconst (v := 1) hx hb d_M_add_191 (by decide) ?_
          refine lv_isub hx hb d_M_add_192 ?_
          rw [Int32.add_sub_cancel]
          refine lv_iload_n hx hb d_M_add_193 rfl (lv_at hl 2 rfl) ?_
          refine t_call (t_invV (As := [.int 2, .int made, .int k9]) (rest := []) hx hb hown (hts _ w_725) (hts _ w_727) (hts _ s_M_enter) (hts _ w_728) ⟨by decide, by decide⟩ (t_recv (q0 := 0) hC rfl rfl) rfl d_M_add_194) (c_M_enter hZc hw9) hZc tb_good hts w_7 hC (hl.1.trans hml.symm) ⟨Nat.le_of_ble_eq_true rfl, Nat.le_of_ble_eq_true rfl, Nat.le_of_ble_eq_true rfl, Nat.le_of_ble_eq_true rfl⟩ (Nat.le_of_ble_eq_true rfl) (fun E q ce w1 H1 l1 hp => hp.elim) (fun v w1 H locs hp hC => ?_)
          obtain ⟨rfl, hwe9⟩ := hp
          rw [hwe9] at hC
          have hC : tC D cls (ty0 ca) A Z s (wM J ca code day (made + 1) (nI (rows.length + 1)) Mg31 U (nI (w9 + 1)) ((lg_wr (log, w9, lk) day 2 made k9).1) ((lg_wr (log, w9, lk) day 2 made k9).2.2) rest) H locs := hC
          refine W.eq (g2 := F0 m 197 ls []) rfl ?_
          refine lv_aload_n hx hb d_M_add_197 rfl (lv_at hl 1 rfl) ?_
          refine t_get (v := .int (made + 1)) hx hb hts inM hown hC 0 rfl rfl 2 (by decide) (hts _ w_639) (fun _ h => h) rfl d_M_add_198 ?_
          refine lv_iconst (v := 1) hx hb d_M_add_201 (by decide) ?_
          refine lv_isub hx hb d_M_add_202 ?_
          rw [Int32.add_sub_cancel]
          have hcol0 : Mg31 0 = upd (Mg19 0) rows.length made := (show Mg31 0 = Mg20 0 from (up_ne hMg31 (by decide)).trans ((up_ne hMg30 (by decide)).trans ((up_ne hMg29 (by decide)).trans ((up_ne hMg28 (by decide)).trans ((up_ne hMg27 (by decide)).trans ((up_ne hMg26 (by decide)).trans ((up_ne hMg25 (by decide)).trans ((up_ne hMg24 (by decide)).trans ((up_ne hMg23 (by decide)).trans ((up_ne hMg22 (by decide)).trans (up_ne hMg21 (by decide)))))))))))).trans ((up_eq hMg20).trans (by rw [show Mg19 0 = Mg19 0 from rfl]))
          have hcol1 : Mg31 1 = upd (Mg19 1) rows.length k9 := (show Mg31 1 = Mg21 1 from (up_ne hMg31 (by decide)).trans ((up_ne hMg30 (by decide)).trans ((up_ne hMg29 (by decide)).trans ((up_ne hMg28 (by decide)).trans ((up_ne hMg27 (by decide)).trans ((up_ne hMg26 (by decide)).trans ((up_ne hMg25 (by decide)).trans ((up_ne hMg24 (by decide)).trans ((up_ne hMg23 (by decide)).trans (up_ne hMg22 (by decide))))))))))).trans ((up_eq hMg21).trans (by rw [show Mg20 1 = Mg19 1 from up_ne hMg20 (by decide)]))
          have hcol3 : Mg31 3 = upd (Mg19 3) rows.length by9 := (show Mg31 3 = Mg22 3 from (up_ne hMg31 (by decide)).trans ((up_ne hMg30 (by decide)).trans ((up_ne hMg29 (by decide)).trans ((up_ne hMg28 (by decide)).trans ((up_ne hMg27 (by decide)).trans ((up_ne hMg26 (by decide)).trans ((up_ne hMg25 (by decide)).trans ((up_ne hMg24 (by decide)).trans (up_ne hMg23 (by decide)))))))))).trans ((up_eq hMg22).trans (by rw [show Mg21 3 = Mg19 3 from (up_ne hMg21 (by decide)).trans (up_ne hMg20 (by decide))]))
          have hcol4 : Mg31 4 = upd (Mg19 4) rows.length tg9 := (show Mg31 4 = Mg23 4 from (up_ne hMg31 (by decide)).trans ((up_ne hMg30 (by decide)).trans ((up_ne hMg29 (by decide)).trans ((up_ne hMg28 (by decide)).trans ((up_ne hMg27 (by decide)).trans ((up_ne hMg26 (by decide)).trans ((up_ne hMg25 (by decide)).trans (up_ne hMg24 (by decide))))))))).trans ((up_eq hMg23).trans (by rw [show Mg22 4 = Mg19 4 from (up_ne hMg22 (by decide)).trans ((up_ne hMg21 (by decide)).trans (up_ne hMg20 (by decide)))]))
          have hcol2 : Mg31 2 = upd (Mg19 2) rows.length day := (show Mg31 2 = Mg24 2 from (up_ne hMg31 (by decide)).trans ((up_ne hMg30 (by decide)).trans ((up_ne hMg29 (by decide)).trans ((up_ne hMg28 (by decide)).trans ((up_ne hMg27 (by decide)).trans ((up_ne hMg26 (by decide)).trans (up_ne hMg25 (by decide)))))))).trans ((up_eq hMg24).trans (by rw [show Mg23 2 = Mg19 2 from (up_ne hMg23 (by decide)).trans ((up_ne hMg22 (by decide)).trans ((up_ne hMg21 (by decide)).trans (up_ne hMg20 (by decide))))]))
          have hcol7 : Mg31 7 = upd (Mg19 7) rows.length 0 := (show Mg31 7 = Mg25 7 from (up_ne hMg31 (by decide)).trans ((up_ne hMg30 (by decide)).trans ((up_ne hMg29 (by decide)).trans ((up_ne hMg28 (by decide)).trans ((up_ne hMg27 (by decide)).trans (up_ne hMg26 (by decide))))))).trans ((up_eq hMg25).trans (by rw [show Mg24 7 = Mg19 7 from (up_ne hMg24 (by decide)).trans ((up_ne hMg23 (by decide)).trans ((up_ne hMg22 (by decide)).trans ((up_ne hMg21 (by decide)).trans (up_ne hMg20 (by decide)))))]))
          have hcol5 : Mg31 5 = upd (Mg19 5) rows.length (-1) := (show Mg31 5 = Mg26 5 from (up_ne hMg31 (by decide)).trans ((up_ne hMg30 (by decide)).trans ((up_ne hMg29 (by decide)).trans ((up_ne hMg28 (by decide)).trans (up_ne hMg27 (by decide)))))).trans ((up_eq hMg26).trans (by rw [show Mg25 5 = Mg19 5 from (up_ne hMg25 (by decide)).trans ((up_ne hMg24 (by decide)).trans ((up_ne hMg23 (by decide)).trans ((up_ne hMg22 (by decide)).trans ((up_ne hMg21 (by decide)).trans (up_ne hMg20 (by decide))))))]))
          have hcol8 : Mg31 8 = upd (Mg19 8) rows.length 0 := (show Mg31 8 = Mg27 8 from (up_ne hMg31 (by decide)).trans ((up_ne hMg30 (by decide)).trans ((up_ne hMg29 (by decide)).trans (up_ne hMg28 (by decide))))).trans ((up_eq hMg27).trans (by rw [show Mg26 8 = Mg19 8 from (up_ne hMg26 (by decide)).trans ((up_ne hMg25 (by decide)).trans ((up_ne hMg24 (by decide)).trans ((up_ne hMg23 (by decide)).trans ((up_ne hMg22 (by decide)).trans ((up_ne hMg21 (by decide)).trans (up_ne hMg20 (by decide)))))))]))
          have hcol9 : Mg31 9 = upd (Mg19 9) rows.length 0 := (show Mg31 9 = Mg28 9 from (up_ne hMg31 (by decide)).trans ((up_ne hMg30 (by decide)).trans (up_ne hMg29 (by decide)))).trans ((up_eq hMg28).trans (by rw [show Mg27 9 = Mg19 9 from (up_ne hMg27 (by decide)).trans ((up_ne hMg26 (by decide)).trans ((up_ne hMg25 (by decide)).trans ((up_ne hMg24 (by decide)).trans ((up_ne hMg23 (by decide)).trans ((up_ne hMg22 (by decide)).trans ((up_ne hMg21 (by decide)).trans (up_ne hMg20 (by decide))))))))]))
          have hcol10 : Mg31 10 = upd (Mg19 10) rows.length 0 := (show Mg31 10 = Mg29 10 from (up_ne hMg31 (by decide)).trans (up_ne hMg30 (by decide))).trans ((up_eq hMg29).trans (by rw [show Mg28 10 = Mg19 10 from (up_ne hMg28 (by decide)).trans ((up_ne hMg27 (by decide)).trans ((up_ne hMg26 (by decide)).trans ((up_ne hMg25 (by decide)).trans ((up_ne hMg24 (by decide)).trans ((up_ne hMg23 (by decide)).trans ((up_ne hMg22 (by decide)).trans ((up_ne hMg21 (by decide)).trans (up_ne hMg20 (by decide)))))))))]))
          have hcol11 : Mg31 11 = upd (Mg19 11) rows.length 0 := (show Mg31 11 = Mg30 11 from up_ne hMg31 (by decide)).trans ((up_eq hMg30).trans (by rw [show Mg29 11 = Mg19 11 from (up_ne hMg29 (by decide)).trans ((up_ne hMg28 (by decide)).trans ((up_ne hMg27 (by decide)).trans ((up_ne hMg26 (by decide)).trans ((up_ne hMg25 (by decide)).trans ((up_ne hMg24 (by decide)).trans ((up_ne hMg23 (by decide)).trans ((up_ne hMg22 (by decide)).trans ((up_ne hMg21 (by decide)).trans (up_ne hMg20 (by decide))))))))))]))
          have hcol12 : Mg31 12 = upd (Mg19 12) rows.length 0 := (show Mg31 12 = Mg31 12 from rfl).trans ((up_eq hMg31).trans (by rw [show Mg30 12 = Mg19 12 from (up_ne hMg30 (by decide)).trans ((up_ne hMg29 (by decide)).trans ((up_ne hMg28 (by decide)).trans ((up_ne hMg27 (by decide)).trans ((up_ne hMg26 (by decide)).trans ((up_ne hMg25 (by decide)).trans ((up_ne hMg24 (by decide)).trans ((up_ne hMg23 (by decide)).trans ((up_ne hMg22 (by decide)).trans ((up_ne hMg21 (by decide)).trans (up_ne hMg20 (by decide)))))))))))]))
          exact t_iret hx hb hr hlk hZc hC (⟨rfl, Mg31, mA_add hold (fun c hc h6 => by rcases (by omega : c = 0 ∨ c = 1 ∨ c = 2 ∨ c = 3 ∨ c = 4 ∨ c = 5 ∨ c = 7 ∨ c = 8 ∨ c = 9 ∨ c = 10 ∨ c = 11 ∨ c = 12) with rfl | rfl | rfl | rfl | rfl | rfl | rfl | rfl | rfl | rfl | rfl | rfl; exact hcol0.trans (by rw [hrw.1]); exact hcol1.trans (by rw [hrw.2.1]); exact hcol2.trans (by rw [hrw.2.2.1]); exact hcol3.trans (by rw [hrw.2.2.2.1]); exact hcol4.trans (by rw [hrw.2.2.2.2.1]); exact hcol5.trans (by rw [hrw.2.2.2.2.2.1, if_neg (Int32.not_lt.mpr c98)]); exact hcol7.trans (by rw [hrw.2.2.2.2.2.2.1]); exact hcol8.trans (by rw [hrw.2.2.2.2.2.2.2.1]); exact hcol9.trans (by rw [hrw.2.2.2.2.2.2.2.2.1]); exact hcol10.trans (by rw [hrw.2.2.2.2.2.2.2.2.2.1]); exact hcol11.trans (by rw [hrw.2.2.2.2.2.2.2.2.2.2.1]); exact hcol12.trans (by rw [hrw.2.2.2.2.2.2.2.2.2.2.2])), by rw [if_neg (Int32.not_lt.mpr c98)]⟩) (Nat.le_of_ble_eq_true rfl) (Nat.le_of_ble_eq_true rfl) d_M_add_203
        · exact absurd c98 c179
      · skip
        refine lv_iconst (v := 0) hx hb d_M_add_101 (by decide) ?_
        refine lv_goto (tgt := 106) hx hb d_M_add_102 (by decide) ?_
        refine t_iastN (k := rows.length) hx hb hC 7 0 rfl rfl (by omega) (by decide) d_M_add_106 (fun H locs hC => ?_)
        have hC : tC D cls (ty0 ca) A Z s (wM J ca code day made (nI rows.length) (va_up Mg25 5 (upd (Mg25 5) rows.length 0)) U (nI w9) log lk rest) H locs := hC
        refine gM hC (fun Mg32 hMg32 hC => ?_)
        refine lv_aload_n hx hb d_M_add_107 rfl (lv_at hl 1 rfl) ?_
        refine t_get (v := .ref (J 8)) hx hb hts inM hown hC 0 rfl rfl 11 (by decide) (hts _ w_648) (fun _ h => h) rfl d_M_add_108 ?_
        refine lv_aload_n hx hb d_M_add_111 rfl (lv_at hl 1 rfl) ?_
        refine t_get (v := .int (nI rows.length)) hx hb hts inM hown hC 0 rfl rfl 3 (by decide) (hts _ w_640) (fun _ h => h) rfl d_M_add_112 ?_
        refine lv_iconst (v := 0) hx hb d_M_add_115 (by decide) ?_
        refine t_iastN (k := rows.length) hx hb hC 8 0 rfl rfl (by omega) (by decide) d_M_add_116 (fun H locs hC => ?_)
        have hC : tC D cls (ty0 ca) A Z s (wM J ca code day made (nI rows.length) (va_up Mg32 8 (upd (Mg32 8) rows.length 0)) U (nI w9) log lk rest) H locs := hC
        refine gM hC (fun Mg33 hMg33 hC => ?_)
        refine lv_aload_n hx hb d_M_add_117 rfl (lv_at hl 1 rfl) ?_
        refine t_get (v := .ref (J 9)) hx hb hts inM hown hC 0 rfl rfl 12 (by decide) (hts _ w_649) (fun _ h => h) rfl d_M_add_118 ?_
        refine lv_aload_n hx hb d_M_add_121 rfl (lv_at hl 1 rfl) ?_
        refine t_get (v := .int (nI rows.length)) hx hb hts inM hown hC 0 rfl rfl 3 (by decide) (hts _ w_640) (fun _ h => h) rfl d_M_add_122 ?_
        refine lv_iconst (v := 0) hx hb d_M_add_125 (by decide) ?_
        refine t_zastN (k := rows.length) hx hb hC 9 1 rfl rfl (by omega) (by decide) (Or.inl rfl) d_M_add_126 (fun H locs hC => ?_)
        have hC : tC D cls (ty0 ca) A Z s (wM J ca code day made (nI rows.length) (va_up Mg33 9 (upd (Mg33 9) rows.length 0)) U (nI w9) log lk rest) H locs := hC
        refine gM hC (fun Mg34 hMg34 hC => ?_)
        refine lv_aload_n hx hb d_M_add_127 rfl (lv_at hl 1 rfl) ?_
        refine t_get (v := .ref (J 10)) hx hb hts inM hown hC 0 rfl rfl 13 (by decide) (hts _ w_650) (fun _ h => h) rfl d_M_add_128 ?_
        refine lv_aload_n hx hb d_M_add_131 rfl (lv_at hl 1 rfl) ?_
        refine t_get (v := .int (nI rows.length)) hx hb hts inM hown hC 0 rfl rfl 3 (by decide) (hts _ w_640) (fun _ h => h) rfl d_M_add_132 ?_
        refine lv_iconst (v := 0) hx hb d_M_add_135 (by decide) ?_
        refine t_iastN (k := rows.length) hx hb hC 10 0 rfl rfl (by omega) (by decide) d_M_add_136 (fun H locs hC => ?_)
        have hC : tC D cls (ty0 ca) A Z s (wM J ca code day made (nI rows.length) (va_up Mg34 10 (upd (Mg34 10) rows.length 0)) U (nI w9) log lk rest) H locs := hC
        refine gM hC (fun Mg35 hMg35 hC => ?_)
        refine lv_aload_n hx hb d_M_add_137 rfl (lv_at hl 1 rfl) ?_
        refine t_get (v := .ref (J 11)) hx hb hts inM hown hC 0 rfl rfl 14 (by decide) (hts _ w_651) (fun _ h => h) rfl d_M_add_138 ?_
        refine lv_aload_n hx hb d_M_add_141 rfl (lv_at hl 1 rfl) ?_
        refine t_get (v := .int (nI rows.length)) hx hb hts inM hown hC 0 rfl rfl 3 (by decide) (hts _ w_640) (fun _ h => h) rfl d_M_add_142 ?_
        refine lv_iconst (v := 0) hx hb d_M_add_145 (by decide) ?_
        refine t_iastN (k := rows.length) hx hb hC 11 0 rfl rfl (by omega) (by decide) d_M_add_146 (fun H locs hC => ?_)
        have hC : tC D cls (ty0 ca) A Z s (wM J ca code day made (nI rows.length) (va_up Mg35 11 (upd (Mg35 11) rows.length 0)) U (nI w9) log lk rest) H locs := hC
        refine gM hC (fun Mg36 hMg36 hC => ?_)
        refine lv_aload_n hx hb d_M_add_147 rfl (lv_at hl 1 rfl) ?_
        refine t_get (v := .ref (J 12)) hx hb hts inM hown hC 0 rfl rfl 15 (by decide) (hts _ w_652) (fun _ h => h) rfl d_M_add_148 ?_
        refine lv_aload_n hx hb d_M_add_151 rfl (lv_at hl 1 rfl) ?_
        refine t_get (v := .int (nI rows.length)) hx hb hts inM hown hC 0 rfl rfl 3 (by decide) (hts _ w_640) (fun _ h => h) rfl d_M_add_152 ?_
        refine lv_iconst (v := 0) hx hb d_M_add_155 (by decide) ?_
        refine t_iastN (k := rows.length) hx hb hC 12 0 rfl rfl (by omega) (by decide) d_M_add_156 (fun H locs hC => ?_)
        have hC : tC D cls (ty0 ca) A Z s (wM J ca code day made (nI rows.length) (va_up Mg36 12 (upd (Mg36 12) rows.length 0)) U (nI w9) log lk rest) H locs := hC
        refine gM hC (fun Mg37 hMg37 hC => ?_)
        refine lv_aload_n hx hb d_M_add_157 rfl (lv_at hl 1 rfl) ?_
        refine lv_dup hx hb d_M_add_158 rfl ?_
        refine t_get (v := .int (nI rows.length)) hx hb hts inM hown hC 0 rfl rfl 3 (by decide) (hts _ w_640) (fun _ h => h) rfl d_M_add_159 ?_
        refine lv_iconst (v := 1) hx hb d_M_add_162 (by decide) ?_
        refine lv_iaddN (a := rows.length) (b := 1) hx hb rfl d_M_add_163 ?_
        refine t_put (ty := .int) (v := .int (nI (rows.length + 1))) hx hb hts inM TM tyM nmM hown hC 0 rfl rfl 3 (by decide) (hts _ w_640) (fun _ h => h) rfl (by decide +kernel) rfl rfl (Nat.le_of_ble_eq_true rfl) d_M_add_164 (fun H locs hC => ?_)
        have hC : tC D cls (ty0 ca) A Z s (wM J ca code day made (nI (rows.length + 1)) Mg37 U (nI w9) log lk rest) H locs := hC
        refine lv_aload_n hx hb d_M_add_167 rfl (lv_at hl 1 rfl) ?_
        refine lv_dup hx hb d_M_add_168 rfl ?_
        refine t_get (v := .int made) hx hb hts inM hown hC 0 rfl rfl 2 (by decide) (hts _ w_639) (fun _ h => h) rfl d_M_add_169 ?_
        refine lv_iconst (v := 1) hx hb d_M_add_172 (by decide) ?_
        refine lv_iadd hx hb d_M_add_173 ?_
        refine t_put (ty := .int) (v := .int (made + 1)) hx hb hts inM TM tyM nmM hown hC 0 rfl rfl 2 (by decide) (hts _ w_639) (fun _ h => h) rfl (by decide +kernel) rfl rfl (Nat.le_of_ble_eq_true rfl) d_M_add_174 (fun H locs hC => ?_)
        have hC : tC D cls (ty0 ca) A Z s (wM J ca code day (made + 1) (nI (rows.length + 1)) Mg37 U (nI w9) log lk rest) H locs := hC
        refine lv_aload_n hx hb d_M_add_177 rfl (lv_at hl 1 rfl) ?_
        refine lv_iload_n hx hb d_M_add_178 rfl (lv_at hl 3 rfl) ?_
        refine lv_if_le (tgt := 186) hx hb d_M_add_179 (by decide) (fun c179 => ?_) (fun c179 => ?_)
        · exact absurd c179 c98
        · skip
          refine lv_iconst (v := 1) hx hb d_M_add_182 (by decide) ?_
          refine lv_goto (tgt := 187) hx hb d_M_add_183 (by decide) ?_
          refine lv_aload_n hx hb d_M_add_187 rfl (lv_at hl 1 rfl) ?_
          refine t_get (v := .int (made + 1)) hx hb hts inM hown hC 0 rfl rfl 2 (by decide) (hts _ w_639) (fun _ h => h) rfl d_M_add_188 ?_
          refine lv_iconst (v := 1) hx hb d_M_add_191 (by decide) ?_
          refine lv_isub hx hb d_M_add_192 ?_
          rw [Int32.add_sub_cancel]
          refine lv_iload_n hx hb d_M_add_193 rfl (lv_at hl 2 rfl) ?_
          refine t_call (t_invV (As := [.int 1, .int made, .int k9]) (rest := []) hx hb hown (hts _ w_725) (hts _ w_727) (hts _ s_M_enter) (hts _ w_728) ⟨by decide, by decide⟩ (t_recv (q0 := 0) hC rfl rfl) rfl d_M_add_194) (c_M_enter hZc hw9) hZc tb_good hts w_7 hC (hl.1.trans hml.symm) ⟨Nat.le_of_ble_eq_true rfl, Nat.le_of_ble_eq_true rfl, Nat.le_of_ble_eq_true rfl, Nat.le_of_ble_eq_true rfl⟩ (Nat.le_of_ble_eq_true rfl) (fun E q ce w1 H1 l1 hp => hp.elim) (fun v w1 H locs hp hC => ?_)
          obtain ⟨rfl, hwe9⟩ := hp
          rw [hwe9] at hC
          have hC : tC D cls (ty0 ca) A Z s (wM J ca code day (made + 1) (nI (rows.length + 1)) Mg37 U (nI (w9 + 1)) ((lg_wr (log, w9, lk) day 1 made k9).1) ((lg_wr (log, w9, lk) day 1 made k9).2.2) rest) H locs := hC
          refine W.eq (g2 := F0 m 197 ls []) rfl ?_
          refine lv_aload_n hx hb d_M_add_197 rfl (lv_at hl 1 rfl) ?_
          refine t_get (v := .int (made + 1)) hx hb hts inM hown hC 0 rfl rfl 2 (by decide) (hts _ w_639) (fun _ h => h) rfl d_M_add_198 ?_
          refine lv_iconst (v := 1) hx hb d_M_add_201 (by decide) ?_
          refine lv_isub hx hb d_M_add_202 ?_
          rw [Int32.add_sub_cancel]
          have hcol0 : Mg37 0 = upd (Mg19 0) rows.length made := (show Mg37 0 = Mg20 0 from (up_ne hMg37 (by decide)).trans ((up_ne hMg36 (by decide)).trans ((up_ne hMg35 (by decide)).trans ((up_ne hMg34 (by decide)).trans ((up_ne hMg33 (by decide)).trans ((up_ne hMg32 (by decide)).trans ((up_ne hMg25 (by decide)).trans ((up_ne hMg24 (by decide)).trans ((up_ne hMg23 (by decide)).trans ((up_ne hMg22 (by decide)).trans (up_ne hMg21 (by decide)))))))))))).trans ((up_eq hMg20).trans (by rw [show Mg19 0 = Mg19 0 from rfl]))
          have hcol1 : Mg37 1 = upd (Mg19 1) rows.length k9 := (show Mg37 1 = Mg21 1 from (up_ne hMg37 (by decide)).trans ((up_ne hMg36 (by decide)).trans ((up_ne hMg35 (by decide)).trans ((up_ne hMg34 (by decide)).trans ((up_ne hMg33 (by decide)).trans ((up_ne hMg32 (by decide)).trans ((up_ne hMg25 (by decide)).trans ((up_ne hMg24 (by decide)).trans ((up_ne hMg23 (by decide)).trans (up_ne hMg22 (by decide))))))))))).trans ((up_eq hMg21).trans (by rw [show Mg20 1 = Mg19 1 from up_ne hMg20 (by decide)]))
          have hcol3 : Mg37 3 = upd (Mg19 3) rows.length by9 := (show Mg37 3 = Mg22 3 from (up_ne hMg37 (by decide)).trans ((up_ne hMg36 (by decide)).trans ((up_ne hMg35 (by decide)).trans ((up_ne hMg34 (by decide)).trans ((up_ne hMg33 (by decide)).trans ((up_ne hMg32 (by decide)).trans ((up_ne hMg25 (by decide)).trans ((up_ne hMg24 (by decide)).trans (up_ne hMg23 (by decide)))))))))).trans ((up_eq hMg22).trans (by rw [show Mg21 3 = Mg19 3 from (up_ne hMg21 (by decide)).trans (up_ne hMg20 (by decide))]))
          have hcol4 : Mg37 4 = upd (Mg19 4) rows.length tg9 := (show Mg37 4 = Mg23 4 from (up_ne hMg37 (by decide)).trans ((up_ne hMg36 (by decide)).trans ((up_ne hMg35 (by decide)).trans ((up_ne hMg34 (by decide)).trans ((up_ne hMg33 (by decide)).trans ((up_ne hMg32 (by decide)).trans ((up_ne hMg25 (by decide)).trans (up_ne hMg24 (by decide))))))))).trans ((up_eq hMg23).trans (by rw [show Mg22 4 = Mg19 4 from (up_ne hMg22 (by decide)).trans ((up_ne hMg21 (by decide)).trans (up_ne hMg20 (by decide)))]))
          have hcol2 : Mg37 2 = upd (Mg19 2) rows.length day := (show Mg37 2 = Mg24 2 from (up_ne hMg37 (by decide)).trans ((up_ne hMg36 (by decide)).trans ((up_ne hMg35 (by decide)).trans ((up_ne hMg34 (by decide)).trans ((up_ne hMg33 (by decide)).trans ((up_ne hMg32 (by decide)).trans (up_ne hMg25 (by decide)))))))).trans ((up_eq hMg24).trans (by rw [show Mg23 2 = Mg19 2 from (up_ne hMg23 (by decide)).trans ((up_ne hMg22 (by decide)).trans ((up_ne hMg21 (by decide)).trans (up_ne hMg20 (by decide))))]))
          have hcol7 : Mg37 7 = upd (Mg19 7) rows.length 0 := (show Mg37 7 = Mg25 7 from (up_ne hMg37 (by decide)).trans ((up_ne hMg36 (by decide)).trans ((up_ne hMg35 (by decide)).trans ((up_ne hMg34 (by decide)).trans ((up_ne hMg33 (by decide)).trans (up_ne hMg32 (by decide))))))).trans ((up_eq hMg25).trans (by rw [show Mg24 7 = Mg19 7 from (up_ne hMg24 (by decide)).trans ((up_ne hMg23 (by decide)).trans ((up_ne hMg22 (by decide)).trans ((up_ne hMg21 (by decide)).trans (up_ne hMg20 (by decide)))))]))
          have hcol5 : Mg37 5 = upd (Mg19 5) rows.length 0 := (show Mg37 5 = Mg32 5 from (up_ne hMg37 (by decide)).trans ((up_ne hMg36 (by decide)).trans ((up_ne hMg35 (by decide)).trans ((up_ne hMg34 (by decide)).trans (up_ne hMg33 (by decide)))))).trans ((up_eq hMg32).trans (by rw [show Mg25 5 = Mg19 5 from (up_ne hMg25 (by decide)).trans ((up_ne hMg24 (by decide)).trans ((up_ne hMg23 (by decide)).trans ((up_ne hMg22 (by decide)).trans ((up_ne hMg21 (by decide)).trans (up_ne hMg20 (by decide))))))]))
          have hcol8 : Mg37 8 = upd (Mg19 8) rows.length 0 := (show Mg37 8 = Mg33 8 from (up_ne hMg37 (by decide)).trans ((up_ne hMg36 (by decide)).trans ((up_ne hMg35 (by decide)).trans (up_ne hMg34 (by decide))))).trans ((up_eq hMg33).trans (by rw [show Mg32 8 = Mg19 8 from (up_ne hMg32 (by decide)).trans ((up_ne hMg25 (by decide)).trans ((up_ne hMg24 (by decide)).trans ((up_ne hMg23 (by decide)).trans ((up_ne hMg22 (by decide)).trans ((up_ne hMg21 (by decide)).trans (up_ne hMg20 (by decide)))))))]))
          have hcol9 : Mg37 9 = upd (Mg19 9) rows.length 0 := (show Mg37 9 = Mg34 9 from (up_ne hMg37 (by decide)).trans ((up_ne hMg36 (by decide)).trans (up_ne hMg35 (by decide)))).trans ((up_eq hMg34).trans (by rw [show Mg33 9 = Mg19 9 from (up_ne hMg33 (by decide)).trans ((up_ne hMg32 (by decide)).trans ((up_ne hMg25 (by decide)).trans ((up_ne hMg24 (by decide)).trans ((up_ne hMg23 (by decide)).trans ((up_ne hMg22 (by decide)).trans ((up_ne hMg21 (by decide)).trans (up_ne hMg20 (by decide))))))))]))
          have hcol10 : Mg37 10 = upd (Mg19 10) rows.length 0 := (show Mg37 10 = Mg35 10 from (up_ne hMg37 (by decide)).trans (up_ne hMg36 (by decide))).trans ((up_eq hMg35).trans (by rw [show Mg34 10 = Mg19 10 from (up_ne hMg34 (by decide)).trans ((up_ne hMg33 (by decide)).trans ((up_ne hMg32 (by decide)).trans ((up_ne hMg25 (by decide)).trans ((up_ne hMg24 (by decide)).trans ((up_ne hMg23 (by decide)).trans ((up_ne hMg22 (by decide)).trans ((up_ne hMg21 (by decide)).trans (up_ne hMg20 (by decide)))))))))]))
          have hcol11 : Mg37 11 = upd (Mg19 11) rows.length 0 := (show Mg37 11 = Mg36 11 from up_ne hMg37 (by decide)).trans ((up_eq hMg36).trans (by rw [show Mg35 11 = Mg19 11 from (up_ne hMg35 (by decide)).trans ((up_ne hMg34 (by decide)).trans ((up_ne hMg33 (by decide)).trans ((up_ne hMg32 (by decide)).trans ((up_ne hMg25 (by decide)).trans ((up_ne hMg24 (by decide)).trans ((up_ne hMg23 (by decide)).trans ((up_ne hMg22 (by decide)).trans ((up_ne hMg21 (by decide)).trans (up_ne hMg20 (by decide))))))))))]))
          have hcol12 : Mg37 12 = upd (Mg19 12) rows.length 0 := (show Mg37 12 = Mg37 12 from rfl).trans ((up_eq hMg37).trans (by rw [show Mg36 12 = Mg19 12 from (up_ne hMg36 (by decide)).trans ((up_ne hMg35 (by decide)).trans ((up_ne hMg34 (by decide)).trans ((up_ne hMg33 (by decide)).trans ((up_ne hMg32 (by decide)).trans ((up_ne hMg25 (by decide)).trans ((up_ne hMg24 (by decide)).trans ((up_ne hMg23 (by decide)).trans ((up_ne hMg22 (by decide)).trans ((up_ne hMg21 (by decide)).trans (up_ne hMg20 (by decide)))))))))))]))
          exact t_iret hx hb hr hlk hZc hC (⟨rfl, Mg37, mA_add hold (fun c hc h6 => by rcases (by omega : c = 0 ∨ c = 1 ∨ c = 2 ∨ c = 3 ∨ c = 4 ∨ c = 5 ∨ c = 7 ∨ c = 8 ∨ c = 9 ∨ c = 10 ∨ c = 11 ∨ c = 12) with rfl | rfl | rfl | rfl | rfl | rfl | rfl | rfl | rfl | rfl | rfl | rfl; exact hcol0.trans (by rw [hrw.1]); exact hcol1.trans (by rw [hrw.2.1]); exact hcol2.trans (by rw [hrw.2.2.1]); exact hcol3.trans (by rw [hrw.2.2.2.1]); exact hcol4.trans (by rw [hrw.2.2.2.2.1]); exact hcol5.trans (by rw [hrw.2.2.2.2.2.1, if_pos (Int32.not_le.mp c98)]); exact hcol7.trans (by rw [hrw.2.2.2.2.2.2.1]); exact hcol8.trans (by rw [hrw.2.2.2.2.2.2.2.1]); exact hcol9.trans (by rw [hrw.2.2.2.2.2.2.2.2.1]); exact hcol10.trans (by rw [hrw.2.2.2.2.2.2.2.2.2.1]); exact hcol11.trans (by rw [hrw.2.2.2.2.2.2.2.2.2.2.1]); exact hcol12.trans (by rw [hrw.2.2.2.2.2.2.2.2.2.2.2])), by rw [if_pos (Int32.not_le.mp c98)]⟩) (Nat.le_of_ble_eq_true rfl) (Nat.le_of_ble_eq_true rfl) d_M_add_203

theorem mA_take {rows : List RW} {M0 M : Nat → Nat → Int32} {i n : Nat} (hn : rows.length = n + 1) (hi : i ≤ n) (hag : mA rows M0) (h : ∀ c, c < 13 → c ≠ 6 → ∀ j, M c j = if i ≤ j ∧ j < n then M0 c (j + 1) else M0 c j) : mA (rw_take rows i) M := by
  intro j hj c hc h6
  rw [rw_take_len (by omega)] at hj
  rw [take_at h6, h c hc h6 j]
  unfold rw_up
  by_cases e : j < i
  · rw [if_neg (by omega), if_pos e]; exact hag j (by omega) c hc h6
  · rw [if_pos (by omega), if_neg e]; exact hag (j + 1) (by omega) c hc h6
theorem sh_step {M0 M M2 : Nat → Nat → Int32} {i k : Nat} (hik : i ≤ k) (h : ∀ c, c < 13 → c ≠ 6 → ∀ j, M c j = if i ≤ j ∧ j < k then M0 c (j + 1) else M0 c j) (h2 : ∀ c, c < 13 → c ≠ 6 → M2 c = upd (M c) k (M c (k + 1))) : ∀ c, c < 13 → c ≠ 6 → ∀ j, M2 c j = if i ≤ j ∧ j < k + 1 then M0 c (j + 1) else M0 c j := by
  intro c hc h6 j
  rw [h2 c hc h6]
  by_cases e : j = k
  · subst e
    rw [pk_us, h c hc h6, if_neg (by omega), if_pos (by omega)]
  · rw [pk_un e, h c hc h6]
    by_cases e2 : i ≤ j ∧ j < k
    · rw [if_pos e2, if_pos (by omega)]
    · rw [if_neg e2, if_neg (by omega)]

set_option maxRecDepth 100000 in
set_option maxHeartbeats 4000000 in
theorem c_M_takeAway_n {l : Launch} {D : va_G} {A : Nat → Prop} {Z : State → Heap → Prop} (hZc : tZ A Z) {J : Nat → Nat} {ca : Nat → ClassId} {code day made : Int32} {M U : Nat → Nat → Int32} {log : Nat → Int32} {lk : Int64} {rest : va_W} {w9 n i : Nat} (hw9 : w9 < 2 ^ 31) {rows : List RW} (hag : mA rows M) (hn : rows.length = n + 1) (h40 : rows.length ≤ 40) (hin : i ≤ n) (hbo : ∀ j, j < rows.length → rw_at rows j 9 = 0 ∨ rw_at rows j 9 = 1) : tM l y_M_takeAway tb ({ frames := 1, cells := 0, slots := 0, locals := 25 }) D cls (ty0 ca) A Z [.ref (J 0), .int (nI i)] (wM J ca code day made (nI (n + 1)) M U (nI w9) log lk rest) (fun v w2 => v = none ∧ ∃ M2, mA (rw_take rows i) M2 ∧ w2 = wM J ca code day made (nI n) M2 U (nI (w9 + 1)) ((lg_wr (log, w9, lk) day 3 (rw_at rows i 0) (rw_at rows i 1)).1) ((lg_wr (log, w9, lk) day 3 (rw_at rows i 0) (rw_at rows i 1)).2.2) rest) (xN) := by
  refine t_ofW (by decide) w_749 (Nat.le_of_ble_eq_true rfl) ?_
  intro p e s m below meth c ls hx hb hr hts hown hlk hnm hml hex hl hC
  have hown : s.vm.findClass "RetentionVaultModel" = some m.cls := hown
  have hl : lv_has ls 3 [(0, .ref (J 0)), (1, .int (nI i))] := hl
  refine lv_aload_n hx hb d_M_takeAway_0 rfl (lv_at hl 0 rfl) ?_
  refine lv_iconst (v := 3) hx hb d_M_takeAway_1 (by decide) ?_
  refine lv_aload_n hx hb d_M_takeAway_2 rfl (lv_at hl 0 rfl) ?_
  refine t_get (v := .ref (J 1)) hx hb hts inM hown hC 0 rfl rfl 4 (by decide) (hts _ w_641) (fun _ h => h) rfl d_M_takeAway_3 ?_
  refine lv_iload_n hx hb d_M_takeAway_6 rfl (lv_at hl 1 rfl) ?_
  refine t_ialdN (k := i) hx hb hC 1 0 rfl rfl (by omega) (by decide) d_M_takeAway_7 ?_
  refine lv_aload_n hx hb d_M_takeAway_8 rfl (lv_at hl 0 rfl) ?_
  refine t_get (v := .ref (J 2)) hx hb hts inM hown hC 0 rfl rfl 5 (by decide) (hts _ w_642) (fun _ h => h) rfl d_M_takeAway_9 ?_
  refine lv_iload_n hx hb d_M_takeAway_12 rfl (lv_at hl 1 rfl) ?_
  refine t_ialdN (k := i) hx hb hC 2 0 rfl rfl (by omega) (by decide) d_M_takeAway_13 ?_
  refine t_call (t_invV (As := [.int 3, .int (M 0 i), .int (M 1 i)]) (rest := []) hx hb hown (hts _ w_725) (hts _ w_727) (hts _ s_M_enter) (hts _ w_728) ⟨by decide, by decide⟩ (t_recv (q0 := 0) hC rfl rfl) rfl d_M_takeAway_14) (c_M_enter hZc hw9) hZc tb_good hts w_7 hC (hl.1.trans hml.symm) ⟨Nat.le_of_ble_eq_true rfl, Nat.le_of_ble_eq_true rfl, Nat.le_of_ble_eq_true rfl, Nat.le_of_ble_eq_true rfl⟩ (Nat.le_of_ble_eq_true rfl) (fun E q ce w1 H1 l1 hp => hp.elim) (fun v w1 H locs hp hC => ?_)
  obtain ⟨rfl, hwe9⟩ := hp
  rw [hwe9] at hC
  have hC : tC D cls (ty0 ca) A Z s (wM J ca code day made (nI (n + 1)) M U (nI (w9 + 1)) ((lg_wr (log, w9, lk) day 3 (M 0 i) (M 1 i)).1) ((lg_wr (log, w9, lk) day 3 (M 0 i) (M 1 i)).2.2) rest) H locs := hC
  refine W.eq (g2 := F0 m 17 ls []) rfl ?_
  refine lv_aload_n hx hb d_M_takeAway_17 rfl (lv_at hl 0 rfl) ?_
  refine lv_dup hx hb d_M_takeAway_18 rfl ?_
  refine t_get (v := .int (nI (n + 1))) hx hb hts inM hown hC 0 rfl rfl 3 (by decide) (hts _ w_640) (fun _ h => h) rfl d_M_takeAway_19 ?_
  refine lv_iconst (v := 1) hx hb d_M_takeAway_22 (by decide) ?_
  refine lv_isub hx hb d_M_takeAway_23 ?_
  rw [nI_pred]
  refine t_put (ty := .int) (v := .int (nI n)) hx hb hts inM TM tyM nmM hown hC 0 rfl rfl 3 (by decide) (hts _ w_640) (fun _ h => h) rfl (by decide +kernel) rfl rfl (Nat.le_of_ble_eq_true rfl) d_M_takeAway_24 (fun H locs hC => ?_)
  have hC : tC D cls (ty0 ca) A Z s (wM J ca code day made (nI n) M U (nI (w9 + 1)) ((lg_wr (log, w9, lk) day 3 (M 0 i) (M 1 i)).1) ((lg_wr (log, w9, lk) day 3 (M 0 i) (M 1 i)).2.2) rest) H locs := hC
  refine lv_iload_n hx hb d_M_takeAway_27 rfl (lv_at hl 1 rfl) ?_
  refine lv_istore_n (lv' := [(2, .int (nI i)), (0, .ref (J 0)), (1, .int (nI i))]) hx hb d_M_takeAway_28 rfl hl (by decide) rfl (fun ls hl => ?_)
  rw [hag i (by omega) 0 (by decide) (by decide), hag i (by omega) 1 (by decide) (by decide)] at hC
  obtain ⟨M0, hM0⟩ : ∃ z, z = M := ⟨_, rfl⟩
  have hag0 : mA rows M0 := by rw [hM0]; exact hag
  have loop : ∀ (z k : Nat) (M : Nat → Nat → Int32) (ls : Array Slot) (H : Heap) (locs : List Loc), n - k = z → i ≤ k → k ≤ n → (∀ c, c < 13 → c ≠ 6 → ∀ j, M c j = if i ≤ j ∧ j < k then M0 c (j + 1) else M0 c j) → lv_has ls 3 [(2, .int (nI k)), (0, .ref (J 0)), (1, .int (nI i))] → tC D cls (ty0 ca) A Z s (wM J ca code day made (nI n) M U (nI (w9 + 1)) ((lg_wr (log, w9, lk) day 3 (rw_at rows i 0) (rw_at rows i 1)).1) ((lg_wr (log, w9, lk) day 3 (rw_at rows i 0) (rw_at rows i 1)).2.2) rest) H locs → tB p l e ({ frames := 1, cells := 0, slots := 0, locals := 25 }) s m [.ref (J 0), .int (nI i)] below meth c D (ty0 ca) A Z (fun v w2 => v = none ∧ ∃ M2, mA (rw_take rows i) M2 ∧ w2 = wM J ca code day made (nI n) M2 U (nI (w9 + 1)) ((lg_wr (log, w9, lk) day 3 (rw_at rows i 0) (rw_at rows i 1)).1) ((lg_wr (log, w9, lk) day 3 (rw_at rows i 0) (rw_at rows i 1)).2.2) rest) (xN) H locs 0 0 (F0 m 29 ls []) := by
    intro z
    induction z using Nat.strongRecOn with
    | ind z ih =>
      intro k M ls H locs hz hik hkn hM hl hC
      refine lv_iload_n hx hb d_M_takeAway_29 rfl (lv_at hl 0 rfl) ?_
      refine lv_aload_n hx hb d_M_takeAway_30 rfl (lv_at hl 1 rfl) ?_
      refine t_get (v := .int (nI n)) hx hb hts inM hown hC 0 rfl rfl 3 (by decide) (hts _ w_640) (fun _ h => h) rfl d_M_takeAway_31 ?_
      refine lv_icmp_ge (tgt := 211) hx hb d_M_takeAway_34 (by decide) (fun c34 => ?_) (fun c34 => ?_)
      · skip
        have hkn2 : k = n := Nat.le_antisymm hkn ((nI_leI (by omega) (by omega)).mp c34)
        have hMn : ∀ c, c < 13 → c ≠ 6 → ∀ j, M c j = if i ≤ j ∧ j < n then M0 c (j + 1) else M0 c j := by rw [← hkn2]; exact hM
        exact t_vret hx hb hr hlk hZc hC (⟨rfl, M, mA_take hn hin hag0 hMn, rfl⟩) (Nat.le_of_ble_eq_true rfl) (Nat.le_of_ble_eq_true rfl) d_M_takeAway_211
      · skip
        have hkl : k < n := Nat.not_le.mp (fun h => c34 ((nI_leI (by omega) (by omega)).mpr h))
        have hbz : M 9 (k + 1) = 0 ∨ M 9 (k + 1) = 1 := by rw [hM 9 (by decide) (by decide), if_neg (by omega), hag0 (k + 1) (by omega) 9 (by decide) (by decide)]; exact hbo (k + 1) (by omega)
        refine lv_aload_n hx hb d_M_takeAway_37 rfl (lv_at hl 1 rfl) ?_
        refine t_get (v := .ref (J 1)) hx hb hts inM hown hC 0 rfl rfl 4 (by decide) (hts _ w_641) (fun _ h => h) rfl d_M_takeAway_38 ?_
        refine lv_iload_n hx hb d_M_takeAway_41 rfl (lv_at hl 0 rfl) ?_
        refine lv_aload_n hx hb d_M_takeAway_42 rfl (lv_at hl 1 rfl) ?_
        refine t_get (v := .ref (J 1)) hx hb hts inM hown hC 0 rfl rfl 4 (by decide) (hts _ w_641) (fun _ h => h) rfl d_M_takeAway_43 ?_
        refine lv_iload_n hx hb d_M_takeAway_46 rfl (lv_at hl 0 rfl) ?_
        refine lv_iconst (v := 1) hx hb d_M_takeAway_47 (by decide) ?_
        refine lv_iaddN (a := k) (b := 1) hx hb rfl d_M_takeAway_48 ?_
        refine t_ialdN (k := (k + 1)) hx hb hC 1 0 rfl rfl (by omega) (by decide) d_M_takeAway_49 ?_
        refine t_iastN (k := k) hx hb hC 1 0 rfl rfl (by omega) (by decide) d_M_takeAway_50 (fun H locs hC => ?_)
        have hC : tC D cls (ty0 ca) A Z s (wM J ca code day made (nI n) (va_up M 0 (upd (M 0) k (M 0 (k + 1)))) U (nI (w9 + 1)) ((lg_wr (log, w9, lk) day 3 (rw_at rows i 0) (rw_at rows i 1)).1) ((lg_wr (log, w9, lk) day 3 (rw_at rows i 0) (rw_at rows i 1)).2.2) rest) H locs := hC
        refine gM hC (fun Mg1 hMg1 hC => ?_)
        refine lv_aload_n hx hb d_M_takeAway_51 rfl (lv_at hl 1 rfl) ?_
        refine t_get (v := .ref (J 2)) hx hb hts inM hown hC 0 rfl rfl 5 (by decide) (hts _ w_642) (fun _ h => h) rfl d_M_takeAway_52 ?_
        refine lv_iload_n hx hb d_M_takeAway_55 rfl (lv_at hl 0 rfl) ?_
        refine lv_aload_n hx hb d_M_takeAway_56 rfl (lv_at hl 1 rfl) ?_
        refine t_get (v := .ref (J 2)) hx hb hts inM hown hC 0 rfl rfl 5 (by decide) (hts _ w_642) (fun _ h => h) rfl d_M_takeAway_57 ?_
        refine lv_iload_n hx hb d_M_takeAway_60 rfl (lv_at hl 0 rfl) ?_
        refine lv_iconst (v := 1) hx hb d_M_takeAway_61 (by decide) ?_
        refine lv_iaddN (a := k) (b := 1) hx hb rfl d_M_takeAway_62 ?_
        refine t_ialdN (k := (k + 1)) hx hb hC 2 0 rfl rfl (by omega) (by decide) d_M_takeAway_63 ?_
        refine t_iastN (k := k) hx hb hC 2 0 rfl rfl (by omega) (by decide) d_M_takeAway_64 (fun H locs hC => ?_)
        have hC : tC D cls (ty0 ca) A Z s (wM J ca code day made (nI n) (va_up Mg1 1 (upd (Mg1 1) k (Mg1 1 (k + 1)))) U (nI (w9 + 1)) ((lg_wr (log, w9, lk) day 3 (rw_at rows i 0) (rw_at rows i 1)).1) ((lg_wr (log, w9, lk) day 3 (rw_at rows i 0) (rw_at rows i 1)).2.2) rest) H locs := hC
        refine gM hC (fun Mg2 hMg2 hC => ?_)
        refine lv_aload_n hx hb d_M_takeAway_65 rfl (lv_at hl 1 rfl) ?_
        refine t_get (v := .ref (J 3)) hx hb hts inM hown hC 0 rfl rfl 6 (by decide) (hts _ w_643) (fun _ h => h) rfl d_M_takeAway_66 ?_
        refine lv_iload_n hx hb d_M_takeAway_69 rfl (lv_at hl 0 rfl) ?_
        refine lv_aload_n hx hb d_M_takeAway_70 rfl (lv_at hl 1 rfl) ?_
        refine t_get (v := .ref (J 3)) hx hb hts inM hown hC 0 rfl rfl 6 (by decide) (hts _ w_643) (fun _ h => h) rfl d_M_takeAway_71 ?_
        refine lv_iload_n hx hb d_M_takeAway_74 rfl (lv_at hl 0 rfl) ?_
        refine lv_iconst (v := 1) hx hb d_M_takeAway_75 (by decide) ?_
        refine lv_iaddN (a := k) (b := 1) hx hb rfl d_M_takeAway_76 ?_
        refine t_ialdN (k := (k + 1)) hx hb hC 3 0 rfl rfl (by omega) (by decide) d_M_takeAway_77 ?_
        refine t_iastN (k := k) hx hb hC 3 0 rfl rfl (by omega) (by decide) d_M_takeAway_78 (fun H locs hC => ?_)
        have hC : tC D cls (ty0 ca) A Z s (wM J ca code day made (nI n) (va_up Mg2 3 (upd (Mg2 3) k (Mg2 3 (k + 1)))) U (nI (w9 + 1)) ((lg_wr (log, w9, lk) day 3 (rw_at rows i 0) (rw_at rows i 1)).1) ((lg_wr (log, w9, lk) day 3 (rw_at rows i 0) (rw_at rows i 1)).2.2) rest) H locs := hC
        refine gM hC (fun Mg3 hMg3 hC => ?_)
        refine lv_aload_n hx hb d_M_takeAway_79 rfl (lv_at hl 1 rfl) ?_
        refine t_get (v := .ref (J 4)) hx hb hts inM hown hC 0 rfl rfl 7 (by decide) (hts _ w_644) (fun _ h => h) rfl d_M_takeAway_80 ?_
        refine lv_iload_n hx hb d_M_takeAway_83 rfl (lv_at hl 0 rfl) ?_
        refine lv_aload_n hx hb d_M_takeAway_84 rfl (lv_at hl 1 rfl) ?_
        refine t_get (v := .ref (J 4)) hx hb hts inM hown hC 0 rfl rfl 7 (by decide) (hts _ w_644) (fun _ h => h) rfl d_M_takeAway_85 ?_
        refine lv_iload_n hx hb d_M_takeAway_88 rfl (lv_at hl 0 rfl) ?_
        refine lv_iconst (v := 1) hx hb d_M_takeAway_89 (by decide) ?_
        refine lv_iaddN (a := k) (b := 1) hx hb rfl d_M_takeAway_90 ?_
        refine t_ialdN (k := (k + 1)) hx hb hC 4 0 rfl rfl (by omega) (by decide) d_M_takeAway_91 ?_
        refine t_iastN (k := k) hx hb hC 4 0 rfl rfl (by omega) (by decide) d_M_takeAway_92 (fun H locs hC => ?_)
        have hC : tC D cls (ty0 ca) A Z s (wM J ca code day made (nI n) (va_up Mg3 4 (upd (Mg3 4) k (Mg3 4 (k + 1)))) U (nI (w9 + 1)) ((lg_wr (log, w9, lk) day 3 (rw_at rows i 0) (rw_at rows i 1)).1) ((lg_wr (log, w9, lk) day 3 (rw_at rows i 0) (rw_at rows i 1)).2.2) rest) H locs := hC
        refine gM hC (fun Mg4 hMg4 hC => ?_)
        refine lv_aload_n hx hb d_M_takeAway_93 rfl (lv_at hl 1 rfl) ?_
        refine t_get (v := .ref (J 5)) hx hb hts inM hown hC 0 rfl rfl 8 (by decide) (hts _ w_645) (fun _ h => h) rfl d_M_takeAway_94 ?_
        refine lv_iload_n hx hb d_M_takeAway_97 rfl (lv_at hl 0 rfl) ?_
        refine lv_aload_n hx hb d_M_takeAway_98 rfl (lv_at hl 1 rfl) ?_
        refine t_get (v := .ref (J 5)) hx hb hts inM hown hC 0 rfl rfl 8 (by decide) (hts _ w_645) (fun _ h => h) rfl d_M_takeAway_99 ?_
        refine lv_iload_n hx hb d_M_takeAway_102 rfl (lv_at hl 0 rfl) ?_
        refine lv_iconst (v := 1) hx hb d_M_takeAway_103 (by decide) ?_
        refine lv_iaddN (a := k) (b := 1) hx hb rfl d_M_takeAway_104 ?_
        refine t_ialdN (k := (k + 1)) hx hb hC 5 0 rfl rfl (by omega) (by decide) d_M_takeAway_105 ?_
        refine t_iastN (k := k) hx hb hC 5 0 rfl rfl (by omega) (by decide) d_M_takeAway_106 (fun H locs hC => ?_)
        have hC : tC D cls (ty0 ca) A Z s (wM J ca code day made (nI n) (va_up Mg4 2 (upd (Mg4 2) k (Mg4 2 (k + 1)))) U (nI (w9 + 1)) ((lg_wr (log, w9, lk) day 3 (rw_at rows i 0) (rw_at rows i 1)).1) ((lg_wr (log, w9, lk) day 3 (rw_at rows i 0) (rw_at rows i 1)).2.2) rest) H locs := hC
        refine gM hC (fun Mg5 hMg5 hC => ?_)
        refine lv_aload_n hx hb d_M_takeAway_107 rfl (lv_at hl 1 rfl) ?_
        refine t_get (v := .ref (J 6)) hx hb hts inM hown hC 0 rfl rfl 9 (by decide) (hts _ w_646) (fun _ h => h) rfl d_M_takeAway_108 ?_
        refine lv_iload_n hx hb d_M_takeAway_111 rfl (lv_at hl 0 rfl) ?_
        refine lv_aload_n hx hb d_M_takeAway_112 rfl (lv_at hl 1 rfl) ?_
        refine t_get (v := .ref (J 6)) hx hb hts inM hown hC 0 rfl rfl 9 (by decide) (hts _ w_646) (fun _ h => h) rfl d_M_takeAway_113 ?_
        refine lv_iload_n hx hb d_M_takeAway_116 rfl (lv_at hl 0 rfl) ?_
        refine lv_iconst (v := 1) hx hb d_M_takeAway_117 (by decide) ?_
        refine lv_iaddN (a := k) (b := 1) hx hb rfl d_M_takeAway_118 ?_
        refine t_ialdN (k := (k + 1)) hx hb hC 6 0 rfl rfl (by omega) (by decide) d_M_takeAway_119 ?_
        refine t_iastN (k := k) hx hb hC 6 0 rfl rfl (by omega) (by decide) d_M_takeAway_120 (fun H locs hC => ?_)
        have hC : tC D cls (ty0 ca) A Z s (wM J ca code day made (nI n) (va_up Mg5 7 (upd (Mg5 7) k (Mg5 7 (k + 1)))) U (nI (w9 + 1)) ((lg_wr (log, w9, lk) day 3 (rw_at rows i 0) (rw_at rows i 1)).1) ((lg_wr (log, w9, lk) day 3 (rw_at rows i 0) (rw_at rows i 1)).2.2) rest) H locs := hC
        refine gM hC (fun Mg6 hMg6 hC => ?_)
        refine lv_aload_n hx hb d_M_takeAway_121 rfl (lv_at hl 1 rfl) ?_
        refine t_get (v := .ref (J 7)) hx hb hts inM hown hC 0 rfl rfl 10 (by decide) (hts _ w_647) (fun _ h => h) rfl d_M_takeAway_122 ?_
        refine lv_iload_n hx hb d_M_takeAway_125 rfl (lv_at hl 0 rfl) ?_
        refine lv_aload_n hx hb d_M_takeAway_126 rfl (lv_at hl 1 rfl) ?_
        refine t_get (v := .ref (J 7)) hx hb hts inM hown hC 0 rfl rfl 10 (by decide) (hts _ w_647) (fun _ h => h) rfl d_M_takeAway_127 ?_
        refine lv_iload_n hx hb d_M_takeAway_130 rfl (lv_at hl 0 rfl) ?_
        refine lv_iconst (v := 1) hx hb d_M_takeAway_131 (by decide) ?_
        refine lv_iaddN (a := k) (b := 1) hx hb rfl d_M_takeAway_132 ?_
        refine t_ialdN (k := (k + 1)) hx hb hC 7 0 rfl rfl (by omega) (by decide) d_M_takeAway_133 ?_
        refine t_iastN (k := k) hx hb hC 7 0 rfl rfl (by omega) (by decide) d_M_takeAway_134 (fun H locs hC => ?_)
        have hC : tC D cls (ty0 ca) A Z s (wM J ca code day made (nI n) (va_up Mg6 5 (upd (Mg6 5) k (Mg6 5 (k + 1)))) U (nI (w9 + 1)) ((lg_wr (log, w9, lk) day 3 (rw_at rows i 0) (rw_at rows i 1)).1) ((lg_wr (log, w9, lk) day 3 (rw_at rows i 0) (rw_at rows i 1)).2.2) rest) H locs := hC
        refine gM hC (fun Mg7 hMg7 hC => ?_)
        refine lv_aload_n hx hb d_M_takeAway_135 rfl (lv_at hl 1 rfl) ?_
        refine t_get (v := .ref (J 8)) hx hb hts inM hown hC 0 rfl rfl 11 (by decide) (hts _ w_648) (fun _ h => h) rfl d_M_takeAway_136 ?_
        refine lv_iload_n hx hb d_M_takeAway_139 rfl (lv_at hl 0 rfl) ?_
        refine lv_aload_n hx hb d_M_takeAway_140 rfl (lv_at hl 1 rfl) ?_
        refine t_get (v := .ref (J 8)) hx hb hts inM hown hC 0 rfl rfl 11 (by decide) (hts _ w_648) (fun _ h => h) rfl d_M_takeAway_141 ?_
        refine lv_iload_n hx hb d_M_takeAway_144 rfl (lv_at hl 0 rfl) ?_
        refine lv_iconst (v := 1) hx hb d_M_takeAway_145 (by decide) ?_
        refine lv_iaddN (a := k) (b := 1) hx hb rfl d_M_takeAway_146 ?_
        refine t_ialdN (k := (k + 1)) hx hb hC 8 0 rfl rfl (by omega) (by decide) d_M_takeAway_147 ?_
        refine t_iastN (k := k) hx hb hC 8 0 rfl rfl (by omega) (by decide) d_M_takeAway_148 (fun H locs hC => ?_)
        have hC : tC D cls (ty0 ca) A Z s (wM J ca code day made (nI n) (va_up Mg7 8 (upd (Mg7 8) k (Mg7 8 (k + 1)))) U (nI (w9 + 1)) ((lg_wr (log, w9, lk) day 3 (rw_at rows i 0) (rw_at rows i 1)).1) ((lg_wr (log, w9, lk) day 3 (rw_at rows i 0) (rw_at rows i 1)).2.2) rest) H locs := hC
        refine gM hC (fun Mg8 hMg8 hC => ?_)
        refine lv_aload_n hx hb d_M_takeAway_149 rfl (lv_at hl 1 rfl) ?_
        refine t_get (v := .ref (J 9)) hx hb hts inM hown hC 0 rfl rfl 12 (by decide) (hts _ w_649) (fun _ h => h) rfl d_M_takeAway_150 ?_
        refine lv_iload_n hx hb d_M_takeAway_153 rfl (lv_at hl 0 rfl) ?_
        refine lv_aload_n hx hb d_M_takeAway_154 rfl (lv_at hl 1 rfl) ?_
        refine t_get (v := .ref (J 9)) hx hb hts inM hown hC 0 rfl rfl 12 (by decide) (hts _ w_649) (fun _ h => h) rfl d_M_takeAway_155 ?_
        refine lv_iload_n hx hb d_M_takeAway_158 rfl (lv_at hl 0 rfl) ?_
        refine lv_iconst (v := 1) hx hb d_M_takeAway_159 (by decide) ?_
        refine lv_iaddN (a := k) (b := 1) hx hb rfl d_M_takeAway_160 ?_
        refine t_zaldN (k := (k + 1)) hx hb hC 9 1 rfl rfl (by omega) (by decide) d_M_takeAway_161 ?_
        refine t_zastN (k := k) hx hb hC 9 1 rfl rfl (by omega) (by decide) (by rw [show Mg8 9 = M 9 from (up_ne hMg8 (by decide)).trans ((up_ne hMg7 (by decide)).trans ((up_ne hMg6 (by decide)).trans ((up_ne hMg5 (by decide)).trans ((up_ne hMg4 (by decide)).trans ((up_ne hMg3 (by decide)).trans ((up_ne hMg2 (by decide)).trans (up_ne hMg1 (by decide))))))))]; exact hbz) d_M_takeAway_162 (fun H locs hC => ?_)
        have hC : tC D cls (ty0 ca) A Z s (wM J ca code day made (nI n) (va_up Mg8 9 (upd (Mg8 9) k (Mg8 9 (k + 1)))) U (nI (w9 + 1)) ((lg_wr (log, w9, lk) day 3 (rw_at rows i 0) (rw_at rows i 1)).1) ((lg_wr (log, w9, lk) day 3 (rw_at rows i 0) (rw_at rows i 1)).2.2) rest) H locs := hC
        refine gM hC (fun Mg9 hMg9 hC => ?_)
        refine lv_aload_n hx hb d_M_takeAway_163 rfl (lv_at hl 1 rfl) ?_
        refine t_get (v := .ref (J 10)) hx hb hts inM hown hC 0 rfl rfl 13 (by decide) (hts _ w_650) (fun _ h => h) rfl d_M_takeAway_164 ?_
        refine lv_iload_n hx hb d_M_takeAway_167 rfl (lv_at hl 0 rfl) ?_
        refine lv_aload_n hx hb d_M_takeAway_168 rfl (lv_at hl 1 rfl) ?_
        refine t_get (v := .ref (J 10)) hx hb hts inM hown hC 0 rfl rfl 13 (by decide) (hts _ w_650) (fun _ h => h) rfl d_M_takeAway_169 ?_
        refine lv_iload_n hx hb d_M_takeAway_172 rfl (lv_at hl 0 rfl) ?_
        refine lv_iconst (v := 1) hx hb d_M_takeAway_173 (by decide) ?_
        refine lv_iaddN (a := k) (b := 1) hx hb rfl d_M_takeAway_174 ?_
        refine t_ialdN (k := (k + 1)) hx hb hC 10 0 rfl rfl (by omega) (by decide) d_M_takeAway_175 ?_
        refine t_iastN (k := k) hx hb hC 10 0 rfl rfl (by omega) (by decide) d_M_takeAway_176 (fun H locs hC => ?_)
        have hC : tC D cls (ty0 ca) A Z s (wM J ca code day made (nI n) (va_up Mg9 10 (upd (Mg9 10) k (Mg9 10 (k + 1)))) U (nI (w9 + 1)) ((lg_wr (log, w9, lk) day 3 (rw_at rows i 0) (rw_at rows i 1)).1) ((lg_wr (log, w9, lk) day 3 (rw_at rows i 0) (rw_at rows i 1)).2.2) rest) H locs := hC
        refine gM hC (fun Mg10 hMg10 hC => ?_)
        refine lv_aload_n hx hb d_M_takeAway_177 rfl (lv_at hl 1 rfl) ?_
        refine t_get (v := .ref (J 11)) hx hb hts inM hown hC 0 rfl rfl 14 (by decide) (hts _ w_651) (fun _ h => h) rfl d_M_takeAway_178 ?_
        refine lv_iload_n hx hb d_M_takeAway_181 rfl (lv_at hl 0 rfl) ?_
        refine lv_aload_n hx hb d_M_takeAway_182 rfl (lv_at hl 1 rfl) ?_
        refine t_get (v := .ref (J 11)) hx hb hts inM hown hC 0 rfl rfl 14 (by decide) (hts _ w_651) (fun _ h => h) rfl d_M_takeAway_183 ?_
        refine lv_iload_n hx hb d_M_takeAway_186 rfl (lv_at hl 0 rfl) ?_
        refine lv_iconst (v := 1) hx hb d_M_takeAway_187 (by decide) ?_
        refine lv_iaddN (a := k) (b := 1) hx hb rfl d_M_takeAway_188 ?_
        refine t_ialdN (k := (k + 1)) hx hb hC 11 0 rfl rfl (by omega) (by decide) d_M_takeAway_189 ?_
        refine t_iastN (k := k) hx hb hC 11 0 rfl rfl (by omega) (by decide) d_M_takeAway_190 (fun H locs hC => ?_)
        have hC : tC D cls (ty0 ca) A Z s (wM J ca code day made (nI n) (va_up Mg10 11 (upd (Mg10 11) k (Mg10 11 (k + 1)))) U (nI (w9 + 1)) ((lg_wr (log, w9, lk) day 3 (rw_at rows i 0) (rw_at rows i 1)).1) ((lg_wr (log, w9, lk) day 3 (rw_at rows i 0) (rw_at rows i 1)).2.2) rest) H locs := hC
        refine gM hC (fun Mg11 hMg11 hC => ?_)
        refine lv_aload_n hx hb d_M_takeAway_191 rfl (lv_at hl 1 rfl) ?_
        refine t_get (v := .ref (J 12)) hx hb hts inM hown hC 0 rfl rfl 15 (by decide) (hts _ w_652) (fun _ h => h) rfl d_M_takeAway_192 ?_
        refine lv_iload_n hx hb d_M_takeAway_195 rfl (lv_at hl 0 rfl) ?_
        refine lv_aload_n hx hb d_M_takeAway_196 rfl (lv_at hl 1 rfl) ?_
        refine t_get (v := .ref (J 12)) hx hb hts inM hown hC 0 rfl rfl 15 (by decide) (hts _ w_652) (fun _ h => h) rfl d_M_takeAway_197 ?_
        refine lv_iload_n hx hb d_M_takeAway_200 rfl (lv_at hl 0 rfl) ?_
        refine lv_iconst (v := 1) hx hb d_M_takeAway_201 (by decide) ?_
        refine lv_iaddN (a := k) (b := 1) hx hb rfl d_M_takeAway_202 ?_
        refine t_ialdN (k := (k + 1)) hx hb hC 12 0 rfl rfl (by omega) (by decide) d_M_takeAway_203 ?_
        refine t_iastN (k := k) hx hb hC 12 0 rfl rfl (by omega) (by decide) d_M_takeAway_204 (fun H locs hC => ?_)
        have hC : tC D cls (ty0 ca) A Z s (wM J ca code day made (nI n) (va_up Mg11 12 (upd (Mg11 12) k (Mg11 12 (k + 1)))) U (nI (w9 + 1)) ((lg_wr (log, w9, lk) day 3 (rw_at rows i 0) (rw_at rows i 1)).1) ((lg_wr (log, w9, lk) day 3 (rw_at rows i 0) (rw_at rows i 1)).2.2) rest) H locs := hC
        refine gM hC (fun Mg12 hMg12 hC => ?_)
        refine lv_iinc (k := 0) (v := nI (k + 1)) (lv' := [(2, .int (nI (k + 1))), (0, .ref (J 0)), (1, .int (nI i))]) hx hb d_M_takeAway_205 hl rfl (nI_1 k) (by decide) rfl (fun ls hl => ?_)
        refine lv_goto (tgt := 29) hx hb d_M_takeAway_208 (by decide) ?_
        have hcol0 : Mg12 0 = upd (M 0) k (M 0 (k + 1)) := (show Mg12 0 = Mg1 0 from (up_ne hMg12 (by decide)).trans ((up_ne hMg11 (by decide)).trans ((up_ne hMg10 (by decide)).trans ((up_ne hMg9 (by decide)).trans ((up_ne hMg8 (by decide)).trans ((up_ne hMg7 (by decide)).trans ((up_ne hMg6 (by decide)).trans ((up_ne hMg5 (by decide)).trans ((up_ne hMg4 (by decide)).trans ((up_ne hMg3 (by decide)).trans (up_ne hMg2 (by decide)))))))))))).trans ((up_eq hMg1).trans (by rw [show M 0 = M 0 from rfl]))
        have hcol1 : Mg12 1 = upd (M 1) k (M 1 (k + 1)) := (show Mg12 1 = Mg2 1 from (up_ne hMg12 (by decide)).trans ((up_ne hMg11 (by decide)).trans ((up_ne hMg10 (by decide)).trans ((up_ne hMg9 (by decide)).trans ((up_ne hMg8 (by decide)).trans ((up_ne hMg7 (by decide)).trans ((up_ne hMg6 (by decide)).trans ((up_ne hMg5 (by decide)).trans ((up_ne hMg4 (by decide)).trans (up_ne hMg3 (by decide))))))))))).trans ((up_eq hMg2).trans (by rw [show Mg1 1 = M 1 from up_ne hMg1 (by decide)]))
        have hcol3 : Mg12 3 = upd (M 3) k (M 3 (k + 1)) := (show Mg12 3 = Mg3 3 from (up_ne hMg12 (by decide)).trans ((up_ne hMg11 (by decide)).trans ((up_ne hMg10 (by decide)).trans ((up_ne hMg9 (by decide)).trans ((up_ne hMg8 (by decide)).trans ((up_ne hMg7 (by decide)).trans ((up_ne hMg6 (by decide)).trans ((up_ne hMg5 (by decide)).trans (up_ne hMg4 (by decide)))))))))).trans ((up_eq hMg3).trans (by rw [show Mg2 3 = M 3 from (up_ne hMg2 (by decide)).trans (up_ne hMg1 (by decide))]))
        have hcol4 : Mg12 4 = upd (M 4) k (M 4 (k + 1)) := (show Mg12 4 = Mg4 4 from (up_ne hMg12 (by decide)).trans ((up_ne hMg11 (by decide)).trans ((up_ne hMg10 (by decide)).trans ((up_ne hMg9 (by decide)).trans ((up_ne hMg8 (by decide)).trans ((up_ne hMg7 (by decide)).trans ((up_ne hMg6 (by decide)).trans (up_ne hMg5 (by decide))))))))).trans ((up_eq hMg4).trans (by rw [show Mg3 4 = M 4 from (up_ne hMg3 (by decide)).trans ((up_ne hMg2 (by decide)).trans (up_ne hMg1 (by decide)))]))
        have hcol2 : Mg12 2 = upd (M 2) k (M 2 (k + 1)) := (show Mg12 2 = Mg5 2 from (up_ne hMg12 (by decide)).trans ((up_ne hMg11 (by decide)).trans ((up_ne hMg10 (by decide)).trans ((up_ne hMg9 (by decide)).trans ((up_ne hMg8 (by decide)).trans ((up_ne hMg7 (by decide)).trans (up_ne hMg6 (by decide)))))))).trans ((up_eq hMg5).trans (by rw [show Mg4 2 = M 2 from (up_ne hMg4 (by decide)).trans ((up_ne hMg3 (by decide)).trans ((up_ne hMg2 (by decide)).trans (up_ne hMg1 (by decide))))]))
        have hcol7 : Mg12 7 = upd (M 7) k (M 7 (k + 1)) := (show Mg12 7 = Mg6 7 from (up_ne hMg12 (by decide)).trans ((up_ne hMg11 (by decide)).trans ((up_ne hMg10 (by decide)).trans ((up_ne hMg9 (by decide)).trans ((up_ne hMg8 (by decide)).trans (up_ne hMg7 (by decide))))))).trans ((up_eq hMg6).trans (by rw [show Mg5 7 = M 7 from (up_ne hMg5 (by decide)).trans ((up_ne hMg4 (by decide)).trans ((up_ne hMg3 (by decide)).trans ((up_ne hMg2 (by decide)).trans (up_ne hMg1 (by decide)))))]))
        have hcol5 : Mg12 5 = upd (M 5) k (M 5 (k + 1)) := (show Mg12 5 = Mg7 5 from (up_ne hMg12 (by decide)).trans ((up_ne hMg11 (by decide)).trans ((up_ne hMg10 (by decide)).trans ((up_ne hMg9 (by decide)).trans (up_ne hMg8 (by decide)))))).trans ((up_eq hMg7).trans (by rw [show Mg6 5 = M 5 from (up_ne hMg6 (by decide)).trans ((up_ne hMg5 (by decide)).trans ((up_ne hMg4 (by decide)).trans ((up_ne hMg3 (by decide)).trans ((up_ne hMg2 (by decide)).trans (up_ne hMg1 (by decide))))))]))
        have hcol8 : Mg12 8 = upd (M 8) k (M 8 (k + 1)) := (show Mg12 8 = Mg8 8 from (up_ne hMg12 (by decide)).trans ((up_ne hMg11 (by decide)).trans ((up_ne hMg10 (by decide)).trans (up_ne hMg9 (by decide))))).trans ((up_eq hMg8).trans (by rw [show Mg7 8 = M 8 from (up_ne hMg7 (by decide)).trans ((up_ne hMg6 (by decide)).trans ((up_ne hMg5 (by decide)).trans ((up_ne hMg4 (by decide)).trans ((up_ne hMg3 (by decide)).trans ((up_ne hMg2 (by decide)).trans (up_ne hMg1 (by decide)))))))]))
        have hcol9 : Mg12 9 = upd (M 9) k (M 9 (k + 1)) := (show Mg12 9 = Mg9 9 from (up_ne hMg12 (by decide)).trans ((up_ne hMg11 (by decide)).trans (up_ne hMg10 (by decide)))).trans ((up_eq hMg9).trans (by rw [show Mg8 9 = M 9 from (up_ne hMg8 (by decide)).trans ((up_ne hMg7 (by decide)).trans ((up_ne hMg6 (by decide)).trans ((up_ne hMg5 (by decide)).trans ((up_ne hMg4 (by decide)).trans ((up_ne hMg3 (by decide)).trans ((up_ne hMg2 (by decide)).trans (up_ne hMg1 (by decide))))))))]))
        have hcol10 : Mg12 10 = upd (M 10) k (M 10 (k + 1)) := (show Mg12 10 = Mg10 10 from (up_ne hMg12 (by decide)).trans (up_ne hMg11 (by decide))).trans ((up_eq hMg10).trans (by rw [show Mg9 10 = M 10 from (up_ne hMg9 (by decide)).trans ((up_ne hMg8 (by decide)).trans ((up_ne hMg7 (by decide)).trans ((up_ne hMg6 (by decide)).trans ((up_ne hMg5 (by decide)).trans ((up_ne hMg4 (by decide)).trans ((up_ne hMg3 (by decide)).trans ((up_ne hMg2 (by decide)).trans (up_ne hMg1 (by decide)))))))))]))
        have hcol11 : Mg12 11 = upd (M 11) k (M 11 (k + 1)) := (show Mg12 11 = Mg11 11 from up_ne hMg12 (by decide)).trans ((up_eq hMg11).trans (by rw [show Mg10 11 = M 11 from (up_ne hMg10 (by decide)).trans ((up_ne hMg9 (by decide)).trans ((up_ne hMg8 (by decide)).trans ((up_ne hMg7 (by decide)).trans ((up_ne hMg6 (by decide)).trans ((up_ne hMg5 (by decide)).trans ((up_ne hMg4 (by decide)).trans ((up_ne hMg3 (by decide)).trans ((up_ne hMg2 (by decide)).trans (up_ne hMg1 (by decide))))))))))]))
        have hcol12 : Mg12 12 = upd (M 12) k (M 12 (k + 1)) := (show Mg12 12 = Mg12 12 from rfl).trans ((up_eq hMg12).trans (by rw [show Mg11 12 = M 12 from (up_ne hMg11 (by decide)).trans ((up_ne hMg10 (by decide)).trans ((up_ne hMg9 (by decide)).trans ((up_ne hMg8 (by decide)).trans ((up_ne hMg7 (by decide)).trans ((up_ne hMg6 (by decide)).trans ((up_ne hMg5 (by decide)).trans ((up_ne hMg4 (by decide)).trans ((up_ne hMg3 (by decide)).trans ((up_ne hMg2 (by decide)).trans (up_ne hMg1 (by decide)))))))))))]))
        exact ih (n - (k + 1)) (by omega) (k + 1) Mg12 ls H locs rfl (by omega) (by omega) (sh_step hik hM (fun c hc h6 => by rcases (by omega : c = 0 ∨ c = 1 ∨ c = 2 ∨ c = 3 ∨ c = 4 ∨ c = 5 ∨ c = 7 ∨ c = 8 ∨ c = 9 ∨ c = 10 ∨ c = 11 ∨ c = 12) with rfl | rfl | rfl | rfl | rfl | rfl | rfl | rfl | rfl | rfl | rfl | rfl; exact hcol0; exact hcol1; exact hcol2; exact hcol3; exact hcol4; exact hcol5; exact hcol7; exact hcol8; exact hcol9; exact hcol10; exact hcol11; exact hcol12)) (lv_sub hl [0, 1, 2] rfl) hC
  exact loop _ i M ls H locs rfl (Nat.le_refl _) hin (fun c _ _ j => by rw [hM0, if_neg (by omega)]) hl hC

theorem c_M_takeAway {l : Launch} {D : va_G} {A : Nat → Prop} {Z : State → Heap → Prop} (hZc : tZ A Z) {J : Nat → Nat} {ca : Nat → ClassId} {code day made : Int32} {M U : Nat → Nat → Int32} {log : Nat → Int32} {lk : Int64} {rest : va_W} {w9 i : Nat} (hw9 : w9 < 2 ^ 31) {rows : List RW} (hag : mA rows M) (h40 : rows.length ≤ 40) (hi : i < rows.length) (hbo : ∀ j, j < rows.length → rw_at rows j 9 = 0 ∨ rw_at rows j 9 = 1) : tM l y_M_takeAway tb ({ frames := 1, cells := 0, slots := 0, locals := 25 }) D cls (ty0 ca) A Z [.ref (J 0), .int (nI i)] (wM J ca code day made (nI rows.length) M U (nI w9) log lk rest) (fun v w2 => v = none ∧ ∃ M2, mA (rw_take rows i) M2 ∧ w2 = wM J ca code day made (nI (rw_take rows i).length) M2 U (nI (w9 + 1)) ((lg_wr (log, w9, lk) day 3 (rw_at rows i 0) (rw_at rows i 1)).1) ((lg_wr (log, w9, lk) day 3 (rw_at rows i 0) (rw_at rows i 1)).2.2) rest) xN := by
  obtain ⟨n, hn⟩ : ∃ n, rows.length = n + 1 := ⟨rows.length - 1, by omega⟩
  have h := c_M_takeAway_n (l := l) (D := D) (A := A) (Z := Z) hZc (J := J) (ca := ca) (code := code) (day := day) (made := made) (M := M) (U := U) (log := log) (lk := lk) (rest := rest) hw9 hag hn h40 (by omega : i ≤ n) hbo
  rw [← hn] at h
  refine t_monoM h ?_ (fun _ _ h => h)
  rintro v w2 ⟨rfl, M2, h1, h2⟩
  refine ⟨rfl, M2, h1, ?_⟩
  rw [h2, rw_take_len hi, hn]
  rfl
