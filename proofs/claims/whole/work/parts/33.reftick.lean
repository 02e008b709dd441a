/-! The reference: go, begin, tick. Laid by program (wip/whole/p33.py) -/
/-- the reference's world, told by its table, its log and its count -/
def wS (J : Nat → Nat) (ca : Nat → ClassId) (code day : Int32) (S : PS) (M U : Nat → Nat → Int32) (rest : va_W) : va_W := wM J ca code day (nI S.2.2) (nI S.1.length) M U (nI S.2.1.2.1) S.2.1.1 S.2.1.2.2 rest
theorem c_M_addS {l : Launch} {D : va_G} {A : Nat → Prop} {Z : State → Heap → Prop} (hZc : tZ A Z) {J : Nat → Nat} {ca : Nat → ClassId} {code day : Int32} {M U : Nat → Nat → Int32} {log : Nat → Int32} {lk : Int64} {rest : va_W} {k9 by9 tg9 : Int32} {w9 ev9 : Nat} (hw9 : w9 < 2 ^ 31) {rows : List RW} (hag : mA rows M) (h40 : rows.length ≤ 40) (hlr : rows.length < 40) {row : RW} (hrw : (row 0 = nI ev9 ∧ row 1 = k9 ∧ row 2 = day ∧ row 3 = by9 ∧ row 4 = tg9 ∧ row 5 = (if 0 < by9 then 0 else -1) ∧ row 7 = 0 ∧ row 8 = 0 ∧ row 9 = 0 ∧ row 10 = 0 ∧ row 11 = 0 ∧ row 12 = 0)) : tM l y_M_add tb ({ frames := 1, cells := 0, slots := 0, locals := 25 }) D cls (ty0 ca) A Z [.ref (J 0), .int k9, .int by9, .int tg9] (wM J ca code day (nI ev9) (nI rows.length) M U (nI w9) log lk rest) (fun v w2 => v = some (.int (nI ev9)) ∧ ∃ M2, mA (p_add day row (rows, (log, w9, lk), ev9)).1 M2 ∧ w2 = wS J ca code day (p_add day row (rows, (log, w9, lk), ev9)) M2 U rest) xN := by
  have h := c_M_add (l := l) (D := D) (A := A) (Z := Z) hZc (J := J) (ca := ca) (code := code) (day := day) (made := nI ev9) (M := M) (U := U) (log := log) (lk := lk) (rest := rest) hw9 hag h40 hlr hrw
  refine t_monoM h ?_ (fun _ _ h => h)
  rintro v w2 ⟨h1, M2, h2, h3⟩
  refine ⟨h1, M2, h2, ?_⟩
  have kd : (if row 5 = -1 then (2 : Int32) else 1) = if 0 < by9 then 1 else 2 := by
    rw [hrw.2.2.2.2.2.1]
    by_cases hb : 0 < by9
    · rw [if_pos hb, if_pos hb]; decide
    · rw [if_neg hb, if_neg hb]; decide
  rw [h3]
  show _ = wM J ca code day (nI (ev9 + 1)) (nI (rw_add rows day row).length) M2 U (nI (w9 + 1)) (lg_wr (log, w9, lk) day (if row 5 = -1 then 2 else 1) (row 0) (row 1)).1 (lg_wr (log, w9, lk) day (if row 5 = -1 then 2 else 1) (row 0) (row 1)).2.2 rest
  rw [rw_add_len, nI_1, hrw.1, hrw.2.1, kd]
theorem c_M_takeAwayS {l : Launch} {D : va_G} {A : Nat → Prop} {Z : State → Heap → Prop} (hZc : tZ A Z) {J : Nat → Nat} {ca : Nat → ClassId} {code day : Int32} {M U : Nat → Nat → Int32} {log : Nat → Int32} {lk : Int64} {rest : va_W} {w9 ev9 i : Nat} (hw9 : w9 < 2 ^ 31) {rows : List RW} (hag : mA rows M) (h40 : rows.length ≤ 40) (hi : i < rows.length) (hbo : ∀ j, j < rows.length → kO (rw_at rows j)) : tM l y_M_takeAway tb ({ frames := 1, cells := 0, slots := 0, locals := 25 }) D cls (ty0 ca) A Z [.ref (J 0), .int (nI i)] (wM J ca code day (nI ev9) (nI rows.length) M U (nI w9) log lk rest) (fun v w2 => v = none ∧ ∃ M2, mA (p_take day i (rows, (log, w9, lk), ev9)).1 M2 ∧ w2 = wS J ca code day (p_take day i (rows, (log, w9, lk), ev9)) M2 U rest) xN :=
  c_M_takeAway (l := l) (D := D) (A := A) (Z := Z) hZc (J := J) (ca := ca) (code := code) (day := day) (made := nI ev9) (M := M) (U := U) (log := log) (lk := lk) (rest := rest) hw9 hag h40 hi (fun j hj => (hbo j hj).1)

theorem mA_set {rows : List RW} {M M2 : Nat → Nat → Int32} {i c : Nat} {x : Int32} (hag : mA rows M) (hi : i < rows.length) (h : va_up M c (upd (M c) i x) = M2) : mA (rows.set i (upd (rw_at rows i) c x)) M2 := by
  intro j hj d hd h6
  rw [List.length_set] at hj
  rw [rw_at_set hi]
  by_cases ec : d = c
  · subst ec
    rw [up_eq h]
    by_cases e : j = i
    · rw [if_pos e, e, pk_us, rw_upd_eq]
    · rw [if_neg e, pk_un e]; exact hag j hj d hd h6
  · rw [up_ne h ec, hag j hj d hd h6]
    by_cases e : j = i
    · rw [if_pos e, rw_upd_ne ec, e]
    · rw [if_neg e]
theorem drop_r {Rs : List RW} (h : Rs.length = 6) {r : Nat} (hr : r < 6) : Rs.drop r = rw_at Rs r :: Rs.drop (r + 1) := by
  rw [List.drop_eq_getElem_cons (by omega), rw_at_get (by omega)]
theorem cool_no {day : Int32} {i : Nat} {t : Int32} {S : PS} (h : ¬ rw_at S.1 i 5 < t) : p_cool day i t S = S := if_neg h
theorem cool_yes {day : Int32} {i : Nat} {t : Int32} {S : PS} (h : rw_at S.1 i 5 < t) : p_cool day i t S = (S.1.set i (upd (rw_at S.1 i) 5 t), lg_wr S.2.1 day 4 (rw_at S.1 i 0) t, S.2.2) := if_pos h

set_option maxRecDepth 100000 in
set_option maxHeartbeats 4000000 in
theorem c_M_go {l : Launch} {D : va_G} {A : Nat → Prop} {Z : State → Heap → Prop} (hZc : tZ A Z) {J : Nat → Nat} {ca : Nat → ClassId} {code day : Int32} {M U : Nat → Nat → Int32} {log : Nat → Int32} {lk : Int64} {rest : va_W} {rows : List RW} {w9 ev9 i : Nat} (hag : mA rows M) (hPI : PI (rows, (log, w9, lk), ev9)) (hi : i < rows.length) (h5 : ¬ rw_at rows i 5 = -1) {Rs : List RW} (huA : uA Rs U) (hrI : rI Rs) (hRs : Rs.length = 6) (hw6 : w9 + 6 < 2 ^ 31) {T : PS × Bool} (hT : p_rules day i Rs (rows, (log, w9, lk), ev9) = T) : tM l y_M_go tb ({ frames := 4, cells := 0, slots := 0, locals := 88 }) D cls (ty0 ca) A Z [.ref (J 0), .int (nI i)] (wM J ca code day (nI ev9) (nI rows.length) M U (nI w9) log lk rest) (fun v w2 => v = none ∧ ∃ M2, mA T.1.1 M2 ∧ w2 = wS J ca code day T.1 M2 U rest) (xN) := by
  refine t_ofW (by decide) w_781 (Nat.le_of_ble_eq_true rfl) ?_
  intro p e s m below meth c ls hx hb hr hts hown hlk hnm hml hex hl hC
  have hown : s.vm.findClass "RetentionVaultModel" = some m.cls := hown
  have hl : lv_has ls 4 [(0, .ref (J 0)), (1, .int (nI i))] := hl
  refine lv_iconst (v := 1) hx hb d_M_go_0 (by decide) ?_
  refine lv_istore_n (lv' := [(2, .int 1), (0, .ref (J 0)), (1, .int (nI i))]) hx hb d_M_go_1 rfl hl (by decide) rfl (fun ls hl => ?_)
  refine lv_iconst (v := 0) hx hb d_M_go_2 (by decide) ?_
  refine lv_istore_n (lv' := [(3, .int 0), (2, .int 1), (0, .ref (J 0)), (1, .int (nI i))]) hx hb d_M_go_3 rfl hl (by decide) rfl (fun ls hl => ?_)
  have loop : ∀ (z r : Nat) (rows : List RW) (M : Nat → Nat → Int32) (w9 : Nat) (log : Nat → Int32) (lk : Int64) (ls : Array Slot) (H : Heap) (locs : List Loc), 6 - r = z → r ≤ 6 → mA rows M → PI (rows, (log, w9, lk), ev9) → i < rows.length → ¬ rw_at rows i 5 = -1 → w9 + (6 - r) < 2 ^ 31 → p_rules day i (Rs.drop r) (rows, (log, w9, lk), ev9) = T → lv_has ls 4 [(3, .int (nI r)), (2, .int 1), (0, .ref (J 0)), (1, .int (nI i))] → tC D cls (ty0 ca) A Z s (wM J ca code day (nI ev9) (nI rows.length) M U (nI w9) log lk rest) H locs → tB p l e ({ frames := 4, cells := 0, slots := 0, locals := 88 }) s m [.ref (J 0), .int (nI i)] below meth c D (ty0 ca) A Z (fun v w2 => v = none ∧ ∃ M2, mA T.1.1 M2 ∧ w2 = wS J ca code day T.1 M2 U rest) (xN) H locs 0 0 (F0 m 4 ls []) := by
    intro z
    induction z using Nat.strongRecOn with
    | ind z ih =>
      intro r rows M w9 log lk ls H locs hz hr9 hag hPI hi h5 hw6 hP hl hC
      have h40 : rows.length ≤ 40 := hPI.1
      have hcu : rw_CurOK rows := hPI.2.1
      refine lv_iload_n hx hb d_M_go_4 rfl (lv_at hl 0 rfl) ?_
      refine lv_bipush (v := 6) hx hb d_M_go_5 (by decide) ?_
      refine lv_icmp_ge (tgt := 139) hx hb d_M_go_7 (by decide) (fun c7 => ?_) (fun c7 => ?_)
      · skip
        have hr6 : r = 6 := Nat.le_antisymm hr9 ((nI_leI (by omega) (by omega)).mp (show nI 6 ≤ nI r from c7))
        rw [hr6, ← hRs, List.drop_length] at hP
        have hTe : T = ((rows, (log, w9, lk), ev9), false) := hP.symm
        exact t_vret hx hb hr hlk hZc hC (⟨rfl, M, by rw [hTe]; exact hag, by rw [hTe]; rfl⟩) (Nat.le_of_ble_eq_true rfl) (Nat.le_of_ble_eq_true rfl) d_M_go_139
      · skip
        have hr6 : r < 6 := Nat.not_le.mp (fun h => c7 ((nI_leI (by omega) (by omega)).mpr h : nI 6 ≤ nI r))
        rw [drop_r hRs hr6] at hP
        have hU3 := huA r hr6 3 (by decide)
        have hw9 : w9 < 2 ^ 31 := by omega
        refine lv_iload_n hx hb d_M_go_10 rfl (lv_at hl 1 rfl) ?_
        refine lv_if_eq (tgt := 139) hx hb d_M_go_11 (by decide) (fun c11 => ?_) (fun c11 => ?_)
        · first | exact absurd c11 (by decide) | exact absurd (by decide) c11
        · skip
          refine lv_aload_n hx hb d_M_go_14 rfl (lv_at hl 2 rfl) ?_
          refine lv_iload_n hx hb d_M_go_15 rfl (lv_at hl 0 rfl) ?_
          refine lv_iload_n hx hb d_M_go_16 rfl (lv_at hl 3 rfl) ?_
          refine t_call (t_invV (As := [.int (nI r), .int (nI i)]) (rest := []) hx hb hown (hts _ w_782) (hts _ w_784) (hts _ s_M_isDue) (hts _ w_785) ⟨by decide, by decide⟩ (t_recv (q0 := 0) hC rfl rfl) rfl d_M_go_17) (c_M_isDue hZc hag h40 hcu hi huA hrI hr6) hZc tb_good hts w_7 hC (hl.1.trans hml.symm) ⟨Nat.le_of_ble_eq_true rfl, Nat.le_of_ble_eq_true rfl, Nat.le_of_ble_eq_true rfl, Nat.le_of_ble_eq_true rfl⟩ (Nat.le_of_ble_eq_true rfl) (fun E q ce w1 H1 l1 hp => hp.elim) (fun v w1 H locs hp hC => ?_)
          obtain ⟨rfl, hwe9⟩ := hp
          rw [hwe9] at hC
          have hC : tC D cls (ty0 ca) A Z s (wM J ca code day (nI ev9) (nI rows.length) M U (nI w9) log lk rest) H locs := hC
          refine W.eq (g2 := F0 m 20 ls [.int (bI (p_due (rw_at Rs r) (rw_at rows i) day))]) rfl ?_
          refine lv_if_ne (tgt := 26) hx hb d_M_go_20 (by decide) (fun c20 => ?_) (fun c20 => ?_)
          · skip
            refine lv_aload_n hx hb d_M_go_26 rfl (lv_at hl 2 rfl) ?_
            refine t_get (v := .ref (J 13)) hx hb hts inM hown hC 0 rfl rfl 16 (by decide) (hts _ w_653) (fun _ h => h) rfl d_M_go_27 ?_
            refine lv_iload_n hx hb d_M_go_30 rfl (lv_at hl 0 rfl) ?_
            refine t_ialdN (k := r) hx hb hC 13 0 rfl rfl (by omega) (by decide) d_M_go_31 ?_
            refine lv_iconst (v := 4) hx hb d_M_go_32 (by decide) ?_
            refine lv_icmp_ge (tgt := 83) hx hb d_M_go_33 (by decide) (fun c33 => ?_) (fun c33 => ?_)
            · skip
              have h4 : rw_at Rs r 3 = 4 := Int32.le_antisymm (hrI r hr6).2.1 (by rw [← hU3]; exact c33)
              refine lv_aload_n hx hb d_M_go_83 rfl (lv_at hl 2 rfl) ?_
              refine lv_iload_n hx hb d_M_go_84 rfl (lv_at hl 3 rfl) ?_
              refine t_call (t_invV (As := [.int (nI i)]) (rest := []) hx hb hown (hts _ w_786) (hts _ w_788) (hts _ s_M_isCurrent) (hts _ w_789) ⟨by decide, by decide⟩ (t_recv (q0 := 0) hC rfl rfl) rfl d_M_go_85) (c_M_isCurrent hZc hag h40 hcu hi) hZc tb_good hts w_7 hC (hl.1.trans hml.symm) ⟨Nat.le_of_ble_eq_true rfl, Nat.le_of_ble_eq_true rfl, Nat.le_of_ble_eq_true rfl, Nat.le_of_ble_eq_true rfl⟩ (Nat.le_of_ble_eq_true rfl) (fun E q ce w1 H1 l1 hp => hp.elim) (fun v w1 H locs hp hC => ?_)
              obtain ⟨rfl, hwe9⟩ := hp
              rw [hwe9] at hC
              have hC : tC D cls (ty0 ca) A Z s (wM J ca code day (nI ev9) (nI rows.length) M U (nI w9) log lk rest) H locs := hC
              refine W.eq (g2 := F0 m 88 ls [.int (rw_at rows i 6)]) rfl ?_
              refine lv_if_eq (tgt := 118) hx hb d_M_go_88 (by decide) (fun c88 => ?_) (fun c88 => ?_)
              · skip
                refine lv_aload_n hx hb d_M_go_118 rfl (lv_at hl 2 rfl) ?_
                refine lv_iload_n hx hb d_M_go_119 rfl (lv_at hl 3 rfl) ?_
                refine t_call (t_invV (As := [.int (nI i)]) (rest := []) hx hb hown (hts _ w_794) (hts _ w_796) (hts _ s_M_isGuarded) (hts _ w_797) ⟨by decide, by decide⟩ (t_recv (q0 := 0) hC rfl rfl) rfl d_M_go_120) (c_M_isGuarded hZc hag h40 hi) hZc tb_good hts w_7 hC (hl.1.trans hml.symm) ⟨Nat.le_of_ble_eq_true rfl, Nat.le_of_ble_eq_true rfl, Nat.le_of_ble_eq_true rfl, Nat.le_of_ble_eq_true rfl⟩ (Nat.le_of_ble_eq_true rfl) (fun E q ce w1 H1 l1 hp => hp.elim) (fun v w1 H locs hp hC => ?_)
                obtain ⟨rfl, hwe9⟩ := hp
                rw [hwe9] at hC
                have hC : tC D cls (ty0 ca) A Z s (wM J ca code day (nI ev9) (nI rows.length) M U (nI w9) log lk rest) H locs := hC
                refine W.eq (g2 := F0 m 123 ls [.int (bI (p_grd (rw_at rows i) day))]) rfl ?_
                refine lv_if_ne (tgt := 133) hx hb d_M_go_123 (by decide) (fun c123 => ?_) (fun c123 => ?_)
                · skip
                  refine lv_iinc (k := 0) (v := nI (r + 1)) (lv' := [(3, .int (nI (r + 1))), (2, .int 1), (0, .ref (J 0)), (1, .int (nI i))]) hx hb d_M_go_133 hl rfl (nI_1 r) (by decide) rfl (fun ls hl => ?_)
                  refine lv_goto (tgt := 4) hx hb d_M_go_136 (by decide) ?_
                  exact ih (6 - (r + 1)) (by omega) (r + 1) rows M w9 log lk ls H locs rfl (by omega) hag hPI hi h5 (by omega) (pr_grd hP rfl (Classical.not_not.mp (fun q => c20 (bI_ne.mpr q))) h4 c88 (Classical.not_not.mp (fun q => c123 (bI_ne.mpr q)))) (lv_sub hl [0, 1, 2, 3] rfl) hC
                · skip
                  refine lv_aload_n hx hb d_M_go_126 rfl (lv_at hl 2 rfl) ?_
                  refine lv_iload_n hx hb d_M_go_127 rfl (lv_at hl 3 rfl) ?_
                  refine t_call (t_invV (As := [.int (nI i)]) (rest := []) hx hb hown (hts _ w_746) (hts _ w_748) (hts _ s_M_takeAway) (hts _ w_749) ⟨by decide, by decide⟩ (t_recv (q0 := 0) hC rfl rfl) rfl d_M_go_128) (c_M_takeAwayS hZc hw9 hag h40 hi hPI.2.2.1) hZc tb_good hts w_7 hC (hl.1.trans hml.symm) ⟨Nat.le_of_ble_eq_true rfl, Nat.le_of_ble_eq_true rfl, Nat.le_of_ble_eq_true rfl, Nat.le_of_ble_eq_true rfl⟩ (Nat.le_of_ble_eq_true rfl) (fun E q ce w1 H1 l1 hp => hp.elim) (fun v w1 H locs hp hC => ?_)
                  obtain ⟨rfl, M2, hmA2, hwe9⟩ := hp
                  rw [hwe9] at hC
                  have hTe := pr_take hP rfl (Classical.not_not.mp (fun q => c20 (bI_ne.mpr q))) h4 c88 (bI_ne.mp c123)
                  have hC : tC D cls (ty0 ca) A Z s (wM J ca code day (nI (p_take day i (rows, (log, w9, lk), ev9)).2.2) (nI (p_take day i (rows, (log, w9, lk), ev9)).1.length) M2 U (nI (p_take day i (rows, (log, w9, lk), ev9)).2.1.2.1) ((p_take day i (rows, (log, w9, lk), ev9)).2.1.1) ((p_take day i (rows, (log, w9, lk), ev9)).2.1.2.2) rest) H locs := hC
                  refine W.eq (g2 := F0 m 131 ls []) rfl ?_
                  refine lv_iconst (v := 0) hx hb d_M_go_131 (by decide) ?_
                  refine lv_istore_n (lv' := [(2, .int 0), (3, .int (nI r)), (0, .ref (J 0)), (1, .int (nI i))]) hx hb d_M_go_132 rfl hl (by decide) rfl (fun ls hl => ?_)
                  refine lv_iinc (k := 1) (v := nI (r + 1)) (lv' := [(3, .int (nI (r + 1))), (2, .int 0), (0, .ref (J 0)), (1, .int (nI i))]) hx hb d_M_go_133 hl rfl (nI_1 r) (by decide) rfl (fun ls hl => ?_)
                  refine lv_goto (tgt := 4) hx hb d_M_go_136 (by decide) ?_
                  refine lv_iload_n hx hb d_M_go_4 rfl (lv_at hl 0 rfl) ?_
                  refine lv_bipush (v := 6) hx hb d_M_go_5 (by decide) ?_
                  refine lv_icmp_ge (tgt := 139) hx hb d_M_go_7 (by decide) (fun c7 => ?_) (fun c7 => ?_)
                  · skip
                    exact t_vret hx hb hr hlk hZc hC (⟨rfl, M2, by rw [hTe]; exact hmA2, by rw [hTe]; rfl⟩) (Nat.le_of_ble_eq_true rfl) (Nat.le_of_ble_eq_true rfl) d_M_go_139
                  · skip
                    refine lv_iload_n hx hb d_M_go_10 rfl (lv_at hl 1 rfl) ?_
                    refine lv_if_eq (tgt := 139) hx hb d_M_go_11 (by decide) (fun c11 => ?_) (fun c11 => ?_)
                    · skip
                      exact t_vret hx hb hr hlk hZc hC (⟨rfl, M2, by rw [hTe]; exact hmA2, by rw [hTe]; rfl⟩) (Nat.le_of_ble_eq_true rfl) (Nat.le_of_ble_eq_true rfl) d_M_go_139
                    · first | exact absurd c11 (by decide) | exact absurd (by decide) c11
              · skip
                refine lv_aload_n hx hb d_M_go_91 rfl (lv_at hl 2 rfl) ?_
                refine t_get (v := .int (nI rows.length)) hx hb hts inM hown hC 0 rfl rfl 3 (by decide) (hts _ w_640) (fun _ h => h) rfl d_M_go_92 ?_
                refine lv_bipush (v := 40) hx hb d_M_go_95 (by decide) ?_
                refine lv_icmp_ge (tgt := 133) hx hb d_M_go_97 (by decide) (fun c97 => ?_) (fun c97 => ?_)
                · skip
                  have hfull : 40 ≤ rows.length := (nI_leI (by omega) (by omega)).mp (show nI 40 ≤ nI rows.length from c97)
                  refine lv_iinc (k := 0) (v := nI (r + 1)) (lv' := [(3, .int (nI (r + 1))), (2, .int 1), (0, .ref (J 0)), (1, .int (nI i))]) hx hb d_M_go_133 hl rfl (nI_1 r) (by decide) rfl (fun ls hl => ?_)
                  refine lv_goto (tgt := 4) hx hb d_M_go_136 (by decide) ?_
                  exact ih (6 - (r + 1)) (by omega) (r + 1) rows M w9 log lk ls H locs rfl (by omega) hag hPI hi h5 (by omega) (pr_full hP rfl (Classical.not_not.mp (fun q => c20 (bI_ne.mpr q))) h4 c88 hfull) (lv_sub hl [0, 1, 2, 3] rfl) hC
                · skip
                  have hlr : rows.length < 40 := Nat.not_le.mp (fun h => c97 ((nI_leI (by omega) (by omega)).mpr h : nI 40 ≤ nI rows.length))
                  refine lv_aload_n hx hb d_M_go_100 rfl (lv_at hl 2 rfl) ?_
                  refine lv_aload_n hx hb d_M_go_101 rfl (lv_at hl 2 rfl) ?_
                  refine t_get (v := .ref (J 2)) hx hb hts inM hown hC 0 rfl rfl 5 (by decide) (hts _ w_642) (fun _ h => h) rfl d_M_go_102 ?_
                  refine lv_iload_n hx hb d_M_go_105 rfl (lv_at hl 3 rfl) ?_
                  refine t_ialdN (k := i) hx hb hC 2 0 rfl rfl (by omega) (by decide) d_M_go_106 ?_
                  refine W.eq (g2 := F0 m 107 ls [.int (rw_at rows i 1), .ref (J 0)]) (by rw [hag i hi 1 (by decide) (by decide)]) ?_
                  refine lv_iconst (v := 0) hx hb d_M_go_107 (by decide) ?_
                  refine lv_iconst (v := 0) hx hb d_M_go_108 (by decide) ?_
                  refine t_call (t_invV (As := [.int (rw_at rows i 1), .int 0, .int 0]) (rest := []) hx hb hown (hts _ w_717) (hts _ w_719) (hts _ s_M_add) (hts _ w_720) ⟨by decide, by decide⟩ (t_recv (q0 := 0) hC rfl rfl) rfl d_M_go_109) (c_M_addS hZc hw9 hag h40 hlr (row := mkMark (nI ev9) (rw_at rows i 1) day) ⟨rfl, rfl, rfl, rfl, rfl, (if_neg (by decide)).symm, rfl, rfl, rfl, rfl, rfl, rfl⟩) hZc tb_good hts w_7 hC (hl.1.trans hml.symm) ⟨Nat.le_of_ble_eq_true rfl, Nat.le_of_ble_eq_true rfl, Nat.le_of_ble_eq_true rfl, Nat.le_of_ble_eq_true rfl⟩ (Nat.le_of_ble_eq_true rfl) (fun E q ce w1 H1 l1 hp => hp.elim) (fun v w1 H locs hp hC => ?_)
                  obtain ⟨rfl, M2, hmA2, hwe9⟩ := hp
                  rw [hwe9] at hC
                  have hTe := pr_mark hP rfl (Classical.not_not.mp (fun q => c20 (bI_ne.mpr q))) h4 c88 hlr
                  have hC : tC D cls (ty0 ca) A Z s (wM J ca code day (nI (p_add day (mkMark (nI ev9) (rw_at rows i 1) day) (rows, (log, w9, lk), ev9)).2.2) (nI (p_add day (mkMark (nI ev9) (rw_at rows i 1) day) (rows, (log, w9, lk), ev9)).1.length) M2 U (nI (p_add day (mkMark (nI ev9) (rw_at rows i 1) day) (rows, (log, w9, lk), ev9)).2.1.2.1) ((p_add day (mkMark (nI ev9) (rw_at rows i 1) day) (rows, (log, w9, lk), ev9)).2.1.1) ((p_add day (mkMark (nI ev9) (rw_at rows i 1) day) (rows, (log, w9, lk), ev9)).2.1.2.2) rest) H locs := hC
                  refine W.eq (g2 := F0 m 112 ls [.int (nI ev9)]) rfl ?_
                  refine lv_pop hx hb d_M_go_112 rfl ?_
                  refine lv_iconst (v := 0) hx hb d_M_go_113 (by decide) ?_
                  refine lv_istore_n (lv' := [(2, .int 0), (3, .int (nI r)), (0, .ref (J 0)), (1, .int (nI i))]) hx hb d_M_go_114 rfl hl (by decide) rfl (fun ls hl => ?_)
                  refine lv_goto (tgt := 133) hx hb d_M_go_115 (by decide) ?_
                  refine lv_iinc (k := 1) (v := nI (r + 1)) (lv' := [(3, .int (nI (r + 1))), (2, .int 0), (0, .ref (J 0)), (1, .int (nI i))]) hx hb d_M_go_133 hl rfl (nI_1 r) (by decide) rfl (fun ls hl => ?_)
                  refine lv_goto (tgt := 4) hx hb d_M_go_136 (by decide) ?_
                  refine lv_iload_n hx hb d_M_go_4 rfl (lv_at hl 0 rfl) ?_
                  refine lv_bipush (v := 6) hx hb d_M_go_5 (by decide) ?_
                  refine lv_icmp_ge (tgt := 139) hx hb d_M_go_7 (by decide) (fun c7 => ?_) (fun c7 => ?_)
                  · skip
                    exact t_vret hx hb hr hlk hZc hC (⟨rfl, M2, by rw [hTe]; exact hmA2, by rw [hTe]; rfl⟩) (Nat.le_of_ble_eq_true rfl) (Nat.le_of_ble_eq_true rfl) d_M_go_139
                  · skip
                    refine lv_iload_n hx hb d_M_go_10 rfl (lv_at hl 1 rfl) ?_
                    refine lv_if_eq (tgt := 139) hx hb d_M_go_11 (by decide) (fun c11 => ?_) (fun c11 => ?_)
                    · skip
                      exact t_vret hx hb hr hlk hZc hC (⟨rfl, M2, by rw [hTe]; exact hmA2, by rw [hTe]; rfl⟩) (Nat.le_of_ble_eq_true rfl) (Nat.le_of_ble_eq_true rfl) d_M_go_139
                    · first | exact absurd c11 (by decide) | exact absurd (by decide) c11
            · skip
              have h4 : ¬ rw_at Rs r 3 = 4 := fun e => c33 (by rw [hU3, e]; decide)
              refine lv_aload_n hx hb d_M_go_36 rfl (lv_at hl 2 rfl) ?_
              refine t_get (v := .ref (J 13)) hx hb hts inM hown hC 0 rfl rfl 16 (by decide) (hts _ w_653) (fun _ h => h) rfl d_M_go_37 ?_
              refine lv_iload_n hx hb d_M_go_40 rfl (lv_at hl 0 rfl) ?_
              refine t_ialdN (k := r) hx hb hC 13 0 rfl rfl (by omega) (by decide) d_M_go_41 ?_
              refine lv_aload_n hx hb d_M_go_42 rfl (lv_at hl 2 rfl) ?_
              refine t_get (v := .ref (J 7)) hx hb hts inM hown hC 0 rfl rfl 10 (by decide) (hts _ w_647) (fun _ h => h) rfl d_M_go_43 ?_
              refine lv_iload_n hx hb d_M_go_46 rfl (lv_at hl 3 rfl) ?_
              refine t_ialdN (k := i) hx hb hC 7 0 rfl rfl (by omega) (by decide) d_M_go_47 ?_
              refine lv_icmp_le (tgt := 133) hx hb d_M_go_48 (by decide) (fun c48 => ?_) (fun c48 => ?_)
              · skip
                refine lv_iinc (k := 0) (v := nI (r + 1)) (lv' := [(3, .int (nI (r + 1))), (2, .int 1), (0, .ref (J 0)), (1, .int (nI i))]) hx hb d_M_go_133 hl rfl (nI_1 r) (by decide) rfl (fun ls hl => ?_)
                refine lv_goto (tgt := 4) hx hb d_M_go_136 (by decide) ?_
                have hP := pr_cool hP rfl (Classical.not_not.mp (fun q => c20 (bI_ne.mpr q))) h4
                have hPc := PI_cool (day := day) hPI hi h5 (hrI r hr6) ((Classical.not_not.mp (fun q => c20 (bI_ne.mpr q)))).1 h4
                rw [cool_no (by rw [← hU3, show rw_at rows i 5 = M 5 i from (hag i hi 5 (by decide) (by decide)).symm]; exact Int32.not_lt.mpr c48)] at hP
                exact ih (6 - (r + 1)) (by omega) (r + 1) rows M w9 log lk ls H locs rfl (by omega) hag hPI hi h5 (by omega) (hP) (lv_sub hl [0, 1, 2, 3] rfl) hC
              · skip
                refine lv_aload_n hx hb d_M_go_51 rfl (lv_at hl 2 rfl) ?_
                refine t_get (v := .ref (J 7)) hx hb hts inM hown hC 0 rfl rfl 10 (by decide) (hts _ w_647) (fun _ h => h) rfl d_M_go_52 ?_
                refine lv_iload_n hx hb d_M_go_55 rfl (lv_at hl 3 rfl) ?_
                refine lv_aload_n hx hb d_M_go_56 rfl (lv_at hl 2 rfl) ?_
                refine t_get (v := .ref (J 13)) hx hb hts inM hown hC 0 rfl rfl 16 (by decide) (hts _ w_653) (fun _ h => h) rfl d_M_go_57 ?_
                refine lv_iload_n hx hb d_M_go_60 rfl (lv_at hl 0 rfl) ?_
                refine t_ialdN (k := r) hx hb hC 13 0 rfl rfl (by omega) (by decide) d_M_go_61 ?_
                refine t_iastN (k := i) hx hb hC 7 0 rfl rfl (by omega) (by decide) d_M_go_62 (fun H locs hC => ?_)
                have hC : tC D cls (ty0 ca) A Z s (wM J ca code day (nI ev9) (nI rows.length) (va_up M 5 (upd (M 5) i (U 3 r))) U (nI w9) log lk rest) H locs := hC
                refine gM hC (fun Mg1 hMg1 hC => ?_)
                refine lv_aload_n hx hb d_M_go_63 rfl (lv_at hl 2 rfl) ?_
                refine lv_iconst (v := 4) hx hb d_M_go_64 (by decide) ?_
                refine lv_aload_n hx hb d_M_go_65 rfl (lv_at hl 2 rfl) ?_
                refine t_get (v := .ref (J 1)) hx hb hts inM hown hC 0 rfl rfl 4 (by decide) (hts _ w_641) (fun _ h => h) rfl d_M_go_66 ?_
                refine lv_iload_n hx hb d_M_go_69 rfl (lv_at hl 3 rfl) ?_
                refine t_ialdN (k := i) hx hb hC 1 0 rfl rfl (by omega) (by decide) d_M_go_70 ?_
                refine lv_aload_n hx hb d_M_go_71 rfl (lv_at hl 2 rfl) ?_
                refine t_get (v := .ref (J 13)) hx hb hts inM hown hC 0 rfl rfl 16 (by decide) (hts _ w_653) (fun _ h => h) rfl d_M_go_72 ?_
                refine lv_iload_n hx hb d_M_go_75 rfl (lv_at hl 0 rfl) ?_
                refine t_ialdN (k := r) hx hb hC 13 0 rfl rfl (by omega) (by decide) d_M_go_76 ?_
                refine t_call (t_invV (As := [.int 4, .int (Mg1 0 i), .int (U 3 r)]) (rest := []) hx hb hown (hts _ w_725) (hts _ w_727) (hts _ s_M_enter) (hts _ w_728) ⟨by decide, by decide⟩ (t_recv (q0 := 0) hC rfl rfl) rfl d_M_go_77) (c_M_enter hZc hw9) hZc tb_good hts w_7 hC (hl.1.trans hml.symm) ⟨Nat.le_of_ble_eq_true rfl, Nat.le_of_ble_eq_true rfl, Nat.le_of_ble_eq_true rfl, Nat.le_of_ble_eq_true rfl⟩ (Nat.le_of_ble_eq_true rfl) (fun E q ce w1 H1 l1 hp => hp.elim) (fun v w1 H locs hp hC => ?_)
                obtain ⟨rfl, hwe9⟩ := hp
                rw [hwe9] at hC
                have hC : tC D cls (ty0 ca) A Z s (wM J ca code day (nI ev9) (nI rows.length) Mg1 U (nI (w9 + 1)) ((lg_wr (log, w9, lk) day 4 (Mg1 0 i) (U 3 r)).1) ((lg_wr (log, w9, lk) day 4 (Mg1 0 i) (U 3 r)).2.2) rest) H locs := hC
                refine W.eq (g2 := F0 m 80 ls []) rfl ?_
                refine lv_goto (tgt := 133) hx hb d_M_go_80 (by decide) ?_
                refine lv_iinc (k := 0) (v := nI (r + 1)) (lv' := [(3, .int (nI (r + 1))), (2, .int 1), (0, .ref (J 0)), (1, .int (nI i))]) hx hb d_M_go_133 hl rfl (nI_1 r) (by decide) rfl (fun ls hl => ?_)
                refine lv_goto (tgt := 4) hx hb d_M_go_136 (by decide) ?_
                have hP := pr_cool hP rfl (Classical.not_not.mp (fun q => c20 (bI_ne.mpr q))) h4
                have hPc := PI_cool (day := day) hPI hi h5 (hrI r hr6) ((Classical.not_not.mp (fun q => c20 (bI_ne.mpr q)))).1 h4
                have hyes := cool_yes (day := day) (i := i) (t := rw_at Rs r 3) (S := (rows, (log, w9, lk), ev9)) (by show rw_at rows i 5 < _; rw [← hU3, ← hag i hi 5 (by decide) (by decide)]; exact Int32.not_le.mp c48)
                rw [hyes] at hP hPc
                have hn0 : Mg1 0 i = rw_at rows i 0 := by rw [show Mg1 0 = M 0 from up_ne hMg1 (by decide)]; exact hag i hi 0 (by decide) (by decide)
                rw [hU3] at hMg1
                rw [hn0, hU3] at hC
                exact ih (6 - (r + 1)) (by omega) (r + 1) (rows.set i (upd (rw_at rows i) 5 (rw_at Rs r 3))) Mg1 (w9 + 1) (lg_wr (log, w9, lk) day 4 (rw_at rows i 0) (rw_at Rs r 3)).1 (lg_wr (log, w9, lk) day 4 (rw_at rows i 0) (rw_at Rs r 3)).2.2 ls H locs rfl (by omega) (mA_set hag hi hMg1) hPc.1 (by rw [List.length_set]; exact hi) hPc.2.2.1 (by omega) hP (lv_sub hl [0, 1, 2, 3] rfl) (by rw [List.length_set]; exact hC)
          · skip
            refine lv_goto (tgt := 133) hx hb d_M_go_23 (by decide) ?_
            refine lv_iinc (k := 0) (v := nI (r + 1)) (lv' := [(3, .int (nI (r + 1))), (2, .int 1), (0, .ref (J 0)), (1, .int (nI i))]) hx hb d_M_go_133 hl rfl (nI_1 r) (by decide) rfl (fun ls hl => ?_)
            refine lv_goto (tgt := 4) hx hb d_M_go_136 (by decide) ?_
            exact ih (6 - (r + 1)) (by omega) (r + 1) rows M w9 log lk ls H locs rfl (by omega) hag hPI hi h5 (by omega) (pr_not hP rfl (bI_ne.mp c20)) (lv_sub hl [0, 1, 2, 3] rfl) hC
  exact loop _ 0 rows M w9 log lk ls _ _ rfl (by omega) hag hPI hi h5 (by omega) hT hl hC

/-- the first k are older than the day, the others not -/
def bO (e0 : Nat) (rows : List RW) (k : Nat) : Prop := k ≤ rows.length ∧ (∀ j, j < k → rw_at rows j 0 < nI e0) ∧ ∀ j, k ≤ j → j < rows.length → ¬ rw_at rows j 0 < nI e0
theorem bO_start {S : PS} (h : PI S) (hev : S.2.2 < 2 ^ 31) : bO S.2.2 S.1 S.1.length := by
  refine ⟨Nat.le_refl _, fun j hj => ?_, fun j h1 h2 => absurd h2 (Nat.not_lt.mpr h1)⟩
  obtain ⟨n, h1, h2⟩ := h.2.2.2.1 j hj
  rw [h1]
  exact nI_lt h2 hev
theorem bO_rules {day : Int32} {i lf e0 : Nat} {Rs : List RW} {S S1 : PS} {g : Bool} (h : PI S) (hi : i < S.1.length) (h5 : ¬ rw_at S.1 i 5 = -1) (hRs : ∀ R ∈ Rs, rOK R) (hev : S.2.2 < 2 ^ 31) (he : e0 ≤ S.2.2) (hb : bO e0 S.1 (i + (lf + 1))) (h1 : p_rules day i Rs S = (S1, g)) :
    PI S1 ∧ S1.2.2 + pot S1.1 = S.2.2 + pot S.1 ∧ (g = false → bO e0 S1.1 (i + 1 + lf) ∧ i < S1.1.length ∧ rw_at S1.1 i 0 = rw_at S.1 i 0) ∧ (g = true → bO e0 S1.1 (i + lf) ∧ (i < S1.1.length → ¬ rw_at S1.1 i 0 = rw_at S.1 i 0)) := by
  obtain ⟨a1, a2, a3, a4⟩ := PI_rules (day := day) h hi h5 hRs hev
  have hl := p_rules_len (day := day) (i := i) (Rs := Rs) (S := S) hi h.1
  rw [h1] at a1 a2 a3 a4 hl
  refine ⟨a1, a2, fun hg => ?_, fun hg => ?_⟩
  · obtain ⟨b1, b2⟩ := a3 hg
    have hl2 : S.1.length ≤ S1.1.length := hl.2.1 hg
    have hk := hb.1
    refine ⟨⟨by omega, fun j hj => ?_, fun j hj hj2 => ?_⟩, by omega, b1 i hi⟩
    · rw [b1 j (by omega)]; exact hb.2.1 j (by omega)
    · by_cases e : j < S.1.length
      · rw [b1 j e]; exact hb.2.2 j (by omega) e
      · rw [b2 j (by omega) hj2]
        exact fun q => absurd ((nI_ltI (by omega) (by omega)).mp q) (by omega)
  · have b1 : ∀ j, rw_at S1.1 j 0 = rw_at S.1 (rw_up i j) 0 := a4 hg
    have hl2 : S1.1.length + 1 = S.1.length := hl.2.2 hg
    have hk := hb.1
    refine ⟨⟨by omega, fun j hj => ?_, fun j hj hj2 => ?_⟩, fun hi2 e => ?_⟩
    · rw [b1 j]; exact hb.2.1 _ (by unfold rw_up; split <;> omega)
    · rw [b1 j]; exact hb.2.2 _ (by unfold rw_up; split <;> omega) (by unfold rw_up; split <;> omega)
    · rw [b1 i] at e
      have h9 := h.2.2.2.2 i (rw_up i i) (by unfold rw_up; split <;> omega) (by unfold rw_up; split <;> omega)
      rw [e] at h9
      exact Int32.lt_irrefl h9
theorem rI_all {Rs : List RW} (h : rI Rs) (hl : Rs.length = 6) : ∀ R ∈ Rs, rOK R := by
  intro R hR
  obtain ⟨j, hj, he⟩ := List.getElem_of_mem hR
  have := h j (by omega)
  rw [rw_at_get hj, he] at this
  exact this
theorem rw_num_two {rows : List RW} {key : Int32} {j k : Nat} (hjk : j < k) (hj : rw_at rows j 1 = key) (hk : rw_at rows k 1 = key) : ∀ {n : Nat}, (j < n → 1 ≤ rw_num rows key n) ∧ (k < n → 2 ≤ rw_num rows key n) := by
  intro n
  induction n with
  | zero => exact ⟨fun h => absurd h (Nat.not_lt_zero _), fun h => absurd h (Nat.not_lt_zero _)⟩
  | succ n ih =>
    unfold rw_num
    constructor
    · intro h
      by_cases e : j = n
      · rw [← e, if_pos hj]; omega
      · have := ih.1 (by omega); omega
    · intro h
      by_cases e : k = n
      · have := ih.1 (by omega)
        rw [← e, if_pos hk]; rw [← e] at this; omega
      · have := ih.2 (by omega); omega
theorem rw_num_one {rows : List RW} {i : Nat} (ha : rw_alone rows i) : ∀ {n : Nat}, n ≤ rows.length → rw_num rows (rw_at rows i 1) n = if i < n then 1 else 0 := by
  intro n
  induction n with
  | zero => intro _; rfl
  | succ n ih =>
    intro hn
    unfold rw_num
    rw [ih (by omega)]
    by_cases e : n = i
    · subst e
      rw [if_neg (Nat.lt_irrefl _), if_pos rfl, if_pos (Nat.lt_succ_self _)]
    · rw [if_neg (ha n (by omega) e)]
      by_cases e2 : i < n
      · rw [if_pos e2, if_pos (by omega)]
      · rw [if_neg e2, if_neg (by omega)]
theorem rw_num_alone {rows : List RW} {i : Nat} (hi : i < rows.length) : rw_num rows (rw_at rows i 1) rows.length = 1 ↔ rw_alone rows i := by
  constructor
  · intro h j hj hne he
    by_cases e : j < i
    · have := (rw_num_two e he rfl (n := rows.length)).2 hi; omega
    · have := (rw_num_two (show i < j by omega) rfl he (n := rows.length)).2 hj; omega
  · intro h
    rw [rw_num_one h (Nat.le_refl _), if_pos hi]
theorem nI_one {n : Nat} (h : n ≤ 40) : nI n = 1 ↔ n = 1 := (nI_eq (a := n) (b := 1) (by omega) (by omega))

set_option maxRecDepth 100000 in
set_option maxHeartbeats 4000000 in
theorem c_M_begin {l : Launch} {D : va_G} {A : Nat → Prop} {Z : State → Heap → Prop} (hZc : tZ A Z) {J : Nat → Nat} {ca : Nat → ClassId} {code day : Int32} {M U : Nat → Nat → Int32} {log : Nat → Int32} {lk : Int64} {rest : va_W} {rows : List RW} {w9 ev9 : Nat} (hag : mA rows M) (hPI : PI (rows, (log, w9, lk), ev9)) (hevp : ev9 + pot rows < 2 ^ 31) {Rs : List RW} (huA : uA Rs U) (hrI : rI Rs) (hRs : Rs.length = 6) (hw6 : w9 + 280 < 2 ^ 31) {T : PS} (hT : p_day Rs (day + 1) (rows, (log, w9, lk), ev9) = T) : tM l y_M_begin tb ({ frames := 5, cells := 0, slots := 0, locals := 111 }) D cls (ty0 ca) A Z [.ref (J 0)] (wM J ca code day (nI ev9) (nI rows.length) M U (nI w9) log lk rest) (fun v w2 => v = none ∧ ∃ M2, mA T.1 M2 ∧ w2 = wS J ca code (day + 1) T M2 U rest) (xN) := by
  refine t_ofW (by decide) w_777 (Nat.le_of_ble_eq_true rfl) ?_
  intro p e s m below meth c ls hx hb hr hts hown hlk hnm hml hex hl hC
  have hown : s.vm.findClass "RetentionVaultModel" = some m.cls := hown
  have hl : lv_has ls 4 [(0, .ref (J 0))] := hl
  have h40 : rows.length ≤ 40 := hPI.1
  refine lv_aload_n hx hb d_M_begin_0 rfl (lv_at hl 0 rfl) ?_
  refine lv_dup hx hb d_M_begin_1 rfl ?_
  refine t_get (v := .int day) hx hb hts inM hown hC 0 rfl rfl 1 (by decide) (hts _ w_638) (fun _ h => h) rfl d_M_begin_2 ?_
  refine lv_iconst (v := 1) hx hb d_M_begin_5 (by decide) ?_
  refine lv_iadd hx hb d_M_begin_6 ?_
  refine t_put (ty := .int) (v := .int (day + 1)) hx hb hts inM TM tyM nmM hown hC 0 rfl rfl 1 (by decide) (hts _ w_638) (fun _ h => h) rfl (by decide +kernel) rfl rfl (Nat.le_of_ble_eq_true rfl) d_M_begin_7 (fun H locs hC => ?_)
  have hC : tC D cls (ty0 ca) A Z s (wM J ca code (day + 1) (nI ev9) (nI rows.length) M U (nI w9) log lk rest) H locs := hC
  refine lv_aload_n hx hb d_M_begin_10 rfl (lv_at hl 0 rfl) ?_
  refine t_get (v := .int (nI ev9)) hx hb hts inM hown hC 0 rfl rfl 2 (by decide) (hts _ w_639) (fun _ h => h) rfl d_M_begin_11 ?_
  refine lv_istore_n (lv' := [(1, .int (nI ev9)), (0, .ref (J 0))]) hx hb d_M_begin_14 rfl hl (by decide) rfl (fun ls hl => ?_)
  refine lv_iconst (v := 0) hx hb d_M_begin_15 (by decide) ?_
  refine lv_istore_n (lv' := [(2, .int 0), (1, .int (nI ev9)), (0, .ref (J 0))]) hx hb d_M_begin_16 rfl hl (by decide) rfl (fun ls hl => ?_)
  obtain ⟨T1, hT1⟩ : ∃ z, p_vers Rs (day + 1) rows.length 0 (rows, (log, w9, lk), ev9) = z := ⟨_, rfl⟩
  have hT2 : p_lone (day + 1) T1.1.length 0 T1 = T := by rw [← hT1]; exact hT
  obtain ⟨e9, he9⟩ : ∃ z, z = ev9 := ⟨_, rfl⟩
  rw [← he9] at hl
  have loop2 : ∀ (lf i : Nat) (rows : List RW) (M : Nat → Nat → Int32) (w9 : Nat) (log : Nat → Int32) (lk : Int64) (ev9 : Nat) (ls : Array Slot) (H : Heap) (locs : List Loc), mA rows M → PI (rows, (log, w9, lk), ev9) → i + lf = rows.length → w9 + lf < 2 ^ 31 → p_lone (day + 1) lf i (rows, (log, w9, lk), ev9) = T → lv_has ls 4 [(2, .int (nI i)), (0, .ref (J 0))] → tC D cls (ty0 ca) A Z s (wM J ca code (day + 1) (nI ev9) (nI rows.length) M U (nI w9) log lk rest) H locs → tB p l e ({ frames := 5, cells := 0, slots := 0, locals := 111 }) s m [.ref (J 0)] below meth c D (ty0 ca) A Z (fun v w2 => v = none ∧ ∃ M2, mA T.1 M2 ∧ w2 = wS J ca code (day + 1) T M2 U rest) (xN) H locs 0 0 (F0 m 87 ls []) := by
    intro lf
    induction lf with
    | zero =>
      intro i rows M w9 log lk ev9 ls H locs hag hPI hle hw6 hPL hl hC
      have h40 : rows.length ≤ 40 := hPI.1
      have hTe : T = (rows, (log, w9, lk), ev9) := hPL.symm
      refine lv_iload_n hx hb d_M_begin_87 rfl (lv_at hl 0 rfl) ?_
      refine lv_aload_n hx hb d_M_begin_88 rfl (lv_at hl 1 rfl) ?_
      refine t_get (v := .int (nI rows.length)) hx hb hts inM hown hC 0 rfl rfl 3 (by decide) (hts _ w_640) (fun _ h => h) rfl d_M_begin_89 ?_
      refine lv_icmp_ge (tgt := 132) hx hb d_M_begin_92 (by decide) (fun c92 => ?_) (fun c92 => ?_)
      · skip
        exact t_vret hx hb hr hlk hZc hC (⟨rfl, M, by rw [hTe]; exact hag, by rw [hTe]; rfl⟩) (Nat.le_of_ble_eq_true rfl) (Nat.le_of_ble_eq_true rfl) d_M_begin_132
      · exact absurd ((nI_leI (by omega) (by omega)).mpr (by omega)) c92
    | succ lf ih =>
      intro i rows M w9 log lk ev9 ls H locs hag hPI hle hw6 hPL hl hC
      have h40 : rows.length ≤ 40 := hPI.1
      have hw9 : w9 < 2 ^ 31 := by omega
      have hi : i < rows.length := by omega
      refine lv_iload_n hx hb d_M_begin_87 rfl (lv_at hl 0 rfl) ?_
      refine lv_aload_n hx hb d_M_begin_88 rfl (lv_at hl 1 rfl) ?_
      refine t_get (v := .int (nI rows.length)) hx hb hts inM hown hC 0 rfl rfl 3 (by decide) (hts _ w_640) (fun _ h => h) rfl d_M_begin_89 ?_
      refine lv_icmp_ge (tgt := 132) hx hb d_M_begin_92 (by decide) (fun c92 => ?_) (fun c92 => ?_)
      · exact absurd ((nI_leI (by omega) (by omega)).mp c92) (by omega)
      · skip
        refine lv_aload_n hx hb d_M_begin_95 rfl (lv_at hl 1 rfl) ?_
        refine t_get (v := .ref (J 3)) hx hb hts inM hown hC 0 rfl rfl 6 (by decide) (hts _ w_643) (fun _ h => h) rfl d_M_begin_96 ?_
        refine lv_iload_n hx hb d_M_begin_99 rfl (lv_at hl 0 rfl) ?_
        refine t_ialdN (k := i) hx hb hC 3 0 rfl rfl (by omega) (by decide) d_M_begin_100 ?_
        refine lv_if_ne (tgt := 126) hx hb d_M_begin_101 (by decide) (fun c101 => ?_) (fun c101 => ?_)
        · skip
          refine lv_iinc (k := 0) (v := nI (i + 1)) (lv' := [(2, .int (nI (i + 1))), (0, .ref (J 0))]) hx hb d_M_begin_126 hl rfl (nI_1 i) (by decide) rfl (fun ls hl => ?_)
          refine lv_goto (tgt := 87) hx hb d_M_begin_129 (by decide) ?_
          exact ih (i + 1) rows M w9 log lk ev9 ls H locs hag hPI (by omega) (by omega) (pl_next hPL rfl (fun h => c101 (by rw [hag i hi 3 (by decide) (by decide)]; exact (kO_size (hPI.2.2.1 i hi)).2.mpr h.1))) (lv_sub hl [0, 1] rfl) hC
        · skip
          refine lv_aload_n hx hb d_M_begin_104 rfl (lv_at hl 1 rfl) ?_
          refine lv_aload_n hx hb d_M_begin_105 rfl (lv_at hl 1 rfl) ?_
          refine t_get (v := .ref (J 2)) hx hb hts inM hown hC 0 rfl rfl 5 (by decide) (hts _ w_642) (fun _ h => h) rfl d_M_begin_106 ?_
          refine lv_iload_n hx hb d_M_begin_109 rfl (lv_at hl 0 rfl) ?_
          refine t_ialdN (k := i) hx hb hC 2 0 rfl rfl (by omega) (by decide) d_M_begin_110 ?_
          refine W.eq (g2 := F0 m 111 ls [.int (rw_at rows i 1), .ref (J 0)]) (by rw [hag i hi 1 (by decide) (by decide)]) ?_
          refine t_call (t_invV (As := [.int (rw_at rows i 1)]) (rest := []) hx hb hown (hts _ w_798) (hts _ w_800) (hts _ s_M_versionsOf) (hts _ w_801) ⟨by decide, by decide⟩ (t_recv (q0 := 0) hC rfl rfl) rfl d_M_begin_111) (c_M_versionsOf hZc hag h40) hZc tb_good hts w_7 hC (hl.1.trans hml.symm) ⟨Nat.le_of_ble_eq_true rfl, Nat.le_of_ble_eq_true rfl, Nat.le_of_ble_eq_true rfl, Nat.le_of_ble_eq_true rfl⟩ (Nat.le_of_ble_eq_true rfl) (fun E q ce w1 H1 l1 hp => hp.elim) (fun v w1 H locs hp hC => ?_)
          obtain ⟨rfl, hwe9⟩ := hp
          rw [hwe9] at hC
          have hC : tC D cls (ty0 ca) A Z s (wM J ca code (day + 1) (nI ev9) (nI rows.length) M U (nI w9) log lk rest) H locs := hC
          refine W.eq (g2 := F0 m 114 ls [.int (nI (rw_num rows (rw_at rows i 1) rows.length))]) rfl ?_
          refine lv_iconst (v := 1) hx hb d_M_begin_114 (by decide) ?_
          refine lv_icmp_ne (tgt := 126) hx hb d_M_begin_115 (by decide) (fun c115 => ?_) (fun c115 => ?_)
          · skip
            refine lv_iinc (k := 0) (v := nI (i + 1)) (lv' := [(2, .int (nI (i + 1))), (0, .ref (J 0))]) hx hb d_M_begin_126 hl rfl (nI_1 i) (by decide) rfl (fun ls hl => ?_)
            refine lv_goto (tgt := 87) hx hb d_M_begin_129 (by decide) ?_
            exact ih (i + 1) rows M w9 log lk ev9 ls H locs hag hPI (by omega) (by omega) (pl_next hPL rfl (fun h => c115 ((nI_one (Nat.le_trans rw_num_le h40)).mpr ((rw_num_alone hi).mpr h.2)))) (lv_sub hl [0, 1] rfl) hC
          · skip
            refine lv_aload_n hx hb d_M_begin_118 rfl (lv_at hl 1 rfl) ?_
            refine lv_iload_n hx hb d_M_begin_119 rfl (lv_at hl 0 rfl) ?_
            refine t_call (t_invV (As := [.int (nI i)]) (rest := []) hx hb hown (hts _ w_746) (hts _ w_748) (hts _ s_M_takeAway) (hts _ w_749) ⟨by decide, by decide⟩ (t_recv (q0 := 0) hC rfl rfl) rfl d_M_begin_120) (c_M_takeAwayS hZc hw9 hag h40 hi hPI.2.2.1) hZc tb_good hts w_7 hC (hl.1.trans hml.symm) ⟨Nat.le_of_ble_eq_true rfl, Nat.le_of_ble_eq_true rfl, Nat.le_of_ble_eq_true rfl, Nat.le_of_ble_eq_true rfl⟩ (Nat.le_of_ble_eq_true rfl) (fun E q ce w1 H1 l1 hp => hp.elim) (fun v w1 H locs hp hC => ?_)
            obtain ⟨rfl, M2, hmA2, hwe9⟩ := hp
            rw [hwe9] at hC
            have hC : tC D cls (ty0 ca) A Z s (wM J ca code (day + 1) (nI (p_take (day + 1) i (rows, (log, w9, lk), ev9)).2.2) (nI (p_take (day + 1) i (rows, (log, w9, lk), ev9)).1.length) M2 U (nI (p_take (day + 1) i (rows, (log, w9, lk), ev9)).2.1.2.1) ((p_take (day + 1) i (rows, (log, w9, lk), ev9)).2.1.1) ((p_take (day + 1) i (rows, (log, w9, lk), ev9)).2.1.2.2) rest) H locs := hC
            refine W.eq (g2 := F0 m 123 ls []) rfl ?_
            refine lv_goto (tgt := 87) hx hb d_M_begin_123 (by decide) ?_
            exact ih i (rw_take rows i) M2 (w9 + 1) (lg_wr (log, w9, lk) (day + 1) 3 (rw_at rows i 0) (rw_at rows i 1)).1 (lg_wr (log, w9, lk) (day + 1) 3 (rw_at rows i 0) (rw_at rows i 1)).2.2 ev9 ls H locs hmA2 (PI_take (day := day + 1) hPI hi).1 (by rw [rw_take_len hi]; omega) (by omega) (pl_take hPL rfl ((kO_size (hPI.2.2.1 i hi)).2.mp (by show rw_at rows i 3 = 0; rw [← hag i hi 3 (by decide) (by decide)]; exact c101)) ((rw_num_alone hi).mp ((nI_one (Nat.le_trans rw_num_le h40)).mp c115))) (lv_sub hl [0, 1] rfl) hC
  have loop : ∀ (lf i : Nat) (rows : List RW) (M : Nat → Nat → Int32) (w9 : Nat) (log : Nat → Int32) (lk : Int64) (ev9 : Nat) (ls : Array Slot) (H : Heap) (locs : List Loc), mA rows M → PI (rows, (log, w9, lk), ev9) → bO e9 rows (i + lf) → e9 ≤ ev9 → ev9 + pot rows < 2 ^ 31 → w9 + 6 * lf + 40 < 2 ^ 31 → p_vers Rs (day + 1) lf i (rows, (log, w9, lk), ev9) = T1 → lv_has ls 4 [(2, .int (nI i)), (0, .ref (J 0)), (1, .int (nI e9))] → tC D cls (ty0 ca) A Z s (wM J ca code (day + 1) (nI ev9) (nI rows.length) M U (nI w9) log lk rest) H locs → tB p l e ({ frames := 5, cells := 0, slots := 0, locals := 111 }) s m [.ref (J 0)] below meth c D (ty0 ca) A Z (fun v w2 => v = none ∧ ∃ M2, mA T.1 M2 ∧ w2 = wS J ca code (day + 1) T M2 U rest) (xN) H locs 0 0 (F0 m 17 ls []) := by
    intro lf
    induction lf with
    | zero =>
      intro i rows M w9 log lk ev9 ls H locs hag hPI hbo hee hevp hw6 hPV hl hC
      have h40 : rows.length ≤ 40 := hPI.1
      have hTe : T1 = (rows, (log, w9, lk), ev9) := hPV.symm
      have hkl := hbo.1
      refine lv_iload_n hx hb d_M_begin_17 rfl (lv_at hl 0 rfl) ?_
      refine lv_aload_n hx hb d_M_begin_18 rfl (lv_at hl 1 rfl) ?_
      refine t_get (v := .int (nI rows.length)) hx hb hts inM hown hC 0 rfl rfl 3 (by decide) (hts _ w_640) (fun _ h => h) rfl d_M_begin_19 ?_
      refine lv_icmp_ge (tgt := 85) hx hb d_M_begin_22 (by decide) (fun c22 => ?_) (fun c22 => ?_)
      · skip
        refine lv_iconst (v := 0) hx hb d_M_begin_85 (by decide) ?_
        refine lv_istore_n (lv' := [(2, .int 0), (0, .ref (J 0)), (1, .int (nI e9))]) hx hb d_M_begin_86 rfl hl (by decide) rfl (fun ls hl => ?_)
        exact loop2 rows.length 0 rows M w9 log lk ev9 ls H locs hag hPI (by omega) (by omega) (by rw [hTe] at hT2; exact hT2) (lv_sub hl [0, 1] rfl) hC
      · skip
        have hi : i < rows.length := Nat.not_le.mp (fun h => c22 ((nI_leI (by omega) (by omega)).mpr h))
        refine lv_aload_n hx hb d_M_begin_25 rfl (lv_at hl 1 rfl) ?_
        refine t_get (v := .ref (J 1)) hx hb hts inM hown hC 0 rfl rfl 4 (by decide) (hts _ w_641) (fun _ h => h) rfl d_M_begin_26 ?_
        refine lv_iload_n hx hb d_M_begin_29 rfl (lv_at hl 0 rfl) ?_
        refine t_ialdN (k := i) hx hb hC 1 0 rfl rfl (by omega) (by decide) d_M_begin_30 ?_
        refine lv_iload_n hx hb d_M_begin_31 rfl (lv_at hl 2 rfl) ?_
        refine lv_icmp_ge (tgt := 85) hx hb d_M_begin_32 (by decide) (fun c32 => ?_) (fun c32 => ?_)
        · skip
          refine lv_iconst (v := 0) hx hb d_M_begin_85 (by decide) ?_
          refine lv_istore_n (lv' := [(2, .int 0), (0, .ref (J 0)), (1, .int (nI e9))]) hx hb d_M_begin_86 rfl hl (by decide) rfl (fun ls hl => ?_)
          exact loop2 rows.length 0 rows M w9 log lk ev9 ls H locs hag hPI (by omega) (by omega) (by rw [hTe] at hT2; exact hT2) (lv_sub hl [0, 1] rfl) hC
        · exact absurd (Int32.not_lt.mp (by rw [hag i hi 0 (by decide) (by decide)]; exact hbo.2.2 i (Nat.le_refl _) hi)) c32
    | succ lf ih =>
      intro i rows M w9 log lk ev9 ls H locs hag hPI hbo hee hevp hw6 hPV hl hC
      have h40 : rows.length ≤ 40 := hPI.1
      have hkl := hbo.1
      have hi : i < rows.length := by omega
      have hk1 := kO_size (hPI.2.2.1 i hi)
      refine lv_iload_n hx hb d_M_begin_17 rfl (lv_at hl 0 rfl) ?_
      refine lv_aload_n hx hb d_M_begin_18 rfl (lv_at hl 1 rfl) ?_
      refine t_get (v := .int (nI rows.length)) hx hb hts inM hown hC 0 rfl rfl 3 (by decide) (hts _ w_640) (fun _ h => h) rfl d_M_begin_19 ?_
      refine lv_icmp_ge (tgt := 85) hx hb d_M_begin_22 (by decide) (fun c22 => ?_) (fun c22 => ?_)
      · exact absurd ((nI_leI (by omega) (by omega)).mp c22) (by omega)
      · skip
        refine lv_aload_n hx hb d_M_begin_25 rfl (lv_at hl 1 rfl) ?_
        refine t_get (v := .ref (J 1)) hx hb hts inM hown hC 0 rfl rfl 4 (by decide) (hts _ w_641) (fun _ h => h) rfl d_M_begin_26 ?_
        refine lv_iload_n hx hb d_M_begin_29 rfl (lv_at hl 0 rfl) ?_
        refine t_ialdN (k := i) hx hb hC 1 0 rfl rfl (by omega) (by decide) d_M_begin_30 ?_
        refine lv_iload_n hx hb d_M_begin_31 rfl (lv_at hl 2 rfl) ?_
        refine lv_icmp_ge (tgt := 85) hx hb d_M_begin_32 (by decide) (fun c32 => ?_) (fun c32 => ?_)
        · exact absurd (by rw [hag i hi 0 (by decide) (by decide)]; exact hbo.2.1 i (by omega)) (Int32.not_lt.mpr c32)
        · skip
          refine lv_aload_n hx hb d_M_begin_35 rfl (lv_at hl 1 rfl) ?_
          refine t_get (v := .ref (J 1)) hx hb hts inM hown hC 0 rfl rfl 4 (by decide) (hts _ w_641) (fun _ h => h) rfl d_M_begin_36 ?_
          refine lv_iload_n hx hb d_M_begin_39 rfl (lv_at hl 0 rfl) ?_
          refine t_ialdN (k := i) hx hb hC 1 0 rfl rfl (by omega) (by decide) d_M_begin_40 ?_
          refine lv_istore_n (lv' := [(3, .int (M 0 i)), (2, .int (nI i)), (0, .ref (J 0)), (1, .int (nI e9))]) hx hb d_M_begin_41 rfl hl (by decide) rfl (fun ls hl => ?_)
          refine lv_aload_n hx hb d_M_begin_42 rfl (lv_at hl 2 rfl) ?_
          refine t_get (v := .ref (J 3)) hx hb hts inM hown hC 0 rfl rfl 6 (by decide) (hts _ w_643) (fun _ h => h) rfl d_M_begin_43 ?_
          refine lv_iload_n hx hb d_M_begin_46 rfl (lv_at hl 1 rfl) ?_
          refine t_ialdN (k := i) hx hb hC 3 0 rfl rfl (by omega) (by decide) d_M_begin_47 ?_
          refine lv_if_le (tgt := 56) hx hb d_M_begin_48 (by decide) (fun c48 => ?_) (fun c48 => ?_)
          · skip
            have hmk : rw_at rows i 5 = -1 := Classical.not_not.mp (fun q => absurd (hk1.1.mpr q) (Int32.not_lt.mpr (by rw [← hag i hi 3 (by decide) (by decide)]; exact c48)))
            refine lv_iload_n hx hb d_M_begin_56 rfl (lv_at hl 1 rfl) ?_
            refine lv_iload_n hx hb d_M_begin_57 rfl (lv_at hl 1 rfl) ?_
            refine lv_aload_n hx hb d_M_begin_58 rfl (lv_at hl 2 rfl) ?_
            refine t_get (v := .int (nI rows.length)) hx hb hts inM hown hC 0 rfl rfl 3 (by decide) (hts _ w_640) (fun _ h => h) rfl d_M_begin_59 ?_
            refine lv_icmp_ge (tgt := 79) hx hb d_M_begin_62 (by decide) (fun c62 => ?_) (fun c62 => ?_)
            · exact absurd ((nI_leI (by omega) (by omega)).mp c62) (by omega)
            · skip
              refine lv_aload_n hx hb d_M_begin_65 rfl (lv_at hl 2 rfl) ?_
              refine t_get (v := .ref (J 1)) hx hb hts inM hown hC 0 rfl rfl 4 (by decide) (hts _ w_641) (fun _ h => h) rfl d_M_begin_66 ?_
              refine lv_iload_n hx hb d_M_begin_69 rfl (lv_at hl 1 rfl) ?_
              refine t_ialdN (k := i) hx hb hC 1 0 rfl rfl (by omega) (by decide) d_M_begin_70 ?_
              refine lv_iload_n hx hb d_M_begin_71 rfl (lv_at hl 0 rfl) ?_
              refine lv_icmp_ne (tgt := 79) hx hb d_M_begin_72 (by decide) (fun c72 => ?_) (fun c72 => ?_)
              · exact absurd rfl c72
              · skip
                refine lv_iconst (v := 1) hx hb d_M_begin_75 (by decide) ?_
                refine lv_goto (tgt := 80) hx hb d_M_begin_76 (by decide) ?_
                refine lv_iadd hx hb d_M_begin_80 ?_
                rw [nI_1]
                refine lv_istore_n (lv' := [(2, .int (nI (i + 1))), (3, .int (M 0 i)), (0, .ref (J 0)), (1, .int (nI e9))]) hx hb d_M_begin_81 rfl hl (by decide) rfl (fun ls hl => ?_)
                refine lv_goto (tgt := 17) hx hb d_M_begin_82 (by decide) ?_
                exact ih (i + 1) rows M w9 log lk ev9 ls H locs hag hPI (by rw [show i + 1 + lf = i + (lf + 1) by omega]; exact hbo) hee hevp (by omega) (pv_mark hPV rfl hmk) (lv_sub hl [0, 2, 3] rfl) hC
          · skip
            have h5 : ¬ rw_at rows i 5 = -1 := hk1.1.mp (by show 0 < rw_at rows i 3; rw [← hag i hi 3 (by decide) (by decide)]; exact Int32.not_le.mp c48)
            obtain ⟨⟨⟨rows1, ⟨log1, wn1, lk1⟩, ev1⟩, g1⟩, hR1⟩ : ∃ z, p_rules (day + 1) i Rs (rows, (log, w9, lk), ev9) = z := ⟨_, rfl⟩
            have hlg := p_rules_lg (day := day + 1) (i := i) (Rs := Rs) (S := (rows, (log, w9, lk), ev9))
            rw [hR1, hRs] at hlg
            dsimp only at hlg
            have hPV := pv_step hPV rfl h5 hR1
            have hq := bO_rules hPI hi h5 (rI_all hrI hRs) (by show ev9 < _; omega) hee hbo hR1
            have hq1 : ev1 + pot rows1 = ev9 + pot rows := hq.2.1
            have h401 : rows1.length ≤ 40 := hq.1.1
            refine lv_aload_n hx hb d_M_begin_51 rfl (lv_at hl 2 rfl) ?_
            refine lv_iload_n hx hb d_M_begin_52 rfl (lv_at hl 1 rfl) ?_
            refine t_call (t_invV (As := [.int (nI i)]) (rest := []) hx hb hown (hts _ w_778) (hts _ w_780) (hts _ s_M_go) (hts _ w_781) ⟨by decide, by decide⟩ (t_recv (q0 := 0) hC rfl rfl) rfl d_M_begin_53) (c_M_go hZc hag hPI hi h5 huA hrI hRs (by omega) hR1) hZc tb_good hts w_7 hC (hl.1.trans hml.symm) ⟨Nat.le_of_ble_eq_true rfl, Nat.le_of_ble_eq_true rfl, Nat.le_of_ble_eq_true rfl, Nat.le_of_ble_eq_true rfl⟩ (Nat.le_of_ble_eq_true rfl) (fun E q ce w1 H1 l1 hp => hp.elim) (fun v w1 H locs hp hC => ?_)
            obtain ⟨rfl, M1, hag1, hwe9⟩ := hp
            rw [hwe9] at hC
            have hag1 : mA rows1 M1 := hag1
            have hC : tC D cls (ty0 ca) A Z s (wM J ca code (day + 1) (nI ev1) (nI rows1.length) M1 U (nI wn1) log1 lk1 rest) H locs := hC
            cases g1 with
            | false =>
              have hi1 : i < rows1.length := (hq.2.2.1 rfl).2.1
              refine W.eq (g2 := F0 m 56 ls []) rfl ?_
              refine lv_iload_n hx hb d_M_begin_56 rfl (lv_at hl 1 rfl) ?_
              refine lv_iload_n hx hb d_M_begin_57 rfl (lv_at hl 1 rfl) ?_
              refine lv_aload_n hx hb d_M_begin_58 rfl (lv_at hl 2 rfl) ?_
              refine t_get (v := .int (nI rows1.length)) hx hb hts inM hown hC 0 rfl rfl 3 (by decide) (hts _ w_640) (fun _ h => h) rfl d_M_begin_59 ?_
              refine lv_icmp_ge (tgt := 79) hx hb d_M_begin_62 (by decide) (fun c62 => ?_) (fun c62 => ?_)
              · exact absurd ((nI_leI (by omega) (by omega)).mp c62) (by omega)
              · skip
                refine lv_aload_n hx hb d_M_begin_65 rfl (lv_at hl 2 rfl) ?_
                refine t_get (v := .ref (J 1)) hx hb hts inM hown hC 0 rfl rfl 4 (by decide) (hts _ w_641) (fun _ h => h) rfl d_M_begin_66 ?_
                refine lv_iload_n hx hb d_M_begin_69 rfl (lv_at hl 1 rfl) ?_
                refine t_ialdN (k := i) hx hb hC 1 0 rfl rfl (by omega) (by decide) d_M_begin_70 ?_
                refine lv_iload_n hx hb d_M_begin_71 rfl (lv_at hl 0 rfl) ?_
                refine lv_icmp_ne (tgt := 79) hx hb d_M_begin_72 (by decide) (fun c72 => ?_) (fun c72 => ?_)
                · exact absurd (by rw [hag1 i hi1 0 (by decide) (by decide), hag i hi 0 (by decide) (by decide)]; exact (hq.2.2.1 rfl).2.2) c72
                · skip
                  refine lv_iconst (v := 1) hx hb d_M_begin_75 (by decide) ?_
                  refine lv_goto (tgt := 80) hx hb d_M_begin_76 (by decide) ?_
                  refine lv_iadd hx hb d_M_begin_80 ?_
                  rw [nI_1]
                  refine lv_istore_n (lv' := [(2, .int (nI (i + 1))), (3, .int (M 0 i)), (0, .ref (J 0)), (1, .int (nI e9))]) hx hb d_M_begin_81 rfl hl (by decide) rfl (fun ls hl => ?_)
                  refine lv_goto (tgt := 17) hx hb d_M_begin_82 (by decide) ?_
                  exact ih (i + 1) rows1 M1 wn1 log1 lk1 ev1 ls H locs hag1 hq.1 (hq.2.2.1 rfl).1 (by omega) (by omega) (by omega) (hPV.2 rfl) (lv_sub hl [0, 2, 3] rfl) hC
            | true =>
              refine W.eq (g2 := F0 m 56 ls []) rfl ?_
              refine lv_iload_n hx hb d_M_begin_56 rfl (lv_at hl 1 rfl) ?_
              refine lv_iload_n hx hb d_M_begin_57 rfl (lv_at hl 1 rfl) ?_
              refine lv_aload_n hx hb d_M_begin_58 rfl (lv_at hl 2 rfl) ?_
              refine t_get (v := .int (nI rows1.length)) hx hb hts inM hown hC 0 rfl rfl 3 (by decide) (hts _ w_640) (fun _ h => h) rfl d_M_begin_59 ?_
              refine lv_icmp_ge (tgt := 79) hx hb d_M_begin_62 (by decide) (fun c62 => ?_) (fun c62 => ?_)
              · skip
                refine lv_iconst (v := 0) hx hb d_M_begin_79 (by decide) ?_
                refine lv_iadd hx hb d_M_begin_80 ?_
                rw [Int32.add_zero]
                refine lv_istore_n (lv' := [(2, .int (nI i)), (3, .int (M 0 i)), (0, .ref (J 0)), (1, .int (nI e9))]) hx hb d_M_begin_81 rfl hl (by decide) rfl (fun ls hl => ?_)
                refine lv_goto (tgt := 17) hx hb d_M_begin_82 (by decide) ?_
                exact ih i rows1 M1 wn1 log1 lk1 ev1 ls H locs hag1 hq.1 (hq.2.2.2 rfl).1 (by omega) (by omega) (by omega) (hPV.1 rfl) (lv_sub hl [0, 2, 3] rfl) hC
              · skip
                have hi1 : i < rows1.length := Nat.not_le.mp (fun h => c62 ((nI_leI (by omega) (by omega)).mpr h))
                refine lv_aload_n hx hb d_M_begin_65 rfl (lv_at hl 2 rfl) ?_
                refine t_get (v := .ref (J 1)) hx hb hts inM hown hC 0 rfl rfl 4 (by decide) (hts _ w_641) (fun _ h => h) rfl d_M_begin_66 ?_
                refine lv_iload_n hx hb d_M_begin_69 rfl (lv_at hl 1 rfl) ?_
                refine t_ialdN (k := i) hx hb hC 1 0 rfl rfl (by omega) (by decide) d_M_begin_70 ?_
                refine lv_iload_n hx hb d_M_begin_71 rfl (lv_at hl 0 rfl) ?_
                refine lv_icmp_ne (tgt := 79) hx hb d_M_begin_72 (by decide) (fun c72 => ?_) (fun c72 => ?_)
                · skip
                  refine lv_iconst (v := 0) hx hb d_M_begin_79 (by decide) ?_
                  refine lv_iadd hx hb d_M_begin_80 ?_
                  rw [Int32.add_zero]
                  refine lv_istore_n (lv' := [(2, .int (nI i)), (3, .int (M 0 i)), (0, .ref (J 0)), (1, .int (nI e9))]) hx hb d_M_begin_81 rfl hl (by decide) rfl (fun ls hl => ?_)
                  refine lv_goto (tgt := 17) hx hb d_M_begin_82 (by decide) ?_
                  exact ih i rows1 M1 wn1 log1 lk1 ev1 ls H locs hag1 hq.1 (hq.2.2.2 rfl).1 (by omega) (by omega) (by omega) (hPV.1 rfl) (lv_sub hl [0, 2, 3] rfl) hC
                · exact absurd (by rw [← hag1 i hi1 0 (by decide) (by decide), ← hag i hi 0 (by decide) (by decide)]; exact c72) ((hq.2.2.2 rfl).2 hi1)
  exact loop rows.length 0 rows M w9 log lk ev9 ls _ _ hag hPI (by rw [he9, Nat.zero_add]; exact bO_start hPI (by show ev9 < 2 ^ 31; omega)) (by omega) hevp (by omega) hT1 (lv_sub hl [0, 2, 1] rfl) hC

theorem p_day_lg {Rs : List RW} {day : Int32} {S : PS} (hRs : Rs.length = 6) (h : PI S) : (p_day Rs day S).2.1.2.1 ≤ S.2.1.2.1 + 280 := by
  have h1 := p_vers_lg (Rs := Rs) (day := day) (left := S.1.length) (i := 0) (S := S)
  have h2 := p_vers_len (Rs := Rs) (day := day) (left := S.1.length) (i := 0) (S := S) (by omega) h.1
  have h3 := p_lone_lg (day := day) (left := (p_vers Rs day S.1.length 0 S).1.length) (i := 0) (S := p_vers Rs day S.1.length 0 S)
  have h4 := h.1
  rw [hRs] at h1
  unfold p_day
  omega

set_option maxRecDepth 100000 in
set_option maxHeartbeats 4000000 in
theorem c_M_tick {l : Launch} {D : va_G} {A : Nat → Prop} {Z : State → Heap → Prop} (hZc : tZ A Z) {J : Nat → Nat} {ca : Nat → ClassId} {code day : Int32} {M U : Nat → Nat → Int32} {log : Nat → Int32} {lk : Int64} {rest : va_W} {rows : List RW} {w9 ev9 : Nat} {days b9 d9 : Int32} {w09 : va_W} (hw09 : w09 = wM J ca 1 day (nI ev9) (nI rows.length) M U (nI w9) log lk rest) (hb9 : nI w9 = b9) (hd9 : day + days = d9) (hag : mA rows M) (hPI : PI (rows, (log, w9, lk), ev9)) (hevp : ev9 + pot rows < 2 ^ 31) {Rs : List RW} (huA : uA Rs U) (hrI : rI Rs) (hRs : Rs.length = 6) (hw6 : w9 + 280000 < 2 ^ 31) {T : PS} (hT : p_tick Rs days.toNatClampNeg day (rows, (log, w9, lk), ev9) = T) : tM l y_M_tick tb ({ frames := 6, cells := 0, slots := 0, locals := 134 }) D cls (ty0 ca) A Z [.ref (J 0), .int days] (wM J ca code day (nI ev9) (nI rows.length) M U (nI w9) log lk rest) (fun v w2 => ((0 ≤ days ∧ days ≤ 1000) ∧ v = some (.int (nI T.2.1.2.1 - b9)) ∧ ∃ M2, mA T.1 M2 ∧ w2 = wS J ca 0 d9 T M2 U rest) ∨ (¬ (0 ≤ days ∧ days ≤ 1000) ∧ (∃ x, v = some (.int x)) ∧ w2 = w09)) (xN) := by
  refine t_ofW (by decide) w_773 (Nat.le_of_ble_eq_true rfl) ?_
  intro p e s m below meth c ls hx hb hr hts hown hlk hnm hml hex hl hC
  have hown : s.vm.findClass "RetentionVaultModel" = some m.cls := hown
  have hl : lv_has ls 4 [(0, .ref (J 0)), (1, .int days)] := hl
  refine lv_aload_n hx hb d_M_tick_0 rfl (lv_at hl 0 rfl) ?_
  refine lv_iload_n hx hb d_M_tick_1 rfl (lv_at hl 1 rfl) ?_
  refine lv_if_lt (tgt := 12) hx hb d_M_tick_2 (by decide) (fun c2 => ?_) (fun c2 => ?_)
  · skip
    refine lv_iconst (v := 1) hx hb d_M_tick_12 (by decide) ?_
    refine lv_goto (tgt := 17) hx hb d_M_tick_13 (by decide) ?_
    refine t_put (ty := .int) (v := .int 1) hx hb hts inM TM tyM nmM hown hC 0 rfl rfl 0 (by decide) (hts _ w_637) (fun _ h => h) rfl (by decide +kernel) rfl rfl (Nat.le_of_ble_eq_true rfl) d_M_tick_17 (fun H locs hC => ?_)
    have hC : tC D cls (ty0 ca) A Z s (wM J ca 1 day (nI ev9) (nI rows.length) M U (nI w9) log lk rest) H locs := hC
    refine lv_aload_n hx hb d_M_tick_20 rfl (lv_at hl 0 rfl) ?_
    refine t_get (v := .int (nI w9)) hx hb hts inM hown hC 0 rfl rfl 20 (by decide) (hts _ w_657) (fun _ h => h) rfl d_M_tick_21 ?_
    refine lv_istore_n (lv' := [(2, .int (nI w9)), (0, .ref (J 0)), (1, .int days)]) hx hb d_M_tick_24 rfl hl (by decide) rfl (fun ls hl => ?_)
    refine lv_iconst (v := 0) hx hb d_M_tick_25 (by decide) ?_
    refine lv_istore_n (lv' := [(3, .int 0), (2, .int (nI w9)), (0, .ref (J 0)), (1, .int days)]) hx hb d_M_tick_26 rfl hl (by decide) rfl (fun ls hl => ?_)
    refine lv_iload_n hx hb d_M_tick_27 rfl (lv_at hl 0 rfl) ?_
    refine lv_iload_n hx hb d_M_tick_28 rfl (lv_at hl 3 rfl) ?_
    refine lv_icmp_ge (tgt := 49) hx hb d_M_tick_29 (by decide) (fun c29 => ?_) (fun c29 => ?_)
    · skip
      refine lv_aload_n hx hb d_M_tick_49 rfl (lv_at hl 2 rfl) ?_
      refine t_get (v := .int (nI w9)) hx hb hts inM hown hC 0 rfl rfl 20 (by decide) (hts _ w_657) (fun _ h => h) rfl d_M_tick_50 ?_
      refine lv_iload_n hx hb d_M_tick_53 rfl (lv_at hl 1 rfl) ?_
      refine lv_isub hx hb d_M_tick_54 ?_
      exact t_iret hx hb hr hlk hZc hC (Or.inr ⟨fun h => absurd c2 (Int32.not_lt.mpr h.1), ⟨_, rfl⟩, hw09.symm⟩) (Nat.le_of_ble_eq_true rfl) (Nat.le_of_ble_eq_true rfl) d_M_tick_55
    · skip
      refine lv_aload_n hx hb d_M_tick_32 rfl (lv_at hl 2 rfl) ?_
      refine t_get (v := .int 1) hx hb hts inM hown hC 0 rfl rfl 0 (by decide) (hts _ w_637) (fun _ h => h) rfl d_M_tick_33 ?_
      refine lv_if_ne (tgt := 49) hx hb d_M_tick_36 (by decide) (fun c36 => ?_) (fun c36 => ?_)
      · skip
        refine lv_aload_n hx hb d_M_tick_49 rfl (lv_at hl 2 rfl) ?_
        refine t_get (v := .int (nI w9)) hx hb hts inM hown hC 0 rfl rfl 20 (by decide) (hts _ w_657) (fun _ h => h) rfl d_M_tick_50 ?_
        refine lv_iload_n hx hb d_M_tick_53 rfl (lv_at hl 1 rfl) ?_
        refine lv_isub hx hb d_M_tick_54 ?_
        exact t_iret hx hb hr hlk hZc hC (Or.inr ⟨fun h => absurd c2 (Int32.not_lt.mpr h.1), ⟨_, rfl⟩, hw09.symm⟩) (Nat.le_of_ble_eq_true rfl) (Nat.le_of_ble_eq_true rfl) d_M_tick_55
      · first | exact absurd c36 (by decide) | exact absurd (by decide) c36
  · skip
    refine lv_iload_n hx hb d_M_tick_5 rfl (lv_at hl 1 rfl) ?_
    refine lv_sipush (v := 1000) hx hb d_M_tick_6 (by decide) ?_
    refine lv_icmp_le (tgt := 16) hx hb d_M_tick_9 (by decide) (fun c9 => ?_) (fun c9 => ?_)
    · skip
      refine lv_iconst (v := 0) hx hb d_M_tick_16 (by decide) ?_
      refine t_put (ty := .int) (v := .int 0) hx hb hts inM TM tyM nmM hown hC 0 rfl rfl 0 (by decide) (hts _ w_637) (fun _ h => h) rfl (by decide +kernel) rfl rfl (Nat.le_of_ble_eq_true rfl) d_M_tick_17 (fun H locs hC => ?_)
      have hC : tC D cls (ty0 ca) A Z s (wM J ca 0 day (nI ev9) (nI rows.length) M U (nI w9) log lk rest) H locs := hC
      refine lv_aload_n hx hb d_M_tick_20 rfl (lv_at hl 0 rfl) ?_
      refine t_get (v := .int (nI w9)) hx hb hts inM hown hC 0 rfl rfl 20 (by decide) (hts _ w_657) (fun _ h => h) rfl d_M_tick_21 ?_
      refine lv_istore_n (lv' := [(2, .int (nI w9)), (0, .ref (J 0)), (1, .int days)]) hx hb d_M_tick_24 rfl hl (by decide) rfl (fun ls hl => ?_)
      refine lv_iconst (v := 0) hx hb d_M_tick_25 (by decide) ?_
      refine lv_istore_n (lv' := [(3, .int 0), (2, .int (nI w9)), (0, .ref (J 0)), (1, .int days)]) hx hb d_M_tick_26 rfl hl (by decide) rfl (fun ls hl => ?_)
      have hdr : 0 ≤ days ∧ days ≤ 1000 := ⟨Int32.not_lt.mp c2, c9⟩
      obtain ⟨n9, hn9, hdn⟩ := nI_of2 (x := days) (M := 1000) (n := 1000) (by decide) (Int32.not_lt.mpr hdr.1) hdr.2
      have hncl : days.toNatClampNeg = n9 := by rw [hdn, nI_clamp (by omega)]
      rw [hncl] at hT
      rw [hdn] at hd9
      rw [hb9] at hl
      have loop : ∀ (k i : Nat) (day : Int32) (rows : List RW) (M : Nat → Nat → Int32) (w9 : Nat) (log : Nat → Int32) (lk : Int64) (ev9 : Nat) (ls : Array Slot) (H : Heap) (locs : List Loc), mA rows M → PI (rows, (log, w9, lk), ev9) → i + k = n9 → ev9 + pot rows < 2 ^ 31 → w9 + 280 * k < 2 ^ 31 → day + nI k = d9 → p_tick Rs k day (rows, (log, w9, lk), ev9) = T → lv_has ls 4 [(3, .int (nI i)), (2, .int b9), (0, .ref (J 0)), (1, .int days)] → tC D cls (ty0 ca) A Z s (wM J ca 0 day (nI ev9) (nI rows.length) M U (nI w9) log lk rest) H locs → tB p l e ({ frames := 6, cells := 0, slots := 0, locals := 134 }) s m [.ref (J 0), .int days] below meth c D (ty0 ca) A Z (fun v w2 => ((0 ≤ days ∧ days ≤ 1000) ∧ v = some (.int (nI T.2.1.2.1 - b9)) ∧ ∃ M2, mA T.1 M2 ∧ w2 = wS J ca 0 d9 T M2 U rest) ∨ (¬ (0 ≤ days ∧ days ≤ 1000) ∧ (∃ x, v = some (.int x)) ∧ w2 = w09)) (xN) H locs 0 0 (F0 m 27 ls []) := by
        intro k
        induction k with
        | zero =>
          intro i day rows M w9 log lk ev9 ls H locs hag hPI hle hevp hw6 hd9 hPT hl hC
          have hTe : T = (rows, (log, w9, lk), ev9) := hPT.symm
          have hde : day = d9 := by rw [← hd9]; exact (Int32.add_zero day).symm
          refine lv_iload_n hx hb d_M_tick_27 rfl (lv_at hl 0 rfl) ?_
          refine lv_iload_n hx hb d_M_tick_28 rfl (lv_at hl 3 rfl) ?_
          refine lv_icmp_ge (tgt := 49) hx hb d_M_tick_29 (by decide) (fun c29 => ?_) (fun c29 => ?_)
          · skip
            refine lv_aload_n hx hb d_M_tick_49 rfl (lv_at hl 2 rfl) ?_
            refine t_get (v := .int (nI w9)) hx hb hts inM hown hC 0 rfl rfl 20 (by decide) (hts _ w_657) (fun _ h => h) rfl d_M_tick_50 ?_
            refine lv_iload_n hx hb d_M_tick_53 rfl (lv_at hl 1 rfl) ?_
            refine lv_isub hx hb d_M_tick_54 ?_
            exact t_iret hx hb hr hlk hZc hC (Or.inl ⟨hdr, by rw [hTe], M, by rw [hTe]; exact hag, by rw [hTe, hde]; rfl⟩) (Nat.le_of_ble_eq_true rfl) (Nat.le_of_ble_eq_true rfl) d_M_tick_55
          · exact absurd (by rw [hdn, show i = n9 by omega]; exact Int32.le_refl _) c29
        | succ k ih =>
          intro i day rows M w9 log lk ev9 ls H locs hag hPI hle hevp hw6 hd9 hPT hl hC
          obtain ⟨⟨rows1, ⟨log1, wn1, lk1⟩, ev1⟩, hT1⟩ : ∃ z, p_day Rs (day + 1) (rows, (log, w9, lk), ev9) = z := ⟨_, rfl⟩
          have hPd := PI_day (day := day + 1) (rI_all hrI hRs) hPI hevp
          rw [hT1] at hPd
          obtain ⟨hPI1, hev1⟩ := hPd
          have hev1 : ev1 + pot rows1 = ev9 + pot rows := hev1
          have hlg := p_day_lg (day := day + 1) hRs hPI
          rw [hT1] at hlg
          have hlg : wn1 ≤ w9 + 280 := hlg
          have hPT : p_tick Rs k (day + 1) (rows1, (log1, wn1, lk1), ev1) = T := by rw [← hPT, ← hT1]; rfl
          refine lv_iload_n hx hb d_M_tick_27 rfl (lv_at hl 0 rfl) ?_
          refine lv_iload_n hx hb d_M_tick_28 rfl (lv_at hl 3 rfl) ?_
          refine lv_icmp_ge (tgt := 49) hx hb d_M_tick_29 (by decide) (fun c29 => ?_) (fun c29 => ?_)
          · exact absurd c29 (by rw [hdn]; exact fun h => absurd ((nI_leI (by omega) (by omega)).mp h) (by omega))
          · skip
            refine lv_aload_n hx hb d_M_tick_32 rfl (lv_at hl 2 rfl) ?_
            refine t_get (v := .int 0) hx hb hts inM hown hC 0 rfl rfl 0 (by decide) (hts _ w_637) (fun _ h => h) rfl d_M_tick_33 ?_
            refine lv_if_ne (tgt := 49) hx hb d_M_tick_36 (by decide) (fun c36 => ?_) (fun c36 => ?_)
            · first | exact absurd c36 (by decide) | exact absurd (by decide) c36
            · skip
              refine lv_aload_n hx hb d_M_tick_39 rfl (lv_at hl 2 rfl) ?_
              refine t_call (t_invV (As := []) (rest := []) hx hb hown (hts _ w_774) (hts _ w_776) (hts _ s_M_begin) (hts _ w_777) ⟨by decide, by decide⟩ (t_recv (q0 := 0) hC rfl rfl) rfl d_M_tick_40) (c_M_begin hZc hag hPI hevp huA hrI hRs (by omega) hT1) hZc tb_good hts w_7 hC (hl.1.trans hml.symm) ⟨Nat.le_of_ble_eq_true rfl, Nat.le_of_ble_eq_true rfl, Nat.le_of_ble_eq_true rfl, Nat.le_of_ble_eq_true rfl⟩ (Nat.le_of_ble_eq_true rfl) (fun E q ce w1 H1 l1 hp => hp.elim) (fun v w1 H locs hp hC => ?_)
              obtain ⟨rfl, M1, hag1, hwe9⟩ := hp
              rw [hwe9] at hC
              have hag1 : mA rows1 M1 := hag1
              have hC : tC D cls (ty0 ca) A Z s (wM J ca 0 (day + 1) (nI ev1) (nI rows1.length) M1 U (nI wn1) log1 lk1 rest) H locs := hC
              refine W.eq (g2 := F0 m 43 ls []) rfl ?_
              refine lv_iinc (k := 0) (v := nI (i + 1)) (lv' := [(3, .int (nI (i + 1))), (2, .int b9), (0, .ref (J 0)), (1, .int days)]) hx hb d_M_tick_43 hl rfl (nI_1 i) (by decide) rfl (fun ls hl => ?_)
              refine lv_goto (tgt := 27) hx hb d_M_tick_46 (by decide) ?_
              exact ih (i + 1) (day + 1) rows1 M1 wn1 log1 lk1 ev1 ls H locs hag1 hPI1 (by omega) (by omega) (by omega) (by rw [← hd9, ← nI_1 k, Int32.add_assoc, Int32.add_comm 1]) hPT (lv_sub hl [0, 1, 2, 3] rfl) hC
      exact loop n9 0 day rows M w9 log lk ev9 ls _ _ hag hPI (by omega) hevp (by omega) hd9 hT hl hC
    · skip
      refine lv_iconst (v := 1) hx hb d_M_tick_12 (by decide) ?_
      refine lv_goto (tgt := 17) hx hb d_M_tick_13 (by decide) ?_
      refine t_put (ty := .int) (v := .int 1) hx hb hts inM TM tyM nmM hown hC 0 rfl rfl 0 (by decide) (hts _ w_637) (fun _ h => h) rfl (by decide +kernel) rfl rfl (Nat.le_of_ble_eq_true rfl) d_M_tick_17 (fun H locs hC => ?_)
      have hC : tC D cls (ty0 ca) A Z s (wM J ca 1 day (nI ev9) (nI rows.length) M U (nI w9) log lk rest) H locs := hC
      refine lv_aload_n hx hb d_M_tick_20 rfl (lv_at hl 0 rfl) ?_
      refine t_get (v := .int (nI w9)) hx hb hts inM hown hC 0 rfl rfl 20 (by decide) (hts _ w_657) (fun _ h => h) rfl d_M_tick_21 ?_
      refine lv_istore_n (lv' := [(2, .int (nI w9)), (0, .ref (J 0)), (1, .int days)]) hx hb d_M_tick_24 rfl hl (by decide) rfl (fun ls hl => ?_)
      refine lv_iconst (v := 0) hx hb d_M_tick_25 (by decide) ?_
      refine lv_istore_n (lv' := [(3, .int 0), (2, .int (nI w9)), (0, .ref (J 0)), (1, .int days)]) hx hb d_M_tick_26 rfl hl (by decide) rfl (fun ls hl => ?_)
      refine lv_iload_n hx hb d_M_tick_27 rfl (lv_at hl 0 rfl) ?_
      refine lv_iload_n hx hb d_M_tick_28 rfl (lv_at hl 3 rfl) ?_
      refine lv_icmp_ge (tgt := 49) hx hb d_M_tick_29 (by decide) (fun c29 => ?_) (fun c29 => ?_)
      · skip
        refine lv_aload_n hx hb d_M_tick_49 rfl (lv_at hl 2 rfl) ?_
        refine t_get (v := .int (nI w9)) hx hb hts inM hown hC 0 rfl rfl 20 (by decide) (hts _ w_657) (fun _ h => h) rfl d_M_tick_50 ?_
        refine lv_iload_n hx hb d_M_tick_53 rfl (lv_at hl 1 rfl) ?_
        refine lv_isub hx hb d_M_tick_54 ?_
        exact t_iret hx hb hr hlk hZc hC (Or.inr ⟨fun h => c9 h.2, ⟨_, rfl⟩, hw09.symm⟩) (Nat.le_of_ble_eq_true rfl) (Nat.le_of_ble_eq_true rfl) d_M_tick_55
      · skip
        refine lv_aload_n hx hb d_M_tick_32 rfl (lv_at hl 2 rfl) ?_
        refine t_get (v := .int 1) hx hb hts inM hown hC 0 rfl rfl 0 (by decide) (hts _ w_637) (fun _ h => h) rfl d_M_tick_33 ?_
        refine lv_if_ne (tgt := 49) hx hb d_M_tick_36 (by decide) (fun c36 => ?_) (fun c36 => ?_)
        · skip
          refine lv_aload_n hx hb d_M_tick_49 rfl (lv_at hl 2 rfl) ?_
          refine t_get (v := .int (nI w9)) hx hb hts inM hown hC 0 rfl rfl 20 (by decide) (hts _ w_657) (fun _ h => h) rfl d_M_tick_50 ?_
          refine lv_iload_n hx hb d_M_tick_53 rfl (lv_at hl 1 rfl) ?_
          refine lv_isub hx hb d_M_tick_54 ?_
          exact t_iret hx hb hr hlk hZc hC (Or.inr ⟨fun h => c9 h.2, ⟨_, rfl⟩, hw09.symm⟩) (Nat.le_of_ble_eq_true rfl) (Nat.le_of_ble_eq_true rfl) d_M_tick_55
        · first | exact absurd c36 (by decide) | exact absurd (by decide) c36
