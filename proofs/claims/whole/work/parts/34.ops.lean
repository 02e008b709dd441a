/-! The vault's calls as pure functions: code, answer, table. Laid by program (wip/whole/p34.py) -/
abbrev OR : Type := Int32 × Int32 × PS
def p_set (day : Int32) (i : Nat) (r : RW) (kd nu de : Int32) (S : PS) : PS := (S.1.set i r, lg_wr S.2.1 day kd nu de, S.2.2)
def p_log (day kd nu de : Int32) (S : PS) : PS := (S.1, lg_wr S.2.1 day kd nu de, S.2.2)
def o_put (day k si tg : Int32) (S : PS) : OR := if (1 ≤ si ∧ si ≤ 1000000) ∧ (0 ≤ tg ∧ tg ≤ 3) then (if 40 ≤ S.1.length then (2, 0, S) else (0, nI S.2.2, p_add day (mkObj (nI S.2.2) k day si tg) S)) else (1, 0, S)
def o_mark (day k : Int32) (S : PS) : OR := match rw_latest S.1 k with
  | none => (1, 0, S)
  | some o => if rw_at S.1 o 5 = -1 then (1, 0, S) else if 40 ≤ S.1.length then (2, 0, S) else (0, nI S.2.2, p_mark day k S)
abbrev g_erase (day fo : Int32) (r : RW) : Prop := r 10 ≠ 0 ∨ (day < r 8 ∧ (r 9 ≠ 0 ∨ fo = 0))
def o_erase (day v fo : Int32) (S : PS) : OR := match rw_lastN S.1 v S.1.length with
  | none => (1, 0, S)
  | some i => if g_erase day fo (rw_at S.1 i) then (2, 0, S) else (0, rw_at S.1 i 1, p_take day i S)
abbrev g_weak (day days st : Int32) (r : RW) : Prop := (r 9 ≠ 0 ∧ day < r 8) ∧ (st = 0 ∨ day + days < r 8)
def o_retain (day v days st : Int32) (S : PS) : OR := match rw_obj S.1 v with
  | none => (1, 0, S)
  | some i => if 0 ≤ days ∧ days ≤ 10000 then (if g_weak day days st (rw_at S.1 i) then (3, 0, S) else (0, 0, p_set day i (upd (upd (rw_at S.1 i) 8 (day + days)) 9 st) 5 (rw_at S.1 i 0) (day + days) S)) else (2, 0, S)
def o_hold (day v h on : Int32) (S : PS) : OR := match rw_obj S.1 v with
  | none => (1, 0, S)
  | some i => if 0 ≤ h ∧ h ≤ 7 then (if bI (rw_at S.1 i 10 &&& (1 <<< (h &&& 31)) ≠ 0) = on then (0, 0, S) else (0, 1, p_set day i (upd (rw_at S.1 i) 10 (rw_at S.1 i 10 ^^^ (1 <<< (h &&& 31)))) (if on = 0 then 7 else 6) (rw_at S.1 i 0) h S)) else (2, 0, S)
abbrev r_ok (ru tg da ac : Int32) : Prop := (0 ≤ ru ∧ ru ≤ 5) ∧ (-1 ≤ tg ∧ tg ≤ 3) ∧ (0 ≤ da ∧ da ≤ 10000) ∧ (1 ≤ ac ∧ ac ≤ 4)
def o_rule (day ru tg da ac : Int32) (S : PS) : OR := if r_ok ru tg da ac then (0, 0, p_log day 9 ru ac S) else (1, 0, S)
def n_rule (ru tg cu da ac : Int32) (Rs : List RW) : List RW := if r_ok ru tg da ac then Rs.set ru.toNatClampNeg (upd (upd (upd (upd (rw_at Rs ru.toNatClampNeg) 0 tg) 1 cu) 2 da) 3 ac) else Rs
def o_unrule (day ru : Int32) (Rs : List RW) (S : PS) : OR := if 0 ≤ ru ∧ ru ≤ 5 then (if rw_at Rs ru.toNatClampNeg 3 = 0 then (0, 0, S) else (0, 1, p_log day 10 ru 0 S)) else (1, 0, S)
def n_unrule (ru : Int32) (Rs : List RW) : List RW := if 0 ≤ ru ∧ ru ≤ 5 then (if rw_at Rs ru.toNatClampNeg 3 = 0 then Rs else Rs.set ru.toNatClampNeg (upd (rw_at Rs ru.toNatClampNeg) 3 0)) else Rs
def f_day (day : Int32) (r : RW) : Int32 := day + (if r 5 = 3 then 3 else 1)
def o_fetch (day v days : Int32) (S : PS) : OR := match rw_obj S.1 v with
  | none => (1, 0, S)
  | some i => if 1 ≤ days ∧ days ≤ 100 then (if 2 ≤ rw_at S.1 i 5 then (0, f_day day (rw_at S.1 i), p_set day i (upd (upd (rw_at S.1 i) 11 (f_day day (rw_at S.1 i))) 12 (f_day day (rw_at S.1 i) + days)) 8 (rw_at S.1 i 0) (f_day day (rw_at S.1 i)) S) else (3, 0, S)) else (2, 0, S)
abbrev g_cold (day : Int32) (r : RW) : Prop := 2 ≤ r 5 ∧ ¬ (r 11 ≤ day ∧ day < r 12)
def o_read (day v : Int32) (S : PS) : OR := match rw_obj S.1 v with
  | none => (1, 0, S)
  | some i => if g_cold day (rw_at S.1 i) then (2, 0, S) else (0, rw_at S.1 i 3, S)
def o_current (k : Int32) (S : PS) : OR := match rw_latest S.1 k with
  | none => (1, 0, S)
  | some o => if rw_at S.1 o 5 = -1 then (1, 0, S) else (0, rw_at S.1 o 0, S)
def o_about (day v what : Int32) (S : PS) : OR := match rw_lastN S.1 v S.1.length with
  | none => (1, 0, S)
  | some i => if 0 ≤ what ∧ what ≤ 7 then (0, rw_about (rw_at S.1 i) day what, S) else (2, 0, S)
def o_entry (k what : Int32) (S : PS) : OR := if 0 ≤ what ∧ what ≤ 3 then (if 0 ≤ k ∧ k ≤ 63 ∧ k < nI S.2.1.2.1 then (0, S.2.1.1 ((S.2.1.2.1 - 1 - k.toNatClampNeg) % 64 * 4 + what.toNatClampNeg), S) else (2, 0, S)) else (1, 0, S)
def o_figure (day k : Int32) (S : PS) : OR := if 0 ≤ k ∧ k ≤ 5 then (0, rw_fig S.1 day (nI S.2.2) (nI S.2.1.2.1) k, S) else (1, 0, S)
def o_tick (day days : Int32) (Rs : List RW) (S : PS) : OR := if 0 ≤ days ∧ days ≤ 1000 then (0, nI (p_tick Rs days.toNatClampNeg day S).2.1.2.1 - nI S.2.1.2.1, p_tick Rs days.toNatClampNeg day S) else (1, 0, S)
def d_tick (day days : Int32) : Int32 := if 0 ≤ days ∧ days ≤ 1000 then day + days else day

theorem om_none {S : PS} {day k : Int32} (h : rw_latest S.1 k = none) : o_mark day k S = ((1, 0, S) : OR) := by
  unfold o_mark
  rw [h] <;> rfl
theorem om_mk {S : PS} {day k : Int32} {i : Nat} (h : rw_latest S.1 k = (some i)) (h5 : rw_at S.1 i 5 = -1) : o_mark day k S = ((1, 0, S) : OR) := by
  unfold o_mark
  rw [h]
  exact if_pos h5
theorem om_full {S : PS} {day k : Int32} {i : Nat} (h : rw_latest S.1 k = (some i)) (h5 : ¬ rw_at S.1 i 5 = -1) (h4 : 40 ≤ S.1.length) : o_mark day k S = ((2, 0, S) : OR) := by
  unfold o_mark
  rw [h]
  exact (if_neg h5).trans (if_pos h4)
theorem om_ok {S : PS} {day k : Int32} {i : Nat} (h : rw_latest S.1 k = (some i)) (h5 : ¬ rw_at S.1 i 5 = -1) (h4 : ¬ 40 ≤ S.1.length) : o_mark day k S = ((0, nI S.2.2, p_mark day k S) : OR) := by
  unfold o_mark
  rw [h]
  exact (if_neg h5).trans (if_neg h4)
theorem oe_none {S : PS} {day v fo : Int32} (h : rw_lastN S.1 v S.1.length = none) : o_erase day v fo S = ((1, 0, S) : OR) := by
  unfold o_erase
  rw [h] <;> rfl
theorem oe_grd {S : PS} {day v fo : Int32} {i : Nat} (h : rw_lastN S.1 v S.1.length = (some i)) (hg : g_erase day fo (rw_at S.1 i)) : o_erase day v fo S = ((2, 0, S) : OR) := by
  unfold o_erase
  rw [h]
  exact if_pos hg
theorem oe_ok {S : PS} {day v fo : Int32} {i : Nat} (h : rw_lastN S.1 v S.1.length = (some i)) (hg : ¬ g_erase day fo (rw_at S.1 i)) : o_erase day v fo S = ((0, rw_at S.1 i 1, p_take day i S) : OR) := by
  unfold o_erase
  rw [h]
  exact if_neg hg
theorem or_none {S : PS} {day v days st : Int32} (h : rw_obj S.1 v = none) : o_retain day v days st S = ((1, 0, S) : OR) := by
  unfold o_retain
  rw [h] <;> rfl
theorem or_bad {S : PS} {day v days st : Int32} {i : Nat} (h : rw_obj S.1 v = (some i)) (hd : ¬ (0 ≤ days ∧ days ≤ 10000)) : o_retain day v days st S = ((2, 0, S) : OR) := by
  unfold o_retain
  rw [h]
  exact if_neg hd
theorem or_weak {S : PS} {day v days st : Int32} {i : Nat} (h : rw_obj S.1 v = (some i)) (hd : 0 ≤ days ∧ days ≤ 10000) (hg : g_weak day days st (rw_at S.1 i)) : o_retain day v days st S = ((3, 0, S) : OR) := by
  unfold o_retain
  rw [h]
  exact (if_pos hd).trans (if_pos hg)
theorem or_ok {S : PS} {day v days st : Int32} {i : Nat} (h : rw_obj S.1 v = (some i)) (hd : 0 ≤ days ∧ days ≤ 10000) (hg : ¬ g_weak day days st (rw_at S.1 i)) : o_retain day v days st S = ((0, 0, p_set day i (upd (upd (rw_at S.1 i) 8 (day + days)) 9 st) 5 (rw_at S.1 i 0) (day + days) S) : OR) := by
  unfold o_retain
  rw [h]
  exact (if_pos hd).trans (if_neg hg)
theorem oh_none {S : PS} {day k v on : Int32} (h : rw_obj S.1 v = none) : o_hold day v k on S = ((1, 0, S) : OR) := by
  unfold o_hold
  rw [h] <;> rfl
theorem oh_bad {S : PS} {day k v on : Int32} {i : Nat} (h : rw_obj S.1 v = (some i)) (hd : ¬ (0 ≤ k ∧ k ≤ 7)) : o_hold day v k on S = ((2, 0, S) : OR) := by
  unfold o_hold
  rw [h]
  exact if_neg hd
theorem oh_same {S : PS} {day k v on : Int32} {i : Nat} (h : rw_obj S.1 v = (some i)) (hd : 0 ≤ k ∧ k ≤ 7) (hg : bI (rw_at S.1 i 10 &&& (1 <<< (k &&& 31)) ≠ 0) = on) : o_hold day v k on S = ((0, 0, S) : OR) := by
  unfold o_hold
  rw [h]
  exact (if_pos hd).trans (if_pos hg)
theorem oh_ok {S : PS} {day k v on : Int32} {i : Nat} (h : rw_obj S.1 v = (some i)) (hd : 0 ≤ k ∧ k ≤ 7) (hg : ¬ bI (rw_at S.1 i 10 &&& (1 <<< (k &&& 31)) ≠ 0) = on) : o_hold day v k on S = ((0, 1, p_set day i (upd (rw_at S.1 i) 10 (rw_at S.1 i 10 ^^^ (1 <<< (k &&& 31)))) (if on = 0 then 7 else 6) (rw_at S.1 i 0) k S) : OR) := by
  unfold o_hold
  rw [h]
  exact (if_pos hd).trans (if_neg hg)
theorem of_none {S : PS} {day v days : Int32} (h : rw_obj S.1 v = none) : o_fetch day v days S = ((1, 0, S) : OR) := by
  unfold o_fetch
  rw [h] <;> rfl
theorem of_bad {S : PS} {day v days : Int32} {i : Nat} (h : rw_obj S.1 v = (some i)) (hd : ¬ (1 ≤ days ∧ days ≤ 100)) : o_fetch day v days S = ((2, 0, S) : OR) := by
  unfold o_fetch
  rw [h]
  exact if_neg hd
theorem of_warm {S : PS} {day v days : Int32} {i : Nat} (h : rw_obj S.1 v = (some i)) (hd : 1 ≤ days ∧ days ≤ 100) (hg : ¬ 2 ≤ rw_at S.1 i 5) : o_fetch day v days S = ((3, 0, S) : OR) := by
  unfold o_fetch
  rw [h]
  exact (if_pos hd).trans (if_neg hg)
theorem of_ok {S : PS} {day v days : Int32} {i : Nat} (h : rw_obj S.1 v = (some i)) (hd : 1 ≤ days ∧ days ≤ 100) (hg : 2 ≤ rw_at S.1 i 5) : o_fetch day v days S = ((0, f_day day (rw_at S.1 i), p_set day i (upd (upd (rw_at S.1 i) 11 (f_day day (rw_at S.1 i))) 12 (f_day day (rw_at S.1 i) + days)) 8 (rw_at S.1 i 0) (f_day day (rw_at S.1 i)) S) : OR) := by
  unfold o_fetch
  rw [h]
  exact (if_pos hd).trans (if_pos hg)
theorem oa_none {S : PS} {day v : Int32} (h : rw_obj S.1 v = none) : o_read day v S = ((1, 0, S) : OR) := by
  unfold o_read
  rw [h] <;> rfl
theorem oa_cold {S : PS} {day v : Int32} {i : Nat} (h : rw_obj S.1 v = (some i)) (hg : g_cold day (rw_at S.1 i)) : o_read day v S = ((2, 0, S) : OR) := by
  unfold o_read
  rw [h]
  exact if_pos hg
theorem oa_ok {S : PS} {day v : Int32} {i : Nat} (h : rw_obj S.1 v = (some i)) (hg : ¬ g_cold day (rw_at S.1 i)) : o_read day v S = ((0, rw_at S.1 i 3, S) : OR) := by
  unfold o_read
  rw [h]
  exact if_neg hg
theorem oc_none {S : PS} {k : Int32} (h : rw_latest S.1 k = none) : o_current k S = ((1, 0, S) : OR) := by
  unfold o_current
  rw [h] <;> rfl
theorem oc_mk {S : PS} {k : Int32} {i : Nat} (h : rw_latest S.1 k = (some i)) (h5 : rw_at S.1 i 5 = -1) : o_current k S = ((1, 0, S) : OR) := by
  unfold o_current
  rw [h]
  exact if_pos h5
theorem oc_ok {S : PS} {k : Int32} {i : Nat} (h : rw_latest S.1 k = (some i)) (h5 : ¬ rw_at S.1 i 5 = -1) : o_current k S = ((0, rw_at S.1 i 0, S) : OR) := by
  unfold o_current
  rw [h]
  exact if_neg h5
theorem ob_none {S : PS} {day v what : Int32} (h : rw_lastN S.1 v S.1.length = none) : o_about day v what S = ((1, 0, S) : OR) := by
  unfold o_about
  rw [h] <;> rfl
theorem ob_bad {S : PS} {day v what : Int32} {i : Nat} (h : rw_lastN S.1 v S.1.length = (some i)) (hd : ¬ (0 ≤ what ∧ what ≤ 7)) : o_about day v what S = ((2, 0, S) : OR) := by
  unfold o_about
  rw [h]
  exact if_neg hd
theorem ob_ok {S : PS} {day v what : Int32} {i : Nat} (h : rw_lastN S.1 v S.1.length = (some i)) (hd : 0 ≤ what ∧ what ≤ 7) : o_about day v what S = ((0, rw_about (rw_at S.1 i) day what, S) : OR) := by
  unfold o_about
  rw [h]
  exact if_pos hd
theorem rw_obj_some {rows : List RW} {v : Int32} {i : Nat} (h : rw_obj rows v = some i) : rw_lastN rows v rows.length = some i ∧ 0 < rw_at rows i 3 := by
  unfold rw_obj at h
  split at h
  · cases h
  · rename_i j hj
    split at h
    · cases h; rename_i hs; exact ⟨hj, hs⟩
    · cases h
theorem rw_obj_lt {rows : List RW} {v : Int32} {i : Nat} (h : rw_obj rows v = some i) : i < rows.length := (rw_lastN_lt (rw_obj_some h).1).1
theorem rw_obj_num {rows : List RW} {v : Int32} {i : Nat} (h : rw_obj rows v = some i) : rw_at rows i 0 = v := (rw_lastN_lt (rw_obj_some h).1).2
theorem n40 {n : Nat} (h : n ≤ 40) : nI n = 40 ↔ 40 ≤ n := by
  rw [show (40 : Int32) = nI 40 from rfl, nI_eq (by omega) (by omega)]
  omega
/-! one bit of an int -/
theorem bit_k (x : Int32) (k : Nat) (hk : k < 8) (m s : Int32) (hm : m.toBitVec = BitVec.twoPow 32 k) (hs : s.toBitVec = BitVec.ofNat 32 k) : (x >>> s) &&& 1 = bI (x &&& m ≠ 0) := by
  have e1 : ((x >>> s) &&& 1).toBitVec = BitVec.setWidth 32 (BitVec.ofBool (x.toBitVec.getLsbD k)) := by
    rw [Int32.toBitVec_and, Int32.toBitVec_shiftRight, hs]
    have e32 : (BitVec.ofNat 32 k).smod 32 = BitVec.ofNat 32 k := by
      rcases (by omega : k = 0 ∨ k = 1 ∨ k = 2 ∨ k = 3 ∨ k = 4 ∨ k = 5 ∨ k = 6 ∨ k = 7) with rfl | rfl | rfl | rfl | rfl | rfl | rfl | rfl <;> decide
    rw [e32]
    have e2 : (1 : Int32).toBitVec = 1#32 := rfl
    rw [e2, BitVec.and_one_eq_setWidth_ofBool_getLsbD]
    congr 2
    rw [BitVec.sshiftRight_eq', BitVec.getLsbD_sshiftRight]
    have e3 : (BitVec.ofNat 32 k).toNat = k := by rw [BitVec.toNat_ofNat]; omega
    rw [e3]
    simp
    omega
  have e2 : (x &&& m).toBitVec = if x.toBitVec.getLsbD k then BitVec.twoPow 32 k else 0#32 := by
    rw [Int32.toBitVec_and, hm, BitVec.and_twoPow]
  apply Int32.toBitVec_inj.mp
  rw [e1]
  by_cases hb : x.toBitVec.getLsbD k = true
  · rw [bI_t]
    · rw [hb]; rfl
    · intro h
      rw [h, if_pos hb] at e2
      rcases (by omega : k = 0 ∨ k = 1 ∨ k = 2 ∨ k = 3 ∨ k = 4 ∨ k = 5 ∨ k = 6 ∨ k = 7) with rfl | rfl | rfl | rfl | rfl | rfl | rfl | rfl <;> exact absurd e2 (by decide)
  · rw [bI_f]
    · rw [Bool.eq_false_iff.mpr hb]; rfl
    · intro h
      apply h
      apply Int32.toBitVec_inj.mp
      rw [e2, if_neg hb]
      rfl
theorem bit_h {x h : Int32} (hd : 0 ≤ h ∧ h ≤ 7) : (x >>> (h &&& 31)) &&& 1 = bI (x &&& (1 <<< (h &&& 31)) ≠ 0) := by
  obtain ⟨j, hj, rfl⟩ := nI_of2 (x := h) (M := 7) (n := 7) (by decide) (Int32.not_lt.mpr hd.1) hd.2
  rcases (by omega : j = 0 ∨ j = 1 ∨ j = 2 ∨ j = 3 ∨ j = 4 ∨ j = 5 ∨ j = 6 ∨ j = 7) with rfl | rfl | rfl | rfl | rfl | rfl | rfl | rfl
  · exact bit_k x 0 (by decide) _ _ (by decide) (by decide)
  · exact bit_k x 1 (by decide) _ _ (by decide) (by decide)
  · exact bit_k x 2 (by decide) _ _ (by decide) (by decide)
  · exact bit_k x 3 (by decide) _ _ (by decide) (by decide)
  · exact bit_k x 4 (by decide) _ _ (by decide) (by decide)
  · exact bit_k x 5 (by decide) _ _ (by decide) (by decide)
  · exact bit_k x 6 (by decide) _ _ (by decide) (by decide)
  · exact bit_k x 7 (by decide) _ _ (by decide) (by decide)
