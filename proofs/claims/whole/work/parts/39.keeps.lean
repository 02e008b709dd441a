/-! What stays true from call to call. -/
def okS (n : Nat) (S : PS) : Prop := PI S ∧ S.2.2 + pot S.1 ≤ 2 * n ∧ S.2.1.2.1 ≤ 280001 * n
theorem okS_up {n : Nat} {S : PS} (h : okS n S) : okS (n + 1) S := ⟨h.1, by have := h.2.1; omega, by have := h.2.2; omega⟩
theorem okS_log {n : Nat} {S : PS} {day kd nu de : Int32} (h : okS n S) : okS (n + 1) (p_log day kd nu de S) := by
  refine ⟨h.1, ?_, ?_⟩
  · show S.2.2 + pot S.1 ≤ _
    have := h.2.1; omega
  · show S.2.1.2.1 + 1 ≤ _
    have := h.2.2; omega
theorem okS_set {n : Nat} {S : PS} {day kd nu de : Int32} {i : Nat} {r : RW} (h : okS n S) (hi : i < S.1.length) (h0 : r 0 = rw_at S.1 i 0) (h1 : r 1 = rw_at S.1 i 1) (h5 : r 5 = rw_at S.1 i 5) (h6 : r 6 = rw_at S.1 i 6) (hk : kO r) : okS (n + 1) (p_set day i r kd nu de S) := by
  obtain ⟨⟨hl, hc, hko, hn⟩, hp, hw⟩ := h
  have hat : ∀ j, rw_at (S.1.set i r) j = if j = i then r else rw_at S.1 j := fun j => rw_at_set hi
  have hcol : ∀ c, r c = rw_at S.1 i c → ∀ j, rw_at (S.1.set i r) j c = rw_at S.1 j c := by
    intro c hc9 j
    rw [hat]
    split
    · rename_i e; rw [e, hc9]
    · rfl
  have hlen : (S.1.set i r).length = S.1.length := List.length_set
  have hq : q_cur r = q_cur (rw_at S.1 i) := by unfold q_cur; rw [h5, h6]
  refine ⟨⟨by show (S.1.set i r).length ≤ 40; rw [hlen]; exact hl, cur_congr hlen.symm (fun j _ => (hcol 1 h1 j).symm) (fun j _ => (hcol 6 h6 j).symm) hc, ?_, ?_, ?_⟩, ?_, ?_⟩
  · intro j hj
    have hj : j < (S.1.set i r).length := hj
    rw [hlen] at hj
    show kO (rw_at (S.1.set i r) j)
    rw [hat]
    split
    · exact hk
    · exact hko j hj
  · intro j hj
    have hj : j < (S.1.set i r).length := hj
    rw [hlen] at hj
    show ∃ n, rw_at (S.1.set i r) j 0 = nI n ∧ n < S.2.2
    rw [hcol 0 h0]
    exact hn.1 j hj
  · intro j k hjk hk2
    have hk2 : k < (S.1.set i r).length := hk2
    rw [hlen] at hk2
    show rw_at (S.1.set i r) j 0 < rw_at (S.1.set i r) k 0
    rw [hcol 0 h0, hcol 0 h0]
    exact hn.2 j k hjk hk2
  · show S.2.2 + pot (S.1.set i r) ≤ _
    rw [pot_set_same hi hq]
    omega
  · show S.2.1.2.1 + 1 ≤ _
    omega
theorem pot_set_le {rows : List RW} {i : Nat} {r : RW} (hi : i < rows.length) : pot (rows.set i r) ≤ pot rows + 1 := by
  unfold pot
  rw [List.countP_set hi]
  split <;> split <;> omega
theorem pot_set_no {rows : List RW} {i : Nat} {r : RW} (hi : i < rows.length) (h : q_cur r = false) : pot (rows.set i r) ≤ pot rows := by
  unfold pot
  rw [List.countP_set hi, h]
  split <;> simp
theorem pot_old_le {rows : List RW} {day k : Int32} : pot (rw_old rows day k) ≤ pot rows := by
  unfold rw_old
  split
  · exact Nat.le_refl _
  · rename_i o ho
    exact pot_set_no (rw_last_some.mp ho).1 (decide_eq_false (fun q => q.1 rfl))
theorem pot_add_le {rows : List RW} {day : Int32} {row : RW} : pot (rw_add rows day row) ≤ pot rows + 1 := by
  have h := pot_old_le (rows := rows) (day := day) (k := row 1)
  unfold rw_add
  unfold pot at h ⊢
  rw [List.countP_append, List.countP_singleton]
  split <;> omega
theorem pot_take_le {rows : List RW} {i : Nat} : pot (rw_take rows i) ≤ pot rows + 1 := by
  have h : pot (rows.eraseIdx i) ≤ pot rows := List.Sublist.countP_le (List.eraseIdx_sublist _ _)
  unfold rw_take rw_new
  split
  · omega
  · rename_i o ho
    have := pot_set_le (rows := rows.eraseIdx i) (r := upd (rw_at (rows.eraseIdx i) o) 6 1) (rw_last_some.mp ho).1
    omega
theorem okS_add {n : Nat} {S : PS} {day : Int32} {row : RW} (h : okS n S) (hn : n ≤ 1000) (hl : S.1.length < 40) (hk : kO row) (h6 : row 6 = 1) (h0 : row 0 = nI S.2.2) : okS (n + 1) (p_add day row S) := by
  have hp := h.2.1
  refine ⟨(PI_add (day := day) h.1 hl hk h6 h0 (by omega)).1, ?_, ?_⟩
  · show S.2.2 + 1 + pot (rw_add S.1 day row) ≤ _
    have := pot_add_le (rows := S.1) (day := day) (row := row)
    omega
  · show S.2.1.2.1 + 1 ≤ _
    have := h.2.2; omega
theorem okS_take {n : Nat} {S : PS} {day : Int32} {i : Nat} (h : okS n S) (hi : i < S.1.length) : okS (n + 1) (p_take day i S) := by
  refine ⟨(PI_take (day := day) h.1 hi).1, ?_, ?_⟩
  · show S.2.2 + pot (rw_take S.1 i) ≤ _
    have := pot_take_le (rows := S.1) (i := i)
    have := h.2.1; omega
  · show S.2.1.2.1 + 1 ≤ _
    have := h.2.2; omega
theorem p_tick_lg {Rs : List RW} (hRs : Rs.length = 6) (hR : ∀ R ∈ Rs, rOK R) : ∀ {n : Nat} {day : Int32} {S : PS}, PI S → S.2.2 + pot S.1 < 2 ^ 31 → (p_tick Rs n day S).2.1.2.1 ≤ S.2.1.2.1 + 280 * n := by
  intro n
  induction n with
  | zero => intro day S _ _; exact Nat.le_refl _
  | succ n ih =>
    intro day S h hev
    obtain ⟨a1, a2⟩ := PI_day (day := day + 1) hR h hev
    have h1 := p_day_lg (day := day + 1) hRs h
    have h2 := ih (day := day + 1) a1 (by omega)
    show (p_tick Rs n (day + 1) (p_day Rs (day + 1) S)).2.1.2.1 ≤ _
    omega
theorem okS_tick {n : Nat} {S : PS} {day : Int32} {Rs : List RW} {j : Nat} (h : okS n S) (hn : n ≤ 1000) (hRs : Rs.length = 6) (hR : ∀ R ∈ Rs, rOK R) (hj : j ≤ 1000) : okS (n + 1) (p_tick Rs j day S) := by
  have hp := h.2.1
  have hw := h.2.2
  obtain ⟨a1, a2⟩ := PI_tick (n := j) (day := day) hR h.1 (by omega)
  have h1 := p_tick_lg hRs hR (n := j) (day := day) h.1 (by omega)
  exact ⟨a1, by omega, by omega⟩
theorem kO_obj_tier {r : RW} (h : kO r) (hs : 0 < r 3) : 0 ≤ r 5 ∧ r 5 ≤ 3 := by
  rcases h.2 with ⟨-, h3, -⟩ | ⟨h1, h2, -⟩
  · rw [h3] at hs; exact absurd hs (by decide)
  · exact ⟨h1, h2⟩
/-! each call -/
theorem ok_put {n : Nat} {S : PS} {day k si tg : Int32} (h : okS n S) (hn : n ≤ 1000) : okS (n + 1) (o_put day k si tg S).2.2 := by
  unfold o_put
  split
  · rename_i hq
    split
    · exact okS_up h
    · rename_i h4
      exact okS_add h hn (by omega) (kO_obj (Int32.lt_of_lt_of_le (by decide) hq.1.1)) rfl rfl
  · exact okS_up h
theorem ok_mark {n : Nat} {S : PS} {day k : Int32} (h : okS n S) (hn : n ≤ 1000) : okS (n + 1) (o_mark day k S).2.2 := by
  unfold o_mark
  split
  · exact okS_up h
  · split
    · exact okS_up h
    · split
      · exact okS_up h
      · rename_i h4
        exact okS_add h hn (by omega) kO_mark rfl rfl
theorem ok_erase {n : Nat} {S : PS} {day v fo : Int32} (h : okS n S) : okS (n + 1) (o_erase day v fo S).2.2 := by
  unfold o_erase
  split
  · exact okS_up h
  · rename_i i hi
    split
    · exact okS_up h
    · exact okS_take h (rw_lastN_lt hi).1
theorem ok_retain {n : Nat} {S : PS} {day v days st : Int32} (hb : st = 0 ∨ st = 1) (h : okS n S) : okS (n + 1) (o_retain day v days st S).2.2 := by
  unfold o_retain
  split
  · exact okS_up h
  · rename_i i hi
    split
    · split
      · exact okS_up h
      · have hil := rw_obj_lt hi
        refine okS_set h hil rfl rfl rfl rfl ⟨hb, Or.inr ⟨?_, ?_, (rw_obj_some hi).2⟩⟩
        · exact (kO_obj_tier (h.1.2.2.1 i hil) (rw_obj_some hi).2).1
        · exact (kO_obj_tier (h.1.2.2.1 i hil) (rw_obj_some hi).2).2
    · exact okS_up h
theorem ok_hold {n : Nat} {S : PS} {day v k on : Int32} (h : okS n S) : okS (n + 1) (o_hold day v k on S).2.2 := by
  unfold o_hold
  split
  · exact okS_up h
  · rename_i i hi
    split
    · split
      · exact okS_up h
      · have hil := rw_obj_lt hi
        refine okS_set h hil rfl rfl rfl rfl ⟨(h.1.2.2.1 i hil).1, Or.inr ⟨?_, ?_, (rw_obj_some hi).2⟩⟩
        · exact (kO_obj_tier (h.1.2.2.1 i hil) (rw_obj_some hi).2).1
        · exact (kO_obj_tier (h.1.2.2.1 i hil) (rw_obj_some hi).2).2
    · exact okS_up h
theorem ok_fetch {n : Nat} {S : PS} {day v days : Int32} (h : okS n S) : okS (n + 1) (o_fetch day v days S).2.2 := by
  unfold o_fetch
  split
  · exact okS_up h
  · rename_i i hi
    split
    · split
      · have hil := rw_obj_lt hi
        refine okS_set h hil rfl rfl rfl rfl ⟨(h.1.2.2.1 i hil).1, Or.inr ⟨?_, ?_, (rw_obj_some hi).2⟩⟩
        · exact (kO_obj_tier (h.1.2.2.1 i hil) (rw_obj_some hi).2).1
        · exact (kO_obj_tier (h.1.2.2.1 i hil) (rw_obj_some hi).2).2
      · exact okS_up h
    · exact okS_up h
theorem ok_rule {n : Nat} {S : PS} {day ru tg da ac : Int32} (h : okS n S) : okS (n + 1) (o_rule day ru tg da ac S).2.2 := by
  unfold o_rule
  split
  · exact okS_log h
  · exact okS_up h
theorem ok_unrule {n : Nat} {S : PS} {day ru : Int32} {Rs : List RW} (h : okS n S) : okS (n + 1) (o_unrule day ru Rs S).2.2 := by
  unfold o_unrule
  split
  · split
    · exact okS_up h
    · exact okS_log h
  · exact okS_up h
theorem ok_read {n : Nat} {S : PS} {day v : Int32} (h : okS n S) : okS (n + 1) (o_read day v S).2.2 := by
  unfold o_read
  split
  · exact okS_up h
  · split <;> exact okS_up h
theorem ok_current {n : Nat} {S : PS} {k : Int32} (h : okS n S) : okS (n + 1) (o_current k S).2.2 := by
  unfold o_current
  split
  · exact okS_up h
  · split <;> exact okS_up h
theorem ok_about {n : Nat} {S : PS} {day v what : Int32} (h : okS n S) : okS (n + 1) (o_about day v what S).2.2 := by
  unfold o_about
  split
  · exact okS_up h
  · split <;> exact okS_up h
theorem ok_entry {n : Nat} {S : PS} {k what : Int32} (h : okS n S) : okS (n + 1) (o_entry k what S).2.2 := by
  unfold o_entry
  split
  · split <;> exact okS_up h
  · exact okS_up h
theorem ok_figure {n : Nat} {S : PS} {day k : Int32} (h : okS n S) : okS (n + 1) (o_figure day k S).2.2 := by
  unfold o_figure
  split <;> exact okS_up h
theorem tick_n {days : Int32} (hd : 0 ≤ days ∧ days ≤ 1000) : ∃ j, j ≤ 1000 ∧ days = nI j ∧ days.toNatClampNeg = j := by
  obtain ⟨j, hj, rfl⟩ := nI_of2 (x := days) (M := 1000) (n := 1000) (by decide) (Int32.not_lt.mpr hd.1) hd.2
  exact ⟨j, hj, rfl, nI_clamp (by omega)⟩
theorem ok_tick {n : Nat} {S : PS} {day days : Int32} {Rs : List RW} (h : okS n S) (hn : n ≤ 1000) (hRs : Rs.length = 6) (hR : ∀ R ∈ Rs, rOK R) : okS (n + 1) (o_tick day days Rs S).2.2 := by
  unfold o_tick
  split
  · rename_i hd
    obtain ⟨j, h1, h2, h3⟩ := tick_n hd
    rw [h3]
    exact okS_tick h hn hRs hR h1
  · exact okS_up h
def okR (Rs : List RW) : Prop := Rs.length = 6 ∧ ∀ R ∈ Rs, rOK R
theorem okR_I {Rs : List RW} (h : okR Rs) : rI Rs := by
  intro r hr
  have h1 : rw_at Rs r ∈ Rs := by rw [rw_at_get (by have := h.1; omega)]; exact List.getElem_mem _
  exact h.2 _ h1
theorem okR_rule {Rs : List RW} {ru tg cu da ac : Int32} (hb : cu = 0 ∨ cu = 1) (h : okR Rs) : okR (n_rule ru tg cu da ac Rs) := by
  unfold n_rule
  split
  · rename_i hq
    refine ⟨by rw [List.length_set]; exact h.1, fun R hR => ?_⟩
    rcases List.mem_or_eq_of_mem_set hR with h1 | h1
    · exact h.2 R h1
    · rw [h1]
      exact ⟨Int32.le_trans (by decide) hq.2.2.2.1, hq.2.2.2.2, hq.2.1.1, hb⟩
  · exact h
theorem okR_unrule {Rs : List RW} {ru : Int32} (h : okR Rs) : okR (n_unrule ru Rs) := by
  unfold n_unrule
  split
  · rename_i hq
    split
    · exact h
    · refine ⟨by rw [List.length_set]; exact h.1, fun R hR => ?_⟩
      rcases List.mem_or_eq_of_mem_set hR with h1 | h1
      · exact h.2 R h1
      · obtain ⟨j, hj, rfl⟩ := nI_of2 (x := ru) (M := 5) (n := 5) (by decide) (Int32.not_lt.mpr hq.1) hq.2
        have h9 := okR_I h j (by omega)
        rw [h1, nI_clamp (by omega)]
        exact ⟨show (0 : Int32) ≤ 0 by decide, show (0 : Int32) ≤ 4 by decide, h9.2.2.1, h9.2.2.2⟩
  · exact h
def okD (n : Nat) (day : Int32) : Prop := ∃ d, day = nI d ∧ d ≤ 1000 * n
theorem okD_up {n : Nat} {day : Int32} (h : okD n day) : okD (n + 1) day := by
  obtain ⟨d, h1, h2⟩ := h
  exact ⟨d, h1, by omega⟩
theorem okD_tick {n : Nat} {day days : Int32} (h : okD n day) : okD (n + 1) (d_tick day days) := by
  unfold d_tick
  split
  · rename_i hd
    obtain ⟨d, h1, h2⟩ := h
    obtain ⟨j, h3, h4, -⟩ := tick_n hd
    exact ⟨d + j, by rw [h1, h4, nI_add], by omega⟩
  · exact okD_up h
theorem okD_0 {n : Nat} {day : Int32} (h : okD n day) (hn : n ≤ 1000) : 0 ≤ day := by
  obtain ⟨d, h1, h2⟩ := h
  rw [h1]
  exact nI_pos' (by omega)
