/-! The vault as pure functions of its table, its log and its count. Laid by program (wip/whole/p21.py) -/
abbrev PS : Type := List RW × LG × Nat
def mkMark (nu ke da : Int32) : RW := upd (upd (upd (upd (upd rw0 0 nu) 1 ke) 2 da) 5 (-1)) 6 1
def mkObj (nu ke da si tg : Int32) : RW := upd (upd (upd (mkMark nu ke da) 3 si) 4 tg) 5 0
abbrev p_due (R r : RW) (day : Int32) : Prop := R 3 ≠ 0 ∧ (R 0 = -1 ∨ R 0 = r 4) ∧ R 1 = r 6 ∧ ¬ day < (if r 6 = 0 then r 7 else r 2) + R 2
abbrev p_grd (r : RW) (day : Int32) : Prop := r 10 ≠ 0 ∨ day < r 8
def p_add (day : Int32) (row : RW) (S : PS) : PS := (rw_add S.1 day row, lg_wr S.2.1 day (if row 5 = -1 then 2 else 1) (row 0) (row 1), S.2.2 + 1)
def p_mark (day key : Int32) (S : PS) : PS := p_add day (mkMark (nI S.2.2) key day) S
def p_take (day : Int32) (i : Nat) (S : PS) : PS := (rw_take S.1 i, lg_wr S.2.1 day 3 (rw_at S.1 i 0) (rw_at S.1 i 1), S.2.2)
def p_cool (day : Int32) (i : Nat) (t : Int32) (S : PS) : PS := if rw_at S.1 i 5 < t then (S.1.set i (upd (rw_at S.1 i) 5 t), lg_wr S.2.1 day 4 (rw_at S.1 i 0) t, S.2.2) else S
/-- the rules, one after the other, for row i; true: the row was taken away -/
def p_rules (day : Int32) (i : Nat) : List RW → PS → PS × Bool
  | [], S => (S, false)
  | R :: Rs, S =>
    if p_due R (rw_at S.1 i) day then
      if R 3 = 4 then
        if rw_at S.1 i 6 = 0 then
          if p_grd (rw_at S.1 i) day then p_rules day i Rs S else (p_take day i S, true)
        else if 40 ≤ S.1.length then p_rules day i Rs S else (p_mark day (rw_at S.1 i 1) S, false)
      else p_rules day i Rs (p_cool day i (R 3) S)
    else p_rules day i Rs S
def p_vers (Rs : List RW) (day : Int32) : Nat → Nat → PS → PS
  | 0, _, S => S
  | left + 1, i, S => if rw_at S.1 i 5 = -1 then p_vers Rs day left (i + 1) S else if (p_rules day i Rs S).2 = true then p_vers Rs day left i (p_rules day i Rs S).1 else p_vers Rs day left (i + 1) (p_rules day i Rs S).1
def rw_aloneB (rows : List RW) (i : Nat) : Bool := (List.range rows.length).all (fun j => decide (j = i) || decide (rw_at rows j 1 ≠ rw_at rows i 1))
theorem rw_aloneB_iff {rows : List RW} {i : Nat} : rw_aloneB rows i = true ↔ rw_alone rows i := by
  unfold rw_aloneB rw_alone
  rw [List.all_eq_true]
  constructor
  · intro h j hj hne
    have := h j (List.mem_range.mpr hj)
    simpa [hne] using this
  · intro h j hj
    by_cases e : j = i
    · simp [e]
    · simpa [e] using h j (List.mem_range.mp hj) e
def p_lone (day : Int32) : Nat → Nat → PS → PS
  | 0, _, S => S
  | left + 1, i, S => if rw_at S.1 i 5 = -1 ∧ rw_aloneB S.1 i = true then p_lone day left i (p_take day i S) else p_lone day left (i + 1) S
def p_day (Rs : List RW) (day : Int32) (S : PS) : PS := p_lone day (p_vers Rs day S.1.length 0 S).1.length 0 (p_vers Rs day S.1.length 0 S)
def p_tick (Rs : List RW) : Nat → Int32 → PS → PS
  | 0, _, S => S
  | n + 1, day, S => p_tick Rs n (day + 1) (p_day Rs (day + 1) S)
/-! how far the log and the count go -/
theorem rw_take_len {rows : List RW} {i : Nat} (h : i < rows.length) : (rw_take rows i).length = rows.length - 1 := by
  unfold rw_take
  rw [rw_new_len, List.length_eraseIdx, if_pos h]
theorem rw_add_len {rows : List RW} {day : Int32} {row : RW} : (rw_add rows day row).length = rows.length + 1 := by
  unfold rw_add
  rw [List.length_append, rw_old_len, List.length_singleton]
theorem p_cool_len {day : Int32} {i : Nat} {t : Int32} {S : PS} : (p_cool day i t S).1.length = S.1.length := by
  unfold p_cool; split <;> simp
theorem p_cool_lg {day : Int32} {i : Nat} {t : Int32} {S : PS} : S.2.1.2.1 ≤ (p_cool day i t S).2.1.2.1 ∧ (p_cool day i t S).2.1.2.1 ≤ S.2.1.2.1 + 1 ∧ (p_cool day i t S).2.2 = S.2.2 := by
  unfold p_cool; split <;> simp [lg_wr]
theorem p_rules_lg {day : Int32} {i : Nat} : ∀ {Rs : List RW} {S : PS}, S.2.1.2.1 ≤ (p_rules day i Rs S).1.2.1.2.1 ∧ (p_rules day i Rs S).1.2.1.2.1 ≤ S.2.1.2.1 + Rs.length ∧ S.2.2 ≤ (p_rules day i Rs S).1.2.2 := by
  intro Rs
  induction Rs with
  | nil => intro S; exact ⟨Nat.le_refl _, Nat.le_refl _, Nat.le_refl _⟩
  | cons R Rs ih =>
    intro S
    have h0 := ih (S := S)
    have h1 := ih (S := p_cool day i (R 3) S)
    have h2 := p_cool_lg (day := day) (i := i) (t := R 3) (S := S)
    unfold p_rules
    rw [List.length_cons]
    split
    · split
      · split
        · split
          · omega
          · show S.2.1.2.1 ≤ S.2.1.2.1 + 1 ∧ S.2.1.2.1 + 1 ≤ _ ∧ S.2.2 ≤ S.2.2; omega
        · split
          · omega
          · show S.2.1.2.1 ≤ S.2.1.2.1 + 1 ∧ S.2.1.2.1 + 1 ≤ _ ∧ S.2.2 ≤ S.2.2 + 1; omega
      · omega
    · omega
theorem p_vers_lg {Rs : List RW} {day : Int32} : ∀ {left i : Nat} {S : PS}, S.2.1.2.1 ≤ (p_vers Rs day left i S).2.1.2.1 ∧ (p_vers Rs day left i S).2.1.2.1 ≤ S.2.1.2.1 + Rs.length * left ∧ S.2.2 ≤ (p_vers Rs day left i S).2.2 := by
  intro left
  induction left with
  | zero => intro i S; exact ⟨Nat.le_refl _, Nat.le_refl _, Nat.le_refl _⟩
  | succ left ih =>
    intro i S
    have h0 := ih (i := i + 1) (S := S)
    have h1 := ih (i := i) (S := (p_rules day i Rs S).1)
    have h2 := ih (i := i + 1) (S := (p_rules day i Rs S).1)
    have h3 := p_rules_lg (day := day) (i := i) (Rs := Rs) (S := S)
    have e : Rs.length * (left + 1) = Rs.length * left + Rs.length := Nat.mul_succ _ _
    unfold p_vers
    split
    · omega
    · split <;> omega
theorem p_lone_lg {day : Int32} : ∀ {left i : Nat} {S : PS}, S.2.1.2.1 ≤ (p_lone day left i S).2.1.2.1 ∧ (p_lone day left i S).2.1.2.1 ≤ S.2.1.2.1 + left ∧ (p_lone day left i S).2.2 = S.2.2 := by
  intro left
  induction left with
  | zero => intro i S; exact ⟨Nat.le_refl _, Nat.le_refl _, rfl⟩
  | succ left ih =>
    intro i S
    have h0 := ih (i := i + 1) (S := S)
    have h1 := ih (i := i) (S := p_take day i S)
    have h2 : (p_take day i S).2.1.2.1 = S.2.1.2.1 + 1 := rfl
    have h3 : (p_take day i S).2.2 = S.2.2 := rfl
    unfold p_lone
    split <;> omega
theorem p_rules_len {day : Int32} {i : Nat} : ∀ {Rs : List RW} {S : PS}, i < S.1.length → S.1.length ≤ 40 → (p_rules day i Rs S).1.1.length ≤ 40 ∧ ((p_rules day i Rs S).2 = false → S.1.length ≤ (p_rules day i Rs S).1.1.length) ∧ ((p_rules day i Rs S).2 = true → (p_rules day i Rs S).1.1.length + 1 = S.1.length) := by
  intro Rs
  induction Rs with
  | nil => intro S hi h; exact ⟨h, fun _ => Nat.le_refl _, fun h => by cases h⟩
  | cons R Rs ih =>
    intro S hi h
    have h0 := ih (S := S) hi h
    have e2 := p_cool_len (day := day) (i := i) (t := R 3) (S := S)
    have h1 := ih (S := p_cool day i (R 3) S) (by rw [e2]; exact hi) (by rw [e2]; exact h)
    rw [e2] at h1
    unfold p_rules
    split
    · split
      · split
        · split
          · exact h0
          · refine ⟨?_, fun h => (by cases h), fun _ => ?_⟩
            · show (rw_take S.1 i).length ≤ 40; rw [rw_take_len hi]; omega
            · show (rw_take S.1 i).length + 1 = _; rw [rw_take_len hi]; omega
        · split
          · exact h0
          · refine ⟨?_, fun _ => ?_, fun h => (by cases h)⟩
            · show (rw_add S.1 day _).length ≤ 40; rw [rw_add_len]; omega
            · show _ ≤ (rw_add S.1 day _).length; rw [rw_add_len]; omega
      · exact h1
    · exact h0
theorem p_vers_len {Rs : List RW} {day : Int32} : ∀ {left i : Nat} {S : PS}, i + left ≤ S.1.length → S.1.length ≤ 40 → (p_vers Rs day left i S).1.length ≤ 40 := by
  intro left
  induction left with
  | zero => intro i S _ h; exact h
  | succ left ih =>
    intro i S hi h
    have h3 := p_rules_len (day := day) (i := i) (Rs := Rs) (S := S) (by omega) h
    unfold p_vers
    split
    · exact ih (by omega) h
    · split
      · rename_i hg
        have := h3.2.2 hg
        exact ih (by omega) h3.1
      · rename_i hg
        have := h3.2.1 (by cases h9 : (p_rules day i Rs S).2; rfl; exact absurd h9 hg)
        exact ih (by omega) h3.1
