/-! What stays true of the table: kinds, numbers, the number of current objects. -/
/-- a row is a marker or an object -/
def kO (r : RW) : Prop := (r 9 = 0 ∨ r 9 = 1) ∧ ((r 5 = -1 ∧ r 3 = 0 ∧ r 8 = 0 ∧ r 10 = 0 ∧ r 9 = 0) ∨ (0 ≤ r 5 ∧ r 5 ≤ 3 ∧ 0 < r 3))
def rOK (R : RW) : Prop := 0 ≤ R 3 ∧ R 3 ≤ 4 ∧ -1 ≤ R 0 ∧ (R 1 = 0 ∨ R 1 = 1)
/-- numbers rise, and are below the next one -/
def nO (rows : List RW) (ev : Nat) : Prop := (∀ j, j < rows.length → ∃ n, rw_at rows j 0 = nI n ∧ n < ev) ∧ ∀ j k, j < k → k < rows.length → rw_at rows j 0 < rw_at rows k 0
def PI (S : PS) : Prop := S.1.length ≤ 40 ∧ rw_CurOK S.1 ∧ (∀ j, j < S.1.length → kO (rw_at S.1 j)) ∧ nO S.1 S.2.2
def q_cur (r : RW) : Bool := decide (r 6 ≠ 0 ∧ r 5 ≠ -1)
def pot (rows : List RW) : Nat := rows.countP q_cur
theorem pot_le {rows : List RW} : pot rows ≤ rows.length := List.countP_le_length
theorem kO_mark {nu ke da : Int32} : kO (mkMark nu ke da) := ⟨Or.inl rfl, Or.inl ⟨rfl, rfl, rfl, rfl, rfl⟩⟩
theorem kO_obj {nu ke da si tg : Int32} (h : 0 < si) : kO (mkObj nu ke da si tg) := ⟨Or.inl rfl, Or.inr ⟨(show (0 : Int32) ≤ 0 by decide), (show (0 : Int32) ≤ 3 by decide), h⟩⟩
theorem kO_67 {r : RW} {x y : Int32} (h : kO r) : kO (upd (upd r 6 x) 7 y) := h
theorem kO_6 {r : RW} {x : Int32} (h : kO r) : kO (upd r 6 x) := h
theorem kO_size {r : RW} (h : kO r) : (0 < r 3 ↔ ¬ r 5 = -1) ∧ (r 3 = 0 ↔ r 5 = -1) := by
  rcases h.2 with ⟨h1, h2, -⟩ | ⟨h1, -, h3⟩
  · rw [h1, h2]; decide
  · have e1 : ¬ r 5 = -1 := fun e => by rw [e] at h1; exact absurd h1 (by decide)
    have e2 : ¬ r 3 = 0 := fun e => by rw [e] at h3; exact absurd h3 (by decide)
    exact ⟨⟨fun _ => e1, fun _ => h3⟩, ⟨fun e => absurd e e2, fun e => absurd e e1⟩⟩
theorem rw_at_set' {rows : List RW} {i j : Nat} {r : RW} (h : i < rows.length) : rw_at (rows.set i r) j = if j = i then r else rw_at rows j := rw_at_set h
/-! cooling -/
theorem rw_latest_congr {r1 r2 : List RW} (hl : r1.length = r2.length) (h : ∀ j, j < r1.length → rw_at r1 j 1 = rw_at r2 j 1) (k : Int32) : rw_latest r1 k = rw_latest r2 k := by
  unfold rw_latest
  rw [← hl]
  exact rw_last_congr h
theorem cur_congr {r1 r2 : List RW} (hl : r1.length = r2.length) (h1 : ∀ j, j < r1.length → rw_at r1 j 1 = rw_at r2 j 1) (h6 : ∀ j, j < r1.length → rw_at r1 j 6 = rw_at r2 j 6) (h : rw_CurOK r1) : rw_CurOK r2 := by
  intro i hi
  rw [← hl] at hi
  rw [← h6 i hi, ← h1 i hi, ← rw_latest_congr hl h1]
  exact h i hi
theorem i_pos {x : Int32} (h0 : 0 ≤ x) (h1 : ¬ x = 0) : 0 < x := by
  rcases Int32.le_iff_lt_or_eq.mp h0 with h | h
  · exact h
  · exact absurd h.symm h1
theorem i_le3 {x : Int32} (h0 : x ≤ 4) (h1 : ¬ x = 4) : x ≤ 3 := by
  apply Int32.le_iff_toInt_le.mpr
  have a := Int32.le_iff_toInt_le.mp h0
  have b : x.toInt ≠ (4 : Int32).toInt := fun e => h1 (Int32.toInt_inj.mp e)
  have e4 : (4 : Int32).toInt = 4 := by decide
  have e3 : (3 : Int32).toInt = 3 := by decide
  rw [e4] at a b
  rw [e3]
  omega
theorem pot_set_same {rows : List RW} {i : Nat} {r : RW} (hi : i < rows.length) (h : q_cur r = q_cur (rw_at rows i)) : pot (rows.set i r) = pot rows := by
  unfold pot
  rw [List.countP_set hi, h, rw_at_get hi]
  by_cases e : q_cur rows[i] = true
  · have h1 : 0 < rows.countP q_cur := List.countP_pos_iff.mpr ⟨rows[i], List.getElem_mem hi, e⟩
    rw [if_pos e]; omega
  · rw [if_neg e]; omega
theorem q_cool {r : RW} {t : Int32} (h : ¬ r 5 = -1) (ht : ¬ t = -1) : q_cur (upd r 5 t) = q_cur r := by
  have e5 : upd r 5 t 5 = t := rw_upd_eq
  have e6 : upd r 5 t 6 = r 6 := rw_upd_ne (by decide)
  unfold q_cur
  rw [e5, e6]
  by_cases h6 : r 6 = 0 <;> simp [h6, h, ht]
theorem PI_cool {day : Int32} {i : Nat} {R : RW} {S : PS} (h : PI S) (hi : i < S.1.length) (h5 : ¬ rw_at S.1 i 5 = -1) (hR : rOK R) (h0 : ¬ R 3 = 0) (h4 : ¬ R 3 = 4) : PI (p_cool day i (R 3) S) ∧ pot (p_cool day i (R 3) S).1 = pot S.1 ∧ ¬ rw_at (p_cool day i (R 3) S).1 i 5 = -1 ∧ ∀ j, rw_at (p_cool day i (R 3) S).1 j 0 = rw_at S.1 j 0 := by
  obtain ⟨hl, hc, hk, hn⟩ := h
  have hp := i_pos hR.1 h0
  have h3 := i_le3 hR.2.1 h4
  have ht : ¬ R 3 = -1 := fun e => by rw [e] at hp; exact absurd hp (by decide)
  unfold p_cool
  split
  · have hat : ∀ j, rw_at (S.1.set i (upd (rw_at S.1 i) 5 (R 3))) j = if j = i then upd (rw_at S.1 i) 5 (R 3) else rw_at S.1 j := fun j => rw_at_set' hi
    have hc2 : ∀ c, c ≠ 5 → ∀ j, rw_at (S.1.set i (upd (rw_at S.1 i) 5 (R 3))) j c = rw_at S.1 j c := by
      intro c hc j
      rw [hat]
      split
      · rename_i e; rw [e]; exact rw_upd_ne hc
      · rfl
    have hlen : (S.1.set i (upd (rw_at S.1 i) 5 (R 3))).length = S.1.length := List.length_set
    refine ⟨⟨by rw [hlen]; exact hl, cur_congr hlen.symm (fun j _ => (hc2 1 (by decide) j).symm) (fun j _ => (hc2 6 (by decide) j).symm) hc, ?_, ?_, ?_⟩, pot_set_same hi (q_cool h5 ht), ?_, fun j => hc2 0 (by decide) j⟩
    · intro j hj
      rw [hlen] at hj
      show kO (rw_at (S.1.set i _) j)
      rw [hat]
      split
      · have hki := hk i hi
        refine ⟨hki.1, ?_⟩
        rcases hki.2 with h9 | h9
        · exact absurd h9.1 h5
        · exact Or.inr ⟨Int32.le_of_lt hp, h3, h9.2.2⟩
      · exact hk j hj
    · intro j hj
      show ∃ n, rw_at (S.1.set i _) j 0 = nI n ∧ n < S.2.2
      rw [hc2 0 (by decide) j]
      exact hn.1 j (by rw [hlen] at hj; exact hj)
    · intro j k hjk hk2
      show rw_at (S.1.set i _) j 0 < rw_at (S.1.set i _) k 0
      rw [hc2 0 (by decide) j, hc2 0 (by decide) k]
      exact hn.2 j k hjk (by rw [hlen] at hk2; exact hk2)
    · show ¬ rw_at (S.1.set i _) i 5 = -1
      rw [hat, if_pos rfl, rw_upd_eq]
      exact ht
  · exact ⟨⟨hl, hc, hk, hn⟩, rfl, h5, fun j => rfl⟩
/-! one more -/
theorem PI_add {day : Int32} {row : RW} {S : PS} (h : PI S) (hl : S.1.length < 40) (hr : kO row) (h6 : row 6 = 1) (h0 : row 0 = nI S.2.2) (hev : S.2.2 < 2 ^ 31) : PI (p_add day row S) ∧ (∀ j, j < S.1.length → rw_at (p_add day row S).1 j 0 = rw_at S.1 j 0) ∧ (p_add day row S).1.length = S.1.length + 1 ∧ rw_at (p_add day row S).1 S.1.length 0 = nI S.2.2 := by
  obtain ⟨hl40, hc, hk, hn⟩ := h
  have hlen : (p_add day row S).1.length = S.1.length + 1 := rw_add_len
  have hat : ∀ j, j ≤ S.1.length → rw_at (p_add day row S).1 j = if j = S.1.length then row else if rw_latest S.1 (row 1) = some j then upd (upd (rw_at S.1 j) 6 0) 7 day else rw_at S.1 j := fun j hj => rw_add_at hj
  have hnum : ∀ j, j < S.1.length → rw_at (p_add day row S).1 j 0 = rw_at S.1 j 0 := by
    intro j hj
    rw [hat j (by omega), if_neg (by omega)]
    split
    · rw [rw_upd_ne (by decide), rw_upd_ne (by decide)]
    · rfl
  have hlast : rw_at (p_add day row S).1 S.1.length 0 = nI S.2.2 := by rw [hat _ (Nat.le_refl _), if_pos rfl, h0]
  refine ⟨⟨by rw [hlen]; omega, rw_add_cur hc h6, ?_, ?_, ?_⟩, hnum, hlen, hlast⟩
  · intro j hj
    rw [hlen] at hj
    rw [hat j (by omega)]
    split
    · exact hr
    · split
      · exact kO_67 (hk j (by omega))
      · exact hk j (by omega)
  · intro j hj
    rw [hlen] at hj
    by_cases e : j = S.1.length
    · rw [e, hlast]; exact ⟨S.2.2, rfl, Nat.lt_succ_self _⟩
    · rw [hnum j (by omega)]
      obtain ⟨n, h1, h2⟩ := hn.1 j (by omega)
      exact ⟨n, h1, Nat.lt_succ_of_lt h2⟩
  · intro j k hjk hk2
    rw [hlen] at hk2
    rw [hnum j (by omega)]
    by_cases e : k = S.1.length
    · rw [e, hlast]
      obtain ⟨n, h1, h2⟩ := hn.1 j (by omega)
      rw [h1]
      exact nI_lt h2 hev
    · rw [hnum k (by omega)]; exact hn.2 j k hjk (by omega)
theorem cur_latest {rows : List RW} (hc : rw_CurOK rows) {i : Nat} (hi : i < rows.length) (h6 : ¬ rw_at rows i 6 = 0) : rw_latest rows (rw_at rows i 1) = some i := by
  have h := hc i hi
  by_cases e : rw_latest rows (rw_at rows i 1) = some i
  · exact e
  · rw [if_neg e] at h; exact absurd h h6
theorem PI_mark {day : Int32} {i : Nat} {S : PS} (h : PI S) (hi : i < S.1.length) (hl : S.1.length < 40) (hev : S.2.2 < 2 ^ 31) (h5 : ¬ rw_at S.1 i 5 = -1) (h6 : ¬ rw_at S.1 i 6 = 0) : PI (p_mark day (rw_at S.1 i 1) S) ∧ pot (p_mark day (rw_at S.1 i 1) S).1 + 1 = pot S.1 ∧ (∀ j, j < S.1.length → rw_at (p_mark day (rw_at S.1 i 1) S).1 j 0 = rw_at S.1 j 0) ∧ (p_mark day (rw_at S.1 i 1) S).1.length = S.1.length + 1 ∧ rw_at (p_mark day (rw_at S.1 i 1) S).1 S.1.length 0 = nI S.2.2 := by
  obtain ⟨a1, a2, a3, a4⟩ := PI_add (day := day) (row := mkMark (nI S.2.2) (rw_at S.1 i 1) day) h hl kO_mark rfl rfl hev
  refine ⟨a1, ?_, a2, a3, a4⟩
  have hla := cur_latest h.2.1 hi h6
  show pot (rw_add S.1 day (mkMark (nI S.2.2) (rw_at S.1 i 1) day)) + 1 = _
  unfold rw_add rw_old
  rw [show mkMark (nI S.2.2) (rw_at S.1 i 1) day 1 = rw_at S.1 i 1 from rfl, hla]
  unfold pot
  rw [List.countP_append, List.countP_set hi]
  have q1 : q_cur S.1[i] = true := by rw [← rw_at_get hi]; unfold q_cur; exact decide_eq_true ⟨h6, h5⟩
  have q2 : q_cur (upd (upd (rw_at S.1 i) 6 0) 7 day) = false := decide_eq_false (fun h => h.1 (by rw [rw_upd_ne (by decide), rw_upd_eq]))
  have q3 : List.countP q_cur [mkMark (nI S.2.2) (rw_at S.1 i 1) day] = 0 := by
    rw [List.countP_singleton, if_neg (by unfold q_cur; rw [decide_eq_true_iff]; exact fun h => h.2 rfl)]
  have h1 : 0 < S.1.countP q_cur := List.countP_pos_iff.mpr ⟨S.1[i], List.getElem_mem hi, q1⟩
  rw [q3, if_pos q1, q2]
  simp
  omega
/-! one less -/
theorem pot_erase {rows : List RW} {i : Nat} (hi : i < rows.length) (h : q_cur (rw_at rows i) = false) : pot (rows.eraseIdx i) = pot rows := by
  unfold pot
  rw [List.eraseIdx_eq_take_drop_succ, List.countP_append]
  conv => rhs; rw [← List.take_append_drop i rows, List.countP_append, List.drop_eq_getElem_cons hi]
  rw [List.countP_cons, ← rw_at_get hi, h]
  simp
theorem rw_new_id {rows : List RW} {k : Int32} (h : ∀ o, rw_latest rows k = some o → rw_at rows o 6 = 1) : rw_new rows k = rows := by
  unfold rw_new
  split
  · rfl
  · rename_i o ho
    have h6 := h o ho
    have hl := (rw_last_some.mp ho).1
    have e : upd (rw_at rows o) 6 1 = rw_at rows o := by
      funext c
      by_cases hc : c = 6
      · rw [hc, rw_upd_eq, h6]
      · exact rw_upd_ne hc
    rw [e, rw_at_get hl, List.set_getElem_self]
theorem take_at {rows : List RW} {i j c : Nat} (h : c ≠ 6) : rw_at (rw_take rows i) j c = rw_at rows (rw_up i j) c := by
  unfold rw_take
  rw [rw_new_at]
  split
  · rw [rw_upd_ne h, rw_erase_up]
  · rw [rw_erase_up]
theorem PI_take {day : Int32} {i : Nat} {S : PS} (h : PI S) (hi : i < S.1.length) : PI (p_take day i S) ∧ (p_take day i S).1.length + 1 = S.1.length ∧ ∀ j, rw_at (p_take day i S).1 j 0 = rw_at S.1 (rw_up i j) 0 := by
  obtain ⟨hl40, hc, hk, hn⟩ := h
  have hlen : (p_take day i S).1.length = S.1.length - 1 := rw_take_len hi
  have hat : ∀ c, c ≠ 6 → ∀ j, rw_at (p_take day i S).1 j c = rw_at S.1 (rw_up i j) c := fun c hc j => take_at hc
  have hup : ∀ j, j < S.1.length - 1 → rw_up i j < S.1.length := fun j hj => by unfold rw_up; split <;> omega
  refine ⟨⟨by rw [hlen]; omega, rw_take_cur hc hi, ?_, ?_, ?_⟩, by rw [hlen]; omega, hat 0 (by decide)⟩
  · intro j hj
    rw [hlen] at hj
    have h9 := hk _ (hup j hj)
    unfold kO at h9 ⊢
    rw [hat 9 (by decide), hat 5 (by decide), hat 3 (by decide), hat 8 (by decide), hat 10 (by decide)]
    exact h9
  · intro j hj
    rw [hlen] at hj
    rw [hat 0 (by decide)]
    exact hn.1 _ (hup j hj)
  · intro j k hjk hk2
    rw [hlen] at hk2
    rw [hat 0 (by decide), hat 0 (by decide)]
    exact hn.2 _ _ (by unfold rw_up; split <;> split <;> omega) (hup k hk2)
theorem pot_take0 {day : Int32} {i : Nat} {S : PS} (h : PI S) (hi : i < S.1.length) (h6 : rw_at S.1 i 6 = 0) : pot (p_take day i S).1 = pot S.1 := by
  show pot (rw_take S.1 i) = _
  unfold rw_take
  rw [rw_new_id, pot_erase hi (decide_eq_false (fun q => q.1 h6))]
  intro o ho
  have hu : rw_up i o < S.1.length := by
    have := (rw_last_some.mp ho).1
    rw [List.length_eraseIdx, if_pos hi] at this
    unfold rw_up; split <;> omega
  rw [rw_erase_up]
  have hk := (rw_last_some.mp ho).2.1
  rw [rw_erase_up] at hk
  cases hl : rw_latest S.1 (rw_at S.1 i 1) with
  | none => exact absurd rfl (rw_last_none.mp hl i hi)
  | some l =>
    have hli : l ≠ i := by
      intro e
      have h9 := h.2.1 i hi
      rw [hl, e, if_pos rfl] at h9
      rw [h9] at h6
      exact absurd h6 (by decide)
    obtain ⟨z, hz⟩ : ∃ z, rw_up i z = l := by
      by_cases hxi : l < i
      · exact ⟨l, by unfold rw_up; rw [if_pos hxi]⟩
      · exact ⟨l - 1, by unfold rw_up; split <;> omega⟩
    have h8 := rw_erase_some hi (j := z) (by rw [hl, hz])
    rw [ho] at h8
    cases h8
    have h9 := h.2.1 _ hu
    rw [hk, hl, hz, if_pos rfl] at h9
    rw [hz]
    exact h9
theorem pot_takeL {day : Int32} {i : Nat} {S : PS} (hi : i < S.1.length) (h5 : rw_at S.1 i 5 = -1) (ha : rw_alone S.1 i) : pot (p_take day i S).1 = pot S.1 := by
  show pot (rw_take S.1 i) = _
  unfold rw_take
  rw [rw_new_id, pot_erase hi (decide_eq_false (fun q => q.2 h5))]
  intro o ho
  exfalso
  obtain ⟨h1, h2, -⟩ := rw_last_some.mp ho
  rw [List.length_eraseIdx, if_pos hi] at h1
  rw [rw_erase_up] at h2
  exact ha (rw_up i o) (by unfold rw_up; split <;> omega) (by unfold rw_up; split <;> omega) h2
/-! the rules -/
theorem PI_rules {day : Int32} {i : Nat} : ∀ {Rs : List RW} {S : PS}, PI S → i < S.1.length → ¬ rw_at S.1 i 5 = -1 → (∀ R ∈ Rs, rOK R) → S.2.2 < 2 ^ 31 →
    PI (p_rules day i Rs S).1 ∧ (p_rules day i Rs S).1.2.2 + pot (p_rules day i Rs S).1.1 = S.2.2 + pot S.1 ∧
    ((p_rules day i Rs S).2 = false → (∀ j, j < S.1.length → rw_at (p_rules day i Rs S).1.1 j 0 = rw_at S.1 j 0) ∧ ∀ j, S.1.length ≤ j → j < (p_rules day i Rs S).1.1.length → rw_at (p_rules day i Rs S).1.1 j 0 = nI S.2.2) ∧
    ((p_rules day i Rs S).2 = true → ∀ j, rw_at (p_rules day i Rs S).1.1 j 0 = rw_at S.1 (rw_up i j) 0) := by
  intro Rs
  induction Rs with
  | nil =>
    intro S h hi h5 _ _
    exact ⟨h, rfl, fun _ => ⟨fun j _ => rfl, fun j h1 h2 => absurd h2 (Nat.not_lt.mpr h1)⟩, fun h => by cases h⟩
  | cons R Rs ih =>
    intro S h hi h5 hR hev
    have hRs : ∀ R ∈ Rs, rOK R := fun R h => hR R (List.mem_cons_of_mem _ h)
    have hR0 := hR R List.mem_cons_self
    have h0 := ih h hi h5 hRs hev
    unfold p_rules
    split
    · rename_i hd
      split
      · split
        · split
          · exact h0
          · rename_i h6 hg
            obtain ⟨a1, a2, a3⟩ := PI_take (day := day) h hi
            refine ⟨a1, ?_, fun h => (by cases h), fun _ => a3⟩
            show S.2.2 + pot (p_take day i S).1 = _
            rw [pot_take0 h hi h6]
        · split
          · exact h0
          · rename_i h6 hg
            obtain ⟨a1, a2, a3, a4, a5⟩ := PI_mark (day := day) h hi (by omega) hev h5 h6
            refine ⟨a1, ?_, fun _ => ⟨a3, fun j h1 h2 => ?_⟩, fun h => (by cases h)⟩
            · show S.2.2 + 1 + pot (p_mark day (rw_at S.1 i 1) S).1 = _
              omega
            · have h2' : j < (p_mark day (rw_at S.1 i 1) S).1.length := h2
              rw [show j = S.1.length by omega]
              exact a5
      · rename_i h4
        obtain ⟨a1, a2, a3, a4⟩ := PI_cool (day := day) h hi h5 hR0 hd.1 h4
        have el := p_cool_len (day := day) (i := i) (t := R 3) (S := S)
        have ee := (p_cool_lg (day := day) (i := i) (t := R 3) (S := S)).2.2
        have h1 := ih a1 (by rw [el]; exact hi) a3 hRs (by rw [ee]; exact hev)
        rw [el, ee, a2] at h1
        refine ⟨h1.1, h1.2.1, fun hg => ⟨fun j hj => ?_, (h1.2.2.1 hg).2⟩, fun hg j => ?_⟩
        · rw [(h1.2.2.1 hg).1 j hj, a4]
        · rw [h1.2.2.2 hg j, a4]
    · exact h0
/-- the day's versions: those below b are older than the day -/
theorem PI_vers {Rs : List RW} {day : Int32} (hRs : ∀ R ∈ Rs, rOK R) : ∀ {left i : Nat} {S : PS}, PI S → i + left ≤ S.1.length → S.2.2 + pot S.1 < 2 ^ 31 → PI (p_vers Rs day left i S) ∧ (p_vers Rs day left i S).2.2 + pot (p_vers Rs day left i S).1 = S.2.2 + pot S.1 := by
  intro left
  induction left with
  | zero => intro i S h _ _; exact ⟨h, rfl⟩
  | succ left ih =>
    intro i S h hi hev
    unfold p_vers
    split
    · exact ih h (by omega) hev
    · rename_i h5
      have h3 := p_rules_len (day := day) (i := i) (Rs := Rs) (S := S) (by omega) h.1
      obtain ⟨a1, a2, a3, a4⟩ := PI_rules (day := day) (Rs := Rs) h (by omega : i < S.1.length) h5 hRs (by omega)
      split
      · rename_i hg
        have := h3.2.2 hg
        obtain ⟨b1, b2⟩ := ih (i := i) a1 (by omega) (by omega)
        exact ⟨b1, by omega⟩
      · rename_i hg
        have := h3.2.1 (by cases h9 : (p_rules day i Rs S).2; rfl; exact absurd h9 hg)
        obtain ⟨b1, b2⟩ := ih (i := i + 1) a1 (by omega) (by omega)
        exact ⟨b1, by omega⟩
theorem PI_lone {day : Int32} : ∀ {left i : Nat} {S : PS}, PI S → i + left ≤ S.1.length → PI (p_lone day left i S) ∧ pot (p_lone day left i S).1 = pot S.1 := by
  intro left
  induction left with
  | zero => intro i S h _; exact ⟨h, rfl⟩
  | succ left ih =>
    intro i S h hi
    unfold p_lone
    split
    · rename_i hq
      obtain ⟨a1, a2, a3⟩ := PI_take (day := day) h (by omega : i < S.1.length)
      obtain ⟨b1, b2⟩ := ih (i := i) a1 (by omega)
      exact ⟨b1, by rw [b2]; exact pot_takeL (by omega) hq.1 (rw_aloneB_iff.mp hq.2)⟩
    · exact ih h (by omega)
theorem PI_day {Rs : List RW} {day : Int32} (hRs : ∀ R ∈ Rs, rOK R) {S : PS} (h : PI S) (hev : S.2.2 + pot S.1 < 2 ^ 31) : PI (p_day Rs day S) ∧ (p_day Rs day S).2.2 + pot (p_day Rs day S).1 = S.2.2 + pot S.1 := by
  obtain ⟨a1, a2⟩ := PI_vers (day := day) hRs h (by omega : 0 + S.1.length ≤ S.1.length) hev
  obtain ⟨b1, b2⟩ := PI_lone (day := day) a1 (by omega : 0 + (p_vers Rs day S.1.length 0 S).1.length ≤ _)
  refine ⟨b1, ?_⟩
  show (p_lone day _ 0 _).2.2 + pot (p_lone day _ 0 _).1 = _
  rw [b2, p_lone_lg.2.2, a2]
theorem PI_tick {Rs : List RW} (hRs : ∀ R ∈ Rs, rOK R) : ∀ {n : Nat} {day : Int32} {S : PS}, PI S → S.2.2 + pot S.1 < 2 ^ 31 → PI (p_tick Rs n day S) ∧ (p_tick Rs n day S).2.2 + pot (p_tick Rs n day S).1 = S.2.2 + pot S.1 := by
  intro n
  induction n with
  | zero => intro day S h _; exact ⟨h, rfl⟩
  | succ n ih =>
    intro day S h hev
    obtain ⟨a1, a2⟩ := PI_day (day := day + 1) hRs h hev
    obtain ⟨b1, b2⟩ := ih (day := day + 1) a1 (by omega)
    exact ⟨b1, by show (p_tick Rs n (day + 1) _).2.2 + _ = _; rw [← a2]; exact b2⟩
