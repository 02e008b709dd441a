/-! Pure words: rows of the table of versions, the log; the latest version of a key -/
abbrev RW : Type := Nat → Int32
def rw0 : RW := fun _ => 0
def rw_at (rows : List RW) (i : Nat) : RW := rows.getD i rw0
def lg_mix (ch : Int64) (x : Int32) : Int64 := (ch ^^^ x.toInt64) * 1099511628211
abbrev LG : Type := (Nat → Int32) × Nat × Int64
/-- an entry of four numbers -/
def lg_wr (L : LG) (a b c d : Int32) : LG := (upd (upd (upd (upd L.1 (L.2.1 % 64 * 4) a) (L.2.1 % 64 * 4 + 1) b) (L.2.1 % 64 * 4 + 2) c) (L.2.1 % 64 * 4 + 3) d, L.2.1 + 1, lg_mix (lg_mix (lg_mix (lg_mix L.2.2 a) b) c) d)
/-- the last row below n with this key -/
def rw_last (rows : List RW) (key : Int32) : Nat → Option Nat
  | 0 => none
  | i + 1 => if rw_at rows i 1 = key then some i else rw_last rows key i
def rw_latest (rows : List RW) (key : Int32) : Option Nat := rw_last rows key rows.length
theorem rw_last_some {rows : List RW} {key : Int32} {o : Nat} : ∀ {n : Nat}, rw_last rows key n = some o ↔ o < n ∧ rw_at rows o 1 = key ∧ ∀ j, o < j → j < n → rw_at rows j 1 ≠ key := by
  intro n
  induction n with
  | zero => simp [rw_last]
  | succ n ih =>
    unfold rw_last
    by_cases h : rw_at rows n 1 = key
    · rw [if_pos h]
      constructor
      · intro e
        cases e
        exact ⟨by omega, h, fun j h1 h2 => by omega⟩
      · rintro ⟨h1, h2, h3⟩
        by_cases ho : o = n
        · rw [ho]
        · exact absurd h (h3 n (by omega) (by omega))
    · rw [if_neg h, ih]
      constructor
      · rintro ⟨h1, h2, h3⟩
        refine ⟨by omega, h2, fun j h4 h5 => ?_⟩
        by_cases hj : j = n
        · rw [hj]; exact h
        · exact h3 j h4 (by omega)
      · rintro ⟨h1, h2, h3⟩
        have hn : o ≠ n := fun e => h (e ▸ h2)
        exact ⟨by omega, h2, fun j h4 h5 => h3 j h4 (by omega)⟩
theorem rw_last_none {rows : List RW} {key : Int32} : ∀ {n : Nat}, rw_last rows key n = none ↔ ∀ j, j < n → rw_at rows j 1 ≠ key := by
  intro n
  induction n with
  | zero => simp [rw_last]
  | succ n ih =>
    unfold rw_last
    by_cases h : rw_at rows n 1 = key
    · rw [if_pos h]
      constructor
      · intro e; cases e
      · intro h1; exact absurd h (h1 n (by omega))
    · rw [if_neg h, ih]
      constructor
      · intro h1 j hj
        by_cases hn : j = n
        · rw [hn]; exact h
        · exact h1 j (by omega)
      · intro h1 j hj
        exact h1 j (by omega)
theorem rw_at_get {rows : List RW} {i : Nat} (h : i < rows.length) : rw_at rows i = rows[i] := by
  simp [rw_at, List.getD_eq_getElem?_getD, List.getElem?_eq_getElem h]
theorem rw_at_map {α : Type} {vs : List α} {fv : α → RW} {i : Nat} {a : α} (h : vs[i]? = some a) : rw_at (vs.map fv) i = fv a := by
  simp [rw_at, List.getD_eq_getElem?_getD, List.getElem?_map, h]
theorem rw_at_set {rows : List RW} {i j : Nat} {r : RW} (h : i < rows.length) : rw_at (rows.set i r) j = if j = i then r else rw_at rows j := by
  by_cases hj : j = i
  · subst hj
    simp [rw_at, List.getD_eq_getElem?_getD, List.getElem?_set_self h]
  · simp [rw_at, List.getD_eq_getElem?_getD, List.getElem?_set_ne (Ne.symm hj), hj]
theorem rw_at_app {rows : List RW} {j : Nat} {r : RW} (h : j ≤ rows.length) : rw_at (rows ++ [r]) j = if j = rows.length then r else rw_at rows j := by
  by_cases hj : j = rows.length
  · subst hj
    simp [rw_at, List.getD_eq_getElem?_getD]
  · have h1 : j < rows.length := by omega
    simp [rw_at, List.getD_eq_getElem?_getD, List.getElem?_append_left h1, hj]
theorem rw_at_erase {rows : List RW} {i j : Nat} : rw_at (rows.eraseIdx i) j = if j < i then rw_at rows j else rw_at rows (j + 1) := by
  simp only [rw_at, List.getD_eq_getElem?_getD, List.getElem?_eraseIdx]
  by_cases h : j < i <;> simp [h]
theorem rw_last_congr {r1 r2 : List RW} {key : Int32} : ∀ {n : Nat}, (∀ j, j < n → rw_at r1 j 1 = rw_at r2 j 1) → rw_last r1 key n = rw_last r2 key n := by
  intro n
  induction n with
  | zero => intro _; rfl
  | succ n ih =>
    intro h
    unfold rw_last
    rw [h n (by omega), ih (fun j hj => h j (by omega))]
/-- the class's table with a row more: the latest of its key is current no more, and has ceased today -/
def rw_old (rows : List RW) (day key : Int32) : List RW := match rw_latest rows key with
  | none => rows
  | some o => rows.set o (upd (upd (rw_at rows o) 6 0) 7 day)
def rw_add (rows : List RW) (day : Int32) (row : RW) : List RW := rw_old rows day (row 1) ++ [row]
/-- a row less: the latest that is left of its key is current -/
def rw_new (rows : List RW) (key : Int32) : List RW := match rw_latest rows key with
  | none => rows
  | some o => rows.set o (upd (rw_at rows o) 6 1)
def rw_take (rows : List RW) (i : Nat) : List RW := rw_new (rows.eraseIdx i) (rw_at rows i 1)
/-- column 6 says which rows are current -/
def rw_CurOK (rows : List RW) : Prop := ∀ i, i < rows.length → rw_at rows i 6 = if rw_latest rows (rw_at rows i 1) = some i then 1 else 0
theorem rw_old_len {rows : List RW} {day key : Int32} : (rw_old rows day key).length = rows.length := by
  unfold rw_old; split <;> simp
theorem rw_new_len {rows : List RW} {key : Int32} : (rw_new rows key).length = rows.length := by
  unfold rw_new; split <;> simp
theorem rw_old_at {rows : List RW} {day key : Int32} {j : Nat} : rw_at (rw_old rows day key) j = if rw_latest rows key = some j then upd (upd (rw_at rows j) 6 0) 7 day else rw_at rows j := by
  unfold rw_old
  cases h : rw_latest rows key with
  | none => simp
  | some o =>
    have ho := (rw_last_some.mp h).1
    simp only
    rw [rw_at_set ho]
    by_cases hj : j = o
    · subst hj; simp
    · rw [if_neg hj, if_neg (fun e => hj (Option.some.inj e).symm)]
theorem rw_new_at {rows : List RW} {key : Int32} {j : Nat} : rw_at (rw_new rows key) j = if rw_latest rows key = some j then upd (rw_at rows j) 6 1 else rw_at rows j := by
  unfold rw_new
  cases h : rw_latest rows key with
  | none => simp
  | some o =>
    have ho := (rw_last_some.mp h).1
    simp only
    rw [rw_at_set ho]
    by_cases hj : j = o
    · subst hj; simp
    · rw [if_neg hj, if_neg (fun e => hj (Option.some.inj e).symm)]
theorem rw_upd_ne {r : RW} {k j : Nat} {x : Int32} (h : j ≠ k) : upd r k x j = r j := by simp [upd, h]
theorem rw_upd_eq {r : RW} {k : Nat} {x : Int32} : upd r k x k = x := by simp [upd]
theorem rw_old_key {rows : List RW} {day key : Int32} {j : Nat} : rw_at (rw_old rows day key) j 1 = rw_at rows j 1 := by
  rw [rw_old_at]; split <;> simp [upd]
theorem rw_new_key {rows : List RW} {key : Int32} {j : Nat} : rw_at (rw_new rows key) j 1 = rw_at rows j 1 := by
  rw [rw_new_at]; split <;> simp [upd]
theorem rw_new_latest {rows : List RW} {key k : Int32} : rw_latest (rw_new rows key) k = rw_latest rows k := by
  unfold rw_latest
  rw [rw_new_len]
  exact rw_last_congr (fun j _ => rw_new_key)
theorem rw_add_latest {rows : List RW} {day k : Int32} {row : RW} : rw_latest (rw_add rows day row) k = if row 1 = k then some rows.length else rw_latest rows k := by
  unfold rw_latest rw_add
  have hl : (rw_old rows day (row 1) ++ [row]).length = rows.length + 1 := by simp [rw_old_len]
  rw [hl]
  show (if rw_at (rw_old rows day (row 1) ++ [row]) rows.length 1 = k then some rows.length else rw_last (rw_old rows day (row 1) ++ [row]) k rows.length) = _
  have h1 : rw_at (rw_old rows day (row 1) ++ [row]) rows.length = row := by
    rw [rw_at_app (by rw [rw_old_len]; exact Nat.le_refl _), if_pos rw_old_len.symm]
  rw [h1]
  have h2 : rw_last (rw_old rows day (row 1) ++ [row]) k rows.length = rw_last rows k rows.length := rw_last_congr (fun j hj => by
    rw [rw_at_app (by rw [rw_old_len]; omega), if_neg (by rw [rw_old_len]; omega), rw_old_key])
  rw [h2]
theorem rw_add_at {rows : List RW} {day : Int32} {row : RW} {j : Nat} (hj : j ≤ rows.length) : rw_at (rw_add rows day row) j = if j = rows.length then row else if rw_latest rows (row 1) = some j then upd (upd (rw_at rows j) 6 0) 7 day else rw_at rows j := by
  unfold rw_add
  rw [rw_at_app (by rw [rw_old_len]; exact hj), rw_old_len, rw_old_at]
theorem rw_add_cur {rows : List RW} {day : Int32} {row : RW} (h : rw_CurOK rows) (hr : row 6 = 1) : rw_CurOK (rw_add rows day row) := by
  intro i hi
  have hi2 : i ≤ rows.length := by
    have hl : (rw_add rows day row).length = rows.length + 1 := by simp [rw_add, rw_old_len]
    omega
  rw [rw_add_latest, rw_add_at hi2]
  by_cases hn : i = rows.length
  · rw [if_pos hn, hr, if_pos rfl, if_pos (congrArg some hn.symm)]
  · have hlt : i < rows.length := by omega
    rw [if_neg hn]
    by_cases ho : rw_latest rows (row 1) = some i
    · rw [if_pos ho]
      have hk := (rw_last_some.mp ho).2.1
      have e6 : upd (upd (rw_at rows i) 6 0) 7 day 6 = 0 := by simp [upd]
      have e1 : upd (upd (rw_at rows i) 6 0) 7 day 1 = row 1 := by simp [upd]; exact hk
      rw [e6, e1, if_pos rfl, if_neg (fun e => hn (Option.some.inj e).symm)]
    · rw [if_neg ho, h i hlt]
      by_cases hk : row 1 = rw_at rows i 1
      · rw [if_pos hk, if_neg (fun e => hn (Option.some.inj e).symm), if_neg (by rw [← hk]; exact ho)]
      · rw [if_neg hk]
/-- places of the table behind a row taken away -/
def rw_up (i j : Nat) : Nat := if j < i then j else j + 1
theorem rw_erase_up {rows : List RW} {i j : Nat} : rw_at (rows.eraseIdx i) j = rw_at rows (rw_up i j) := by
  rw [rw_at_erase]; unfold rw_up; split <;> rfl
theorem rw_erase_some {rows : List RW} {i j : Nat} {k : Int32} (hi : i < rows.length) (h : rw_latest rows k = some (rw_up i j)) : rw_latest (rows.eraseIdx i) k = some j := by
  obtain ⟨h1, h2, h3⟩ := rw_last_some.mp h
  have hl : (rows.eraseIdx i).length = rows.length - 1 := by rw [List.length_eraseIdx, if_pos hi]
  refine rw_last_some.mpr ⟨?_, ?_, ?_⟩
  · unfold rw_up at h1; split at h1 <;> omega
  · rw [rw_erase_up]; exact h2
  · intro x hx1 hx2
    rw [rw_erase_up]
    refine h3 _ ?_ ?_
    · unfold rw_up; split <;> split <;> omega
    · unfold rw_up; split <;> omega
theorem rw_erase_back {rows : List RW} {i j : Nat} {k : Int32} (hi : i < rows.length) (hk : rw_at rows i 1 ≠ k) (h : rw_latest (rows.eraseIdx i) k = some j) : rw_latest rows k = some (rw_up i j) := by
  obtain ⟨h1, h2, h3⟩ := rw_last_some.mp h
  have hl : (rows.eraseIdx i).length = rows.length - 1 := by rw [List.length_eraseIdx, if_pos hi]
  refine rw_last_some.mpr ⟨?_, ?_, ?_⟩
  · unfold rw_up; split <;> omega
  · rw [← rw_erase_up]; exact h2
  · intro x hx1 hx2
    by_cases hx : x = i
    · rw [hx]; exact hk
    · have hx3 : ∃ y, rw_up i y = x := by
        by_cases hxi : x < i
        · exact ⟨x, by unfold rw_up; rw [if_pos hxi]⟩
        · exact ⟨x - 1, by unfold rw_up; split <;> omega⟩
      obtain ⟨y, hy⟩ := hx3
      rw [← hy, ← rw_erase_up]
      refine h3 y ?_ ?_
      · rw [← hy] at hx1
        unfold rw_up at hx1
        split at hx1 <;> split at hx1 <;> omega
      · rw [← hy] at hx2
        unfold rw_up at hx2
        split at hx2 <;> omega
theorem rw_take_cur {rows : List RW} {i : Nat} (h : rw_CurOK rows) (hi : i < rows.length) : rw_CurOK (rw_take rows i) := by
  intro j hj
  unfold rw_take at hj ⊢
  rw [rw_new_len, List.length_eraseIdx, if_pos hi] at hj
  rw [rw_new_latest, rw_new_at]
  have hup : rw_up i j < rows.length := by unfold rw_up; split <;> omega
  have hne : rw_up i j ≠ i := by unfold rw_up; split <;> omega
  have h9 := h _ hup
  by_cases ho : rw_latest (rows.eraseIdx i) (rw_at rows i 1) = some j
  · have hk := (rw_last_some.mp ho).2.1
    have e6 : upd (rw_at (rows.eraseIdx i) j) 6 1 6 = 1 := rw_upd_eq
    have e1 : upd (rw_at (rows.eraseIdx i) j) 6 1 1 = rw_at rows i 1 := by rw [rw_upd_ne (by decide)]; exact hk
    rw [if_pos ho, e6, e1, if_pos ho]
  · rw [if_neg ho, rw_erase_up, h9]
    by_cases hk : rw_at rows i 1 = rw_at rows (rw_up i j) 1
    · rw [← hk, if_neg (fun e => ho (rw_erase_some hi e)), if_neg ho]
    · by_cases hy : rw_latest rows (rw_at rows (rw_up i j) 1) = some (rw_up i j)
      · rw [if_pos hy, if_pos (rw_erase_some hi hy)]
      · rw [if_neg hy, if_neg (fun e => hy (rw_erase_back hi hk e))]
