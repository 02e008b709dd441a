/-! The class's public methods, told by the pure functions. Laid by program (wip/whole/p37.py) -/
/-- a world of the class: its rules, its day, its table -/
def cW (e0 K : Nat → Nat) (ca : Nat → ClassId) (RL : List Nat) (Rs : List RW) (rest : va_W) (day : Int32) (S : PS) (w : va_W) : Prop :=
  ∃ (FR : Nat → RW) (vs LP : List Nat) (fv : Nat → RW) (mo : Int32) (ea : Nat) (eo : va_W), RL.map FR = Rs ∧ cI e0 ca vs LP ea eo ∧ vs.map fv = S.1 ∧ w = wC K ca RL LP fv FR day (nI S.2.2) mo (nI vs.length) ea (nI S.2.1.2.1) S.2.1.2.2 S.2.1.1 (eo ++ rest)
def cR (e0 K : Nat → Nat) (ca : Nat → ClassId) (RL : List Nat) (Rs : List RW) (rest : va_W) (day : Int32) (o : OR) (v : Option Value) (w : va_W) : Prop := o.1 = 0 ∧ v = some (.int o.2.1) ∧ cW e0 K ca RL Rs rest day o.2.2 w
def cRv (e0 K : Nat → Nat) (ca : Nat → ClassId) (RL : List Nat) (Rs : List RW) (rest : va_W) (day : Int32) (o : OR) (v : Option Value) (w : va_W) : Prop := o.1 = 0 ∧ v = none ∧ cW e0 K ca RL Rs rest day o.2.2 w
def cX1 (E1 : String) (o : OR) (S : PS) (w0 : va_W) (E : String) (w : va_W) : Prop := w = w0 ∧ (E = E1 ∧ o = (1, 0, S))
def cX2 (E1 E2 : String) (o : OR) (S : PS) (w0 : va_W) (E : String) (w : va_W) : Prop := w = w0 ∧ ((E = E1 ∧ o = (1, 0, S)) ∨ (E = E2 ∧ o = (2, 0, S)))
def cX3 (E1 E2 E3 : String) (o : OR) (S : PS) (w0 : va_W) (E : String) (w : va_W) : Prop := w = w0 ∧ ((E = E1 ∧ o = (1, 0, S)) ∨ (E = E2 ∧ o = (2, 0, S)) ∨ (E = E3 ∧ o = (3, 0, S)))
theorem cR_mk {e0 K : Nat → Nat} {ca : Nat → ClassId} {RL : List Nat} {Rs : List RW} {rest : va_W} {day : Int32} {o : OR} {v : Option Value} {w : va_W} {a : Int32} {S' : PS} (e : o = (0, a, S')) (hv : v = some (.int a)) (hw : cW e0 K ca RL Rs rest day S' w) : cR e0 K ca RL Rs rest day o v w := by
  subst e
  exact ⟨rfl, hv, hw⟩
theorem cRv_mk {e0 K : Nat → Nat} {ca : Nat → ClassId} {RL : List Nat} {Rs : List RW} {rest : va_W} {day : Int32} {o : OR} {w : va_W} {a : Int32} {S' : PS} (e : o = (0, a, S')) (hw : cW e0 K ca RL Rs rest day S' w) : cRv e0 K ca RL Rs rest day o none w := by
  subst e
  exact ⟨rfl, rfl, hw⟩
theorem cQ_cW {e0 K : Nat → Nat} {ca : Nat → ClassId} {RL : List Nat} {FR : Nat → RW} {rest : va_W} {LP : List Nat} {fv : Nat → RW} {day : Int32} {S : PS} {vs : List Nat} {w : va_W} (h : cQ e0 K ca RL FR rest LP fv day (nI S.2.2) S.2.1 S.1 vs w) : cW e0 K ca RL (RL.map FR) rest day S w := by
  obtain ⟨LP2, fv2, mo2, ea2, eo2, h1, h2, -, h3⟩ := h
  exact ⟨FR, vs, LP2, fv2, mo2, ea2, eo2, rfl, h1, h2, h3⟩
theorem lastN_of {rows : List RW} {v : Int32} {i : Nat} (h0 : rw_at rows i 0 = v) : ∀ {n : Nat}, i < n → (∀ j, j < n → rw_at rows j 0 = v → j = i) → rw_lastN rows v n = some i := by
  intro n
  induction n with
  | zero => intro h; exact absurd h (Nat.not_lt_zero _)
  | succ n ih =>
    intro hi hu
    unfold rw_lastN
    by_cases e : n = i
    · subst e; rw [if_pos h0]
    · rw [if_neg (fun q => e (hu n (Nat.lt_succ_self _) q))]
      exact ih (by omega) (fun j hj => hu j (by omega))
theorem lastN_none {rows : List RW} {v : Int32} : ∀ {n : Nat}, (∀ j, j < n → rw_at rows j 0 ≠ v) → rw_lastN rows v n = none := by
  intro n
  induction n with
  | zero => intro _; rfl
  | succ n ih =>
    intro h
    unfold rw_lastN
    rw [if_neg (h n (Nat.lt_succ_self _))]
    exact ih (fun j hj => h j (by omega))
theorem nO_inj {rows : List RW} {ev : Nat} (h : nO rows ev) {i j : Nat} (hi : i < rows.length) (hj : j < rows.length) (he : rw_at rows j 0 = rw_at rows i 0) : j = i := by
  rcases Nat.lt_trichotomy i j with q | q | q
  · have := h.2 i j q hj; rw [he] at this; exact (Int32.lt_irrefl this).elim
  · exact q.symm
  · have := h.2 j i q hi; rw [he] at this; exact (Int32.lt_irrefl this).elim
section FN
variable {vs : List Nat} {fv : Nat → RW} {v : Int32} {ev a : Nat}
theorem fnd_some (hn : nO (vs.map fv) ev) (h : vs.find? (fun a => decide (fv a 0 = v)) = some a) : ∃ i, vs[i]? = some a ∧ i < (vs.map fv).length ∧ rw_lastN (vs.map fv) v (vs.map fv).length = some i := by
  obtain ⟨h1, i, hi, he, -⟩ := List.find?_eq_some_iff_getElem.mp h
  have hv : fv a 0 = v := by simpa using h1
  have hi2 : vs[i]? = some a := by rw [List.getElem?_eq_getElem hi, he]
  have hl : i < (vs.map fv).length := by rw [List.length_map]; exact hi
  have hr : rw_at (vs.map fv) i = fv a := rw_at_map hi2
  refine ⟨i, hi2, hl, lastN_of (by rw [hr]; exact hv) hl (fun j hj hq => nO_inj hn hl hj (by rw [hq, hr, hv]))⟩
theorem fnd_none (h : vs.find? (fun a => decide (fv a 0 = v)) = none) : rw_lastN (vs.map fv) v (vs.map fv).length = none := by
  apply lastN_none
  intro j hj
  rw [List.length_map] at hj
  have := List.find?_eq_none.mp h vs[j] (List.getElem_mem hj)
  rw [rw_at_map (List.getElem?_eq_getElem hj)]
  simpa using this
theorem obj_some (hk : ∀ j, j < (vs.map fv).length → kO (rw_at (vs.map fv) j)) (hn : nO (vs.map fv) ev) (h : vs.find? (fun a => decide (fv a 0 = v)) = some a) (h5 : fv a 5 ≠ -1) : ∃ i, vs[i]? = some a ∧ i < (vs.map fv).length ∧ rw_obj (vs.map fv) v = some i := by
  obtain ⟨i, h1, h2, h3⟩ := fnd_some hn h
  refine ⟨i, h1, h2, ?_⟩
  unfold rw_obj
  rw [h3]
  have h9 := (kO_size (hk i h2)).1.mpr (by rw [rw_at_map h1]; exact h5)
  exact if_pos h9
theorem obj_none (hk : ∀ j, j < (vs.map fv).length → kO (rw_at (vs.map fv) j)) (hn : nO (vs.map fv) ev) (h : vs.find? (fun a => decide (fv a 0 = v)) = none ∨ ∃ a, vs.find? (fun a => decide (fv a 0 = v)) = some a ∧ fv a 5 = -1) : rw_obj (vs.map fv) v = none := by
  unfold rw_obj
  rcases h with h | ⟨a, h, h5⟩
  · rw [fnd_none h]
  · obtain ⟨i, h1, h2, h3⟩ := fnd_some hn h
    rw [h3]
    have h9 := (kO_size (hk i h2)).1
    exact if_neg (fun q => h9.mp q (by rw [rw_at_map h1]; exact h5))
theorem lat_some (h : (rw_latest (vs.map fv) v).bind (fun i => vs[i]?) = some a) : ∃ i, vs[i]? = some a ∧ rw_latest (vs.map fv) v = some i ∧ rw_at (vs.map fv) i = fv a := by
  cases hl : rw_latest (vs.map fv) v with
  | none => rw [hl] at h; cases h
  | some i => rw [hl] at h; exact ⟨i, h, rfl, rw_at_map h⟩
theorem lat_none (h : (rw_latest (vs.map fv) v).bind (fun i => vs[i]?) = none) : rw_latest (vs.map fv) v = none := by
  cases hl : rw_latest (vs.map fv) v with
  | none => rfl
  | some i =>
    rw [hl] at h
    have h1 := (rw_last_some.mp hl).1
    rw [List.length_map] at h1
    have h2 : vs[i]? = none := h
    rw [List.getElem?_eq_getElem h1] at h2
    cases h2
end FN

set_option maxRecDepth 100000 in
theorem c_V_putO {l : Launch} (hst : l.stackTraces = false) {D : va_G} {A : Nat → Prop} {e0 : Nat → Nat} {K : Nat → Nat} {ca : Nat → ClassId} {RL LP : List Nat} {fv FR : Nat → RW} {day mo : Int32} {ea : Nat} {ch : Int64} {ring : Nat → Int32} {rest : va_W} {vs : List Nat} {eo : va_W} (hI : cI e0 ca vs LP ea eo) {w9 ev9 : Nat} (hPI : PI (vs.map fv, (ring, w9, ch), ev9)) (hw9 : w9 < 2 ^ 31) {k9 si9 tg9 : Int32} : tM l y_V_put tb ({ frames := 8, cells := 4, slots := 85, locals := 193 }) D cls (ty0 ca) A (zz e0 A) [.ref (K 0), .int k9, .int si9, .int tg9] (wC K ca RL LP fv FR day (nI ev9) mo (nI vs.length) ea (nI w9) ch ring (eo ++ rest)) (cR e0 K ca RL (RL.map FR) rest day (o_put day k9 si9 tg9 (vs.map fv, (ring, w9, ch), ev9))) (cX2 "java/lang/IllegalArgumentException" "java/lang/IllegalStateException" (o_put day k9 si9 tg9 (vs.map fv, (ring, w9, ch), ev9)) (vs.map fv, (ring, w9, ch), ev9) (wC K ca RL LP fv FR day (nI ev9) mo (nI vs.length) ea (nI w9) ch ring (eo ++ rest))) := by
  obtain ⟨-, hcu, hko, hno⟩ := id hPI
  have hnd : vs.Nodup := hI.2.2.1
  have hlm : (vs.map fv).length = vs.length := List.length_map _
  refine t_monoM (c_V_put (ever := nI ev9) hst hI hw9) ?_ ?_
  · rintro v w2 ⟨hq, hl, hv, q, hcq⟩
    rw [nI_1] at hcq
    exact cR_mk (S' := p_add day (mkObj (nI ev9) k9 day si9 tg9) (vs.map fv, (ring, w9, ch), ev9)) ((if_pos hq).trans (if_neg (by show ¬ 40 ≤ (vs.map fv).length; omega))) hv (cQ_cW hcq)
  · rintro E w2 ⟨rfl, h⟩
    refine ⟨rfl, ?_⟩
    rcases h with ⟨hE, hq⟩ | ⟨hE, hq, hl⟩
    · exact Or.inl ⟨hE, if_neg hq⟩
    · exact Or.inr ⟨hE, (if_pos hq).trans (if_pos (by show 40 ≤ (vs.map fv).length; omega))⟩

set_option maxRecDepth 100000 in
theorem c_V_markO {l : Launch} (hst : l.stackTraces = false) {D : va_G} {A : Nat → Prop} {e0 : Nat → Nat} {K : Nat → Nat} {ca : Nat → ClassId} {RL LP : List Nat} {fv FR : Nat → RW} {day mo : Int32} {ea : Nat} {ch : Int64} {ring : Nat → Int32} {rest : va_W} {vs : List Nat} {eo : va_W} (hI : cI e0 ca vs LP ea eo) {w9 ev9 : Nat} (hPI : PI (vs.map fv, (ring, w9, ch), ev9)) (hw9 : w9 < 2 ^ 31) {k9 : Int32} : tM l y_V_mark tb ({ frames := 8, cells := 4, slots := 85, locals := 193 }) D cls (ty0 ca) A (zz e0 A) [.ref (K 0), .int k9] (wC K ca RL LP fv FR day (nI ev9) mo (nI vs.length) ea (nI w9) ch ring (eo ++ rest)) (cR e0 K ca RL (RL.map FR) rest day (o_mark day k9 (vs.map fv, (ring, w9, ch), ev9))) (cX2 "java/util/NoSuchElementException" "java/lang/IllegalStateException" (o_mark day k9 (vs.map fv, (ring, w9, ch), ev9)) (vs.map fv, (ring, w9, ch), ev9) (wC K ca RL LP fv FR day (nI ev9) mo (nI vs.length) ea (nI w9) ch ring (eo ++ rest))) := by
  obtain ⟨-, hcu, hko, hno⟩ := id hPI
  have hnd : vs.Nodup := hI.2.2.1
  have hlm : (vs.map fv).length = vs.length := List.length_map _
  refine t_monoM (c_V_mark (ever := nI ev9) hst hI hw9) ?_ ?_
  · rintro v w2 ⟨⟨o, ho, h5⟩, hl, hv, q, hcq⟩
    rw [nI_1] at hcq
    obtain ⟨i, h1, h2, h3⟩ := lat_some ho
    exact cR_mk (S' := p_mark day k9 (vs.map fv, (ring, w9, ch), ev9)) (om_ok (S := (vs.map fv, (ring, w9, ch), ev9)) h2 (by show ¬ rw_at (vs.map fv) i 5 = -1; rw [h3]; exact h5) (by show ¬ 40 ≤ (vs.map fv).length; omega)) hv (cQ_cW hcq)
  · rintro E w2 ⟨rfl, h⟩
    refine ⟨rfl, ?_⟩
    rcases h with ⟨hE, ho | ⟨o, ho, h5⟩⟩ | ⟨hE, ⟨o, ho, h5⟩, hl⟩
    · exact Or.inl ⟨hE, om_none (S := (vs.map fv, (ring, w9, ch), ev9)) (lat_none ho)⟩
    · obtain ⟨i, h1, h2, h3⟩ := lat_some ho
      exact Or.inl ⟨hE, om_mk (S := (vs.map fv, (ring, w9, ch), ev9)) h2 (by show rw_at (vs.map fv) i 5 = -1; rw [h3]; exact h5)⟩
    · obtain ⟨i, h1, h2, h3⟩ := lat_some ho
      exact Or.inr ⟨hE, om_full (S := (vs.map fv, (ring, w9, ch), ev9)) h2 (by show ¬ rw_at (vs.map fv) i 5 = -1; rw [h3]; exact h5) (by show 40 ≤ (vs.map fv).length; omega)⟩

set_option maxRecDepth 100000 in
theorem c_V_currentO {l : Launch} (hst : l.stackTraces = false) {D : va_G} {A : Nat → Prop} {e0 : Nat → Nat} {K : Nat → Nat} {ca : Nat → ClassId} {RL LP : List Nat} {fv FR : Nat → RW} {day mo : Int32} {ea : Nat} {ch : Int64} {ring : Nat → Int32} {rest : va_W} {vs : List Nat} {eo : va_W} (hI : cI e0 ca vs LP ea eo) {w9 ev9 : Nat} (hPI : PI (vs.map fv, (ring, w9, ch), ev9)) {k9 : Int32} : tM l y_V_current tb ({ frames := 7, cells := 1, slots := 6, locals := 112 }) D cls (ty0 ca) A (zz e0 A) [.ref (K 0), .int k9] (wC K ca RL LP fv FR day (nI ev9) mo (nI vs.length) ea (nI w9) ch ring (eo ++ rest)) (cR e0 K ca RL (RL.map FR) rest day (o_current k9 (vs.map fv, (ring, w9, ch), ev9))) (cX1 "java/util/NoSuchElementException" (o_current k9 (vs.map fv, (ring, w9, ch), ev9)) (vs.map fv, (ring, w9, ch), ev9) (wC K ca RL LP fv FR day (nI ev9) mo (nI vs.length) ea (nI w9) ch ring (eo ++ rest))) := by
  obtain ⟨-, hcu, hko, hno⟩ := id hPI
  have hnd : vs.Nodup := hI.2.2.1
  have hlm : (vs.map fv).length = vs.length := List.length_map _
  refine t_monoM (c_V_current hst hI) ?_ ?_
  · rintro v w2 ⟨o, ho, h5, hv, rfl⟩
    obtain ⟨i, h1, h2, h3⟩ := lat_some ho
    exact cR_mk (S' := (vs.map fv, (ring, w9, ch), ev9)) (oc_ok (S := (vs.map fv, (ring, w9, ch), ev9)) h2 (by show ¬ rw_at (vs.map fv) i 5 = -1; rw [h3]; exact h5)) (by rw [hv]; show _ = some (Value.int (rw_at (vs.map fv) i 0)); rw [h3]) ⟨FR, vs, LP, fv, mo, ea, eo, rfl, hI, rfl, rfl⟩
  · rintro E w2 ⟨hE, rfl, ho | ⟨o, ho, h5⟩⟩
    · exact ⟨rfl, hE, oc_none (S := (vs.map fv, (ring, w9, ch), ev9)) (lat_none ho)⟩
    · obtain ⟨i, h1, h2, h3⟩ := lat_some ho
      exact ⟨rfl, hE, oc_mk (S := (vs.map fv, (ring, w9, ch), ev9)) h2 (by show rw_at (vs.map fv) i 5 = -1; rw [h3]; exact h5)⟩

theorem gd_iff {day fo : Int32} {r : RW} : (r 10 ≠ 0 ∨ (day < r 8 ∧ ¬ (fo ≠ 0 ∧ ¬ (r 9 ≠ 0 ∧ day < r 8)))) ↔ g_erase day fo r := by
  constructor
  · rintro (h | ⟨h1, h2⟩)
    · exact Or.inl h
    · refine Or.inr ⟨h1, ?_⟩
      by_cases h9 : r 9 ≠ 0
      · exact Or.inl h9
      · exact Or.inr (Classical.not_not.mp (fun hf => h2 ⟨hf, fun q => h9 q.1⟩))
  · rintro (h | ⟨h1, h2⟩)
    · exact Or.inl h
    · refine Or.inr ⟨h1, fun q => ?_⟩
      rcases h2 with h2 | h2
      · exact q.2 ⟨h2, h1⟩
      · exact q.1 h2

set_option maxRecDepth 100000 in
theorem c_V_eraseO {l : Launch} (hst : l.stackTraces = false) {D : va_G} {A : Nat → Prop} {e0 : Nat → Nat} {K : Nat → Nat} {ca : Nat → ClassId} {RL LP : List Nat} {fv FR : Nat → RW} {day mo : Int32} {ea : Nat} {ch : Int64} {ring : Nat → Int32} {rest : va_W} {vs : List Nat} {eo : va_W} (hI : cI e0 ca vs LP ea eo) {w9 ev9 : Nat} (hPI : PI (vs.map fv, (ring, w9, ch), ev9)) (hw9 : w9 < 2 ^ 31) {v9 fo9 : Int32} : tM l y_V_erase tb ({ frames := 7, cells := 2, slots := 12, locals := 113 }) D cls (ty0 ca) A (zz e0 A) [.ref (K 0), .int v9, .int fo9] (wC K ca RL LP fv FR day (nI ev9) mo (nI vs.length) ea (nI w9) ch ring (eo ++ rest)) (cR e0 K ca RL (RL.map FR) rest day (o_erase day v9 fo9 (vs.map fv, (ring, w9, ch), ev9))) (cX2 "java/util/NoSuchElementException" "java/lang/IllegalStateException" (o_erase day v9 fo9 (vs.map fv, (ring, w9, ch), ev9)) (vs.map fv, (ring, w9, ch), ev9) (wC K ca RL LP fv FR day (nI ev9) mo (nI vs.length) ea (nI w9) ch ring (eo ++ rest))) := by
  obtain ⟨-, hcu, hko, hno⟩ := id hPI
  have hnd : vs.Nodup := hI.2.2.1
  have hlm : (vs.map fv).length = vs.length := List.length_map _
  refine t_monoM (c_V_erase (ever := nI ev9) hst hI hw9) ?_ ?_
  · rintro v w2 ⟨a, ha, hg, hv, i0, hi0, hcq⟩
    obtain ⟨i, h1, h2, h3⟩ := fnd_some hno ha
    have hii : i = i0 := nd_inj hnd h1 hi0
    subst hii
    have hr : rw_at (vs.map fv) i = fv a := rw_at_map h1
    exact cR_mk (S' := p_take day i (vs.map fv, (ring, w9, ch), ev9)) (oe_ok (S := (vs.map fv, (ring, w9, ch), ev9)) h3 (by show ¬ g_erase day fo9 (rw_at (vs.map fv) i); rw [hr]; exact fun h => hg (gd_iff.mpr h))) (by rw [hv]; show _ = some (Value.int (rw_at (vs.map fv) i 1)); rw [hr]) (cQ_cW (S := p_take day i (vs.map fv, (ring, w9, ch), ev9)) (by show cQ e0 K ca RL FR rest LP fv day (nI ev9) (lg_wr (ring, w9, ch) day 3 (rw_at (vs.map fv) i 0) (rw_at (vs.map fv) i 1)) (rw_take (vs.map fv) i) _ w2; rw [hr]; exact hcq))
  · rintro E w2 ⟨rfl, h⟩
    refine ⟨rfl, ?_⟩
    rcases h with ⟨hE, ha⟩ | ⟨hE, a, ha, hg⟩
    · exact Or.inl ⟨hE, oe_none (S := (vs.map fv, (ring, w9, ch), ev9)) (fnd_none ha)⟩
    · obtain ⟨i, h1, h2, h3⟩ := fnd_some hno ha
      have hr : rw_at (vs.map fv) i = fv a := rw_at_map h1
      exact Or.inr ⟨hE, oe_grd (S := (vs.map fv, (ring, w9, ch), ev9)) h3 (by show g_erase day fo9 (rw_at (vs.map fv) i); rw [hr]; exact gd_iff.mp hg)⟩

set_option maxRecDepth 100000 in
theorem c_V_retainO {l : Launch} (hst : l.stackTraces = false) {D : va_G} {A : Nat → Prop} {e0 : Nat → Nat} {K : Nat → Nat} {ca : Nat → ClassId} {RL LP : List Nat} {fv FR : Nat → RW} {day mo : Int32} {ea : Nat} {ch : Int64} {ring : Nat → Int32} {rest : va_W} {vs : List Nat} {eo : va_W} (hI : cI e0 ca vs LP ea eo) {w9 ev9 : Nat} (hPI : PI (vs.map fv, (ring, w9, ch), ev9)) (hw9 : w9 < 2 ^ 31) {v9 days st9 : Int32} (hb01 : st9 = 0 ∨ st9 = 1) : tM l y_V_retain tb ({ frames := 8, cells := 4, slots := 24, locals := 135 }) D cls (ty0 ca) A (zz e0 A) [.ref (K 0), .int v9, .int days, .int st9] (wC K ca RL LP fv FR day (nI ev9) mo (nI vs.length) ea (nI w9) ch ring (eo ++ rest)) (cRv e0 K ca RL (RL.map FR) rest day (o_retain day v9 days st9 (vs.map fv, (ring, w9, ch), ev9))) (cX3 "java/util/NoSuchElementException" "java/lang/IllegalArgumentException" "java/lang/IllegalStateException" (o_retain day v9 days st9 (vs.map fv, (ring, w9, ch), ev9)) (vs.map fv, (ring, w9, ch), ev9) (wC K ca RL LP fv FR day (nI ev9) mo (nI vs.length) ea (nI w9) ch ring (eo ++ rest))) := by
  obtain ⟨-, hcu, hko, hno⟩ := id hPI
  have hnd : vs.Nodup := hI.2.2.1
  have hlm : (vs.map fv).length = vs.length := List.length_map _
  refine t_monoM (c_V_retain (ever := nI ev9) hst hI hw9 hb01) ?_ ?_
  · rintro v w2 ⟨a, ha, h5, hd, hg, rfl, rfl⟩
    obtain ⟨i, h1, h2, h3⟩ := obj_some hko hno ha h5
    have hr : rw_at (vs.map fv) i = fv a := rw_at_map h1
    have e := or_ok (day := day) (days := days) (st := st9) (S := (vs.map fv, (ring, w9, ch), ev9)) h3 hd (by show ¬ g_weak day days st9 (rw_at (vs.map fv) i); rw [hr]; exact hg)
    rw [show rw_at ((vs.map fv, (ring, w9, ch), ev9) : PS).1 i = fv a from hr] at e
    exact cRv_mk e ⟨FR, vs, LP, va_up fv a (upd (upd (fv a) 8 (day + days)) 9 st9), mo, ea, eo, rfl, hI, map_up hnd h1, rfl⟩
  · rintro E w2 ⟨rfl, h⟩
    refine ⟨rfl, ?_⟩
    rcases h with ⟨hE, ha⟩ | ⟨a, ha, h5, ⟨hE, hd⟩ | ⟨hE, hd, hg⟩⟩
    · exact Or.inl ⟨hE, or_none (S := (vs.map fv, (ring, w9, ch), ev9)) (obj_none hko hno ha)⟩
    · obtain ⟨i, h1, h2, h3⟩ := obj_some hko hno ha h5
      have hr : rw_at (vs.map fv) i = fv a := rw_at_map h1
      exact Or.inr (Or.inl ⟨hE, or_bad (S := (vs.map fv, (ring, w9, ch), ev9)) h3 hd⟩)
    · obtain ⟨i, h1, h2, h3⟩ := obj_some hko hno ha h5
      have hr : rw_at (vs.map fv) i = fv a := rw_at_map h1
      exact Or.inr (Or.inr ⟨hE, or_weak (S := (vs.map fv, (ring, w9, ch), ev9)) h3 hd (by show g_weak day days st9 (rw_at (vs.map fv) i); rw [hr]; exact hg)⟩)

set_option maxRecDepth 100000 in
theorem c_V_fetchO {l : Launch} (hst : l.stackTraces = false) {D : va_G} {A : Nat → Prop} {e0 : Nat → Nat} {K : Nat → Nat} {ca : Nat → ClassId} {RL LP : List Nat} {fv FR : Nat → RW} {day mo : Int32} {ea : Nat} {ch : Int64} {ring : Nat → Int32} {rest : va_W} {vs : List Nat} {eo : va_W} (hI : cI e0 ca vs LP ea eo) {w9 ev9 : Nat} (hPI : PI (vs.map fv, (ring, w9, ch), ev9)) (hw9 : w9 < 2 ^ 31) {v9 days : Int32} : tM l y_V_fetch tb ({ frames := 8, cells := 4, slots := 24, locals := 135 }) D cls (ty0 ca) A (zz e0 A) [.ref (K 0), .int v9, .int days] (wC K ca RL LP fv FR day (nI ev9) mo (nI vs.length) ea (nI w9) ch ring (eo ++ rest)) (cR e0 K ca RL (RL.map FR) rest day (o_fetch day v9 days (vs.map fv, (ring, w9, ch), ev9))) (cX3 "java/util/NoSuchElementException" "java/lang/IllegalArgumentException" "java/lang/IllegalStateException" (o_fetch day v9 days (vs.map fv, (ring, w9, ch), ev9)) (vs.map fv, (ring, w9, ch), ev9) (wC K ca RL LP fv FR day (nI ev9) mo (nI vs.length) ea (nI w9) ch ring (eo ++ rest))) := by
  obtain ⟨-, hcu, hko, hno⟩ := id hPI
  have hnd : vs.Nodup := hI.2.2.1
  have hlm : (vs.map fv).length = vs.length := List.length_map _
  refine t_monoM (c_V_fetch (ever := nI ev9) hst hI hw9) ?_ ?_
  · rintro v w2 ⟨a, ha, h5, hd, hg, hv, rfl⟩
    obtain ⟨i, h1, h2, h3⟩ := obj_some hko hno ha h5
    have hr : rw_at (vs.map fv) i = fv a := rw_at_map h1
    have e := of_ok (day := day) (days := days) (S := (vs.map fv, (ring, w9, ch), ev9)) h3 hd (by show 2 ≤ rw_at (vs.map fv) i 5; rw [hr]; exact hg)
    rw [show rw_at ((vs.map fv, (ring, w9, ch), ev9) : PS).1 i = fv a from hr] at e
    exact cR_mk e hv ⟨FR, vs, LP, va_up fv a (upd (upd (fv a) 11 (f_day day (fv a))) 12 (f_day day (fv a) + days)), mo, ea, eo, rfl, hI, map_up hnd h1, rfl⟩
  · rintro E w2 ⟨rfl, h⟩
    refine ⟨rfl, ?_⟩
    rcases h with ⟨hE, ha⟩ | ⟨a, ha, h5, ⟨hE, hd⟩ | ⟨hE, hd, hg⟩⟩
    · exact Or.inl ⟨hE, of_none (S := (vs.map fv, (ring, w9, ch), ev9)) (obj_none hko hno ha)⟩
    · obtain ⟨i, h1, h2, h3⟩ := obj_some hko hno ha h5
      have hr : rw_at (vs.map fv) i = fv a := rw_at_map h1
      exact Or.inr (Or.inl ⟨hE, of_bad (S := (vs.map fv, (ring, w9, ch), ev9)) h3 hd⟩)
    · obtain ⟨i, h1, h2, h3⟩ := obj_some hko hno ha h5
      have hr : rw_at (vs.map fv) i = fv a := rw_at_map h1
      exact Or.inr (Or.inr ⟨hE, of_warm (S := (vs.map fv, (ring, w9, ch), ev9)) h3 hd (by show ¬ 2 ≤ rw_at (vs.map fv) i 5; rw [hr]; exact hg)⟩)

set_option maxRecDepth 100000 in
theorem c_V_holdO {l : Launch} (hst : l.stackTraces = false) {D : va_G} {A : Nat → Prop} {e0 : Nat → Nat} {K : Nat → Nat} {ca : Nat → ClassId} {RL LP : List Nat} {fv FR : Nat → RW} {day mo : Int32} {ea : Nat} {ch : Int64} {ring : Nat → Int32} {rest : va_W} {vs : List Nat} {eo : va_W} (hI : cI e0 ca vs LP ea eo) {w9 ev9 : Nat} (hPI : PI (vs.map fv, (ring, w9, ch), ev9)) (hw9 : w9 < 2 ^ 31) {v9 ho9 on9 : Int32} : tM l y_V_hold tb ({ frames := 8, cells := 3, slots := 18, locals := 135 }) D cls (ty0 ca) A (zz e0 A) [.ref (K 0), .int v9, .int ho9, .int on9] (wC K ca RL LP fv FR day (nI ev9) mo (nI vs.length) ea (nI w9) ch ring (eo ++ rest)) (cR e0 K ca RL (RL.map FR) rest day (o_hold day v9 ho9 on9 (vs.map fv, (ring, w9, ch), ev9))) (cX2 "java/util/NoSuchElementException" "java/lang/IllegalArgumentException" (o_hold day v9 ho9 on9 (vs.map fv, (ring, w9, ch), ev9)) (vs.map fv, (ring, w9, ch), ev9) (wC K ca RL LP fv FR day (nI ev9) mo (nI vs.length) ea (nI w9) ch ring (eo ++ rest))) := by
  obtain ⟨-, hcu, hko, hno⟩ := id hPI
  have hnd : vs.Nodup := hI.2.2.1
  have hlm : (vs.map fv).length = vs.length := List.length_map _
  refine t_monoM (c_V_hold (ever := nI ev9) hst hI hw9) ?_ ?_
  · rintro v w2 ⟨a, ha, h5, hd, ⟨hg, hv, rfl⟩ | ⟨hg, hv, rfl⟩⟩
    · obtain ⟨i, h1, h2, h3⟩ := obj_some hko hno ha h5
      have hr : rw_at (vs.map fv) i = fv a := rw_at_map h1
      exact cR_mk (oh_same (day := day) (S := (vs.map fv, (ring, w9, ch), ev9)) h3 hd (by show bI (rw_at (vs.map fv) i 10 &&& (1 <<< (ho9 &&& 31)) ≠ 0) = on9; rw [hr]; exact hg)) hv ⟨FR, vs, LP, fv, mo, ea, eo, rfl, hI, rfl, rfl⟩
    · obtain ⟨i, h1, h2, h3⟩ := obj_some hko hno ha h5
      have hr : rw_at (vs.map fv) i = fv a := rw_at_map h1
      have e := oh_ok (day := day) (on := on9) (S := (vs.map fv, (ring, w9, ch), ev9)) h3 hd (by show ¬ bI (rw_at (vs.map fv) i 10 &&& (1 <<< (ho9 &&& 31)) ≠ 0) = on9; rw [hr]; exact hg)
      rw [show rw_at ((vs.map fv, (ring, w9, ch), ev9) : PS).1 i = fv a from hr] at e
      exact cR_mk e hv ⟨FR, vs, LP, va_up fv a (upd (fv a) 10 (fv a 10 ^^^ (1 <<< (ho9 &&& 31)))), mo, ea, eo, rfl, hI, map_up hnd h1, rfl⟩
  · rintro E w2 ⟨rfl, h⟩
    refine ⟨rfl, ?_⟩
    rcases h with ⟨hE, ha⟩ | ⟨a, ha, h5, hE, hd⟩
    · exact Or.inl ⟨hE, oh_none (S := (vs.map fv, (ring, w9, ch), ev9)) (obj_none hko hno ha)⟩
    · obtain ⟨i, h1, h2, h3⟩ := obj_some hko hno ha h5
      have hr : rw_at (vs.map fv) i = fv a := rw_at_map h1
      exact Or.inr ⟨hE, oh_bad (S := (vs.map fv, (ring, w9, ch), ev9)) h3 hd⟩

set_option maxRecDepth 100000 in
theorem c_V_readO {l : Launch} (hst : l.stackTraces = false) {D : va_G} {A : Nat → Prop} {e0 : Nat → Nat} {K : Nat → Nat} {ca : Nat → ClassId} {RL LP : List Nat} {fv FR : Nat → RW} {day mo : Int32} {ea : Nat} {ch : Int64} {ring : Nat → Int32} {rest : va_W} {vs : List Nat} {eo : va_W} (hI : cI e0 ca vs LP ea eo) {w9 ev9 : Nat} (hPI : PI (vs.map fv, (ring, w9, ch), ev9)) {v9 : Int32} : tM l y_V_read tb ({ frames := 8, cells := 3, slots := 18, locals := 135 }) D cls (ty0 ca) A (zz e0 A) [.ref (K 0), .int v9] (wC K ca RL LP fv FR day (nI ev9) mo (nI vs.length) ea (nI w9) ch ring (eo ++ rest)) (cR e0 K ca RL (RL.map FR) rest day (o_read day v9 (vs.map fv, (ring, w9, ch), ev9))) (cX2 "java/util/NoSuchElementException" "java/lang/IllegalStateException" (o_read day v9 (vs.map fv, (ring, w9, ch), ev9)) (vs.map fv, (ring, w9, ch), ev9) (wC K ca RL LP fv FR day (nI ev9) mo (nI vs.length) ea (nI w9) ch ring (eo ++ rest))) := by
  obtain ⟨-, hcu, hko, hno⟩ := id hPI
  have hnd : vs.Nodup := hI.2.2.1
  have hlm : (vs.map fv).length = vs.length := List.length_map _
  refine t_monoM (c_V_read hst hI) ?_ ?_
  · rintro v w2 ⟨a, ha, h5, hg, hv, rfl⟩
    obtain ⟨i, h1, h2, h3⟩ := obj_some hko hno ha h5
    have hr : rw_at (vs.map fv) i = fv a := rw_at_map h1
    exact cR_mk (oa_ok (S := (vs.map fv, (ring, w9, ch), ev9)) h3 (by show ¬ g_cold day (rw_at (vs.map fv) i); rw [hr]; exact hg)) (by rw [hv]; show _ = some (Value.int (rw_at (vs.map fv) i 3)); rw [hr]) ⟨FR, vs, LP, fv, mo, ea, eo, rfl, hI, rfl, rfl⟩
  · rintro E w2 ⟨rfl, h⟩
    refine ⟨rfl, ?_⟩
    rcases h with ⟨hE, ha⟩ | ⟨hE, a, ha, h5, hg1, hg2⟩
    · exact Or.inl ⟨hE, oa_none (S := (vs.map fv, (ring, w9, ch), ev9)) (obj_none hko hno ha)⟩
    · obtain ⟨i, h1, h2, h3⟩ := obj_some hko hno ha h5
      have hr : rw_at (vs.map fv) i = fv a := rw_at_map h1
      exact Or.inr ⟨hE, oa_cold (S := (vs.map fv, (ring, w9, ch), ev9)) h3 (by show g_cold day (rw_at (vs.map fv) i); rw [hr]; exact ⟨hg1, hg2⟩)⟩

theorem rg_iff {x : Int32} {n : Nat} (hn : n < 100) : ¬ (x.toInt < 0 ∨ (n : Int) < x.toInt) ↔ 0 ≤ x ∧ x ≤ nI n := by
  have e0 : (0 : Int32).toInt = 0 := by decide
  have en : (nI n).toInt = n := nI_toInt (by omega)
  rw [Int32.le_iff_toInt_le, Int32.le_iff_toInt_le, e0, en]
  omega

set_option maxRecDepth 100000 in
theorem c_V_aboutO {l : Launch} (hst : l.stackTraces = false) {D : va_G} {A : Nat → Prop} {e0 : Nat → Nat} {K : Nat → Nat} {ca : Nat → ClassId} {RL LP : List Nat} {fv FR : Nat → RW} {day mo : Int32} {ea : Nat} {ch : Int64} {ring : Nat → Int32} {rest : va_W} {vs : List Nat} {eo : va_W} (hI : cI e0 ca vs LP ea eo) {w9 ev9 : Nat} (hPI : PI (vs.map fv, (ring, w9, ch), ev9)) {v9 wh9 : Int32} : tM l y_V_about tb ({ frames := 7, cells := 2, slots := 12, locals := 113 }) D cls (ty0 ca) A (zz e0 A) [.ref (K 0), .int v9, .int wh9] (wC K ca RL LP fv FR day (nI ev9) mo (nI vs.length) ea (nI w9) ch ring (eo ++ rest)) (cR e0 K ca RL (RL.map FR) rest day (o_about day v9 wh9 (vs.map fv, (ring, w9, ch), ev9))) (cX2 "java/util/NoSuchElementException" "java/lang/IllegalArgumentException" (o_about day v9 wh9 (vs.map fv, (ring, w9, ch), ev9)) (vs.map fv, (ring, w9, ch), ev9) (wC K ca RL LP fv FR day (nI ev9) mo (nI vs.length) ea (nI w9) ch ring (eo ++ rest))) := by
  obtain ⟨-, hcu, hko, hno⟩ := id hPI
  have hnd : vs.Nodup := hI.2.2.1
  have hlm : (vs.map fv).length = vs.length := List.length_map _
  refine t_monoM (c_V_about hst hI) ?_ ?_
  · rintro v w2 ⟨a, ha, hd, hv, rfl⟩
    obtain ⟨i, h1, h2, h3⟩ := fnd_some hno ha
    have hr : rw_at (vs.map fv) i = fv a := rw_at_map h1
    exact cR_mk (ob_ok (S := (vs.map fv, (ring, w9, ch), ev9)) h3 ((rg_iff (n := 7) (by decide)).mp hd)) (by rw [hv]; show _ = some (Value.int (rw_about (rw_at (vs.map fv) i) day wh9)); rw [hr]) ⟨FR, vs, LP, fv, mo, ea, eo, rfl, hI, rfl, rfl⟩
  · rintro E w2 ⟨rfl, h⟩
    refine ⟨rfl, ?_⟩
    rcases h with ⟨hE, ha⟩ | ⟨hE, ⟨a, ha⟩, hd⟩
    · exact Or.inl ⟨hE, ob_none (S := (vs.map fv, (ring, w9, ch), ev9)) (fnd_none ha)⟩
    · obtain ⟨i, h1, h2, h3⟩ := fnd_some hno ha
      exact Or.inr ⟨hE, ob_bad (S := (vs.map fv, (ring, w9, ch), ev9)) h3 (fun q => (rg_iff (n := 7) (by decide)).mpr q hd)⟩

set_option maxRecDepth 100000 in
theorem c_V_ruleO {l : Launch} (hst : l.stackTraces = false) {D : va_G} {A : Nat → Prop} {e0 : Nat → Nat} {K : Nat → Nat} {ca : Nat → ClassId} {RL LP : List Nat} {fv FR : Nat → RW} {day mo : Int32} {ea : Nat} {ch : Int64} {ring : Nat → Int32} {rest : va_W} {vs : List Nat} {eo : va_W} (hI : cI e0 ca vs LP ea eo) {w9 ev9 : Nat} (hPI : PI (vs.map fv, (ring, w9, ch), ev9)) (hw9 : w9 < 2 ^ 31) {ru9 tg9 cu9 da9 ac9 : Int32} (hb01 : cu9 = 0 ∨ cu9 = 1) (hRL : RL.length = 6) (hRn : RL.Nodup) : tM l y_V_rule tb ({ frames := 7, cells := 2, slots := 12, locals := 110 }) D cls (ty0 ca) A (zz e0 A) [.ref (K 0), .int ru9, .int tg9, .int cu9, .int da9, .int ac9] (wC K ca RL LP fv FR day (nI ev9) mo (nI vs.length) ea (nI w9) ch ring (eo ++ rest)) (cRv e0 K ca RL (n_rule ru9 tg9 cu9 da9 ac9 (RL.map FR)) rest day (o_rule day ru9 tg9 da9 ac9 (vs.map fv, (ring, w9, ch), ev9))) (cX1 "java/lang/IllegalArgumentException" (o_rule day ru9 tg9 da9 ac9 (vs.map fv, (ring, w9, ch), ev9)) (vs.map fv, (ring, w9, ch), ev9) (wC K ca RL LP fv FR day (nI ev9) mo (nI vs.length) ea (nI w9) ch ring (eo ++ rest))) := by
  obtain ⟨-, hcu, hko, hno⟩ := id hPI
  have hnd : vs.Nodup := hI.2.2.1
  have hlm : (vs.map fv).length = vs.length := List.length_map _
  refine t_monoM (c_V_rule (ever := nI ev9) hst hI hw9 hb01 hRL) ?_ ?_
  · rintro v w2 ⟨hq, u, hu, rfl, rfl⟩
    have hr : rw_at (RL.map FR) ru9.toNatClampNeg = FR u := rw_at_map hu
    exact cRv_mk (if_pos hq) ⟨va_up FR u (upd (upd (upd (upd (FR u) 0 tg9) 1 cu9) 2 da9) 3 ac9), vs, LP, fv, mo, ea, eo, by rw [show n_rule ru9 tg9 cu9 da9 ac9 (RL.map FR) = _ from if_pos hq, hr]; exact map_up hRn hu, hI, rfl, rfl⟩
  · rintro E w2 ⟨hE, rfl, hq⟩
    exact ⟨rfl, hE, if_neg hq⟩

set_option maxRecDepth 100000 in
theorem c_V_unruleO {l : Launch} (hst : l.stackTraces = false) {D : va_G} {A : Nat → Prop} {e0 : Nat → Nat} {K : Nat → Nat} {ca : Nat → ClassId} {RL LP : List Nat} {fv FR : Nat → RW} {day mo : Int32} {ea : Nat} {ch : Int64} {ring : Nat → Int32} {rest : va_W} {vs : List Nat} {eo : va_W} (hI : cI e0 ca vs LP ea eo) {w9 ev9 : Nat} (hPI : PI (vs.map fv, (ring, w9, ch), ev9)) (hw9 : w9 < 2 ^ 31) {ru9 : Int32} (hRL : RL.length = 6) (hRn : RL.Nodup) : tM l y_V_unrule tb ({ frames := 7, cells := 1, slots := 6, locals := 110 }) D cls (ty0 ca) A (zz e0 A) [.ref (K 0), .int ru9] (wC K ca RL LP fv FR day (nI ev9) mo (nI vs.length) ea (nI w9) ch ring (eo ++ rest)) (cR e0 K ca RL (n_unrule ru9 (RL.map FR)) rest day (o_unrule day ru9 (RL.map FR) (vs.map fv, (ring, w9, ch), ev9))) (cX1 "java/lang/IllegalArgumentException" (o_unrule day ru9 (RL.map FR) (vs.map fv, (ring, w9, ch), ev9)) (vs.map fv, (ring, w9, ch), ev9) (wC K ca RL LP fv FR day (nI ev9) mo (nI vs.length) ea (nI w9) ch ring (eo ++ rest))) := by
  obtain ⟨-, hcu, hko, hno⟩ := id hPI
  have hnd : vs.Nodup := hI.2.2.1
  have hlm : (vs.map fv).length = vs.length := List.length_map _
  refine t_monoM (c_V_unrule (ever := nI ev9) hst hI hw9 hRL) ?_ ?_
  · rintro v w2 ⟨hq, u, hu, ⟨hz, hv, rfl⟩ | ⟨hz, hv, rfl⟩⟩
    · have hr : rw_at (RL.map FR) ru9.toNatClampNeg = FR u := rw_at_map hu
      have e : rw_at (RL.map FR) ru9.toNatClampNeg 3 = 0 := by rw [hr]; exact hz
      exact cR_mk ((if_pos hq).trans (if_pos e)) hv ⟨FR, vs, LP, fv, mo, ea, eo, by rw [show n_unrule ru9 (RL.map FR) = RL.map FR from (if_pos hq).trans (if_pos e)], hI, rfl, rfl⟩
    · have hr : rw_at (RL.map FR) ru9.toNatClampNeg = FR u := rw_at_map hu
      have e : ¬ rw_at (RL.map FR) ru9.toNatClampNeg 3 = 0 := by rw [hr]; exact hz
      exact cR_mk ((if_pos hq).trans (if_neg e)) hv ⟨va_up FR u (upd (FR u) 3 0), vs, LP, fv, mo, ea, eo, by rw [show n_unrule ru9 (RL.map FR) = _ from (if_pos hq).trans (if_neg e), hr]; exact map_up hRn hu, hI, rfl, rfl⟩
  · rintro E w2 ⟨hE, rfl, hq⟩
    exact ⟨rfl, hE, if_neg hq⟩

theorem en_k {k : Int32} : k < 64 ↔ k ≤ 63 := by
  rw [Int32.lt_iff_toInt_lt, Int32.le_iff_toInt_le, show (64 : Int32).toInt = 64 by decide, show (63 : Int32).toInt = 63 by decide]
  omega
theorem en_at {w9 : Nat} {k what : Int32} (hw9 : w9 < 2 ^ 31) (hk : 0 ≤ k ∧ k < 64 ∧ k < nI w9) (hw : 0 ≤ what ∧ what ≤ 3) : (((nI w9 - 1 - k) &&& 63) * 4 + what).toNatClampNeg = (w9 - 1 - k.toNatClampNeg) % 64 * 4 + what.toNatClampNeg := by
  obtain ⟨j, hj, rfl⟩ := nI_of2 (x := k) (M := 63) (n := 63) (by decide) (Int32.not_lt.mpr hk.1) (en_k.mp hk.2.1)
  obtain ⟨t, ht, rfl⟩ := nI_of2 (x := what) (M := 3) (n := 3) (by decide) (Int32.not_lt.mpr hw.1) hw.2
  have hjw : j < w9 := (nI_ltI (by omega) hw9).mp hk.2.2
  rw [show nI w9 - 1 = nI (w9 - 1) from nI_subN (a := w9) (b := 1) (by omega), nI_subN (by omega), lg_place (by omega), nI_add, nI_clamp (by omega), nI_clamp (by omega), nI_clamp (by omega)]

set_option maxRecDepth 100000 in
theorem c_V_entryO {l : Launch} (hst : l.stackTraces = false) {D : va_G} {A : Nat → Prop} {e0 : Nat → Nat} {K : Nat → Nat} {ca : Nat → ClassId} {RL LP : List Nat} {fv FR : Nat → RW} {day mo : Int32} {ea : Nat} {ch : Int64} {ring : Nat → Int32} {rest : va_W} {vs : List Nat} {eo : va_W} (hI : cI e0 ca vs LP ea eo) {w9 ev9 : Nat} (hPI : PI (vs.map fv, (ring, w9, ch), ev9)) (hw9 : w9 < 2 ^ 31) {k9 wh9 : Int32} : tM l y_V_entry tb ({ frames := 7, cells := 2, slots := 12, locals := 110 }) D cls (ty0 ca) A (zz e0 A) [.ref (K 0), .int k9, .int wh9] (wC K ca RL LP fv FR day (nI ev9) mo (nI vs.length) ea (nI w9) ch ring (eo ++ rest)) (cR e0 K ca RL (RL.map FR) rest day (o_entry k9 wh9 (vs.map fv, (ring, w9, ch), ev9))) (cX2 "java/lang/IllegalArgumentException" "java/lang/IndexOutOfBoundsException" (o_entry k9 wh9 (vs.map fv, (ring, w9, ch), ev9)) (vs.map fv, (ring, w9, ch), ev9) (wC K ca RL LP fv FR day (nI ev9) mo (nI vs.length) ea (nI w9) ch ring (eo ++ rest))) := by
  obtain ⟨-, hcu, hko, hno⟩ := id hPI
  have hnd : vs.Nodup := hI.2.2.1
  have hlm : (vs.map fv).length = vs.length := List.length_map _
  refine t_monoM (c_V_entry hst hI) ?_ ?_
  · rintro v w2 ⟨hw, hk, hv, rfl⟩
    exact cR_mk ((if_pos hw).trans (if_pos ⟨hk.1, en_k.mp hk.2.1, hk.2.2⟩)) (by rw [hv, en_at hw9 hk hw]) ⟨FR, vs, LP, fv, mo, ea, eo, rfl, hI, rfl, rfl⟩
  · rintro E w2 ⟨rfl, ⟨hE, hw⟩ | ⟨hE, hw, hk⟩⟩
    · exact ⟨rfl, Or.inl ⟨hE, if_neg hw⟩⟩
    · exact ⟨rfl, Or.inr ⟨hE, (if_pos hw).trans (if_neg (fun q => hk ⟨q.1, en_k.mpr q.2.1, q.2.2⟩))⟩⟩

set_option maxRecDepth 100000 in
theorem c_V_figureO {l : Launch} (hst : l.stackTraces = false) {D : va_G} {A : Nat → Prop} {e0 : Nat → Nat} {K : Nat → Nat} {ca : Nat → ClassId} {RL LP : List Nat} {fv FR : Nat → RW} {day mo : Int32} {ea : Nat} {ch : Int64} {ring : Nat → Int32} {rest : va_W} {vs : List Nat} {eo : va_W} (hI : cI e0 ca vs LP ea eo) {w9 ev9 : Nat} (hPI : PI (vs.map fv, (ring, w9, ch), ev9)) {k9 : Int32} : tM l y_V_figure tb ({ frames := 6, cells := 1, slots := 6, locals := 90 }) D cls (ty0 ca) A (zz e0 A) [.ref (K 0), .int k9] (wC K ca RL LP fv FR day (nI ev9) mo (nI vs.length) ea (nI w9) ch ring (eo ++ rest)) (cR e0 K ca RL (RL.map FR) rest day (o_figure day k9 (vs.map fv, (ring, w9, ch), ev9))) (cX1 "java/lang/IllegalArgumentException" (o_figure day k9 (vs.map fv, (ring, w9, ch), ev9)) (vs.map fv, (ring, w9, ch), ev9) (wC K ca RL LP fv FR day (nI ev9) mo (nI vs.length) ea (nI w9) ch ring (eo ++ rest))) := by
  obtain ⟨-, hcu, hko, hno⟩ := id hPI
  have hnd : vs.Nodup := hI.2.2.1
  have hlm : (vs.map fv).length = vs.length := List.length_map _
  refine t_monoM (c_V_figure hst hI) ?_ ?_
  · rintro v w2 ⟨hk, hv, rfl⟩
    exact cR_mk (if_pos ((rg_iff (n := 5) (by decide)).mp hk)) hv ⟨FR, vs, LP, fv, mo, ea, eo, rfl, hI, rfl, rfl⟩
  · rintro E w2 ⟨hE, rfl, hk⟩
    exact ⟨rfl, hE, if_neg (fun q => (rg_iff (n := 5) (by decide)).mpr q hk)⟩

set_option maxRecDepth 100000 in
theorem c_V_tickO {l : Launch} (hst : l.stackTraces = false) {D : va_G} {A : Nat → Prop} {e0 : Nat → Nat} {K : Nat → Nat} {ca : Nat → ClassId} {RL LP : List Nat} {fv FR : Nat → RW} {day mo : Int32} {ea : Nat} {ch : Int64} {ring : Nat → Int32} {rest : va_W} {vs : List Nat} {eo : va_W} (hI : cI e0 ca vs LP ea eo) {w9 ev9 : Nat} (hPI : PI (vs.map fv, (ring, w9, ch), ev9)) (hw6 : w9 + 280000 < 2 ^ 31) (hevp : ev9 + pot (vs.map fv) < 2 ^ 31) {da9 : Int32} (hRL : RL.length = 6) (hrI : ∀ R ∈ RL.map FR, rOK R) : tM l y_V_tick tb ({ frames := 11, cells := 81, slots := 2926, locals := 260 }) D cls (ty0 ca) A (zz e0 A) [.ref (K 0), .int da9] (wC K ca RL LP fv FR day (nI ev9) mo (nI vs.length) ea (nI w9) ch ring (eo ++ rest)) (cR e0 K ca RL (RL.map FR) rest (d_tick day da9) (o_tick day da9 (RL.map FR) (vs.map fv, (ring, w9, ch), ev9))) (cX1 "java/lang/IllegalArgumentException" (o_tick day da9 (RL.map FR) (vs.map fv, (ring, w9, ch), ev9)) (vs.map fv, (ring, w9, ch), ev9) (wC K ca RL LP fv FR day (nI ev9) mo (nI vs.length) ea (nI w9) ch ring (eo ++ rest))) := by
  obtain ⟨-, hcu, hko, hno⟩ := id hPI
  have hnd : vs.Nodup := hI.2.2.1
  have hlm : (vs.map fv).length = vs.length := List.length_map _
  have hT := PI_tick (n := da9.toNatClampNeg) (day := day) hrI hPI hevp
  have hp := pot_le (rows := vs.map fv)
  have hI4 := hI.2.2.2
  refine t_monoM (c_V_tick (pu := 40) hst hI (by omega) rfl rfl rfl hRL rfl (by have h9 := hT.2; show _ ≤ ev9 + 40; dsimp only at h9; omega) hw6) ?_ ?_
  · rintro v w2 ⟨hd, hv, vs2, hcq⟩
    rw [show d_tick day da9 = day + da9 from if_pos hd]
    exact cR_mk (if_pos hd) hv (cQ_cW hcq)
  · rintro E w2 ⟨hE, rfl, hd⟩
    exact ⟨rfl, hE, if_neg hd⟩
