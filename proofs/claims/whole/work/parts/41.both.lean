/-! Both sides in one world. Laid by program (wip/whole/p41.py) -/
theorem t_permM {l : Launch} {y : MethodName} {Ts : List Cond} {rm : Room} {D : va_G} {cl : List vw_C} {tys : List (ClassId × FieldType)} {A : Nat → Prop} {Z : State → Heap → Prop} {av : List Value} {w0 w1 : va_W} {Po Po' : Option Value → va_W → Prop} {Xo Xo' : String → va_W → Prop} (hp : w0.Perm w1) (h : tM l y Ts rm D cl tys A Z av w1 Po Xo) (hP : ∀ v w, Po v w → ∃ w', w.Perm w' ∧ Po' v w') (hX : ∀ E w, Xo E w → ∃ w', w.Perm w' ∧ Xo' E w') : tM l y Ts rm D cl tys A Z av w0 Po' Xo' := by
  intro p e h1 h2 h3 s m args below hf ha hPre hK
  obtain ⟨n, o, a1, a2, a3, a4⟩ := h p e h1 h2 h3 s m args below hf ha ⟨hPre.1, t_permW hp hPre.2⟩ hK
  refine ⟨n, o, a1, a2, a3, ?_⟩
  rcases a4 with ⟨v, b1, ⟨b2, w, b3, b4⟩, b5⟩ | ⟨q, E, ce, L, b1, ⟨b2, w, b3, b4⟩, b5⟩
  · obtain ⟨w', c1, c2⟩ := hP v w b3
    exact Or.inl ⟨v, b1, ⟨b2, w', c2, t_permW c1 b4⟩, b5⟩
  · obtain ⟨w', c1, c2⟩ := hX E w b3
    exact Or.inr ⟨q, E, ce, L, b1, ⟨b2, w', c2, t_permW c1 b4⟩, b5⟩
theorem wp_gen {α : Type} (x : α) (F P Q eo N : List α) : (x :: (F ++ (P ++ (Q ++ (eo ++ N))))).Perm (N ++ (x :: (F ++ (P ++ (Q ++ (eo ++ [])))))) := by
  rw [List.append_nil]
  have e : x :: (F ++ (P ++ (Q ++ (eo ++ N)))) = (x :: (F ++ (P ++ (Q ++ eo)))) ++ N := by simp [List.append_assoc]
  rw [e]
  exact List.perm_append_comm
abbrev xO (ca : Nat → ClassId) (ao : Nat) (g : Nat → Int64) : Nat × va_E := (ao, .inl (ca 2, 1, .inr (.inl g)))
theorem wL_perm {J : Nat → Nat} {K : Nat → Nat} {ca : Nat → ClassId} {RL LP : List Nat} {fv FR : Nat → RW} {dc ever mo n : Int32} {ea : Nat} {wr : Int32} {ch : Int64} {ring : Nat → Int32} {eo : va_W} {x : Nat × va_E} {code day : Int32} {S : PS} {M U : Nat → Nat → Int32} : (x :: wC K ca RL LP fv FR dc ever mo n ea wr ch ring (eo ++ wS J ca code day S M U [])).Perm (wS J ca code day S M U (x :: wC K ca RL LP fv FR dc ever mo n ea wr ch ring (eo ++ []))) :=
  wp_gen x _ _ _ eo (wS J ca code day S M U [])
/-- both sides in one world: the class's rules, day, table; the reference's; the array of answers -/
def lw2 (e0 K J : Nat → Nat) (ca : Nat → ClassId) (RL : List Nat) (ao : Nat) (Rc : List RW) (dc : Int32) (Sc : PS) (code : Int32) (Rm : List RW) (dm : Int32) (Sm : PS) (g : Nat → Int64) (w : va_W) : Prop := ∃ w3 M U, cW e0 K ca RL Rc (wS J ca code dm Sm M U []) dc Sc w3 ∧ mA Sm.1 M ∧ uA Rm U ∧ w = xO ca ao g :: w3
section LB
variable {D : va_G} {A : Nat → Prop} {e0 K J : Nat → Nat} {ca : Nat → ClassId} {RL : List Nat} {ao : Nat} {Rc Rm : List RW} {dc dm code : Int32} {Sc Sm : PS} {g : Nat → Int64} {w : va_W} {s : State} {H : Heap} {locs : List Loc}
theorem lw2_J (hw : lw2 e0 K J ca RL ao Rc dc Sc code Rm dm Sm g w) (hC : tC D cls (ty0 ca) A (zz e0 A) s w H locs) : ∃ cell : Cell, H[J 0]? = some cell ∧ cell.vm.isStatics = false ∧ s.vm.findClass "RetentionVaultModel" = some cell.cls := by
  obtain ⟨w3, M, U, ⟨FR, vs, LP, fv, mo, ea, eo, hRs, hI, hrow, rfl⟩, hmA, huA, rfl⟩ := hw
  exact t_recv (q0 := 0) (t_perm wL_perm hC) rfl rfl
theorem lw2_K (hw : lw2 e0 K J ca RL ao Rc dc Sc code Rm dm Sm g w) (hC : tC D cls (ty0 ca) A (zz e0 A) s w H locs) : ∃ cell : Cell, H[K 0]? = some cell ∧ cell.vm.isStatics = false ∧ s.vm.findClass "RetentionVault" = some cell.cls := by
  obtain ⟨w3, M, U, ⟨FR, vs, LP, fv, mo, ea, eo, hRs, hI, hrow, rfl⟩, hmA, huA, rfl⟩ := hw
  exact t_recv (q0 := 1) hC rfl rfl
end LB

theorem l_put {l : Launch} (hst : l.stackTraces = false) {D : va_G} {A : Nat → Prop} {e0 K J : Nat → Nat} {ca : Nat → ClassId} {RL : List Nat} {ao : Nat} {g : Nat → Int64} {w : va_W} {n : Nat} (hn : n ≤ 512) {Rs Rm : List RW} {day dm code : Int32} {S Sm : PS} (hw : lw2 e0 K J ca RL ao Rs day S code Rm dm Sm g w) (hok : okS n S) {a1 a2 a3 : Int32} : tM l y_W_put tb ({ frames := 9, cells := 4, slots := 85, locals := 217 }) D cls (ty0 ca) A (zz e0 A) [.ref (K 0), .int a1, .int a2, .int a3, .ref ao] w (fun v w2 => v = some (.int (o_put day a1 a2 a3 S).1) ∧ ∃ g2, ((o_put day a1 a2 a3 S).1 = 0 → g2 0 = (o_put day a1 a2 a3 S).2.1.toInt64) ∧ lw2 e0 K J ca RL ao Rs day (o_put day a1 a2 a3 S).2.2 code Rm dm Sm g2 w2) xN := by
  obtain ⟨w3, M, U, ⟨FR, vs, LP, fv, mo, ea, eo, hRs, hI, hrow, rfl⟩, hmA, huA, rfl⟩ := hw
  obtain ⟨rows, ⟨ring, w9, ch⟩, ev9⟩ := S
  have hrow : vs.map fv = rows := hrow
  subst hrow
  subst hRs
  refine t_monoM (c_W_put hst hI hok.1 (by have h9 := hok.2.2; dsimp only at h9; omega)) ?_ (fun _ _ h => h)
  rintro v w2 ⟨h1, g2, w3, h2, h3, rfl⟩
  exact ⟨h1, g2, h2, w3, M, U, h3, hmA, huA, rfl⟩

theorem r_put {l : Launch} {D : va_G} {A : Nat → Prop} {e0 K J : Nat → Nat} {ca : Nat → ClassId} {RL : List Nat} {ao : Nat} {g : Nat → Int64} {w : va_W} {n : Nat} (hn : n ≤ 512) {Rs Rc : List RW} {day dc code : Int32} {S Sc : PS} (hw : lw2 e0 K J ca RL ao Rc dc Sc code Rs day S g w) (hok : okS n S) {a1 a2 a3 : Int32} : tM l y_M_put tb ({ frames := 2, cells := 0, slots := 0, locals := 49 }) D cls (ty0 ca) A (zz e0 A) [.ref (J 0), .int a1, .int a2, .int a3] w (fun v w2 => (∃ b, v = some (.int b) ∧ ((o_put day a1 a2 a3 S).1 = 0 → b = (o_put day a1 a2 a3 S).2.1)) ∧ lw2 e0 K J ca RL ao Rc dc Sc (o_put day a1 a2 a3 S).1 Rs day (o_put day a1 a2 a3 S).2.2 g w2) xN := by
  obtain ⟨w3, M, U, ⟨FR, vs, LP, fv, mo, ea, eo, hRs, hI, hrow, rfl⟩, hmA, huA, rfl⟩ := hw
  obtain ⟨rows, ⟨log, w9, lk⟩, ev9⟩ := S
  refine t_permM wL_perm (c_M_put zz_c (by have h9 := hok.2.2; dsimp only at h9; omega) hmA hok.1 huA) ?_ (fun _ _ h => h.elim)
  rintro v w2 ⟨hv, M2, U2, h1, h2, rfl⟩
  exact ⟨_, wL_perm.symm, hv, _, M2, U2, ⟨FR, vs, LP, fv, mo, ea, eo, hRs, hI, hrow, rfl⟩, h1, h2, rfl⟩

theorem l_mark {l : Launch} (hst : l.stackTraces = false) {D : va_G} {A : Nat → Prop} {e0 K J : Nat → Nat} {ca : Nat → ClassId} {RL : List Nat} {ao : Nat} {g : Nat → Int64} {w : va_W} {n : Nat} (hn : n ≤ 512) {Rs Rm : List RW} {day dm code : Int32} {S Sm : PS} (hw : lw2 e0 K J ca RL ao Rs day S code Rm dm Sm g w) (hok : okS n S) {a1 : Int32} : tM l y_W_mark tb ({ frames := 9, cells := 4, slots := 85, locals := 214 }) D cls (ty0 ca) A (zz e0 A) [.ref (K 0), .int a1, .ref ao] w (fun v w2 => v = some (.int (o_mark day a1 S).1) ∧ ∃ g2, ((o_mark day a1 S).1 = 0 → g2 0 = (o_mark day a1 S).2.1.toInt64) ∧ lw2 e0 K J ca RL ao Rs day (o_mark day a1 S).2.2 code Rm dm Sm g2 w2) xN := by
  obtain ⟨w3, M, U, ⟨FR, vs, LP, fv, mo, ea, eo, hRs, hI, hrow, rfl⟩, hmA, huA, rfl⟩ := hw
  obtain ⟨rows, ⟨ring, w9, ch⟩, ev9⟩ := S
  have hrow : vs.map fv = rows := hrow
  subst hrow
  subst hRs
  refine t_monoM (c_W_mark hst hI hok.1 (by have h9 := hok.2.2; dsimp only at h9; omega)) ?_ (fun _ _ h => h)
  rintro v w2 ⟨h1, g2, w3, h2, h3, rfl⟩
  exact ⟨h1, g2, h2, w3, M, U, h3, hmA, huA, rfl⟩

theorem r_mark {l : Launch} {D : va_G} {A : Nat → Prop} {e0 K J : Nat → Nat} {ca : Nat → ClassId} {RL : List Nat} {ao : Nat} {g : Nat → Int64} {w : va_W} {n : Nat} (hn : n ≤ 512) {Rs Rc : List RW} {day dc code : Int32} {S Sc : PS} (hw : lw2 e0 K J ca RL ao Rc dc Sc code Rs day S g w) (hok : okS n S) {a1 : Int32} : tM l y_M_mark tb ({ frames := 2, cells := 0, slots := 0, locals := 49 }) D cls (ty0 ca) A (zz e0 A) [.ref (J 0), .int a1] w (fun v w2 => (∃ b, v = some (.int b) ∧ ((o_mark day a1 S).1 = 0 → b = (o_mark day a1 S).2.1)) ∧ lw2 e0 K J ca RL ao Rc dc Sc (o_mark day a1 S).1 Rs day (o_mark day a1 S).2.2 g w2) xN := by
  obtain ⟨w3, M, U, ⟨FR, vs, LP, fv, mo, ea, eo, hRs, hI, hrow, rfl⟩, hmA, huA, rfl⟩ := hw
  obtain ⟨rows, ⟨log, w9, lk⟩, ev9⟩ := S
  refine t_permM wL_perm (c_M_mark zz_c (by have h9 := hok.2.2; dsimp only at h9; omega) hmA hok.1 huA) ?_ (fun _ _ h => h.elim)
  rintro v w2 ⟨hv, M2, U2, h1, h2, rfl⟩
  exact ⟨_, wL_perm.symm, hv, _, M2, U2, ⟨FR, vs, LP, fv, mo, ea, eo, hRs, hI, hrow, rfl⟩, h1, h2, rfl⟩

theorem l_erase {l : Launch} (hst : l.stackTraces = false) {D : va_G} {A : Nat → Prop} {e0 K J : Nat → Nat} {ca : Nat → ClassId} {RL : List Nat} {ao : Nat} {g : Nat → Int64} {w : va_W} {n : Nat} (hn : n ≤ 512) {Rs Rm : List RW} {day dm code : Int32} {S Sm : PS} (hw : lw2 e0 K J ca RL ao Rs day S code Rm dm Sm g w) (hok : okS n S) {a1 a2 : Int32} : tM l y_W_erase tb ({ frames := 8, cells := 2, slots := 12, locals := 137 }) D cls (ty0 ca) A (zz e0 A) [.ref (K 0), .int a1, .int a2, .ref ao] w (fun v w2 => v = some (.int (o_erase day a1 a2 S).1) ∧ ∃ g2, ((o_erase day a1 a2 S).1 = 0 → g2 0 = (o_erase day a1 a2 S).2.1.toInt64) ∧ lw2 e0 K J ca RL ao Rs day (o_erase day a1 a2 S).2.2 code Rm dm Sm g2 w2) xN := by
  obtain ⟨w3, M, U, ⟨FR, vs, LP, fv, mo, ea, eo, hRs, hI, hrow, rfl⟩, hmA, huA, rfl⟩ := hw
  obtain ⟨rows, ⟨ring, w9, ch⟩, ev9⟩ := S
  have hrow : vs.map fv = rows := hrow
  subst hrow
  subst hRs
  refine t_monoM (c_W_erase hst hI hok.1 (by have h9 := hok.2.2; dsimp only at h9; omega)) ?_ (fun _ _ h => h)
  rintro v w2 ⟨h1, g2, w3, h2, h3, rfl⟩
  exact ⟨h1, g2, h2, w3, M, U, h3, hmA, huA, rfl⟩

theorem r_erase {l : Launch} {D : va_G} {A : Nat → Prop} {e0 K J : Nat → Nat} {ca : Nat → ClassId} {RL : List Nat} {ao : Nat} {g : Nat → Int64} {w : va_W} {n : Nat} (hn : n ≤ 512) {Rs Rc : List RW} {day dc code : Int32} {S Sc : PS} (hw : lw2 e0 K J ca RL ao Rc dc Sc code Rs day S g w) (hok : okS n S) {a1 a2 : Int32} : tM l y_M_erase tb ({ frames := 2, cells := 0, slots := 0, locals := 47 }) D cls (ty0 ca) A (zz e0 A) [.ref (J 0), .int a1, .int a2] w (fun v w2 => (∃ b, v = some (.int b) ∧ ((o_erase day a1 a2 S).1 = 0 → b = (o_erase day a1 a2 S).2.1)) ∧ lw2 e0 K J ca RL ao Rc dc Sc (o_erase day a1 a2 S).1 Rs day (o_erase day a1 a2 S).2.2 g w2) xN := by
  obtain ⟨w3, M, U, ⟨FR, vs, LP, fv, mo, ea, eo, hRs, hI, hrow, rfl⟩, hmA, huA, rfl⟩ := hw
  obtain ⟨rows, ⟨log, w9, lk⟩, ev9⟩ := S
  refine t_permM wL_perm (c_M_erase zz_c (by have h9 := hok.2.2; dsimp only at h9; omega) hmA hok.1 huA) ?_ (fun _ _ h => h.elim)
  rintro v w2 ⟨hv, M2, U2, h1, h2, rfl⟩
  exact ⟨_, wL_perm.symm, hv, _, M2, U2, ⟨FR, vs, LP, fv, mo, ea, eo, hRs, hI, hrow, rfl⟩, h1, h2, rfl⟩

theorem l_retain {l : Launch} (hst : l.stackTraces = false) {D : va_G} {A : Nat → Prop} {e0 K J : Nat → Nat} {ca : Nat → ClassId} {RL : List Nat} {ao : Nat} {g : Nat → Int64} {w : va_W} {n : Nat} (hn : n ≤ 512) {Rs Rm : List RW} {day dm code : Int32} {S Sm : PS} (hw : lw2 e0 K J ca RL ao Rs day S code Rm dm Sm g w) (hok : okS n S) {a1 a2 a3 : Int32} (hb01 : a3 = 0 ∨ a3 = 1) : tM l y_W_retain tb ({ frames := 9, cells := 4, slots := 24, locals := 160 }) D cls (ty0 ca) A (zz e0 A) [.ref (K 0), .int a1, .int a2, .int a3] w (fun v w2 => v = some (.int (o_retain day a1 a2 a3 S).1) ∧ ∃ g2, ((o_retain day a1 a2 a3 S).1 = 0 → True) ∧ lw2 e0 K J ca RL ao Rs day (o_retain day a1 a2 a3 S).2.2 code Rm dm Sm g2 w2) xN := by
  obtain ⟨w3, M, U, ⟨FR, vs, LP, fv, mo, ea, eo, hRs, hI, hrow, rfl⟩, hmA, huA, rfl⟩ := hw
  obtain ⟨rows, ⟨ring, w9, ch⟩, ev9⟩ := S
  have hrow : vs.map fv = rows := hrow
  subst hrow
  subst hRs
  refine t_monoM (c_W_retain hst hI hok.1 (by have h9 := hok.2.2; dsimp only at h9; omega) hb01) ?_ (fun _ _ h => h)
  rintro v w2 ⟨h1, g2, w3, h2, h3, rfl⟩
  exact ⟨h1, g2, h2, w3, M, U, h3, hmA, huA, rfl⟩

theorem r_retain {l : Launch} {D : va_G} {A : Nat → Prop} {e0 K J : Nat → Nat} {ca : Nat → ClassId} {RL : List Nat} {ao : Nat} {g : Nat → Int64} {w : va_W} {n : Nat} (hn : n ≤ 512) {Rs Rc : List RW} {day dc code : Int32} {S Sc : PS} (hw : lw2 e0 K J ca RL ao Rc dc Sc code Rs day S g w) (hok : okS n S) {a1 a2 a3 : Int32} (hb01 : a3 = 0 ∨ a3 = 1) : tM l y_M_retain tb ({ frames := 2, cells := 0, slots := 0, locals := 45 }) D cls (ty0 ca) A (zz e0 A) [.ref (J 0), .int a1, .int a2, .int a3] w (fun v w2 => v = none ∧ lw2 e0 K J ca RL ao Rc dc Sc (o_retain day a1 a2 a3 S).1 Rs day (o_retain day a1 a2 a3 S).2.2 g w2) xN := by
  obtain ⟨w3, M, U, ⟨FR, vs, LP, fv, mo, ea, eo, hRs, hI, hrow, rfl⟩, hmA, huA, rfl⟩ := hw
  obtain ⟨rows, ⟨log, w9, lk⟩, ev9⟩ := S
  refine t_permM wL_perm (c_M_retain zz_c hb01 (by have h9 := hok.2.2; dsimp only at h9; omega) hmA hok.1 huA) ?_ (fun _ _ h => h.elim)
  rintro v w2 ⟨hv, M2, U2, h1, h2, rfl⟩
  exact ⟨_, wL_perm.symm, hv, _, M2, U2, ⟨FR, vs, LP, fv, mo, ea, eo, hRs, hI, hrow, rfl⟩, h1, h2, rfl⟩

theorem l_hold {l : Launch} (hst : l.stackTraces = false) {D : va_G} {A : Nat → Prop} {e0 K J : Nat → Nat} {ca : Nat → ClassId} {RL : List Nat} {ao : Nat} {g : Nat → Int64} {w : va_W} {n : Nat} (hn : n ≤ 512) {Rs Rm : List RW} {day dm code : Int32} {S Sm : PS} (hw : lw2 e0 K J ca RL ao Rs day S code Rm dm Sm g w) (hok : okS n S) {a1 a2 a3 : Int32} (hb01 : a3 = 0 ∨ a3 = 1) : tM l y_W_hold tb ({ frames := 9, cells := 3, slots := 18, locals := 161 }) D cls (ty0 ca) A (zz e0 A) [.ref (K 0), .int a1, .int a2, .int a3, .ref ao] w (fun v w2 => v = some (.int (o_hold day a1 a2 a3 S).1) ∧ ∃ g2, ((o_hold day a1 a2 a3 S).1 = 0 → g2 0 = (o_hold day a1 a2 a3 S).2.1.toInt64) ∧ lw2 e0 K J ca RL ao Rs day (o_hold day a1 a2 a3 S).2.2 code Rm dm Sm g2 w2) xN := by
  obtain ⟨w3, M, U, ⟨FR, vs, LP, fv, mo, ea, eo, hRs, hI, hrow, rfl⟩, hmA, huA, rfl⟩ := hw
  obtain ⟨rows, ⟨ring, w9, ch⟩, ev9⟩ := S
  have hrow : vs.map fv = rows := hrow
  subst hrow
  subst hRs
  refine t_monoM (c_W_hold hst hI hok.1 (by have h9 := hok.2.2; dsimp only at h9; omega)) ?_ (fun _ _ h => h)
  rintro v w2 ⟨h1, g2, w3, h2, h3, rfl⟩
  exact ⟨h1, g2, h2, w3, M, U, h3, hmA, huA, rfl⟩

theorem r_hold {l : Launch} {D : va_G} {A : Nat → Prop} {e0 K J : Nat → Nat} {ca : Nat → ClassId} {RL : List Nat} {ao : Nat} {g : Nat → Int64} {w : va_W} {n : Nat} (hn : n ≤ 512) {Rs Rc : List RW} {day dc code : Int32} {S Sc : PS} (hw : lw2 e0 K J ca RL ao Rc dc Sc code Rs day S g w) (hok : okS n S) {a1 a2 a3 : Int32} (hb01 : a3 = 0 ∨ a3 = 1) : tM l y_M_hold tb ({ frames := 2, cells := 0, slots := 0, locals := 45 }) D cls (ty0 ca) A (zz e0 A) [.ref (J 0), .int a1, .int a2, .int a3] w (fun v w2 => (∃ b, v = some (.int b) ∧ ((o_hold day a1 a2 a3 S).1 = 0 → b = (o_hold day a1 a2 a3 S).2.1)) ∧ lw2 e0 K J ca RL ao Rc dc Sc (o_hold day a1 a2 a3 S).1 Rs day (o_hold day a1 a2 a3 S).2.2 g w2) xN := by
  obtain ⟨w3, M, U, ⟨FR, vs, LP, fv, mo, ea, eo, hRs, hI, hrow, rfl⟩, hmA, huA, rfl⟩ := hw
  obtain ⟨rows, ⟨log, w9, lk⟩, ev9⟩ := S
  refine t_permM wL_perm (c_M_hold zz_c hb01 (by have h9 := hok.2.2; dsimp only at h9; omega) hmA hok.1 huA) ?_ (fun _ _ h => h.elim)
  rintro v w2 ⟨hv, M2, U2, h1, h2, rfl⟩
  exact ⟨_, wL_perm.symm, hv, _, M2, U2, ⟨FR, vs, LP, fv, mo, ea, eo, hRs, hI, hrow, rfl⟩, h1, h2, rfl⟩

theorem l_rule {l : Launch} (hst : l.stackTraces = false) {D : va_G} {A : Nat → Prop} {e0 K J : Nat → Nat} {ca : Nat → ClassId} {RL : List Nat} {ao : Nat} {g : Nat → Int64} {w : va_W} {n : Nat} (hn : n ≤ 512) {Rs Rm : List RW} {day dm code : Int32} {S Sm : PS} (hw : lw2 e0 K J ca RL ao Rs day S code Rm dm Sm g w) (hok : okS n S) {a1 a2 a3 a4 a5 : Int32} (hb01 : a3 = 0 ∨ a3 = 1) (hoR : okR Rs) (hRL : RL.length = 6) (hRn : RL.Nodup) : tM l y_W_rule tb ({ frames := 8, cells := 2, slots := 12, locals := 135 }) D cls (ty0 ca) A (zz e0 A) [.ref (K 0), .int a1, .int a2, .int a3, .int a4, .int a5] w (fun v w2 => v = some (.int (o_rule day a1 a2 a4 a5 S).1) ∧ ∃ g2, ((o_rule day a1 a2 a4 a5 S).1 = 0 → True) ∧ lw2 e0 K J ca RL ao (n_rule a1 a2 a3 a4 a5 Rs) day (o_rule day a1 a2 a4 a5 S).2.2 code Rm dm Sm g2 w2) xN := by
  obtain ⟨w3, M, U, ⟨FR, vs, LP, fv, mo, ea, eo, hRs, hI, hrow, rfl⟩, hmA, huA, rfl⟩ := hw
  obtain ⟨rows, ⟨ring, w9, ch⟩, ev9⟩ := S
  have hrow : vs.map fv = rows := hrow
  subst hrow
  subst hRs
  refine t_monoM (c_W_rule hst hI hok.1 (by have h9 := hok.2.2; dsimp only at h9; omega) hb01 hRL hRn) ?_ (fun _ _ h => h)
  rintro v w2 ⟨h1, g2, w3, h2, h3, rfl⟩
  exact ⟨h1, g2, h2, w3, M, U, h3, hmA, huA, rfl⟩

theorem r_rule {l : Launch} {D : va_G} {A : Nat → Prop} {e0 K J : Nat → Nat} {ca : Nat → ClassId} {RL : List Nat} {ao : Nat} {g : Nat → Int64} {w : va_W} {n : Nat} (hn : n ≤ 512) {Rs Rc : List RW} {day dc code : Int32} {S Sc : PS} (hw : lw2 e0 K J ca RL ao Rc dc Sc code Rs day S g w) (hok : okS n S) {a1 a2 a3 a4 a5 : Int32} (hb01 : a3 = 0 ∨ a3 = 1) (hoR : okR Rs) : tM l y_M_rule tb ({ frames := 1, cells := 0, slots := 0, locals := 25 }) D cls (ty0 ca) A (zz e0 A) [.ref (J 0), .int a1, .int a2, .int a3, .int a4, .int a5] w (fun v w2 => v = none ∧ lw2 e0 K J ca RL ao Rc dc Sc (o_rule day a1 a2 a4 a5 S).1 (n_rule a1 a2 a3 a4 a5 Rs) day (o_rule day a1 a2 a4 a5 S).2.2 g w2) xN := by
  obtain ⟨w3, M, U, ⟨FR, vs, LP, fv, mo, ea, eo, hRs, hI, hrow, rfl⟩, hmA, huA, rfl⟩ := hw
  obtain ⟨rows, ⟨log, w9, lk⟩, ev9⟩ := S
  refine t_permM wL_perm (c_M_rule zz_c hb01 (by have h9 := hok.2.2; dsimp only at h9; omega) hmA hok.1 huA hoR.1) ?_ (fun _ _ h => h.elim)
  rintro v w2 ⟨hv, M2, U2, h1, h2, rfl⟩
  exact ⟨_, wL_perm.symm, hv, _, M2, U2, ⟨FR, vs, LP, fv, mo, ea, eo, hRs, hI, hrow, rfl⟩, h1, h2, rfl⟩

theorem l_unrule {l : Launch} (hst : l.stackTraces = false) {D : va_G} {A : Nat → Prop} {e0 K J : Nat → Nat} {ca : Nat → ClassId} {RL : List Nat} {ao : Nat} {g : Nat → Int64} {w : va_W} {n : Nat} (hn : n ≤ 512) {Rs Rm : List RW} {day dm code : Int32} {S Sm : PS} (hw : lw2 e0 K J ca RL ao Rs day S code Rm dm Sm g w) (hok : okS n S) {a1 : Int32} (hoR : okR Rs) (hRL : RL.length = 6) (hRn : RL.Nodup) : tM l y_W_unrule tb ({ frames := 8, cells := 1, slots := 6, locals := 132 }) D cls (ty0 ca) A (zz e0 A) [.ref (K 0), .int a1, .ref ao] w (fun v w2 => v = some (.int (o_unrule day a1 Rs S).1) ∧ ∃ g2, ((o_unrule day a1 Rs S).1 = 0 → g2 0 = (o_unrule day a1 Rs S).2.1.toInt64) ∧ lw2 e0 K J ca RL ao (n_unrule a1 Rs) day (o_unrule day a1 Rs S).2.2 code Rm dm Sm g2 w2) xN := by
  obtain ⟨w3, M, U, ⟨FR, vs, LP, fv, mo, ea, eo, hRs, hI, hrow, rfl⟩, hmA, huA, rfl⟩ := hw
  obtain ⟨rows, ⟨ring, w9, ch⟩, ev9⟩ := S
  have hrow : vs.map fv = rows := hrow
  subst hrow
  subst hRs
  refine t_monoM (c_W_unrule hst hI hok.1 (by have h9 := hok.2.2; dsimp only at h9; omega) hRL hRn) ?_ (fun _ _ h => h)
  rintro v w2 ⟨h1, g2, w3, h2, h3, rfl⟩
  exact ⟨h1, g2, h2, w3, M, U, h3, hmA, huA, rfl⟩

theorem r_unrule {l : Launch} {D : va_G} {A : Nat → Prop} {e0 K J : Nat → Nat} {ca : Nat → ClassId} {RL : List Nat} {ao : Nat} {g : Nat → Int64} {w : va_W} {n : Nat} (hn : n ≤ 512) {Rs Rc : List RW} {day dc code : Int32} {S Sc : PS} (hw : lw2 e0 K J ca RL ao Rc dc Sc code Rs day S g w) (hok : okS n S) {a1 : Int32} (hoR : okR Rs) : tM l y_M_unrule tb ({ frames := 1, cells := 0, slots := 0, locals := 25 }) D cls (ty0 ca) A (zz e0 A) [.ref (J 0), .int a1] w (fun v w2 => (∃ b, v = some (.int b) ∧ ((o_unrule day a1 Rs S).1 = 0 → b = (o_unrule day a1 Rs S).2.1)) ∧ lw2 e0 K J ca RL ao Rc dc Sc (o_unrule day a1 Rs S).1 (n_unrule a1 Rs) day (o_unrule day a1 Rs S).2.2 g w2) xN := by
  obtain ⟨w3, M, U, ⟨FR, vs, LP, fv, mo, ea, eo, hRs, hI, hrow, rfl⟩, hmA, huA, rfl⟩ := hw
  obtain ⟨rows, ⟨log, w9, lk⟩, ev9⟩ := S
  refine t_permM wL_perm (c_M_unrule zz_c (by have h9 := hok.2.2; dsimp only at h9; omega) hmA hok.1 huA hoR.1) ?_ (fun _ _ h => h.elim)
  rintro v w2 ⟨hv, M2, U2, h1, h2, rfl⟩
  exact ⟨_, wL_perm.symm, hv, _, M2, U2, ⟨FR, vs, LP, fv, mo, ea, eo, hRs, hI, hrow, rfl⟩, h1, h2, rfl⟩

theorem l_fetch {l : Launch} (hst : l.stackTraces = false) {D : va_G} {A : Nat → Prop} {e0 K J : Nat → Nat} {ca : Nat → ClassId} {RL : List Nat} {ao : Nat} {g : Nat → Int64} {w : va_W} {n : Nat} (hn : n ≤ 512) {Rs Rm : List RW} {day dm code : Int32} {S Sm : PS} (hw : lw2 e0 K J ca RL ao Rs day S code Rm dm Sm g w) (hok : okS n S) {a1 a2 : Int32} : tM l y_W_fetch tb ({ frames := 9, cells := 4, slots := 24, locals := 158 }) D cls (ty0 ca) A (zz e0 A) [.ref (K 0), .int a1, .int a2, .ref ao] w (fun v w2 => v = some (.int (o_fetch day a1 a2 S).1) ∧ ∃ g2, ((o_fetch day a1 a2 S).1 = 0 → g2 0 = (o_fetch day a1 a2 S).2.1.toInt64) ∧ lw2 e0 K J ca RL ao Rs day (o_fetch day a1 a2 S).2.2 code Rm dm Sm g2 w2) xN := by
  obtain ⟨w3, M, U, ⟨FR, vs, LP, fv, mo, ea, eo, hRs, hI, hrow, rfl⟩, hmA, huA, rfl⟩ := hw
  obtain ⟨rows, ⟨ring, w9, ch⟩, ev9⟩ := S
  have hrow : vs.map fv = rows := hrow
  subst hrow
  subst hRs
  refine t_monoM (c_W_fetch hst hI hok.1 (by have h9 := hok.2.2; dsimp only at h9; omega)) ?_ (fun _ _ h => h)
  rintro v w2 ⟨h1, g2, w3, h2, h3, rfl⟩
  exact ⟨h1, g2, h2, w3, M, U, h3, hmA, huA, rfl⟩

theorem r_fetch {l : Launch} {D : va_G} {A : Nat → Prop} {e0 K J : Nat → Nat} {ca : Nat → ClassId} {RL : List Nat} {ao : Nat} {g : Nat → Int64} {w : va_W} {n : Nat} (hn : n ≤ 512) {Rs Rc : List RW} {day dc code : Int32} {S Sc : PS} (hw : lw2 e0 K J ca RL ao Rc dc Sc code Rs day S g w) (hok : okS n S) {a1 a2 : Int32} : tM l y_M_fetch tb ({ frames := 2, cells := 0, slots := 0, locals := 45 }) D cls (ty0 ca) A (zz e0 A) [.ref (J 0), .int a1, .int a2] w (fun v w2 => (∃ b, v = some (.int b) ∧ ((o_fetch day a1 a2 S).1 = 0 → b = (o_fetch day a1 a2 S).2.1)) ∧ lw2 e0 K J ca RL ao Rc dc Sc (o_fetch day a1 a2 S).1 Rs day (o_fetch day a1 a2 S).2.2 g w2) xN := by
  obtain ⟨w3, M, U, ⟨FR, vs, LP, fv, mo, ea, eo, hRs, hI, hrow, rfl⟩, hmA, huA, rfl⟩ := hw
  obtain ⟨rows, ⟨log, w9, lk⟩, ev9⟩ := S
  refine t_permM wL_perm (c_M_fetch zz_c (by have h9 := hok.2.2; dsimp only at h9; omega) hmA hok.1 huA) ?_ (fun _ _ h => h.elim)
  rintro v w2 ⟨hv, M2, U2, h1, h2, rfl⟩
  exact ⟨_, wL_perm.symm, hv, _, M2, U2, ⟨FR, vs, LP, fv, mo, ea, eo, hRs, hI, hrow, rfl⟩, h1, h2, rfl⟩

theorem l_read {l : Launch} (hst : l.stackTraces = false) {D : va_G} {A : Nat → Prop} {e0 K J : Nat → Nat} {ca : Nat → ClassId} {RL : List Nat} {ao : Nat} {g : Nat → Int64} {w : va_W} {n : Nat} (hn : n ≤ 512) {Rs Rm : List RW} {day dm code : Int32} {S Sm : PS} (hw : lw2 e0 K J ca RL ao Rs day S code Rm dm Sm g w) (hok : okS n S) {a1 : Int32} : tM l y_W_read tb ({ frames := 9, cells := 3, slots := 18, locals := 157 }) D cls (ty0 ca) A (zz e0 A) [.ref (K 0), .int a1, .ref ao] w (fun v w2 => v = some (.int (o_read day a1 S).1) ∧ ∃ g2, ((o_read day a1 S).1 = 0 → g2 0 = (o_read day a1 S).2.1.toInt64) ∧ lw2 e0 K J ca RL ao Rs day (o_read day a1 S).2.2 code Rm dm Sm g2 w2) xN := by
  obtain ⟨w3, M, U, ⟨FR, vs, LP, fv, mo, ea, eo, hRs, hI, hrow, rfl⟩, hmA, huA, rfl⟩ := hw
  obtain ⟨rows, ⟨ring, w9, ch⟩, ev9⟩ := S
  have hrow : vs.map fv = rows := hrow
  subst hrow
  subst hRs
  refine t_monoM (c_W_read hst hI hok.1 ) ?_ (fun _ _ h => h)
  rintro v w2 ⟨h1, g2, w3, h2, h3, rfl⟩
  exact ⟨h1, g2, h2, w3, M, U, h3, hmA, huA, rfl⟩

theorem r_read {l : Launch} {D : va_G} {A : Nat → Prop} {e0 K J : Nat → Nat} {ca : Nat → ClassId} {RL : List Nat} {ao : Nat} {g : Nat → Int64} {w : va_W} {n : Nat} (hn : n ≤ 512) {Rs Rc : List RW} {day dc code : Int32} {S Sc : PS} (hw : lw2 e0 K J ca RL ao Rc dc Sc code Rs day S g w) (hok : okS n S) {a1 : Int32} : tM l y_M_read tb ({ frames := 2, cells := 0, slots := 0, locals := 45 }) D cls (ty0 ca) A (zz e0 A) [.ref (J 0), .int a1] w (fun v w2 => (∃ b, v = some (.int b) ∧ ((o_read day a1 S).1 = 0 → b = (o_read day a1 S).2.1)) ∧ lw2 e0 K J ca RL ao Rc dc Sc (o_read day a1 S).1 Rs day (o_read day a1 S).2.2 g w2) xN := by
  obtain ⟨w3, M, U, ⟨FR, vs, LP, fv, mo, ea, eo, hRs, hI, hrow, rfl⟩, hmA, huA, rfl⟩ := hw
  obtain ⟨rows, ⟨log, w9, lk⟩, ev9⟩ := S
  refine t_permM wL_perm (c_M_read zz_c (by have h9 := hok.2.2; dsimp only at h9; omega) hmA hok.1 huA) ?_ (fun _ _ h => h.elim)
  rintro v w2 ⟨hv, M2, U2, h1, h2, rfl⟩
  exact ⟨_, wL_perm.symm, hv, _, M2, U2, ⟨FR, vs, LP, fv, mo, ea, eo, hRs, hI, hrow, rfl⟩, h1, h2, rfl⟩

theorem l_tick {l : Launch} (hst : l.stackTraces = false) {D : va_G} {A : Nat → Prop} {e0 K J : Nat → Nat} {ca : Nat → ClassId} {RL : List Nat} {ao : Nat} {g : Nat → Int64} {w : va_W} {n : Nat} (hn : n ≤ 512) {Rs Rm : List RW} {day dm code : Int32} {S Sm : PS} (hw : lw2 e0 K J ca RL ao Rs day S code Rm dm Sm g w) (hok : okS n S) {a1 : Int32} (hoR : okR Rs) (hRL : RL.length = 6) : tM l y_W_tick tb ({ frames := 12, cells := 81, slots := 2926, locals := 283 }) D cls (ty0 ca) A (zz e0 A) [.ref (K 0), .int a1, .ref ao] w (fun v w2 => v = some (.int (o_tick day a1 Rs S).1) ∧ ∃ g2, ((o_tick day a1 Rs S).1 = 0 → g2 0 = (o_tick day a1 Rs S).2.1.toInt64) ∧ lw2 e0 K J ca RL ao Rs (d_tick day a1) (o_tick day a1 Rs S).2.2 code Rm dm Sm g2 w2) xN := by
  obtain ⟨w3, M, U, ⟨FR, vs, LP, fv, mo, ea, eo, hRs, hI, hrow, rfl⟩, hmA, huA, rfl⟩ := hw
  obtain ⟨rows, ⟨ring, w9, ch⟩, ev9⟩ := S
  have hrow : vs.map fv = rows := hrow
  subst hrow
  subst hRs
  refine t_monoM (c_W_tick hst hI hok.1 (by have h9 := hok.2.2; dsimp only at h9; omega) (by have h9 := hok.2.1; dsimp only at h9; omega) hRL hoR.2) ?_ (fun _ _ h => h)
  rintro v w2 ⟨h1, g2, w3, h2, h3, rfl⟩
  exact ⟨h1, g2, h2, w3, M, U, h3, hmA, huA, rfl⟩

theorem r_tick {l : Launch} {D : va_G} {A : Nat → Prop} {e0 K J : Nat → Nat} {ca : Nat → ClassId} {RL : List Nat} {ao : Nat} {g : Nat → Int64} {w : va_W} {n : Nat} (hn : n ≤ 512) {Rs Rc : List RW} {day dc code : Int32} {S Sc : PS} (hw : lw2 e0 K J ca RL ao Rc dc Sc code Rs day S g w) (hok : okS n S) {a1 : Int32} (hoR : okR Rs) : tM l y_M_tick tb ({ frames := 6, cells := 0, slots := 0, locals := 134 }) D cls (ty0 ca) A (zz e0 A) [.ref (J 0), .int a1] w (fun v w2 => (∃ b, v = some (.int b) ∧ ((o_tick day a1 Rs S).1 = 0 → b = (o_tick day a1 Rs S).2.1)) ∧ lw2 e0 K J ca RL ao Rc dc Sc (o_tick day a1 Rs S).1 Rs (d_tick day a1) (o_tick day a1 Rs S).2.2 g w2) xN := by
  obtain ⟨w3, M, U, ⟨FR, vs, LP, fv, mo, ea, eo, hRs, hI, hrow, rfl⟩, hmA, huA, rfl⟩ := hw
  obtain ⟨rows, ⟨log, w9, lk⟩, ev9⟩ := S
  refine t_permM wL_perm (c_M_tickO zz_c (by have h9 := hok.2.2; dsimp only at h9; omega) hmA hok.1 (by have h9 := hok.2.1; dsimp only at h9 ⊢; omega) huA (okR_I hoR) hoR.1) ?_ (fun _ _ h => h.elim)
  rintro v w2 ⟨hv, M2, U2, h1, h2, rfl⟩
  exact ⟨_, wL_perm.symm, hv, _, M2, U2, ⟨FR, vs, LP, fv, mo, ea, eo, hRs, hI, hrow, rfl⟩, h1, h2, rfl⟩

theorem l_current {l : Launch} (hst : l.stackTraces = false) {D : va_G} {A : Nat → Prop} {e0 K J : Nat → Nat} {ca : Nat → ClassId} {RL : List Nat} {ao : Nat} {g : Nat → Int64} {w : va_W} {n : Nat} (hn : n ≤ 512) {Rs Rm : List RW} {day dm code : Int32} {S Sm : PS} (hw : lw2 e0 K J ca RL ao Rs day S code Rm dm Sm g w) (hok : okS n S) {a1 : Int32} : tM l y_W_current tb ({ frames := 8, cells := 1, slots := 6, locals := 133 }) D cls (ty0 ca) A (zz e0 A) [.ref (K 0), .int a1, .ref ao] w (fun v w2 => v = some (.int (o_current a1 S).1) ∧ ∃ g2, ((o_current a1 S).1 = 0 → g2 0 = (o_current a1 S).2.1.toInt64) ∧ lw2 e0 K J ca RL ao Rs day (o_current a1 S).2.2 code Rm dm Sm g2 w2) xN := by
  obtain ⟨w3, M, U, ⟨FR, vs, LP, fv, mo, ea, eo, hRs, hI, hrow, rfl⟩, hmA, huA, rfl⟩ := hw
  obtain ⟨rows, ⟨ring, w9, ch⟩, ev9⟩ := S
  have hrow : vs.map fv = rows := hrow
  subst hrow
  subst hRs
  refine t_monoM (c_W_current hst hI hok.1 ) ?_ (fun _ _ h => h)
  rintro v w2 ⟨h1, g2, w3, h2, h3, rfl⟩
  exact ⟨h1, g2, h2, w3, M, U, h3, hmA, huA, rfl⟩

theorem r_current {l : Launch} {D : va_G} {A : Nat → Prop} {e0 K J : Nat → Nat} {ca : Nat → ClassId} {RL : List Nat} {ao : Nat} {g : Nat → Int64} {w : va_W} {n : Nat} (hn : n ≤ 512) {Rs Rc : List RW} {day dc code : Int32} {S Sc : PS} (hw : lw2 e0 K J ca RL ao Rc dc Sc code Rs day S g w) (hok : okS n S) {a1 : Int32} : tM l y_M_current tb ({ frames := 1, cells := 0, slots := 0, locals := 23 }) D cls (ty0 ca) A (zz e0 A) [.ref (J 0), .int a1] w (fun v w2 => (∃ b, v = some (.int b) ∧ ((o_current a1 S).1 = 0 → b = (o_current a1 S).2.1)) ∧ lw2 e0 K J ca RL ao Rc dc Sc (o_current a1 S).1 Rs day (o_current a1 S).2.2 g w2) xN := by
  obtain ⟨w3, M, U, ⟨FR, vs, LP, fv, mo, ea, eo, hRs, hI, hrow, rfl⟩, hmA, huA, rfl⟩ := hw
  obtain ⟨rows, ⟨log, w9, lk⟩, ev9⟩ := S
  refine t_permM wL_perm (c_M_current zz_c (by have h9 := hok.2.2; dsimp only at h9; omega) hmA hok.1 huA) ?_ (fun _ _ h => h.elim)
  rintro v w2 ⟨hv, M2, U2, h1, h2, rfl⟩
  exact ⟨_, wL_perm.symm, hv, _, M2, U2, ⟨FR, vs, LP, fv, mo, ea, eo, hRs, hI, hrow, rfl⟩, h1, h2, rfl⟩

theorem l_about {l : Launch} (hst : l.stackTraces = false) {D : va_G} {A : Nat → Prop} {e0 K J : Nat → Nat} {ca : Nat → ClassId} {RL : List Nat} {ao : Nat} {g : Nat → Int64} {w : va_W} {n : Nat} (hn : n ≤ 512) {Rs Rm : List RW} {day dm code : Int32} {S Sm : PS} (hw : lw2 e0 K J ca RL ao Rs day S code Rm dm Sm g w) (hok : okS n S) {a1 a2 : Int32} : tM l y_W_about tb ({ frames := 8, cells := 2, slots := 12, locals := 136 }) D cls (ty0 ca) A (zz e0 A) [.ref (K 0), .int a1, .int a2, .ref ao] w (fun v w2 => v = some (.int (o_about day a1 a2 S).1) ∧ ∃ g2, ((o_about day a1 a2 S).1 = 0 → g2 0 = (o_about day a1 a2 S).2.1.toInt64) ∧ lw2 e0 K J ca RL ao Rs day (o_about day a1 a2 S).2.2 code Rm dm Sm g2 w2) xN := by
  obtain ⟨w3, M, U, ⟨FR, vs, LP, fv, mo, ea, eo, hRs, hI, hrow, rfl⟩, hmA, huA, rfl⟩ := hw
  obtain ⟨rows, ⟨ring, w9, ch⟩, ev9⟩ := S
  have hrow : vs.map fv = rows := hrow
  subst hrow
  subst hRs
  refine t_monoM (c_W_about hst hI hok.1 ) ?_ (fun _ _ h => h)
  rintro v w2 ⟨h1, g2, w3, h2, h3, rfl⟩
  exact ⟨h1, g2, h2, w3, M, U, h3, hmA, huA, rfl⟩

theorem r_about {l : Launch} {D : va_G} {A : Nat → Prop} {e0 K J : Nat → Nat} {ca : Nat → ClassId} {RL : List Nat} {ao : Nat} {g : Nat → Int64} {w : va_W} {n : Nat} (hn : n ≤ 512) {Rs Rc : List RW} {day dc code : Int32} {S Sc : PS} (hw : lw2 e0 K J ca RL ao Rc dc Sc code Rs day S g w) (hok : okS n S) {a1 a2 : Int32} : tM l y_M_about tb ({ frames := 3, cells := 0, slots := 0, locals := 65 }) D cls (ty0 ca) A (zz e0 A) [.ref (J 0), .int a1, .int a2] w (fun v w2 => (∃ b, v = some (.int b) ∧ ((o_about day a1 a2 S).1 = 0 → b = (o_about day a1 a2 S).2.1)) ∧ lw2 e0 K J ca RL ao Rc dc Sc (o_about day a1 a2 S).1 Rs day (o_about day a1 a2 S).2.2 g w2) xN := by
  obtain ⟨w3, M, U, ⟨FR, vs, LP, fv, mo, ea, eo, hRs, hI, hrow, rfl⟩, hmA, huA, rfl⟩ := hw
  obtain ⟨rows, ⟨log, w9, lk⟩, ev9⟩ := S
  refine t_permM wL_perm (c_M_about zz_c (by have h9 := hok.2.2; dsimp only at h9; omega) hmA hok.1 huA) ?_ (fun _ _ h => h.elim)
  rintro v w2 ⟨hv, M2, U2, h1, h2, rfl⟩
  exact ⟨_, wL_perm.symm, hv, _, M2, U2, ⟨FR, vs, LP, fv, mo, ea, eo, hRs, hI, hrow, rfl⟩, h1, h2, rfl⟩

theorem l_entry {l : Launch} (hst : l.stackTraces = false) {D : va_G} {A : Nat → Prop} {e0 K J : Nat → Nat} {ca : Nat → ClassId} {RL : List Nat} {ao : Nat} {g : Nat → Int64} {w : va_W} {n : Nat} (hn : n ≤ 512) {Rs Rm : List RW} {day dm code : Int32} {S Sm : PS} (hw : lw2 e0 K J ca RL ao Rs day S code Rm dm Sm g w) (hok : okS n S) {a1 a2 : Int32} : tM l y_W_entry tb ({ frames := 8, cells := 2, slots := 12, locals := 132 }) D cls (ty0 ca) A (zz e0 A) [.ref (K 0), .int a1, .int a2, .ref ao] w (fun v w2 => v = some (.int (o_entry a1 a2 S).1) ∧ ∃ g2, ((o_entry a1 a2 S).1 = 0 → g2 0 = (o_entry a1 a2 S).2.1.toInt64) ∧ lw2 e0 K J ca RL ao Rs day (o_entry a1 a2 S).2.2 code Rm dm Sm g2 w2) xN := by
  obtain ⟨w3, M, U, ⟨FR, vs, LP, fv, mo, ea, eo, hRs, hI, hrow, rfl⟩, hmA, huA, rfl⟩ := hw
  obtain ⟨rows, ⟨ring, w9, ch⟩, ev9⟩ := S
  have hrow : vs.map fv = rows := hrow
  subst hrow
  subst hRs
  refine t_monoM (c_W_entry hst hI hok.1 (by have h9 := hok.2.2; dsimp only at h9; omega)) ?_ (fun _ _ h => h)
  rintro v w2 ⟨h1, g2, w3, h2, h3, rfl⟩
  exact ⟨h1, g2, h2, w3, M, U, h3, hmA, huA, rfl⟩

theorem r_entry {l : Launch} {D : va_G} {A : Nat → Prop} {e0 K J : Nat → Nat} {ca : Nat → ClassId} {RL : List Nat} {ao : Nat} {g : Nat → Int64} {w : va_W} {n : Nat} (hn : n ≤ 512) {Rs Rc : List RW} {day dc code : Int32} {S Sc : PS} (hw : lw2 e0 K J ca RL ao Rc dc Sc code Rs day S g w) (hok : okS n S) {a1 a2 : Int32} : tM l y_M_entry tb ({ frames := 0, cells := 0, slots := 0, locals := 0 }) D cls (ty0 ca) A (zz e0 A) [.ref (J 0), .int a1, .int a2] w (fun v w2 => (∃ b, v = some (.int b) ∧ ((o_entry a1 a2 S).1 = 0 → b = (o_entry a1 a2 S).2.1)) ∧ lw2 e0 K J ca RL ao Rc dc Sc (o_entry a1 a2 S).1 Rs day (o_entry a1 a2 S).2.2 g w2) xN := by
  obtain ⟨w3, M, U, ⟨FR, vs, LP, fv, mo, ea, eo, hRs, hI, hrow, rfl⟩, hmA, huA, rfl⟩ := hw
  obtain ⟨rows, ⟨log, w9, lk⟩, ev9⟩ := S
  refine t_permM wL_perm (c_M_entry zz_c (by have h9 := hok.2.2; dsimp only at h9; omega) hmA hok.1 huA) ?_ (fun _ _ h => h.elim)
  rintro v w2 ⟨hv, M2, U2, h1, h2, rfl⟩
  exact ⟨_, wL_perm.symm, hv, _, M2, U2, ⟨FR, vs, LP, fv, mo, ea, eo, hRs, hI, hrow, rfl⟩, h1, h2, rfl⟩

theorem l_figure {l : Launch} (hst : l.stackTraces = false) {D : va_G} {A : Nat → Prop} {e0 K J : Nat → Nat} {ca : Nat → ClassId} {RL : List Nat} {ao : Nat} {g : Nat → Int64} {w : va_W} {n : Nat} (hn : n ≤ 512) {Rs Rm : List RW} {day dm code : Int32} {S Sm : PS} (hw : lw2 e0 K J ca RL ao Rs day S code Rm dm Sm g w) (hok : okS n S) {a1 : Int32} (hoD : okD n day) : tM l y_W_figure tb ({ frames := 7, cells := 1, slots := 6, locals := 111 }) D cls (ty0 ca) A (zz e0 A) [.ref (K 0), .int a1, .ref ao] w (fun v w2 => v = some (.int (o_figure day a1 S).1) ∧ ∃ g2, ((o_figure day a1 S).1 = 0 → g2 0 = (o_figure day a1 S).2.1.toInt64) ∧ lw2 e0 K J ca RL ao Rs day (o_figure day a1 S).2.2 code Rm dm Sm g2 w2) xN := by
  obtain ⟨w3, M, U, ⟨FR, vs, LP, fv, mo, ea, eo, hRs, hI, hrow, rfl⟩, hmA, huA, rfl⟩ := hw
  obtain ⟨rows, ⟨ring, w9, ch⟩, ev9⟩ := S
  have hrow : vs.map fv = rows := hrow
  subst hrow
  subst hRs
  refine t_monoM (c_W_figure hst hI hok.1 ) ?_ (fun _ _ h => h)
  rintro v w2 ⟨h1, g2, w3, h2, h3, rfl⟩
  exact ⟨h1, g2, h2, w3, M, U, h3, hmA, huA, rfl⟩

theorem r_figure {l : Launch} {D : va_G} {A : Nat → Prop} {e0 K J : Nat → Nat} {ca : Nat → ClassId} {RL : List Nat} {ao : Nat} {g : Nat → Int64} {w : va_W} {n : Nat} (hn : n ≤ 512) {Rs Rc : List RW} {day dc code : Int32} {S Sc : PS} (hw : lw2 e0 K J ca RL ao Rc dc Sc code Rs day S g w) (hok : okS n S) {a1 : Int32} (hoD : okD n day) : tM l y_M_figure tb ({ frames := 2, cells := 0, slots := 0, locals := 42 }) D cls (ty0 ca) A (zz e0 A) [.ref (J 0), .int a1] w (fun v w2 => (∃ b, v = some (.int b) ∧ ((o_figure day a1 S).1 = 0 → b = (o_figure day a1 S).2.1)) ∧ lw2 e0 K J ca RL ao Rc dc Sc (o_figure day a1 S).1 Rs day (o_figure day a1 S).2.2 g w2) xN := by
  obtain ⟨w3, M, U, ⟨FR, vs, LP, fv, mo, ea, eo, hRs, hI, hrow, rfl⟩, hmA, huA, rfl⟩ := hw
  obtain ⟨rows, ⟨log, w9, lk⟩, ev9⟩ := S
  refine t_permM wL_perm (c_M_figure zz_c (okD_0 hoD (by omega)) (by have h9 := hok.2.2; dsimp only at h9; omega) hmA hok.1 huA) ?_ (fun _ _ h => h.elim)
  rintro v w2 ⟨hv, M2, U2, h1, h2, rfl⟩
  exact ⟨_, wL_perm.symm, hv, _, M2, U2, ⟨FR, vs, LP, fv, mo, ea, eo, hRs, hI, hrow, rfl⟩, h1, h2, rfl⟩

theorem r_thrown {l : Launch} {D : va_G} {A : Nat → Prop} {e0 K J : Nat → Nat} {ca : Nat → ClassId} {RL : List Nat} {ao : Nat} {g : Nat → Int64} {w : va_W} {Rs Rc : List RW} {day dc code : Int32} {S Sc : PS} (hw : lw2 e0 K J ca RL ao Rc dc Sc code Rs day S g w) : tM l y_M_thrown tb ({ frames := 0, cells := 0, slots := 0, locals := 0 }) D cls (ty0 ca) A (zz e0 A) [.ref (J 0)] w (fun v w2 => v = some (.int code) ∧ lw2 e0 K J ca RL ao Rc dc Sc code Rs day S g w2) xN := by
  obtain ⟨w3, M, U, ⟨FR, vs, LP, fv, mo, ea, eo, hRs, hI, hrow, rfl⟩, hmA, huA, rfl⟩ := hw
  refine t_permM wL_perm (c_M_thrown zz_c) ?_ (fun _ _ h => h.elim)
  rintro v w2 ⟨hv, rfl⟩
  exact ⟨_, wL_perm.symm, hv, _, M, U, ⟨FR, vs, LP, fv, mo, ea, eo, hRs, hI, hrow, rfl⟩, hmA, huA, rfl⟩
theorem r_link {l : Launch} {D : va_G} {A : Nat → Prop} {e0 K J : Nat → Nat} {ca : Nat → ClassId} {RL : List Nat} {ao : Nat} {g : Nat → Int64} {w : va_W} {Rs Rc : List RW} {day dc code : Int32} {S Sc : PS} (hw : lw2 e0 K J ca RL ao Rc dc Sc code Rs day S g w) : tM l y_M_link tb ({ frames := 0, cells := 0, slots := 0, locals := 0 }) D cls (ty0 ca) A (zz e0 A) [.ref (J 0)] w (fun v w2 => v = some (.long S.2.1.2.2) ∧ lw2 e0 K J ca RL ao Rc dc Sc 0 Rs day S g w2) xN := by
  obtain ⟨w3, M, U, ⟨FR, vs, LP, fv, mo, ea, eo, hRs, hI, hrow, rfl⟩, hmA, huA, rfl⟩ := hw
  obtain ⟨rows, ⟨log, w9, lk⟩, ev9⟩ := S
  refine t_permM wL_perm (c_M_link zz_c) ?_ (fun _ _ h => h.elim)
  rintro v w2 ⟨hv, rfl⟩
  exact ⟨_, wL_perm.symm, hv, _, M, U, ⟨FR, vs, LP, fv, mo, ea, eo, hRs, hI, hrow, rfl⟩, hmA, huA, rfl⟩
theorem l_link {l : Launch} {D : va_G} {A : Nat → Prop} {e0 K J : Nat → Nat} {ca : Nat → ClassId} {RL : List Nat} {ao : Nat} {g : Nat → Int64} {w : va_W} {Rs Rm : List RW} {day dm code : Int32} {S Sm : PS} (hw : lw2 e0 K J ca RL ao Rs day S code Rm dm Sm g w) : tM l y_V_link tb ({ frames := 0, cells := 0, slots := 0, locals := 0 }) D cls (ty0 ca) A (zz e0 A) [.ref (K 0)] w (fun v w2 => v = some (.long S.2.1.2.2) ∧ lw2 e0 K J ca RL ao Rs day S code Rm dm Sm g w2) xN := by
  obtain ⟨w3, M, U, ⟨FR, vs, LP, fv, mo, ea, eo, hRs, hI, hrow, rfl⟩, hmA, huA, rfl⟩ := hw
  refine t_permM wX_perm.symm (c_V_link hI) ?_ (fun _ _ h => h.elim)
  rintro v w2 ⟨hv, rfl⟩
  exact ⟨_, wX_perm, hv, _, M, U, ⟨FR, vs, LP, fv, mo, ea, eo, hRs, hI, hrow, rfl⟩, hmA, huA, rfl⟩
