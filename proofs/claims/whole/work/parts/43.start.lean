/-! The start: what holds there; the law's loop. Laid by program (wip/whole/p43.py) -/
theorem bw_43 : (Jvm.Cond.laysStatic "java/util/ArrayList" "DEFAULTCAPACITY_EMPTY_ELEMENTDATA" "[Ljava/lang/Object;") ∈ lw_tbl := List.mem_append_right _ (List.mem_append_left _ (List.mem_of_getElem? (l := tables_1_1) (i := 43) rfl))
theorem bw_57 : (Jvm.Cond.arrayOver (Jvm.ClassFile.FieldType.object "RetentionVault$Rule")) ∈ lw_tbl := List.mem_append_right _ (List.mem_append_left _ (List.mem_of_getElem? (l := tables_1_1) (i := 57) rfl))
theorem bw_59 : (Jvm.Cond.methodLinkNest "RetentionVault" (22 : Nat) ({ cls := "RetentionVault$Rule", name := "<init>", desc := "()V" } : Jvm.MethodName) "RetentionVault") ∈ lw_tbl := List.mem_append_right _ (List.mem_append_left _ (List.mem_of_getElem? (l := tables_1_1) (i := 59) rfl))
theorem bw_79 : (Jvm.Cond.methodLinkNest "RetentionVault" (25 : Nat) ({ cls := "RetentionVault$Log", name := "<init>", desc := "()V" } : Jvm.MethodName) "RetentionVault") ∈ lw_tbl := List.mem_append_right _ (List.mem_append_left _ (List.mem_of_getElem? (l := tables_1_1) (i := 79) rfl))
theorem bw_135 : (Jvm.Cond.castable "java/lang/IllegalArgumentException" "java/lang/IllegalArgumentException") ∈ lw_tbl := List.mem_append_right _ (List.mem_append_left _ (List.mem_of_getElem? (l := tables_1_1) (i := 135) rfl))
theorem bw_136 : (Jvm.Cond.declares ({ cls := "java/lang/RuntimeException", name := "<init>", desc := "()V" } : Jvm.MethodName)) ∈ lw_tbl := List.mem_append_right _ (List.mem_append_left _ (List.mem_of_getElem? (l := tables_1_1) (i := 136) rfl))
theorem bw_137 : (Jvm.Cond.declares ({ cls := "java/lang/RuntimeException", name := "<init>", desc := "(Ljava/lang/String;)V" } : Jvm.MethodName)) ∈ lw_tbl := List.mem_append_right _ (List.mem_append_left _ (List.mem_of_getElem? (l := tables_1_1) (i := 137) rfl))
theorem bw_138 : (Jvm.Cond.declares ({ cls := "java/lang/Exception", name := "<init>", desc := "()V" } : Jvm.MethodName)) ∈ lw_tbl := List.mem_append_right _ (List.mem_append_left _ (List.mem_of_getElem? (l := tables_1_1) (i := 138) rfl))
theorem bw_139 : (Jvm.Cond.declares ({ cls := "java/lang/Exception", name := "<init>", desc := "(Ljava/lang/String;)V" } : Jvm.MethodName)) ∈ lw_tbl := List.mem_append_right _ (List.mem_append_left _ (List.mem_of_getElem? (l := tables_1_1) (i := 139) rfl))
theorem bw_140 : (Jvm.Cond.declares ({ cls := "java/lang/Throwable", name := "<init>", desc := "()V" } : Jvm.MethodName)) ∈ lw_tbl := List.mem_append_right _ (List.mem_append_left _ (List.mem_of_getElem? (l := tables_1_1) (i := 140) rfl))
theorem bw_141 : (Jvm.Cond.declares ({ cls := "java/lang/Throwable", name := "<init>", desc := "(Ljava/lang/String;)V" } : Jvm.MethodName)) ∈ lw_tbl := List.mem_append_right _ (List.mem_append_left _ (List.mem_of_getElem? (l := tables_1_1) (i := 141) rfl))
theorem bw_160 : (Jvm.Cond.laysStatic "java/lang/Throwable" "UNASSIGNED_STACK" "[Ljava/lang/StackTraceElement;") ∈ lw_tbl := List.mem_append_right _ (List.mem_append_left _ (List.mem_of_getElem? (l := tables_1_1) (i := 160) rfl))
theorem bw_162 : (Jvm.Cond.laysStatic "java/lang/Throwable" "SUPPRESSED_SENTINEL" "Ljava/util/List;") ∈ lw_tbl := List.mem_append_right _ (List.mem_append_left _ (List.mem_of_getElem? (l := tables_1_1) (i := 162) rfl))
theorem bw_175 : (Jvm.Cond.stringRef "RetentionVault" (198 : Nat) "an argument is out of its range") ∈ lw_tbl := List.mem_append_right _ (List.mem_append_left _ (List.mem_of_getElem? (l := tables_1_1) (i := 175) rfl))
theorem bw_216 : (Jvm.Cond.castable "java/lang/IllegalStateException" "java/lang/IllegalStateException") ∈ lw_tbl := List.mem_append_right _ (List.mem_append_left _ (List.mem_of_getElem? (l := tables_1_1) (i := 216) rfl))
theorem bw_223 : (Jvm.Cond.stringRef "RetentionVault" (203 : Nat) "there are 40 versions") ∈ lw_tbl := List.mem_append_right _ (List.mem_append_left _ (List.mem_of_getElem? (l := tables_1_1) (i := 223) rfl))
theorem bw_362 : (Jvm.Cond.arrayOver (Jvm.ClassFile.FieldType.object "java/lang/Object")) ∈ lw_tbl := List.mem_append_right _ (List.mem_append_right _ (List.mem_append_left _ (List.mem_of_getElem? (l := tables_1_2) (i := 122) rfl)))
theorem bw_402 : (Jvm.Cond.castable "java/util/NoSuchElementException" "java/util/NoSuchElementException") ∈ lw_tbl := List.mem_append_right _ (List.mem_append_right _ (List.mem_append_left _ (List.mem_of_getElem? (l := tables_1_2) (i := 162) rfl)))
theorem bw_409 : (Jvm.Cond.stringRef "RetentionVault" (222 : Nat) "the key has no current object") ∈ lw_tbl := List.mem_append_right _ (List.mem_append_right _ (List.mem_append_left _ (List.mem_of_getElem? (l := tables_1_2) (i := 169) rfl)))
theorem bw_427 : (Jvm.Cond.stringRef "RetentionVault" (211 : Nat) "there is no version with this number") ∈ lw_tbl := List.mem_append_right _ (List.mem_append_right _ (List.mem_append_left _ (List.mem_of_getElem? (l := tables_1_2) (i := 187) rfl)))
theorem bw_441 : (Jvm.Cond.stringRef "RetentionVault" (82 : Nat) "the version is guarded") ∈ lw_tbl := List.mem_append_right _ (List.mem_append_right _ (List.mem_append_left _ (List.mem_of_getElem? (l := tables_1_2) (i := 201) rfl)))
theorem bw_466 : (Jvm.Cond.stringRef "RetentionVault" (217 : Nat) "the version is a marker") ∈ lw_tbl := List.mem_append_right _ (List.mem_append_right _ (List.mem_append_left _ (List.mem_of_getElem? (l := tables_1_2) (i := 226) rfl)))
theorem bw_467 : (Jvm.Cond.stringRef "RetentionVault" (100 : Nat) "strict retention cannot be weakened") ∈ lw_tbl := List.mem_append_right _ (List.mem_append_right _ (List.mem_append_left _ (List.mem_of_getElem? (l := tables_1_2) (i := 227) rfl)))
theorem bw_508 : (Jvm.Cond.stringRef "RetentionVault" (129 : Nat) "the object is not cold") ∈ lw_tbl := List.mem_append_right _ (List.mem_append_right _ (List.mem_append_right _ (List.mem_append_left _ (List.mem_of_getElem? (l := tables_1_3) (i := 28) rfl))))
theorem bw_520 : (Jvm.Cond.stringRef "RetentionVault" (143 : Nat) "the object is cold and not fetched for this day") ∈ lw_tbl := List.mem_append_right _ (List.mem_append_right _ (List.mem_append_right _ (List.mem_append_left _ (List.mem_of_getElem? (l := tables_1_3) (i := 40) rfl))))
theorem bw_581 : (Jvm.Cond.stringRef "RetentionVault" (169 : Nat) "what is not 0 .. 7") ∈ lw_tbl := List.mem_append_right _ (List.mem_append_right _ (List.mem_append_right _ (List.mem_append_left _ (List.mem_of_getElem? (l := tables_1_3) (i := 101) rfl))))
theorem bw_596 : (Jvm.Cond.castable "java/lang/IndexOutOfBoundsException" "java/lang/IndexOutOfBoundsException") ∈ lw_tbl := List.mem_append_right _ (List.mem_append_right _ (List.mem_append_right _ (List.mem_append_left _ (List.mem_of_getElem? (l := tables_1_3) (i := 116) rfl))))
theorem bw_603 : (Jvm.Cond.stringRef "RetentionVault" (177 : Nat) "there is no such entry, or none any more") ∈ lw_tbl := List.mem_append_right _ (List.mem_append_right _ (List.mem_append_right _ (List.mem_append_left _ (List.mem_of_getElem? (l := tables_1_3) (i := 123) rfl))))
theorem bw_629 : (Jvm.Cond.stringRef "RetentionVault" (196 : Nat) "k is not 0 .. 5") ∈ lw_tbl := List.mem_append_right _ (List.mem_append_right _ (List.mem_append_right _ (List.mem_append_left _ (List.mem_of_getElem? (l := tables_1_3) (i := 149) rfl))))
theorem bw_832 : (Jvm.Cond.castable "RetentionVault$Version" "RetentionVault$Version") ∈ lw_tbl := List.mem_append_right _ (List.mem_append_right _ (List.mem_append_right _ (List.mem_append_right _ (List.mem_of_getElem? (l := tables_1_4) (i := 112) rfl))))
theorem bw_835 : (Jvm.Cond.declares ({ cls := "java/lang/Object", name := "getClass", desc := "()Ljava/lang/Class;" } : Jvm.MethodName)) ∈ lw_tbl := List.mem_append_right _ (List.mem_append_right _ (List.mem_append_right _ (List.mem_append_right _ (List.mem_of_getElem? (l := tables_1_4) (i := 115) rfl))))
theorem bw_836 : (Jvm.Cond.castable "RetentionVault" "java/lang/Object") ∈ lw_tbl := List.mem_append_right _ (List.mem_append_right _ (List.mem_append_right _ (List.mem_append_right _ (List.mem_of_getElem? (l := tables_1_4) (i := 116) rfl))))
theorem bw_837 : (Jvm.Cond.castable "RetentionVault$Rule" "java/lang/Object") ∈ lw_tbl := List.mem_append_right _ (List.mem_append_right _ (List.mem_append_right _ (List.mem_append_right _ (List.mem_of_getElem? (l := tables_1_4) (i := 117) rfl))))
theorem bw_838 : (Jvm.Cond.castable "RetentionVault$Log" "java/lang/Object") ∈ lw_tbl := List.mem_append_right _ (List.mem_append_right _ (List.mem_append_right _ (List.mem_append_right _ (List.mem_of_getElem? (l := tables_1_4) (i := 118) rfl))))
theorem bw_839 : (Jvm.Cond.castable "RetentionVaultModel" "java/lang/Object") ∈ lw_tbl := List.mem_append_right _ (List.mem_append_right _ (List.mem_append_right _ (List.mem_append_right _ (List.mem_of_getElem? (l := tables_1_4) (i := 119) rfl))))
theorem bw_840 : (Jvm.Cond.castable "RetentionVault$Version" "java/lang/Object") ∈ lw_tbl := List.mem_append_right _ (List.mem_append_right _ (List.mem_append_right _ (List.mem_append_right _ (List.mem_of_getElem? (l := tables_1_4) (i := 120) rfl))))
theorem bw_841 : (Jvm.Cond.castable "java/lang/String" "java/lang/Object") ∈ lw_tbl := List.mem_append_right _ (List.mem_append_right _ (List.mem_append_right _ (List.mem_append_right _ (List.mem_of_getElem? (l := tables_1_4) (i := 121) rfl))))
theorem st_K {s : State} {args : Array Value} (hts : ∀ z ∈ tb, z.before args s = true) (hO : (Cond.arrayOver (.object "java/lang/Object")).before args s = true) (hU : (Cond.arrayOver (.object "RetentionVault$Rule")).before args s = true) : ∃ (D : va_G) (ca : Nat → ClassId), va_K D cls (ty0 ca) s := by
  obtain ⟨c0, i0, u0⟩ := u_known hts inV (hts _ w_23)
  obtain ⟨c1, i1, u1⟩ := u_known hts inG (hts _ w_78)
  obtain ⟨c2, i2, u2⟩ := u_known hts inU (hts _ w_58)
  obtain ⟨c3, i3, u3⟩ := u_known hts inN (hts _ w_231)
  obtain ⟨c4, i4, u4⟩ := u_known hts inM (hts _ w_631)
  obtain ⟨c5, i5, u5⟩ := u_known hts inA (hts _ w_31)
  obtain ⟨a0, k0, m0, p0, q0, r0⟩ := Cond.arrayClass_spec (hts _ w_96)
  obtain ⟨a1, k1, m1, p1, q1, r1⟩ := Cond.arrayClass_spec (hts _ w_707)
  obtain ⟨a2, k2, m2, p2, q2, r2⟩ := Cond.arrayClass_spec (hts _ w_830)
  obtain ⟨m3, a3, k3, p3, -, q3, r3, n3⟩ := Cond.arrayOver_spec hO
  obtain ⟨m4, a4, k4, p4, -, q4, r4, n4⟩ := Cond.arrayOver_spec hU
  refine ⟨(fun n => [c0, c1, c2, c3, c4, c5].getD n c0, fun n => [i0, i1, i2, i3, i4, i5].getD n i0), fun n => [a0, a1, a2, a3, a4].getD n a0, ?_, ?_⟩
  · intro c q hq
    have hlt : c < 6 := (List.getElem?_eq_some_iff.mp hq).1
    rcases (by omega : c = 0 ∨ c = 1 ∨ c = 2 ∨ c = 3 ∨ c = 4 ∨ c = 5) with rfl | rfl | rfl | rfl | rfl | rfl
    · cases hq; exact u0
    · cases hq; exact u1
    · cases hq; exact u2
    · cases hq; exact u3
    · cases hq; exact u4
    · cases hq; exact u5
  · intro c q hq
    have hlt : c < 5 := (List.getElem?_eq_some_iff.mp hq).1
    rcases (by omega : c = 0 ∨ c = 1 ∨ c = 2 ∨ c = 3 ∨ c = 4) with rfl | rfl | rfl | rfl | rfl
    · cases hq; exact ⟨fun n z => ⟨fun k h => (by cases h), k0, q0, m0, r0⟩, p0⟩
    · cases hq; exact ⟨fun n z => ⟨fun k h => (by cases h), k1, q1, m1, r1⟩, p1⟩
    · cases hq; exact ⟨fun n z => ⟨fun k h => (by cases h), k2, q2, m2, r2⟩, p2⟩
    · cases hq; exact ⟨fun n z => ⟨fun k h => (by cases h), k3, q3, m3, r3⟩, k3, m3, q3, r3, p3, n3⟩
    · cases hq; exact ⟨fun n z => ⟨fun k h => (by cases h), k4, q4, m4, r4⟩, k4, m4, q4, r4, p4, n4⟩

theorem tS.ev {C n d : String} {v : Value} {A : Nat → Prop} {s : State} {args : Array Value} (h : tS C n d v A s s.heap) : (Term.static C n d).eval args s none [] s = some v := by
  obtain ⟨c, k, i, f, a, cell, h1, h2, h3, h4, h5, h6, h7, h8, h9, h10, -⟩ := h
  simp [Term.eval, State.fieldNamed?, h2, h3, h4, h5, h6, h10]
theorem len_spec {t : Term} {args : Array Value} {s : State} (h : (Cond.eq (.length t) (.int 0)).before args s = true) : ∃ a cell, t.eval args s none [] s = some (.ref a) ∧ s.arrayAt? a = some cell ∧ cell.slots.size = 0 := by
  cases hv : (Term.length t).eval args s none [] s with
  | none => simp [Cond.before, Cond.holds, Cond.value, hv] at h
  | some v =>
    obtain ⟨a, cell, h1, h2, h3⟩ := Term.length_spec hv
    have hsz : cell.slots.size < 2 ^ 31 := by
      simp only [Term.eval, h1, h2, Option.bind_eq_bind, Option.bind_some] at hv
      by_cases hn : cell.slots.size < 2 ^ 31
      · exact hn
      · rw [if_neg hn] at hv; cases hv
    refine ⟨a, cell, h1, h2, ?_⟩
    rw [h3] at hv
    have e0 : (Term.int 0).eval args s none [] s = some (.int 0) := rfl
    have h9 : cell.slots.size.toInt32 = 0 := by simpa [Cond.before, Cond.holds, Cond.value, hv, e0] using h
    exact (nI_eq hsz (by decide)).mp (show nI cell.slots.size = nI 0 from h9)
theorem st_zz {s : State} {b : Nat} (hlw : ∀ z ∈ lw_tbl, z.before #[Value.ref b] s = true) (hgv : (Jvm.Cond.and given_1 narrow_1).before #[Value.ref b] s = true) {A : Nat → Prop} (hA : ∀ a : Nat, a < s.heap.size → ¬ A a) : ∃ e0, zz e0 A s s.heap := by
  have hq := flat_of_before _ hgv
  have hts : ∀ z ∈ tb, z.before #[Value.ref b] s = true := fun z hz => hlw z (List.mem_filter.mp hz).1
  obtain ⟨v, hv, hS⟩ := tS.of (hlw _ bw_43) (hts _ w_4) (hq (Cond.isRef (Term.static "java/util/ArrayList" "DEFAULTCAPACITY_EMPTY_ELEMENTDATA" "[Ljava/lang/Object;")) (by decide +kernel)) hA
  obtain ⟨a, cell, h1, h2, h3⟩ := len_spec (hq (Cond.eq (.length (Term.static "java/util/ArrayList" "DEFAULTCAPACITY_EMPTY_ELEMENTDATA" "[Ljava/lang/Object;")) (.int 0)) (by decide +kernel))
  have hva : v = .ref a := Option.some.inj (hS.ev.symm.trans h1)
  subst hva
  have hcell := (State.arrayAt?_spec h2).1
  obtain ⟨hao, hun⟩ := Cond.arrayOf_spec (hq (Cond.arrayOf (Term.static "java/util/ArrayList" "DEFAULTCAPACITY_EMPTY_ELEMENTDATA" "[Ljava/lang/Object;") (.object "java/lang/Object")) (by decide +kernel)) h1 hcell
  obtain ⟨mi, hmi⟩ := va_Mi.of (hq (Cond.isRef (.mirror "[Ljava/lang/Object;")) (by decide +kernel))
  refine ⟨fun n => if n = 0 then a else mi, tS.of (hlw _ bw_160) (hts _ w_8) (hq (Cond.isRef (.static "java/lang/Throwable" "UNASSIGNED_STACK" "[Ljava/lang/StackTraceElement;")) (by decide +kernel)) hA, tS.of (hlw _ bw_162) (hts _ w_8) (hq (Cond.isRef (.static "java/lang/Throwable" "SUPPRESSED_SENTINEL" "Ljava/util/List;")) (by decide +kernel)) hA, ⟨hS, hA a (Array.getElem?_eq_some_iff.mp hcell).1, cell, hcell, hao, hun, h3⟩, ?_, ?_, ?_, ?_, ?_, ?_, hmi⟩
  · unfold zD; exact List.forall_mem_cons.mpr ⟨va_Nw.of rfl (hlw _ bw_136), List.forall_mem_cons.mpr ⟨va_Nw.of rfl (hlw _ bw_137), List.forall_mem_cons.mpr ⟨va_Nw.of rfl (hlw _ bw_138), List.forall_mem_cons.mpr ⟨va_Nw.of rfl (hlw _ bw_139), List.forall_mem_cons.mpr ⟨va_Nw.of rfl (hlw _ bw_140), List.forall_mem_cons.mpr ⟨va_Nw.of rfl (hlw _ bw_141), List.forall_mem_cons.mpr ⟨va_Nw.of rfl (hlw _ bw_835), fun _ h => absurd h List.not_mem_nil⟩⟩⟩⟩⟩⟩⟩
  · unfold zC; exact List.forall_mem_cons.mpr ⟨va_Nw.of rfl (hlw _ bw_135), List.forall_mem_cons.mpr ⟨va_Nw.of rfl (hlw _ bw_216), List.forall_mem_cons.mpr ⟨va_Nw.of rfl (hlw _ bw_402), List.forall_mem_cons.mpr ⟨va_Nw.of rfl (hlw _ bw_596), List.forall_mem_cons.mpr ⟨va_Nw.of rfl (hlw _ bw_832), List.forall_mem_cons.mpr ⟨va_Nw.of rfl (hlw _ bw_836), List.forall_mem_cons.mpr ⟨va_Nw.of rfl (hlw _ bw_837), List.forall_mem_cons.mpr ⟨va_Nw.of rfl (hlw _ bw_838), List.forall_mem_cons.mpr ⟨va_Nw.of rfl (hlw _ bw_839), List.forall_mem_cons.mpr ⟨va_Nw.of rfl (hlw _ bw_840), List.forall_mem_cons.mpr ⟨va_Nw.of rfl (hlw _ bw_841), fun _ h => absurd h List.not_mem_nil⟩⟩⟩⟩⟩⟩⟩⟩⟩⟩⟩
  · unfold zN; exact List.forall_mem_cons.mpr ⟨va_Nw.of rfl (hlw _ bw_59), List.forall_mem_cons.mpr ⟨va_Nw.of rfl (hlw _ bw_79), fun _ h => absurd h List.not_mem_nil⟩⟩
  · unfold zO; exact List.forall_mem_cons.mpr ⟨va_AO.of (hlw _ bw_57), List.forall_mem_cons.mpr ⟨va_AO.of (hlw _ bw_362), fun _ h => absurd h List.not_mem_nil⟩⟩
  · unfold zT; exact List.forall_mem_cons.mpr ⟨t_str_vm rfl (hlw _ bw_175), List.forall_mem_cons.mpr ⟨t_str_vm rfl (hlw _ bw_223), List.forall_mem_cons.mpr ⟨t_str_vm rfl (hlw _ bw_409), List.forall_mem_cons.mpr ⟨t_str_vm rfl (hlw _ bw_427), List.forall_mem_cons.mpr ⟨t_str_vm rfl (hlw _ bw_441), List.forall_mem_cons.mpr ⟨t_str_vm rfl (hlw _ bw_466), List.forall_mem_cons.mpr ⟨t_str_vm rfl (hlw _ bw_467), List.forall_mem_cons.mpr ⟨t_str_vm rfl (hlw _ bw_508), List.forall_mem_cons.mpr ⟨t_str_vm rfl (hlw _ bw_520), List.forall_mem_cons.mpr ⟨t_str_vm rfl (hlw _ bw_581), List.forall_mem_cons.mpr ⟨t_str_vm rfl (hlw _ bw_603), List.forall_mem_cons.mpr ⟨t_str_vm rfl (hlw _ bw_629), fun _ h => absurd h List.not_mem_nil⟩⟩⟩⟩⟩⟩⟩⟩⟩⟩⟩⟩
  · unfold zX; exact List.forall_mem_cons.mpr ⟨va_Nc.of (hq (Cond.not (.castable "java/lang/IllegalArgumentException" "java/lang/IllegalStateException")) (by decide +kernel)), List.forall_mem_cons.mpr ⟨va_Nc.of (hq (Cond.not (.castable "java/lang/IllegalArgumentException" "java/util/NoSuchElementException")) (by decide +kernel)), List.forall_mem_cons.mpr ⟨va_Nc.of (hq (Cond.not (.castable "java/lang/IllegalArgumentException" "java/lang/IndexOutOfBoundsException")) (by decide +kernel)), List.forall_mem_cons.mpr ⟨va_Nc.of (hq (Cond.not (.castable "java/lang/IllegalStateException" "java/lang/IllegalArgumentException")) (by decide +kernel)), List.forall_mem_cons.mpr ⟨va_Nc.of (hq (Cond.not (.castable "java/lang/IllegalStateException" "java/util/NoSuchElementException")) (by decide +kernel)), List.forall_mem_cons.mpr ⟨va_Nc.of (hq (Cond.not (.castable "java/lang/IllegalStateException" "java/lang/IndexOutOfBoundsException")) (by decide +kernel)), List.forall_mem_cons.mpr ⟨va_Nc.of (hq (Cond.not (.castable "java/util/NoSuchElementException" "java/lang/IllegalArgumentException")) (by decide +kernel)), List.forall_mem_cons.mpr ⟨va_Nc.of (hq (Cond.not (.castable "java/util/NoSuchElementException" "java/lang/IllegalStateException")) (by decide +kernel)), List.forall_mem_cons.mpr ⟨va_Nc.of (hq (Cond.not (.castable "java/util/NoSuchElementException" "java/lang/IndexOutOfBoundsException")) (by decide +kernel)), List.forall_mem_cons.mpr ⟨va_Nc.of (hq (Cond.not (.castable "java/lang/IndexOutOfBoundsException" "java/lang/IllegalArgumentException")) (by decide +kernel)), List.forall_mem_cons.mpr ⟨va_Nc.of (hq (Cond.not (.castable "java/lang/IndexOutOfBoundsException" "java/lang/IllegalStateException")) (by decide +kernel)), List.forall_mem_cons.mpr ⟨va_Nc.of (hq (Cond.not (.castable "java/lang/IndexOutOfBoundsException" "java/util/NoSuchElementException")) (by decide +kernel)), fun _ h => absurd h List.not_mem_nil⟩⟩⟩⟩⟩⟩⟩⟩⟩⟩⟩⟩

theorem sw0_14 (x : Int32) : x = 0 ∨ x = 1 ∨ x = 2 ∨ x = 3 ∨ x = 4 ∨ x = 5 ∨ x = 6 ∨ x = 7 ∨ x = 8 ∨ x = 9 ∨ x = 10 ∨ x = 11 ∨ x = 12 ∨ x = 13 ∨ x = 14 ∨ (x.toInt < 0 ∨ 14 < x.toInt) := by
  rcases pk_ix x (n := 15) (by decide) with h | h | ⟨j, hj, rfl⟩
  · have h1 : x.toInt < 0 := Int32.lt_iff_toInt_lt.mp h
    simp [h1]
  · have h1 : (nI 15).toInt ≤ x.toInt := Int32.le_iff_toInt_le.mp h
    have h2 : (nI 15).toInt = 15 := by decide
    have h3 : 14 < x.toInt := by omega
    simp [h3]
  · rcases (by omega : j = 0 ∨ j = 1 ∨ j = 2 ∨ j = 3 ∨ j = 4 ∨ j = 5 ∨ j = 6 ∨ j = 7 ∨ j = 8 ∨ j = 9 ∨ j = 10 ∨ j = 11 ∨ j = 12 ∨ j = 13 ∨ j = 14) with rfl | rfl | rfl | rfl | rfl | rfl | rfl | rfl | rfl | rfl | rfl | rfl | rfl | rfl | rfl <;> decide
theorem more_of {L n : Nat} (hL : L ≤ 3072) (hn : 6 * n ≤ L) (h : ¬ nI L - 6 < nI (6 * n)) : 6 * n + 6 ≤ L := by
  by_cases h6 : 6 ≤ L
  · rw [show nI L - 6 = nI (L - 6) from nI_subN (a := L) (b := 6) h6] at h
    have := Nat.not_lt.mp (fun q => h ((nI_ltI (a := L - 6) (b := 6 * n) (by omega) (by omega)).mpr q))
    omega
  · exfalso
    apply h
    refine Int32.lt_of_lt_of_le (b := 0) ?_ (nI_pos' (by omega))
    rcases (by omega : L = 0 ∨ L = 1 ∨ L = 2 ∨ L = 3 ∨ L = 4 ∨ L = 5) with rfl | rfl | rfl | rfl | rfl | rfl <;> decide

theorem st_gen {α : Type} (F P Q N : List α) : (N ++ (F ++ (P ++ (Q ++ [])))).Perm (F ++ (P ++ (Q ++ ([] ++ N)))) := by
  rw [List.append_nil, List.nil_append]
  have e : F ++ (P ++ (Q ++ N)) = (F ++ (P ++ Q)) ++ N := by simp [List.append_assoc]
  rw [e]
  exact List.perm_append_comm
theorem rw_at_const {RL : List Nat} (h : RL.length = 6) {r : Nat} (hr : r < 6) : rw_at (RL.map (fun _ => rw0)) r = rw0 := by
  rw [rw_at_get (by rw [List.length_map]; omega), List.getElem_map]
theorem st_perm {J K : Nat → Nat} {ca : Nat → ClassId} {RL LP : List Nat} {fv FR : Nat → RW} {dc ever mo n : Int32} {ea : Nat} {wr : Int32} {ch : Int64} {ring : Nat → Int32} {code day made count : Int32} {M U : Nat → Nat → Int32} {en : Int32} {log : Nat → Int32} {lk : Int64} : (wM J ca code day made count M U en log lk (wC K ca RL LP fv FR dc ever mo n ea wr ch ring [])).Perm (wC K ca RL LP fv FR dc ever mo n ea wr ch ring ([] ++ wM J ca code day made count M U en log lk [])) :=
  st_gen _ _ _ (wM J ca code day made count M U en log lk [])
