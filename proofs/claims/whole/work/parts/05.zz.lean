/-! What holds at the start and stays: statics of Throwable and ArrayList, words that warmer tables keep. Laid by program (wip/whole/zz.py) -/
def zD : List MethodName := [⟨"java/lang/RuntimeException", "<init>", "()V"⟩, ⟨"java/lang/RuntimeException", "<init>", "(Ljava/lang/String;)V"⟩, ⟨"java/lang/Exception", "<init>", "()V"⟩, ⟨"java/lang/Exception", "<init>", "(Ljava/lang/String;)V"⟩, ⟨"java/lang/Throwable", "<init>", "()V"⟩, ⟨"java/lang/Throwable", "<init>", "(Ljava/lang/String;)V"⟩, ⟨"java/lang/Object", "getClass", "()Ljava/lang/Class;"⟩]
def zC : List (String × String) := [("java/lang/IllegalArgumentException", "java/lang/IllegalArgumentException"), ("java/lang/IllegalStateException", "java/lang/IllegalStateException"), ("java/util/NoSuchElementException", "java/util/NoSuchElementException"), ("java/lang/IndexOutOfBoundsException", "java/lang/IndexOutOfBoundsException"), ("RetentionVault$Version", "RetentionVault$Version"), ("RetentionVault", "java/lang/Object"), ("RetentionVault$Rule", "java/lang/Object"), ("RetentionVault$Log", "java/lang/Object"), ("RetentionVaultModel", "java/lang/Object"), ("RetentionVault$Version", "java/lang/Object"), ("java/lang/String", "java/lang/Object")]
def zN : List (String × Nat × MethodName × String) := [("RetentionVault", 22, ⟨"RetentionVault$Rule", "<init>", "()V"⟩, "RetentionVault"), ("RetentionVault", 25, ⟨"RetentionVault$Log", "<init>", "()V"⟩, "RetentionVault")]
def zO : List String := ["RetentionVault$Rule", "java/lang/Object"]
def zT : List (Nat × String) := [(198, "an argument is out of its range"), (203, "there are 40 versions"), (222, "the key has no current object"), (211, "there is no version with this number"), (82, "the version is guarded"), (217, "the version is a marker"), (100, "strict retention cannot be weakened"), (129, "the object is not cold"), (143, "the object is cold and not fetched for this day"), (169, "what is not 0 .. 7"), (177, "there is no such entry, or none any more"), (196, "k is not 0 .. 5")]
def zX : List (String × String) := [("java/lang/IllegalArgumentException", "java/lang/IllegalStateException"), ("java/lang/IllegalArgumentException", "java/util/NoSuchElementException"), ("java/lang/IllegalArgumentException", "java/lang/IndexOutOfBoundsException"), ("java/lang/IllegalStateException", "java/lang/IllegalArgumentException"), ("java/lang/IllegalStateException", "java/util/NoSuchElementException"), ("java/lang/IllegalStateException", "java/lang/IndexOutOfBoundsException"), ("java/util/NoSuchElementException", "java/lang/IllegalArgumentException"), ("java/util/NoSuchElementException", "java/lang/IllegalStateException"), ("java/util/NoSuchElementException", "java/lang/IndexOutOfBoundsException"), ("java/lang/IndexOutOfBoundsException", "java/lang/IllegalArgumentException"), ("java/lang/IndexOutOfBoundsException", "java/lang/IllegalStateException"), ("java/lang/IndexOutOfBoundsException", "java/util/NoSuchElementException")]
def zz (e0 : Nat → Nat) (A : Nat → Prop) (U : State) (H : Heap) : Prop :=
  (∃ v : Value, v.isRef = true ∧ tS Bundle.tN "UNASSIGNED_STACK" Bundle.steD v A U H) ∧ (∃ v : Value, v.isRef = true ∧ tS Bundle.tN "SUPPRESSED_SENTINEL" Bundle.listD v A U H) ∧
  (tS "java/util/ArrayList" "DEFAULTCAPACITY_EMPTY_ELEMENTDATA" "[Ljava/lang/Object;" (.ref (e0 0)) A U H ∧ ¬ A (e0 0) ∧ ∃ cell : Cell, H[e0 0]? = some cell ∧ U.isArrayOf cell (.object "java/lang/Object") ∧ cell.vm ≠ .unknown ∧ cell.slots.size = 0) ∧
  (∀ y ∈ zD, va_Nw (.declares y) U) ∧ (∀ q ∈ zC, va_Nw (.castable q.1 q.2) U) ∧ (∀ q ∈ zN, va_Nw (.methodLinkNest q.1 q.2.1 q.2.2.1 q.2.2.2) U) ∧ (∀ C ∈ zO, va_AO C U) ∧ (∀ q ∈ zT, va_Nw (.stringRef "RetentionVault" q.1 q.2) U) ∧ (∀ q ∈ zX, va_Nc q.1 q.2 U) ∧ va_Mi "[Ljava/lang/Object;" (e0 1) U
theorem zz_c {e0 : Nat → Nat} {A : Nat → Prop} : tZ A (zz e0 A) := by
  constructor
  · intro u U H hW h
    obtain ⟨⟨v1, a1, b1⟩, ⟨v2, a2, b2⟩, ⟨h3, h4, cell, h5, h6, h7⟩, hD, hC, hN, hO, hT, hX, hMi⟩ := h
    refine ⟨⟨v1, a1, b1.moved hW.alike⟩, ⟨v2, a2, b2.moved hW.alike⟩, ⟨h3.moved hW.alike, h4, cell, h5, State.isArrayOf_alike hW.alike h6, h7⟩, fun y hy => va_Nw.warmD hW (hD y hy), fun q hq => va_Nw.warmC hW (hC q hq), fun q hq => va_Nw.warmM hW (hN q hq), fun C hC => (hO C hC).moved hW.alike, fun q hq => ?_, fun q hq => (hX q hq).moved hW.alike, hMi.moved hW.alike⟩
    exact t_str_vm (rfl : (u.setVm U.vm).vm = U.vm) (Cond.stringRef_warmed (args := #[]) hW (hT q hq))
  · intro U H H1 hq h
    obtain ⟨⟨v1, a1, b1⟩, ⟨v2, a2, b2⟩, ⟨h3, h4, cell, h5, h6⟩, h7⟩ := h
    exact ⟨⟨v1, a1, b1.kept hq⟩, ⟨v2, a2, b2.kept hq⟩, ⟨h3.kept hq, h4, cell, by rw [hq (e0 0) (Array.getElem?_eq_some_iff.mp h5).1 h4]; exact h5, h6⟩, h7⟩
def zX4 : List Cond := tX4 ++ (zD.map Cond.declares ++ zC.map (fun q => Cond.castable q.1 q.2))
theorem zz_X4 {e0 : Nat → Nat} {A : Nat → Prop} {args : Array Value} (U : State) (h : zz e0 A U U.heap) : ∀ z ∈ zX4, z.before args U = true := by
  obtain ⟨⟨v1, a1, b1⟩, ⟨v2, a2, b2⟩, -, hD, hC, -⟩ := h
  intro z hz
  rcases List.mem_append.mp hz with hz | hz
  · simp only [tX4, List.mem_cons, List.not_mem_nil, or_false] at hz
    rcases hz with rfl | rfl | rfl | rfl
    · exact b1.isRef a1
    · exact b2.isRef a2
    · exact b1.lays
    · exact b2.lays
  · rcases List.mem_append.mp hz with hz | hz
    · obtain ⟨y, hy, rfl⟩ := List.mem_map.mp hz
      exact va_Nw.use rfl (hD y hy)
    · obtain ⟨q, hq, rfl⟩ := List.mem_map.mp hz
      exact va_Nw.use rfl (hC q hq)
theorem zz_str {e0 : Nat → Nat} {A : Nat → Prop} {args : Array Value} {U : State} {H : Heap} (h : zz e0 A U H) {k : Nat} {t : String} (hk : (k, t) ∈ zT) : (Cond.stringRef "RetentionVault" k t).before args U = true := t_str_vm rfl (h.2.2.2.2.2.2.2.1 (k, t) hk)
