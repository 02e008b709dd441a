/-! Ways in which a method ends (an answer, or an exception of a named class); worlds as lists of cells, carried whole; one list of words for all methods -/
section TA
variable {p : Program} {l : Launch} {e : Env} {R : Room} {s : State} {m : MethodId} {args : Array Value} {below : List Frame} {meth : Method} {c : Code} {H : Heap} {locs : List Loc} {cells slots : Nat} {Q : State → Prop}
/-- the end of a method: Rt of the answer, or Xt of the exception's class -/
def tx_Q (Rt : Option Value → State → State → Prop) (Xt : String → State → State → Prop) (mc ms : Nat) (fr : Addr → Prop) : Array Value → State → Outcome → State → Prop := fun _ st o t =>
  (∃ v, o = .returned v ∧ Rt v st t ∧ ∃ L, FrameEnd st o t L mc ms ∧ ∀ q ∈ L, fr q.base) ∨
  (∃ (q : Addr) (E : String) (ce : Cell) (L : List Loc), o = .threw q ∧ Xt E st t ∧ t.heap[q]? = some ce ∧ ce.vm = .none ∧ st.vm.findClass E = some ce.cls ∧ st.WarmedH t.vm ∧ st.sameButNew ({ t with vm := st.vm } : State) L mc ms ∧ ∀ z ∈ L, fr z.base)
/-- a callee's contract, spent at a frame g of this walk: it comes back, or throws over g -/
theorem tx_core {U : State} {y : MethodName} {Ts : List Cond} {rm : Room} {Pc : Array Value → State → Prop} {Rt : Option Value → State → State → Prop} {Xt : String → State → State → Prop} {len maxL : Nat} {fr : Addr → Prop} {g : JFrame} {ig : Instr} {mk : MethodId} {a : Array Value} {methY : Method} {cY : Code}
    (X : Stand p l e R s m args below meth c U locs cells slots)
    (hM : MetFree l y (headSpec Ts rm) Pc (fun _ _ _ _ _ => True) (tx_Q Rt Xt rm.cells rm.slots fr)) (hPc : Pc a (U.calling g mk a))
    (hwords : ∀ w ∈ Ts, w.before a U = true) (hmY : U.vm.method? mk = some methY) (hcY : methY.code = some cY) (hlY : cY.maxLocals = maxL) (hinit : (Cond.initialized y.cls).before a U = true)
    (hframes : rm.frames + 1 ≤ R.frames) (hlocals : 8 + (maxL + 11) + rm.locals ≤ R.locals) (hcells : cells + rm.cells ≤ R.cells) (hslots : slots + rm.slots ≤ R.slots)
    (hn : U.methodNamed? y = some mk) (hg : g.method = m) (hsize : g.locals.size = c.maxLocals) (hdg : decode c.code g.pc = .ok (ig, len)) (hW : 2 * g.monitorRoom + (g.stack.map fun v => v.category).sum ≤ 8) :
    (∃ (v : Option Value) (t T' : State) (L : List Loc), Rt v (U.calling g mk a) t ∧ T'.heap = t.heap ∧ T'.vm = t.vm ∧ (∀ q ∈ L, fr q.base) ∧ Stand p l e R s m args below meth c T' (locs ++ L) (cells + rm.cells) (slots + rm.slots) ∧
      Steps p.tables e below (doInvoke e (U.setTop g) [] mk a).1 (T'.setTop { g with pc := g.pc + len, stack := v.toList ++ g.stack })) ∨
    (∃ (q : Addr) (E : String) (ce : Cell) (t T' : State) (L : List Loc), Xt E (U.calling g mk a) t ∧ T'.heap = t.heap ∧ T'.vm = t.vm ∧ t.heap[q]? = some ce ∧ ce.vm = .none ∧ U.vm.findClass E = some ce.cls ∧ (∀ z ∈ L, fr z.base) ∧ Stand p l e R s m args below meth c T' (locs ++ L) (cells + rm.cells) (slots + rm.slots) ∧
      Steps p.tables e below (doInvoke e (U.setTop g) [] mk a).1 ((T'.setTop g).pushFrame (.throwing q))) := by
  have h : At U g.method c below := by rw [hg]; exact X.here
  obtain ⟨kY, hkY, -⟩ := className_of_methodNamed hn
  have hinitY : kY.init = .initialized := Cond.initialized_spec (findClass_of_methodNamed hn) hkY hinit
  have h1 : (headSpec Ts rm).pre.before a U = true := atoms_intro hwords
  have hlocals9 : 8 + (maxL + 11) + (headSpec Ts rm).room.locals ≤ R.locals := hlocals
  have happ : (headSpec Ts rm).appliesLoose y e.platform (U.calling g mk a) = true :=
    Spec.appliesLoose_calling (g := g) h hdg hn hkY hinitY
      (X.room_calling (g := g) (R' := (headSpec Ts rm).room) hsize hmY hcY hframes (by rw [hlY]; omega) hcells hslots) h1
  obtain ⟨mid, hmid⟩ := h.above
  have hfr : (U.setTop g).frames = (.java g :: mid) ++ below := by rw [State.frames_setTop' g h.top, hmid]; rfl
  obtain ⟨o, s₂, hsteps, -, hend, hq⟩ := Steps.callFree hM p X.admits X.cas X.clock (acts := []) hfr happ hPc trivial
  have hq' : tx_Q Rt Xt rm.cells rm.slots fr a (U.calling g mk a) o s₂ := hq
  rw [State.frames_setTop' g h.top] at hend
  obtain ⟨g₀, hg0⟩ := Option.isSome_iff_exists.mp h.top
  obtain ⟨r, hr⟩ := State.topJava?_eq_some.mp hg0
  have hr' : (({ U with heap := s₂.heap, slotsUsed := s₂.slotsUsed } : State).setVm s₂.vm).frames = .java g₀ :: r := hr
  obtain ⟨t0, ht0, -⟩ := State.frames_cons hr
  have hU : ({ U with heap := s₂.heap, slotsUsed := s₂.slotsUsed } : State) = { U.setFrames U.frames with heap := s₂.heap, slotsUsed := s₂.slotsUsed } := by rw [State.setFrames_self ht0]
  have stand : ∀ L : List Loc, U.WarmedH s₂.vm → U.sameButNew ({ U with heap := s₂.heap, slotsUsed := s₂.slotsUsed } : State) L rm.cells rm.slots →
      Stand p l e R s m args below meth c (({ U with heap := s₂.heap, slotsUsed := s₂.slotsUsed } : State).setVm s₂.vm) (locs ++ L) (cells + rm.cells) (slots + rm.slots) := fun L hW' hsame =>
    ⟨X.admits, X.cas, X.clock, X.frames, X.room, X.hears, X.method, X.code, (X.here.setHeapUsed s₂.heap s₂.slotsUsed).setVm hW'.alike, X.tail, State.WarmedH.trans X.warmed hW', X.limits, X.bytes, X.same.trans (hsame.setVm s.vm)⟩
  rcases hq' with ⟨v, rfl, hR, L, hfe, hL⟩ | ⟨q, E, ce, L, rfl, hE, hce, hcv, hcl, hW₂, hsm, hL⟩
  · obtain ⟨-, hW₂, e2, q2⟩ := id hfe
    have e3 : s₂ = ({ (U.calling g mk a).setFrames s₂.frames with heap := s₂.heap, slotsUsed := s₂.slotsUsed } : State).setVm s₂.vm := by
      have h9 : s₂ = ({ s₂ with vm := (U.calling g mk a).vm } : State).setVm s₂.vm := rfl
      rw [e2] at h9
      exact h9
    obtain ⟨c₂, i₂, len₂, hc₂, hd₂, hf₂⟩ := hend
    have hW' : U.WarmedH s₂.vm := hW₂
    have hcc : c₂ = c := by
      have h9 : s₂.code? g.method = U.code? g.method := by rw [State.code?_eq, State.code?_eq, hW'.alike.method?]
      exact Option.some.inj (hc₂.symm.trans (h9.trans h.code))
    subst hcc
    have hlen : len₂ = len := by rw [hdg] at hd₂; cases hd₂; rfl
    subst hlen
    have hs₂ : s₂ = (({ U with heap := s₂.heap, slotsUsed := s₂.slotsUsed } : State).setVm s₂.vm).setTop { g with pc := g.pc + len₂, stack := v.toList ++ g.stack } := by
      refine e3.trans ?_
      rw [hf₂, State.calling_eq h.top, State.setFrames_setFrames, State.setTop_of_frames _ hr', hr]
      rfl
    refine Or.inl ⟨v, s₂, ({ U with heap := s₂.heap, slotsUsed := s₂.slotsUsed } : State).setVm s₂.vm, L, hR, rfl, rfl, hL, stand L hW' ⟨hU, q2⟩, ?_⟩
    rw [← hs₂]
    exact hsteps
  · obtain ⟨e2, q2⟩ := id hsm
    have e3 : s₂ = ({ (U.calling g mk a).setFrames s₂.frames with heap := s₂.heap, slotsUsed := s₂.slotsUsed } : State).setVm s₂.vm := by
      have h9 : s₂ = ({ s₂ with vm := (U.calling g mk a).vm } : State).setVm s₂.vm := rfl
      rw [e2] at h9
      exact h9
    have hf₂ : s₂.frames = .throwing q :: .java g :: U.frames.tail := hend
    have hW' : U.WarmedH s₂.vm := hW₂
    have hs₂ : s₂ = ((({ U with heap := s₂.heap, slotsUsed := s₂.slotsUsed } : State).setVm s₂.vm).setTop g).pushFrame (.throwing q) := by
      refine e3.trans ?_
      rw [hf₂, State.calling_eq h.top, State.setFrames_setFrames, State.pushFrame, State.frames_setTop _ hr', State.setTop_of_frames _ hr', State.setFrames_setFrames, hr]
      rfl
    refine Or.inr ⟨q, E, ce, s₂, ({ U with heap := s₂.heap, slotsUsed := s₂.slotsUsed } : State).setVm s₂.vm, L, hE, rfl, rfl, hce, hcv, hcl, hL, stand L hW' ⟨hU, q2⟩, ?_⟩
    rw [← hs₂]
    exact hsteps
/-- an invoking instruction at pc leads into the method y with the arguments av -/
def tInv (p : Program) (l : Launch) (e : Env) (R : Room) (s : State) (m : MethodId) (args : Array Value) (below : List Frame) (meth : Method) (c : Code) (H : Heap) (locs : List Loc) (cells slots : Nat) (y : MethodName) (maxL : Nat) (av : List Value) (pc : Nat) (ls : Array Slot) (rest st0 : List Value) : Prop :=
  ∀ T : State, T.heap = H → Stand p l e R s m args below meth c T locs cells slots → ∃ (vm₁ : Vm) (mk : MethodId) (methY : Method) (cY : Code) (ig : Instr), s.WarmedH vm₁ ∧ Stand p l e R s m args below meth c (T.setVm vm₁) locs cells slots ∧
    (T.setVm vm₁).methodNamed? y = some mk ∧ (T.setVm vm₁).vm.method? mk = some methY ∧ methY.code = some cY ∧ cY.maxLocals = maxL ∧ decode c.code pc = .ok (ig, 3) ∧
    ∀ target, (∀ acts, Steps p.tables e below (doInvoke e ((T.setVm vm₁).setTop (F0 m pc ls rest)) acts mk av.toArray).1 target) → Steps p.tables e below (T.setTop (F0 m pc ls st0)) target
/-- the frame g, with q thrown over it -/
def tT (p : Program) (l : Launch) (e : Env) (R : Room) (s : State) (m : MethodId) (args : Array Value) (below : List Frame) (meth : Method) (c : Code) (H : Heap) (locs : List Loc) (cells slots : Nat) (Q : State → Prop) (g : JFrame) (q : Addr) : Prop :=
  ∀ T : State, T.heap = H → Stand p l e R s m args below meth c T locs cells slots → ∃ t, Steps p.tables e below ((T.setTop g).pushFrame (.throwing q)) t ∧ Q t
/-- facts of the start that no method touches: kept when tables warm and when only cells of A change -/
def tZ (A : Nat → Prop) (Z : State → Heap → Prop) : Prop := (∀ (u U : State) (H : Heap), u.WarmedH U.vm → Z u H → Z U H) ∧ ∀ (U : State) (H H1 : Heap), (∀ a : Nat, a < H.size → ¬ A a → H1[a]? = H[a]?) → Z U H → Z U H1
/-- a world at a state -/
def tw (D : va_G) (cl : List vw_C) (tys : List (ClassId × FieldType)) (A : Nat → Prop) (Z : State → Heap → Prop) (w : va_W) (U : State) : Prop :=
  va_P D cl w U.heap ∧ va_K D cl tys U ∧ va_D A w ∧ (∀ q, U.heap.size ≤ q → A q) ∧ Z U U.heap
/-- a world within a walk that began at s -/
def tC (D : va_G) (cl : List vw_C) (tys : List (ClassId × FieldType)) (A : Nat → Prop) (Z : State → Heap → Prop) (s : State) (w : va_W) (H : Heap) (locs : List Loc) : Prop :=
  va_P D cl w H ∧ va_D A w ∧ va_S A s.heap H locs ∧ va_K D cl tys s ∧ (∀ q, s.heap.size ≤ q → A q) ∧ Z s s.heap
def tR (D : va_G) (cl : List vw_C) (tys : List (ClassId × FieldType)) (A : Nat → Prop) (Z : State → Heap → Prop) {α : Type} (Po : α → va_W → Prop) : α → State → State → Prop := fun v st t => va_F A st t ∧ ∃ w, Po v w ∧ tw D cl tys A Z w t
/-- a method's contract over worlds: from the world w0 and the arguments av; the answer and the world behind it satisfy Po; an exception's class and the world behind it Xo -/
def tM (l : Launch) (y : MethodName) (Ts : List Cond) (rm : Room) (D : va_G) (cl : List vw_C) (tys : List (ClassId × FieldType)) (A : Nat → Prop) (Z : State → Heap → Prop) (av : List Value) (w0 : va_W) (Po : Option Value → va_W → Prop) (Xo : String → va_W → Prop) : Prop :=
  MetFree l y (headSpec Ts rm) (fun a U => a = av.toArray ∧ tw D cl tys A Z w0 U) (fun _ _ _ _ _ => True) (tx_Q (tR D cl tys A Z Po) (tR D cl tys A Z Xo) rm.cells rm.slots A)
theorem tC.tw {D : va_G} {cl : List vw_C} {tys : List (ClassId × FieldType)} {A : Nat → Prop} {Z : State → Heap → Prop} {w : va_W} {U : State} (hZc : tZ A Z) (hC : tC D cl tys A Z s w H locs) (hU : U.heap = H) (ha : s.WarmedH U.vm) : tw D cl tys A Z w U := by
  obtain ⟨hP, hD, hS, hK, hA, hZ⟩ := hC
  refine ⟨by rw [hU]; exact hP, va_K.moved ha.alike hK, hD, fun q hq => hA q (Nat.le_trans hS.1 (by rw [← hU]; exact hq)), ?_⟩
  rw [hU]
  exact hZc.2 U s.heap H (fun a h1 h2 => hS.2.1 a h1 h2) (hZc.1 s U s.heap ha hZ)
end TA
section TB
variable {p : Program} {l : Launch} {e : Env} {R : Room} {s : State} {m : MethodId} {args : Array Value} {below : List Frame} {meth : Method} {c : Code} {H : Heap} {locs : List Loc} {cells slots : Nat} {Q : State → Prop}
variable {y : MethodName} {Ts : List Cond} {rm : Room} {D : va_G} {cl : List vw_C} {tys : List (ClassId × FieldType)} {A : Nat → Prop} {Z : State → Heap → Prop} {av : List Value} {w : va_W} {Po : Option Value → va_W → Prop} {Xo : String → va_W → Prop} {maxL pc : Nat} {ls : Array Slot} {rest st0 : List Value}
/-- a call by contract -/
theorem t_call (hv : tInv p l e R s m args below meth c H locs cells slots y maxL av pc ls rest st0) (hM : tM l y Ts rm D cl tys A Z av w Po Xo) (hZc : tZ A Z) (hG : GoodIn Ts Ts) (hts : ∀ z ∈ Ts, z.before args s = true) (hini : Cond.initialized y.cls ∈ Ts)
    (hC : tC D cl tys A Z s w H locs) (hsz : ls.size = c.maxLocals) (hrm : rm.frames + 1 ≤ R.frames ∧ 8 + (maxL + 11) + rm.locals ≤ R.locals ∧ cells + rm.cells ≤ R.cells ∧ slots + rm.slots ≤ R.slots) (hst : (rest.map fun v => v.category).sum ≤ 8)
    (kx : ∀ (E : String) (q : Addr) (ce : Cell) (w1 : va_W) (H1 : Heap) (locs1 : List Loc), Xo E w1 → tC D cl tys A Z s w1 H1 locs1 → H1[q]? = some ce → ce.vm = .none → s.vm.findClass E = some ce.cls → tT p l e R s m args below meth c H1 locs1 (cells + rm.cells) (slots + rm.slots) Q (F0 m pc ls rest) q)
    (kr : ∀ (v : Option Value) (w1 : va_W) (H1 : Heap) (locs1 : List Loc), Po v w1 → tC D cl tys A Z s w1 H1 locs1 → W p l e R s m args below meth c H1 locs1 (cells + rm.cells) (slots + rm.slots) Q (F0 m (pc + 3) ls (v.toList ++ rest))) :
    W p l e R s m args below meth c H locs cells slots Q (F0 m pc ls st0) := by
  intro T hT X
  obtain ⟨vm₁, mk, methY, cY, ig, hW₁, X₁, hn, hmY, hcY, hlY, hdg, hgo⟩ := hv T hT X
  have hwd : tw D cl tys A Z w (T.setVm vm₁) := hC.tw hZc hT hW₁
  have hw1 : ∀ z ∈ Ts, z.before av.toArray (T.setVm vm₁) = true := fun z hz => word_at (U := T.setVm vm₁) hW₁ (hG z hz).2 (hts z hz)
  have hwc : tw D cl tys A Z w ((T.setVm vm₁).calling (F0 m pc ls rest) mk av.toArray) := ⟨hwd.1, va_K.moved (u := T.setVm vm₁) (U := (T.setVm vm₁).calling (F0 m pc ls rest) mk av.toArray) (Vm.Alike.refl _) hwd.2.1, hwd.2.2.1, hwd.2.2.2.1, hZc.1 (T.setVm vm₁) _ _ (State.WarmedH.refl _) hwd.2.2.2.2⟩
  obtain ⟨hP, hD, hS, hK, hA, hZ⟩ := hC
  have next : ∀ (t T' : State) (L : List Loc) (w1 : va_W), T'.heap = t.heap → (∀ z ∈ L, A z.base) → va_F A ((T.setVm vm₁).calling (F0 m pc ls rest) mk av.toArray) t → tw D cl tys A Z w1 t → tC D cl tys A Z s w1 T'.heap (locs ++ L) := by
    intro t T' L w1 e1 hL hF hw9
    obtain ⟨hz, hk⟩ := hF
    have hz : H.size ≤ t.heap.size := by rw [← hT]; exact hz
    have hk : ∀ q : Nat, q < H.size → ¬ A q → t.heap[q]? = H[q]? := by rw [← hT]; exact hk
    refine ⟨by rw [e1]; exact hw9.1, hw9.2.2.1, ⟨?_, ?_, ?_⟩, hK, hA, hZ⟩
    · rw [e1]; exact Nat.le_trans hS.1 hz
    · intro q h1 h2
      rw [e1, hk q (Nat.lt_of_lt_of_le h1 hS.1) h2]
      exact hS.2.1 q h1 h2
    · intro q hq
      rcases List.mem_append.mp hq with h | h
      · exact hS.2.2 q h
      · exact hL q h
  rcases tx_core (g := F0 m pc ls rest) (a := av.toArray) X₁ hM ⟨rfl, hwc⟩ hw1 hmY hcY hlY (hw1 _ hini) hrm.1 hrm.2.1 hrm.2.2.1 hrm.2.2.2 hn rfl hsz hdg (lv_room hst) with ⟨v, t, T', L, hR, e1, e2, hL, X', hsteps⟩ | ⟨q, E, ce, t, T', L, hE, e1, e2, hce, hcv, hcl, hL, X', hsteps⟩
  · obtain ⟨hF, w1, hp, hw⟩ := hR
    obtain ⟨t2, a1, b1⟩ := kr v w1 T'.heap (locs ++ L) hp (next t T' L w1 e1 hL hF hw) T' rfl X'
    exact ⟨t2, hgo t2 (fun acts => by rw [doInvoke_state]; exact hsteps.trans a1), b1⟩
  · obtain ⟨hF, w1, hp, hw⟩ := hE
    have hcl' : s.vm.findClass E = some ce.cls := by
      have h1 : vm₁.findClass E = some ce.cls := hcl
      rw [hW₁.alike.findClass] at h1
      exact h1
    obtain ⟨t2, a1, b1⟩ := kx E q ce w1 T'.heap (locs ++ L) hp (next t T' L w1 e1 hL hF hw) (by rw [e1]; exact hce) hcv hcl' T' rfl X'
    exact ⟨t2, hgo t2 (fun acts => by rw [doInvoke_state]; exact hsteps.trans a1), b1⟩
theorem t_invV (hexec : p.tables.exec = Jvm.exec) {cc bytes : ByteArray} (hb : c.code = cc) {own C : String} {index : Nat} {ret : Option FieldType} (hown : s.vm.findClass own = some m.cls) (hlink : (Cond.methodLink own index y).before args s = true) (hinst : (Cond.instanceMethod y).before args s = true) (hsel : (Cond.selects C y y).before args s = true) (hcode : (Cond.code y bytes maxL ret).before args s = true)
    (hy : y.cls ≠ "java/lang/invoke/MethodHandle" ∧ y.cls ≠ "java/lang/invoke/VarHandle") {b : Addr} (hrecv : ∃ cellB : Cell, H[b]? = some cellB ∧ cellB.vm.isStatics = false ∧ s.vm.findClass C = some cellB.cls) {As : List Value} (hlen : (parseMethodDescriptor y.desc).map (fun d => d.parameters.length) = some As.length) (hdg : decode cc pc = .ok (.invokevirtual index, 3)) :
    tInv p l e R s m args below meth c H locs cells slots y maxL (.ref b :: As) pc ls rest (As.reverse ++ .ref b :: rest) := by
  intro T hT X
  subst hb
  obtain ⟨cellB, hcell, hobj, hcls⟩ := hrecv
  obtain ⟨mk, methM, hnamed, hmethM, hstM, habM⟩ := Cond.instanceMethod_spec hinst
  obtain ⟨methM', cM, hmethM', hcM, -, hlM, -, -, -, hsigM⟩ := Cond.code_spec hnamed hcode
  cases hmethM.symm.trans hmethM'
  obtain ⟨c2, r2, m2, q1, q2, q3, q4, kP, hkP, hkPi⟩ := Cond.selects_spec hsel
  cases hcls.symm.trans q1
  cases (State.methodFound?_of_named hnamed hy).symm.trans q2
  cases hnamed.symm.trans q3
  have hselP : selectMethod e.platform s.vm cellB.cls mk = .method mk := by rw [Launch.admits_selectMethod X.admits]; exact q4
  have hl2 : As.length = methM.sig.parameters.length := by rw [hsigM] at hlen; exact (Option.some.inj hlen).symm
  obtain ⟨vm₁, X₁, hstep₁⟩ := X.invokevirtual hexec hown hlink hnamed hmethM hstM hkP hkPi hy (a := b) (cell := cellB) (by rw [hT]; exact hcell)
    (fun z h => by rw [h] at hobj; cases hobj) hselP hmethM habM hkP hkPi (g := F0 m pc ls (As.reverse ++ .ref b :: rest)) rfl (argsL := As) (rest := rest) hl2 rfl hdg
  exact ⟨vm₁, mk, methM, cM, _, X₁.warmed, X₁, X₁.named hnamed, by rw [X₁.warmed.alike.method?]; exact hmethM, hcM, hlM, hdg, hstep₁⟩
theorem t_invS (hexec : p.tables.exec = Jvm.exec) {cc bytes : ByteArray} (hb : c.code = cc) {own : String} {index : Nat} {ret : Option FieldType} (hown : s.vm.findClass own = some m.cls) (hlink : (Cond.methodLink own index y).before args s = true) (hstat : (Cond.static y).before args s = true) (hinit : (Cond.initialized y.cls).before args s = true) (hcode : (Cond.code y bytes maxL ret).before args s = true)
    (hy : y.cls ≠ "java/lang/invoke/MethodHandle" ∧ y.cls ≠ "java/lang/invoke/VarHandle") {As : List Value} (hlen : (parseMethodDescriptor y.desc).map (fun d => d.parameters.length) = some As.length) (hdg : decode cc pc = .ok (.invokestatic index, 3)) :
    tInv p l e R s m args below meth c H locs cells slots y maxL As pc ls rest (As.reverse ++ rest) := by
  intro T hT X
  subst hb
  obtain ⟨mk, hnamed⟩ := Cond.code_named hcode
  obtain ⟨methM, cM, hmethM, hcM, -, hlM, -, -, -, hsigM⟩ := Cond.code_spec hnamed hcode
  have hstatic : methM.isStatic = true := Cond.static_spec hnamed hmethM hstat
  obtain ⟨kP, hkP, -⟩ := className_of_methodNamed hnamed
  have hinitP : kP.init = .initialized := Cond.initialized_spec (findClass_of_methodNamed hnamed) hkP hinit
  have hl2 : As.length = methM.sig.parameters.length := by rw [hsigM] at hlen; exact (Option.some.inj hlen).symm
  obtain ⟨vm₁, X₁, hstep₁⟩ := X.invokestatic hexec hown hlink hnamed hmethM hstatic hkP hinitP hy (g := F0 m pc ls (As.reverse ++ rest)) rfl (argsL := As) (rest := rest) hl2 rfl hdg
  exact ⟨vm₁, mk, methM, cM, _, X₁.warmed, X₁, X₁.named hnamed, by rw [X₁.warmed.alike.method?]; exact hmethM, hcM, hlM, hdg, hstep₁⟩
theorem t_invSW (hexec : p.tables.exec = Jvm.exec) {cc bytes : ByteArray} (hb : c.code = cc) {own : String} {index : Nat} {ret : Option FieldType} {hh : List (Nat × Nat × Nat × Nat)} (hown : s.vm.findClass own = some m.cls) (hlink : (Cond.methodLink own index y).before args s = true) (hstat : (Cond.static y).before args s = true) (hinit : (Cond.initialized y.cls).before args s = true) (hcode : (Cond.codeWith y bytes maxL ret hh).before args s = true)
    (hy : y.cls ≠ "java/lang/invoke/MethodHandle" ∧ y.cls ≠ "java/lang/invoke/VarHandle") {As : List Value} (hlen : (parseMethodDescriptor y.desc).map (fun d => d.parameters.length) = some As.length) (hdg : decode cc pc = .ok (.invokestatic index, 3)) :
    tInv p l e R s m args below meth c H locs cells slots y maxL As pc ls rest (As.reverse ++ rest) := by
  intro T hT X
  subst hb
  obtain ⟨mk, methM, cM, hnamed, hmethM, hcM, -, hlM, -, -, -, hsigM⟩ := Cond.codeWith_spec hcode
  have hstatic : methM.isStatic = true := Cond.static_spec hnamed hmethM hstat
  obtain ⟨kP, hkP, -⟩ := className_of_methodNamed hnamed
  have hinitP : kP.init = .initialized := Cond.initialized_spec (findClass_of_methodNamed hnamed) hkP hinit
  have hl2 : As.length = methM.sig.parameters.length := by rw [hsigM] at hlen; exact (Option.some.inj hlen).symm
  obtain ⟨vm₁, X₁, hstep₁⟩ := X.invokestatic hexec hown hlink hnamed hmethM hstatic hkP hinitP hy (g := F0 m pc ls (As.reverse ++ rest)) rfl (argsL := As) (rest := rest) hl2 rfl hdg
  exact ⟨vm₁, mk, methM, cM, _, X₁.warmed, X₁, X₁.named hnamed, by rw [X₁.warmed.alike.method?]; exact hmethM, hcM, hlM, hdg, hstep₁⟩
theorem t_invI (hexec : p.tables.exec = Jvm.exec) {cc bytes : ByteArray} (hb : c.code = cc) {own : String} {index : Nat} (hown : s.vm.findClass own = some m.cls) (hy1 : y.name = "<init>") (hlink : (Cond.methodLink own index y).before args s = true) (hinst : (Cond.instanceMethod y).before args s = true) (hcode : (Cond.code y bytes maxL none).before args s = true)
    (hy : y.cls ≠ "java/lang/invoke/MethodHandle" ∧ y.cls ≠ "java/lang/invoke/VarHandle") {b : Addr} {As : List Value} (hlen : (parseMethodDescriptor y.desc).map (fun d => d.parameters.length) = some As.length) (hdg : decode cc pc = .ok (.invokespecial index, 3)) :
    tInv p l e R s m args below meth c H locs cells slots y maxL (.ref b :: As) pc ls rest (As.reverse ++ .ref b :: rest) := by
  intro T hT X
  subst hb
  have hpl : e.platform.magicAccessors = ({} : Platform).magicAccessors := by rw [X.admits.platform]
  obtain ⟨mk, methM, cM, kP, vm₁, hnamed, hmethM, hcodeM, -, hlocalsM, -, hkP, -, hW₁, hstep₁⟩ := Steps.initColdArgs (e := e) X.here hexec X.warmed hpl hown hy1 hy hlink hinst hcode (f := F0 m pc ls (As.reverse ++ .ref b :: rest)) (argsL := As) (rest := rest) (a := b) rfl (fun sig h => by rw [h] at hlen; exact (Option.some.inj hlen).symm) rfl hdg
  have X₁ := X.noted hW₁
  exact ⟨vm₁, mk, methM, cM, _, hW₁, X₁, X₁.named hnamed, by rw [X₁.warmed.alike.method?]; exact hmethM, hcodeM, hlocalsM, hdg, hstep₁⟩
/-- what a body owes at its end -/
def tE (below : List Frame) (Rt : Option Value → State → State → Prop) (Xt : String → State → State → Prop) (mc ms : Nat) (fr : Addr → Prop) (a : Array Value) (s : State) : State → Prop := fun t => ∃ o, t.status = .running ∧ Ended t below o ∧ tx_Q Rt Xt mc ms fr a s o t
theorem t_ofW {cc : ByteArray} {ret : Option FieldType} (hy : plainName y.cls = true) (hcode : Cond.code y cc maxL ret ∈ Ts) (hlen : (lg_sl av).length ≤ maxL)
    (body : ∀ (p : Program) (e : Env) (s : State) (m : MethodId) (below : List Frame) (meth : Method) (c : Code) (ls : Array Slot), p.tables.exec = Jvm.exec → c.code = cc → meth.sig.returnType = ret → (∀ z ∈ Ts, z.before av.toArray s = true) → s.vm.findClass y.cls = some m.cls → meth.locks = false → meth.name = y.name → c.maxLocals = maxL →
      (∀ x ∈ c.exceptionTable.toList, False) → lv_has ls maxL (lv_args 0 av) → tC D cl tys A Z s w s.heap [] → W p l e rm s m av.toArray below meth c s.heap [] 0 0 (tE below (tR D cl tys A Z Po) (tR D cl tys A Z Xo) rm.cells rm.slots A av.toArray s) (F0 m 0 ls [])) : tM l y Ts rm D cl tys A Z av w Po Xo := by
  refine MetFree.of_bodyS (code := cc) (maxLocals := maxL) (ret := ret) hy ?_ ?_
  · intro args s m h hn
    obtain ⟨meth, c, h1, h2, h3, h4, h5, h6, -, -⟩ := Cond.code_spec hn (atoms_spec (ws := Ts) h _ hcode)
    exact ⟨meth, c, h1, h2, h3, h4, h5, h6⟩
  · intro p e s m args below meth c s₁ B hml hP _
    obtain ⟨rfl, hw⟩ := hP
    have hh0 : s₁.heap = s.heap := by rw [B.state]; rfl
    have ht : ∀ x ∈ c.exceptionTable.toList, False := by
      obtain ⟨meth9, c9, h1, h2, -, -, -, -, h7, -⟩ := Cond.code_spec B.named (atoms_spec (ws := Ts) B.pre _ hcode)
      cases Option.some.inj (h1.symm.trans B.method)
      cases Option.some.inj (h2.symm.trans (Stand.of_body B).code)
      intro x hx
      rw [Array.isEmpty_iff.mp h7] at hx
      cases hx
    obtain ⟨t, a1, o, b1, b2, b3⟩ := body p e s m below meth c _ B.exec B.bytes B.returns (atoms_spec (ws := Ts) B.pre) (findClass_of_methodNamed B.named) B.notSynchronized (name_of_methodNamed B.named B.method).1 hml ht (lv_entry av (n := maxL) hlen) ⟨hw.1, hw.2.2.1, va_S.rf, hw.2.1, hw.2.2.2.1, hw.2.2.2.2⟩ s₁ hh0 (Stand.of_body B)
    exact ⟨t, o, by rw [lg_entry_eq]; exact a1, b1, b2, b3⟩
/-- .. of a method with an exception table -/
theorem t_ofWT {cc : ByteArray} {ret : Option FieldType} {hh : List (Nat × Nat × Nat × Nat)} (hy : plainName y.cls = true) (hcode : Cond.codeWith y cc maxL ret hh ∈ Ts) (hlen : (lg_sl av).length ≤ maxL)
    (body : ∀ (p : Program) (e : Env) (s : State) (m : MethodId) (below : List Frame) (meth : Method) (c : Code) (ls : Array Slot), p.tables.exec = Jvm.exec → c.code = cc → meth.sig.returnType = ret → (∀ z ∈ Ts, z.before av.toArray s = true) → s.vm.findClass y.cls = some m.cls → meth.locks = false → meth.name = y.name → c.maxLocals = maxL →
      c.exceptionTable.toList = tableOf hh → lv_has ls maxL (lv_args 0 av) → tC D cl tys A Z s w s.heap [] → W p l e rm s m av.toArray below meth c s.heap [] 0 0 (tE below (tR D cl tys A Z Po) (tR D cl tys A Z Xo) rm.cells rm.slots A av.toArray s) (F0 m 0 ls [])) : tM l y Ts rm D cl tys A Z av w Po Xo := by
  refine MetFree.of_bodyS (code := cc) (maxLocals := maxL) (ret := ret) hy ?_ ?_
  · intro args s m h hn
    obtain ⟨m9, meth, c, hn9, h1, h2, h3, h4, -, h5, h6, -⟩ := Cond.codeWith_spec (atoms_spec (ws := Ts) h _ hcode)
    cases hn.symm.trans hn9
    exact ⟨meth, c, h1, h2, h3, h4, h5, h6⟩
  · intro p e s m args below meth c s₁ B hml hP _
    obtain ⟨rfl, hw⟩ := hP
    have hh0 : s₁.heap = s.heap := by rw [B.state]; rfl
    have ht : c.exceptionTable.toList = tableOf hh := by
      obtain ⟨m9, meth9, c9, hn9, h1, h2, -, -, h6, -⟩ := Cond.codeWith_spec (atoms_spec (ws := Ts) B.pre _ hcode)
      cases Option.some.inj (hn9.symm.trans B.named)
      cases Option.some.inj (h1.symm.trans B.method)
      cases Option.some.inj (h2.symm.trans (Stand.of_body B).code)
      rw [← h6, table_eq]
    obtain ⟨t, a1, o, b1, b2, b3⟩ := body p e s m below meth c _ B.exec B.bytes B.returns (atoms_spec (ws := Ts) B.pre) (findClass_of_methodNamed B.named) B.notSynchronized (name_of_methodNamed B.named B.method).1 hml ht (lv_entry av (n := maxL) hlen) ⟨hw.1, hw.2.2.1, va_S.rf, hw.2.1, hw.2.2.2.1, hw.2.2.2.2⟩ s₁ hh0 (Stand.of_body B)
    exact ⟨t, o, by rw [lg_entry_eq]; exact a1, b1, b2, b3⟩
theorem t_end {Rt : Option Value → State → State → Prop} {Xt : String → State → State → Prop} {mc ms : Nat} {fr : Addr → Prop} {g : JFrame} (h1 : cells ≤ mc) (h2 : slots ≤ ms) (k : W p l e R s m args below meth c H locs mc ms (MQ below (fun _ st o t => ∃ v, o = .returned v ∧ Rt v st t) args s mc ms fr) g) :
    W p l e R s m args below meth c H locs cells slots (tE below Rt Xt mc ms fr args s) g := by
  intro T hT X
  obtain ⟨t, a1, o, b1, b2, ⟨v, b3, b4⟩, b5⟩ := k T hT (stand_widen X h1 h2)
  exact ⟨t, a1, o, b1, b2, Or.inl ⟨v, b3, b4, b5⟩⟩
variable {cc : ByteArray} {mc ms : Nat}
theorem t_fin (hZc : tZ A Z) (hC : tC D cl tys A Z s w H locs) {v : Option Value} (hp : Po v w) {t : State} (ht : t.heap = H) (hW : s.WarmedH t.vm) : tR D cl tys A Z Po v s t := ⟨hC.2.2.1.F ht, w, hp, hC.tw hZc ht hW⟩
theorem t_iret {v : Int32} (hx : p.tables.exec = Jvm.exec) (hb : c.code = cc) (hr : meth.sig.returnType = some .int) (hlk : meth.locks = false) (hZc : tZ A Z) (hC : tC D cl tys A Z s w H locs) (hp : Po (some (.int v)) w) (h1 : cells ≤ mc) (h2 : slots ≤ ms) (hdg : decode cc pc = .ok (.ireturn, 1)) :
    W p l e R s m args below meth c H locs cells slots (tE below (tR D cl tys A Z Po) (tR D cl tys A Z Xo) mc ms A args s) (F0 m pc ls [.int v]) :=
  t_end h1 h2 (W.iret hx hb hr (fun t ht hW => ⟨_, rfl, t_fin hZc hC hp ht hW⟩) hC.2.2.1.2.2 hdg hlk)
theorem t_zret {v : Int32} (hx : p.tables.exec = Jvm.exec) (hb : c.code = cc) (hr : meth.sig.returnType = some .boolean) (hlk : meth.locks = false) (hn : v = 0 ∨ v = 1) (hZc : tZ A Z) (hC : tC D cl tys A Z s w H locs) (hp : Po (some (.int v)) w) (h1 : cells ≤ mc) (h2 : slots ≤ ms) (hdg : decode cc pc = .ok (.ireturn, 1)) :
    W p l e R s m args below meth c H locs cells slots (tE below (tR D cl tys A Z Po) (tR D cl tys A Z Xo) mc ms A args s) (F0 m pc ls [.int v]) :=
  t_end h1 h2 (W.zret (ty := .boolean) hx hb hr (by rcases hn with rfl | rfl <;> rfl) (fun t ht hW => ⟨_, rfl, t_fin hZc hC hp ht hW⟩) hC.2.2.1.2.2 hdg hlk)
theorem t_lret {v : Int64} (hx : p.tables.exec = Jvm.exec) (hb : c.code = cc) (hr : meth.sig.returnType = some .long) (hlk : meth.locks = false) (hZc : tZ A Z) (hC : tC D cl tys A Z s w H locs) (hp : Po (some (.long v)) w) (h1 : cells ≤ mc) (h2 : slots ≤ ms) (hdg : decode cc pc = .ok (.lreturn, 1)) :
    W p l e R s m args below meth c H locs cells slots (tE below (tR D cl tys A Z Po) (tR D cl tys A Z Xo) mc ms A args s) (F0 m pc ls [.long v]) :=
  t_end h1 h2 (W.lret hx hb hr (fun t ht hW => ⟨_, rfl, t_fin hZc hC hp ht hW⟩) hC.2.2.1.2.2 hdg hlk)
theorem t_vret (hx : p.tables.exec = Jvm.exec) (hb : c.code = cc) (hr : meth.sig.returnType = none) (hlk : meth.locks = false) (hZc : tZ A Z) (hC : tC D cl tys A Z s w H locs) (hp : Po none w) (h1 : cells ≤ mc) (h2 : slots ≤ ms) (hdg : decode cc pc = .ok (.return_, 1)) :
    W p l e R s m args below meth c H locs cells slots (tE below (tR D cl tys A Z Po) (tR D cl tys A Z Xo) mc ms A args s) (F0 m pc ls []) :=
  t_end h1 h2 (W.vret hx hb hr (fun t ht hW => ⟨_, rfl, t_fin hZc hC hp ht hW⟩) hC.2.2.1.2.2 hdg hlk)
theorem t_aret {r : Option Nat} {rt : FieldType} (hx : p.tables.exec = Jvm.exec) (hb : c.code = cc) (hr : meth.sig.returnType = some rt) (hrt : (∃ n, rt = .object n) ∨ ∃ t, rt = .array t) (hlk : meth.locks = false) (hZc : tZ A Z) (hC : tC D cl tys A Z s w H locs) (hp : Po (some (va_rf r)) w) (h1 : cells ≤ mc) (h2 : slots ≤ ms) (hdg : decode cc pc = .ok (.areturn, 1)) :
    W p l e R s m args below meth c H locs cells slots (tE below (tR D cl tys A Z Po) (tR D cl tys A Z Xo) mc ms A args s) (F0 m pc ls [va_rf r]) :=
  t_end h1 h2 (W.aret hx hb hr hrt (va_rf_or r) (fun t ht hW => ⟨_, rfl, t_fin hZc hC hp ht hW⟩) hC.2.2.1.2.2 hdg hlk)
/-- an exception that isn't caught here leaves the method -/
theorem t_out {E : String} {q : Addr} {ce : Cell} (hex : ∀ x ∈ c.exceptionTable.toList, covers x pc = false) (hlk : meth.locks = false) (hZc : tZ A Z) (hC : tC D cl tys A Z s w H locs) (hce : H[q]? = some ce) (hcv : ce.vm = .none) (hcl : s.vm.findClass E = some ce.cls) (hp : Xo E w) (h1 : cells ≤ mc) (h2 : slots ≤ ms) :
    tT p l e R s m args below meth c H locs cells slots (tE below (tR D cl tys A Z Po) (tR D cl tys A Z Xo) mc ms A args s) (F0 m pc ls rest) q := by
  intro T hT X
  obtain ⟨st1, hrun, hend, hW, hsm⟩ := X.leaveThrown q (g := F0 m pc ls rest) rfl rfl rfl hex hlk
  have hh : (T.setFrames (.throwing q :: below)).heap = H := hT
  exact ⟨_, st1, .threw q, hrun, hend, Or.inr ⟨q, E, ce, locs, rfl, ⟨hC.2.2.1.F hh, w, hp, hC.tw hZc hh hW⟩, by rw [hh]; exact hce, hcv, hcl, hW, hsm.mono h1 h2, hC.2.2.1.2.2⟩⟩
theorem t_mono {g : JFrame} {Q2 : State → Prop} (h : ∀ t, Q t → Q2 t) (k : W p l e R s m args below meth c H locs cells slots Q g) : W p l e R s m args below meth c H locs cells slots Q2 g := by
  intro T hT X
  obtain ⟨t, a, b⟩ := k T hT X
  exact ⟨t, a, h t b⟩
/-- fields of the world's objects -/
theorem t_get (hx : p.tables.exec = Jvm.exec) (hb : c.code = cc) {own ref C : String} {T : u_T} {N ci index a : Nat} (hts : ∀ z ∈ Ts, z.before args s = true) (hin : ∀ z ∈ u_ws C T N, z ∈ Ts) (hown : s.vm.findClass own = some m.cls) (hC : tC D cl tys A Z s w H locs) (q0 : Nat) {fs : List Value} (he : w[q0]? = some (a, .inr (ci, fs))) (hc : cl[ci]? = some (C, T, N)) (k : Nat) (hk : k < N) (hlink : (Cond.fieldLink own index ref (T k).2.1 (T k).2.2.1).before args s = true) (hsame : ∀ x, s.fieldFound? (T k).1 (T k).2.1 (T k).2.2.1 = some x → s.fieldFound? ref (T k).2.1 (T k).2.2.1 = some x) {v : Value} (hv : fs[k]? = some v) (hdg : decode cc pc = .ok (.getfield index, 3))
    (kk : W p l e R s m args below meth c H locs cells slots Q (F0 m (pc + 3) ls (v :: rest))) : W p l e R s m args below meth c H locs cells slots Q (F0 m pc ls (.ref a :: rest)) :=
  va_get hx hb hts hin hown hC.2.2.2.1 hC.1 q0 he hc k hk hlink hsame hv hdg kk
end TB
section TP
variable {p : Program} {l : Launch} {e : Env} {R : Room} {s : State} {m : MethodId} {args : Array Value} {below : List Frame} {meth : Method} {c : Code} {H : Heap} {locs : List Loc} {cells slots : Nat} {Q : State → Prop}
variable {Ts : List Cond} {D : va_G} {cl : List vw_C} {tys : List (ClassId × FieldType)} {A : Nat → Prop} {Z : State → Heap → Prop} {w : va_W} {pc a : Nat} {ls : Array Slot} {rest : List Value} {cc : ByteArray}
theorem t_put (hx : p.tables.exec = Jvm.exec) (hb : c.code = cc) {own ref C : String} {T : u_T} {N ci index : Nat} (hts : ∀ z ∈ Ts, z.before args s = true) (hin : ∀ z ∈ u_ws C T N, z ∈ Ts) (ty0 : Nat → FieldType) (hty : ∀ k, k < N → parseFieldDescriptor (T k).2.2.1 = some (ty0 k)) (hnm : ∀ a, a < N → ∀ b, b < N → a ≠ b → (T a).2.1 ≠ (T b).2.1) (hown : s.vm.findClass own = some m.cls) (hC : tC D cl tys A Z s w H locs) (q0 : Nat) {fs : List Value} (he : w[q0]? = some (a, .inr (ci, fs))) (hc : cl[ci]? = some (C, T, N)) (k : Nat) (hk : k < N) (hlink : (Cond.fieldLink own index ref (T k).2.1 (T k).2.2.1).before args s = true) (hsame : ∀ x, s.fieldFound? (T k).1 (T k).2.1 (T k).2.2.1 = some x → s.fieldFound? ref (T k).2.1 (T k).2.2.1 = some x) (hfin : (T k).2.2.2 = false) {ty : FieldType} {v : Value} (hd : parseFieldDescriptor (T k).2.2.1 = some ty) (hn : narrow ty v = v) (hfit : fits ty v = true) (hl : k < fs.length)
    (hdg : decode cc pc = .ok (.putfield index, 3)) (kk : ∀ (H1 : Heap) (locs1 : List Loc), tC D cl tys A Z s (w.set q0 (a, .inr (ci, fs.set k v))) H1 locs1 → W p l e R s m args below meth c H1 locs1 cells slots Q (F0 m (pc + 3) ls rest)) : W p l e R s m args below meth c H locs cells slots Q (F0 m pc ls (v :: .ref a :: rest)) :=
  va_put hx hb hts hin ty0 hty hnm hown hC.2.2.2.1 hC.1 hC.2.1 hC.2.2.1 q0 he hc k hk hlink hsame hfin hd hn hfit hl hdg (fun H1 l1 h1 h2 h3 => kk H1 l1 ⟨h1, h2, h3, hC.2.2.2⟩)
theorem t_putF (hx : p.tables.exec = Jvm.exec) (hb : c.code = cc) {own ref C : String} {T : u_T} {N ci index : Nat} (hts : ∀ z ∈ Ts, z.before args s = true) (hin : ∀ z ∈ u_ws C T N, z ∈ Ts) (ty0 : Nat → FieldType) (hty : ∀ k, k < N → parseFieldDescriptor (T k).2.2.1 = some (ty0 k)) (hnm : ∀ a, a < N → ∀ b, b < N → a ≠ b → (T a).2.1 ≠ (T b).2.1) (hown : s.vm.findClass own = some m.cls) (hC : tC D cl tys A Z s w H locs) (q0 : Nat) {fs : List Value} (he : w[q0]? = some (a, .inr (ci, fs))) (hc : cl[ci]? = some (C, T, N)) (k : Nat) (hk : k < N) (hlink : (Cond.fieldLink own index ref (T k).2.1 (T k).2.2.1).before args s = true) (hsame : ∀ x, s.fieldFound? (T k).1 (T k).2.1 (T k).2.2.1 = some x → s.fieldFound? ref (T k).2.1 (T k).2.2.1 = some x) (hfin : (T k).2.2.2 = true) (hin2 : meth.name = "<init>") (hdecl : (T k).1 = own) {ty : FieldType} {v : Value} (hd : parseFieldDescriptor (T k).2.2.1 = some ty) (hn : narrow ty v = v) (hfit : fits ty v = true) (hl : k < fs.length)
    (hdg : decode cc pc = .ok (.putfield index, 3)) (kk : ∀ (H1 : Heap) (locs1 : List Loc), tC D cl tys A Z s (w.set q0 (a, .inr (ci, fs.set k v))) H1 locs1 → W p l e R s m args below meth c H1 locs1 cells slots Q (F0 m (pc + 3) ls rest)) : W p l e R s m args below meth c H locs cells slots Q (F0 m pc ls (v :: .ref a :: rest)) :=
  va_putF hx hb hts hin ty0 hty hnm hown hC.2.2.2.1 hC.1 hC.2.1 hC.2.2.1 q0 he hc k hk hlink hsame hfin hin2 hdecl hd hn hfit hl hdg (fun H1 l1 h1 h2 h3 => kk H1 l1 ⟨h1, h2, h3, hC.2.2.2⟩)
theorem t_iald (hx : p.tables.exec = Jvm.exec) (hb : c.code = cc) (hC : tC D cl tys A Z s w H locs) (q0 t0 : Nat) {cA : ClassId} {n : Nat} {f : Nat → Int32} (ha : w[q0]? = some (a, .inl (cA, n, .inl f))) (ht : tys[t0]? = some (cA, .int)) {i : Int32} (hin : vp_in i n) (hdg : decode cc pc = .ok (.iaload, 1))
    (kk : W p l e R s m args below meth c H locs cells slots Q (F0 m (pc + 1) ls (.int (f i.toNatClampNeg) :: rest))) : W p l e R s m args below meth c H locs cells slots Q (F0 m pc ls (.int i :: .ref a :: rest)) :=
  va_iald hx hb hC.2.2.2.1 hC.1 q0 t0 ha ht hin hdg kk
theorem t_zald (hx : p.tables.exec = Jvm.exec) (hb : c.code = cc) (hC : tC D cl tys A Z s w H locs) (q0 t0 : Nat) {cA : ClassId} {n : Nat} {f : Nat → Int32} (ha : w[q0]? = some (a, .inl (cA, n, .inl f))) (ht : tys[t0]? = some (cA, .boolean)) {i : Int32} (hin : vp_in i n) (hdg : decode cc pc = .ok (.baload, 1))
    (kk : W p l e R s m args below meth c H locs cells slots Q (F0 m (pc + 1) ls (.int (f i.toNatClampNeg) :: rest))) : W p l e R s m args below meth c H locs cells slots Q (F0 m pc ls (.int i :: .ref a :: rest)) :=
  va_zald hx hb hC.2.2.2.1 hC.1 q0 t0 ha ht hin hdg kk
theorem t_lald (hx : p.tables.exec = Jvm.exec) (hb : c.code = cc) (hC : tC D cl tys A Z s w H locs) (q0 t0 : Nat) {cA : ClassId} {n : Nat} {f : Nat → Int64} (ha : w[q0]? = some (a, .inl (cA, n, .inr (.inl f)))) (ht : tys[t0]? = some (cA, .long)) {i : Int32} (hin : vp_in i n) (hdg : decode cc pc = .ok (.laload, 1))
    (kk : W p l e R s m args below meth c H locs cells slots Q (F0 m (pc + 1) ls (.long (f i.toNatClampNeg) :: rest))) : W p l e R s m args below meth c H locs cells slots Q (F0 m pc ls (.int i :: .ref a :: rest)) :=
  va_lald hx hb hC.2.2.2.1 hC.1 q0 t0 ha ht hin hdg kk
theorem t_aldq (hx : p.tables.exec = Jvm.exec) (hb : c.code = cc) (hC : tC D cl tys A Z s w H locs) (q0 t0 : Nat) {cA : ClassId} {C : String} {n : Nat} {f : Nat → Option Nat} (ha : w[q0]? = some (a, .inl (cA, n, .inr (.inr (.inr (.inr f)))))) (ht : tys[t0]? = some (cA, .object C)) {i : Int32} (hin : vp_in i n) (hdg : decode cc pc = .ok (.aaload, 1))
    (kk : W p l e R s m args below meth c H locs cells slots Q (F0 m (pc + 1) ls (va_rf (f i.toNatClampNeg) :: rest))) : W p l e R s m args below meth c H locs cells slots Q (F0 m pc ls (.int i :: .ref a :: rest)) :=
  va_aldq hx hb hC.2.2.2.1 hC.1 q0 t0 ha ht hin hdg kk
theorem t_alen (hx : p.tables.exec = Jvm.exec) (hb : c.code = cc) (hC : tC D cl tys A Z s w H locs) (q0 t0 : Nat) {cA : ClassId} {x : vp_A} (ha : w[q0]? = some (a, .inl (cA, x))) {ty : FieldType} (ht : tys[t0]? = some (cA, ty)) {v : Int32} (hv : Int32.ofNat x.1 = v) (hdg : decode cc pc = .ok (.arraylength, 1))
    (kk : W p l e R s m args below meth c H locs cells slots Q (F0 m (pc + 1) ls (.int v :: rest))) : W p l e R s m args below meth c H locs cells slots Q (F0 m pc ls (.ref a :: rest)) :=
  va_alen hx hb hC.2.2.2.1 hC.1 q0 t0 ha ht hv hdg kk
theorem t_iast (hx : p.tables.exec = Jvm.exec) (hb : c.code = cc) (hC : tC D cl tys A Z s w H locs) (q0 t0 : Nat) {cA : ClassId} {n : Nat} {f : Nat → Int32} (ha : w[q0]? = some (a, .inl (cA, n, .inl f))) (ht : tys[t0]? = some (cA, .int)) {i : Int32} {x : Int32} (hin : vp_in i n) (hdg : decode cc pc = .ok (.iastore, 1))
    (kk : ∀ (H1 : Heap) (locs1 : List Loc), tC D cl tys A Z s (w.set q0 (a, .inl (cA, n, .inl (upd f i.toNatClampNeg x)))) H1 locs1 → W p l e R s m args below meth c H1 locs1 cells slots Q (F0 m (pc + 1) ls rest)) : W p l e R s m args below meth c H locs cells slots Q (F0 m pc ls (.int x :: .int i :: .ref a :: rest)) :=
  va_iast hx hb hC.2.2.2.1 hC.1 hC.2.1 hC.2.2.1 q0 t0 ha ht hin hdg (fun H1 l1 h1 h2 h3 => kk H1 l1 ⟨h1, h2, h3, hC.2.2.2⟩)
theorem t_zast (hx : p.tables.exec = Jvm.exec) (hb : c.code = cc) (hC : tC D cl tys A Z s w H locs) (q0 t0 : Nat) {cA : ClassId} {n : Nat} {f : Nat → Int32} (ha : w[q0]? = some (a, .inl (cA, n, .inl f))) (ht : tys[t0]? = some (cA, .boolean)) {i : Int32} {x : Int32} (hin : vp_in i n) (hz : x = 0 ∨ x = 1) (hdg : decode cc pc = .ok (.bastore, 1))
    (kk : ∀ (H1 : Heap) (locs1 : List Loc), tC D cl tys A Z s (w.set q0 (a, .inl (cA, n, .inl (upd f i.toNatClampNeg x)))) H1 locs1 → W p l e R s m args below meth c H1 locs1 cells slots Q (F0 m (pc + 1) ls rest)) : W p l e R s m args below meth c H locs cells slots Q (F0 m pc ls (.int x :: .int i :: .ref a :: rest)) := by
  have hv : vp_nar .boolean x = x := by rcases hz with rfl | rfl <;> rfl
  refine va_zast hx hb hC.2.2.2.1 hC.1 hC.2.1 hC.2.2.1 q0 t0 ha ht hin hdg (fun H1 l1 h1 h2 h3 => kk H1 l1 ⟨?_, ?_, h3, hC.2.2.2⟩)
  · rw [hv] at h1; exact h1
  · rw [hv] at h2; exact h2
theorem t_last (hx : p.tables.exec = Jvm.exec) (hb : c.code = cc) (hC : tC D cl tys A Z s w H locs) (q0 t0 : Nat) {cA : ClassId} {n : Nat} {f : Nat → Int64} (ha : w[q0]? = some (a, .inl (cA, n, .inr (.inl f)))) (ht : tys[t0]? = some (cA, .long)) {i : Int32} {x : Int64} (hin : vp_in i n) (hdg : decode cc pc = .ok (.lastore, 1))
    (kk : ∀ (H1 : Heap) (locs1 : List Loc), tC D cl tys A Z s (w.set q0 (a, .inl (cA, n, .inr (.inl (vp_updL f i.toNatClampNeg x))))) H1 locs1 → W p l e R s m args below meth c H1 locs1 cells slots Q (F0 m (pc + 1) ls rest)) : W p l e R s m args below meth c H locs cells slots Q (F0 m pc ls (.long x :: .int i :: .ref a :: rest)) :=
  va_last hx hb hC.2.2.2.1 hC.1 hC.2.1 hC.2.2.1 q0 t0 ha ht hin hdg (fun H1 l1 h1 h2 h3 => kk H1 l1 ⟨h1, h2, h3, hC.2.2.2⟩)
theorem t_newa (hx : p.tables.exec = Jvm.exec) (hb : c.code = cc) {atype : ArrayType} (harr : (Cond.arrayClass (newarray.typeOf atype)).before args s = true) {ty : FieldType} (hty : newarray.typeOf atype = ty) (hC : tC D cl tys A Z s w H locs) (t0 : Nat) {cT : ClassId} (ht : tys[t0]? = some (cT, ty)) (hob : ∀ C, ty ≠ .object C)
    {n : Int32} {N' : Nat} {a0 : vp_A} (ha : ∀ cA : ClassId, vp_cell cA a0 = arrV cA N' (fun _ => defaultValue ty)) (hn : ¬ n < 0) (hN : n.toNatClampNeg = N') (hbytes : N' * componentBytes ty ≤ 536870912) (hcells : cells + 1 ≤ R.cells) (hslots : slots + N' ≤ R.slots) (hdg : decode cc pc = .ok (.newarray atype, 2))
    (kk : ∀ (q : Nat) (H1 : Heap), tC D cl tys A Z s (w ++ [(q, .inl (cT, a0))]) H1 locs → W p l e R s m args below meth c H1 locs (cells + 1) (slots + N') Q (F0 m (pc + 2) ls (.ref q :: rest))) : W p l e R s m args below meth c H locs cells slots Q (F0 m pc ls (.int n :: rest)) := by
  refine va_newa hx hb harr hty hC.2.2.2.1 hC.1 hC.2.1 hC.2.2.1 hC.2.2.2.2.1 ha hn hN hbytes hcells hslots hdg (fun q cA H1 hK hP hD hS => ?_)
  have h1 := (hK.2 tys.length (cA, ty) (by simp)).2
  have h2 := (hC.2.2.2.1.2 t0 _ ht).2
  have e1 : cA = cT := by
    cases ty with
    | object C => exact absurd rfl (hob C)
    | _ => exact Option.some.inj (Eq.trans (Eq.symm h1) h2)
  subst e1
  exact kk q H1 ⟨hP, hD, hS, hC.2.2.2⟩
theorem t_new (hx : p.tables.exec = Jvm.exec) (hb : c.code = cc) {own C : String} {T : u_T} {N ci index : Nat} (hts : ∀ z ∈ Ts, z.before args s = true) (hin : ∀ z ∈ u_ws C T N, z ∈ Ts) (ty : Nat → FieldType) (hty : ∀ k, k < N → parseFieldDescriptor (T k).2.2.1 = some (ty k)) (hown : s.vm.findClass own = some m.cls) (hcl : (Cond.classLink own index C).before args s = true) (hinst : (Cond.instantiable C N).before args s = true) (hini : (Cond.initialized C).before args s = true)
    (hC : tC D cl tys A Z s w H locs) (hc : cl[ci]? = some (C, T, N)) {fs : List Value} (hfs : ∀ j, j < N → defaultValue (ty j) = vp_V fs j) (hcells : cells + 1 ≤ R.cells) (hslots : slots + N ≤ R.slots) (hdg : decode cc pc = .ok (.new index, 3))
    (kk : ∀ (q : Nat) (H1 : Heap), tC D cl tys A Z s (w ++ [(q, .inr (ci, fs))]) H1 locs → W p l e R s m args below meth c H1 locs (cells + 1) (slots + N) Q (F0 m (pc + 3) ls (.ref q :: rest))) : W p l e R s m args below meth c H locs cells slots Q (F0 m pc ls rest) :=
  va_new hx hb hts hin ty hty hown hcl hinst hini hC.2.2.2.1 hC.1 hC.2.1 hC.2.2.1 hC.2.2.2.2.1 hc hfs hcells hslots hdg (fun q H1 hP hD hS => kk q H1 ⟨hP, hD, hS, hC.2.2.2⟩)
/-! pools in the middle of a world -/
theorem t_apart {X Y : va_W} (hD : va_D A (X ++ Y)) {q r : Nat × va_E} (hq : q ∈ X) (hr : r ∈ Y) : q.1 ≠ r.1 := by
  intro h
  obtain ⟨i, hi⟩ := List.getElem?_of_mem hq
  obtain ⟨j, hj⟩ := List.getElem?_of_mem hr
  have hl := (List.getElem?_eq_some_iff.mp hi).1
  have h1 : (X ++ Y)[i]? = some q := by rw [List.getElem?_append_left hl]; exact hi
  have h2 : (X ++ Y)[X.length + j]? = some r := by rw [List.getElem?_append_right (by omega), Nat.add_sub_cancel_left]; exact hj
  have := hD.1 _ _ _ _ h1 h2 h
  omega
theorem t_setmap (hD : va_D A w) {k b : Nat} {e0 e1 : va_E} (hk : w[k]? = some (b, e0)) : w.set k (b, e1) = w.map (fun q => if q.1 = b then (b, e1) else q) := by
  apply List.ext_getElem?
  intro j
  rw [List.getElem?_map]
  by_cases hj : j = k
  · subst hj
    have hl := (List.getElem?_eq_some_iff.mp hk).1
    rw [List.getElem?_set_self hl, hk]
    simp
  · rw [List.getElem?_set_ne (Ne.symm hj)]
    cases hq : w[j]? with
    | none => rfl
    | some q =>
      have h1 : q.1 ≠ b := fun h => hj (hD.1 j k q (b, e0) hq hk h)
      simp [h1]
theorem t_mapfix {X : va_W} {b : Nat} {e1 : va_E} (h : ∀ q ∈ X, q.1 ≠ b) : X.map (fun q => if q.1 = b then (b, e1) else q) = X := by
  have h1 : X.map (fun q => if q.1 = b then (b, e1) else q) = X.map id := List.map_congr_left (fun q hq => by simp [h q hq])
  rw [h1, List.map_id]
theorem t_mappl {L : List Nat} {f : Nat → va_E} {b : Nat} {e1 : va_E} : (va_pl L f).map (fun q => if q.1 = b then (b, e1) else q) = va_pl L (va_up f b e1) := by
  simp only [va_pl, List.map_map]
  apply List.map_congr_left
  intro x _
  by_cases hb : x = b
  · subst hb; simp [va_up]
  · simp [va_up, hb]
theorem t_plm {L : List Nat} {f : Nat → va_E} {b : Nat} (h : b ∈ L) : (b, f b) ∈ va_pl L f := List.mem_map.mpr ⟨b, h, rfl⟩
theorem t_plg {X r : va_W} {L : List Nat} {f : Nat → va_E} {b : Nat} (h : b ∈ L) : ∃ k : Nat, (X ++ (va_pl L f ++ r))[k]? = some (b, f b) :=
  List.getElem?_of_mem (List.mem_append_right _ (List.mem_append_left _ (t_plm h)))
theorem t_pls {X r : va_W} {L : List Nat} {f : Nat → va_E} {b k : Nat} {e1 : va_E} (hD : va_D A (X ++ (va_pl L f ++ r))) (h : b ∈ L) (hk : (X ++ (va_pl L f ++ r))[k]? = some (b, f b)) : (X ++ (va_pl L f ++ r)).set k (b, e1) = X ++ (va_pl L (va_up f b e1) ++ r) := by
  have hm : (b, f b) ∈ va_pl L f := t_plm h
  rw [t_setmap hD hk, List.map_append, List.map_append, t_mappl, t_mapfix, t_mapfix]
  · intro q hq h1
    have hD2 : va_D A ((X ++ va_pl L f) ++ r) := by rw [List.append_assoc]; exact hD
    exact t_apart hD2 (List.mem_append_right _ hm) hq h1.symm
  · intro q hq
    exact t_apart hD hq (List.mem_append_left _ hm)
/-- objects whose fields are all ints: field k of the object at b is fv b k -/
def tO (ci N : Nat) (fv : Nat → Nat → Int32) : Nat → va_E := fun b => .inr (ci, (List.range N).map (fun j => .int (fv b j)))
theorem tO_get {N k : Nat} {g : Nat → Int32} (hk : k < N) : ((List.range N).map (fun j => Value.int (g j)))[k]? = some (.int (g k)) := by
  rw [List.getElem?_map, List.getElem?_range hk]; rfl
theorem tO_set {N k : Nat} {g : Nat → Int32} {x : Int32} : ((List.range N).map (fun j => Value.int (g j))).set k (.int x) = (List.range N).map (fun j => Value.int (upd g k x j)) := by
  apply List.ext_getElem?
  intro j
  by_cases hj : j = k
  · subst hj
    by_cases hn : j < N
    · rw [List.getElem?_set_self (by simpa using hn), tO_get hn]; simp [upd]
    · rw [List.getElem?_eq_none (by simp; omega), List.getElem?_eq_none (by simp; omega)]
  · rw [List.getElem?_set_ne (Ne.symm hj), List.getElem?_map, List.getElem?_map]
    cases h9 : (List.range N)[j]? with
    | none => rfl
    | some i =>
      have hi : i = j := by
        have h8 := List.getElem?_eq_some_iff.mp h9
        obtain ⟨h7, h6⟩ := h8
        simpa using h6.symm
      subst hi
      simp [upd, hj]
theorem tO_up {ci N b k : Nat} {fv : Nat → Nat → Int32} {x : Int32} : va_up (tO ci N fv) b (.inr (ci, (List.range N).map (fun j => .int (upd (fv b) k x j)))) = tO ci N (va_up fv b (upd (fv b) k x)) := by
  funext z
  by_cases hz : z = b
  · subst hz; simp [va_up, tO]
  · simp [va_up, tO, hz]
theorem t_getP (hx : p.tables.exec = Jvm.exec) (hb : c.code = cc) {own ref C : String} {T : u_T} {N ci index : Nat} (hts : ∀ z ∈ Ts, z.before args s = true) (hin : ∀ z ∈ u_ws C T N, z ∈ Ts) (hown : s.vm.findClass own = some m.cls) {X r : va_W} {L : List Nat} {fv : Nat → Nat → Int32} (hC : tC D cl tys A Z s (X ++ (va_pl L (tO ci N fv) ++ r)) H locs) (ha : a ∈ L) (hc : cl[ci]? = some (C, T, N)) (k : Nat) (hk : k < N) (hlink : (Cond.fieldLink own index ref (T k).2.1 (T k).2.2.1).before args s = true) (hsame : ∀ x, s.fieldFound? (T k).1 (T k).2.1 (T k).2.2.1 = some x → s.fieldFound? ref (T k).2.1 (T k).2.2.1 = some x) (hdg : decode cc pc = .ok (.getfield index, 3))
    (kk : W p l e R s m args below meth c H locs cells slots Q (F0 m (pc + 3) ls (.int (fv a k) :: rest))) : W p l e R s m args below meth c H locs cells slots Q (F0 m pc ls (.ref a :: rest)) := by
  obtain ⟨q0, hq⟩ := t_plg (X := X) (r := r) (f := tO ci N fv) ha
  exact va_get hx hb hts hin hown hC.2.2.2.1 hC.1 q0 hq hc k hk hlink hsame (tO_get hk) hdg kk
theorem t_putP (hx : p.tables.exec = Jvm.exec) (hb : c.code = cc) {own ref C : String} {T : u_T} {N ci index : Nat} (hts : ∀ z ∈ Ts, z.before args s = true) (hin : ∀ z ∈ u_ws C T N, z ∈ Ts) (ty0 : Nat → FieldType) (hty : ∀ k, k < N → parseFieldDescriptor (T k).2.2.1 = some (ty0 k)) (hnm : ∀ a, a < N → ∀ b, b < N → a ≠ b → (T a).2.1 ≠ (T b).2.1) (hown : s.vm.findClass own = some m.cls) {X r : va_W} {L : List Nat} {fv : Nat → Nat → Int32} (hC : tC D cl tys A Z s (X ++ (va_pl L (tO ci N fv) ++ r)) H locs) (ha : a ∈ L) (hc : cl[ci]? = some (C, T, N)) (k : Nat) (hk : k < N) (hlink : (Cond.fieldLink own index ref (T k).2.1 (T k).2.2.1).before args s = true) (hsame : ∀ x, s.fieldFound? (T k).1 (T k).2.1 (T k).2.2.1 = some x → s.fieldFound? ref (T k).2.1 (T k).2.2.1 = some x) (hfin : (T k).2.2.2 = false ∨ ((T k).2.2.2 = true ∧ meth.name = "<init>" ∧ (T k).1 = own)) {ty : FieldType} {v : Int32} (hd : parseFieldDescriptor (T k).2.2.1 = some ty) (hn : narrow ty (.int v) = .int v) (hfit : fits ty (.int v) = true)
    (hdg : decode cc pc = .ok (.putfield index, 3)) (kk : ∀ (H1 : Heap) (locs1 : List Loc), tC D cl tys A Z s (X ++ (va_pl L (tO ci N (va_up fv a (upd (fv a) k v))) ++ r)) H1 locs1 → W p l e R s m args below meth c H1 locs1 cells slots Q (F0 m (pc + 3) ls rest)) : W p l e R s m args below meth c H locs cells slots Q (F0 m pc ls (.int v :: .ref a :: rest)) := by
  obtain ⟨q0, hq⟩ := t_plg (X := X) (r := r) (f := tO ci N fv) ha
  have hfs : k < ((List.range N).map (fun j => Value.int (fv a j))).length := by simpa using hk
  have key : ∀ (H1 : Heap) (l1 : List Loc), tC D cl tys A Z s ((X ++ (va_pl L (tO ci N fv) ++ r)).set q0 (a, .inr (ci, ((List.range N).map (fun j => Value.int (fv a j))).set k (.int v)))) H1 l1 → W p l e R s m args below meth c H1 l1 cells slots Q (F0 m (pc + 3) ls rest) := by
    intro H1 l1 h
    rw [tO_set, t_pls hC.2.1 ha hq, tO_up] at h
    exact kk H1 l1 h
  rcases hfin with hf | ⟨h1, h2, h3⟩
  · exact t_put hx hb hts hin ty0 hty hnm hown hC q0 hq hc k hk hlink hsame hf hd hn hfit hfs hdg key
  · exact t_putF hx hb hts hin ty0 hty hnm hown hC q0 hq hc k hk hlink hsame h1 h2 h3 hd hn hfit hfs hdg key
theorem t_recvP {X r : va_W} {L : List Nat} {f : Nat → va_E} {ci : Nat} {fs : List Value} {q : vw_C} (hC : tC D cl tys A Z s (X ++ (va_pl L f ++ r)) H locs) (ha : a ∈ L) (hf : f a = .inr (ci, fs)) (hc : cl[ci]? = some q) : ∃ cell : Cell, H[a]? = some cell ∧ cell.vm.isStatics = false ∧ s.vm.findClass q.1 = some cell.cls := by
  obtain ⟨q0, hq⟩ := t_plg (X := X) (r := r) (f := f) ha
  rw [hf] at hq
  exact va_recv hC.2.2.2.1 hC.1 hc hq
theorem t_recv {q0 ci : Nat} {fs : List Value} {q : vw_C} (hC : tC D cl tys A Z s w H locs) (he : w[q0]? = some (a, .inr (ci, fs))) (hc : cl[ci]? = some q) : ∃ cell : Cell, H[a]? = some cell ∧ cell.vm.isStatics = false ∧ s.vm.findClass q.1 = some cell.cls := va_recv hC.2.2.2.1 hC.1 hc he
end TP
section TQ
variable {D : va_G} {cl : List vw_C} {tys : List (ClassId × FieldType)} {A : Nat → Prop} {Z : State → Heap → Prop} {s : State} {H : Heap} {locs : List Loc} {w w2 : va_W}
theorem t_P_iff : va_P D cl w H ↔ ∀ q ∈ w, va_at D cl q H := by
  constructor
  · intro h q hq
    obtain ⟨k, hk⟩ := List.getElem?_of_mem hq
    exact h k q hk
  · intro h k q hk
    exact h q (List.mem_of_getElem? hk)
theorem t_D_iff : va_D A w ↔ (w.map (·.1)).Nodup ∧ ∀ q ∈ w, A q.1 := by
  constructor
  · intro h
    refine ⟨?_, fun q hq => ?_⟩
    · unfold List.Nodup
      rw [List.pairwise_iff_getElem]
      intro i j hi hj hij heq
      rw [List.length_map] at hi hj
      rw [List.getElem_map, List.getElem_map] at heq
      have h1 := h.1 i j _ _ (List.getElem?_eq_getElem hi) (List.getElem?_eq_getElem hj) heq
      omega
    · obtain ⟨k, hk⟩ := List.getElem?_of_mem hq
      exact h.2 k q hk
  · intro h
    refine ⟨fun i j p q hi hj hpq => ?_, fun k q hk => h.2 q (List.mem_of_getElem? hk)⟩
    have hn := List.pairwise_iff_getElem.mp h.1
    obtain ⟨hil, hie⟩ := List.getElem?_eq_some_iff.mp hi
    obtain ⟨hjl, hje⟩ := List.getElem?_eq_some_iff.mp hj
    rcases Nat.lt_trichotomy i j with h1 | h1 | h1
    · exact absurd (by rw [List.getElem_map, List.getElem_map, hie, hje]; exact hpq) (hn i j (by rw [List.length_map]; exact hil) (by rw [List.length_map]; exact hjl) h1)
    · exact h1
    · exact absurd (by rw [List.getElem_map, List.getElem_map, hie, hje]; exact hpq.symm) (hn j i (by rw [List.length_map]; exact hjl) (by rw [List.length_map]; exact hil) h1)
/-- the same cells, in another order -/
theorem t_perm (hp : w.Perm w2) (hC : tC D cl tys A Z s w H locs) : tC D cl tys A Z s w2 H locs := by
  obtain ⟨h1, h2, h3⟩ := hC
  have h2 := t_D_iff.mp h2
  refine ⟨t_P_iff.mpr (fun q hq => t_P_iff.mp h1 q (hp.mem_iff.mpr hq)), t_D_iff.mpr ⟨(hp.map (·.1)).nodup_iff.mp h2.1, fun q hq => h2.2 q (hp.mem_iff.mpr hq)⟩, h3⟩
/-- fewer cells -/
theorem t_less (hp : List.Sublist w2 w) (hC : tC D cl tys A Z s w H locs) : tC D cl tys A Z s w2 H locs := by
  obtain ⟨h1, h2, h3⟩ := hC
  have h2 := t_D_iff.mp h2
  exact ⟨t_P_iff.mpr (fun q hq => t_P_iff.mp h1 q (hp.subset hq)), t_D_iff.mpr ⟨h2.1.sublist (hp.map _), fun q hq => h2.2 q (hp.subset hq)⟩, h3⟩
theorem t_permW (hp : w.Perm w2) {U : State} (hC : tw D cl tys A Z w U) : tw D cl tys A Z w2 U := by
  obtain ⟨h1, h0, h2, h3⟩ := hC
  have h2 := t_D_iff.mp h2
  refine ⟨t_P_iff.mpr (fun q hq => t_P_iff.mp h1 q (hp.mem_iff.mpr hq)), h0, t_D_iff.mpr ⟨(hp.map (·.1)).nodup_iff.mp h2.1, fun q hq => h2.2 q (hp.mem_iff.mpr hq)⟩, h3⟩
theorem t_nodupL {X r : va_W} {L : List Nat} {f : Nat → va_E} (hC : tC D cl tys A Z s (X ++ (va_pl L f ++ r)) H locs) : L.Nodup := by
  have h := (t_D_iff.mp hC.2.1).1
  rw [List.map_append, List.map_append] at h
  have h2 := ((List.nodup_append.mp h).2.1)
  have h3 := (List.nodup_append.mp h2).1
  have e : (va_pl L f).map (·.1) = L := by simp [va_pl, Function.comp_def]
  rw [e] at h3
  exact h3
theorem t_freshL {X r : va_W} {L : List Nat} {f : Nat → va_E} {q : Nat} {e : va_E} (hC : tC D cl tys A Z s ((X ++ (va_pl L f ++ r)) ++ [(q, e)]) H locs) : q ∉ L := by
  intro hq
  exact t_apart hC.2.1 (List.mem_append_right _ (List.mem_append_left _ (t_plm (f := f) hq))) (List.mem_singleton.mpr rfl) rfl
/-- a new object joins the pool -/
theorem t_join {X r : va_W} {L : List Nat} {ci N : Nat} {fv : Nat → Nat → Int32} {q : Nat} {g : Nat → Int32} (hC : tC D cl tys A Z s ((X ++ (va_pl L (tO ci N fv) ++ r)) ++ [(q, .inr (ci, (List.range N).map (fun j => .int (g j))))]) H locs) : tC D cl tys A Z s (X ++ (va_pl (L ++ [q]) (tO ci N (va_up fv q g)) ++ r)) H locs := by
  have hq := t_freshL hC
  have e : va_pl (L ++ [q]) (tO ci N (va_up fv q g)) = va_pl L (tO ci N fv) ++ [(q, .inr (ci, (List.range N).map (fun j => .int (g j))))] := by
    simp only [va_pl, List.map_append, List.map_cons, List.map_nil]
    congr 1
    · apply List.map_congr_left
      intro b hb
      have hne : b ≠ q := fun h => hq (h ▸ hb)
      simp [tO, va_up, hne]
    · simp [tO, va_up]
  rw [e]
  refine t_perm ?_ hC
  simp only [List.append_assoc]
  exact List.Perm.append_left _ (List.Perm.append_left _ List.perm_append_comm)
end TQ
