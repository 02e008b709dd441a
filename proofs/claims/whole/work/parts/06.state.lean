/-! The class's world: vault, list, Rule[], log, ring; the pools of versions and of rules; whatever else -/
abbrev ty0 (ca : Nat → ClassId) : List (ClassId × FieldType) := [(ca 0, .int), (ca 1, .boolean), (ca 2, .long), (ca 3, .object "java/lang/Object"), (ca 4, .object "RetentionVault$Rule")]
def wF (K : Nat → Nat) (ca : Nat → ClassId) (RL : List Nat) (day ever mo n : Int32) (ea : Nat) (wr : Int32) (ch : Int64) (ring : Nat → Int32) : va_W := [
  (K 0, .inr (0, [.ref (K 1), .ref (K 2), .ref (K 3), .int day, .int ever])),
  (K 1, .inr (5, [.int mo, .ref ea, .int n])),
  (K 2, .inl (ca 4, 6, .inr (.inr (.inr (.inr (fun i => RL[i]?)))))),
  (K 3, .inr (1, [.ref (K 4), .int wr, .long ch])),
  (K 4, .inl (ca 0, 256, .inl ring))]
def wC (K : Nat → Nat) (ca : Nat → ClassId) (RL LP : List Nat) (fv FR : Nat → RW) (day ever mo n : Int32) (ea : Nat) (wr : Int32) (ch : Int64) (ring : Nat → Int32) (rest : va_W) : va_W :=
  wF K ca RL day ever mo n ea wr ch ring ++ (va_pl LP (tO 3 13 fv) ++ (va_pl RL (tO 2 4 FR) ++ rest))
section CW
variable {D : va_G} {cl : List vw_C} {tys : List (ClassId × FieldType)} {A : Nat → Prop} {Z : State → Heap → Prop} {s : State} {H : Heap} {locs : List Loc}
variable {K : Nat → Nat} {ca : Nat → ClassId} {RL LP : List Nat} {fv FR : Nat → RW} {day ever mo n : Int32} {ea : Nat} {wr : Int32} {ch : Int64} {ring : Nat → Int32} {rest : va_W}
/-- .. seen from the rules -/
theorem wC_R (hC : tC D cl tys A Z s (wC K ca RL LP fv FR day ever mo n ea wr ch ring rest) H locs) : tC D cl tys A Z s ((wF K ca RL day ever mo n ea wr ch ring ++ va_pl LP (tO 3 13 fv)) ++ (va_pl RL (tO 2 4 FR) ++ rest)) H locs := by
  rw [List.append_assoc]; exact hC
theorem wC_ofR (hC : tC D cl tys A Z s ((wF K ca RL day ever mo n ea wr ch ring ++ va_pl LP (tO 3 13 fv)) ++ (va_pl RL (tO 2 4 FR) ++ rest)) H locs) : tC D cl tys A Z s (wC K ca RL LP fv FR day ever mo n ea wr ch ring rest) H locs := by
  rw [List.append_assoc] at hC; exact hC
end CW
abbrev tB (p : Program) (l : Launch) (e : Env) (rm : Room) (s : State) (m : MethodId) (av : List Value) (below : List Frame) (meth : Method) (c : Code) (D : va_G) (tys : List (ClassId × FieldType)) (A : Nat → Prop) (Z : State → Heap → Prop) (Po : Option Value → va_W → Prop) (Xo : String → va_W → Prop) (H : Heap) (locs : List Loc) (cells slots : Nat) (g : JFrame) : Prop :=
  W p l e rm s m av.toArray below meth c H locs cells slots (tE below (tR D cls tys A Z Po) (tR D cls tys A Z Xo) rm.cells rm.slots A av.toArray s) g
/-- a method that answers r and changes nothing -/
def pR (r : Value) (w : va_W) : Option Value → va_W → Prop := fun v w2 => v = some r ∧ w2 = w
def pN (w : va_W) : Option Value → va_W → Prop := fun v w2 => v = none ∧ w2 = w
def xN : String → va_W → Prop := fun _ _ => False
def xE (E : String) (w : va_W) : String → va_W → Prop := fun E2 w2 => E2 = E ∧ w2 = w
/-- a truth as an int -/
def bI (q : Prop) [Decidable q] : Int32 := if q then 1 else 0
theorem bI_t {q : Prop} [Decidable q] (h : q) : bI q = 1 := if_pos h
theorem bI_f {q : Prop} [Decidable q] (h : ¬ q) : bI q = 0 := if_neg h
theorem bI_01 {q : Prop} [Decidable q] : bI q = 0 ∨ bI q = 1 := by unfold bI; by_cases h : q <;> simp [h]
theorem bI_ne {q : Prop} [Decidable q] : bI q = 0 ↔ ¬ q := by unfold bI; by_cases h : q <;> simp [h]
