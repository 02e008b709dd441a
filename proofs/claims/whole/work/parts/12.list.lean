/-! Words of the throws; constructors of versions; reading the list; the vault's small methods. Laid by program (wip/whole/p12.py) -/
theorem at_IAE : ∀ z ∈ tAtoms "RetentionVault" 171 "java/lang/IllegalArgumentException" 7 prog_10_method_2_code "java/lang/RuntimeException" ["java/lang/Exception"], z ∈ tb ∨ z ∈ zX4 :=
  List.forall_mem_cons.mpr ⟨Or.inl w_8, List.forall_mem_cons.mpr ⟨Or.inl w_155, List.forall_mem_cons.mpr ⟨Or.inl w_164, List.forall_mem_cons.mpr ⟨Or.inl w_169, List.forall_mem_cons.mpr ⟨Or.inl w_172, List.forall_mem_cons.mpr ⟨Or.inl w_174, List.forall_mem_cons.mpr ⟨Or.inl w_156, List.forall_mem_cons.mpr ⟨Or.inl w_157, List.forall_mem_cons.mpr ⟨Or.inl w_28, List.forall_mem_cons.mpr ⟨Or.inl w_29, List.forall_mem_cons.mpr ⟨Or.inl w_158, List.forall_mem_cons.mpr ⟨Or.inl w_163, List.forall_mem_cons.mpr ⟨Or.inl w_170, List.forall_mem_cons.mpr ⟨Or.inl w_190, List.forall_mem_cons.mpr ⟨Or.inl w_145, List.forall_mem_cons.mpr ⟨Or.inl w_191, List.forall_mem_cons.mpr ⟨Or.inl w_147, List.forall_mem_cons.mpr ⟨Or.inl w_192, List.forall_mem_cons.mpr ⟨Or.inl w_149, List.forall_mem_cons.mpr ⟨Or.inl w_159, List.forall_mem_cons.mpr ⟨Or.inr (by decide +kernel), List.forall_mem_cons.mpr ⟨Or.inl w_161, List.forall_mem_cons.mpr ⟨Or.inr (by decide +kernel), List.forall_mem_cons.mpr ⟨Or.inl w_151, List.forall_mem_cons.mpr ⟨Or.inl w_186, List.forall_mem_cons.mpr ⟨Or.inl w_187, List.forall_mem_cons.mpr ⟨Or.inl w_189, List.forall_mem_cons.mpr ⟨Or.inl w_151, List.forall_mem_cons.mpr ⟨Or.inl w_177, List.forall_mem_cons.mpr ⟨Or.inl w_178, List.forall_mem_cons.mpr ⟨Or.inl w_179, List.forall_mem_cons.mpr ⟨Or.inl w_180, List.forall_mem_cons.mpr ⟨Or.inr (by decide +kernel), List.forall_mem_cons.mpr ⟨Or.inl w_180, List.forall_mem_cons.mpr ⟨Or.inl w_181, List.forall_mem_cons.mpr ⟨Or.inl w_182, List.forall_mem_cons.mpr ⟨Or.inl w_183, List.forall_mem_cons.mpr ⟨Or.inr (by decide +kernel), List.forall_mem_cons.mpr ⟨Or.inl w_183, List.forall_mem_cons.mpr ⟨Or.inl w_184, List.forall_mem_cons.mpr ⟨Or.inl w_185, List.forall_mem_cons.mpr ⟨Or.inl w_186, List.forall_mem_cons.mpr ⟨Or.inr (by decide +kernel), List.forall_mem_cons.mpr ⟨Or.inl w_176, List.forall_mem_cons.mpr ⟨Or.inl w_134, List.forall_mem_cons.mpr ⟨Or.inr (by decide +kernel), List.forall_mem_cons.mpr ⟨Or.inl w_142, List.forall_mem_cons.mpr ⟨Or.inl w_143, List.forall_mem_cons.mpr ⟨Or.inl w_144, List.forall_mem_cons.mpr ⟨Or.inl w_146, List.forall_mem_cons.mpr ⟨Or.inl w_148, List.forall_mem_cons.mpr ⟨Or.inl w_150, List.forall_mem_cons.mpr ⟨Or.inr (by decide +kernel), List.forall_mem_cons.mpr ⟨Or.inr (by decide +kernel), List.forall_mem_cons.mpr ⟨Or.inl w_154, List.forall_mem_cons.mpr ⟨Or.inl w_153, List.forall_mem_cons.mpr ⟨Or.inl w_152, fun _ h => absurd h List.not_mem_nil⟩⟩⟩⟩⟩⟩⟩⟩⟩⟩⟩⟩⟩⟩⟩⟩⟩⟩⟩⟩⟩⟩⟩⟩⟩⟩⟩⟩⟩⟩⟩⟩⟩⟩⟩⟩⟩⟩⟩⟩⟩⟩⟩⟩⟩⟩⟩⟩⟩⟩⟩⟩⟩⟩⟩⟩⟩
theorem at_ISE : ∀ z ∈ tAtoms "RetentionVault" 84 "java/lang/IllegalStateException" 7 prog_11_method_2_code "java/lang/RuntimeException" ["java/lang/Exception"], z ∈ tb ∨ z ∈ zX4 :=
  List.forall_mem_cons.mpr ⟨Or.inl w_8, List.forall_mem_cons.mpr ⟨Or.inl w_155, List.forall_mem_cons.mpr ⟨Or.inl w_164, List.forall_mem_cons.mpr ⟨Or.inl w_169, List.forall_mem_cons.mpr ⟨Or.inl w_172, List.forall_mem_cons.mpr ⟨Or.inl w_174, List.forall_mem_cons.mpr ⟨Or.inl w_156, List.forall_mem_cons.mpr ⟨Or.inl w_157, List.forall_mem_cons.mpr ⟨Or.inl w_28, List.forall_mem_cons.mpr ⟨Or.inl w_29, List.forall_mem_cons.mpr ⟨Or.inl w_158, List.forall_mem_cons.mpr ⟨Or.inl w_163, List.forall_mem_cons.mpr ⟨Or.inl w_170, List.forall_mem_cons.mpr ⟨Or.inl w_190, List.forall_mem_cons.mpr ⟨Or.inl w_145, List.forall_mem_cons.mpr ⟨Or.inl w_191, List.forall_mem_cons.mpr ⟨Or.inl w_147, List.forall_mem_cons.mpr ⟨Or.inl w_192, List.forall_mem_cons.mpr ⟨Or.inl w_149, List.forall_mem_cons.mpr ⟨Or.inl w_159, List.forall_mem_cons.mpr ⟨Or.inr (by decide +kernel), List.forall_mem_cons.mpr ⟨Or.inl w_161, List.forall_mem_cons.mpr ⟨Or.inr (by decide +kernel), List.forall_mem_cons.mpr ⟨Or.inl w_151, List.forall_mem_cons.mpr ⟨Or.inl w_186, List.forall_mem_cons.mpr ⟨Or.inl w_187, List.forall_mem_cons.mpr ⟨Or.inl w_189, List.forall_mem_cons.mpr ⟨Or.inl w_151, List.forall_mem_cons.mpr ⟨Or.inl w_225, List.forall_mem_cons.mpr ⟨Or.inl w_226, List.forall_mem_cons.mpr ⟨Or.inl w_227, List.forall_mem_cons.mpr ⟨Or.inl w_180, List.forall_mem_cons.mpr ⟨Or.inr (by decide +kernel), List.forall_mem_cons.mpr ⟨Or.inl w_180, List.forall_mem_cons.mpr ⟨Or.inl w_181, List.forall_mem_cons.mpr ⟨Or.inl w_182, List.forall_mem_cons.mpr ⟨Or.inl w_183, List.forall_mem_cons.mpr ⟨Or.inr (by decide +kernel), List.forall_mem_cons.mpr ⟨Or.inl w_183, List.forall_mem_cons.mpr ⟨Or.inl w_184, List.forall_mem_cons.mpr ⟨Or.inl w_185, List.forall_mem_cons.mpr ⟨Or.inl w_186, List.forall_mem_cons.mpr ⟨Or.inr (by decide +kernel), List.forall_mem_cons.mpr ⟨Or.inl w_224, List.forall_mem_cons.mpr ⟨Or.inl w_215, List.forall_mem_cons.mpr ⟨Or.inr (by decide +kernel), List.forall_mem_cons.mpr ⟨Or.inl w_217, List.forall_mem_cons.mpr ⟨Or.inl w_166, List.forall_mem_cons.mpr ⟨Or.inl w_218, List.forall_mem_cons.mpr ⟨Or.inl w_219, List.forall_mem_cons.mpr ⟨Or.inl w_220, List.forall_mem_cons.mpr ⟨Or.inl w_221, List.forall_mem_cons.mpr ⟨Or.inr (by decide +kernel), List.forall_mem_cons.mpr ⟨Or.inr (by decide +kernel), List.forall_mem_cons.mpr ⟨Or.inl w_154, List.forall_mem_cons.mpr ⟨Or.inl w_153, List.forall_mem_cons.mpr ⟨Or.inl w_222, fun _ h => absurd h List.not_mem_nil⟩⟩⟩⟩⟩⟩⟩⟩⟩⟩⟩⟩⟩⟩⟩⟩⟩⟩⟩⟩⟩⟩⟩⟩⟩⟩⟩⟩⟩⟩⟩⟩⟩⟩⟩⟩⟩⟩⟩⟩⟩⟩⟩⟩⟩⟩⟩⟩⟩⟩⟩⟩⟩⟩⟩⟩⟩
theorem at_NSE : ∀ z ∈ tAtoms "RetentionVault" 213 "java/util/NoSuchElementException" 13 prog_25_method_4_code "java/lang/RuntimeException" ["java/lang/Exception"], z ∈ tb ∨ z ∈ zX4 :=
  List.forall_mem_cons.mpr ⟨Or.inl w_8, List.forall_mem_cons.mpr ⟨Or.inl w_155, List.forall_mem_cons.mpr ⟨Or.inl w_164, List.forall_mem_cons.mpr ⟨Or.inl w_169, List.forall_mem_cons.mpr ⟨Or.inl w_172, List.forall_mem_cons.mpr ⟨Or.inl w_174, List.forall_mem_cons.mpr ⟨Or.inl w_156, List.forall_mem_cons.mpr ⟨Or.inl w_157, List.forall_mem_cons.mpr ⟨Or.inl w_28, List.forall_mem_cons.mpr ⟨Or.inl w_29, List.forall_mem_cons.mpr ⟨Or.inl w_158, List.forall_mem_cons.mpr ⟨Or.inl w_163, List.forall_mem_cons.mpr ⟨Or.inl w_170, List.forall_mem_cons.mpr ⟨Or.inl w_190, List.forall_mem_cons.mpr ⟨Or.inl w_145, List.forall_mem_cons.mpr ⟨Or.inl w_191, List.forall_mem_cons.mpr ⟨Or.inl w_147, List.forall_mem_cons.mpr ⟨Or.inl w_192, List.forall_mem_cons.mpr ⟨Or.inl w_149, List.forall_mem_cons.mpr ⟨Or.inl w_159, List.forall_mem_cons.mpr ⟨Or.inr (by decide +kernel), List.forall_mem_cons.mpr ⟨Or.inl w_161, List.forall_mem_cons.mpr ⟨Or.inr (by decide +kernel), List.forall_mem_cons.mpr ⟨Or.inl w_151, List.forall_mem_cons.mpr ⟨Or.inl w_186, List.forall_mem_cons.mpr ⟨Or.inl w_187, List.forall_mem_cons.mpr ⟨Or.inl w_189, List.forall_mem_cons.mpr ⟨Or.inl w_151, List.forall_mem_cons.mpr ⟨Or.inl w_411, List.forall_mem_cons.mpr ⟨Or.inl w_412, List.forall_mem_cons.mpr ⟨Or.inl w_413, List.forall_mem_cons.mpr ⟨Or.inl w_180, List.forall_mem_cons.mpr ⟨Or.inr (by decide +kernel), List.forall_mem_cons.mpr ⟨Or.inl w_180, List.forall_mem_cons.mpr ⟨Or.inl w_181, List.forall_mem_cons.mpr ⟨Or.inl w_182, List.forall_mem_cons.mpr ⟨Or.inl w_183, List.forall_mem_cons.mpr ⟨Or.inr (by decide +kernel), List.forall_mem_cons.mpr ⟨Or.inl w_183, List.forall_mem_cons.mpr ⟨Or.inl w_184, List.forall_mem_cons.mpr ⟨Or.inl w_185, List.forall_mem_cons.mpr ⟨Or.inl w_186, List.forall_mem_cons.mpr ⟨Or.inr (by decide +kernel), List.forall_mem_cons.mpr ⟨Or.inl w_410, List.forall_mem_cons.mpr ⟨Or.inl w_401, List.forall_mem_cons.mpr ⟨Or.inr (by decide +kernel), List.forall_mem_cons.mpr ⟨Or.inl w_403, List.forall_mem_cons.mpr ⟨Or.inl w_168, List.forall_mem_cons.mpr ⟨Or.inl w_404, List.forall_mem_cons.mpr ⟨Or.inl w_405, List.forall_mem_cons.mpr ⟨Or.inl w_406, List.forall_mem_cons.mpr ⟨Or.inl w_407, List.forall_mem_cons.mpr ⟨Or.inr (by decide +kernel), List.forall_mem_cons.mpr ⟨Or.inr (by decide +kernel), List.forall_mem_cons.mpr ⟨Or.inl w_154, List.forall_mem_cons.mpr ⟨Or.inl w_153, List.forall_mem_cons.mpr ⟨Or.inl w_408, fun _ h => absurd h List.not_mem_nil⟩⟩⟩⟩⟩⟩⟩⟩⟩⟩⟩⟩⟩⟩⟩⟩⟩⟩⟩⟩⟩⟩⟩⟩⟩⟩⟩⟩⟩⟩⟩⟩⟩⟩⟩⟩⟩⟩⟩⟩⟩⟩⟩⟩⟩⟩⟩⟩⟩⟩⟩⟩⟩⟩⟩⟩⟩
theorem at_IOB : ∀ z ∈ tAtoms "RetentionVault" 179 "java/lang/IndexOutOfBoundsException" 7 prog_12_method_2_code "java/lang/RuntimeException" ["java/lang/Exception"], z ∈ tb ∨ z ∈ zX4 :=
  List.forall_mem_cons.mpr ⟨Or.inl w_8, List.forall_mem_cons.mpr ⟨Or.inl w_155, List.forall_mem_cons.mpr ⟨Or.inl w_164, List.forall_mem_cons.mpr ⟨Or.inl w_169, List.forall_mem_cons.mpr ⟨Or.inl w_172, List.forall_mem_cons.mpr ⟨Or.inl w_174, List.forall_mem_cons.mpr ⟨Or.inl w_156, List.forall_mem_cons.mpr ⟨Or.inl w_157, List.forall_mem_cons.mpr ⟨Or.inl w_28, List.forall_mem_cons.mpr ⟨Or.inl w_29, List.forall_mem_cons.mpr ⟨Or.inl w_158, List.forall_mem_cons.mpr ⟨Or.inl w_163, List.forall_mem_cons.mpr ⟨Or.inl w_170, List.forall_mem_cons.mpr ⟨Or.inl w_190, List.forall_mem_cons.mpr ⟨Or.inl w_145, List.forall_mem_cons.mpr ⟨Or.inl w_191, List.forall_mem_cons.mpr ⟨Or.inl w_147, List.forall_mem_cons.mpr ⟨Or.inl w_192, List.forall_mem_cons.mpr ⟨Or.inl w_149, List.forall_mem_cons.mpr ⟨Or.inl w_159, List.forall_mem_cons.mpr ⟨Or.inr (by decide +kernel), List.forall_mem_cons.mpr ⟨Or.inl w_161, List.forall_mem_cons.mpr ⟨Or.inr (by decide +kernel), List.forall_mem_cons.mpr ⟨Or.inl w_151, List.forall_mem_cons.mpr ⟨Or.inl w_186, List.forall_mem_cons.mpr ⟨Or.inl w_187, List.forall_mem_cons.mpr ⟨Or.inl w_189, List.forall_mem_cons.mpr ⟨Or.inl w_151, List.forall_mem_cons.mpr ⟨Or.inl w_605, List.forall_mem_cons.mpr ⟨Or.inl w_606, List.forall_mem_cons.mpr ⟨Or.inl w_607, List.forall_mem_cons.mpr ⟨Or.inl w_180, List.forall_mem_cons.mpr ⟨Or.inr (by decide +kernel), List.forall_mem_cons.mpr ⟨Or.inl w_180, List.forall_mem_cons.mpr ⟨Or.inl w_181, List.forall_mem_cons.mpr ⟨Or.inl w_182, List.forall_mem_cons.mpr ⟨Or.inl w_183, List.forall_mem_cons.mpr ⟨Or.inr (by decide +kernel), List.forall_mem_cons.mpr ⟨Or.inl w_183, List.forall_mem_cons.mpr ⟨Or.inl w_184, List.forall_mem_cons.mpr ⟨Or.inl w_185, List.forall_mem_cons.mpr ⟨Or.inl w_186, List.forall_mem_cons.mpr ⟨Or.inr (by decide +kernel), List.forall_mem_cons.mpr ⟨Or.inl w_604, List.forall_mem_cons.mpr ⟨Or.inl w_595, List.forall_mem_cons.mpr ⟨Or.inr (by decide +kernel), List.forall_mem_cons.mpr ⟨Or.inl w_597, List.forall_mem_cons.mpr ⟨Or.inl w_167, List.forall_mem_cons.mpr ⟨Or.inl w_598, List.forall_mem_cons.mpr ⟨Or.inl w_599, List.forall_mem_cons.mpr ⟨Or.inl w_600, List.forall_mem_cons.mpr ⟨Or.inl w_601, List.forall_mem_cons.mpr ⟨Or.inr (by decide +kernel), List.forall_mem_cons.mpr ⟨Or.inr (by decide +kernel), List.forall_mem_cons.mpr ⟨Or.inl w_154, List.forall_mem_cons.mpr ⟨Or.inl w_153, List.forall_mem_cons.mpr ⟨Or.inl w_602, fun _ h => absurd h List.not_mem_nil⟩⟩⟩⟩⟩⟩⟩⟩⟩⟩⟩⟩⟩⟩⟩⟩⟩⟩⟩⟩⟩⟩⟩⟩⟩⟩⟩⟩⟩⟩⟩⟩⟩⟩⟩⟩⟩⟩⟩⟩⟩⟩⟩⟩⟩⟩⟩⟩⟩⟩⟩⟩⟩⟩⟩⟩⟩
set_option maxRecDepth 100000 in
set_option maxHeartbeats 4000000 in
theorem c_N_init {l : Launch} {D : va_G} {tys : List (ClassId × FieldType)} {A : Nat → Prop} {Z : State → Heap → Prop} (hZc : tZ A Z) {X r : va_W} {L : List Nat} {fv : Nat → RW} {a : Nat} (ha : a ∈ L) {nu ke da : Int32} : tM l y_N_init tb ({ frames := 1, cells := 0, slots := 0, locals := 24 }) D cls tys A Z [.ref a, .int nu, .int ke, .int da] (X ++ (va_pl L (tO 3 13 fv) ++ r)) (fun v w2 => v = none ∧ w2 = X ++ (va_pl L (tO 3 13 (va_up fv a (upd (upd (upd (upd (upd (fv a) 0 nu) 1 ke) 2 da) 5 (-1)) 6 1))) ++ r)) (xN) := by
  refine t_ofW (by decide) w_234 (Nat.le_of_ble_eq_true rfl) ?_
  intro p e s m below meth c ls hx hb hr hts hown hlk hnm hml hex hl hC
  have hown : s.vm.findClass "RetentionVault$Version" = some m.cls := hown
  have hl : lv_has ls 4 [(0, .ref a), (1, .int nu), (2, .int ke), (3, .int da)] := hl
  refine lv_aload_n hx hb d_N_init_0 rfl (lv_at hl 0 rfl) ?_
  refine W.objInit hx hb hown (hts _ w_235) (hts _ w_28) (hts _ w_29) rfl (hl.1.trans hml.symm) rfl d_N_init_1 (Nat.le_of_ble_eq_true rfl) (Nat.le_of_ble_eq_true rfl) ?_
  refine W.eq (g2 := F0 m 4 ls []) rfl ?_
  refine lv_aload_n hx hb d_N_init_4 rfl (lv_at hl 0 rfl) ?_
  refine lv_iload_n hx hb d_N_init_5 rfl (lv_at hl 1 rfl) ?_
  refine t_putP (ty := .int) hx hb hts inN TN tyN nmN hown hC ha rfl 0 (by decide) (hts _ w_236) (fun _ h => h) (Or.inr ⟨rfl, hnm, rfl⟩) (by decide +kernel) rfl rfl d_N_init_6 (fun H locs hC => ?_)
  have hC : tC D cls tys A Z s (X ++ (va_pl L (tO 3 13 (va_up fv a (upd (fv a) 0 nu))) ++ r)) H locs := hC
  refine lv_aload_n hx hb d_N_init_9 rfl (lv_at hl 0 rfl) ?_
  refine lv_iload_n hx hb d_N_init_10 rfl (lv_at hl 2 rfl) ?_
  refine t_putP (ty := .int) hx hb hts inN TN tyN nmN hown hC ha rfl 1 (by decide) (hts _ w_238) (fun _ h => h) (Or.inr ⟨rfl, hnm, rfl⟩) (by decide +kernel) rfl rfl d_N_init_11 (fun H locs hC => ?_)
  have hC : tC D cls tys A Z s (X ++ (va_pl L (tO 3 13 (va_up (va_up fv a (upd (fv a) 0 nu)) a (upd ((va_up fv a (upd (fv a) 0 nu)) a) 1 ke))) ++ r)) H locs := hC
  refine lv_aload_n hx hb d_N_init_14 rfl (lv_at hl 0 rfl) ?_
  refine lv_iload_n hx hb d_N_init_15 rfl (lv_at hl 3 rfl) ?_
  refine t_putP (ty := .int) hx hb hts inN TN tyN nmN hown hC ha rfl 2 (by decide) (hts _ w_240) (fun _ h => h) (Or.inr ⟨rfl, hnm, rfl⟩) (by decide +kernel) rfl rfl d_N_init_16 (fun H locs hC => ?_)
  have hC : tC D cls tys A Z s (X ++ (va_pl L (tO 3 13 (va_up (va_up (va_up fv a (upd (fv a) 0 nu)) a (upd ((va_up fv a (upd (fv a) 0 nu)) a) 1 ke)) a (upd ((va_up (va_up fv a (upd (fv a) 0 nu)) a (upd ((va_up fv a (upd (fv a) 0 nu)) a) 1 ke)) a) 2 da))) ++ r)) H locs := hC
  refine lv_aload_n hx hb d_N_init_19 rfl (lv_at hl 0 rfl) ?_
  refine lv_iconst (v := (-1)) hx hb d_N_init_20 (by decide) ?_
  refine t_putP (ty := .int) hx hb hts inN TN tyN nmN hown hC ha rfl 5 (by decide) (hts _ w_245) (fun _ h => h) (Or.inl rfl) (by decide +kernel) rfl rfl d_N_init_21 (fun H locs hC => ?_)
  have hC : tC D cls tys A Z s (X ++ (va_pl L (tO 3 13 (va_up (va_up (va_up (va_up fv a (upd (fv a) 0 nu)) a (upd ((va_up fv a (upd (fv a) 0 nu)) a) 1 ke)) a (upd ((va_up (va_up fv a (upd (fv a) 0 nu)) a (upd ((va_up fv a (upd (fv a) 0 nu)) a) 1 ke)) a) 2 da)) a (upd ((va_up (va_up (va_up fv a (upd (fv a) 0 nu)) a (upd ((va_up fv a (upd (fv a) 0 nu)) a) 1 ke)) a (upd ((va_up (va_up fv a (upd (fv a) 0 nu)) a (upd ((va_up fv a (upd (fv a) 0 nu)) a) 1 ke)) a) 2 da)) a) 5 (-1)))) ++ r)) H locs := hC
  refine lv_aload_n hx hb d_N_init_24 rfl (lv_at hl 0 rfl) ?_
  refine lv_iconst (v := 1) hx hb d_N_init_25 (by decide) ?_
  refine t_putP (ty := .boolean) hx hb hts inN TN tyN nmN hown hC ha rfl 6 (by decide) (hts _ w_247) (fun _ h => h) (Or.inl rfl) (by decide +kernel) (rfl) (rfl) d_N_init_26 (fun H locs hC => ?_)
  have hC : tC D cls tys A Z s (X ++ (va_pl L (tO 3 13 (va_up (va_up (va_up (va_up (va_up fv a (upd (fv a) 0 nu)) a (upd ((va_up fv a (upd (fv a) 0 nu)) a) 1 ke)) a (upd ((va_up (va_up fv a (upd (fv a) 0 nu)) a (upd ((va_up fv a (upd (fv a) 0 nu)) a) 1 ke)) a) 2 da)) a (upd ((va_up (va_up (va_up fv a (upd (fv a) 0 nu)) a (upd ((va_up fv a (upd (fv a) 0 nu)) a) 1 ke)) a (upd ((va_up (va_up fv a (upd (fv a) 0 nu)) a (upd ((va_up fv a (upd (fv a) 0 nu)) a) 1 ke)) a) 2 da)) a) 5 (-1))) a (upd ((va_up (va_up (va_up (va_up fv a (upd (fv a) 0 nu)) a (upd ((va_up fv a (upd (fv a) 0 nu)) a) 1 ke)) a (upd ((va_up (va_up fv a (upd (fv a) 0 nu)) a (upd ((va_up fv a (upd (fv a) 0 nu)) a) 1 ke)) a) 2 da)) a (upd ((va_up (va_up (va_up fv a (upd (fv a) 0 nu)) a (upd ((va_up fv a (upd (fv a) 0 nu)) a) 1 ke)) a (upd ((va_up (va_up fv a (upd (fv a) 0 nu)) a (upd ((va_up fv a (upd (fv a) 0 nu)) a) 1 ke)) a) 2 da)) a) 5 (-1))) a) 6 1))) ++ r)) H locs := hC
  exact t_vret hx hb hr hlk hZc hC (⟨rfl, by simp only [up_twice, va_up_self]⟩) (Nat.le_of_ble_eq_true rfl) (Nat.le_of_ble_eq_true rfl) d_N_init_29

set_option maxRecDepth 100000 in
set_option maxHeartbeats 4000000 in
theorem c_N_makeObject {l : Launch} {D : va_G} {tys : List (ClassId × FieldType)} {A : Nat → Prop} {Z : State → Heap → Prop} (hZc : tZ A Z) {X r : va_W} {L : List Nat} {fv : Nat → RW} {a : Nat} (ha : a ∈ L) {si tg : Int32} : tM l y_N_makeObject tb ({ frames := 0, cells := 0, slots := 0, locals := 0 }) D cls tys A Z [.ref a, .int si, .int tg] (X ++ (va_pl L (tO 3 13 fv) ++ r)) (fun v w2 => v = none ∧ w2 = X ++ (va_pl L (tO 3 13 (va_up fv a (upd (upd (upd (fv a) 3 si) 4 tg) 5 0))) ++ r)) (xN) := by
  refine t_ofW (by decide) w_292 (Nat.le_of_ble_eq_true rfl) ?_
  intro p e s m below meth c ls hx hb hr hts hown hlk hnm hml hex hl hC
  have hown : s.vm.findClass "RetentionVault$Version" = some m.cls := hown
  have hl : lv_has ls 3 [(0, .ref a), (1, .int si), (2, .int tg)] := hl
  refine lv_aload_n hx hb d_N_makeObject_0 rfl (lv_at hl 0 rfl) ?_
  refine lv_iload_n hx hb d_N_makeObject_1 rfl (lv_at hl 1 rfl) ?_
  refine t_putP (ty := .int) hx hb hts inN TN tyN nmN hown hC ha rfl 3 (by decide) (hts _ w_241) (fun _ h => h) (Or.inl rfl) (by decide +kernel) rfl rfl d_N_makeObject_2 (fun H locs hC => ?_)
  have hC : tC D cls tys A Z s (X ++ (va_pl L (tO 3 13 (va_up fv a (upd (fv a) 3 si))) ++ r)) H locs := hC
  refine lv_aload_n hx hb d_N_makeObject_5 rfl (lv_at hl 0 rfl) ?_
  refine lv_iload_n hx hb d_N_makeObject_6 rfl (lv_at hl 2 rfl) ?_
  refine t_putP (ty := .int) hx hb hts inN TN tyN nmN hown hC ha rfl 4 (by decide) (hts _ w_243) (fun _ h => h) (Or.inl rfl) (by decide +kernel) rfl rfl d_N_makeObject_7 (fun H locs hC => ?_)
  have hC : tC D cls tys A Z s (X ++ (va_pl L (tO 3 13 (va_up (va_up fv a (upd (fv a) 3 si)) a (upd ((va_up fv a (upd (fv a) 3 si)) a) 4 tg))) ++ r)) H locs := hC
  refine lv_aload_n hx hb d_N_makeObject_10 rfl (lv_at hl 0 rfl) ?_
  refine lv_iconst (v := 0) hx hb d_N_makeObject_11 (by decide) ?_
  refine t_putP (ty := .int) hx hb hts inN TN tyN nmN hown hC ha rfl 5 (by decide) (hts _ w_245) (fun _ h => h) (Or.inl rfl) (by decide +kernel) rfl rfl d_N_makeObject_12 (fun H locs hC => ?_)
  have hC : tC D cls tys A Z s (X ++ (va_pl L (tO 3 13 (va_up (va_up (va_up fv a (upd (fv a) 3 si)) a (upd ((va_up fv a (upd (fv a) 3 si)) a) 4 tg)) a (upd ((va_up (va_up fv a (upd (fv a) 3 si)) a (upd ((va_up fv a (upd (fv a) 3 si)) a) 4 tg)) a) 5 0))) ++ r)) H locs := hC
  exact t_vret hx hb hr hlk hZc hC (⟨rfl, by simp only [up_twice, va_up_self]⟩) (Nat.le_of_ble_eq_true rfl) (Nat.le_of_ble_eq_true rfl) d_N_makeObject_15

set_option maxRecDepth 100000 in
set_option maxHeartbeats 4000000 in
theorem c_A_size {l : Launch} {D : va_G} {A : Nat → Prop} {e0 : Nat → Nat} {K : Nat → Nat} {ca : Nat → ClassId} {RL LP : List Nat} {fv FR : Nat → RW} {day ever mo n : Int32} {ea : Nat} {wr : Int32} {ch : Int64} {ring : Nat → Int32} {rest : va_W} : tM l y_A_size tb ({ frames := 0, cells := 0, slots := 0, locals := 0 }) D cls (ty0 ca) A (zz e0 A) [.ref (K 1)] (wC K ca RL LP fv FR day ever mo n ea wr ch ring rest) (pR (.int n) (wC K ca RL LP fv FR day ever mo n ea wr ch ring rest)) (xN) := by
  refine t_ofW (by decide) w_213 (Nat.le_of_ble_eq_true rfl) ?_
  intro p e s m below meth c ls hx hb hr hts hown hlk hnm hml hex hl hC
  have hown : s.vm.findClass "java/util/ArrayList" = some m.cls := hown
  have hl : lv_has ls 1 [(0, .ref (K 1))] := hl
  refine lv_aload_n hx hb d_A_size_0 rfl (lv_at hl 0 rfl) ?_
  refine t_get (v := .int n) hx hb hts inA hown hC 1 rfl rfl 2 (by decide) (hts _ w_45) (fun _ h => h) rfl d_A_size_1 ?_
  exact t_iret hx hb hr hlk zz_c hC (⟨rfl, rfl⟩) (Nat.le_of_ble_eq_true rfl) (Nat.le_of_ble_eq_true rfl) d_A_size_4

set_option maxRecDepth 100000 in
set_option maxHeartbeats 4000000 in
theorem c_PC_checkIndex {l : Launch} {D : va_G} {tys : List (ClassId × FieldType)} {A : Nat → Prop} {Z : State → Heap → Prop} (hZc : tZ A Z) {w : va_W} {i n9 : Int32} (h0 : ¬ i < 0) (h1 : i < n9) : tM l y_PC_checkIndex tb ({ frames := 0, cells := 0, slots := 0, locals := 0 }) D cls tys A Z [.int i, .int n9, .null] (w) (pR (.int i) w) (xN) := by
  refine t_ofW (by decide) w_310 (Nat.le_of_ble_eq_true rfl) ?_
  intro p e s m below meth c ls hx hb hr hts hown hlk hnm hml hex hl hC
  have hown : s.vm.findClass "jdk/internal/util/Preconditions" = some m.cls := hown
  have hl : lv_has ls 3 [(0, .int i), (1, .int n9), (2, .null)] := hl
  refine lv_iload_n hx hb d_PC_checkIndex_0 rfl (lv_at hl 0 rfl) ?_
  refine lv_if_lt (tgt := 9) hx hb d_PC_checkIndex_1 (by decide) (fun c1 => ?_) (fun c1 => ?_)
  · exact absurd c1 h0
  · skip
    refine lv_iload_n hx hb d_PC_checkIndex_4 rfl (lv_at hl 0 rfl) ?_
    refine lv_iload_n hx hb d_PC_checkIndex_5 rfl (lv_at hl 1 rfl) ?_
    refine lv_icmp_lt (tgt := 16) hx hb d_PC_checkIndex_6 (by decide) (fun c6 => ?_) (fun c6 => ?_)
    · skip
      refine lv_iload_n hx hb d_PC_checkIndex_16 rfl (lv_at hl 0 rfl) ?_
      exact t_iret hx hb hr hlk hZc hC (⟨rfl, rfl⟩) (Nat.le_of_ble_eq_true rfl) (Nat.le_of_ble_eq_true rfl) d_PC_checkIndex_17
    · exact absurd h1 c6

set_option maxRecDepth 100000 in
set_option maxHeartbeats 4000000 in
theorem c_OB_checkIndex {l : Launch} {D : va_G} {tys : List (ClassId × FieldType)} {A : Nat → Prop} {Z : State → Heap → Prop} (hZc : tZ A Z) {w : va_W} {i n9 : Int32} (h0 : ¬ i < 0) (h1 : i < n9) : tM l y_OB_checkIndex tb ({ frames := 1, cells := 0, slots := 0, locals := 22 }) D cls tys A Z [.int i, .int n9] (w) (pR (.int i) w) (xN) := by
  refine t_ofW (by decide) w_307 (Nat.le_of_ble_eq_true rfl) ?_
  intro p e s m below meth c ls hx hb hr hts hown hlk hnm hml hex hl hC
  have hown : s.vm.findClass "java/util/Objects" = some m.cls := hown
  have hl : lv_has ls 2 [(0, .int i), (1, .int n9)] := hl
  refine lv_iload_n hx hb d_OB_checkIndex_0 rfl (lv_at hl 0 rfl) ?_
  refine lv_iload_n hx hb d_OB_checkIndex_1 rfl (lv_at hl 1 rfl) ?_
  refine lv_null hx hb d_OB_checkIndex_2 ?_
  refine t_call (t_invS (As := [.int i, .int n9, .null]) (rest := []) hx hb hown (hts _ w_308) (hts _ w_309) (hts _ w_15) (hts _ w_310) ⟨by decide, by decide⟩ rfl d_OB_checkIndex_3) (c_PC_checkIndex hZc h0 h1) hZc tb_good hts w_15 hC (hl.1.trans hml.symm) ⟨Nat.le_of_ble_eq_true rfl, Nat.le_of_ble_eq_true rfl, Nat.le_of_ble_eq_true rfl, Nat.le_of_ble_eq_true rfl⟩ (Nat.le_of_ble_eq_true rfl) (fun E q ce w1 H1 l1 hp => hp.elim) (fun v w1 H locs hp hC => ?_)
  obtain ⟨rfl, hwe9⟩ := hp
  rw [hwe9] at hC
  have hC : tC D cls tys A Z s (w) H locs := hC
  refine W.eq (g2 := F0 m 6 ls [.int i]) rfl ?_
  exact t_iret hx hb hr hlk hZc hC (⟨rfl, rfl⟩) (Nat.le_of_ble_eq_true rfl) (Nat.le_of_ble_eq_true rfl) d_OB_checkIndex_6

/-- the list vs, as it lies in its array (eo), or before its first element in the static empty one (e0) -/
def LR (e0 : Nat → Nat) (ca : Nat → ClassId) (vs : List Nat) (ea : Nat) (eo : va_W) : Prop := (vs = [] ∧ eo = [] ∧ ea = e0 0) ∨ ∃ (cap : Nat) (el : Nat → Option Nat), eo = [(ea, .inl (ca 3, cap, .inr (.inr (.inr (.inr el)))))] ∧ vs.length ≤ cap ∧ (0 < cap ∧ cap ≤ 60) ∧ ∀ i, i < vs.length → el i = vs[i]?
theorem LR.at {e0 : Nat → Nat} {ca : Nat → ClassId} {vs : List Nat} {ea : Nat} {eo : va_W} (h : LR e0 ca vs ea eo) {i a : Nat} (hi : vs[i]? = some a) : ∃ (cap : Nat) (el : Nat → Option Nat), eo = [(ea, .inl (ca 3, cap, .inr (.inr (.inr (.inr el)))))] ∧ i < vs.length ∧ vs.length ≤ cap ∧ cap ≤ 60 ∧ el i = some a := by
  have hl := (List.getElem?_eq_some_iff.mp hi).1
  rcases h with ⟨rfl, -⟩ | ⟨cap, el, h1, h2, h3, h4⟩
  · cases hi
  · exact ⟨cap, el, h1, hl, h2, h3.2, (h4 i hl).trans hi⟩

set_option maxRecDepth 100000 in
set_option maxHeartbeats 4000000 in
theorem c_A_elementData {l : Launch} {D : va_G} {A : Nat → Prop} {e0 : Nat → Nat} {K : Nat → Nat} {ca : Nat → ClassId} {RL LP : List Nat} {fv FR : Nat → RW} {day ever mo : Int32} {ea : Nat} {wr : Int32} {ch : Int64} {ring : Nat → Int32} {rest : va_W} {vs : List Nat} {eo : va_W} (hLR : LR e0 ca vs ea eo) {i a : Nat} (hi : vs[i]? = some a) : tM l y_A_elementData tb ({ frames := 0, cells := 0, slots := 0, locals := 0 }) D cls (ty0 ca) A (zz e0 A) [.ref (K 1), .int (nI i)] (wC K ca RL LP fv FR day ever mo (nI vs.length) ea wr ch ring (eo ++ rest)) (pR (.ref a) (wC K ca RL LP fv FR day ever mo (nI vs.length) ea wr ch ring (eo ++ rest))) (xN) := by
  refine t_ofW (by decide) w_314 (Nat.le_of_ble_eq_true rfl) ?_
  intro p e s m below meth c ls hx hb hr hts hown hlk hnm hml hex hl hC
  have hown : s.vm.findClass "java/util/ArrayList" = some m.cls := hown
  have hl : lv_has ls 2 [(0, .ref (K 1)), (1, .int (nI i))] := hl
  obtain ⟨cap, el, rfl, hil, hlc, hc60, hel⟩ := hLR.at hi
  refine lv_aload_n hx hb d_A_elementData_0 rfl (lv_at hl 0 rfl) ?_
  refine t_get (v := .ref ea) hx hb hts inA hown hC 1 rfl rfl 1 (by decide) (hts _ w_44) (fun _ h => h) rfl d_A_elementData_1 ?_
  refine lv_iload_n hx hb d_A_elementData_4 rfl (lv_at hl 1 rfl) ?_
  obtain ⟨q0, hq0⟩ : ∃ k, (wC K ca RL LP fv FR day ever mo (nI vs.length) ea wr ch ring ([(ea, .inl (ca 3, cap, .inr (.inr (.inr (.inr el)))))] ++ rest))[k]? = some ((ea, .inl (ca 3, cap, .inr (.inr (.inr (.inr el))))) : Nat × va_E) := List.getElem?_of_mem (by simp [wC])
  refine t_aldq (C := "java/lang/Object") hx hb hC q0 3 hq0 rfl (vp_in_nI (by omega) (by omega)) d_A_elementData_5 ?_
  rw [nI_clamp (n := i) (by omega), hel]
  refine W.eq (g2 := F0 m 6 ls [.ref a]) rfl ?_
  exact t_aret (r := some a) hx hb hr (Or.inl ⟨_, rfl⟩) hlk zz_c hC (⟨rfl, rfl⟩) (Nat.le_of_ble_eq_true rfl) (Nat.le_of_ble_eq_true rfl) d_A_elementData_6

set_option maxRecDepth 100000 in
set_option maxHeartbeats 4000000 in
theorem c_A_get {l : Launch} {D : va_G} {A : Nat → Prop} {e0 : Nat → Nat} {K : Nat → Nat} {ca : Nat → ClassId} {RL LP : List Nat} {fv FR : Nat → RW} {day ever mo : Int32} {ea : Nat} {wr : Int32} {ch : Int64} {ring : Nat → Int32} {rest : va_W} {vs : List Nat} {eo : va_W} (hLR : LR e0 ca vs ea eo) {i a : Nat} (hi : vs[i]? = some a) : tM l y_A_get tb ({ frames := 2, cells := 0, slots := 0, locals := 43 }) D cls (ty0 ca) A (zz e0 A) [.ref (K 1), .int (nI i)] (wC K ca RL LP fv FR day ever mo (nI vs.length) ea wr ch ring (eo ++ rest)) (pR (.ref a) (wC K ca RL LP fv FR day ever mo (nI vs.length) ea wr ch ring (eo ++ rest))) (xN) := by
  refine t_ofW (by decide) w_304 (Nat.le_of_ble_eq_true rfl) ?_
  intro p e s m below meth c ls hx hb hr hts hown hlk hnm hml hex hl hC
  have hown : s.vm.findClass "java/util/ArrayList" = some m.cls := hown
  have hl : lv_has ls 2 [(0, .ref (K 1)), (1, .int (nI i))] := hl
  have hil := (List.getElem?_eq_some_iff.mp hi).1
  have h60 : vs.length ≤ 60 := by obtain ⟨_, _, _, _, h2, h3, _⟩ := hLR.at hi; omega
  have h0 : ¬ nI i < 0 := nI_pos (by omega)
  have h1 : nI i < nI vs.length := nI_lt hil (by omega)
  refine lv_iload_n hx hb d_A_get_0 rfl (lv_at hl 1 rfl) ?_
  refine lv_aload_n hx hb d_A_get_1 rfl (lv_at hl 0 rfl) ?_
  refine t_get (v := .int (nI vs.length)) hx hb hts inA hown hC 1 rfl rfl 2 (by decide) (hts _ w_45) (fun _ h => h) rfl d_A_get_2 ?_
  refine t_call (t_invS (As := [.int (nI i), .int (nI vs.length)]) (rest := []) hx hb hown (hts _ w_305) (hts _ w_306) (hts _ w_14) (hts _ w_307) ⟨by decide, by decide⟩ rfl d_A_get_5) (c_OB_checkIndex zz_c h0 h1) zz_c tb_good hts w_14 hC (hl.1.trans hml.symm) ⟨Nat.le_of_ble_eq_true rfl, Nat.le_of_ble_eq_true rfl, Nat.le_of_ble_eq_true rfl, Nat.le_of_ble_eq_true rfl⟩ (Nat.le_of_ble_eq_true rfl) (fun E q ce w1 H1 l1 hp => hp.elim) (fun v w1 H locs hp hC => ?_)
  obtain ⟨rfl, hwe9⟩ := hp
  rw [hwe9] at hC
  have hC : tC D cls (ty0 ca) A (zz e0 A) s (wC K ca RL LP fv FR day ever mo (nI vs.length) ea wr ch ring (eo ++ rest)) H locs := hC
  refine W.eq (g2 := F0 m 8 ls [.int (nI i)]) rfl ?_
  refine lv_pop hx hb d_A_get_8 rfl ?_
  refine lv_aload_n hx hb d_A_get_9 rfl (lv_at hl 0 rfl) ?_
  refine lv_iload_n hx hb d_A_get_10 rfl (lv_at hl 1 rfl) ?_
  refine t_call (t_invV (As := [.int (nI i)]) (rest := []) hx hb hown (hts _ w_311) (hts _ w_312) (hts _ w_313) (hts _ w_314) ⟨by decide, by decide⟩ (t_recv (q0 := 1) hC rfl rfl) rfl d_A_get_11) (c_A_elementData hLR hi) zz_c tb_good hts w_4 hC (hl.1.trans hml.symm) ⟨Nat.le_of_ble_eq_true rfl, Nat.le_of_ble_eq_true rfl, Nat.le_of_ble_eq_true rfl, Nat.le_of_ble_eq_true rfl⟩ (Nat.le_of_ble_eq_true rfl) (fun E q ce w1 H1 l1 hp => hp.elim) (fun v w1 H locs hp hC => ?_)
  obtain ⟨rfl, hwe9⟩ := hp
  rw [hwe9] at hC
  have hC : tC D cls (ty0 ca) A (zz e0 A) s (wC K ca RL LP fv FR day ever mo (nI vs.length) ea wr ch ring (eo ++ rest)) H locs := hC
  refine W.eq (g2 := F0 m 14 ls [.ref a]) rfl ?_
  exact t_aret (r := some a) hx hb hr (Or.inl ⟨_, rfl⟩) hlk zz_c hC (⟨rfl, rfl⟩) (Nat.le_of_ble_eq_true rfl) (Nat.le_of_ble_eq_true rfl) d_A_get_14

set_option maxRecDepth 100000 in
set_option maxHeartbeats 4000000 in
theorem c_V_isWithin {l : Launch} {D : va_G} {tys : List (ClassId × FieldType)} {A : Nat → Prop} {Z : State → Heap → Prop} (hZc : tZ A Z) {w : va_W} {x lo hi : Int32} : tM l y_V_isWithin tb ({ frames := 0, cells := 0, slots := 0, locals := 0 }) D cls tys A Z [.int x, .int lo, .int hi] (w) (pR (.int (bI (lo ≤ x ∧ x ≤ hi))) w) (xN) := by
  refine t_ofW (by decide) w_129 (Nat.le_of_ble_eq_true rfl) ?_
  intro p e s m below meth c ls hx hb hr hts hown hlk hnm hml hex hl hC
  have hown : s.vm.findClass "RetentionVault" = some m.cls := hown
  have hl : lv_has ls 3 [(0, .int x), (1, .int lo), (2, .int hi)] := hl
  refine lv_iload_n hx hb d_V_isWithin_0 rfl (lv_at hl 1 rfl) ?_
  refine lv_iload_n hx hb d_V_isWithin_1 rfl (lv_at hl 0 rfl) ?_
  refine lv_icmp_gt (tgt := 14) hx hb d_V_isWithin_2 (by decide) (fun c2 => ?_) (fun c2 => ?_)
  · skip
    refine lv_iconst (v := 0) hx hb d_V_isWithin_14 (by decide) ?_
    exact t_zret hx hb hr hlk (Or.inl rfl) hZc hC (⟨by first | rfl | (simp only [bI, *]; rfl) | (simp [bI, *]; done) | (simp_all [bI, Int32.not_lt, Int32.not_le]; done) | (unfold bI; simp only [Int32.lt_iff_toInt_lt, Int32.le_iff_toInt_le] at *; split <;> first | rfl | (exfalso; omega)), rfl⟩) (Nat.le_of_ble_eq_true rfl) (Nat.le_of_ble_eq_true rfl) d_V_isWithin_15
  · skip
    refine lv_iload_n hx hb d_V_isWithin_5 rfl (lv_at hl 0 rfl) ?_
    refine lv_iload_n hx hb d_V_isWithin_6 rfl (lv_at hl 2 rfl) ?_
    refine lv_icmp_gt (tgt := 14) hx hb d_V_isWithin_7 (by decide) (fun c7 => ?_) (fun c7 => ?_)
    · skip
      refine lv_iconst (v := 0) hx hb d_V_isWithin_14 (by decide) ?_
      exact t_zret hx hb hr hlk (Or.inl rfl) hZc hC (⟨by first | rfl | (simp only [bI, *]; rfl) | (simp [bI, *]; done) | (simp_all [bI, Int32.not_lt, Int32.not_le]; done) | (unfold bI; simp only [Int32.lt_iff_toInt_lt, Int32.le_iff_toInt_le] at *; split <;> first | rfl | (exfalso; omega)), rfl⟩) (Nat.le_of_ble_eq_true rfl) (Nat.le_of_ble_eq_true rfl) d_V_isWithin_15
    · skip
      refine lv_iconst (v := 1) hx hb d_V_isWithin_10 (by decide) ?_
      refine lv_goto (tgt := 15) hx hb d_V_isWithin_11 (by decide) ?_
      exact t_zret hx hb hr hlk (Or.inr rfl) hZc hC (⟨by first | rfl | (simp only [bI, *]; rfl) | (simp [bI, *]; done) | (simp_all [bI, Int32.not_lt, Int32.not_le]; done) | (unfold bI; simp only [Int32.lt_iff_toInt_lt, Int32.le_iff_toInt_le] at *; split <;> first | rfl | (exfalso; omega)), rfl⟩) (Nat.le_of_ble_eq_true rfl) (Nat.le_of_ble_eq_true rfl) d_V_isWithin_15

set_option maxRecDepth 100000 in
set_option maxHeartbeats 4000000 in
theorem c_V_demand {l : Launch} (hst : l.stackTraces = false) {D : va_G} {tys : List (ClassId × FieldType)} {A : Nat → Prop} {e0 : Nat → Nat} {w : va_W} {b : Int32} : tM l y_V_demand tb ({ frames := 6, cells := 1, slots := 6, locals := 90 }) D cls tys A (zz e0 A) [.int b] (w) (fun v w2 => v = none ∧ w2 = w ∧ b ≠ 0) (fun E w2 => E = "java/lang/IllegalArgumentException" ∧ w2 = w ∧ b = 0) := by
  refine t_ofW (by decide) w_132 (Nat.le_of_ble_eq_true rfl) ?_
  intro p e s m below meth c ls hx hb hr hts hown hlk hnm hml hex hl hC
  have hown : s.vm.findClass "RetentionVault" = some m.cls := hown
  have hl : lv_has ls 1 [(0, .int b)] := hl
  refine lv_iload_n hx hb d_V_demand_0 rfl (lv_at hl 0 rfl) ?_
  refine lv_if_ne (tgt := 14) hx hb d_V_demand_1 (by decide) (fun c1 => ?_) (fun c1 => ?_)
  · skip
    exact t_vret hx hb hr hlk zz_c hC (⟨rfl, rfl, c1⟩) (Nat.le_of_ble_eq_true rfl) (Nat.le_of_ble_eq_true rfl) d_V_demand_14
  · skip
    exact t_throw (by9 := prog_10_method_2_code) (ix := 7) (Y9 := "java/lang/RuntimeException") (r9 := ["java/lang/Exception"]) (text := "an argument is out of its range") hx hb hst (by decide +kernel) (by decide +kernel) (by decide +kernel) (by decide +kernel) hown tb_good hts (by decide) (by decide) (by decide) w_133 w_11 (zz_str hC.2.2.2.2.2 (by decide +kernel)) at_IAE zz_c zz_X4 hC (hl.1.trans hml.symm) hex hlk d_V_demand_4 d_V_demand_7 d_V_demand_8 d_V_demand_10 d_V_demand_13 ⟨Nat.le_of_ble_eq_true rfl, Nat.le_of_ble_eq_true rfl, Nat.le_of_ble_eq_true rfl, Nat.le_of_ble_eq_true rfl⟩ (Nat.le_of_ble_eq_true rfl) (Nat.le_of_ble_eq_true rfl) (⟨rfl, rfl, c1⟩)
