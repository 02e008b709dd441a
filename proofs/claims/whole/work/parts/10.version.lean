/-! Version: what its small methods answer, in any world with versions. Laid by program (wip/whole/p10.py) -/
set_option maxRecDepth 100000 in
set_option maxHeartbeats 4000000 in
theorem c_N_isMarker {l : Launch} {D : va_G} {tys : List (ClassId × FieldType)} {A : Nat → Prop} {Z : State → Heap → Prop} (hZc : tZ A Z) {X r : va_W} {L : List Nat} {fv : Nat → RW} {a : Nat} (ha : a ∈ L) : tM l y_N_isMarker tb ({ frames := 0, cells := 0, slots := 0, locals := 0 }) D cls tys A Z [.ref a] (X ++ (va_pl L (tO 3 13 fv) ++ r)) (pR (.int (bI (fv a 5 = -1))) (X ++ (va_pl L (tO 3 13 fv) ++ r))) (xN) := by
  refine t_ofW (by decide) w_375 (Nat.le_of_ble_eq_true rfl) ?_
  intro p e s m below meth c ls hx hb hr hts hown hlk hnm hml hex hl hC
  have hown : s.vm.findClass "RetentionVault$Version" = some m.cls := hown
  have hl : lv_has ls 1 [(0, .ref a)] := hl
  refine lv_aload_n hx hb d_N_isMarker_0 rfl (lv_at hl 0 rfl) ?_
  refine t_getP hx hb hts inN hown hC ha rfl 5 (by decide) (hts _ w_245) (fun _ h => h) d_N_isMarker_1 ?_
  refine lv_iconst (v := (-1)) hx hb d_N_isMarker_4 (by decide) ?_
  refine lv_icmp_ne (tgt := 12) hx hb d_N_isMarker_5 (by decide) (fun c5 => ?_) (fun c5 => ?_)
  · skip
    refine lv_iconst (v := 0) hx hb d_N_isMarker_12 (by decide) ?_
    exact t_zret hx hb hr hlk (Or.inl rfl) hZc hC (⟨by first | rfl | (simp only [bI, *]; rfl) | (simp [bI, *]; done) | (simp_all [bI, Int32.not_lt, Int32.not_le]; done) | (unfold bI; simp only [Int32.lt_iff_toInt_lt, Int32.le_iff_toInt_le] at *; split <;> first | rfl | (exfalso; omega)), rfl⟩) (Nat.le_of_ble_eq_true rfl) (Nat.le_of_ble_eq_true rfl) d_N_isMarker_13
  · skip
    refine lv_iconst (v := 1) hx hb d_N_isMarker_8 (by decide) ?_
    refine lv_goto (tgt := 13) hx hb d_N_isMarker_9 (by decide) ?_
    exact t_zret hx hb hr hlk (Or.inr rfl) hZc hC (⟨by first | rfl | (simp only [bI, *]; rfl) | (simp [bI, *]; done) | (simp_all [bI, Int32.not_lt, Int32.not_le]; done) | (unfold bI; simp only [Int32.lt_iff_toInt_lt, Int32.le_iff_toInt_le] at *; split <;> first | rfl | (exfalso; omega)), rfl⟩) (Nat.le_of_ble_eq_true rfl) (Nat.le_of_ble_eq_true rfl) d_N_isMarker_13

set_option maxRecDepth 100000 in
set_option maxHeartbeats 4000000 in
theorem c_N_isCold {l : Launch} {D : va_G} {tys : List (ClassId × FieldType)} {A : Nat → Prop} {Z : State → Heap → Prop} (hZc : tZ A Z) {X r : va_W} {L : List Nat} {fv : Nat → RW} {a : Nat} (ha : a ∈ L) : tM l y_N_isCold tb ({ frames := 0, cells := 0, slots := 0, locals := 0 }) D cls tys A Z [.ref a] (X ++ (va_pl L (tO 3 13 fv) ++ r)) (pR (.int (bI (2 ≤ fv a 5))) (X ++ (va_pl L (tO 3 13 fv) ++ r))) (xN) := by
  refine t_ofW (by decide) w_507 (Nat.le_of_ble_eq_true rfl) ?_
  intro p e s m below meth c ls hx hb hr hts hown hlk hnm hml hex hl hC
  have hown : s.vm.findClass "RetentionVault$Version" = some m.cls := hown
  have hl : lv_has ls 1 [(0, .ref a)] := hl
  refine lv_aload_n hx hb d_N_isCold_0 rfl (lv_at hl 0 rfl) ?_
  refine t_getP hx hb hts inN hown hC ha rfl 5 (by decide) (hts _ w_245) (fun _ h => h) d_N_isCold_1 ?_
  refine lv_iconst (v := 2) hx hb d_N_isCold_4 (by decide) ?_
  refine lv_icmp_lt (tgt := 12) hx hb d_N_isCold_5 (by decide) (fun c5 => ?_) (fun c5 => ?_)
  · skip
    refine lv_iconst (v := 0) hx hb d_N_isCold_12 (by decide) ?_
    exact t_zret hx hb hr hlk (Or.inl rfl) hZc hC (⟨by first | rfl | (simp only [bI, *]; rfl) | (simp [bI, *]; done) | (simp_all [bI, Int32.not_lt, Int32.not_le]; done) | (unfold bI; simp only [Int32.lt_iff_toInt_lt, Int32.le_iff_toInt_le] at *; split <;> first | rfl | (exfalso; omega)), rfl⟩) (Nat.le_of_ble_eq_true rfl) (Nat.le_of_ble_eq_true rfl) d_N_isCold_13
  · skip
    refine lv_iconst (v := 1) hx hb d_N_isCold_8 (by decide) ?_
    refine lv_goto (tgt := 13) hx hb d_N_isCold_9 (by decide) ?_
    exact t_zret hx hb hr hlk (Or.inr rfl) hZc hC (⟨by first | rfl | (simp only [bI, *]; rfl) | (simp [bI, *]; done) | (simp_all [bI, Int32.not_lt, Int32.not_le]; done) | (unfold bI; simp only [Int32.lt_iff_toInt_lt, Int32.le_iff_toInt_le] at *; split <;> first | rfl | (exfalso; omega)), rfl⟩) (Nat.le_of_ble_eq_true rfl) (Nat.le_of_ble_eq_true rfl) d_N_isCold_13

set_option maxRecDepth 100000 in
set_option maxHeartbeats 4000000 in
theorem c_N_since {l : Launch} {D : va_G} {tys : List (ClassId × FieldType)} {A : Nat → Prop} {Z : State → Heap → Prop} (hZc : tZ A Z) {X r : va_W} {L : List Nat} {fv : Nat → RW} {a : Nat} (ha : a ∈ L) : tM l y_N_since tb ({ frames := 0, cells := 0, slots := 0, locals := 0 }) D cls tys A Z [.ref a] (X ++ (va_pl L (tO 3 13 fv) ++ r)) (pR (.int (if fv a 6 = 0 then fv a 7 else fv a 2)) (X ++ (va_pl L (tO 3 13 fv) ++ r))) (xN) := by
  refine t_ofW (by decide) w_544 (Nat.le_of_ble_eq_true rfl) ?_
  intro p e s m below meth c ls hx hb hr hts hown hlk hnm hml hex hl hC
  have hown : s.vm.findClass "RetentionVault$Version" = some m.cls := hown
  have hl : lv_has ls 1 [(0, .ref a)] := hl
  refine lv_aload_n hx hb d_N_since_0 rfl (lv_at hl 0 rfl) ?_
  refine t_getP hx hb hts inN hown hC ha rfl 6 (by decide) (hts _ w_247) (fun _ h => h) d_N_since_1 ?_
  refine lv_if_eq (tgt := 14) hx hb d_N_since_4 (by decide) (fun c4 => ?_) (fun c4 => ?_)
  · skip
    refine lv_aload_n hx hb d_N_since_14 rfl (lv_at hl 0 rfl) ?_
    refine t_getP hx hb hts inN hown hC ha rfl 7 (by decide) (hts _ w_250) (fun _ h => h) d_N_since_15 ?_
    exact t_iret hx hb hr hlk hZc hC (⟨by first | rfl | (simp only [bI, *]; rfl) | (simp [bI, *]; done) | (simp_all [bI, Int32.not_lt, Int32.not_le]; done) | (unfold bI; simp only [Int32.lt_iff_toInt_lt, Int32.le_iff_toInt_le] at *; split <;> first | rfl | (exfalso; omega)), rfl⟩) (Nat.le_of_ble_eq_true rfl) (Nat.le_of_ble_eq_true rfl) d_N_since_18
  · skip
    refine lv_aload_n hx hb d_N_since_7 rfl (lv_at hl 0 rfl) ?_
    refine t_getP hx hb hts inN hown hC ha rfl 2 (by decide) (hts _ w_240) (fun _ h => h) d_N_since_8 ?_
    refine lv_goto (tgt := 18) hx hb d_N_since_11 (by decide) ?_
    exact t_iret hx hb hr hlk hZc hC (⟨by first | rfl | (simp only [bI, *]; rfl) | (simp [bI, *]; done) | (simp_all [bI, Int32.not_lt, Int32.not_le]; done) | (unfold bI; simp only [Int32.lt_iff_toInt_lt, Int32.le_iff_toInt_le] at *; split <;> first | rfl | (exfalso; omega)), rfl⟩) (Nat.le_of_ble_eq_true rfl) (Nat.le_of_ble_eq_true rfl) d_N_since_18

set_option maxRecDepth 100000 in
set_option maxHeartbeats 4000000 in
theorem c_N_isHeld {l : Launch} {D : va_G} {tys : List (ClassId × FieldType)} {A : Nat → Prop} {Z : State → Heap → Prop} (hZc : tZ A Z) {X r : va_W} {L : List Nat} {fv : Nat → RW} {a : Nat} (ha : a ∈ L) : tM l y_N_isHeld tb ({ frames := 0, cells := 0, slots := 0, locals := 0 }) D cls tys A Z [.ref a] (X ++ (va_pl L (tO 3 13 fv) ++ r)) (pR (.int (bI (fv a 10 ≠ 0))) (X ++ (va_pl L (tO 3 13 fv) ++ r))) (xN) := by
  refine t_ofW (by decide) w_439 (Nat.le_of_ble_eq_true rfl) ?_
  intro p e s m below meth c ls hx hb hr hts hown hlk hnm hml hex hl hC
  have hown : s.vm.findClass "RetentionVault$Version" = some m.cls := hown
  have hl : lv_has ls 1 [(0, .ref a)] := hl
  refine lv_aload_n hx hb d_N_isHeld_0 rfl (lv_at hl 0 rfl) ?_
  refine t_getP hx hb hts inN hown hC ha rfl 10 (by decide) (hts _ w_256) (fun _ h => h) d_N_isHeld_1 ?_
  refine lv_if_eq (tgt := 11) hx hb d_N_isHeld_4 (by decide) (fun c4 => ?_) (fun c4 => ?_)
  · skip
    refine lv_iconst (v := 0) hx hb d_N_isHeld_11 (by decide) ?_
    exact t_zret hx hb hr hlk (Or.inl rfl) hZc hC (⟨by first | rfl | (simp only [bI, *]; rfl) | (simp [bI, *]; done) | (simp_all [bI, Int32.not_lt, Int32.not_le]; done) | (unfold bI; simp only [Int32.lt_iff_toInt_lt, Int32.le_iff_toInt_le] at *; split <;> first | rfl | (exfalso; omega)), rfl⟩) (Nat.le_of_ble_eq_true rfl) (Nat.le_of_ble_eq_true rfl) d_N_isHeld_12
  · skip
    refine lv_iconst (v := 1) hx hb d_N_isHeld_7 (by decide) ?_
    refine lv_goto (tgt := 12) hx hb d_N_isHeld_8 (by decide) ?_
    exact t_zret hx hb hr hlk (Or.inr rfl) hZc hC (⟨by first | rfl | (simp only [bI, *]; rfl) | (simp [bI, *]; done) | (simp_all [bI, Int32.not_lt, Int32.not_le]; done) | (unfold bI; simp only [Int32.lt_iff_toInt_lt, Int32.le_iff_toInt_le] at *; split <;> first | rfl | (exfalso; omega)), rfl⟩) (Nat.le_of_ble_eq_true rfl) (Nat.le_of_ble_eq_true rfl) d_N_isHeld_12

set_option maxRecDepth 100000 in
set_option maxHeartbeats 4000000 in
theorem c_N_isRetained {l : Launch} {D : va_G} {tys : List (ClassId × FieldType)} {A : Nat → Prop} {Z : State → Heap → Prop} (hZc : tZ A Z) {X r : va_W} {L : List Nat} {fv : Nat → RW} {a : Nat} (ha : a ∈ L) {today : Int32} : tM l y_N_isRetained tb ({ frames := 0, cells := 0, slots := 0, locals := 0 }) D cls tys A Z [.ref a, .int today] (X ++ (va_pl L (tO 3 13 fv) ++ r)) (pR (.int (bI (today < fv a 8))) (X ++ (va_pl L (tO 3 13 fv) ++ r))) (xN) := by
  refine t_ofW (by decide) w_435 (Nat.le_of_ble_eq_true rfl) ?_
  intro p e s m below meth c ls hx hb hr hts hown hlk hnm hml hex hl hC
  have hown : s.vm.findClass "RetentionVault$Version" = some m.cls := hown
  have hl : lv_has ls 2 [(0, .ref a), (1, .int today)] := hl
  refine lv_iload_n hx hb d_N_isRetained_0 rfl (lv_at hl 1 rfl) ?_
  refine lv_aload_n hx hb d_N_isRetained_1 rfl (lv_at hl 0 rfl) ?_
  refine t_getP hx hb hts inN hown hC ha rfl 8 (by decide) (hts _ w_253) (fun _ h => h) d_N_isRetained_2 ?_
  refine lv_icmp_ge (tgt := 12) hx hb d_N_isRetained_5 (by decide) (fun c5 => ?_) (fun c5 => ?_)
  · skip
    refine lv_iconst (v := 0) hx hb d_N_isRetained_12 (by decide) ?_
    exact t_zret hx hb hr hlk (Or.inl rfl) hZc hC (⟨by first | rfl | (simp only [bI, *]; rfl) | (simp [bI, *]; done) | (simp_all [bI, Int32.not_lt, Int32.not_le]; done) | (unfold bI; simp only [Int32.lt_iff_toInt_lt, Int32.le_iff_toInt_le] at *; split <;> first | rfl | (exfalso; omega)), rfl⟩) (Nat.le_of_ble_eq_true rfl) (Nat.le_of_ble_eq_true rfl) d_N_isRetained_13
  · skip
    refine lv_iconst (v := 1) hx hb d_N_isRetained_8 (by decide) ?_
    refine lv_goto (tgt := 13) hx hb d_N_isRetained_9 (by decide) ?_
    exact t_zret hx hb hr hlk (Or.inr rfl) hZc hC (⟨by first | rfl | (simp only [bI, *]; rfl) | (simp [bI, *]; done) | (simp_all [bI, Int32.not_lt, Int32.not_le]; done) | (unfold bI; simp only [Int32.lt_iff_toInt_lt, Int32.le_iff_toInt_le] at *; split <;> first | rfl | (exfalso; omega)), rfl⟩) (Nat.le_of_ble_eq_true rfl) (Nat.le_of_ble_eq_true rfl) d_N_isRetained_13

set_option maxRecDepth 100000 in
set_option maxHeartbeats 4000000 in
theorem c_N_isRetainedStrictly {l : Launch} {D : va_G} {tys : List (ClassId × FieldType)} {A : Nat → Prop} {Z : State → Heap → Prop} (hZc : tZ A Z) {X r : va_W} {L : List Nat} {fv : Nat → RW} {a : Nat} (ha : a ∈ L) {today : Int32} : tM l y_N_isRetainedStrictly tb ({ frames := 1, cells := 0, slots := 0, locals := 21 }) D cls tys A Z [.ref a, .int today] (X ++ (va_pl L (tO 3 13 fv) ++ r)) (pR (.int (bI (fv a 9 ≠ 0 ∧ today < fv a 8))) (X ++ (va_pl L (tO 3 13 fv) ++ r))) (xN) := by
  refine t_ofW (by decide) w_431 (Nat.le_of_ble_eq_true rfl) ?_
  intro p e s m below meth c ls hx hb hr hts hown hlk hnm hml hex hl hC
  have hown : s.vm.findClass "RetentionVault$Version" = some m.cls := hown
  have hl : lv_has ls 2 [(0, .ref a), (1, .int today)] := hl
  refine lv_aload_n hx hb d_N_isRetainedStrictly_0 rfl (lv_at hl 0 rfl) ?_
  refine t_getP hx hb hts inN hown hC ha rfl 9 (by decide) (hts _ w_255) (fun _ h => h) d_N_isRetainedStrictly_1 ?_
  refine lv_if_eq (tgt := 19) hx hb d_N_isRetainedStrictly_4 (by decide) (fun c4 => ?_) (fun c4 => ?_)
  · skip
    refine lv_iconst (v := 0) hx hb d_N_isRetainedStrictly_19 (by decide) ?_
    exact t_zret hx hb hr hlk (Or.inl rfl) hZc hC (⟨by first | rfl | (simp only [bI, *]; rfl) | (simp [bI, *]; done) | (simp_all [bI, Int32.not_lt, Int32.not_le]; done) | (unfold bI; simp only [Int32.lt_iff_toInt_lt, Int32.le_iff_toInt_le] at *; split <;> first | rfl | (exfalso; omega)), rfl⟩) (Nat.le_of_ble_eq_true rfl) (Nat.le_of_ble_eq_true rfl) d_N_isRetainedStrictly_20
  · skip
    refine lv_aload_n hx hb d_N_isRetainedStrictly_7 rfl (lv_at hl 0 rfl) ?_
    refine lv_iload_n hx hb d_N_isRetainedStrictly_8 rfl (lv_at hl 1 rfl) ?_
    refine t_call (t_invV (As := [.int today]) (rest := []) hx hb hown (hts _ w_432) (hts _ w_433) (hts _ w_434) (hts _ w_435) ⟨by decide, by decide⟩ (t_recvP hC ha rfl rfl) rfl d_N_isRetainedStrictly_9) (c_N_isRetained hZc ha) hZc tb_good hts w_13 hC (hl.1.trans hml.symm) ⟨Nat.le_of_ble_eq_true rfl, Nat.le_of_ble_eq_true rfl, Nat.le_of_ble_eq_true rfl, Nat.le_of_ble_eq_true rfl⟩ (Nat.le_of_ble_eq_true rfl) (fun E q ce w1 H1 l1 hp => hp.elim) (fun v w1 H locs hp hC => ?_)
    obtain ⟨rfl, hwe9⟩ := hp
    rw [hwe9] at hC
    have hC : tC D cls tys A Z s (X ++ (va_pl L (tO 3 13 fv) ++ r)) H locs := hC
    refine W.eq (g2 := F0 m 12 ls [.int (bI (today < fv a 8))]) rfl ?_
    refine lv_if_eq (tgt := 19) hx hb d_N_isRetainedStrictly_12 (by decide) (fun c12 => ?_) (fun c12 => ?_)
    · skip
      refine lv_iconst (v := 0) hx hb d_N_isRetainedStrictly_19 (by decide) ?_
      exact t_zret hx hb hr hlk (Or.inl rfl) hZc hC (⟨by first | rfl | (simp only [bI, *]; rfl) | (simp [bI, *]; done) | (simp_all [bI, Int32.not_lt, Int32.not_le]; done) | (unfold bI; simp only [Int32.lt_iff_toInt_lt, Int32.le_iff_toInt_le] at *; split <;> first | rfl | (exfalso; omega)), rfl⟩) (Nat.le_of_ble_eq_true rfl) (Nat.le_of_ble_eq_true rfl) d_N_isRetainedStrictly_20
    · skip
      refine lv_iconst (v := 1) hx hb d_N_isRetainedStrictly_15 (by decide) ?_
      refine lv_goto (tgt := 20) hx hb d_N_isRetainedStrictly_16 (by decide) ?_
      exact t_zret hx hb hr hlk (Or.inr rfl) hZc hC (⟨by first | rfl | (simp only [bI, *]; rfl) | (simp [bI, *]; done) | (simp_all [bI, Int32.not_lt, Int32.not_le]; done) | (unfold bI; simp only [Int32.lt_iff_toInt_lt, Int32.le_iff_toInt_le] at *; split <;> first | rfl | (exfalso; omega)), rfl⟩) (Nat.le_of_ble_eq_true rfl) (Nat.le_of_ble_eq_true rfl) d_N_isRetainedStrictly_20

set_option maxRecDepth 100000 in
set_option maxHeartbeats 4000000 in
theorem c_N_isGuarded {l : Launch} {D : va_G} {tys : List (ClassId × FieldType)} {A : Nat → Prop} {Z : State → Heap → Prop} (hZc : tZ A Z) {X r : va_W} {L : List Nat} {fv : Nat → RW} {a : Nat} (ha : a ∈ L) {today : Int32} : tM l y_N_isGuarded tb ({ frames := 1, cells := 0, slots := 0, locals := 21 }) D cls tys A Z [.ref a, .int today] (X ++ (va_pl L (tO 3 13 fv) ++ r)) (pR (.int (bI (fv a 10 ≠ 0 ∨ today < fv a 8))) (X ++ (va_pl L (tO 3 13 fv) ++ r))) (xN) := by
  refine t_ofW (by decide) w_556 (Nat.le_of_ble_eq_true rfl) ?_
  intro p e s m below meth c ls hx hb hr hts hown hlk hnm hml hex hl hC
  have hown : s.vm.findClass "RetentionVault$Version" = some m.cls := hown
  have hl : lv_has ls 2 [(0, .ref a), (1, .int today)] := hl
  refine lv_aload_n hx hb d_N_isGuarded_0 rfl (lv_at hl 0 rfl) ?_
  refine t_call (t_invV (As := []) (rest := []) hx hb hown (hts _ w_557) (hts _ w_437) (hts _ w_438) (hts _ w_439) ⟨by decide, by decide⟩ (t_recvP hC ha rfl rfl) rfl d_N_isGuarded_1) (c_N_isHeld hZc ha) hZc tb_good hts w_13 hC (hl.1.trans hml.symm) ⟨Nat.le_of_ble_eq_true rfl, Nat.le_of_ble_eq_true rfl, Nat.le_of_ble_eq_true rfl, Nat.le_of_ble_eq_true rfl⟩ (Nat.le_of_ble_eq_true rfl) (fun E q ce w1 H1 l1 hp => hp.elim) (fun v w1 H locs hp hC => ?_)
  obtain ⟨rfl, hwe9⟩ := hp
  rw [hwe9] at hC
  have hC : tC D cls tys A Z s (X ++ (va_pl L (tO 3 13 fv) ++ r)) H locs := hC
  refine W.eq (g2 := F0 m 4 ls [.int (bI (fv a 10 ≠ 0))]) rfl ?_
  refine lv_if_ne (tgt := 15) hx hb d_N_isGuarded_4 (by decide) (fun c4 => ?_) (fun c4 => ?_)
  · skip
    refine lv_iconst (v := 1) hx hb d_N_isGuarded_15 (by decide) ?_
    refine lv_goto (tgt := 20) hx hb d_N_isGuarded_16 (by decide) ?_
    exact t_zret hx hb hr hlk (Or.inr rfl) hZc hC (⟨by first | rfl | (simp only [bI, *]; rfl) | (simp [bI, *]; done) | (simp_all [bI, Int32.not_lt, Int32.not_le]; done) | (unfold bI; simp only [Int32.lt_iff_toInt_lt, Int32.le_iff_toInt_le] at *; split <;> first | rfl | (exfalso; omega)), rfl⟩) (Nat.le_of_ble_eq_true rfl) (Nat.le_of_ble_eq_true rfl) d_N_isGuarded_20
  · skip
    refine lv_aload_n hx hb d_N_isGuarded_7 rfl (lv_at hl 0 rfl) ?_
    refine lv_iload_n hx hb d_N_isGuarded_8 rfl (lv_at hl 1 rfl) ?_
    refine t_call (t_invV (As := [.int today]) (rest := []) hx hb hown (hts _ w_432) (hts _ w_433) (hts _ w_434) (hts _ w_435) ⟨by decide, by decide⟩ (t_recvP hC ha rfl rfl) rfl d_N_isGuarded_9) (c_N_isRetained hZc ha) hZc tb_good hts w_13 hC (hl.1.trans hml.symm) ⟨Nat.le_of_ble_eq_true rfl, Nat.le_of_ble_eq_true rfl, Nat.le_of_ble_eq_true rfl, Nat.le_of_ble_eq_true rfl⟩ (Nat.le_of_ble_eq_true rfl) (fun E q ce w1 H1 l1 hp => hp.elim) (fun v w1 H locs hp hC => ?_)
    obtain ⟨rfl, hwe9⟩ := hp
    rw [hwe9] at hC
    have hC : tC D cls tys A Z s (X ++ (va_pl L (tO 3 13 fv) ++ r)) H locs := hC
    refine W.eq (g2 := F0 m 12 ls [.int (bI (today < fv a 8))]) rfl ?_
    refine lv_if_eq (tgt := 19) hx hb d_N_isGuarded_12 (by decide) (fun c12 => ?_) (fun c12 => ?_)
    · skip
      refine lv_iconst (v := 0) hx hb d_N_isGuarded_19 (by decide) ?_
      exact t_zret hx hb hr hlk (Or.inl rfl) hZc hC (⟨by first | rfl | (simp only [bI, *]; rfl) | (simp [bI, *]; done) | (simp_all [bI, Int32.not_lt, Int32.not_le]; done) | (unfold bI; simp only [Int32.lt_iff_toInt_lt, Int32.le_iff_toInt_le] at *; split <;> first | rfl | (exfalso; omega)), rfl⟩) (Nat.le_of_ble_eq_true rfl) (Nat.le_of_ble_eq_true rfl) d_N_isGuarded_20
    · skip
      refine lv_iconst (v := 1) hx hb d_N_isGuarded_15 (by decide) ?_
      refine lv_goto (tgt := 20) hx hb d_N_isGuarded_16 (by decide) ?_
      exact t_zret hx hb hr hlk (Or.inr rfl) hZc hC (⟨by first | rfl | (simp only [bI, *]; rfl) | (simp [bI, *]; done) | (simp_all [bI, Int32.not_lt, Int32.not_le]; done) | (unfold bI; simp only [Int32.lt_iff_toInt_lt, Int32.le_iff_toInt_le] at *; split <;> first | rfl | (exfalso; omega)), rfl⟩) (Nat.le_of_ble_eq_true rfl) (Nat.le_of_ble_eq_true rfl) d_N_isGuarded_20

set_option maxRecDepth 100000 in
set_option maxHeartbeats 4000000 in
theorem c_N_isFetchedFor {l : Launch} {D : va_G} {tys : List (ClassId × FieldType)} {A : Nat → Prop} {Z : State → Heap → Prop} (hZc : tZ A Z) {X r : va_W} {L : List Nat} {fv : Nat → RW} {a : Nat} (ha : a ∈ L) {today : Int32} : tM l y_N_isFetchedFor tb ({ frames := 0, cells := 0, slots := 0, locals := 0 }) D cls tys A Z [.ref a, .int today] (X ++ (va_pl L (tO 3 13 fv) ++ r)) (pR (.int (bI (fv a 11 ≤ today ∧ today < fv a 12))) (X ++ (va_pl L (tO 3 13 fv) ++ r))) (xN) := by
  refine t_ofW (by decide) w_519 (Nat.le_of_ble_eq_true rfl) ?_
  intro p e s m below meth c ls hx hb hr hts hown hlk hnm hml hex hl hC
  have hown : s.vm.findClass "RetentionVault$Version" = some m.cls := hown
  have hl : lv_has ls 2 [(0, .ref a), (1, .int today)] := hl
  refine lv_aload_n hx hb d_N_isFetchedFor_0 rfl (lv_at hl 0 rfl) ?_
  refine t_getP hx hb hts inN hown hC ha rfl 11 (by decide) (hts _ w_259) (fun _ h => h) d_N_isFetchedFor_1 ?_
  refine lv_iload_n hx hb d_N_isFetchedFor_4 rfl (lv_at hl 1 rfl) ?_
  refine lv_icmp_gt (tgt := 20) hx hb d_N_isFetchedFor_5 (by decide) (fun c5 => ?_) (fun c5 => ?_)
  · skip
    refine lv_iconst (v := 0) hx hb d_N_isFetchedFor_20 (by decide) ?_
    exact t_zret hx hb hr hlk (Or.inl rfl) hZc hC (⟨by first | rfl | (simp only [bI, *]; rfl) | (simp [bI, *]; done) | (simp_all [bI, Int32.not_lt, Int32.not_le]; done) | (unfold bI; simp only [Int32.lt_iff_toInt_lt, Int32.le_iff_toInt_le] at *; split <;> first | rfl | (exfalso; omega)), rfl⟩) (Nat.le_of_ble_eq_true rfl) (Nat.le_of_ble_eq_true rfl) d_N_isFetchedFor_21
  · skip
    refine lv_iload_n hx hb d_N_isFetchedFor_8 rfl (lv_at hl 1 rfl) ?_
    refine lv_aload_n hx hb d_N_isFetchedFor_9 rfl (lv_at hl 0 rfl) ?_
    refine t_getP hx hb hts inN hown hC ha rfl 12 (by decide) (hts _ w_261) (fun _ h => h) d_N_isFetchedFor_10 ?_
    refine lv_icmp_ge (tgt := 20) hx hb d_N_isFetchedFor_13 (by decide) (fun c13 => ?_) (fun c13 => ?_)
    · skip
      refine lv_iconst (v := 0) hx hb d_N_isFetchedFor_20 (by decide) ?_
      exact t_zret hx hb hr hlk (Or.inl rfl) hZc hC (⟨by first | rfl | (simp only [bI, *]; rfl) | (simp [bI, *]; done) | (simp_all [bI, Int32.not_lt, Int32.not_le]; done) | (unfold bI; simp only [Int32.lt_iff_toInt_lt, Int32.le_iff_toInt_le] at *; split <;> first | rfl | (exfalso; omega)), rfl⟩) (Nat.le_of_ble_eq_true rfl) (Nat.le_of_ble_eq_true rfl) d_N_isFetchedFor_21
    · skip
      refine lv_iconst (v := 1) hx hb d_N_isFetchedFor_16 (by decide) ?_
      refine lv_goto (tgt := 21) hx hb d_N_isFetchedFor_17 (by decide) ?_
      exact t_zret hx hb hr hlk (Or.inr rfl) hZc hC (⟨by first | rfl | (simp only [bI, *]; rfl) | (simp [bI, *]; done) | (simp_all [bI, Int32.not_lt, Int32.not_le]; done) | (unfold bI; simp only [Int32.lt_iff_toInt_lt, Int32.le_iff_toInt_le] at *; split <;> first | rfl | (exfalso; omega)), rfl⟩) (Nat.le_of_ble_eq_true rfl) (Nat.le_of_ble_eq_true rfl) d_N_isFetchedFor_21
