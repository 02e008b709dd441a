/-! The law's arms, on. Laid by program (wip/whole/p42.py) -/
set_option maxRecDepth 100000 in
set_option maxHeartbeats 4000000 in
theorem arm_rule {p : Program} {l : Launch} {e : Env} {s : State} {m : MethodId} {below : List Frame} {meth : Method} {c : Code} {Q : State → Prop} {D : va_G} {A : Nat → Prop} {e0 K J : Nat → Nat} {ca : Nat → ClassId} {RL : List Nat} {ao b L n cells slots : Nat} {xs : Nat → Int32} (hst : l.stackTraces = false) (hx : p.tables.exec = Jvm.exec) (hb : c.code = code) (hml : c.maxLocals = 7) (hown : s.vm.findClass "RetentionVaultLaw" = some m.cls) (hts : ∀ z ∈ tb, z.before #[Value.ref b] s = true) (hX : va_X b L xs s s.heap) (hbl : b < s.heap.size) (hbA : ¬ A b) (hRL : RL.length = 6) (hRn : RL.Nodup) (hL : L ≤ 3072) (hnL : 6 * n + 6 ≤ L) (hcl : cells + 81 ≤ 601024) (hsl : slots + 2926 ≤ 7293033) (kk : lK p l e s m below meth c Q D A e0 K J ca RL ao b (n + 1) (nI (6 * n)) (cells + 81) (slots + 2926) 1120) : lK p l e s m below meth c Q D A e0 K J ca RL ao b n (nI (6 * n)) cells slots 515 := by
  intro code Rs day S g w H locs ls hok hoR hoD hw hC hl
  have hn5 : n ≤ 512 := by omega
  refine lv_aload_n hx hb d_law_515 rfl (lv_at hl 2 rfl) ?_
  refine lv_aload_n hx hb d_law_516 rfl (lv_at hl 1 rfl) ?_
  refine lv_iload hx hb d_law_517 (lv_at hl 0 rfl) ?_
  refine lv_iconst (v := 1) hx hb d_law_519 (by decide) ?_
  refine lv_iaddN (a := (6 * n)) (b := 1) hx hb rfl d_law_520 ?_
  refine va_sld hx hb hX hbl hbA hC.2.2.1 (i := nI ((6 * n) + 1)) (vp_in_nI (by omega) (by omega)) d_law_521 ?_
  rw [nI_clamp (by omega)]
  refine lv_aload_n hx hb d_law_522 rfl (lv_at hl 1 rfl) ?_
  refine lv_iload hx hb d_law_523 (lv_at hl 0 rfl) ?_
  refine lv_iconst (v := 2) hx hb d_law_525 (by decide) ?_
  refine lv_iaddN (a := (6 * n)) (b := 2) hx hb rfl d_law_526 ?_
  refine va_sld hx hb hX hbl hbA hC.2.2.1 (i := nI ((6 * n) + 2)) (vp_in_nI (by omega) (by omega)) d_law_527 ?_
  rw [nI_clamp (by omega)]
  refine lv_aload_n hx hb d_law_528 rfl (lv_at hl 1 rfl) ?_
  refine lv_iload hx hb d_law_529 (lv_at hl 0 rfl) ?_
  refine lv_iconst (v := 3) hx hb d_law_531 (by decide) ?_
  refine lv_iaddN (a := (6 * n)) (b := 3) hx hb rfl d_law_532 ?_
  refine va_sld hx hb hX hbl hbA hC.2.2.1 (i := nI ((6 * n) + 3)) (vp_in_nI (by omega) (by omega)) d_law_533 ?_
  rw [nI_clamp (by omega)]
  refine lv_if_eq (tgt := 541) hx hb d_law_534 (by decide) (fun c534 => ?_) (fun c534 => ?_)
  · skip
    refine lv_iconst (v := 0) hx hb d_law_541 (by decide) ?_
    refine lv_aload_n hx hb d_law_542 rfl (lv_at hl 1 rfl) ?_
    refine lv_iload hx hb d_law_543 (lv_at hl 0 rfl) ?_
    refine lv_iconst (v := 4) hx hb d_law_545 (by decide) ?_
    refine lv_iaddN (a := (6 * n)) (b := 4) hx hb rfl d_law_546 ?_
    refine va_sld hx hb hX hbl hbA hC.2.2.1 (i := nI ((6 * n) + 4)) (vp_in_nI (by omega) (by omega)) d_law_547 ?_
    rw [nI_clamp (by omega)]
    refine lv_aload_n hx hb d_law_548 rfl (lv_at hl 1 rfl) ?_
    refine lv_iload hx hb d_law_549 (lv_at hl 0 rfl) ?_
    refine lv_iconst (v := 5) hx hb d_law_551 (by decide) ?_
    refine lv_iaddN (a := (6 * n)) (b := 5) hx hb rfl d_law_552 ?_
    refine va_sld hx hb hX hbl hbA hC.2.2.1 (i := nI ((6 * n) + 5)) (vp_in_nI (by omega) (by omega)) d_law_553 ?_
    rw [nI_clamp (by omega)]
    refine t_call (t_invSW (As := [.ref (K 0), .int (xs ((6 * n) + 1)), .int (xs ((6 * n) + 2)), .int 0, .int (xs ((6 * n) + 4)), .int (xs ((6 * n) + 5))]) (rest := []) hx hb hown (hts _ w_475) (hts _ w_476) (hts _ w_0) (hts _ w_477) ⟨by decide, by decide⟩ rfl d_law_554) (l_rule hst hn5 hw hok (Or.inl rfl) hoR hRL hRn) zz_c tb_good hts w_0 hC (hl.1.trans hml.symm) ⟨by show _ ≤ _; first | exact Nat.le_of_ble_eq_true rfl | (dsimp only [room_1]; omega), by show _ ≤ _; first | exact Nat.le_of_ble_eq_true rfl | (dsimp only [room_1]; omega), by show _ ≤ _; first | exact Nat.le_of_ble_eq_true rfl | (dsimp only [room_1]; omega), by show _ ≤ _; first | exact Nat.le_of_ble_eq_true rfl | (dsimp only [room_1]; omega)⟩ (Nat.le_of_ble_eq_true rfl) (fun E q ce w1 H1 l1 hp => hp.elim) (fun v w1 H locs hp hC => ?_)
    obtain ⟨rfl, g2, hg2, hw⟩ := hp
    refine W.eq (g2 := F0 m 557 ls [.int ((o_rule day (xs ((6 * n) + 1)) (xs ((6 * n) + 2)) (xs ((6 * n) + 4)) (xs ((6 * n) + 5)) S).1)]) rfl ?_
    refine lv_istore (lv' := [(5, .int ((o_rule day (xs ((6 * n) + 1)) (xs ((6 * n) + 2)) (xs ((6 * n) + 4)) (xs ((6 * n) + 5)) S).1)), (4, .int (nI (6 * n))), (0, .ref b), (1, .ref (K 0)), (2, .ref (J 0)), (3, .ref ao)]) hx hb d_law_557 hl (by decide) rfl (fun ls hl => ?_)
    refine lv_aload_n hx hb d_law_559 rfl (lv_at hl 4 rfl) ?_
    refine lv_aload_n hx hb d_law_560 rfl (lv_at hl 2 rfl) ?_
    refine lv_iload hx hb d_law_561 (lv_at hl 1 rfl) ?_
    refine lv_iconst (v := 1) hx hb d_law_563 (by decide) ?_
    refine lv_iaddN (a := (6 * n)) (b := 1) hx hb rfl d_law_564 ?_
    refine va_sld hx hb hX hbl hbA hC.2.2.1 (i := nI ((6 * n) + 1)) (vp_in_nI (by omega) (by omega)) d_law_565 ?_
    rw [nI_clamp (by omega)]
    refine lv_aload_n hx hb d_law_566 rfl (lv_at hl 2 rfl) ?_
    refine lv_iload hx hb d_law_567 (lv_at hl 1 rfl) ?_
    refine lv_iconst (v := 2) hx hb d_law_569 (by decide) ?_
    refine lv_iaddN (a := (6 * n)) (b := 2) hx hb rfl d_law_570 ?_
    refine va_sld hx hb hX hbl hbA hC.2.2.1 (i := nI ((6 * n) + 2)) (vp_in_nI (by omega) (by omega)) d_law_571 ?_
    rw [nI_clamp (by omega)]
    refine lv_aload_n hx hb d_law_572 rfl (lv_at hl 2 rfl) ?_
    refine lv_iload hx hb d_law_573 (lv_at hl 1 rfl) ?_
    refine lv_iconst (v := 3) hx hb d_law_575 (by decide) ?_
    refine lv_iaddN (a := (6 * n)) (b := 3) hx hb rfl d_law_576 ?_
    refine va_sld hx hb hX hbl hbA hC.2.2.1 (i := nI ((6 * n) + 3)) (vp_in_nI (by omega) (by omega)) d_law_577 ?_
    rw [nI_clamp (by omega)]
    refine lv_if_eq (tgt := 585) hx hb d_law_578 (by decide) (fun c578 => ?_) (fun c578 => ?_)
    · skip
      refine lv_iconst (v := 0) hx hb d_law_585 (by decide) ?_
      refine lv_aload_n hx hb d_law_586 rfl (lv_at hl 2 rfl) ?_
      refine lv_iload hx hb d_law_587 (lv_at hl 1 rfl) ?_
      refine lv_iconst (v := 4) hx hb d_law_589 (by decide) ?_
      refine lv_iaddN (a := (6 * n)) (b := 4) hx hb rfl d_law_590 ?_
      refine va_sld hx hb hX hbl hbA hC.2.2.1 (i := nI ((6 * n) + 4)) (vp_in_nI (by omega) (by omega)) d_law_591 ?_
      rw [nI_clamp (by omega)]
      refine lv_aload_n hx hb d_law_592 rfl (lv_at hl 2 rfl) ?_
      refine lv_iload hx hb d_law_593 (lv_at hl 1 rfl) ?_
      refine lv_iconst (v := 5) hx hb d_law_595 (by decide) ?_
      refine lv_iaddN (a := (6 * n)) (b := 5) hx hb rfl d_law_596 ?_
      refine va_sld hx hb hX hbl hbA hC.2.2.1 (i := nI ((6 * n) + 5)) (vp_in_nI (by omega) (by omega)) d_law_597 ?_
      rw [nI_clamp (by omega)]
      refine t_call (t_invV (As := [.int (xs ((6 * n) + 1)), .int (xs ((6 * n) + 2)), .int 0, .int (xs ((6 * n) + 4)), .int (xs ((6 * n) + 5))]) (rest := []) hx hb hown (hts _ w_762) (hts _ w_763) (hts _ w_764) (hts _ w_765) ⟨by decide, by decide⟩ (lw2_J hw hC) rfl d_law_598) (r_rule hn5 hw hok (Or.inl rfl) hoR) zz_c tb_good hts w_7 hC (hl.1.trans hml.symm) ⟨by show _ ≤ _; first | exact Nat.le_of_ble_eq_true rfl | (dsimp only [room_1]; omega), by show _ ≤ _; first | exact Nat.le_of_ble_eq_true rfl | (dsimp only [room_1]; omega), by show _ ≤ _; first | exact Nat.le_of_ble_eq_true rfl | (dsimp only [room_1]; omega), by show _ ≤ _; first | exact Nat.le_of_ble_eq_true rfl | (dsimp only [room_1]; omega)⟩ (Nat.le_of_ble_eq_true rfl) (fun E q ce w1 H1 l1 hp => hp.elim) (fun v w1 H locs hp hC => ?_)
      obtain ⟨rfl, hw⟩ := hp
      refine W.eq (g2 := F0 m 601 ls []) rfl ?_
      refine lv_aload_n hx hb d_law_601 rfl (lv_at hl 4 rfl) ?_
      refine t_call (t_invV (As := []) (rest := []) hx hb hown (hts _ w_708) (hts _ w_709) (hts _ w_710) (hts _ w_711) ⟨by decide, by decide⟩ (lw2_J hw hC) rfl d_law_602) (r_thrown hw) zz_c tb_good hts w_7 hC (hl.1.trans hml.symm) ⟨by show _ ≤ _; first | exact Nat.le_of_ble_eq_true rfl | (dsimp only [room_1]; omega), by show _ ≤ _; first | exact Nat.le_of_ble_eq_true rfl | (dsimp only [room_1]; omega), by show _ ≤ _; first | exact Nat.le_of_ble_eq_true rfl | (dsimp only [room_1]; omega), by show _ ≤ _; first | exact Nat.le_of_ble_eq_true rfl | (dsimp only [room_1]; omega)⟩ (Nat.le_of_ble_eq_true rfl) (fun E q ce w1 H1 l1 hp => hp.elim) (fun v w1 H locs hp hC => ?_)
      obtain ⟨rfl, hw⟩ := hp
      refine W.eq (g2 := F0 m 605 ls [.int ((o_rule day (xs ((6 * n) + 1)) (xs ((6 * n) + 2)) (xs ((6 * n) + 4)) (xs ((6 * n) + 5)) S).1)]) rfl ?_
      refine lv_iload hx hb d_law_605 (lv_at hl 0 rfl) ?_
      refine lv_icmp_eq (tgt := 612) hx hb d_law_607 (by decide) (fun c607 => ?_) (fun c607 => ?_)
      · skip
        refine lv_goto (tgt := 1120) hx hb d_law_612 (by decide) ?_
        refine t_more (c2 := cells + 81) (s2 := slots + 2926) (by first | exact Nat.le_of_ble_eq_true rfl | omega | (dsimp only; omega)) (by first | exact Nat.le_of_ble_eq_true rfl | omega | (dsimp only; omega)) ?_
        exact kk _ (n_rule (xs ((6 * n) + 1)) (xs ((6 * n) + 2)) 0 (xs ((6 * n) + 4)) (xs ((6 * n) + 5)) Rs) (day) (o_rule day (xs ((6 * n) + 1)) (xs ((6 * n) + 2)) (xs ((6 * n) + 4)) (xs ((6 * n) + 5)) S).2.2 _ _ H locs ls (ok_rule hok) (okR_rule (Or.inl rfl) hoR) (okD_up hoD) hw hC (lv_sub hl [1, 2, 3, 4, 5] rfl)
      · exact absurd rfl c607
    · exact absurd c534 c578
  · skip
    refine lv_iconst (v := 1) hx hb d_law_537 (by decide) ?_
    refine lv_goto (tgt := 542) hx hb d_law_538 (by decide) ?_
    refine lv_aload_n hx hb d_law_542 rfl (lv_at hl 1 rfl) ?_
    refine lv_iload hx hb d_law_543 (lv_at hl 0 rfl) ?_
    refine lv_iconst (v := 4) hx hb d_law_545 (by decide) ?_
    refine lv_iaddN (a := (6 * n)) (b := 4) hx hb rfl d_law_546 ?_
    refine va_sld hx hb hX hbl hbA hC.2.2.1 (i := nI ((6 * n) + 4)) (vp_in_nI (by omega) (by omega)) d_law_547 ?_
    rw [nI_clamp (by omega)]
    refine lv_aload_n hx hb d_law_548 rfl (lv_at hl 1 rfl) ?_
    refine lv_iload hx hb d_law_549 (lv_at hl 0 rfl) ?_
    refine lv_iconst (v := 5) hx hb d_law_551 (by decide) ?_
    refine lv_iaddN (a := (6 * n)) (b := 5) hx hb rfl d_law_552 ?_
    refine va_sld hx hb hX hbl hbA hC.2.2.1 (i := nI ((6 * n) + 5)) (vp_in_nI (by omega) (by omega)) d_law_553 ?_
    rw [nI_clamp (by omega)]
    refine t_call (t_invSW (As := [.ref (K 0), .int (xs ((6 * n) + 1)), .int (xs ((6 * n) + 2)), .int 1, .int (xs ((6 * n) + 4)), .int (xs ((6 * n) + 5))]) (rest := []) hx hb hown (hts _ w_475) (hts _ w_476) (hts _ w_0) (hts _ w_477) ⟨by decide, by decide⟩ rfl d_law_554) (l_rule hst hn5 hw hok (Or.inr rfl) hoR hRL hRn) zz_c tb_good hts w_0 hC (hl.1.trans hml.symm) ⟨by show _ ≤ _; first | exact Nat.le_of_ble_eq_true rfl | (dsimp only [room_1]; omega), by show _ ≤ _; first | exact Nat.le_of_ble_eq_true rfl | (dsimp only [room_1]; omega), by show _ ≤ _; first | exact Nat.le_of_ble_eq_true rfl | (dsimp only [room_1]; omega), by show _ ≤ _; first | exact Nat.le_of_ble_eq_true rfl | (dsimp only [room_1]; omega)⟩ (Nat.le_of_ble_eq_true rfl) (fun E q ce w1 H1 l1 hp => hp.elim) (fun v w1 H locs hp hC => ?_)
    obtain ⟨rfl, g2, hg2, hw⟩ := hp
    refine W.eq (g2 := F0 m 557 ls [.int ((o_rule day (xs ((6 * n) + 1)) (xs ((6 * n) + 2)) (xs ((6 * n) + 4)) (xs ((6 * n) + 5)) S).1)]) rfl ?_
    refine lv_istore (lv' := [(5, .int ((o_rule day (xs ((6 * n) + 1)) (xs ((6 * n) + 2)) (xs ((6 * n) + 4)) (xs ((6 * n) + 5)) S).1)), (4, .int (nI (6 * n))), (0, .ref b), (1, .ref (K 0)), (2, .ref (J 0)), (3, .ref ao)]) hx hb d_law_557 hl (by decide) rfl (fun ls hl => ?_)
    refine lv_aload_n hx hb d_law_559 rfl (lv_at hl 4 rfl) ?_
    refine lv_aload_n hx hb d_law_560 rfl (lv_at hl 2 rfl) ?_
    refine lv_iload hx hb d_law_561 (lv_at hl 1 rfl) ?_
    refine lv_iconst (v := 1) hx hb d_law_563 (by decide) ?_
    refine lv_iaddN (a := (6 * n)) (b := 1) hx hb rfl d_law_564 ?_
    refine va_sld hx hb hX hbl hbA hC.2.2.1 (i := nI ((6 * n) + 1)) (vp_in_nI (by omega) (by omega)) d_law_565 ?_
    rw [nI_clamp (by omega)]
    refine lv_aload_n hx hb d_law_566 rfl (lv_at hl 2 rfl) ?_
    refine lv_iload hx hb d_law_567 (lv_at hl 1 rfl) ?_
    refine lv_iconst (v := 2) hx hb d_law_569 (by decide) ?_
    refine lv_iaddN (a := (6 * n)) (b := 2) hx hb rfl d_law_570 ?_
    refine va_sld hx hb hX hbl hbA hC.2.2.1 (i := nI ((6 * n) + 2)) (vp_in_nI (by omega) (by omega)) d_law_571 ?_
    rw [nI_clamp (by omega)]
    refine lv_aload_n hx hb d_law_572 rfl (lv_at hl 2 rfl) ?_
    refine lv_iload hx hb d_law_573 (lv_at hl 1 rfl) ?_
    refine lv_iconst (v := 3) hx hb d_law_575 (by decide) ?_
    refine lv_iaddN (a := (6 * n)) (b := 3) hx hb rfl d_law_576 ?_
    refine va_sld hx hb hX hbl hbA hC.2.2.1 (i := nI ((6 * n) + 3)) (vp_in_nI (by omega) (by omega)) d_law_577 ?_
    rw [nI_clamp (by omega)]
    refine lv_if_eq (tgt := 585) hx hb d_law_578 (by decide) (fun c578 => ?_) (fun c578 => ?_)
    · exact absurd c578 c534
    · skip
      refine lv_iconst (v := 1) hx hb d_law_581 (by decide) ?_
      refine lv_goto (tgt := 586) hx hb d_law_582 (by decide) ?_
      refine lv_aload_n hx hb d_law_586 rfl (lv_at hl 2 rfl) ?_
      refine lv_iload hx hb d_law_587 (lv_at hl 1 rfl) ?_
      refine lv_iconst (v := 4) hx hb d_law_589 (by decide) ?_
      refine lv_iaddN (a := (6 * n)) (b := 4) hx hb rfl d_law_590 ?_
      refine va_sld hx hb hX hbl hbA hC.2.2.1 (i := nI ((6 * n) + 4)) (vp_in_nI (by omega) (by omega)) d_law_591 ?_
      rw [nI_clamp (by omega)]
      refine lv_aload_n hx hb d_law_592 rfl (lv_at hl 2 rfl) ?_
      refine lv_iload hx hb d_law_593 (lv_at hl 1 rfl) ?_
      refine lv_iconst (v := 5) hx hb d_law_595 (by decide) ?_
      refine lv_iaddN (a := (6 * n)) (b := 5) hx hb rfl d_law_596 ?_
      refine va_sld hx hb hX hbl hbA hC.2.2.1 (i := nI ((6 * n) + 5)) (vp_in_nI (by omega) (by omega)) d_law_597 ?_
      rw [nI_clamp (by omega)]
      refine t_call (t_invV (As := [.int (xs ((6 * n) + 1)), .int (xs ((6 * n) + 2)), .int 1, .int (xs ((6 * n) + 4)), .int (xs ((6 * n) + 5))]) (rest := []) hx hb hown (hts _ w_762) (hts _ w_763) (hts _ w_764) (hts _ w_765) ⟨by decide, by decide⟩ (lw2_J hw hC) rfl d_law_598) (r_rule hn5 hw hok (Or.inr rfl) hoR) zz_c tb_good hts w_7 hC (hl.1.trans hml.symm) ⟨by show _ ≤ _; first | exact Nat.le_of_ble_eq_true rfl | (dsimp only [room_1]; omega), by show _ ≤ _; first | exact Nat.le_of_ble_eq_true rfl | (dsimp only [room_1]; omega), by show _ ≤ _; first | exact Nat.le_of_ble_eq_true rfl | (dsimp only [room_1]; omega), by show _ ≤ _; first | exact Nat.le_of_ble_eq_true rfl | (dsimp only [room_1]; omega)⟩ (Nat.le_of_ble_eq_true rfl) (fun E q ce w1 H1 l1 hp => hp.elim) (fun v w1 H locs hp hC => ?_)
      obtain ⟨rfl, hw⟩ := hp
      refine W.eq (g2 := F0 m 601 ls []) rfl ?_
      refine lv_aload_n hx hb d_law_601 rfl (lv_at hl 4 rfl) ?_
      refine t_call (t_invV (As := []) (rest := []) hx hb hown (hts _ w_708) (hts _ w_709) (hts _ w_710) (hts _ w_711) ⟨by decide, by decide⟩ (lw2_J hw hC) rfl d_law_602) (r_thrown hw) zz_c tb_good hts w_7 hC (hl.1.trans hml.symm) ⟨by show _ ≤ _; first | exact Nat.le_of_ble_eq_true rfl | (dsimp only [room_1]; omega), by show _ ≤ _; first | exact Nat.le_of_ble_eq_true rfl | (dsimp only [room_1]; omega), by show _ ≤ _; first | exact Nat.le_of_ble_eq_true rfl | (dsimp only [room_1]; omega), by show _ ≤ _; first | exact Nat.le_of_ble_eq_true rfl | (dsimp only [room_1]; omega)⟩ (Nat.le_of_ble_eq_true rfl) (fun E q ce w1 H1 l1 hp => hp.elim) (fun v w1 H locs hp hC => ?_)
      obtain ⟨rfl, hw⟩ := hp
      refine W.eq (g2 := F0 m 605 ls [.int ((o_rule day (xs ((6 * n) + 1)) (xs ((6 * n) + 2)) (xs ((6 * n) + 4)) (xs ((6 * n) + 5)) S).1)]) rfl ?_
      refine lv_iload hx hb d_law_605 (lv_at hl 0 rfl) ?_
      refine lv_icmp_eq (tgt := 612) hx hb d_law_607 (by decide) (fun c607 => ?_) (fun c607 => ?_)
      · skip
        refine lv_goto (tgt := 1120) hx hb d_law_612 (by decide) ?_
        refine t_more (c2 := cells + 81) (s2 := slots + 2926) (by first | exact Nat.le_of_ble_eq_true rfl | omega | (dsimp only; omega)) (by first | exact Nat.le_of_ble_eq_true rfl | omega | (dsimp only; omega)) ?_
        exact kk _ (n_rule (xs ((6 * n) + 1)) (xs ((6 * n) + 2)) 1 (xs ((6 * n) + 4)) (xs ((6 * n) + 5)) Rs) (day) (o_rule day (xs ((6 * n) + 1)) (xs ((6 * n) + 2)) (xs ((6 * n) + 4)) (xs ((6 * n) + 5)) S).2.2 _ _ H locs ls (ok_rule hok) (okR_rule (Or.inr rfl) hoR) (okD_up hoD) hw hC (lv_sub hl [1, 2, 3, 4, 5] rfl)
      · exact absurd rfl c607

set_option maxRecDepth 100000 in
set_option maxHeartbeats 4000000 in
theorem arm_unrule {p : Program} {l : Launch} {e : Env} {s : State} {m : MethodId} {below : List Frame} {meth : Method} {c : Code} {Q : State → Prop} {D : va_G} {A : Nat → Prop} {e0 K J : Nat → Nat} {ca : Nat → ClassId} {RL : List Nat} {ao b L n cells slots : Nat} {xs : Nat → Int32} (hst : l.stackTraces = false) (hx : p.tables.exec = Jvm.exec) (hb : c.code = code) (hml : c.maxLocals = 7) (hown : s.vm.findClass "RetentionVaultLaw" = some m.cls) (hts : ∀ z ∈ tb, z.before #[Value.ref b] s = true) (hX : va_X b L xs s s.heap) (hbl : b < s.heap.size) (hbA : ¬ A b) (hRL : RL.length = 6) (hRn : RL.Nodup) (hL : L ≤ 3072) (hnL : 6 * n + 6 ≤ L) (hcl : cells + 81 ≤ 601024) (hsl : slots + 2926 ≤ 7293033) (kk : lK p l e s m below meth c Q D A e0 K J ca RL ao b (n + 1) (nI (6 * n)) (cells + 81) (slots + 2926) 1120) : lK p l e s m below meth c Q D A e0 K J ca RL ao b n (nI (6 * n)) cells slots 615 := by
  intro code Rs day S g w H locs ls hok hoR hoD hw hC hl
  have hn5 : n ≤ 512 := by omega
  refine lv_aload_n hx hb d_law_615 rfl (lv_at hl 2 rfl) ?_
  refine lv_aload_n hx hb d_law_616 rfl (lv_at hl 1 rfl) ?_
  refine lv_iload hx hb d_law_617 (lv_at hl 0 rfl) ?_
  refine lv_iconst (v := 1) hx hb d_law_619 (by decide) ?_
  refine lv_iaddN (a := (6 * n)) (b := 1) hx hb rfl d_law_620 ?_
  refine va_sld hx hb hX hbl hbA hC.2.2.1 (i := nI ((6 * n) + 1)) (vp_in_nI (by omega) (by omega)) d_law_621 ?_
  rw [nI_clamp (by omega)]
  refine lv_aload_n hx hb d_law_622 rfl (lv_at hl 4 rfl) ?_
  refine t_call (t_invSW (As := [.ref (K 0), .int (xs ((6 * n) + 1)), .ref ao]) (rest := []) hx hb hown (hts _ w_486) (hts _ w_487) (hts _ w_0) (hts _ w_488) ⟨by decide, by decide⟩ rfl d_law_623) (l_unrule hst hn5 hw hok hoR hRL hRn) zz_c tb_good hts w_0 hC (hl.1.trans hml.symm) ⟨by show _ ≤ _; first | exact Nat.le_of_ble_eq_true rfl | (dsimp only [room_1]; omega), by show _ ≤ _; first | exact Nat.le_of_ble_eq_true rfl | (dsimp only [room_1]; omega), by show _ ≤ _; first | exact Nat.le_of_ble_eq_true rfl | (dsimp only [room_1]; omega), by show _ ≤ _; first | exact Nat.le_of_ble_eq_true rfl | (dsimp only [room_1]; omega)⟩ (Nat.le_of_ble_eq_true rfl) (fun E q ce w1 H1 l1 hp => hp.elim) (fun v w1 H locs hp hC => ?_)
  obtain ⟨rfl, g2, hg2, hw⟩ := hp
  refine W.eq (g2 := F0 m 626 ls [.int ((o_unrule day (xs ((6 * n) + 1)) Rs S).1)]) rfl ?_
  refine lv_istore (lv' := [(5, .int ((o_unrule day (xs ((6 * n) + 1)) Rs S).1)), (4, .int (nI (6 * n))), (0, .ref b), (1, .ref (K 0)), (2, .ref (J 0)), (3, .ref ao)]) hx hb d_law_626 hl (by decide) rfl (fun ls hl => ?_)
  refine lv_aload_n hx hb d_law_628 rfl (lv_at hl 4 rfl) ?_
  refine lv_aload_n hx hb d_law_629 rfl (lv_at hl 2 rfl) ?_
  refine lv_iload hx hb d_law_630 (lv_at hl 1 rfl) ?_
  refine lv_iconst (v := 1) hx hb d_law_632 (by decide) ?_
  refine lv_iaddN (a := (6 * n)) (b := 1) hx hb rfl d_law_633 ?_
  refine va_sld hx hb hX hbl hbA hC.2.2.1 (i := nI ((6 * n) + 1)) (vp_in_nI (by omega) (by omega)) d_law_634 ?_
  rw [nI_clamp (by omega)]
  refine t_call (t_invV (As := [.int (xs ((6 * n) + 1))]) (rest := []) hx hb hown (hts _ w_766) (hts _ w_767) (hts _ w_768) (hts _ w_769) ⟨by decide, by decide⟩ (lw2_J hw hC) rfl d_law_635) (r_unrule hn5 hw hok hoR) zz_c tb_good hts w_7 hC (hl.1.trans hml.symm) ⟨by show _ ≤ _; first | exact Nat.le_of_ble_eq_true rfl | (dsimp only [room_1]; omega), by show _ ≤ _; first | exact Nat.le_of_ble_eq_true rfl | (dsimp only [room_1]; omega), by show _ ≤ _; first | exact Nat.le_of_ble_eq_true rfl | (dsimp only [room_1]; omega), by show _ ≤ _; first | exact Nat.le_of_ble_eq_true rfl | (dsimp only [room_1]; omega)⟩ (Nat.le_of_ble_eq_true rfl) (fun E q ce w1 H1 l1 hp => hp.elim) (fun v w1 H locs hp hC => ?_)
  obtain ⟨⟨b2, rfl, hb2⟩, hw⟩ := hp
  refine W.eq (g2 := F0 m 638 ls [.int b2]) rfl ?_
  refine lv_istore (lv' := [(6, .int b2), (5, .int ((o_unrule day (xs ((6 * n) + 1)) Rs S).1)), (4, .int (nI (6 * n))), (0, .ref b), (1, .ref (K 0)), (2, .ref (J 0)), (3, .ref ao)]) hx hb d_law_638 hl (by decide) rfl (fun ls hl => ?_)
  refine lv_aload_n hx hb d_law_640 rfl (lv_at hl 5 rfl) ?_
  refine t_call (t_invV (As := []) (rest := []) hx hb hown (hts _ w_708) (hts _ w_709) (hts _ w_710) (hts _ w_711) ⟨by decide, by decide⟩ (lw2_J hw hC) rfl d_law_641) (r_thrown hw) zz_c tb_good hts w_7 hC (hl.1.trans hml.symm) ⟨by show _ ≤ _; first | exact Nat.le_of_ble_eq_true rfl | (dsimp only [room_1]; omega), by show _ ≤ _; first | exact Nat.le_of_ble_eq_true rfl | (dsimp only [room_1]; omega), by show _ ≤ _; first | exact Nat.le_of_ble_eq_true rfl | (dsimp only [room_1]; omega), by show _ ≤ _; first | exact Nat.le_of_ble_eq_true rfl | (dsimp only [room_1]; omega)⟩ (Nat.le_of_ble_eq_true rfl) (fun E q ce w1 H1 l1 hp => hp.elim) (fun v w1 H locs hp hC => ?_)
  obtain ⟨rfl, hw⟩ := hp
  refine W.eq (g2 := F0 m 644 ls [.int ((o_unrule day (xs ((6 * n) + 1)) Rs S).1)]) rfl ?_
  refine lv_iload hx hb d_law_644 (lv_at hl 1 rfl) ?_
  refine lv_icmp_eq (tgt := 651) hx hb d_law_646 (by decide) (fun c646 => ?_) (fun c646 => ?_)
  · skip
    refine lv_iload hx hb d_law_651 (lv_at hl 1 rfl) ?_
    refine lv_if_ne (tgt := 675) hx hb d_law_653 (by decide) (fun c653 => ?_) (fun c653 => ?_)
    · skip
      refine lv_goto (tgt := 1120) hx hb d_law_675 (by decide) ?_
      refine t_more (c2 := cells + 81) (s2 := slots + 2926) (by first | exact Nat.le_of_ble_eq_true rfl | omega | (dsimp only; omega)) (by first | exact Nat.le_of_ble_eq_true rfl | omega | (dsimp only; omega)) ?_
      exact kk _ (n_unrule (xs ((6 * n) + 1)) Rs) (day) (o_unrule day (xs ((6 * n) + 1)) Rs S).2.2 _ _ H locs ls (ok_unrule hok) (okR_unrule hoR) (okD_up hoD) hw hC (lv_sub hl [2, 3, 4, 5, 6] rfl)
    · skip
      refine lv_aload_n hx hb d_law_656 rfl (lv_at hl 6 rfl) ?_
      refine lv_iconst (v := 0) hx hb d_law_657 (by decide) ?_
      obtain ⟨w3, M3, U3, hcw3, hmA3, huA3, rfl⟩ := hw
      refine t_lald hx hb hC 0 2 rfl rfl (show vp_in (0 : Int32) 1 from vp_in_nI (n := 0) (by decide) (by decide)) d_law_658 ?_
      rw [show (0 : Int32).toNatClampNeg = 0 by decide +kernel]
      refine lv_iload hx hb d_law_659 (lv_at hl 0 rfl) ?_
      refine lv_if_eq (tgt := 668) hx hb d_law_661 (by decide) (fun c661 => ?_) (fun c661 => ?_)
      · skip
        refine lv_lconst (v := 0) hx hb d_law_668 (by decide) ?_
        refine lv_lcmp_eq hx hb ((hg2 c653).trans (by rw [← hb2 c653, c661]; rfl)) d_law_669 ?_
        refine lv_if_eq (tgt := 675) hx hb d_law_670 (by decide) (fun c670 => ?_) (fun c670 => ?_)
        · skip
          refine lv_goto (tgt := 1120) hx hb d_law_675 (by decide) ?_
          refine t_more (c2 := cells + 81) (s2 := slots + 2926) (by first | exact Nat.le_of_ble_eq_true rfl | omega | (dsimp only; omega)) (by first | exact Nat.le_of_ble_eq_true rfl | omega | (dsimp only; omega)) ?_
          exact kk _ (n_unrule (xs ((6 * n) + 1)) Rs) (day) (o_unrule day (xs ((6 * n) + 1)) Rs S).2.2 _ _ H locs ls (ok_unrule hok) (okR_unrule hoR) (okD_up hoD) ⟨w3, M3, U3, hcw3, hmA3, huA3, rfl⟩ hC (lv_sub hl [2, 3, 4, 5, 6] rfl)
        · first | exact absurd c670 (by decide) | exact absurd (by decide) c670
      · skip
        refine lv_lconst (v := 1) hx hb d_law_664 (by decide) ?_
        refine lv_goto (tgt := 669) hx hb d_law_665 (by decide) ?_
        refine lv_lcmp_eq hx hb ((hg2 c653).trans (by rw [o_unrule_01.resolve_left (fun q => c661 ((hb2 c653).trans q))]; rfl)) d_law_669 ?_
        refine lv_if_eq (tgt := 675) hx hb d_law_670 (by decide) (fun c670 => ?_) (fun c670 => ?_)
        · skip
          refine lv_goto (tgt := 1120) hx hb d_law_675 (by decide) ?_
          refine t_more (c2 := cells + 81) (s2 := slots + 2926) (by first | exact Nat.le_of_ble_eq_true rfl | omega | (dsimp only; omega)) (by first | exact Nat.le_of_ble_eq_true rfl | omega | (dsimp only; omega)) ?_
          exact kk _ (n_unrule (xs ((6 * n) + 1)) Rs) (day) (o_unrule day (xs ((6 * n) + 1)) Rs S).2.2 _ _ H locs ls (ok_unrule hok) (okR_unrule hoR) (okD_up hoD) ⟨w3, M3, U3, hcw3, hmA3, huA3, rfl⟩ hC (lv_sub hl [2, 3, 4, 5, 6] rfl)
        · first | exact absurd c670 (by decide) | exact absurd (by decide) c670
  · exact absurd rfl c646

set_option maxRecDepth 100000 in
set_option maxHeartbeats 4000000 in
theorem arm_fetch {p : Program} {l : Launch} {e : Env} {s : State} {m : MethodId} {below : List Frame} {meth : Method} {c : Code} {Q : State → Prop} {D : va_G} {A : Nat → Prop} {e0 K J : Nat → Nat} {ca : Nat → ClassId} {RL : List Nat} {ao b L n cells slots : Nat} {xs : Nat → Int32} (hst : l.stackTraces = false) (hx : p.tables.exec = Jvm.exec) (hb : c.code = code) (hml : c.maxLocals = 7) (hown : s.vm.findClass "RetentionVaultLaw" = some m.cls) (hts : ∀ z ∈ tb, z.before #[Value.ref b] s = true) (hX : va_X b L xs s s.heap) (hbl : b < s.heap.size) (hbA : ¬ A b) (hRL : RL.length = 6) (hRn : RL.Nodup) (hL : L ≤ 3072) (hnL : 6 * n + 6 ≤ L) (hcl : cells + 81 ≤ 601024) (hsl : slots + 2926 ≤ 7293033) (kk : lK p l e s m below meth c Q D A e0 K J ca RL ao b (n + 1) (nI (6 * n)) (cells + 81) (slots + 2926) 1120) : lK p l e s m below meth c Q D A e0 K J ca RL ao b n (nI (6 * n)) cells slots 678 := by
  intro code Rs day S g w H locs ls hok hoR hoD hw hC hl
  have hn5 : n ≤ 512 := by omega
  refine lv_aload_n hx hb d_law_678 rfl (lv_at hl 2 rfl) ?_
  refine lv_aload_n hx hb d_law_679 rfl (lv_at hl 1 rfl) ?_
  refine lv_iload hx hb d_law_680 (lv_at hl 0 rfl) ?_
  refine lv_iconst (v := 1) hx hb d_law_682 (by decide) ?_
  refine lv_iaddN (a := (6 * n)) (b := 1) hx hb rfl d_law_683 ?_
  refine va_sld hx hb hX hbl hbA hC.2.2.1 (i := nI ((6 * n) + 1)) (vp_in_nI (by omega) (by omega)) d_law_684 ?_
  rw [nI_clamp (by omega)]
  refine lv_aload_n hx hb d_law_685 rfl (lv_at hl 1 rfl) ?_
  refine lv_iload hx hb d_law_686 (lv_at hl 0 rfl) ?_
  refine lv_iconst (v := 2) hx hb d_law_688 (by decide) ?_
  refine lv_iaddN (a := (6 * n)) (b := 2) hx hb rfl d_law_689 ?_
  refine va_sld hx hb hX hbl hbA hC.2.2.1 (i := nI ((6 * n) + 2)) (vp_in_nI (by omega) (by omega)) d_law_690 ?_
  rw [nI_clamp (by omega)]
  refine lv_aload_n hx hb d_law_691 rfl (lv_at hl 4 rfl) ?_
  refine t_call (t_invSW (As := [.ref (K 0), .int (xs ((6 * n) + 1)), .int (xs ((6 * n) + 2)), .ref ao]) (rest := []) hx hb hown (hts _ w_497) (hts _ w_498) (hts _ w_0) (hts _ w_499) ⟨by decide, by decide⟩ rfl d_law_692) (l_fetch hst hn5 hw hok) zz_c tb_good hts w_0 hC (hl.1.trans hml.symm) ⟨by show _ ≤ _; first | exact Nat.le_of_ble_eq_true rfl | (dsimp only [room_1]; omega), by show _ ≤ _; first | exact Nat.le_of_ble_eq_true rfl | (dsimp only [room_1]; omega), by show _ ≤ _; first | exact Nat.le_of_ble_eq_true rfl | (dsimp only [room_1]; omega), by show _ ≤ _; first | exact Nat.le_of_ble_eq_true rfl | (dsimp only [room_1]; omega)⟩ (Nat.le_of_ble_eq_true rfl) (fun E q ce w1 H1 l1 hp => hp.elim) (fun v w1 H locs hp hC => ?_)
  obtain ⟨rfl, g2, hg2, hw⟩ := hp
  refine W.eq (g2 := F0 m 695 ls [.int ((o_fetch day (xs ((6 * n) + 1)) (xs ((6 * n) + 2)) S).1)]) rfl ?_
  refine lv_istore (lv' := [(5, .int ((o_fetch day (xs ((6 * n) + 1)) (xs ((6 * n) + 2)) S).1)), (4, .int (nI (6 * n))), (0, .ref b), (1, .ref (K 0)), (2, .ref (J 0)), (3, .ref ao)]) hx hb d_law_695 hl (by decide) rfl (fun ls hl => ?_)
  refine lv_aload_n hx hb d_law_697 rfl (lv_at hl 4 rfl) ?_
  refine lv_aload_n hx hb d_law_698 rfl (lv_at hl 2 rfl) ?_
  refine lv_iload hx hb d_law_699 (lv_at hl 1 rfl) ?_
  refine lv_iconst (v := 1) hx hb d_law_701 (by decide) ?_
  refine lv_iaddN (a := (6 * n)) (b := 1) hx hb rfl d_law_702 ?_
  refine va_sld hx hb hX hbl hbA hC.2.2.1 (i := nI ((6 * n) + 1)) (vp_in_nI (by omega) (by omega)) d_law_703 ?_
  rw [nI_clamp (by omega)]
  refine lv_aload_n hx hb d_law_704 rfl (lv_at hl 2 rfl) ?_
  refine lv_iload hx hb d_law_705 (lv_at hl 1 rfl) ?_
  refine lv_iconst (v := 2) hx hb d_law_707 (by decide) ?_
  refine lv_iaddN (a := (6 * n)) (b := 2) hx hb rfl d_law_708 ?_
  refine va_sld hx hb hX hbl hbA hC.2.2.1 (i := nI ((6 * n) + 2)) (vp_in_nI (by omega) (by omega)) d_law_709 ?_
  rw [nI_clamp (by omega)]
  refine t_call (t_invV (As := [.int (xs ((6 * n) + 1)), .int (xs ((6 * n) + 2))]) (rest := []) hx hb hown (hts _ w_802) (hts _ w_803) (hts _ w_804) (hts _ w_805) ⟨by decide, by decide⟩ (lw2_J hw hC) rfl d_law_710) (r_fetch hn5 hw hok) zz_c tb_good hts w_7 hC (hl.1.trans hml.symm) ⟨by show _ ≤ _; first | exact Nat.le_of_ble_eq_true rfl | (dsimp only [room_1]; omega), by show _ ≤ _; first | exact Nat.le_of_ble_eq_true rfl | (dsimp only [room_1]; omega), by show _ ≤ _; first | exact Nat.le_of_ble_eq_true rfl | (dsimp only [room_1]; omega), by show _ ≤ _; first | exact Nat.le_of_ble_eq_true rfl | (dsimp only [room_1]; omega)⟩ (Nat.le_of_ble_eq_true rfl) (fun E q ce w1 H1 l1 hp => hp.elim) (fun v w1 H locs hp hC => ?_)
  obtain ⟨⟨b2, rfl, hb2⟩, hw⟩ := hp
  refine W.eq (g2 := F0 m 713 ls [.int b2]) rfl ?_
  refine lv_istore (lv' := [(6, .int b2), (5, .int ((o_fetch day (xs ((6 * n) + 1)) (xs ((6 * n) + 2)) S).1)), (4, .int (nI (6 * n))), (0, .ref b), (1, .ref (K 0)), (2, .ref (J 0)), (3, .ref ao)]) hx hb d_law_713 hl (by decide) rfl (fun ls hl => ?_)
  refine lv_aload_n hx hb d_law_715 rfl (lv_at hl 5 rfl) ?_
  refine t_call (t_invV (As := []) (rest := []) hx hb hown (hts _ w_708) (hts _ w_709) (hts _ w_710) (hts _ w_711) ⟨by decide, by decide⟩ (lw2_J hw hC) rfl d_law_716) (r_thrown hw) zz_c tb_good hts w_7 hC (hl.1.trans hml.symm) ⟨by show _ ≤ _; first | exact Nat.le_of_ble_eq_true rfl | (dsimp only [room_1]; omega), by show _ ≤ _; first | exact Nat.le_of_ble_eq_true rfl | (dsimp only [room_1]; omega), by show _ ≤ _; first | exact Nat.le_of_ble_eq_true rfl | (dsimp only [room_1]; omega), by show _ ≤ _; first | exact Nat.le_of_ble_eq_true rfl | (dsimp only [room_1]; omega)⟩ (Nat.le_of_ble_eq_true rfl) (fun E q ce w1 H1 l1 hp => hp.elim) (fun v w1 H locs hp hC => ?_)
  obtain ⟨rfl, hw⟩ := hp
  refine W.eq (g2 := F0 m 719 ls [.int ((o_fetch day (xs ((6 * n) + 1)) (xs ((6 * n) + 2)) S).1)]) rfl ?_
  refine lv_iload hx hb d_law_719 (lv_at hl 1 rfl) ?_
  refine lv_icmp_eq (tgt := 726) hx hb d_law_721 (by decide) (fun c721 => ?_) (fun c721 => ?_)
  · skip
    refine lv_iload hx hb d_law_726 (lv_at hl 1 rfl) ?_
    refine lv_if_ne (tgt := 743) hx hb d_law_728 (by decide) (fun c728 => ?_) (fun c728 => ?_)
    · skip
      refine lv_goto (tgt := 1120) hx hb d_law_743 (by decide) ?_
      refine t_more (c2 := cells + 81) (s2 := slots + 2926) (by first | exact Nat.le_of_ble_eq_true rfl | omega | (dsimp only; omega)) (by first | exact Nat.le_of_ble_eq_true rfl | omega | (dsimp only; omega)) ?_
      exact kk _ (Rs) (day) (o_fetch day (xs ((6 * n) + 1)) (xs ((6 * n) + 2)) S).2.2 _ _ H locs ls (ok_fetch hok) hoR (okD_up hoD) hw hC (lv_sub hl [2, 3, 4, 5, 6] rfl)
    · skip
      refine lv_aload_n hx hb d_law_731 rfl (lv_at hl 6 rfl) ?_
      refine lv_iconst (v := 0) hx hb d_law_732 (by decide) ?_
      obtain ⟨w3, M3, U3, hcw3, hmA3, huA3, rfl⟩ := hw
      refine t_lald hx hb hC 0 2 rfl rfl (show vp_in (0 : Int32) 1 from vp_in_nI (n := 0) (by decide) (by decide)) d_law_733 ?_
      rw [show (0 : Int32).toNatClampNeg = 0 by decide +kernel]
      refine lv_iload hx hb d_law_734 (lv_at hl 0 rfl) ?_
      refine lv_i2l (v := b2.toInt64) hx hb d_law_736 rfl ?_
      refine lv_lcmp_eq hx hb ((hg2 c728).trans (by rw [hb2 c728])) d_law_737 ?_
      refine lv_if_eq (tgt := 743) hx hb d_law_738 (by decide) (fun c738 => ?_) (fun c738 => ?_)
      · skip
        refine lv_goto (tgt := 1120) hx hb d_law_743 (by decide) ?_
        refine t_more (c2 := cells + 81) (s2 := slots + 2926) (by first | exact Nat.le_of_ble_eq_true rfl | omega | (dsimp only; omega)) (by first | exact Nat.le_of_ble_eq_true rfl | omega | (dsimp only; omega)) ?_
        exact kk _ (Rs) (day) (o_fetch day (xs ((6 * n) + 1)) (xs ((6 * n) + 2)) S).2.2 _ _ H locs ls (ok_fetch hok) hoR (okD_up hoD) ⟨w3, M3, U3, hcw3, hmA3, huA3, rfl⟩ hC (lv_sub hl [2, 3, 4, 5, 6] rfl)
      · first | exact absurd c738 (by decide) | exact absurd (by decide) c738
  · exact absurd rfl c721

set_option maxRecDepth 100000 in
set_option maxHeartbeats 4000000 in
theorem arm_read {p : Program} {l : Launch} {e : Env} {s : State} {m : MethodId} {below : List Frame} {meth : Method} {c : Code} {Q : State → Prop} {D : va_G} {A : Nat → Prop} {e0 K J : Nat → Nat} {ca : Nat → ClassId} {RL : List Nat} {ao b L n cells slots : Nat} {xs : Nat → Int32} (hst : l.stackTraces = false) (hx : p.tables.exec = Jvm.exec) (hb : c.code = code) (hml : c.maxLocals = 7) (hown : s.vm.findClass "RetentionVaultLaw" = some m.cls) (hts : ∀ z ∈ tb, z.before #[Value.ref b] s = true) (hX : va_X b L xs s s.heap) (hbl : b < s.heap.size) (hbA : ¬ A b) (hRL : RL.length = 6) (hRn : RL.Nodup) (hL : L ≤ 3072) (hnL : 6 * n + 6 ≤ L) (hcl : cells + 81 ≤ 601024) (hsl : slots + 2926 ≤ 7293033) (kk : lK p l e s m below meth c Q D A e0 K J ca RL ao b (n + 1) (nI (6 * n)) (cells + 81) (slots + 2926) 1120) : lK p l e s m below meth c Q D A e0 K J ca RL ao b n (nI (6 * n)) cells slots 746 := by
  intro code Rs day S g w H locs ls hok hoR hoD hw hC hl
  have hn5 : n ≤ 512 := by omega
  refine lv_aload_n hx hb d_law_746 rfl (lv_at hl 2 rfl) ?_
  refine lv_aload_n hx hb d_law_747 rfl (lv_at hl 1 rfl) ?_
  refine lv_iload hx hb d_law_748 (lv_at hl 0 rfl) ?_
  refine lv_iconst (v := 1) hx hb d_law_750 (by decide) ?_
  refine lv_iaddN (a := (6 * n)) (b := 1) hx hb rfl d_law_751 ?_
  refine va_sld hx hb hX hbl hbA hC.2.2.1 (i := nI ((6 * n) + 1)) (vp_in_nI (by omega) (by omega)) d_law_752 ?_
  rw [nI_clamp (by omega)]
  refine lv_aload_n hx hb d_law_753 rfl (lv_at hl 4 rfl) ?_
  refine t_call (t_invSW (As := [.ref (K 0), .int (xs ((6 * n) + 1)), .ref ao]) (rest := []) hx hb hown (hts _ w_509) (hts _ w_510) (hts _ w_0) (hts _ w_511) ⟨by decide, by decide⟩ rfl d_law_754) (l_read hst hn5 hw hok) zz_c tb_good hts w_0 hC (hl.1.trans hml.symm) ⟨by show _ ≤ _; first | exact Nat.le_of_ble_eq_true rfl | (dsimp only [room_1]; omega), by show _ ≤ _; first | exact Nat.le_of_ble_eq_true rfl | (dsimp only [room_1]; omega), by show _ ≤ _; first | exact Nat.le_of_ble_eq_true rfl | (dsimp only [room_1]; omega), by show _ ≤ _; first | exact Nat.le_of_ble_eq_true rfl | (dsimp only [room_1]; omega)⟩ (Nat.le_of_ble_eq_true rfl) (fun E q ce w1 H1 l1 hp => hp.elim) (fun v w1 H locs hp hC => ?_)
  obtain ⟨rfl, g2, hg2, hw⟩ := hp
  refine W.eq (g2 := F0 m 757 ls [.int ((o_read day (xs ((6 * n) + 1)) S).1)]) rfl ?_
  refine lv_istore (lv' := [(5, .int ((o_read day (xs ((6 * n) + 1)) S).1)), (4, .int (nI (6 * n))), (0, .ref b), (1, .ref (K 0)), (2, .ref (J 0)), (3, .ref ao)]) hx hb d_law_757 hl (by decide) rfl (fun ls hl => ?_)
  refine lv_aload_n hx hb d_law_759 rfl (lv_at hl 4 rfl) ?_
  refine lv_aload_n hx hb d_law_760 rfl (lv_at hl 2 rfl) ?_
  refine lv_iload hx hb d_law_761 (lv_at hl 1 rfl) ?_
  refine lv_iconst (v := 1) hx hb d_law_763 (by decide) ?_
  refine lv_iaddN (a := (6 * n)) (b := 1) hx hb rfl d_law_764 ?_
  refine va_sld hx hb hX hbl hbA hC.2.2.1 (i := nI ((6 * n) + 1)) (vp_in_nI (by omega) (by omega)) d_law_765 ?_
  rw [nI_clamp (by omega)]
  refine t_call (t_invV (As := [.int (xs ((6 * n) + 1))]) (rest := []) hx hb hown (hts _ w_806) (hts _ w_807) (hts _ w_808) (hts _ w_809) ⟨by decide, by decide⟩ (lw2_J hw hC) rfl d_law_766) (r_read hn5 hw hok) zz_c tb_good hts w_7 hC (hl.1.trans hml.symm) ⟨by show _ ≤ _; first | exact Nat.le_of_ble_eq_true rfl | (dsimp only [room_1]; omega), by show _ ≤ _; first | exact Nat.le_of_ble_eq_true rfl | (dsimp only [room_1]; omega), by show _ ≤ _; first | exact Nat.le_of_ble_eq_true rfl | (dsimp only [room_1]; omega), by show _ ≤ _; first | exact Nat.le_of_ble_eq_true rfl | (dsimp only [room_1]; omega)⟩ (Nat.le_of_ble_eq_true rfl) (fun E q ce w1 H1 l1 hp => hp.elim) (fun v w1 H locs hp hC => ?_)
  obtain ⟨⟨b2, rfl, hb2⟩, hw⟩ := hp
  refine W.eq (g2 := F0 m 769 ls [.int b2]) rfl ?_
  refine lv_istore (lv' := [(6, .int b2), (5, .int ((o_read day (xs ((6 * n) + 1)) S).1)), (4, .int (nI (6 * n))), (0, .ref b), (1, .ref (K 0)), (2, .ref (J 0)), (3, .ref ao)]) hx hb d_law_769 hl (by decide) rfl (fun ls hl => ?_)
  refine lv_aload_n hx hb d_law_771 rfl (lv_at hl 5 rfl) ?_
  refine t_call (t_invV (As := []) (rest := []) hx hb hown (hts _ w_708) (hts _ w_709) (hts _ w_710) (hts _ w_711) ⟨by decide, by decide⟩ (lw2_J hw hC) rfl d_law_772) (r_thrown hw) zz_c tb_good hts w_7 hC (hl.1.trans hml.symm) ⟨by show _ ≤ _; first | exact Nat.le_of_ble_eq_true rfl | (dsimp only [room_1]; omega), by show _ ≤ _; first | exact Nat.le_of_ble_eq_true rfl | (dsimp only [room_1]; omega), by show _ ≤ _; first | exact Nat.le_of_ble_eq_true rfl | (dsimp only [room_1]; omega), by show _ ≤ _; first | exact Nat.le_of_ble_eq_true rfl | (dsimp only [room_1]; omega)⟩ (Nat.le_of_ble_eq_true rfl) (fun E q ce w1 H1 l1 hp => hp.elim) (fun v w1 H locs hp hC => ?_)
  obtain ⟨rfl, hw⟩ := hp
  refine W.eq (g2 := F0 m 775 ls [.int ((o_read day (xs ((6 * n) + 1)) S).1)]) rfl ?_
  refine lv_iload hx hb d_law_775 (lv_at hl 1 rfl) ?_
  refine lv_icmp_eq (tgt := 782) hx hb d_law_777 (by decide) (fun c777 => ?_) (fun c777 => ?_)
  · skip
    refine lv_iload hx hb d_law_782 (lv_at hl 1 rfl) ?_
    refine lv_if_ne (tgt := 799) hx hb d_law_784 (by decide) (fun c784 => ?_) (fun c784 => ?_)
    · skip
      refine lv_goto (tgt := 1120) hx hb d_law_799 (by decide) ?_
      refine t_more (c2 := cells + 81) (s2 := slots + 2926) (by first | exact Nat.le_of_ble_eq_true rfl | omega | (dsimp only; omega)) (by first | exact Nat.le_of_ble_eq_true rfl | omega | (dsimp only; omega)) ?_
      exact kk _ (Rs) (day) (o_read day (xs ((6 * n) + 1)) S).2.2 _ _ H locs ls (ok_read hok) hoR (okD_up hoD) hw hC (lv_sub hl [2, 3, 4, 5, 6] rfl)
    · skip
      refine lv_aload_n hx hb d_law_787 rfl (lv_at hl 6 rfl) ?_
      refine lv_iconst (v := 0) hx hb d_law_788 (by decide) ?_
      obtain ⟨w3, M3, U3, hcw3, hmA3, huA3, rfl⟩ := hw
      refine t_lald hx hb hC 0 2 rfl rfl (show vp_in (0 : Int32) 1 from vp_in_nI (n := 0) (by decide) (by decide)) d_law_789 ?_
      rw [show (0 : Int32).toNatClampNeg = 0 by decide +kernel]
      refine lv_iload hx hb d_law_790 (lv_at hl 0 rfl) ?_
      refine lv_i2l (v := b2.toInt64) hx hb d_law_792 rfl ?_
      refine lv_lcmp_eq hx hb ((hg2 c784).trans (by rw [hb2 c784])) d_law_793 ?_
      refine lv_if_eq (tgt := 799) hx hb d_law_794 (by decide) (fun c794 => ?_) (fun c794 => ?_)
      · skip
        refine lv_goto (tgt := 1120) hx hb d_law_799 (by decide) ?_
        refine t_more (c2 := cells + 81) (s2 := slots + 2926) (by first | exact Nat.le_of_ble_eq_true rfl | omega | (dsimp only; omega)) (by first | exact Nat.le_of_ble_eq_true rfl | omega | (dsimp only; omega)) ?_
        exact kk _ (Rs) (day) (o_read day (xs ((6 * n) + 1)) S).2.2 _ _ H locs ls (ok_read hok) hoR (okD_up hoD) ⟨w3, M3, U3, hcw3, hmA3, huA3, rfl⟩ hC (lv_sub hl [2, 3, 4, 5, 6] rfl)
      · first | exact absurd c794 (by decide) | exact absurd (by decide) c794
  · exact absurd rfl c777

set_option maxRecDepth 100000 in
set_option maxHeartbeats 4000000 in
theorem arm_tick {p : Program} {l : Launch} {e : Env} {s : State} {m : MethodId} {below : List Frame} {meth : Method} {c : Code} {Q : State → Prop} {D : va_G} {A : Nat → Prop} {e0 K J : Nat → Nat} {ca : Nat → ClassId} {RL : List Nat} {ao b L n cells slots : Nat} {xs : Nat → Int32} (hst : l.stackTraces = false) (hx : p.tables.exec = Jvm.exec) (hb : c.code = code) (hml : c.maxLocals = 7) (hown : s.vm.findClass "RetentionVaultLaw" = some m.cls) (hts : ∀ z ∈ tb, z.before #[Value.ref b] s = true) (hX : va_X b L xs s s.heap) (hbl : b < s.heap.size) (hbA : ¬ A b) (hRL : RL.length = 6) (hRn : RL.Nodup) (hL : L ≤ 3072) (hnL : 6 * n + 6 ≤ L) (hcl : cells + 81 ≤ 601024) (hsl : slots + 2926 ≤ 7293033) (kk : lK p l e s m below meth c Q D A e0 K J ca RL ao b (n + 1) (nI (6 * n)) (cells + 81) (slots + 2926) 1120) : lK p l e s m below meth c Q D A e0 K J ca RL ao b n (nI (6 * n)) cells slots 802 := by
  intro code Rs day S g w H locs ls hok hoR hoD hw hC hl
  have hn5 : n ≤ 512 := by omega
  refine lv_aload_n hx hb d_law_802 rfl (lv_at hl 2 rfl) ?_
  refine lv_aload_n hx hb d_law_803 rfl (lv_at hl 1 rfl) ?_
  refine lv_iload hx hb d_law_804 (lv_at hl 0 rfl) ?_
  refine lv_iconst (v := 1) hx hb d_law_806 (by decide) ?_
  refine lv_iaddN (a := (6 * n)) (b := 1) hx hb rfl d_law_807 ?_
  refine va_sld hx hb hX hbl hbA hC.2.2.1 (i := nI ((6 * n) + 1)) (vp_in_nI (by omega) (by omega)) d_law_808 ?_
  rw [nI_clamp (by omega)]
  refine lv_aload_n hx hb d_law_809 rfl (lv_at hl 4 rfl) ?_
  refine t_call (t_invSW (As := [.ref (K 0), .int (xs ((6 * n) + 1)), .ref ao]) (rest := []) hx hb hown (hts _ w_521) (hts _ w_522) (hts _ w_0) (hts _ w_523) ⟨by decide, by decide⟩ rfl d_law_810) (l_tick hst hn5 hw hok hoR hRL) zz_c tb_good hts w_0 hC (hl.1.trans hml.symm) ⟨by show _ ≤ _; first | exact Nat.le_of_ble_eq_true rfl | (dsimp only [room_1]; omega), by show _ ≤ _; first | exact Nat.le_of_ble_eq_true rfl | (dsimp only [room_1]; omega), by show _ ≤ _; first | exact Nat.le_of_ble_eq_true rfl | (dsimp only [room_1]; omega), by show _ ≤ _; first | exact Nat.le_of_ble_eq_true rfl | (dsimp only [room_1]; omega)⟩ (Nat.le_of_ble_eq_true rfl) (fun E q ce w1 H1 l1 hp => hp.elim) (fun v w1 H locs hp hC => ?_)
  obtain ⟨rfl, g2, hg2, hw⟩ := hp
  refine W.eq (g2 := F0 m 813 ls [.int ((o_tick day (xs ((6 * n) + 1)) Rs S).1)]) rfl ?_
  refine lv_istore (lv' := [(5, .int ((o_tick day (xs ((6 * n) + 1)) Rs S).1)), (4, .int (nI (6 * n))), (0, .ref b), (1, .ref (K 0)), (2, .ref (J 0)), (3, .ref ao)]) hx hb d_law_813 hl (by decide) rfl (fun ls hl => ?_)
  refine lv_aload_n hx hb d_law_815 rfl (lv_at hl 4 rfl) ?_
  refine lv_aload_n hx hb d_law_816 rfl (lv_at hl 2 rfl) ?_
  refine lv_iload hx hb d_law_817 (lv_at hl 1 rfl) ?_
  refine lv_iconst (v := 1) hx hb d_law_819 (by decide) ?_
  refine lv_iaddN (a := (6 * n)) (b := 1) hx hb rfl d_law_820 ?_
  refine va_sld hx hb hX hbl hbA hC.2.2.1 (i := nI ((6 * n) + 1)) (vp_in_nI (by omega) (by omega)) d_law_821 ?_
  rw [nI_clamp (by omega)]
  refine t_call (t_invV (As := [.int (xs ((6 * n) + 1))]) (rest := []) hx hb hown (hts _ w_770) (hts _ w_771) (hts _ w_772) (hts _ w_773) ⟨by decide, by decide⟩ (lw2_J hw hC) rfl d_law_822) (r_tick hn5 hw hok hoR) zz_c tb_good hts w_7 hC (hl.1.trans hml.symm) ⟨by show _ ≤ _; first | exact Nat.le_of_ble_eq_true rfl | (dsimp only [room_1]; omega), by show _ ≤ _; first | exact Nat.le_of_ble_eq_true rfl | (dsimp only [room_1]; omega), by show _ ≤ _; first | exact Nat.le_of_ble_eq_true rfl | (dsimp only [room_1]; omega), by show _ ≤ _; first | exact Nat.le_of_ble_eq_true rfl | (dsimp only [room_1]; omega)⟩ (Nat.le_of_ble_eq_true rfl) (fun E q ce w1 H1 l1 hp => hp.elim) (fun v w1 H locs hp hC => ?_)
  obtain ⟨⟨b2, rfl, hb2⟩, hw⟩ := hp
  refine W.eq (g2 := F0 m 825 ls [.int b2]) rfl ?_
  refine lv_istore (lv' := [(6, .int b2), (5, .int ((o_tick day (xs ((6 * n) + 1)) Rs S).1)), (4, .int (nI (6 * n))), (0, .ref b), (1, .ref (K 0)), (2, .ref (J 0)), (3, .ref ao)]) hx hb d_law_825 hl (by decide) rfl (fun ls hl => ?_)
  refine lv_aload_n hx hb d_law_827 rfl (lv_at hl 5 rfl) ?_
  refine t_call (t_invV (As := []) (rest := []) hx hb hown (hts _ w_708) (hts _ w_709) (hts _ w_710) (hts _ w_711) ⟨by decide, by decide⟩ (lw2_J hw hC) rfl d_law_828) (r_thrown hw) zz_c tb_good hts w_7 hC (hl.1.trans hml.symm) ⟨by show _ ≤ _; first | exact Nat.le_of_ble_eq_true rfl | (dsimp only [room_1]; omega), by show _ ≤ _; first | exact Nat.le_of_ble_eq_true rfl | (dsimp only [room_1]; omega), by show _ ≤ _; first | exact Nat.le_of_ble_eq_true rfl | (dsimp only [room_1]; omega), by show _ ≤ _; first | exact Nat.le_of_ble_eq_true rfl | (dsimp only [room_1]; omega)⟩ (Nat.le_of_ble_eq_true rfl) (fun E q ce w1 H1 l1 hp => hp.elim) (fun v w1 H locs hp hC => ?_)
  obtain ⟨rfl, hw⟩ := hp
  refine W.eq (g2 := F0 m 831 ls [.int ((o_tick day (xs ((6 * n) + 1)) Rs S).1)]) rfl ?_
  refine lv_iload hx hb d_law_831 (lv_at hl 1 rfl) ?_
  refine lv_icmp_eq (tgt := 838) hx hb d_law_833 (by decide) (fun c833 => ?_) (fun c833 => ?_)
  · skip
    refine lv_iload hx hb d_law_838 (lv_at hl 1 rfl) ?_
    refine lv_if_ne (tgt := 855) hx hb d_law_840 (by decide) (fun c840 => ?_) (fun c840 => ?_)
    · skip
      refine lv_goto (tgt := 1120) hx hb d_law_855 (by decide) ?_
      refine t_more (c2 := cells + 81) (s2 := slots + 2926) (by first | exact Nat.le_of_ble_eq_true rfl | omega | (dsimp only; omega)) (by first | exact Nat.le_of_ble_eq_true rfl | omega | (dsimp only; omega)) ?_
      exact kk _ (Rs) (d_tick day (xs ((6 * n) + 1))) (o_tick day (xs ((6 * n) + 1)) Rs S).2.2 _ _ H locs ls (ok_tick hok (by omega) hoR.1 hoR.2) hoR (okD_tick hoD) hw hC (lv_sub hl [2, 3, 4, 5, 6] rfl)
    · skip
      refine lv_aload_n hx hb d_law_843 rfl (lv_at hl 6 rfl) ?_
      refine lv_iconst (v := 0) hx hb d_law_844 (by decide) ?_
      obtain ⟨w3, M3, U3, hcw3, hmA3, huA3, rfl⟩ := hw
      refine t_lald hx hb hC 0 2 rfl rfl (show vp_in (0 : Int32) 1 from vp_in_nI (n := 0) (by decide) (by decide)) d_law_845 ?_
      rw [show (0 : Int32).toNatClampNeg = 0 by decide +kernel]
      refine lv_iload hx hb d_law_846 (lv_at hl 0 rfl) ?_
      refine lv_i2l (v := b2.toInt64) hx hb d_law_848 rfl ?_
      refine lv_lcmp_eq hx hb ((hg2 c840).trans (by rw [hb2 c840])) d_law_849 ?_
      refine lv_if_eq (tgt := 855) hx hb d_law_850 (by decide) (fun c850 => ?_) (fun c850 => ?_)
      · skip
        refine lv_goto (tgt := 1120) hx hb d_law_855 (by decide) ?_
        refine t_more (c2 := cells + 81) (s2 := slots + 2926) (by first | exact Nat.le_of_ble_eq_true rfl | omega | (dsimp only; omega)) (by first | exact Nat.le_of_ble_eq_true rfl | omega | (dsimp only; omega)) ?_
        exact kk _ (Rs) (d_tick day (xs ((6 * n) + 1))) (o_tick day (xs ((6 * n) + 1)) Rs S).2.2 _ _ H locs ls (ok_tick hok (by omega) hoR.1 hoR.2) hoR (okD_tick hoD) ⟨w3, M3, U3, hcw3, hmA3, huA3, rfl⟩ hC (lv_sub hl [2, 3, 4, 5, 6] rfl)
      · first | exact absurd c850 (by decide) | exact absurd (by decide) c850
  · exact absurd rfl c833
