/-! The law's arms, on. Laid by program (wip/whole/p42.py) -/
set_option maxRecDepth 100000 in
set_option maxHeartbeats 4000000 in
theorem arm_current {p : Program} {l : Launch} {e : Env} {s : State} {m : MethodId} {below : List Frame} {meth : Method} {c : Code} {Q : State → Prop} {D : va_G} {A : Nat → Prop} {e0 K J : Nat → Nat} {ca : Nat → ClassId} {RL : List Nat} {ao b L n cells slots : Nat} {xs : Nat → Int32} (hst : l.stackTraces = false) (hx : p.tables.exec = Jvm.exec) (hb : c.code = code) (hml : c.maxLocals = 7) (hown : s.vm.findClass "RetentionVaultLaw" = some m.cls) (hts : ∀ z ∈ tb, z.before #[Value.ref b] s = true) (hX : va_X b L xs s s.heap) (hbl : b < s.heap.size) (hbA : ¬ A b) (hRL : RL.length = 6) (hRn : RL.Nodup) (hL : L ≤ 3072) (hnL : 6 * n + 6 ≤ L) (hcl : cells + 81 ≤ 601024) (hsl : slots + 2926 ≤ 7293033) (kk : lK p l e s m below meth c Q D A e0 K J ca RL ao b (n + 1) (nI (6 * n)) (cells + 81) (slots + 2926) 1120) : lK p l e s m below meth c Q D A e0 K J ca RL ao b n (nI (6 * n)) cells slots 858 := by
  intro code Rs day S g w H locs ls hok hoR hoD hw hC hl
  have hn5 : n ≤ 512 := by omega
  refine lv_aload_n hx hb d_law_858 rfl (lv_at hl 2 rfl) ?_
  refine lv_aload_n hx hb d_law_859 rfl (lv_at hl 1 rfl) ?_
  refine lv_iload hx hb d_law_860 (lv_at hl 0 rfl) ?_
  refine lv_iconst (v := 1) hx hb d_law_862 (by decide) ?_
  refine lv_iaddN (a := (6 * n)) (b := 1) hx hb rfl d_law_863 ?_
  refine va_sld hx hb hX hbl hbA hC.2.2.1 (i := nI ((6 * n) + 1)) (vp_in_nI (by omega) (by omega)) d_law_864 ?_
  rw [nI_clamp (by omega)]
  refine lv_aload_n hx hb d_law_865 rfl (lv_at hl 4 rfl) ?_
  refine t_call (t_invSW (As := [.ref (K 0), .int (xs ((6 * n) + 1)), .ref ao]) (rest := []) hx hb hown (hts _ w_566) (hts _ w_567) (hts _ w_0) (hts _ w_568) ⟨by decide, by decide⟩ rfl d_law_866) (l_current hst hn5 hw hok) zz_c tb_good hts w_0 hC (hl.1.trans hml.symm) ⟨by show _ ≤ _; first | exact Nat.le_of_ble_eq_true rfl | (dsimp only [room_1]; omega), by show _ ≤ _; first | exact Nat.le_of_ble_eq_true rfl | (dsimp only [room_1]; omega), by show _ ≤ _; first | exact Nat.le_of_ble_eq_true rfl | (dsimp only [room_1]; omega), by show _ ≤ _; first | exact Nat.le_of_ble_eq_true rfl | (dsimp only [room_1]; omega)⟩ (Nat.le_of_ble_eq_true rfl) (fun E q ce w1 H1 l1 hp => hp.elim) (fun v w1 H locs hp hC => ?_)
  obtain ⟨rfl, g2, hg2, hw⟩ := hp
  refine W.eq (g2 := F0 m 869 ls [.int ((o_current (xs ((6 * n) + 1)) S).1)]) rfl ?_
  refine lv_istore (lv' := [(5, .int ((o_current (xs ((6 * n) + 1)) S).1)), (4, .int (nI (6 * n))), (0, .ref b), (1, .ref (K 0)), (2, .ref (J 0)), (3, .ref ao)]) hx hb d_law_869 hl (by decide) rfl (fun ls hl => ?_)
  refine lv_aload_n hx hb d_law_871 rfl (lv_at hl 4 rfl) ?_
  refine lv_aload_n hx hb d_law_872 rfl (lv_at hl 2 rfl) ?_
  refine lv_iload hx hb d_law_873 (lv_at hl 1 rfl) ?_
  refine lv_iconst (v := 1) hx hb d_law_875 (by decide) ?_
  refine lv_iaddN (a := (6 * n)) (b := 1) hx hb rfl d_law_876 ?_
  refine va_sld hx hb hX hbl hbA hC.2.2.1 (i := nI ((6 * n) + 1)) (vp_in_nI (by omega) (by omega)) d_law_877 ?_
  rw [nI_clamp (by omega)]
  refine t_call (t_invV (As := [.int (xs ((6 * n) + 1))]) (rest := []) hx hb hown (hts _ w_810) (hts _ w_811) (hts _ w_812) (hts _ w_813) ⟨by decide, by decide⟩ (lw2_J hw hC) rfl d_law_878) (r_current hn5 hw hok) zz_c tb_good hts w_7 hC (hl.1.trans hml.symm) ⟨by show _ ≤ _; first | exact Nat.le_of_ble_eq_true rfl | (dsimp only [room_1]; omega), by show _ ≤ _; first | exact Nat.le_of_ble_eq_true rfl | (dsimp only [room_1]; omega), by show _ ≤ _; first | exact Nat.le_of_ble_eq_true rfl | (dsimp only [room_1]; omega), by show _ ≤ _; first | exact Nat.le_of_ble_eq_true rfl | (dsimp only [room_1]; omega)⟩ (Nat.le_of_ble_eq_true rfl) (fun E q ce w1 H1 l1 hp => hp.elim) (fun v w1 H locs hp hC => ?_)
  obtain ⟨⟨b2, rfl, hb2⟩, hw⟩ := hp
  refine W.eq (g2 := F0 m 881 ls [.int b2]) rfl ?_
  refine lv_istore (lv' := [(6, .int b2), (5, .int ((o_current (xs ((6 * n) + 1)) S).1)), (4, .int (nI (6 * n))), (0, .ref b), (1, .ref (K 0)), (2, .ref (J 0)), (3, .ref ao)]) hx hb d_law_881 hl (by decide) rfl (fun ls hl => ?_)
  refine lv_aload_n hx hb d_law_883 rfl (lv_at hl 5 rfl) ?_
  refine t_call (t_invV (As := []) (rest := []) hx hb hown (hts _ w_708) (hts _ w_709) (hts _ w_710) (hts _ w_711) ⟨by decide, by decide⟩ (lw2_J hw hC) rfl d_law_884) (r_thrown hw) zz_c tb_good hts w_7 hC (hl.1.trans hml.symm) ⟨by show _ ≤ _; first | exact Nat.le_of_ble_eq_true rfl | (dsimp only [room_1]; omega), by show _ ≤ _; first | exact Nat.le_of_ble_eq_true rfl | (dsimp only [room_1]; omega), by show _ ≤ _; first | exact Nat.le_of_ble_eq_true rfl | (dsimp only [room_1]; omega), by show _ ≤ _; first | exact Nat.le_of_ble_eq_true rfl | (dsimp only [room_1]; omega)⟩ (Nat.le_of_ble_eq_true rfl) (fun E q ce w1 H1 l1 hp => hp.elim) (fun v w1 H locs hp hC => ?_)
  obtain ⟨rfl, hw⟩ := hp
  refine W.eq (g2 := F0 m 887 ls [.int ((o_current (xs ((6 * n) + 1)) S).1)]) rfl ?_
  refine lv_iload hx hb d_law_887 (lv_at hl 1 rfl) ?_
  refine lv_icmp_eq (tgt := 894) hx hb d_law_889 (by decide) (fun c889 => ?_) (fun c889 => ?_)
  · skip
    refine lv_iload hx hb d_law_894 (lv_at hl 1 rfl) ?_
    refine lv_if_ne (tgt := 911) hx hb d_law_896 (by decide) (fun c896 => ?_) (fun c896 => ?_)
    · skip
      refine lv_goto (tgt := 1120) hx hb d_law_911 (by decide) ?_
      refine t_more (c2 := cells + 81) (s2 := slots + 2926) (by first | exact Nat.le_of_ble_eq_true rfl | omega | (dsimp only; omega)) (by first | exact Nat.le_of_ble_eq_true rfl | omega | (dsimp only; omega)) ?_
      exact kk _ (Rs) (day) (o_current (xs ((6 * n) + 1)) S).2.2 _ _ H locs ls (ok_current hok) hoR (okD_up hoD) hw hC (lv_sub hl [2, 3, 4, 5, 6] rfl)
    · skip
      refine lv_aload_n hx hb d_law_899 rfl (lv_at hl 6 rfl) ?_
      refine lv_iconst (v := 0) hx hb d_law_900 (by decide) ?_
      obtain ⟨w3, M3, U3, hcw3, hmA3, huA3, rfl⟩ := hw
      refine t_lald hx hb hC 0 2 rfl rfl (show vp_in (0 : Int32) 1 from vp_in_nI (n := 0) (by decide) (by decide)) d_law_901 ?_
      rw [show (0 : Int32).toNatClampNeg = 0 by decide +kernel]
      refine lv_iload hx hb d_law_902 (lv_at hl 0 rfl) ?_
      refine lv_i2l (v := b2.toInt64) hx hb d_law_904 rfl ?_
      refine lv_lcmp_eq hx hb ((hg2 c896).trans (by rw [hb2 c896])) d_law_905 ?_
      refine lv_if_eq (tgt := 911) hx hb d_law_906 (by decide) (fun c906 => ?_) (fun c906 => ?_)
      · skip
        refine lv_goto (tgt := 1120) hx hb d_law_911 (by decide) ?_
        refine t_more (c2 := cells + 81) (s2 := slots + 2926) (by first | exact Nat.le_of_ble_eq_true rfl | omega | (dsimp only; omega)) (by first | exact Nat.le_of_ble_eq_true rfl | omega | (dsimp only; omega)) ?_
        exact kk _ (Rs) (day) (o_current (xs ((6 * n) + 1)) S).2.2 _ _ H locs ls (ok_current hok) hoR (okD_up hoD) ⟨w3, M3, U3, hcw3, hmA3, huA3, rfl⟩ hC (lv_sub hl [2, 3, 4, 5, 6] rfl)
      · first | exact absurd c906 (by decide) | exact absurd (by decide) c906
  · exact absurd rfl c889

set_option maxRecDepth 100000 in
set_option maxHeartbeats 4000000 in
theorem arm_about {p : Program} {l : Launch} {e : Env} {s : State} {m : MethodId} {below : List Frame} {meth : Method} {c : Code} {Q : State → Prop} {D : va_G} {A : Nat → Prop} {e0 K J : Nat → Nat} {ca : Nat → ClassId} {RL : List Nat} {ao b L n cells slots : Nat} {xs : Nat → Int32} (hst : l.stackTraces = false) (hx : p.tables.exec = Jvm.exec) (hb : c.code = code) (hml : c.maxLocals = 7) (hown : s.vm.findClass "RetentionVaultLaw" = some m.cls) (hts : ∀ z ∈ tb, z.before #[Value.ref b] s = true) (hX : va_X b L xs s s.heap) (hbl : b < s.heap.size) (hbA : ¬ A b) (hRL : RL.length = 6) (hRn : RL.Nodup) (hL : L ≤ 3072) (hnL : 6 * n + 6 ≤ L) (hcl : cells + 81 ≤ 601024) (hsl : slots + 2926 ≤ 7293033) (kk : lK p l e s m below meth c Q D A e0 K J ca RL ao b (n + 1) (nI (6 * n)) (cells + 81) (slots + 2926) 1120) : lK p l e s m below meth c Q D A e0 K J ca RL ao b n (nI (6 * n)) cells slots 914 := by
  intro code Rs day S g w H locs ls hok hoR hoD hw hC hl
  have hn5 : n ≤ 512 := by omega
  refine lv_aload_n hx hb d_law_914 rfl (lv_at hl 2 rfl) ?_
  refine lv_aload_n hx hb d_law_915 rfl (lv_at hl 1 rfl) ?_
  refine lv_iload hx hb d_law_916 (lv_at hl 0 rfl) ?_
  refine lv_iconst (v := 1) hx hb d_law_918 (by decide) ?_
  refine lv_iaddN (a := (6 * n)) (b := 1) hx hb rfl d_law_919 ?_
  refine va_sld hx hb hX hbl hbA hC.2.2.1 (i := nI ((6 * n) + 1)) (vp_in_nI (by omega) (by omega)) d_law_920 ?_
  rw [nI_clamp (by omega)]
  refine lv_aload_n hx hb d_law_921 rfl (lv_at hl 1 rfl) ?_
  refine lv_iload hx hb d_law_922 (lv_at hl 0 rfl) ?_
  refine lv_iconst (v := 2) hx hb d_law_924 (by decide) ?_
  refine lv_iaddN (a := (6 * n)) (b := 2) hx hb rfl d_law_925 ?_
  refine va_sld hx hb hX hbl hbA hC.2.2.1 (i := nI ((6 * n) + 2)) (vp_in_nI (by omega) (by omega)) d_law_926 ?_
  rw [nI_clamp (by omega)]
  refine lv_aload_n hx hb d_law_927 rfl (lv_at hl 4 rfl) ?_
  refine t_call (t_invSW (As := [.ref (K 0), .int (xs ((6 * n) + 1)), .int (xs ((6 * n) + 2)), .ref ao]) (rest := []) hx hb hown (hts _ w_573) (hts _ w_574) (hts _ w_0) (hts _ w_575) ⟨by decide, by decide⟩ rfl d_law_928) (l_about hst hn5 hw hok) zz_c tb_good hts w_0 hC (hl.1.trans hml.symm) ⟨by show _ ≤ _; first | exact Nat.le_of_ble_eq_true rfl | (dsimp only [room_1]; omega), by show _ ≤ _; first | exact Nat.le_of_ble_eq_true rfl | (dsimp only [room_1]; omega), by show _ ≤ _; first | exact Nat.le_of_ble_eq_true rfl | (dsimp only [room_1]; omega), by show _ ≤ _; first | exact Nat.le_of_ble_eq_true rfl | (dsimp only [room_1]; omega)⟩ (Nat.le_of_ble_eq_true rfl) (fun E q ce w1 H1 l1 hp => hp.elim) (fun v w1 H locs hp hC => ?_)
  obtain ⟨rfl, g2, hg2, hw⟩ := hp
  refine W.eq (g2 := F0 m 931 ls [.int ((o_about day (xs ((6 * n) + 1)) (xs ((6 * n) + 2)) S).1)]) rfl ?_
  refine lv_istore (lv' := [(5, .int ((o_about day (xs ((6 * n) + 1)) (xs ((6 * n) + 2)) S).1)), (4, .int (nI (6 * n))), (0, .ref b), (1, .ref (K 0)), (2, .ref (J 0)), (3, .ref ao)]) hx hb d_law_931 hl (by decide) rfl (fun ls hl => ?_)
  refine lv_aload_n hx hb d_law_933 rfl (lv_at hl 4 rfl) ?_
  refine lv_aload_n hx hb d_law_934 rfl (lv_at hl 2 rfl) ?_
  refine lv_iload hx hb d_law_935 (lv_at hl 1 rfl) ?_
  refine lv_iconst (v := 1) hx hb d_law_937 (by decide) ?_
  refine lv_iaddN (a := (6 * n)) (b := 1) hx hb rfl d_law_938 ?_
  refine va_sld hx hb hX hbl hbA hC.2.2.1 (i := nI ((6 * n) + 1)) (vp_in_nI (by omega) (by omega)) d_law_939 ?_
  rw [nI_clamp (by omega)]
  refine lv_aload_n hx hb d_law_940 rfl (lv_at hl 2 rfl) ?_
  refine lv_iload hx hb d_law_941 (lv_at hl 1 rfl) ?_
  refine lv_iconst (v := 2) hx hb d_law_943 (by decide) ?_
  refine lv_iaddN (a := (6 * n)) (b := 2) hx hb rfl d_law_944 ?_
  refine va_sld hx hb hX hbl hbA hC.2.2.1 (i := nI ((6 * n) + 2)) (vp_in_nI (by omega) (by omega)) d_law_945 ?_
  rw [nI_clamp (by omega)]
  refine t_call (t_invV (As := [.int (xs ((6 * n) + 1)), .int (xs ((6 * n) + 2))]) (rest := []) hx hb hown (hts _ w_814) (hts _ w_815) (hts _ w_816) (hts _ w_817) ⟨by decide, by decide⟩ (lw2_J hw hC) rfl d_law_946) (r_about hn5 hw hok) zz_c tb_good hts w_7 hC (hl.1.trans hml.symm) ⟨by show _ ≤ _; first | exact Nat.le_of_ble_eq_true rfl | (dsimp only [room_1]; omega), by show _ ≤ _; first | exact Nat.le_of_ble_eq_true rfl | (dsimp only [room_1]; omega), by show _ ≤ _; first | exact Nat.le_of_ble_eq_true rfl | (dsimp only [room_1]; omega), by show _ ≤ _; first | exact Nat.le_of_ble_eq_true rfl | (dsimp only [room_1]; omega)⟩ (Nat.le_of_ble_eq_true rfl) (fun E q ce w1 H1 l1 hp => hp.elim) (fun v w1 H locs hp hC => ?_)
  obtain ⟨⟨b2, rfl, hb2⟩, hw⟩ := hp
  refine W.eq (g2 := F0 m 949 ls [.int b2]) rfl ?_
  refine lv_istore (lv' := [(6, .int b2), (5, .int ((o_about day (xs ((6 * n) + 1)) (xs ((6 * n) + 2)) S).1)), (4, .int (nI (6 * n))), (0, .ref b), (1, .ref (K 0)), (2, .ref (J 0)), (3, .ref ao)]) hx hb d_law_949 hl (by decide) rfl (fun ls hl => ?_)
  refine lv_aload_n hx hb d_law_951 rfl (lv_at hl 5 rfl) ?_
  refine t_call (t_invV (As := []) (rest := []) hx hb hown (hts _ w_708) (hts _ w_709) (hts _ w_710) (hts _ w_711) ⟨by decide, by decide⟩ (lw2_J hw hC) rfl d_law_952) (r_thrown hw) zz_c tb_good hts w_7 hC (hl.1.trans hml.symm) ⟨by show _ ≤ _; first | exact Nat.le_of_ble_eq_true rfl | (dsimp only [room_1]; omega), by show _ ≤ _; first | exact Nat.le_of_ble_eq_true rfl | (dsimp only [room_1]; omega), by show _ ≤ _; first | exact Nat.le_of_ble_eq_true rfl | (dsimp only [room_1]; omega), by show _ ≤ _; first | exact Nat.le_of_ble_eq_true rfl | (dsimp only [room_1]; omega)⟩ (Nat.le_of_ble_eq_true rfl) (fun E q ce w1 H1 l1 hp => hp.elim) (fun v w1 H locs hp hC => ?_)
  obtain ⟨rfl, hw⟩ := hp
  refine W.eq (g2 := F0 m 955 ls [.int ((o_about day (xs ((6 * n) + 1)) (xs ((6 * n) + 2)) S).1)]) rfl ?_
  refine lv_iload hx hb d_law_955 (lv_at hl 1 rfl) ?_
  refine lv_icmp_eq (tgt := 962) hx hb d_law_957 (by decide) (fun c957 => ?_) (fun c957 => ?_)
  · skip
    refine lv_iload hx hb d_law_962 (lv_at hl 1 rfl) ?_
    refine lv_if_ne (tgt := 979) hx hb d_law_964 (by decide) (fun c964 => ?_) (fun c964 => ?_)
    · skip
      refine lv_goto (tgt := 1120) hx hb d_law_979 (by decide) ?_
      refine t_more (c2 := cells + 81) (s2 := slots + 2926) (by first | exact Nat.le_of_ble_eq_true rfl | omega | (dsimp only; omega)) (by first | exact Nat.le_of_ble_eq_true rfl | omega | (dsimp only; omega)) ?_
      exact kk _ (Rs) (day) (o_about day (xs ((6 * n) + 1)) (xs ((6 * n) + 2)) S).2.2 _ _ H locs ls (ok_about hok) hoR (okD_up hoD) hw hC (lv_sub hl [2, 3, 4, 5, 6] rfl)
    · skip
      refine lv_aload_n hx hb d_law_967 rfl (lv_at hl 6 rfl) ?_
      refine lv_iconst (v := 0) hx hb d_law_968 (by decide) ?_
      obtain ⟨w3, M3, U3, hcw3, hmA3, huA3, rfl⟩ := hw
      refine t_lald hx hb hC 0 2 rfl rfl (show vp_in (0 : Int32) 1 from vp_in_nI (n := 0) (by decide) (by decide)) d_law_969 ?_
      rw [show (0 : Int32).toNatClampNeg = 0 by decide +kernel]
      refine lv_iload hx hb d_law_970 (lv_at hl 0 rfl) ?_
      refine lv_i2l (v := b2.toInt64) hx hb d_law_972 rfl ?_
      refine lv_lcmp_eq hx hb ((hg2 c964).trans (by rw [hb2 c964])) d_law_973 ?_
      refine lv_if_eq (tgt := 979) hx hb d_law_974 (by decide) (fun c974 => ?_) (fun c974 => ?_)
      · skip
        refine lv_goto (tgt := 1120) hx hb d_law_979 (by decide) ?_
        refine t_more (c2 := cells + 81) (s2 := slots + 2926) (by first | exact Nat.le_of_ble_eq_true rfl | omega | (dsimp only; omega)) (by first | exact Nat.le_of_ble_eq_true rfl | omega | (dsimp only; omega)) ?_
        exact kk _ (Rs) (day) (o_about day (xs ((6 * n) + 1)) (xs ((6 * n) + 2)) S).2.2 _ _ H locs ls (ok_about hok) hoR (okD_up hoD) ⟨w3, M3, U3, hcw3, hmA3, huA3, rfl⟩ hC (lv_sub hl [2, 3, 4, 5, 6] rfl)
      · first | exact absurd c974 (by decide) | exact absurd (by decide) c974
  · exact absurd rfl c957

set_option maxRecDepth 100000 in
set_option maxHeartbeats 4000000 in
theorem arm_entry {p : Program} {l : Launch} {e : Env} {s : State} {m : MethodId} {below : List Frame} {meth : Method} {c : Code} {Q : State → Prop} {D : va_G} {A : Nat → Prop} {e0 K J : Nat → Nat} {ca : Nat → ClassId} {RL : List Nat} {ao b L n cells slots : Nat} {xs : Nat → Int32} (hst : l.stackTraces = false) (hx : p.tables.exec = Jvm.exec) (hb : c.code = code) (hml : c.maxLocals = 7) (hown : s.vm.findClass "RetentionVaultLaw" = some m.cls) (hts : ∀ z ∈ tb, z.before #[Value.ref b] s = true) (hX : va_X b L xs s s.heap) (hbl : b < s.heap.size) (hbA : ¬ A b) (hRL : RL.length = 6) (hRn : RL.Nodup) (hL : L ≤ 3072) (hnL : 6 * n + 6 ≤ L) (hcl : cells + 81 ≤ 601024) (hsl : slots + 2926 ≤ 7293033) (kk : lK p l e s m below meth c Q D A e0 K J ca RL ao b (n + 1) (nI (6 * n)) (cells + 81) (slots + 2926) 1120) : lK p l e s m below meth c Q D A e0 K J ca RL ao b n (nI (6 * n)) cells slots 982 := by
  intro code Rs day S g w H locs ls hok hoR hoD hw hC hl
  have hn5 : n ≤ 512 := by omega
  refine lv_aload_n hx hb d_law_982 rfl (lv_at hl 2 rfl) ?_
  refine lv_aload_n hx hb d_law_983 rfl (lv_at hl 1 rfl) ?_
  refine lv_iload hx hb d_law_984 (lv_at hl 0 rfl) ?_
  refine lv_iconst (v := 1) hx hb d_law_986 (by decide) ?_
  refine lv_iaddN (a := (6 * n)) (b := 1) hx hb rfl d_law_987 ?_
  refine va_sld hx hb hX hbl hbA hC.2.2.1 (i := nI ((6 * n) + 1)) (vp_in_nI (by omega) (by omega)) d_law_988 ?_
  rw [nI_clamp (by omega)]
  refine lv_aload_n hx hb d_law_989 rfl (lv_at hl 1 rfl) ?_
  refine lv_iload hx hb d_law_990 (lv_at hl 0 rfl) ?_
  refine lv_iconst (v := 2) hx hb d_law_992 (by decide) ?_
  refine lv_iaddN (a := (6 * n)) (b := 2) hx hb rfl d_law_993 ?_
  refine va_sld hx hb hX hbl hbA hC.2.2.1 (i := nI ((6 * n) + 2)) (vp_in_nI (by omega) (by omega)) d_law_994 ?_
  rw [nI_clamp (by omega)]
  refine lv_aload_n hx hb d_law_995 rfl (lv_at hl 4 rfl) ?_
  refine t_call (t_invSW (As := [.ref (K 0), .int (xs ((6 * n) + 1)), .int (xs ((6 * n) + 2)), .ref ao]) (rest := []) hx hb hown (hts _ w_582) (hts _ w_583) (hts _ w_0) (hts _ w_584) ⟨by decide, by decide⟩ rfl d_law_996) (l_entry hst hn5 hw hok) zz_c tb_good hts w_0 hC (hl.1.trans hml.symm) ⟨by show _ ≤ _; first | exact Nat.le_of_ble_eq_true rfl | (dsimp only [room_1]; omega), by show _ ≤ _; first | exact Nat.le_of_ble_eq_true rfl | (dsimp only [room_1]; omega), by show _ ≤ _; first | exact Nat.le_of_ble_eq_true rfl | (dsimp only [room_1]; omega), by show _ ≤ _; first | exact Nat.le_of_ble_eq_true rfl | (dsimp only [room_1]; omega)⟩ (Nat.le_of_ble_eq_true rfl) (fun E q ce w1 H1 l1 hp => hp.elim) (fun v w1 H locs hp hC => ?_)
  obtain ⟨rfl, g2, hg2, hw⟩ := hp
  refine W.eq (g2 := F0 m 999 ls [.int ((o_entry (xs ((6 * n) + 1)) (xs ((6 * n) + 2)) S).1)]) rfl ?_
  refine lv_istore (lv' := [(5, .int ((o_entry (xs ((6 * n) + 1)) (xs ((6 * n) + 2)) S).1)), (4, .int (nI (6 * n))), (0, .ref b), (1, .ref (K 0)), (2, .ref (J 0)), (3, .ref ao)]) hx hb d_law_999 hl (by decide) rfl (fun ls hl => ?_)
  refine lv_aload_n hx hb d_law_1001 rfl (lv_at hl 4 rfl) ?_
  refine lv_aload_n hx hb d_law_1002 rfl (lv_at hl 2 rfl) ?_
  refine lv_iload hx hb d_law_1003 (lv_at hl 1 rfl) ?_
  refine lv_iconst (v := 1) hx hb d_law_1005 (by decide) ?_
  refine lv_iaddN (a := (6 * n)) (b := 1) hx hb rfl d_law_1006 ?_
  refine va_sld hx hb hX hbl hbA hC.2.2.1 (i := nI ((6 * n) + 1)) (vp_in_nI (by omega) (by omega)) d_law_1007 ?_
  rw [nI_clamp (by omega)]
  refine lv_aload_n hx hb d_law_1008 rfl (lv_at hl 2 rfl) ?_
  refine lv_iload hx hb d_law_1009 (lv_at hl 1 rfl) ?_
  refine lv_iconst (v := 2) hx hb d_law_1011 (by decide) ?_
  refine lv_iaddN (a := (6 * n)) (b := 2) hx hb rfl d_law_1012 ?_
  refine va_sld hx hb hX hbl hbA hC.2.2.1 (i := nI ((6 * n) + 2)) (vp_in_nI (by omega) (by omega)) d_law_1013 ?_
  rw [nI_clamp (by omega)]
  refine t_call (t_invV (As := [.int (xs ((6 * n) + 1)), .int (xs ((6 * n) + 2))]) (rest := []) hx hb hown (hts _ w_818) (hts _ w_819) (hts _ w_820) (hts _ w_821) ⟨by decide, by decide⟩ (lw2_J hw hC) rfl d_law_1014) (r_entry hn5 hw hok) zz_c tb_good hts w_7 hC (hl.1.trans hml.symm) ⟨by show _ ≤ _; first | exact Nat.le_of_ble_eq_true rfl | (dsimp only [room_1]; omega), by show _ ≤ _; first | exact Nat.le_of_ble_eq_true rfl | (dsimp only [room_1]; omega), by show _ ≤ _; first | exact Nat.le_of_ble_eq_true rfl | (dsimp only [room_1]; omega), by show _ ≤ _; first | exact Nat.le_of_ble_eq_true rfl | (dsimp only [room_1]; omega)⟩ (Nat.le_of_ble_eq_true rfl) (fun E q ce w1 H1 l1 hp => hp.elim) (fun v w1 H locs hp hC => ?_)
  obtain ⟨⟨b2, rfl, hb2⟩, hw⟩ := hp
  refine W.eq (g2 := F0 m 1017 ls [.int b2]) rfl ?_
  refine lv_istore (lv' := [(6, .int b2), (5, .int ((o_entry (xs ((6 * n) + 1)) (xs ((6 * n) + 2)) S).1)), (4, .int (nI (6 * n))), (0, .ref b), (1, .ref (K 0)), (2, .ref (J 0)), (3, .ref ao)]) hx hb d_law_1017 hl (by decide) rfl (fun ls hl => ?_)
  refine lv_aload_n hx hb d_law_1019 rfl (lv_at hl 5 rfl) ?_
  refine t_call (t_invV (As := []) (rest := []) hx hb hown (hts _ w_708) (hts _ w_709) (hts _ w_710) (hts _ w_711) ⟨by decide, by decide⟩ (lw2_J hw hC) rfl d_law_1020) (r_thrown hw) zz_c tb_good hts w_7 hC (hl.1.trans hml.symm) ⟨by show _ ≤ _; first | exact Nat.le_of_ble_eq_true rfl | (dsimp only [room_1]; omega), by show _ ≤ _; first | exact Nat.le_of_ble_eq_true rfl | (dsimp only [room_1]; omega), by show _ ≤ _; first | exact Nat.le_of_ble_eq_true rfl | (dsimp only [room_1]; omega), by show _ ≤ _; first | exact Nat.le_of_ble_eq_true rfl | (dsimp only [room_1]; omega)⟩ (Nat.le_of_ble_eq_true rfl) (fun E q ce w1 H1 l1 hp => hp.elim) (fun v w1 H locs hp hC => ?_)
  obtain ⟨rfl, hw⟩ := hp
  refine W.eq (g2 := F0 m 1023 ls [.int ((o_entry (xs ((6 * n) + 1)) (xs ((6 * n) + 2)) S).1)]) rfl ?_
  refine lv_iload hx hb d_law_1023 (lv_at hl 1 rfl) ?_
  refine lv_icmp_eq (tgt := 1030) hx hb d_law_1025 (by decide) (fun c1025 => ?_) (fun c1025 => ?_)
  · skip
    refine lv_iload hx hb d_law_1030 (lv_at hl 1 rfl) ?_
    refine lv_if_ne (tgt := 1047) hx hb d_law_1032 (by decide) (fun c1032 => ?_) (fun c1032 => ?_)
    · skip
      refine lv_goto (tgt := 1120) hx hb d_law_1047 (by decide) ?_
      refine t_more (c2 := cells + 81) (s2 := slots + 2926) (by first | exact Nat.le_of_ble_eq_true rfl | omega | (dsimp only; omega)) (by first | exact Nat.le_of_ble_eq_true rfl | omega | (dsimp only; omega)) ?_
      exact kk _ (Rs) (day) (o_entry (xs ((6 * n) + 1)) (xs ((6 * n) + 2)) S).2.2 _ _ H locs ls (ok_entry hok) hoR (okD_up hoD) hw hC (lv_sub hl [2, 3, 4, 5, 6] rfl)
    · skip
      refine lv_aload_n hx hb d_law_1035 rfl (lv_at hl 6 rfl) ?_
      refine lv_iconst (v := 0) hx hb d_law_1036 (by decide) ?_
      obtain ⟨w3, M3, U3, hcw3, hmA3, huA3, rfl⟩ := hw
      refine t_lald hx hb hC 0 2 rfl rfl (show vp_in (0 : Int32) 1 from vp_in_nI (n := 0) (by decide) (by decide)) d_law_1037 ?_
      rw [show (0 : Int32).toNatClampNeg = 0 by decide +kernel]
      refine lv_iload hx hb d_law_1038 (lv_at hl 0 rfl) ?_
      refine lv_i2l (v := b2.toInt64) hx hb d_law_1040 rfl ?_
      refine lv_lcmp_eq hx hb ((hg2 c1032).trans (by rw [hb2 c1032])) d_law_1041 ?_
      refine lv_if_eq (tgt := 1047) hx hb d_law_1042 (by decide) (fun c1042 => ?_) (fun c1042 => ?_)
      · skip
        refine lv_goto (tgt := 1120) hx hb d_law_1047 (by decide) ?_
        refine t_more (c2 := cells + 81) (s2 := slots + 2926) (by first | exact Nat.le_of_ble_eq_true rfl | omega | (dsimp only; omega)) (by first | exact Nat.le_of_ble_eq_true rfl | omega | (dsimp only; omega)) ?_
        exact kk _ (Rs) (day) (o_entry (xs ((6 * n) + 1)) (xs ((6 * n) + 2)) S).2.2 _ _ H locs ls (ok_entry hok) hoR (okD_up hoD) ⟨w3, M3, U3, hcw3, hmA3, huA3, rfl⟩ hC (lv_sub hl [2, 3, 4, 5, 6] rfl)
      · first | exact absurd c1042 (by decide) | exact absurd (by decide) c1042
  · exact absurd rfl c1025

set_option maxRecDepth 100000 in
set_option maxHeartbeats 4000000 in
theorem arm_link {p : Program} {l : Launch} {e : Env} {s : State} {m : MethodId} {below : List Frame} {meth : Method} {c : Code} {Q : State → Prop} {D : va_G} {A : Nat → Prop} {e0 K J : Nat → Nat} {ca : Nat → ClassId} {RL : List Nat} {ao b L n cells slots : Nat} {xs : Nat → Int32} (hst : l.stackTraces = false) (hx : p.tables.exec = Jvm.exec) (hb : c.code = code) (hml : c.maxLocals = 7) (hown : s.vm.findClass "RetentionVaultLaw" = some m.cls) (hts : ∀ z ∈ tb, z.before #[Value.ref b] s = true) (hX : va_X b L xs s s.heap) (hbl : b < s.heap.size) (hbA : ¬ A b) (hRL : RL.length = 6) (hRn : RL.Nodup) (hL : L ≤ 3072) (hnL : 6 * n + 6 ≤ L) (hcl : cells + 81 ≤ 601024) (hsl : slots + 2926 ≤ 7293033) (kk : lK p l e s m below meth c Q D A e0 K J ca RL ao b (n + 1) (nI (6 * n)) (cells + 81) (slots + 2926) 1120) : lK p l e s m below meth c Q D A e0 K J ca RL ao b n (nI (6 * n)) cells slots 1050 := by
  intro code Rs day S g w H locs ls hok hoR hoD hw hC hl
  have hn5 : n ≤ 512 := by omega
  refine lv_aload_n hx hb d_law_1050 rfl (lv_at hl 2 rfl) ?_
  refine t_call (t_invV (As := []) (rest := []) hx hb hown (hts _ w_113) (hts _ w_114) (hts _ w_115) (hts _ w_116) ⟨by decide, by decide⟩ (lw2_K hw hC) rfl d_law_1051) (l_link hw) zz_c tb_good hts w_1 hC (hl.1.trans hml.symm) ⟨by show _ ≤ _; first | exact Nat.le_of_ble_eq_true rfl | (dsimp only [room_1]; omega), by show _ ≤ _; first | exact Nat.le_of_ble_eq_true rfl | (dsimp only [room_1]; omega), by show _ ≤ _; first | exact Nat.le_of_ble_eq_true rfl | (dsimp only [room_1]; omega), by show _ ≤ _; first | exact Nat.le_of_ble_eq_true rfl | (dsimp only [room_1]; omega)⟩ (Nat.le_of_ble_eq_true rfl) (fun E q ce w1 H1 l1 hp => hp.elim) (fun v w1 H locs hp hC => ?_)
  obtain ⟨rfl, hw⟩ := hp
  refine W.eq (g2 := F0 m 1054 ls [.long S.2.1.2.2]) rfl ?_
  refine lv_aload_n hx hb d_law_1054 rfl (lv_at hl 3 rfl) ?_
  refine t_call (t_invV (As := []) (rest := [.long S.2.1.2.2]) hx hb hown (hts _ w_822) (hts _ w_823) (hts _ w_824) (hts _ w_825) ⟨by decide, by decide⟩ (lw2_J hw hC) rfl d_law_1055) (r_link hw) zz_c tb_good hts w_7 hC (hl.1.trans hml.symm) ⟨by show _ ≤ _; first | exact Nat.le_of_ble_eq_true rfl | (dsimp only [room_1]; omega), by show _ ≤ _; first | exact Nat.le_of_ble_eq_true rfl | (dsimp only [room_1]; omega), by show _ ≤ _; first | exact Nat.le_of_ble_eq_true rfl | (dsimp only [room_1]; omega), by show _ ≤ _; first | exact Nat.le_of_ble_eq_true rfl | (dsimp only [room_1]; omega)⟩ (Nat.le_of_ble_eq_true rfl) (fun E q ce w1 H1 l1 hp => hp.elim) (fun v w1 H locs hp hC => ?_)
  obtain ⟨rfl, hw⟩ := hp
  refine W.eq (g2 := F0 m 1058 ls [.long S.2.1.2.2, .long S.2.1.2.2]) rfl ?_
  refine lv_lcmp_eq hx hb (rfl) d_law_1058 ?_
  refine lv_if_eq (tgt := 1120) hx hb d_law_1059 (by decide) (fun c1059 => ?_) (fun c1059 => ?_)
  · skip
    refine t_more (c2 := cells + 81) (s2 := slots + 2926) (by first | exact Nat.le_of_ble_eq_true rfl | omega | (dsimp only; omega)) (by first | exact Nat.le_of_ble_eq_true rfl | omega | (dsimp only; omega)) ?_
    exact kk _ Rs day S _ _ H locs ls (okS_up hok) hoR (okD_up hoD) hw hC (lv_sub hl [0, 1, 2, 3, 4] rfl)
  · first | exact absurd c1059 (by decide) | exact absurd (by decide) c1059

set_option maxRecDepth 100000 in
set_option maxHeartbeats 4000000 in
theorem arm_figure {p : Program} {l : Launch} {e : Env} {s : State} {m : MethodId} {below : List Frame} {meth : Method} {c : Code} {Q : State → Prop} {D : va_G} {A : Nat → Prop} {e0 K J : Nat → Nat} {ca : Nat → ClassId} {RL : List Nat} {ao b L n cells slots : Nat} {xs : Nat → Int32} (hst : l.stackTraces = false) (hx : p.tables.exec = Jvm.exec) (hb : c.code = code) (hml : c.maxLocals = 7) (hown : s.vm.findClass "RetentionVaultLaw" = some m.cls) (hts : ∀ z ∈ tb, z.before #[Value.ref b] s = true) (hX : va_X b L xs s s.heap) (hbl : b < s.heap.size) (hbA : ¬ A b) (hRL : RL.length = 6) (hRn : RL.Nodup) (hL : L ≤ 3072) (hnL : 6 * n + 6 ≤ L) (hcl : cells + 81 ≤ 601024) (hsl : slots + 2926 ≤ 7293033) (kk : lK p l e s m below meth c Q D A e0 K J ca RL ao b (n + 1) (nI (6 * n)) (cells + 81) (slots + 2926) 1120) : lK p l e s m below meth c Q D A e0 K J ca RL ao b n (nI (6 * n)) cells slots 1064 := by
  intro code Rs day S g w H locs ls hok hoR hoD hw hC hl
  have hn5 : n ≤ 512 := by omega
  refine lv_aload_n hx hb d_law_1064 rfl (lv_at hl 2 rfl) ?_
  refine lv_aload_n hx hb d_law_1065 rfl (lv_at hl 1 rfl) ?_
  refine lv_iload hx hb d_law_1066 (lv_at hl 0 rfl) ?_
  refine lv_iconst (v := 1) hx hb d_law_1068 (by decide) ?_
  refine lv_iaddN (a := (6 * n)) (b := 1) hx hb rfl d_law_1069 ?_
  refine va_sld hx hb hX hbl hbA hC.2.2.1 (i := nI ((6 * n) + 1)) (vp_in_nI (by omega) (by omega)) d_law_1070 ?_
  rw [nI_clamp (by omega)]
  refine lv_aload_n hx hb d_law_1071 rfl (lv_at hl 4 rfl) ?_
  refine t_call (t_invSW (As := [.ref (K 0), .int (xs ((6 * n) + 1)), .ref ao]) (rest := []) hx hb hown (hts _ w_614) (hts _ w_615) (hts _ w_0) (hts _ w_616) ⟨by decide, by decide⟩ rfl d_law_1072) (l_figure hst hn5 hw hok hoD) zz_c tb_good hts w_0 hC (hl.1.trans hml.symm) ⟨by show _ ≤ _; first | exact Nat.le_of_ble_eq_true rfl | (dsimp only [room_1]; omega), by show _ ≤ _; first | exact Nat.le_of_ble_eq_true rfl | (dsimp only [room_1]; omega), by show _ ≤ _; first | exact Nat.le_of_ble_eq_true rfl | (dsimp only [room_1]; omega), by show _ ≤ _; first | exact Nat.le_of_ble_eq_true rfl | (dsimp only [room_1]; omega)⟩ (Nat.le_of_ble_eq_true rfl) (fun E q ce w1 H1 l1 hp => hp.elim) (fun v w1 H locs hp hC => ?_)
  obtain ⟨rfl, g2, hg2, hw⟩ := hp
  refine W.eq (g2 := F0 m 1075 ls [.int ((o_figure day (xs ((6 * n) + 1)) S).1)]) rfl ?_
  refine lv_istore (lv' := [(5, .int ((o_figure day (xs ((6 * n) + 1)) S).1)), (4, .int (nI (6 * n))), (0, .ref b), (1, .ref (K 0)), (2, .ref (J 0)), (3, .ref ao)]) hx hb d_law_1075 hl (by decide) rfl (fun ls hl => ?_)
  refine lv_aload_n hx hb d_law_1077 rfl (lv_at hl 4 rfl) ?_
  refine lv_aload_n hx hb d_law_1078 rfl (lv_at hl 2 rfl) ?_
  refine lv_iload hx hb d_law_1079 (lv_at hl 1 rfl) ?_
  refine lv_iconst (v := 1) hx hb d_law_1081 (by decide) ?_
  refine lv_iaddN (a := (6 * n)) (b := 1) hx hb rfl d_law_1082 ?_
  refine va_sld hx hb hX hbl hbA hC.2.2.1 (i := nI ((6 * n) + 1)) (vp_in_nI (by omega) (by omega)) d_law_1083 ?_
  rw [nI_clamp (by omega)]
  refine t_call (t_invV (As := [.int (xs ((6 * n) + 1))]) (rest := []) hx hb hown (hts _ w_826) (hts _ w_827) (hts _ w_828) (hts _ w_829) ⟨by decide, by decide⟩ (lw2_J hw hC) rfl d_law_1084) (r_figure hn5 hw hok hoD) zz_c tb_good hts w_7 hC (hl.1.trans hml.symm) ⟨by show _ ≤ _; first | exact Nat.le_of_ble_eq_true rfl | (dsimp only [room_1]; omega), by show _ ≤ _; first | exact Nat.le_of_ble_eq_true rfl | (dsimp only [room_1]; omega), by show _ ≤ _; first | exact Nat.le_of_ble_eq_true rfl | (dsimp only [room_1]; omega), by show _ ≤ _; first | exact Nat.le_of_ble_eq_true rfl | (dsimp only [room_1]; omega)⟩ (Nat.le_of_ble_eq_true rfl) (fun E q ce w1 H1 l1 hp => hp.elim) (fun v w1 H locs hp hC => ?_)
  obtain ⟨⟨b2, rfl, hb2⟩, hw⟩ := hp
  refine W.eq (g2 := F0 m 1087 ls [.int b2]) rfl ?_
  refine lv_istore (lv' := [(6, .int b2), (5, .int ((o_figure day (xs ((6 * n) + 1)) S).1)), (4, .int (nI (6 * n))), (0, .ref b), (1, .ref (K 0)), (2, .ref (J 0)), (3, .ref ao)]) hx hb d_law_1087 hl (by decide) rfl (fun ls hl => ?_)
  refine lv_aload_n hx hb d_law_1089 rfl (lv_at hl 5 rfl) ?_
  refine t_call (t_invV (As := []) (rest := []) hx hb hown (hts _ w_708) (hts _ w_709) (hts _ w_710) (hts _ w_711) ⟨by decide, by decide⟩ (lw2_J hw hC) rfl d_law_1090) (r_thrown hw) zz_c tb_good hts w_7 hC (hl.1.trans hml.symm) ⟨by show _ ≤ _; first | exact Nat.le_of_ble_eq_true rfl | (dsimp only [room_1]; omega), by show _ ≤ _; first | exact Nat.le_of_ble_eq_true rfl | (dsimp only [room_1]; omega), by show _ ≤ _; first | exact Nat.le_of_ble_eq_true rfl | (dsimp only [room_1]; omega), by show _ ≤ _; first | exact Nat.le_of_ble_eq_true rfl | (dsimp only [room_1]; omega)⟩ (Nat.le_of_ble_eq_true rfl) (fun E q ce w1 H1 l1 hp => hp.elim) (fun v w1 H locs hp hC => ?_)
  obtain ⟨rfl, hw⟩ := hp
  refine W.eq (g2 := F0 m 1093 ls [.int ((o_figure day (xs ((6 * n) + 1)) S).1)]) rfl ?_
  refine lv_iload hx hb d_law_1093 (lv_at hl 1 rfl) ?_
  refine lv_icmp_eq (tgt := 1100) hx hb d_law_1095 (by decide) (fun c1095 => ?_) (fun c1095 => ?_)
  · skip
    refine lv_iload hx hb d_law_1100 (lv_at hl 1 rfl) ?_
    refine lv_if_ne (tgt := 1117) hx hb d_law_1102 (by decide) (fun c1102 => ?_) (fun c1102 => ?_)
    · skip
      refine lv_goto (tgt := 1120) hx hb d_law_1117 (by decide) ?_
      refine t_more (c2 := cells + 81) (s2 := slots + 2926) (by first | exact Nat.le_of_ble_eq_true rfl | omega | (dsimp only; omega)) (by first | exact Nat.le_of_ble_eq_true rfl | omega | (dsimp only; omega)) ?_
      exact kk _ (Rs) (day) (o_figure day (xs ((6 * n) + 1)) S).2.2 _ _ H locs ls (ok_figure hok) hoR (okD_up hoD) hw hC (lv_sub hl [2, 3, 4, 5, 6] rfl)
    · skip
      refine lv_aload_n hx hb d_law_1105 rfl (lv_at hl 6 rfl) ?_
      refine lv_iconst (v := 0) hx hb d_law_1106 (by decide) ?_
      obtain ⟨w3, M3, U3, hcw3, hmA3, huA3, rfl⟩ := hw
      refine t_lald hx hb hC 0 2 rfl rfl (show vp_in (0 : Int32) 1 from vp_in_nI (n := 0) (by decide) (by decide)) d_law_1107 ?_
      rw [show (0 : Int32).toNatClampNeg = 0 by decide +kernel]
      refine lv_iload hx hb d_law_1108 (lv_at hl 0 rfl) ?_
      refine lv_i2l (v := b2.toInt64) hx hb d_law_1110 rfl ?_
      refine lv_lcmp_eq hx hb ((hg2 c1102).trans (by rw [hb2 c1102])) d_law_1111 ?_
      refine lv_if_eq (tgt := 1117) hx hb d_law_1112 (by decide) (fun c1112 => ?_) (fun c1112 => ?_)
      · skip
        refine lv_goto (tgt := 1120) hx hb d_law_1117 (by decide) ?_
        refine t_more (c2 := cells + 81) (s2 := slots + 2926) (by first | exact Nat.le_of_ble_eq_true rfl | omega | (dsimp only; omega)) (by first | exact Nat.le_of_ble_eq_true rfl | omega | (dsimp only; omega)) ?_
        exact kk _ (Rs) (day) (o_figure day (xs ((6 * n) + 1)) S).2.2 _ _ H locs ls (ok_figure hok) hoR (okD_up hoD) ⟨w3, M3, U3, hcw3, hmA3, huA3, rfl⟩ hC (lv_sub hl [2, 3, 4, 5, 6] rfl)
      · first | exact absurd c1112 (by decide) | exact absurd (by decide) c1112
  · exact absurd rfl c1095
