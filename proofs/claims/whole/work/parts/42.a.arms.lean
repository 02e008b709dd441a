/-! The law's arms. Laid by program (wip/whole/p42.py) -/
section LA
variable {p : Program} {l : Launch} {e : Env} {R : Room} {s : State} {m : MethodId} {args : Array Value} {below : List Frame} {meth : Method} {c : Code} {H : Heap} {locs : List Loc} {cells slots : Nat} {Q : State → Prop} {cc : ByteArray} {pc : Nat} {ls : Array Slot} {rest : List Value}
theorem lv_lcmp_eq (hexec : p.tables.exec = Jvm.exec) (hb : c.code = cc) {x y : Int64} (hxy : x = y) (hdg : decode cc pc = .ok (.lcmp, 1)) (k : W p l e R s m args below meth c H locs cells slots Q (F0 m (pc + 1) ls (.int 0 :: rest))) : W p l e R s m args below meth c H locs cells slots Q (F0 m pc ls (.long y :: .long x :: rest)) := by
  subst hxy
  intro T hT X
  obtain ⟨t, a, b⟩ := k T hT X
  refine ⟨t, ?_, b⟩
  jvm_step X.here [X.here.top, hexec, hb, hdg, Int64.lt_irrefl]
  exact a
end LA
/-- the loop's state at the law's place pc: n calls are done -/
def lK (p : Program) (l : Launch) (e : Env) (s : State) (m : MethodId) (below : List Frame) (meth : Method) (c : Code) (Q : State → Prop) (D : va_G) (A : Nat → Prop) (e0 K J : Nat → Nat) (ca : Nat → ClassId) (RL : List Nat) (ao b n : Nat) (i : Int32) (cells slots pc : Nat) : Prop :=
  ∀ (code : Int32) (Rs : List RW) (day : Int32) (S : PS) (g : Nat → Int64) (w : va_W) (H : Heap) (locs : List Loc) (ls : Array Slot), okS n S → okR Rs → okD n day → lw2 e0 K J ca RL ao Rs day S code Rs day S g w → tC D cls (ty0 ca) A (zz e0 A) s w H locs → lv_has ls 7 [(4, .int i), (0, .ref b), (1, .ref (K 0)), (2, .ref (J 0)), (3, .ref ao)] →
    W p l e room_1 s m #[Value.ref b] below meth c H locs cells slots Q (F0 m pc ls [])

set_option maxRecDepth 100000 in
set_option maxHeartbeats 4000000 in
theorem arm_put {p : Program} {l : Launch} {e : Env} {s : State} {m : MethodId} {below : List Frame} {meth : Method} {c : Code} {Q : State → Prop} {D : va_G} {A : Nat → Prop} {e0 K J : Nat → Nat} {ca : Nat → ClassId} {RL : List Nat} {ao b L n cells slots : Nat} {xs : Nat → Int32} (hst : l.stackTraces = false) (hx : p.tables.exec = Jvm.exec) (hb : c.code = code) (hml : c.maxLocals = 7) (hown : s.vm.findClass "RetentionVaultLaw" = some m.cls) (hts : ∀ z ∈ tb, z.before #[Value.ref b] s = true) (hX : va_X b L xs s s.heap) (hbl : b < s.heap.size) (hbA : ¬ A b) (hRL : RL.length = 6) (hRn : RL.Nodup) (hL : L ≤ 3072) (hnL : 6 * n + 6 ≤ L) (hcl : cells + 81 ≤ 601024) (hsl : slots + 2926 ≤ 7293033) (kk : lK p l e s m below meth c Q D A e0 K J ca RL ao b (n + 1) (nI (6 * n)) (cells + 81) (slots + 2926) 1120) : lK p l e s m below meth c Q D A e0 K J ca RL ao b n (nI (6 * n)) cells slots 116 := by
  intro code Rs day S g w H locs ls hok hoR hoD hw hC hl
  have hn5 : n ≤ 512 := by omega
  refine lv_aload_n hx hb d_law_116 rfl (lv_at hl 2 rfl) ?_
  refine lv_aload_n hx hb d_law_117 rfl (lv_at hl 1 rfl) ?_
  refine lv_iload hx hb d_law_118 (lv_at hl 0 rfl) ?_
  refine lv_iconst (v := 1) hx hb d_law_120 (by decide) ?_
  refine lv_iaddN (a := (6 * n)) (b := 1) hx hb rfl d_law_121 ?_
  refine va_sld hx hb hX hbl hbA hC.2.2.1 (i := nI ((6 * n) + 1)) (vp_in_nI (by omega) (by omega)) d_law_122 ?_
  rw [nI_clamp (by omega)]
  refine lv_aload_n hx hb d_law_123 rfl (lv_at hl 1 rfl) ?_
  refine lv_iload hx hb d_law_124 (lv_at hl 0 rfl) ?_
  refine lv_iconst (v := 2) hx hb d_law_126 (by decide) ?_
  refine lv_iaddN (a := (6 * n)) (b := 2) hx hb rfl d_law_127 ?_
  refine va_sld hx hb hX hbl hbA hC.2.2.1 (i := nI ((6 * n) + 2)) (vp_in_nI (by omega) (by omega)) d_law_128 ?_
  rw [nI_clamp (by omega)]
  refine lv_aload_n hx hb d_law_129 rfl (lv_at hl 1 rfl) ?_
  refine lv_iload hx hb d_law_130 (lv_at hl 0 rfl) ?_
  refine lv_iconst (v := 3) hx hb d_law_132 (by decide) ?_
  refine lv_iaddN (a := (6 * n)) (b := 3) hx hb rfl d_law_133 ?_
  refine va_sld hx hb hX hbl hbA hC.2.2.1 (i := nI ((6 * n) + 3)) (vp_in_nI (by omega) (by omega)) d_law_134 ?_
  rw [nI_clamp (by omega)]
  refine lv_aload_n hx hb d_law_135 rfl (lv_at hl 4 rfl) ?_
  refine t_call (t_invSW (As := [.ref (K 0), .int (xs ((6 * n) + 1)), .int (xs ((6 * n) + 2)), .int (xs ((6 * n) + 3)), .ref ao]) (rest := []) hx hb hown (hts _ w_117) (hts _ w_118) (hts _ w_0) (hts _ w_119) ⟨by decide, by decide⟩ rfl d_law_136) (l_put hst hn5 hw hok) zz_c tb_good hts w_0 hC (hl.1.trans hml.symm) ⟨by show _ ≤ _; first | exact Nat.le_of_ble_eq_true rfl | (dsimp only [room_1]; omega), by show _ ≤ _; first | exact Nat.le_of_ble_eq_true rfl | (dsimp only [room_1]; omega), by show _ ≤ _; first | exact Nat.le_of_ble_eq_true rfl | (dsimp only [room_1]; omega), by show _ ≤ _; first | exact Nat.le_of_ble_eq_true rfl | (dsimp only [room_1]; omega)⟩ (Nat.le_of_ble_eq_true rfl) (fun E q ce w1 H1 l1 hp => hp.elim) (fun v w1 H locs hp hC => ?_)
  obtain ⟨rfl, g2, hg2, hw⟩ := hp
  refine W.eq (g2 := F0 m 139 ls [.int ((o_put day (xs ((6 * n) + 1)) (xs ((6 * n) + 2)) (xs ((6 * n) + 3)) S).1)]) rfl ?_
  refine lv_istore (lv' := [(5, .int ((o_put day (xs ((6 * n) + 1)) (xs ((6 * n) + 2)) (xs ((6 * n) + 3)) S).1)), (4, .int (nI (6 * n))), (0, .ref b), (1, .ref (K 0)), (2, .ref (J 0)), (3, .ref ao)]) hx hb d_law_139 hl (by decide) rfl (fun ls hl => ?_)
  refine lv_aload_n hx hb d_law_141 rfl (lv_at hl 4 rfl) ?_
  refine lv_aload_n hx hb d_law_142 rfl (lv_at hl 2 rfl) ?_
  refine lv_iload hx hb d_law_143 (lv_at hl 1 rfl) ?_
  refine lv_iconst (v := 1) hx hb d_law_145 (by decide) ?_
  refine lv_iaddN (a := (6 * n)) (b := 1) hx hb rfl d_law_146 ?_
  refine va_sld hx hb hX hbl hbA hC.2.2.1 (i := nI ((6 * n) + 1)) (vp_in_nI (by omega) (by omega)) d_law_147 ?_
  rw [nI_clamp (by omega)]
  refine lv_aload_n hx hb d_law_148 rfl (lv_at hl 2 rfl) ?_
  refine lv_iload hx hb d_law_149 (lv_at hl 1 rfl) ?_
  refine lv_iconst (v := 2) hx hb d_law_151 (by decide) ?_
  refine lv_iaddN (a := (6 * n)) (b := 2) hx hb rfl d_law_152 ?_
  refine va_sld hx hb hX hbl hbA hC.2.2.1 (i := nI ((6 * n) + 2)) (vp_in_nI (by omega) (by omega)) d_law_153 ?_
  rw [nI_clamp (by omega)]
  refine lv_aload_n hx hb d_law_154 rfl (lv_at hl 2 rfl) ?_
  refine lv_iload hx hb d_law_155 (lv_at hl 1 rfl) ?_
  refine lv_iconst (v := 3) hx hb d_law_157 (by decide) ?_
  refine lv_iaddN (a := (6 * n)) (b := 3) hx hb rfl d_law_158 ?_
  refine va_sld hx hb hX hbl hbA hC.2.2.1 (i := nI ((6 * n) + 3)) (vp_in_nI (by omega) (by omega)) d_law_159 ?_
  rw [nI_clamp (by omega)]
  refine t_call (t_invV (As := [.int (xs ((6 * n) + 1)), .int (xs ((6 * n) + 2)), .int (xs ((6 * n) + 3))]) (rest := []) hx hb hown (hts _ w_712) (hts _ w_713) (hts _ w_714) (hts _ w_715) ⟨by decide, by decide⟩ (lw2_J hw hC) rfl d_law_160) (r_put hn5 hw hok) zz_c tb_good hts w_7 hC (hl.1.trans hml.symm) ⟨by show _ ≤ _; first | exact Nat.le_of_ble_eq_true rfl | (dsimp only [room_1]; omega), by show _ ≤ _; first | exact Nat.le_of_ble_eq_true rfl | (dsimp only [room_1]; omega), by show _ ≤ _; first | exact Nat.le_of_ble_eq_true rfl | (dsimp only [room_1]; omega), by show _ ≤ _; first | exact Nat.le_of_ble_eq_true rfl | (dsimp only [room_1]; omega)⟩ (Nat.le_of_ble_eq_true rfl) (fun E q ce w1 H1 l1 hp => hp.elim) (fun v w1 H locs hp hC => ?_)
  obtain ⟨⟨b2, rfl, hb2⟩, hw⟩ := hp
  refine W.eq (g2 := F0 m 163 ls [.int b2]) rfl ?_
  refine lv_istore (lv' := [(6, .int b2), (5, .int ((o_put day (xs ((6 * n) + 1)) (xs ((6 * n) + 2)) (xs ((6 * n) + 3)) S).1)), (4, .int (nI (6 * n))), (0, .ref b), (1, .ref (K 0)), (2, .ref (J 0)), (3, .ref ao)]) hx hb d_law_163 hl (by decide) rfl (fun ls hl => ?_)
  refine lv_aload_n hx hb d_law_165 rfl (lv_at hl 5 rfl) ?_
  refine t_call (t_invV (As := []) (rest := []) hx hb hown (hts _ w_708) (hts _ w_709) (hts _ w_710) (hts _ w_711) ⟨by decide, by decide⟩ (lw2_J hw hC) rfl d_law_166) (r_thrown hw) zz_c tb_good hts w_7 hC (hl.1.trans hml.symm) ⟨by show _ ≤ _; first | exact Nat.le_of_ble_eq_true rfl | (dsimp only [room_1]; omega), by show _ ≤ _; first | exact Nat.le_of_ble_eq_true rfl | (dsimp only [room_1]; omega), by show _ ≤ _; first | exact Nat.le_of_ble_eq_true rfl | (dsimp only [room_1]; omega), by show _ ≤ _; first | exact Nat.le_of_ble_eq_true rfl | (dsimp only [room_1]; omega)⟩ (Nat.le_of_ble_eq_true rfl) (fun E q ce w1 H1 l1 hp => hp.elim) (fun v w1 H locs hp hC => ?_)
  obtain ⟨rfl, hw⟩ := hp
  refine W.eq (g2 := F0 m 169 ls [.int ((o_put day (xs ((6 * n) + 1)) (xs ((6 * n) + 2)) (xs ((6 * n) + 3)) S).1)]) rfl ?_
  refine lv_iload hx hb d_law_169 (lv_at hl 1 rfl) ?_
  refine lv_icmp_eq (tgt := 176) hx hb d_law_171 (by decide) (fun c171 => ?_) (fun c171 => ?_)
  · skip
    refine lv_iload hx hb d_law_176 (lv_at hl 1 rfl) ?_
    refine lv_if_ne (tgt := 193) hx hb d_law_178 (by decide) (fun c178 => ?_) (fun c178 => ?_)
    · skip
      refine lv_goto (tgt := 1120) hx hb d_law_193 (by decide) ?_
      refine t_more (c2 := cells + 81) (s2 := slots + 2926) (by first | exact Nat.le_of_ble_eq_true rfl | omega | (dsimp only; omega)) (by first | exact Nat.le_of_ble_eq_true rfl | omega | (dsimp only; omega)) ?_
      exact kk _ (Rs) (day) (o_put day (xs ((6 * n) + 1)) (xs ((6 * n) + 2)) (xs ((6 * n) + 3)) S).2.2 _ _ H locs ls (ok_put hok (by omega)) hoR (okD_up hoD) hw hC (lv_sub hl [2, 3, 4, 5, 6] rfl)
    · skip
      refine lv_aload_n hx hb d_law_181 rfl (lv_at hl 6 rfl) ?_
      refine lv_iconst (v := 0) hx hb d_law_182 (by decide) ?_
      obtain ⟨w3, M3, U3, hcw3, hmA3, huA3, rfl⟩ := hw
      refine t_lald hx hb hC 0 2 rfl rfl (show vp_in (0 : Int32) 1 from vp_in_nI (n := 0) (by decide) (by decide)) d_law_183 ?_
      rw [show (0 : Int32).toNatClampNeg = 0 by decide +kernel]
      refine lv_iload hx hb d_law_184 (lv_at hl 0 rfl) ?_
      refine lv_i2l (v := b2.toInt64) hx hb d_law_186 rfl ?_
      refine lv_lcmp_eq hx hb ((hg2 c178).trans (by rw [hb2 c178])) d_law_187 ?_
      refine lv_if_eq (tgt := 193) hx hb d_law_188 (by decide) (fun c188 => ?_) (fun c188 => ?_)
      · skip
        refine lv_goto (tgt := 1120) hx hb d_law_193 (by decide) ?_
        refine t_more (c2 := cells + 81) (s2 := slots + 2926) (by first | exact Nat.le_of_ble_eq_true rfl | omega | (dsimp only; omega)) (by first | exact Nat.le_of_ble_eq_true rfl | omega | (dsimp only; omega)) ?_
        exact kk _ (Rs) (day) (o_put day (xs ((6 * n) + 1)) (xs ((6 * n) + 2)) (xs ((6 * n) + 3)) S).2.2 _ _ H locs ls (ok_put hok (by omega)) hoR (okD_up hoD) ⟨w3, M3, U3, hcw3, hmA3, huA3, rfl⟩ hC (lv_sub hl [2, 3, 4, 5, 6] rfl)
      · first | exact absurd c188 (by decide) | exact absurd (by decide) c188
  · exact absurd rfl c171

set_option maxRecDepth 100000 in
set_option maxHeartbeats 4000000 in
theorem arm_mark {p : Program} {l : Launch} {e : Env} {s : State} {m : MethodId} {below : List Frame} {meth : Method} {c : Code} {Q : State → Prop} {D : va_G} {A : Nat → Prop} {e0 K J : Nat → Nat} {ca : Nat → ClassId} {RL : List Nat} {ao b L n cells slots : Nat} {xs : Nat → Int32} (hst : l.stackTraces = false) (hx : p.tables.exec = Jvm.exec) (hb : c.code = code) (hml : c.maxLocals = 7) (hown : s.vm.findClass "RetentionVaultLaw" = some m.cls) (hts : ∀ z ∈ tb, z.before #[Value.ref b] s = true) (hX : va_X b L xs s s.heap) (hbl : b < s.heap.size) (hbA : ¬ A b) (hRL : RL.length = 6) (hRn : RL.Nodup) (hL : L ≤ 3072) (hnL : 6 * n + 6 ≤ L) (hcl : cells + 81 ≤ 601024) (hsl : slots + 2926 ≤ 7293033) (kk : lK p l e s m below meth c Q D A e0 K J ca RL ao b (n + 1) (nI (6 * n)) (cells + 81) (slots + 2926) 1120) : lK p l e s m below meth c Q D A e0 K J ca RL ao b n (nI (6 * n)) cells slots 196 := by
  intro code Rs day S g w H locs ls hok hoR hoD hw hC hl
  have hn5 : n ≤ 512 := by omega
  refine lv_aload_n hx hb d_law_196 rfl (lv_at hl 2 rfl) ?_
  refine lv_aload_n hx hb d_law_197 rfl (lv_at hl 1 rfl) ?_
  refine lv_iload hx hb d_law_198 (lv_at hl 0 rfl) ?_
  refine lv_iconst (v := 1) hx hb d_law_200 (by decide) ?_
  refine lv_iaddN (a := (6 * n)) (b := 1) hx hb rfl d_law_201 ?_
  refine va_sld hx hb hX hbl hbA hC.2.2.1 (i := nI ((6 * n) + 1)) (vp_in_nI (by omega) (by omega)) d_law_202 ?_
  rw [nI_clamp (by omega)]
  refine lv_aload_n hx hb d_law_203 rfl (lv_at hl 4 rfl) ?_
  refine t_call (t_invSW (As := [.ref (K 0), .int (xs ((6 * n) + 1)), .ref ao]) (rest := []) hx hb hown (hts _ w_388) (hts _ w_389) (hts _ w_0) (hts _ w_390) ⟨by decide, by decide⟩ rfl d_law_204) (l_mark hst hn5 hw hok) zz_c tb_good hts w_0 hC (hl.1.trans hml.symm) ⟨by show _ ≤ _; first | exact Nat.le_of_ble_eq_true rfl | (dsimp only [room_1]; omega), by show _ ≤ _; first | exact Nat.le_of_ble_eq_true rfl | (dsimp only [room_1]; omega), by show _ ≤ _; first | exact Nat.le_of_ble_eq_true rfl | (dsimp only [room_1]; omega), by show _ ≤ _; first | exact Nat.le_of_ble_eq_true rfl | (dsimp only [room_1]; omega)⟩ (Nat.le_of_ble_eq_true rfl) (fun E q ce w1 H1 l1 hp => hp.elim) (fun v w1 H locs hp hC => ?_)
  obtain ⟨rfl, g2, hg2, hw⟩ := hp
  refine W.eq (g2 := F0 m 207 ls [.int ((o_mark day (xs ((6 * n) + 1)) S).1)]) rfl ?_
  refine lv_istore (lv' := [(5, .int ((o_mark day (xs ((6 * n) + 1)) S).1)), (4, .int (nI (6 * n))), (0, .ref b), (1, .ref (K 0)), (2, .ref (J 0)), (3, .ref ao)]) hx hb d_law_207 hl (by decide) rfl (fun ls hl => ?_)
  refine lv_aload_n hx hb d_law_209 rfl (lv_at hl 4 rfl) ?_
  refine lv_aload_n hx hb d_law_210 rfl (lv_at hl 2 rfl) ?_
  refine lv_iload hx hb d_law_211 (lv_at hl 1 rfl) ?_
  refine lv_iconst (v := 1) hx hb d_law_213 (by decide) ?_
  refine lv_iaddN (a := (6 * n)) (b := 1) hx hb rfl d_law_214 ?_
  refine va_sld hx hb hX hbl hbA hC.2.2.1 (i := nI ((6 * n) + 1)) (vp_in_nI (by omega) (by omega)) d_law_215 ?_
  rw [nI_clamp (by omega)]
  refine t_call (t_invV (As := [.int (xs ((6 * n) + 1))]) (rest := []) hx hb hown (hts _ w_730) (hts _ w_731) (hts _ w_732) (hts _ w_733) ⟨by decide, by decide⟩ (lw2_J hw hC) rfl d_law_216) (r_mark hn5 hw hok) zz_c tb_good hts w_7 hC (hl.1.trans hml.symm) ⟨by show _ ≤ _; first | exact Nat.le_of_ble_eq_true rfl | (dsimp only [room_1]; omega), by show _ ≤ _; first | exact Nat.le_of_ble_eq_true rfl | (dsimp only [room_1]; omega), by show _ ≤ _; first | exact Nat.le_of_ble_eq_true rfl | (dsimp only [room_1]; omega), by show _ ≤ _; first | exact Nat.le_of_ble_eq_true rfl | (dsimp only [room_1]; omega)⟩ (Nat.le_of_ble_eq_true rfl) (fun E q ce w1 H1 l1 hp => hp.elim) (fun v w1 H locs hp hC => ?_)
  obtain ⟨⟨b2, rfl, hb2⟩, hw⟩ := hp
  refine W.eq (g2 := F0 m 219 ls [.int b2]) rfl ?_
  refine lv_istore (lv' := [(6, .int b2), (5, .int ((o_mark day (xs ((6 * n) + 1)) S).1)), (4, .int (nI (6 * n))), (0, .ref b), (1, .ref (K 0)), (2, .ref (J 0)), (3, .ref ao)]) hx hb d_law_219 hl (by decide) rfl (fun ls hl => ?_)
  refine lv_aload_n hx hb d_law_221 rfl (lv_at hl 5 rfl) ?_
  refine t_call (t_invV (As := []) (rest := []) hx hb hown (hts _ w_708) (hts _ w_709) (hts _ w_710) (hts _ w_711) ⟨by decide, by decide⟩ (lw2_J hw hC) rfl d_law_222) (r_thrown hw) zz_c tb_good hts w_7 hC (hl.1.trans hml.symm) ⟨by show _ ≤ _; first | exact Nat.le_of_ble_eq_true rfl | (dsimp only [room_1]; omega), by show _ ≤ _; first | exact Nat.le_of_ble_eq_true rfl | (dsimp only [room_1]; omega), by show _ ≤ _; first | exact Nat.le_of_ble_eq_true rfl | (dsimp only [room_1]; omega), by show _ ≤ _; first | exact Nat.le_of_ble_eq_true rfl | (dsimp only [room_1]; omega)⟩ (Nat.le_of_ble_eq_true rfl) (fun E q ce w1 H1 l1 hp => hp.elim) (fun v w1 H locs hp hC => ?_)
  obtain ⟨rfl, hw⟩ := hp
  refine W.eq (g2 := F0 m 225 ls [.int ((o_mark day (xs ((6 * n) + 1)) S).1)]) rfl ?_
  refine lv_iload hx hb d_law_225 (lv_at hl 1 rfl) ?_
  refine lv_icmp_eq (tgt := 232) hx hb d_law_227 (by decide) (fun c227 => ?_) (fun c227 => ?_)
  · skip
    refine lv_iload hx hb d_law_232 (lv_at hl 1 rfl) ?_
    refine lv_if_ne (tgt := 249) hx hb d_law_234 (by decide) (fun c234 => ?_) (fun c234 => ?_)
    · skip
      refine lv_goto (tgt := 1120) hx hb d_law_249 (by decide) ?_
      refine t_more (c2 := cells + 81) (s2 := slots + 2926) (by first | exact Nat.le_of_ble_eq_true rfl | omega | (dsimp only; omega)) (by first | exact Nat.le_of_ble_eq_true rfl | omega | (dsimp only; omega)) ?_
      exact kk _ (Rs) (day) (o_mark day (xs ((6 * n) + 1)) S).2.2 _ _ H locs ls (ok_mark hok (by omega)) hoR (okD_up hoD) hw hC (lv_sub hl [2, 3, 4, 5, 6] rfl)
    · skip
      refine lv_aload_n hx hb d_law_237 rfl (lv_at hl 6 rfl) ?_
      refine lv_iconst (v := 0) hx hb d_law_238 (by decide) ?_
      obtain ⟨w3, M3, U3, hcw3, hmA3, huA3, rfl⟩ := hw
      refine t_lald hx hb hC 0 2 rfl rfl (show vp_in (0 : Int32) 1 from vp_in_nI (n := 0) (by decide) (by decide)) d_law_239 ?_
      rw [show (0 : Int32).toNatClampNeg = 0 by decide +kernel]
      refine lv_iload hx hb d_law_240 (lv_at hl 0 rfl) ?_
      refine lv_i2l (v := b2.toInt64) hx hb d_law_242 rfl ?_
      refine lv_lcmp_eq hx hb ((hg2 c234).trans (by rw [hb2 c234])) d_law_243 ?_
      refine lv_if_eq (tgt := 249) hx hb d_law_244 (by decide) (fun c244 => ?_) (fun c244 => ?_)
      · skip
        refine lv_goto (tgt := 1120) hx hb d_law_249 (by decide) ?_
        refine t_more (c2 := cells + 81) (s2 := slots + 2926) (by first | exact Nat.le_of_ble_eq_true rfl | omega | (dsimp only; omega)) (by first | exact Nat.le_of_ble_eq_true rfl | omega | (dsimp only; omega)) ?_
        exact kk _ (Rs) (day) (o_mark day (xs ((6 * n) + 1)) S).2.2 _ _ H locs ls (ok_mark hok (by omega)) hoR (okD_up hoD) ⟨w3, M3, U3, hcw3, hmA3, huA3, rfl⟩ hC (lv_sub hl [2, 3, 4, 5, 6] rfl)
      · first | exact absurd c244 (by decide) | exact absurd (by decide) c244
  · exact absurd rfl c227

set_option maxRecDepth 100000 in
set_option maxHeartbeats 4000000 in
theorem arm_erase {p : Program} {l : Launch} {e : Env} {s : State} {m : MethodId} {below : List Frame} {meth : Method} {c : Code} {Q : State → Prop} {D : va_G} {A : Nat → Prop} {e0 K J : Nat → Nat} {ca : Nat → ClassId} {RL : List Nat} {ao b L n cells slots : Nat} {xs : Nat → Int32} (hst : l.stackTraces = false) (hx : p.tables.exec = Jvm.exec) (hb : c.code = code) (hml : c.maxLocals = 7) (hown : s.vm.findClass "RetentionVaultLaw" = some m.cls) (hts : ∀ z ∈ tb, z.before #[Value.ref b] s = true) (hX : va_X b L xs s s.heap) (hbl : b < s.heap.size) (hbA : ¬ A b) (hRL : RL.length = 6) (hRn : RL.Nodup) (hL : L ≤ 3072) (hnL : 6 * n + 6 ≤ L) (hcl : cells + 81 ≤ 601024) (hsl : slots + 2926 ≤ 7293033) (kk : lK p l e s m below meth c Q D A e0 K J ca RL ao b (n + 1) (nI (6 * n)) (cells + 81) (slots + 2926) 1120) : lK p l e s m below meth c Q D A e0 K J ca RL ao b n (nI (6 * n)) cells slots 252 := by
  intro code Rs day S g w H locs ls hok hoR hoD hw hC hl
  have hn5 : n ≤ 512 := by omega
  refine lv_aload_n hx hb d_law_252 rfl (lv_at hl 2 rfl) ?_
  refine lv_aload_n hx hb d_law_253 rfl (lv_at hl 1 rfl) ?_
  refine lv_iload hx hb d_law_254 (lv_at hl 0 rfl) ?_
  refine lv_iconst (v := 1) hx hb d_law_256 (by decide) ?_
  refine lv_iaddN (a := (6 * n)) (b := 1) hx hb rfl d_law_257 ?_
  refine va_sld hx hb hX hbl hbA hC.2.2.1 (i := nI ((6 * n) + 1)) (vp_in_nI (by omega) (by omega)) d_law_258 ?_
  rw [nI_clamp (by omega)]
  refine lv_aload_n hx hb d_law_259 rfl (lv_at hl 1 rfl) ?_
  refine lv_iload hx hb d_law_260 (lv_at hl 0 rfl) ?_
  refine lv_iconst (v := 2) hx hb d_law_262 (by decide) ?_
  refine lv_iaddN (a := (6 * n)) (b := 2) hx hb rfl d_law_263 ?_
  refine va_sld hx hb hX hbl hbA hC.2.2.1 (i := nI ((6 * n) + 2)) (vp_in_nI (by omega) (by omega)) d_law_264 ?_
  rw [nI_clamp (by omega)]
  refine lv_if_eq (tgt := 272) hx hb d_law_265 (by decide) (fun c265 => ?_) (fun c265 => ?_)
  · skip
    refine lv_iconst (v := 0) hx hb d_law_272 (by decide) ?_
    refine lv_aload_n hx hb d_law_273 rfl (lv_at hl 4 rfl) ?_
    refine t_call (t_invSW (As := [.ref (K 0), .int (xs ((6 * n) + 1)), .int 0, .ref ao]) (rest := []) hx hb hown (hts _ w_416) (hts _ w_417) (hts _ w_0) (hts _ w_418) ⟨by decide, by decide⟩ rfl d_law_274) (l_erase hst hn5 hw hok) zz_c tb_good hts w_0 hC (hl.1.trans hml.symm) ⟨by show _ ≤ _; first | exact Nat.le_of_ble_eq_true rfl | (dsimp only [room_1]; omega), by show _ ≤ _; first | exact Nat.le_of_ble_eq_true rfl | (dsimp only [room_1]; omega), by show _ ≤ _; first | exact Nat.le_of_ble_eq_true rfl | (dsimp only [room_1]; omega), by show _ ≤ _; first | exact Nat.le_of_ble_eq_true rfl | (dsimp only [room_1]; omega)⟩ (Nat.le_of_ble_eq_true rfl) (fun E q ce w1 H1 l1 hp => hp.elim) (fun v w1 H locs hp hC => ?_)
    obtain ⟨rfl, g2, hg2, hw⟩ := hp
    refine W.eq (g2 := F0 m 277 ls [.int ((o_erase day (xs ((6 * n) + 1)) 0 S).1)]) rfl ?_
    refine lv_istore (lv' := [(5, .int ((o_erase day (xs ((6 * n) + 1)) 0 S).1)), (4, .int (nI (6 * n))), (0, .ref b), (1, .ref (K 0)), (2, .ref (J 0)), (3, .ref ao)]) hx hb d_law_277 hl (by decide) rfl (fun ls hl => ?_)
    refine lv_aload_n hx hb d_law_279 rfl (lv_at hl 4 rfl) ?_
    refine lv_aload_n hx hb d_law_280 rfl (lv_at hl 2 rfl) ?_
    refine lv_iload hx hb d_law_281 (lv_at hl 1 rfl) ?_
    refine lv_iconst (v := 1) hx hb d_law_283 (by decide) ?_
    refine lv_iaddN (a := (6 * n)) (b := 1) hx hb rfl d_law_284 ?_
    refine va_sld hx hb hX hbl hbA hC.2.2.1 (i := nI ((6 * n) + 1)) (vp_in_nI (by omega) (by omega)) d_law_285 ?_
    rw [nI_clamp (by omega)]
    refine lv_aload_n hx hb d_law_286 rfl (lv_at hl 2 rfl) ?_
    refine lv_iload hx hb d_law_287 (lv_at hl 1 rfl) ?_
    refine lv_iconst (v := 2) hx hb d_law_289 (by decide) ?_
    refine lv_iaddN (a := (6 * n)) (b := 2) hx hb rfl d_law_290 ?_
    refine va_sld hx hb hX hbl hbA hC.2.2.1 (i := nI ((6 * n) + 2)) (vp_in_nI (by omega) (by omega)) d_law_291 ?_
    rw [nI_clamp (by omega)]
    refine lv_if_eq (tgt := 299) hx hb d_law_292 (by decide) (fun c292 => ?_) (fun c292 => ?_)
    · skip
      refine lv_iconst (v := 0) hx hb d_law_299 (by decide) ?_
      refine t_call (t_invV (As := [.int (xs ((6 * n) + 1)), .int 0]) (rest := []) hx hb hown (hts _ w_734) (hts _ w_735) (hts _ w_736) (hts _ w_737) ⟨by decide, by decide⟩ (lw2_J hw hC) rfl d_law_300) (r_erase hn5 hw hok) zz_c tb_good hts w_7 hC (hl.1.trans hml.symm) ⟨by show _ ≤ _; first | exact Nat.le_of_ble_eq_true rfl | (dsimp only [room_1]; omega), by show _ ≤ _; first | exact Nat.le_of_ble_eq_true rfl | (dsimp only [room_1]; omega), by show _ ≤ _; first | exact Nat.le_of_ble_eq_true rfl | (dsimp only [room_1]; omega), by show _ ≤ _; first | exact Nat.le_of_ble_eq_true rfl | (dsimp only [room_1]; omega)⟩ (Nat.le_of_ble_eq_true rfl) (fun E q ce w1 H1 l1 hp => hp.elim) (fun v w1 H locs hp hC => ?_)
      obtain ⟨⟨b2, rfl, hb2⟩, hw⟩ := hp
      refine W.eq (g2 := F0 m 303 ls [.int b2]) rfl ?_
      refine lv_istore (lv' := [(6, .int b2), (5, .int ((o_erase day (xs ((6 * n) + 1)) 0 S).1)), (4, .int (nI (6 * n))), (0, .ref b), (1, .ref (K 0)), (2, .ref (J 0)), (3, .ref ao)]) hx hb d_law_303 hl (by decide) rfl (fun ls hl => ?_)
      refine lv_aload_n hx hb d_law_305 rfl (lv_at hl 5 rfl) ?_
      refine t_call (t_invV (As := []) (rest := []) hx hb hown (hts _ w_708) (hts _ w_709) (hts _ w_710) (hts _ w_711) ⟨by decide, by decide⟩ (lw2_J hw hC) rfl d_law_306) (r_thrown hw) zz_c tb_good hts w_7 hC (hl.1.trans hml.symm) ⟨by show _ ≤ _; first | exact Nat.le_of_ble_eq_true rfl | (dsimp only [room_1]; omega), by show _ ≤ _; first | exact Nat.le_of_ble_eq_true rfl | (dsimp only [room_1]; omega), by show _ ≤ _; first | exact Nat.le_of_ble_eq_true rfl | (dsimp only [room_1]; omega), by show _ ≤ _; first | exact Nat.le_of_ble_eq_true rfl | (dsimp only [room_1]; omega)⟩ (Nat.le_of_ble_eq_true rfl) (fun E q ce w1 H1 l1 hp => hp.elim) (fun v w1 H locs hp hC => ?_)
      obtain ⟨rfl, hw⟩ := hp
      refine W.eq (g2 := F0 m 309 ls [.int ((o_erase day (xs ((6 * n) + 1)) 0 S).1)]) rfl ?_
      refine lv_iload hx hb d_law_309 (lv_at hl 1 rfl) ?_
      refine lv_icmp_eq (tgt := 316) hx hb d_law_311 (by decide) (fun c311 => ?_) (fun c311 => ?_)
      · skip
        refine lv_iload hx hb d_law_316 (lv_at hl 1 rfl) ?_
        refine lv_if_ne (tgt := 333) hx hb d_law_318 (by decide) (fun c318 => ?_) (fun c318 => ?_)
        · skip
          refine lv_goto (tgt := 1120) hx hb d_law_333 (by decide) ?_
          refine t_more (c2 := cells + 81) (s2 := slots + 2926) (by first | exact Nat.le_of_ble_eq_true rfl | omega | (dsimp only; omega)) (by first | exact Nat.le_of_ble_eq_true rfl | omega | (dsimp only; omega)) ?_
          exact kk _ (Rs) (day) (o_erase day (xs ((6 * n) + 1)) 0 S).2.2 _ _ H locs ls (ok_erase hok) hoR (okD_up hoD) hw hC (lv_sub hl [2, 3, 4, 5, 6] rfl)
        · skip
          refine lv_aload_n hx hb d_law_321 rfl (lv_at hl 6 rfl) ?_
          refine lv_iconst (v := 0) hx hb d_law_322 (by decide) ?_
          obtain ⟨w3, M3, U3, hcw3, hmA3, huA3, rfl⟩ := hw
          refine t_lald hx hb hC 0 2 rfl rfl (show vp_in (0 : Int32) 1 from vp_in_nI (n := 0) (by decide) (by decide)) d_law_323 ?_
          rw [show (0 : Int32).toNatClampNeg = 0 by decide +kernel]
          refine lv_iload hx hb d_law_324 (lv_at hl 0 rfl) ?_
          refine lv_i2l (v := b2.toInt64) hx hb d_law_326 rfl ?_
          refine lv_lcmp_eq hx hb ((hg2 c318).trans (by rw [hb2 c318])) d_law_327 ?_
          refine lv_if_eq (tgt := 333) hx hb d_law_328 (by decide) (fun c328 => ?_) (fun c328 => ?_)
          · skip
            refine lv_goto (tgt := 1120) hx hb d_law_333 (by decide) ?_
            refine t_more (c2 := cells + 81) (s2 := slots + 2926) (by first | exact Nat.le_of_ble_eq_true rfl | omega | (dsimp only; omega)) (by first | exact Nat.le_of_ble_eq_true rfl | omega | (dsimp only; omega)) ?_
            exact kk _ (Rs) (day) (o_erase day (xs ((6 * n) + 1)) 0 S).2.2 _ _ H locs ls (ok_erase hok) hoR (okD_up hoD) ⟨w3, M3, U3, hcw3, hmA3, huA3, rfl⟩ hC (lv_sub hl [2, 3, 4, 5, 6] rfl)
          · first | exact absurd c328 (by decide) | exact absurd (by decide) c328
      · exact absurd rfl c311
    · exact absurd c265 c292
  · skip
    refine lv_iconst (v := 1) hx hb d_law_268 (by decide) ?_
    refine lv_goto (tgt := 273) hx hb d_law_269 (by decide) ?_
    refine lv_aload_n hx hb d_law_273 rfl (lv_at hl 4 rfl) ?_
    refine t_call (t_invSW (As := [.ref (K 0), .int (xs ((6 * n) + 1)), .int 1, .ref ao]) (rest := []) hx hb hown (hts _ w_416) (hts _ w_417) (hts _ w_0) (hts _ w_418) ⟨by decide, by decide⟩ rfl d_law_274) (l_erase hst hn5 hw hok) zz_c tb_good hts w_0 hC (hl.1.trans hml.symm) ⟨by show _ ≤ _; first | exact Nat.le_of_ble_eq_true rfl | (dsimp only [room_1]; omega), by show _ ≤ _; first | exact Nat.le_of_ble_eq_true rfl | (dsimp only [room_1]; omega), by show _ ≤ _; first | exact Nat.le_of_ble_eq_true rfl | (dsimp only [room_1]; omega), by show _ ≤ _; first | exact Nat.le_of_ble_eq_true rfl | (dsimp only [room_1]; omega)⟩ (Nat.le_of_ble_eq_true rfl) (fun E q ce w1 H1 l1 hp => hp.elim) (fun v w1 H locs hp hC => ?_)
    obtain ⟨rfl, g2, hg2, hw⟩ := hp
    refine W.eq (g2 := F0 m 277 ls [.int ((o_erase day (xs ((6 * n) + 1)) 1 S).1)]) rfl ?_
    refine lv_istore (lv' := [(5, .int ((o_erase day (xs ((6 * n) + 1)) 1 S).1)), (4, .int (nI (6 * n))), (0, .ref b), (1, .ref (K 0)), (2, .ref (J 0)), (3, .ref ao)]) hx hb d_law_277 hl (by decide) rfl (fun ls hl => ?_)
    refine lv_aload_n hx hb d_law_279 rfl (lv_at hl 4 rfl) ?_
    refine lv_aload_n hx hb d_law_280 rfl (lv_at hl 2 rfl) ?_
    refine lv_iload hx hb d_law_281 (lv_at hl 1 rfl) ?_
    refine lv_iconst (v := 1) hx hb d_law_283 (by decide) ?_
    refine lv_iaddN (a := (6 * n)) (b := 1) hx hb rfl d_law_284 ?_
    refine va_sld hx hb hX hbl hbA hC.2.2.1 (i := nI ((6 * n) + 1)) (vp_in_nI (by omega) (by omega)) d_law_285 ?_
    rw [nI_clamp (by omega)]
    refine lv_aload_n hx hb d_law_286 rfl (lv_at hl 2 rfl) ?_
    refine lv_iload hx hb d_law_287 (lv_at hl 1 rfl) ?_
    refine lv_iconst (v := 2) hx hb d_law_289 (by decide) ?_
    refine lv_iaddN (a := (6 * n)) (b := 2) hx hb rfl d_law_290 ?_
    refine va_sld hx hb hX hbl hbA hC.2.2.1 (i := nI ((6 * n) + 2)) (vp_in_nI (by omega) (by omega)) d_law_291 ?_
    rw [nI_clamp (by omega)]
    refine lv_if_eq (tgt := 299) hx hb d_law_292 (by decide) (fun c292 => ?_) (fun c292 => ?_)
    · exact absurd c292 c265
    · skip
      refine lv_iconst (v := 1) hx hb d_law_295 (by decide) ?_
      refine lv_goto (tgt := 300) hx hb d_law_296 (by decide) ?_
      refine t_call (t_invV (As := [.int (xs ((6 * n) + 1)), .int 1]) (rest := []) hx hb hown (hts _ w_734) (hts _ w_735) (hts _ w_736) (hts _ w_737) ⟨by decide, by decide⟩ (lw2_J hw hC) rfl d_law_300) (r_erase hn5 hw hok) zz_c tb_good hts w_7 hC (hl.1.trans hml.symm) ⟨by show _ ≤ _; first | exact Nat.le_of_ble_eq_true rfl | (dsimp only [room_1]; omega), by show _ ≤ _; first | exact Nat.le_of_ble_eq_true rfl | (dsimp only [room_1]; omega), by show _ ≤ _; first | exact Nat.le_of_ble_eq_true rfl | (dsimp only [room_1]; omega), by show _ ≤ _; first | exact Nat.le_of_ble_eq_true rfl | (dsimp only [room_1]; omega)⟩ (Nat.le_of_ble_eq_true rfl) (fun E q ce w1 H1 l1 hp => hp.elim) (fun v w1 H locs hp hC => ?_)
      obtain ⟨⟨b2, rfl, hb2⟩, hw⟩ := hp
      refine W.eq (g2 := F0 m 303 ls [.int b2]) rfl ?_
      refine lv_istore (lv' := [(6, .int b2), (5, .int ((o_erase day (xs ((6 * n) + 1)) 1 S).1)), (4, .int (nI (6 * n))), (0, .ref b), (1, .ref (K 0)), (2, .ref (J 0)), (3, .ref ao)]) hx hb d_law_303 hl (by decide) rfl (fun ls hl => ?_)
      refine lv_aload_n hx hb d_law_305 rfl (lv_at hl 5 rfl) ?_
      refine t_call (t_invV (As := []) (rest := []) hx hb hown (hts _ w_708) (hts _ w_709) (hts _ w_710) (hts _ w_711) ⟨by decide, by decide⟩ (lw2_J hw hC) rfl d_law_306) (r_thrown hw) zz_c tb_good hts w_7 hC (hl.1.trans hml.symm) ⟨by show _ ≤ _; first | exact Nat.le_of_ble_eq_true rfl | (dsimp only [room_1]; omega), by show _ ≤ _; first | exact Nat.le_of_ble_eq_true rfl | (dsimp only [room_1]; omega), by show _ ≤ _; first | exact Nat.le_of_ble_eq_true rfl | (dsimp only [room_1]; omega), by show _ ≤ _; first | exact Nat.le_of_ble_eq_true rfl | (dsimp only [room_1]; omega)⟩ (Nat.le_of_ble_eq_true rfl) (fun E q ce w1 H1 l1 hp => hp.elim) (fun v w1 H locs hp hC => ?_)
      obtain ⟨rfl, hw⟩ := hp
      refine W.eq (g2 := F0 m 309 ls [.int ((o_erase day (xs ((6 * n) + 1)) 1 S).1)]) rfl ?_
      refine lv_iload hx hb d_law_309 (lv_at hl 1 rfl) ?_
      refine lv_icmp_eq (tgt := 316) hx hb d_law_311 (by decide) (fun c311 => ?_) (fun c311 => ?_)
      · skip
        refine lv_iload hx hb d_law_316 (lv_at hl 1 rfl) ?_
        refine lv_if_ne (tgt := 333) hx hb d_law_318 (by decide) (fun c318 => ?_) (fun c318 => ?_)
        · skip
          refine lv_goto (tgt := 1120) hx hb d_law_333 (by decide) ?_
          refine t_more (c2 := cells + 81) (s2 := slots + 2926) (by first | exact Nat.le_of_ble_eq_true rfl | omega | (dsimp only; omega)) (by first | exact Nat.le_of_ble_eq_true rfl | omega | (dsimp only; omega)) ?_
          exact kk _ (Rs) (day) (o_erase day (xs ((6 * n) + 1)) 1 S).2.2 _ _ H locs ls (ok_erase hok) hoR (okD_up hoD) hw hC (lv_sub hl [2, 3, 4, 5, 6] rfl)
        · skip
          refine lv_aload_n hx hb d_law_321 rfl (lv_at hl 6 rfl) ?_
          refine lv_iconst (v := 0) hx hb d_law_322 (by decide) ?_
          obtain ⟨w3, M3, U3, hcw3, hmA3, huA3, rfl⟩ := hw
          refine t_lald hx hb hC 0 2 rfl rfl (show vp_in (0 : Int32) 1 from vp_in_nI (n := 0) (by decide) (by decide)) d_law_323 ?_
          rw [show (0 : Int32).toNatClampNeg = 0 by decide +kernel]
          refine lv_iload hx hb d_law_324 (lv_at hl 0 rfl) ?_
          refine lv_i2l (v := b2.toInt64) hx hb d_law_326 rfl ?_
          refine lv_lcmp_eq hx hb ((hg2 c318).trans (by rw [hb2 c318])) d_law_327 ?_
          refine lv_if_eq (tgt := 333) hx hb d_law_328 (by decide) (fun c328 => ?_) (fun c328 => ?_)
          · skip
            refine lv_goto (tgt := 1120) hx hb d_law_333 (by decide) ?_
            refine t_more (c2 := cells + 81) (s2 := slots + 2926) (by first | exact Nat.le_of_ble_eq_true rfl | omega | (dsimp only; omega)) (by first | exact Nat.le_of_ble_eq_true rfl | omega | (dsimp only; omega)) ?_
            exact kk _ (Rs) (day) (o_erase day (xs ((6 * n) + 1)) 1 S).2.2 _ _ H locs ls (ok_erase hok) hoR (okD_up hoD) ⟨w3, M3, U3, hcw3, hmA3, huA3, rfl⟩ hC (lv_sub hl [2, 3, 4, 5, 6] rfl)
          · first | exact absurd c328 (by decide) | exact absurd (by decide) c328
      · exact absurd rfl c311

set_option maxRecDepth 100000 in
set_option maxHeartbeats 4000000 in
theorem arm_retain {p : Program} {l : Launch} {e : Env} {s : State} {m : MethodId} {below : List Frame} {meth : Method} {c : Code} {Q : State → Prop} {D : va_G} {A : Nat → Prop} {e0 K J : Nat → Nat} {ca : Nat → ClassId} {RL : List Nat} {ao b L n cells slots : Nat} {xs : Nat → Int32} (hst : l.stackTraces = false) (hx : p.tables.exec = Jvm.exec) (hb : c.code = code) (hml : c.maxLocals = 7) (hown : s.vm.findClass "RetentionVaultLaw" = some m.cls) (hts : ∀ z ∈ tb, z.before #[Value.ref b] s = true) (hX : va_X b L xs s s.heap) (hbl : b < s.heap.size) (hbA : ¬ A b) (hRL : RL.length = 6) (hRn : RL.Nodup) (hL : L ≤ 3072) (hnL : 6 * n + 6 ≤ L) (hcl : cells + 81 ≤ 601024) (hsl : slots + 2926 ≤ 7293033) (kk : lK p l e s m below meth c Q D A e0 K J ca RL ao b (n + 1) (nI (6 * n)) (cells + 81) (slots + 2926) 1120) : lK p l e s m below meth c Q D A e0 K J ca RL ao b n (nI (6 * n)) cells slots 336 := by
  intro code Rs day S g w H locs ls hok hoR hoD hw hC hl
  have hn5 : n ≤ 512 := by omega
  refine lv_aload_n hx hb d_law_336 rfl (lv_at hl 2 rfl) ?_
  refine lv_aload_n hx hb d_law_337 rfl (lv_at hl 1 rfl) ?_
  refine lv_iload hx hb d_law_338 (lv_at hl 0 rfl) ?_
  refine lv_iconst (v := 1) hx hb d_law_340 (by decide) ?_
  refine lv_iaddN (a := (6 * n)) (b := 1) hx hb rfl d_law_341 ?_
  refine va_sld hx hb hX hbl hbA hC.2.2.1 (i := nI ((6 * n) + 1)) (vp_in_nI (by omega) (by omega)) d_law_342 ?_
  rw [nI_clamp (by omega)]
  refine lv_aload_n hx hb d_law_343 rfl (lv_at hl 1 rfl) ?_
  refine lv_iload hx hb d_law_344 (lv_at hl 0 rfl) ?_
  refine lv_iconst (v := 2) hx hb d_law_346 (by decide) ?_
  refine lv_iaddN (a := (6 * n)) (b := 2) hx hb rfl d_law_347 ?_
  refine va_sld hx hb hX hbl hbA hC.2.2.1 (i := nI ((6 * n) + 2)) (vp_in_nI (by omega) (by omega)) d_law_348 ?_
  rw [nI_clamp (by omega)]
  refine lv_aload_n hx hb d_law_349 rfl (lv_at hl 1 rfl) ?_
  refine lv_iload hx hb d_law_350 (lv_at hl 0 rfl) ?_
  refine lv_iconst (v := 3) hx hb d_law_352 (by decide) ?_
  refine lv_iaddN (a := (6 * n)) (b := 3) hx hb rfl d_law_353 ?_
  refine va_sld hx hb hX hbl hbA hC.2.2.1 (i := nI ((6 * n) + 3)) (vp_in_nI (by omega) (by omega)) d_law_354 ?_
  rw [nI_clamp (by omega)]
  refine lv_if_eq (tgt := 362) hx hb d_law_355 (by decide) (fun c355 => ?_) (fun c355 => ?_)
  · skip
    refine lv_iconst (v := 0) hx hb d_law_362 (by decide) ?_
    refine t_call (t_invSW (As := [.ref (K 0), .int (xs ((6 * n) + 1)), .int (xs ((6 * n) + 2)), .int 0]) (rest := []) hx hb hown (hts _ w_455) (hts _ w_456) (hts _ w_0) (hts _ w_457) ⟨by decide, by decide⟩ rfl d_law_363) (l_retain hst hn5 hw hok (Or.inl rfl)) zz_c tb_good hts w_0 hC (hl.1.trans hml.symm) ⟨by show _ ≤ _; first | exact Nat.le_of_ble_eq_true rfl | (dsimp only [room_1]; omega), by show _ ≤ _; first | exact Nat.le_of_ble_eq_true rfl | (dsimp only [room_1]; omega), by show _ ≤ _; first | exact Nat.le_of_ble_eq_true rfl | (dsimp only [room_1]; omega), by show _ ≤ _; first | exact Nat.le_of_ble_eq_true rfl | (dsimp only [room_1]; omega)⟩ (Nat.le_of_ble_eq_true rfl) (fun E q ce w1 H1 l1 hp => hp.elim) (fun v w1 H locs hp hC => ?_)
    obtain ⟨rfl, g2, hg2, hw⟩ := hp
    refine W.eq (g2 := F0 m 366 ls [.int ((o_retain day (xs ((6 * n) + 1)) (xs ((6 * n) + 2)) 0 S).1)]) rfl ?_
    refine lv_istore (lv' := [(5, .int ((o_retain day (xs ((6 * n) + 1)) (xs ((6 * n) + 2)) 0 S).1)), (4, .int (nI (6 * n))), (0, .ref b), (1, .ref (K 0)), (2, .ref (J 0)), (3, .ref ao)]) hx hb d_law_366 hl (by decide) rfl (fun ls hl => ?_)
    refine lv_aload_n hx hb d_law_368 rfl (lv_at hl 4 rfl) ?_
    refine lv_aload_n hx hb d_law_369 rfl (lv_at hl 2 rfl) ?_
    refine lv_iload hx hb d_law_370 (lv_at hl 1 rfl) ?_
    refine lv_iconst (v := 1) hx hb d_law_372 (by decide) ?_
    refine lv_iaddN (a := (6 * n)) (b := 1) hx hb rfl d_law_373 ?_
    refine va_sld hx hb hX hbl hbA hC.2.2.1 (i := nI ((6 * n) + 1)) (vp_in_nI (by omega) (by omega)) d_law_374 ?_
    rw [nI_clamp (by omega)]
    refine lv_aload_n hx hb d_law_375 rfl (lv_at hl 2 rfl) ?_
    refine lv_iload hx hb d_law_376 (lv_at hl 1 rfl) ?_
    refine lv_iconst (v := 2) hx hb d_law_378 (by decide) ?_
    refine lv_iaddN (a := (6 * n)) (b := 2) hx hb rfl d_law_379 ?_
    refine va_sld hx hb hX hbl hbA hC.2.2.1 (i := nI ((6 * n) + 2)) (vp_in_nI (by omega) (by omega)) d_law_380 ?_
    rw [nI_clamp (by omega)]
    refine lv_aload_n hx hb d_law_381 rfl (lv_at hl 2 rfl) ?_
    refine lv_iload hx hb d_law_382 (lv_at hl 1 rfl) ?_
    refine lv_iconst (v := 3) hx hb d_law_384 (by decide) ?_
    refine lv_iaddN (a := (6 * n)) (b := 3) hx hb rfl d_law_385 ?_
    refine va_sld hx hb hX hbl hbA hC.2.2.1 (i := nI ((6 * n) + 3)) (vp_in_nI (by omega) (by omega)) d_law_386 ?_
    rw [nI_clamp (by omega)]
    refine lv_if_eq (tgt := 394) hx hb d_law_387 (by decide) (fun c387 => ?_) (fun c387 => ?_)
    · skip
      refine lv_iconst (v := 0) hx hb d_law_394 (by decide) ?_
      refine t_call (t_invV (As := [.int (xs ((6 * n) + 1)), .int (xs ((6 * n) + 2)), .int 0]) (rest := []) hx hb hown (hts _ w_750) (hts _ w_751) (hts _ w_752) (hts _ w_753) ⟨by decide, by decide⟩ (lw2_J hw hC) rfl d_law_395) (r_retain hn5 hw hok (Or.inl rfl)) zz_c tb_good hts w_7 hC (hl.1.trans hml.symm) ⟨by show _ ≤ _; first | exact Nat.le_of_ble_eq_true rfl | (dsimp only [room_1]; omega), by show _ ≤ _; first | exact Nat.le_of_ble_eq_true rfl | (dsimp only [room_1]; omega), by show _ ≤ _; first | exact Nat.le_of_ble_eq_true rfl | (dsimp only [room_1]; omega), by show _ ≤ _; first | exact Nat.le_of_ble_eq_true rfl | (dsimp only [room_1]; omega)⟩ (Nat.le_of_ble_eq_true rfl) (fun E q ce w1 H1 l1 hp => hp.elim) (fun v w1 H locs hp hC => ?_)
      obtain ⟨rfl, hw⟩ := hp
      refine W.eq (g2 := F0 m 398 ls []) rfl ?_
      refine lv_aload_n hx hb d_law_398 rfl (lv_at hl 4 rfl) ?_
      refine t_call (t_invV (As := []) (rest := []) hx hb hown (hts _ w_708) (hts _ w_709) (hts _ w_710) (hts _ w_711) ⟨by decide, by decide⟩ (lw2_J hw hC) rfl d_law_399) (r_thrown hw) zz_c tb_good hts w_7 hC (hl.1.trans hml.symm) ⟨by show _ ≤ _; first | exact Nat.le_of_ble_eq_true rfl | (dsimp only [room_1]; omega), by show _ ≤ _; first | exact Nat.le_of_ble_eq_true rfl | (dsimp only [room_1]; omega), by show _ ≤ _; first | exact Nat.le_of_ble_eq_true rfl | (dsimp only [room_1]; omega), by show _ ≤ _; first | exact Nat.le_of_ble_eq_true rfl | (dsimp only [room_1]; omega)⟩ (Nat.le_of_ble_eq_true rfl) (fun E q ce w1 H1 l1 hp => hp.elim) (fun v w1 H locs hp hC => ?_)
      obtain ⟨rfl, hw⟩ := hp
      refine W.eq (g2 := F0 m 402 ls [.int ((o_retain day (xs ((6 * n) + 1)) (xs ((6 * n) + 2)) 0 S).1)]) rfl ?_
      refine lv_iload hx hb d_law_402 (lv_at hl 0 rfl) ?_
      refine lv_icmp_eq (tgt := 409) hx hb d_law_404 (by decide) (fun c404 => ?_) (fun c404 => ?_)
      · skip
        refine lv_goto (tgt := 1120) hx hb d_law_409 (by decide) ?_
        refine t_more (c2 := cells + 81) (s2 := slots + 2926) (by first | exact Nat.le_of_ble_eq_true rfl | omega | (dsimp only; omega)) (by first | exact Nat.le_of_ble_eq_true rfl | omega | (dsimp only; omega)) ?_
        exact kk _ (Rs) (day) (o_retain day (xs ((6 * n) + 1)) (xs ((6 * n) + 2)) 0 S).2.2 _ _ H locs ls (ok_retain (Or.inl rfl) hok) hoR (okD_up hoD) hw hC (lv_sub hl [1, 2, 3, 4, 5] rfl)
      · exact absurd rfl c404
    · exact absurd c355 c387
  · skip
    refine lv_iconst (v := 1) hx hb d_law_358 (by decide) ?_
    refine lv_goto (tgt := 363) hx hb d_law_359 (by decide) ?_
    refine t_call (t_invSW (As := [.ref (K 0), .int (xs ((6 * n) + 1)), .int (xs ((6 * n) + 2)), .int 1]) (rest := []) hx hb hown (hts _ w_455) (hts _ w_456) (hts _ w_0) (hts _ w_457) ⟨by decide, by decide⟩ rfl d_law_363) (l_retain hst hn5 hw hok (Or.inr rfl)) zz_c tb_good hts w_0 hC (hl.1.trans hml.symm) ⟨by show _ ≤ _; first | exact Nat.le_of_ble_eq_true rfl | (dsimp only [room_1]; omega), by show _ ≤ _; first | exact Nat.le_of_ble_eq_true rfl | (dsimp only [room_1]; omega), by show _ ≤ _; first | exact Nat.le_of_ble_eq_true rfl | (dsimp only [room_1]; omega), by show _ ≤ _; first | exact Nat.le_of_ble_eq_true rfl | (dsimp only [room_1]; omega)⟩ (Nat.le_of_ble_eq_true rfl) (fun E q ce w1 H1 l1 hp => hp.elim) (fun v w1 H locs hp hC => ?_)
    obtain ⟨rfl, g2, hg2, hw⟩ := hp
    refine W.eq (g2 := F0 m 366 ls [.int ((o_retain day (xs ((6 * n) + 1)) (xs ((6 * n) + 2)) 1 S).1)]) rfl ?_
    refine lv_istore (lv' := [(5, .int ((o_retain day (xs ((6 * n) + 1)) (xs ((6 * n) + 2)) 1 S).1)), (4, .int (nI (6 * n))), (0, .ref b), (1, .ref (K 0)), (2, .ref (J 0)), (3, .ref ao)]) hx hb d_law_366 hl (by decide) rfl (fun ls hl => ?_)
    refine lv_aload_n hx hb d_law_368 rfl (lv_at hl 4 rfl) ?_
    refine lv_aload_n hx hb d_law_369 rfl (lv_at hl 2 rfl) ?_
    refine lv_iload hx hb d_law_370 (lv_at hl 1 rfl) ?_
    refine lv_iconst (v := 1) hx hb d_law_372 (by decide) ?_
    refine lv_iaddN (a := (6 * n)) (b := 1) hx hb rfl d_law_373 ?_
    refine va_sld hx hb hX hbl hbA hC.2.2.1 (i := nI ((6 * n) + 1)) (vp_in_nI (by omega) (by omega)) d_law_374 ?_
    rw [nI_clamp (by omega)]
    refine lv_aload_n hx hb d_law_375 rfl (lv_at hl 2 rfl) ?_
    refine lv_iload hx hb d_law_376 (lv_at hl 1 rfl) ?_
    refine lv_iconst (v := 2) hx hb d_law_378 (by decide) ?_
    refine lv_iaddN (a := (6 * n)) (b := 2) hx hb rfl d_law_379 ?_
    refine va_sld hx hb hX hbl hbA hC.2.2.1 (i := nI ((6 * n) + 2)) (vp_in_nI (by omega) (by omega)) d_law_380 ?_
    rw [nI_clamp (by omega)]
    refine lv_aload_n hx hb d_law_381 rfl (lv_at hl 2 rfl) ?_
    refine lv_iload hx hb d_law_382 (lv_at hl 1 rfl) ?_
    refine lv_iconst (v := 3) hx hb d_law_384 (by decide) ?_
    refine lv_iaddN (a := (6 * n)) (b := 3) hx hb rfl d_law_385 ?_
    refine va_sld hx hb hX hbl hbA hC.2.2.1 (i := nI ((6 * n) + 3)) (vp_in_nI (by omega) (by omega)) d_law_386 ?_
    rw [nI_clamp (by omega)]
    refine lv_if_eq (tgt := 394) hx hb d_law_387 (by decide) (fun c387 => ?_) (fun c387 => ?_)
    · exact absurd c387 c355
    · skip
      refine lv_iconst (v := 1) hx hb d_law_390 (by decide) ?_
      refine lv_goto (tgt := 395) hx hb d_law_391 (by decide) ?_
      refine t_call (t_invV (As := [.int (xs ((6 * n) + 1)), .int (xs ((6 * n) + 2)), .int 1]) (rest := []) hx hb hown (hts _ w_750) (hts _ w_751) (hts _ w_752) (hts _ w_753) ⟨by decide, by decide⟩ (lw2_J hw hC) rfl d_law_395) (r_retain hn5 hw hok (Or.inr rfl)) zz_c tb_good hts w_7 hC (hl.1.trans hml.symm) ⟨by show _ ≤ _; first | exact Nat.le_of_ble_eq_true rfl | (dsimp only [room_1]; omega), by show _ ≤ _; first | exact Nat.le_of_ble_eq_true rfl | (dsimp only [room_1]; omega), by show _ ≤ _; first | exact Nat.le_of_ble_eq_true rfl | (dsimp only [room_1]; omega), by show _ ≤ _; first | exact Nat.le_of_ble_eq_true rfl | (dsimp only [room_1]; omega)⟩ (Nat.le_of_ble_eq_true rfl) (fun E q ce w1 H1 l1 hp => hp.elim) (fun v w1 H locs hp hC => ?_)
      obtain ⟨rfl, hw⟩ := hp
      refine W.eq (g2 := F0 m 398 ls []) rfl ?_
      refine lv_aload_n hx hb d_law_398 rfl (lv_at hl 4 rfl) ?_
      refine t_call (t_invV (As := []) (rest := []) hx hb hown (hts _ w_708) (hts _ w_709) (hts _ w_710) (hts _ w_711) ⟨by decide, by decide⟩ (lw2_J hw hC) rfl d_law_399) (r_thrown hw) zz_c tb_good hts w_7 hC (hl.1.trans hml.symm) ⟨by show _ ≤ _; first | exact Nat.le_of_ble_eq_true rfl | (dsimp only [room_1]; omega), by show _ ≤ _; first | exact Nat.le_of_ble_eq_true rfl | (dsimp only [room_1]; omega), by show _ ≤ _; first | exact Nat.le_of_ble_eq_true rfl | (dsimp only [room_1]; omega), by show _ ≤ _; first | exact Nat.le_of_ble_eq_true rfl | (dsimp only [room_1]; omega)⟩ (Nat.le_of_ble_eq_true rfl) (fun E q ce w1 H1 l1 hp => hp.elim) (fun v w1 H locs hp hC => ?_)
      obtain ⟨rfl, hw⟩ := hp
      refine W.eq (g2 := F0 m 402 ls [.int ((o_retain day (xs ((6 * n) + 1)) (xs ((6 * n) + 2)) 1 S).1)]) rfl ?_
      refine lv_iload hx hb d_law_402 (lv_at hl 0 rfl) ?_
      refine lv_icmp_eq (tgt := 409) hx hb d_law_404 (by decide) (fun c404 => ?_) (fun c404 => ?_)
      · skip
        refine lv_goto (tgt := 1120) hx hb d_law_409 (by decide) ?_
        refine t_more (c2 := cells + 81) (s2 := slots + 2926) (by first | exact Nat.le_of_ble_eq_true rfl | omega | (dsimp only; omega)) (by first | exact Nat.le_of_ble_eq_true rfl | omega | (dsimp only; omega)) ?_
        exact kk _ (Rs) (day) (o_retain day (xs ((6 * n) + 1)) (xs ((6 * n) + 2)) 1 S).2.2 _ _ H locs ls (ok_retain (Or.inr rfl) hok) hoR (okD_up hoD) hw hC (lv_sub hl [1, 2, 3, 4, 5] rfl)
      · exact absurd rfl c404

set_option maxRecDepth 100000 in
set_option maxHeartbeats 4000000 in
theorem arm_hold {p : Program} {l : Launch} {e : Env} {s : State} {m : MethodId} {below : List Frame} {meth : Method} {c : Code} {Q : State → Prop} {D : va_G} {A : Nat → Prop} {e0 K J : Nat → Nat} {ca : Nat → ClassId} {RL : List Nat} {ao b L n cells slots : Nat} {xs : Nat → Int32} (hst : l.stackTraces = false) (hx : p.tables.exec = Jvm.exec) (hb : c.code = code) (hml : c.maxLocals = 7) (hown : s.vm.findClass "RetentionVaultLaw" = some m.cls) (hts : ∀ z ∈ tb, z.before #[Value.ref b] s = true) (hX : va_X b L xs s s.heap) (hbl : b < s.heap.size) (hbA : ¬ A b) (hRL : RL.length = 6) (hRn : RL.Nodup) (hL : L ≤ 3072) (hnL : 6 * n + 6 ≤ L) (hcl : cells + 81 ≤ 601024) (hsl : slots + 2926 ≤ 7293033) (kk : lK p l e s m below meth c Q D A e0 K J ca RL ao b (n + 1) (nI (6 * n)) (cells + 81) (slots + 2926) 1120) : lK p l e s m below meth c Q D A e0 K J ca RL ao b n (nI (6 * n)) cells slots 412 := by
  intro code Rs day S g w H locs ls hok hoR hoD hw hC hl
  have hn5 : n ≤ 512 := by omega
  refine lv_aload_n hx hb d_law_412 rfl (lv_at hl 2 rfl) ?_
  refine lv_aload_n hx hb d_law_413 rfl (lv_at hl 1 rfl) ?_
  refine lv_iload hx hb d_law_414 (lv_at hl 0 rfl) ?_
  refine lv_iconst (v := 1) hx hb d_law_416 (by decide) ?_
  refine lv_iaddN (a := (6 * n)) (b := 1) hx hb rfl d_law_417 ?_
  refine va_sld hx hb hX hbl hbA hC.2.2.1 (i := nI ((6 * n) + 1)) (vp_in_nI (by omega) (by omega)) d_law_418 ?_
  rw [nI_clamp (by omega)]
  refine lv_aload_n hx hb d_law_419 rfl (lv_at hl 1 rfl) ?_
  refine lv_iload hx hb d_law_420 (lv_at hl 0 rfl) ?_
  refine lv_iconst (v := 2) hx hb d_law_422 (by decide) ?_
  refine lv_iaddN (a := (6 * n)) (b := 2) hx hb rfl d_law_423 ?_
  refine va_sld hx hb hX hbl hbA hC.2.2.1 (i := nI ((6 * n) + 2)) (vp_in_nI (by omega) (by omega)) d_law_424 ?_
  rw [nI_clamp (by omega)]
  refine lv_aload_n hx hb d_law_425 rfl (lv_at hl 1 rfl) ?_
  refine lv_iload hx hb d_law_426 (lv_at hl 0 rfl) ?_
  refine lv_iconst (v := 3) hx hb d_law_428 (by decide) ?_
  refine lv_iaddN (a := (6 * n)) (b := 3) hx hb rfl d_law_429 ?_
  refine va_sld hx hb hX hbl hbA hC.2.2.1 (i := nI ((6 * n) + 3)) (vp_in_nI (by omega) (by omega)) d_law_430 ?_
  rw [nI_clamp (by omega)]
  refine lv_if_eq (tgt := 438) hx hb d_law_431 (by decide) (fun c431 => ?_) (fun c431 => ?_)
  · skip
    refine lv_iconst (v := 0) hx hb d_law_438 (by decide) ?_
    refine lv_aload_n hx hb d_law_439 rfl (lv_at hl 4 rfl) ?_
    refine t_call (t_invSW (As := [.ref (K 0), .int (xs ((6 * n) + 1)), .int (xs ((6 * n) + 2)), .int 0, .ref ao]) (rest := []) hx hb hown (hts _ w_468) (hts _ w_469) (hts _ w_0) (hts _ w_470) ⟨by decide, by decide⟩ rfl d_law_440) (l_hold hst hn5 hw hok (Or.inl rfl)) zz_c tb_good hts w_0 hC (hl.1.trans hml.symm) ⟨by show _ ≤ _; first | exact Nat.le_of_ble_eq_true rfl | (dsimp only [room_1]; omega), by show _ ≤ _; first | exact Nat.le_of_ble_eq_true rfl | (dsimp only [room_1]; omega), by show _ ≤ _; first | exact Nat.le_of_ble_eq_true rfl | (dsimp only [room_1]; omega), by show _ ≤ _; first | exact Nat.le_of_ble_eq_true rfl | (dsimp only [room_1]; omega)⟩ (Nat.le_of_ble_eq_true rfl) (fun E q ce w1 H1 l1 hp => hp.elim) (fun v w1 H locs hp hC => ?_)
    obtain ⟨rfl, g2, hg2, hw⟩ := hp
    refine W.eq (g2 := F0 m 443 ls [.int ((o_hold day (xs ((6 * n) + 1)) (xs ((6 * n) + 2)) 0 S).1)]) rfl ?_
    refine lv_istore (lv' := [(5, .int ((o_hold day (xs ((6 * n) + 1)) (xs ((6 * n) + 2)) 0 S).1)), (4, .int (nI (6 * n))), (0, .ref b), (1, .ref (K 0)), (2, .ref (J 0)), (3, .ref ao)]) hx hb d_law_443 hl (by decide) rfl (fun ls hl => ?_)
    refine lv_aload_n hx hb d_law_445 rfl (lv_at hl 4 rfl) ?_
    refine lv_aload_n hx hb d_law_446 rfl (lv_at hl 2 rfl) ?_
    refine lv_iload hx hb d_law_447 (lv_at hl 1 rfl) ?_
    refine lv_iconst (v := 1) hx hb d_law_449 (by decide) ?_
    refine lv_iaddN (a := (6 * n)) (b := 1) hx hb rfl d_law_450 ?_
    refine va_sld hx hb hX hbl hbA hC.2.2.1 (i := nI ((6 * n) + 1)) (vp_in_nI (by omega) (by omega)) d_law_451 ?_
    rw [nI_clamp (by omega)]
    refine lv_aload_n hx hb d_law_452 rfl (lv_at hl 2 rfl) ?_
    refine lv_iload hx hb d_law_453 (lv_at hl 1 rfl) ?_
    refine lv_iconst (v := 2) hx hb d_law_455 (by decide) ?_
    refine lv_iaddN (a := (6 * n)) (b := 2) hx hb rfl d_law_456 ?_
    refine va_sld hx hb hX hbl hbA hC.2.2.1 (i := nI ((6 * n) + 2)) (vp_in_nI (by omega) (by omega)) d_law_457 ?_
    rw [nI_clamp (by omega)]
    refine lv_aload_n hx hb d_law_458 rfl (lv_at hl 2 rfl) ?_
    refine lv_iload hx hb d_law_459 (lv_at hl 1 rfl) ?_
    refine lv_iconst (v := 3) hx hb d_law_461 (by decide) ?_
    refine lv_iaddN (a := (6 * n)) (b := 3) hx hb rfl d_law_462 ?_
    refine va_sld hx hb hX hbl hbA hC.2.2.1 (i := nI ((6 * n) + 3)) (vp_in_nI (by omega) (by omega)) d_law_463 ?_
    rw [nI_clamp (by omega)]
    refine lv_if_eq (tgt := 471) hx hb d_law_464 (by decide) (fun c464 => ?_) (fun c464 => ?_)
    · skip
      refine lv_iconst (v := 0) hx hb d_law_471 (by decide) ?_
      refine t_call (t_invV (As := [.int (xs ((6 * n) + 1)), .int (xs ((6 * n) + 2)), .int 0]) (rest := []) hx hb hown (hts _ w_758) (hts _ w_759) (hts _ w_760) (hts _ w_761) ⟨by decide, by decide⟩ (lw2_J hw hC) rfl d_law_472) (r_hold hn5 hw hok (Or.inl rfl)) zz_c tb_good hts w_7 hC (hl.1.trans hml.symm) ⟨by show _ ≤ _; first | exact Nat.le_of_ble_eq_true rfl | (dsimp only [room_1]; omega), by show _ ≤ _; first | exact Nat.le_of_ble_eq_true rfl | (dsimp only [room_1]; omega), by show _ ≤ _; first | exact Nat.le_of_ble_eq_true rfl | (dsimp only [room_1]; omega), by show _ ≤ _; first | exact Nat.le_of_ble_eq_true rfl | (dsimp only [room_1]; omega)⟩ (Nat.le_of_ble_eq_true rfl) (fun E q ce w1 H1 l1 hp => hp.elim) (fun v w1 H locs hp hC => ?_)
      obtain ⟨⟨b2, rfl, hb2⟩, hw⟩ := hp
      refine W.eq (g2 := F0 m 475 ls [.int b2]) rfl ?_
      refine lv_istore (lv' := [(6, .int b2), (5, .int ((o_hold day (xs ((6 * n) + 1)) (xs ((6 * n) + 2)) 0 S).1)), (4, .int (nI (6 * n))), (0, .ref b), (1, .ref (K 0)), (2, .ref (J 0)), (3, .ref ao)]) hx hb d_law_475 hl (by decide) rfl (fun ls hl => ?_)
      refine lv_aload_n hx hb d_law_477 rfl (lv_at hl 5 rfl) ?_
      refine t_call (t_invV (As := []) (rest := []) hx hb hown (hts _ w_708) (hts _ w_709) (hts _ w_710) (hts _ w_711) ⟨by decide, by decide⟩ (lw2_J hw hC) rfl d_law_478) (r_thrown hw) zz_c tb_good hts w_7 hC (hl.1.trans hml.symm) ⟨by show _ ≤ _; first | exact Nat.le_of_ble_eq_true rfl | (dsimp only [room_1]; omega), by show _ ≤ _; first | exact Nat.le_of_ble_eq_true rfl | (dsimp only [room_1]; omega), by show _ ≤ _; first | exact Nat.le_of_ble_eq_true rfl | (dsimp only [room_1]; omega), by show _ ≤ _; first | exact Nat.le_of_ble_eq_true rfl | (dsimp only [room_1]; omega)⟩ (Nat.le_of_ble_eq_true rfl) (fun E q ce w1 H1 l1 hp => hp.elim) (fun v w1 H locs hp hC => ?_)
      obtain ⟨rfl, hw⟩ := hp
      refine W.eq (g2 := F0 m 481 ls [.int ((o_hold day (xs ((6 * n) + 1)) (xs ((6 * n) + 2)) 0 S).1)]) rfl ?_
      refine lv_iload hx hb d_law_481 (lv_at hl 1 rfl) ?_
      refine lv_icmp_eq (tgt := 488) hx hb d_law_483 (by decide) (fun c483 => ?_) (fun c483 => ?_)
      · skip
        refine lv_iload hx hb d_law_488 (lv_at hl 1 rfl) ?_
        refine lv_if_ne (tgt := 512) hx hb d_law_490 (by decide) (fun c490 => ?_) (fun c490 => ?_)
        · skip
          refine lv_goto (tgt := 1120) hx hb d_law_512 (by decide) ?_
          refine t_more (c2 := cells + 81) (s2 := slots + 2926) (by first | exact Nat.le_of_ble_eq_true rfl | omega | (dsimp only; omega)) (by first | exact Nat.le_of_ble_eq_true rfl | omega | (dsimp only; omega)) ?_
          exact kk _ (Rs) (day) (o_hold day (xs ((6 * n) + 1)) (xs ((6 * n) + 2)) 0 S).2.2 _ _ H locs ls (ok_hold hok) hoR (okD_up hoD) hw hC (lv_sub hl [2, 3, 4, 5, 6] rfl)
        · skip
          refine lv_aload_n hx hb d_law_493 rfl (lv_at hl 6 rfl) ?_
          refine lv_iconst (v := 0) hx hb d_law_494 (by decide) ?_
          obtain ⟨w3, M3, U3, hcw3, hmA3, huA3, rfl⟩ := hw
          refine t_lald hx hb hC 0 2 rfl rfl (show vp_in (0 : Int32) 1 from vp_in_nI (n := 0) (by decide) (by decide)) d_law_495 ?_
          rw [show (0 : Int32).toNatClampNeg = 0 by decide +kernel]
          refine lv_iload hx hb d_law_496 (lv_at hl 0 rfl) ?_
          refine lv_if_eq (tgt := 505) hx hb d_law_498 (by decide) (fun c498 => ?_) (fun c498 => ?_)
          · skip
            refine lv_lconst (v := 0) hx hb d_law_505 (by decide) ?_
            refine lv_lcmp_eq hx hb ((hg2 c490).trans (by rw [← hb2 c490, c498]; rfl)) d_law_506 ?_
            refine lv_if_eq (tgt := 512) hx hb d_law_507 (by decide) (fun c507 => ?_) (fun c507 => ?_)
            · skip
              refine lv_goto (tgt := 1120) hx hb d_law_512 (by decide) ?_
              refine t_more (c2 := cells + 81) (s2 := slots + 2926) (by first | exact Nat.le_of_ble_eq_true rfl | omega | (dsimp only; omega)) (by first | exact Nat.le_of_ble_eq_true rfl | omega | (dsimp only; omega)) ?_
              exact kk _ (Rs) (day) (o_hold day (xs ((6 * n) + 1)) (xs ((6 * n) + 2)) 0 S).2.2 _ _ H locs ls (ok_hold hok) hoR (okD_up hoD) ⟨w3, M3, U3, hcw3, hmA3, huA3, rfl⟩ hC (lv_sub hl [2, 3, 4, 5, 6] rfl)
            · first | exact absurd c507 (by decide) | exact absurd (by decide) c507
          · skip
            refine lv_lconst (v := 1) hx hb d_law_501 (by decide) ?_
            refine lv_goto (tgt := 506) hx hb d_law_502 (by decide) ?_
            refine lv_lcmp_eq hx hb ((hg2 c490).trans (by rw [o_hold_01.resolve_left (fun q => c498 ((hb2 c490).trans q))]; rfl)) d_law_506 ?_
            refine lv_if_eq (tgt := 512) hx hb d_law_507 (by decide) (fun c507 => ?_) (fun c507 => ?_)
            · skip
              refine lv_goto (tgt := 1120) hx hb d_law_512 (by decide) ?_
              refine t_more (c2 := cells + 81) (s2 := slots + 2926) (by first | exact Nat.le_of_ble_eq_true rfl | omega | (dsimp only; omega)) (by first | exact Nat.le_of_ble_eq_true rfl | omega | (dsimp only; omega)) ?_
              exact kk _ (Rs) (day) (o_hold day (xs ((6 * n) + 1)) (xs ((6 * n) + 2)) 0 S).2.2 _ _ H locs ls (ok_hold hok) hoR (okD_up hoD) ⟨w3, M3, U3, hcw3, hmA3, huA3, rfl⟩ hC (lv_sub hl [2, 3, 4, 5, 6] rfl)
            · first | exact absurd c507 (by decide) | exact absurd (by decide) c507
      · exact absurd rfl c483
    · exact absurd c431 c464
  · skip
    refine lv_iconst (v := 1) hx hb d_law_434 (by decide) ?_
    refine lv_goto (tgt := 439) hx hb d_law_435 (by decide) ?_
    refine lv_aload_n hx hb d_law_439 rfl (lv_at hl 4 rfl) ?_
    refine t_call (t_invSW (As := [.ref (K 0), .int (xs ((6 * n) + 1)), .int (xs ((6 * n) + 2)), .int 1, .ref ao]) (rest := []) hx hb hown (hts _ w_468) (hts _ w_469) (hts _ w_0) (hts _ w_470) ⟨by decide, by decide⟩ rfl d_law_440) (l_hold hst hn5 hw hok (Or.inr rfl)) zz_c tb_good hts w_0 hC (hl.1.trans hml.symm) ⟨by show _ ≤ _; first | exact Nat.le_of_ble_eq_true rfl | (dsimp only [room_1]; omega), by show _ ≤ _; first | exact Nat.le_of_ble_eq_true rfl | (dsimp only [room_1]; omega), by show _ ≤ _; first | exact Nat.le_of_ble_eq_true rfl | (dsimp only [room_1]; omega), by show _ ≤ _; first | exact Nat.le_of_ble_eq_true rfl | (dsimp only [room_1]; omega)⟩ (Nat.le_of_ble_eq_true rfl) (fun E q ce w1 H1 l1 hp => hp.elim) (fun v w1 H locs hp hC => ?_)
    obtain ⟨rfl, g2, hg2, hw⟩ := hp
    refine W.eq (g2 := F0 m 443 ls [.int ((o_hold day (xs ((6 * n) + 1)) (xs ((6 * n) + 2)) 1 S).1)]) rfl ?_
    refine lv_istore (lv' := [(5, .int ((o_hold day (xs ((6 * n) + 1)) (xs ((6 * n) + 2)) 1 S).1)), (4, .int (nI (6 * n))), (0, .ref b), (1, .ref (K 0)), (2, .ref (J 0)), (3, .ref ao)]) hx hb d_law_443 hl (by decide) rfl (fun ls hl => ?_)
    refine lv_aload_n hx hb d_law_445 rfl (lv_at hl 4 rfl) ?_
    refine lv_aload_n hx hb d_law_446 rfl (lv_at hl 2 rfl) ?_
    refine lv_iload hx hb d_law_447 (lv_at hl 1 rfl) ?_
    refine lv_iconst (v := 1) hx hb d_law_449 (by decide) ?_
    refine lv_iaddN (a := (6 * n)) (b := 1) hx hb rfl d_law_450 ?_
    refine va_sld hx hb hX hbl hbA hC.2.2.1 (i := nI ((6 * n) + 1)) (vp_in_nI (by omega) (by omega)) d_law_451 ?_
    rw [nI_clamp (by omega)]
    refine lv_aload_n hx hb d_law_452 rfl (lv_at hl 2 rfl) ?_
    refine lv_iload hx hb d_law_453 (lv_at hl 1 rfl) ?_
    refine lv_iconst (v := 2) hx hb d_law_455 (by decide) ?_
    refine lv_iaddN (a := (6 * n)) (b := 2) hx hb rfl d_law_456 ?_
    refine va_sld hx hb hX hbl hbA hC.2.2.1 (i := nI ((6 * n) + 2)) (vp_in_nI (by omega) (by omega)) d_law_457 ?_
    rw [nI_clamp (by omega)]
    refine lv_aload_n hx hb d_law_458 rfl (lv_at hl 2 rfl) ?_
    refine lv_iload hx hb d_law_459 (lv_at hl 1 rfl) ?_
    refine lv_iconst (v := 3) hx hb d_law_461 (by decide) ?_
    refine lv_iaddN (a := (6 * n)) (b := 3) hx hb rfl d_law_462 ?_
    refine va_sld hx hb hX hbl hbA hC.2.2.1 (i := nI ((6 * n) + 3)) (vp_in_nI (by omega) (by omega)) d_law_463 ?_
    rw [nI_clamp (by omega)]
    refine lv_if_eq (tgt := 471) hx hb d_law_464 (by decide) (fun c464 => ?_) (fun c464 => ?_)
    · exact absurd c464 c431
    · skip
      refine lv_iconst (v := 1) hx hb d_law_467 (by decide) ?_
      refine lv_goto (tgt := 472) hx hb d_law_468 (by decide) ?_
      refine t_call (t_invV (As := [.int (xs ((6 * n) + 1)), .int (xs ((6 * n) + 2)), .int 1]) (rest := []) hx hb hown (hts _ w_758) (hts _ w_759) (hts _ w_760) (hts _ w_761) ⟨by decide, by decide⟩ (lw2_J hw hC) rfl d_law_472) (r_hold hn5 hw hok (Or.inr rfl)) zz_c tb_good hts w_7 hC (hl.1.trans hml.symm) ⟨by show _ ≤ _; first | exact Nat.le_of_ble_eq_true rfl | (dsimp only [room_1]; omega), by show _ ≤ _; first | exact Nat.le_of_ble_eq_true rfl | (dsimp only [room_1]; omega), by show _ ≤ _; first | exact Nat.le_of_ble_eq_true rfl | (dsimp only [room_1]; omega), by show _ ≤ _; first | exact Nat.le_of_ble_eq_true rfl | (dsimp only [room_1]; omega)⟩ (Nat.le_of_ble_eq_true rfl) (fun E q ce w1 H1 l1 hp => hp.elim) (fun v w1 H locs hp hC => ?_)
      obtain ⟨⟨b2, rfl, hb2⟩, hw⟩ := hp
      refine W.eq (g2 := F0 m 475 ls [.int b2]) rfl ?_
      refine lv_istore (lv' := [(6, .int b2), (5, .int ((o_hold day (xs ((6 * n) + 1)) (xs ((6 * n) + 2)) 1 S).1)), (4, .int (nI (6 * n))), (0, .ref b), (1, .ref (K 0)), (2, .ref (J 0)), (3, .ref ao)]) hx hb d_law_475 hl (by decide) rfl (fun ls hl => ?_)
      refine lv_aload_n hx hb d_law_477 rfl (lv_at hl 5 rfl) ?_
      refine t_call (t_invV (As := []) (rest := []) hx hb hown (hts _ w_708) (hts _ w_709) (hts _ w_710) (hts _ w_711) ⟨by decide, by decide⟩ (lw2_J hw hC) rfl d_law_478) (r_thrown hw) zz_c tb_good hts w_7 hC (hl.1.trans hml.symm) ⟨by show _ ≤ _; first | exact Nat.le_of_ble_eq_true rfl | (dsimp only [room_1]; omega), by show _ ≤ _; first | exact Nat.le_of_ble_eq_true rfl | (dsimp only [room_1]; omega), by show _ ≤ _; first | exact Nat.le_of_ble_eq_true rfl | (dsimp only [room_1]; omega), by show _ ≤ _; first | exact Nat.le_of_ble_eq_true rfl | (dsimp only [room_1]; omega)⟩ (Nat.le_of_ble_eq_true rfl) (fun E q ce w1 H1 l1 hp => hp.elim) (fun v w1 H locs hp hC => ?_)
      obtain ⟨rfl, hw⟩ := hp
      refine W.eq (g2 := F0 m 481 ls [.int ((o_hold day (xs ((6 * n) + 1)) (xs ((6 * n) + 2)) 1 S).1)]) rfl ?_
      refine lv_iload hx hb d_law_481 (lv_at hl 1 rfl) ?_
      refine lv_icmp_eq (tgt := 488) hx hb d_law_483 (by decide) (fun c483 => ?_) (fun c483 => ?_)
      · skip
        refine lv_iload hx hb d_law_488 (lv_at hl 1 rfl) ?_
        refine lv_if_ne (tgt := 512) hx hb d_law_490 (by decide) (fun c490 => ?_) (fun c490 => ?_)
        · skip
          refine lv_goto (tgt := 1120) hx hb d_law_512 (by decide) ?_
          refine t_more (c2 := cells + 81) (s2 := slots + 2926) (by first | exact Nat.le_of_ble_eq_true rfl | omega | (dsimp only; omega)) (by first | exact Nat.le_of_ble_eq_true rfl | omega | (dsimp only; omega)) ?_
          exact kk _ (Rs) (day) (o_hold day (xs ((6 * n) + 1)) (xs ((6 * n) + 2)) 1 S).2.2 _ _ H locs ls (ok_hold hok) hoR (okD_up hoD) hw hC (lv_sub hl [2, 3, 4, 5, 6] rfl)
        · skip
          refine lv_aload_n hx hb d_law_493 rfl (lv_at hl 6 rfl) ?_
          refine lv_iconst (v := 0) hx hb d_law_494 (by decide) ?_
          obtain ⟨w3, M3, U3, hcw3, hmA3, huA3, rfl⟩ := hw
          refine t_lald hx hb hC 0 2 rfl rfl (show vp_in (0 : Int32) 1 from vp_in_nI (n := 0) (by decide) (by decide)) d_law_495 ?_
          rw [show (0 : Int32).toNatClampNeg = 0 by decide +kernel]
          refine lv_iload hx hb d_law_496 (lv_at hl 0 rfl) ?_
          refine lv_if_eq (tgt := 505) hx hb d_law_498 (by decide) (fun c498 => ?_) (fun c498 => ?_)
          · skip
            refine lv_lconst (v := 0) hx hb d_law_505 (by decide) ?_
            refine lv_lcmp_eq hx hb ((hg2 c490).trans (by rw [← hb2 c490, c498]; rfl)) d_law_506 ?_
            refine lv_if_eq (tgt := 512) hx hb d_law_507 (by decide) (fun c507 => ?_) (fun c507 => ?_)
            · skip
              refine lv_goto (tgt := 1120) hx hb d_law_512 (by decide) ?_
              refine t_more (c2 := cells + 81) (s2 := slots + 2926) (by first | exact Nat.le_of_ble_eq_true rfl | omega | (dsimp only; omega)) (by first | exact Nat.le_of_ble_eq_true rfl | omega | (dsimp only; omega)) ?_
              exact kk _ (Rs) (day) (o_hold day (xs ((6 * n) + 1)) (xs ((6 * n) + 2)) 1 S).2.2 _ _ H locs ls (ok_hold hok) hoR (okD_up hoD) ⟨w3, M3, U3, hcw3, hmA3, huA3, rfl⟩ hC (lv_sub hl [2, 3, 4, 5, 6] rfl)
            · first | exact absurd c507 (by decide) | exact absurd (by decide) c507
          · skip
            refine lv_lconst (v := 1) hx hb d_law_501 (by decide) ?_
            refine lv_goto (tgt := 506) hx hb d_law_502 (by decide) ?_
            refine lv_lcmp_eq hx hb ((hg2 c490).trans (by rw [o_hold_01.resolve_left (fun q => c498 ((hb2 c490).trans q))]; rfl)) d_law_506 ?_
            refine lv_if_eq (tgt := 512) hx hb d_law_507 (by decide) (fun c507 => ?_) (fun c507 => ?_)
            · skip
              refine lv_goto (tgt := 1120) hx hb d_law_512 (by decide) ?_
              refine t_more (c2 := cells + 81) (s2 := slots + 2926) (by first | exact Nat.le_of_ble_eq_true rfl | omega | (dsimp only; omega)) (by first | exact Nat.le_of_ble_eq_true rfl | omega | (dsimp only; omega)) ?_
              exact kk _ (Rs) (day) (o_hold day (xs ((6 * n) + 1)) (xs ((6 * n) + 2)) 1 S).2.2 _ _ H locs ls (ok_hold hok) hoR (okD_up hoD) ⟨w3, M3, U3, hcw3, hmA3, huA3, rfl⟩ hC (lv_sub hl [2, 3, 4, 5, 6] rfl)
            · first | exact absurd c507 (by decide) | exact absurd (by decide) c507
      · exact absurd rfl c483
