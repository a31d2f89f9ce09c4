set_option maxHeartbeats 8000000 in
set_option maxRecDepth 100000 in
theorem law_0 {p : Program} {l : Launch} {e : Env} {s : State} {m : MethodId} {below : List Frame} {meth : Method} {c : Code} {b : Nat} {xs : Nat → Int32} (C0 : lw_At p s m meth c b 6 xs) {dC : Nat → ClassId} {dI : Nat → Nat → Nat} {xq a1 a2 mq : Nat} {cb cm cb2 : ClassId} {g b0 b1 b2 b6 : Nat → Nat} {H : Heap} {locs : List Loc} {ls : Array Slot} (hK : va_K (dC, dI) vwCl [(cb, .byte), (cm, .object RX6), (cb2, .byte)] s) (hP : va_P (dC, dI) vwCl (lwW xq a1 a2 mq cb cm cb2 g b0 b1 b2 b6) H) (hD : va_D (fun q : Nat => s.heap.size ≤ q) (lwW xq a1 a2 mq cb cm cb2 g b0 b1 b2 b6)) (hS : va_S (fun q : Nat => s.heap.size ≤ q) s.heap H locs) (hl : lv_has ls 4 [(3, .int 0), (2, .ref mq), (1, .ref xq), (0, .ref b)]) : W p l e room_1 s m #[Value.ref b] below meth c H locs 117 3761775 (lw_Z below #[Value.ref b] s) (F0 m 172 ls []) := by
  obtain ⟨hx, hb, hr, hml, hown, hw, hX, hbl, hlocks, hgv⟩ := id C0
  have hA : ∀ q : Nat, s.heap.size ≤ q → (fun q : Nat => s.heap.size ≤ q) q := fun _ h => h
  have hbA : ¬ (fun q : Nat => s.heap.size ≤ q) b := Nat.not_le.mpr hbl
  refine lv_aload_n hx hb dL_law_172 rfl (lv_at hl 2 rfl) ?_
  refine lv_aload_n hx hb dL_law_173 rfl (lv_at hl 3 rfl) ?_
  refine lv_iload_n hx hb dL_law_174 rfl (lv_at hl 0 rfl) ?_
  refine lv_iconst (v := 1) hx hb dL_law_175 (by decide) ?_
  refine lv_iadd hx hb dL_law_176 ?_
  refine lv_topi (fun x_1 ex_1 => ?_)
  have ex_1 : x_1 = 1 := ex_1.trans (by decide)
  subst ex_1
  refine va_sld hx hb hX hbl hbA hS (show vp_in 1 6 from by unfold vp_in; decide) dL_law_177 ?_
  refine lv_aload_n hx hb dL_law_178 rfl (lv_at hl 3 rfl) ?_
  refine lv_iload_n hx hb dL_law_179 rfl (lv_at hl 0 rfl) ?_
  refine lv_iconst (v := 2) hx hb dL_law_180 (by decide) ?_
  refine lv_iadd hx hb dL_law_181 ?_
  refine lv_topi (fun x_2 ex_2 => ?_)
  have ex_2 : x_2 = 2 := ex_2.trans (by decide)
  subst ex_2
  refine va_sld hx hb hX hbl hbA hS (show vp_in 2 6 from by unfold vp_in; decide) dL_law_182 ?_
  refine lv_aload_n hx hb dL_law_183 rfl (lv_at hl 3 rfl) ?_
  refine lv_iload_n hx hb dL_law_184 rfl (lv_at hl 0 rfl) ?_
  refine lv_iconst (v := 3) hx hb dL_law_185 (by decide) ?_
  refine lv_iadd hx hb dL_law_186 ?_
  refine lv_topi (fun x_3 ex_3 => ?_)
  have ex_3 : x_3 = 3 := ex_3.trans (by decide)
  subst ex_3
  refine va_sld hx hb hX hbl hbA hS (show vp_in 3 6 from by unfold vp_in; decide) dL_law_187 ?_
  refine lv_aload_n hx hb dL_law_188 rfl (lv_at hl 3 rfl) ?_
  refine lv_iload_n hx hb dL_law_189 rfl (lv_at hl 0 rfl) ?_
  refine lv_iconst (v := 4) hx hb dL_law_190 (by decide) ?_
  refine lv_iadd hx hb dL_law_191 ?_
  refine lv_topi (fun x_4 ex_4 => ?_)
  have ex_4 : x_4 = 4 := ex_4.trans (by decide)
  subst ex_4
  refine va_sld hx hb hX hbl hbA hS (show vp_in 4 6 from by unfold vp_in; decide) dL_law_192 ?_
  refine lv_aload_n hx hb dL_law_193 rfl (lv_at hl 3 rfl) ?_
  refine lv_iload_n hx hb dL_law_194 rfl (lv_at hl 0 rfl) ?_
  refine lv_iconst (v := 5) hx hb dL_law_195 (by decide) ?_
  refine lv_iadd hx hb dL_law_196 ?_
  refine lv_topi (fun x_5 ex_5 => ?_)
  have ex_5 : x_5 = 5 := ex_5.trans (by decide)
  subst ex_5
  refine va_sld hx hb hX hbl hbA hS (show vp_in 5 6 from by unfold vp_in; decide) dL_law_197 ?_
  have hPc := hP.sub (ws' := [(xq, .inr (10, xF a1 a2)), (a1, .inl (cb, 1024, .inl (fun _ => 0)))]) [0, 1] rfl
  have hDc := hD.sub (ws' := [(xq, .inr (10, xF a1 a2)), (a1, .inl (cb, 1024, .inl (fun _ => 0)))]) [0, 1] (by decide) rfl
  have hKc := hK.sub (tys' := [(cb, .byte)]) [0] rfl
  have hFc := va_free (wc := [(xq, .inr (10, xF a1 a2)), (a1, .inl (cb, 1024, .inl (fun _ => 0)))]) hD hS hA [0, 1] rfl
  refine va_calli (va_runV (As := [.int (xs (Int32.toNatClampNeg 1)), .int (xs (Int32.toNatClampNeg 2)), .int (xs (Int32.toNatClampNeg 3)), .int (xs (Int32.toNatClampNeg 4)), .int (xs (Int32.toNatClampNeg 5))]) (rest := []) ⟨hx, hb, hml, hown, hw⟩ (k_X11_feed l dC dI H.size xq a1 a2 cb (fun _ => 0) (xs (Int32.toNatClampNeg 1)) (xs (Int32.toNatClampNeg 2)) (xs (Int32.toNatClampNeg 3)) (xs (Int32.toNatClampNeg 4)) (xs (Int32.toNatClampNeg 5))) ⟨callB_of 5 hw (gdl (tb_1 (List.mem_of_getElem? (i := 72) (by decide +kernel))) rfl) rfl rfl rfl (hw (Cond.initialized RX11) (tb_1 (List.mem_of_getElem? (i := 1) (by decide +kernel)))) (hw (Cond.methodLink RL 13 yX11_feed) (tb_1 (List.mem_of_getElem? (i := 69) (by decide +kernel)))) (by decide +kernel) ⟨Nat.le_of_ble_eq_true rfl, Nat.le_of_ble_eq_true rfl⟩, (hw (Cond.instanceMethod yX11_feed) (tb_1 (List.mem_of_getElem? (i := 70) (by decide +kernel)))), (hw (Cond.selects RX11 yX11_feed yX11_feed) (tb_1 (List.mem_of_getElem? (i := 71) (by decide +kernel))))⟩ ⟨pM_blind, va_recv hKc hPc (ci := 10) (q0 := 0) rfl rfl, pM_of hPc hKc hDc⟩ rfl rfl hl.1 rfl (lv_room (Nat.le_of_ble_eq_true rfl)) dL_law_198 ⟨Nat.le_of_ble_eq_true rfl, Nat.le_of_ble_eq_true rfl⟩) hS (fun q _ h => hFc q h) hFc (fun r_6 u t H1 locs ht hvm hp_7 hB hz1 hk1 hS => ?_)
  obtain ⟨hP, hD⟩ := va_join (wr := [(a2, .inl (cm, 3, .inr (.inr (.inr (.inr (fun _ => none)))))), (mq, .inr (14, mF g)), (g 61, .inr (12, rF mq 0 b0)), (g 62, .inr (12, rF mq 1 b1)), (g 63, .inr (12, rF mq 2 b2)), (g 0, .inl (cb2, 60000, .inl (fun _ => 0))), (g 6, .inr (11, hF b6))]) (w1 := []) hP hD [0, 1] [2, 3, 4, 5, 6, 7, 8] rfl rfl (by decide) (by decide) hk1 hFc pnil dnil
  have hK := hK.sub (tys' := [(cm, .object RX6), (cb2, .byte)]) [1, 2] rfl
  generalize H1 = H at hP hS ⊢
  have hP : va_P (dC, dI) vwCl [(a2, .inl (cm, 3, .inr (.inr (.inr (.inr (fun _ => none)))))), (mq, .inr (14, mF g)), (g 61, .inr (12, rF mq 0 b0)), (g 62, .inr (12, rF mq 1 b1)), (g 63, .inr (12, rF mq 2 b2)), (g 0, .inl (cb2, 60000, .inl (fun _ => 0))), (g 6, .inr (11, hF b6))] H := hP
  have hD : va_D (fun q : Nat => s.heap.size ≤ q) [(a2, .inl (cm, 3, .inr (.inr (.inr (.inr (fun _ => none)))))), (mq, .inr (14, mF g)), (g 61, .inr (12, rF mq 0 b0)), (g 62, .inr (12, rF mq 1 b1)), (g 63, .inr (12, rF mq 2 b2)), (g 0, .inl (cb2, 60000, .inl (fun _ => 0))), (g 6, .inr (11, hF b6))] := hD
  have hK : va_K (dC, dI) vwCl [(cm, .object RX6), (cb2, .byte)] s := hK
  refine W.widen (k := 117) (n := 3761775) (Nat.le_of_ble_eq_true rfl) (Nat.le_of_ble_eq_true rfl) ?_
  subst hp_7
  refine lv_aload_n hx hb dL_law_201 rfl (lv_at hl 1 rfl) ?_
  refine lv_aload_n hx hb dL_law_202 rfl (lv_at hl 3 rfl) ?_
  refine lv_iload_n hx hb dL_law_203 rfl (lv_at hl 0 rfl) ?_
  refine lv_iconst (v := 1) hx hb dL_law_204 (by decide) ?_
  refine lv_iadd hx hb dL_law_205 ?_
  refine lv_topi (fun x_8 ex_8 => ?_)
  have ex_8 : x_8 = 1 := ex_8.trans (by decide)
  subst ex_8
  refine va_sld hx hb hX hbl hbA hS (show vp_in 1 6 from by unfold vp_in; decide) dL_law_206 ?_
  refine lv_aload_n hx hb dL_law_207 rfl (lv_at hl 3 rfl) ?_
  refine lv_iload_n hx hb dL_law_208 rfl (lv_at hl 0 rfl) ?_
  refine lv_iconst (v := 2) hx hb dL_law_209 (by decide) ?_
  refine lv_iadd hx hb dL_law_210 ?_
  refine lv_topi (fun x_9 ex_9 => ?_)
  have ex_9 : x_9 = 2 := ex_9.trans (by decide)
  subst ex_9
  refine va_sld hx hb hX hbl hbA hS (show vp_in 2 6 from by unfold vp_in; decide) dL_law_211 ?_
  refine lv_aload_n hx hb dL_law_212 rfl (lv_at hl 3 rfl) ?_
  refine lv_iload_n hx hb dL_law_213 rfl (lv_at hl 0 rfl) ?_
  refine lv_iconst (v := 3) hx hb dL_law_214 (by decide) ?_
  refine lv_iadd hx hb dL_law_215 ?_
  refine lv_topi (fun x_10 ex_10 => ?_)
  have ex_10 : x_10 = 3 := ex_10.trans (by decide)
  subst ex_10
  refine va_sld hx hb hX hbl hbA hS (show vp_in 3 6 from by unfold vp_in; decide) dL_law_216 ?_
  refine lv_aload_n hx hb dL_law_217 rfl (lv_at hl 3 rfl) ?_
  refine lv_iload_n hx hb dL_law_218 rfl (lv_at hl 0 rfl) ?_
  refine lv_iconst (v := 4) hx hb dL_law_219 (by decide) ?_
  refine lv_iadd hx hb dL_law_220 ?_
  refine lv_topi (fun x_11 ex_11 => ?_)
  have ex_11 : x_11 = 4 := ex_11.trans (by decide)
  subst ex_11
  refine va_sld hx hb hX hbl hbA hS (show vp_in 4 6 from by unfold vp_in; decide) dL_law_221 ?_
  refine lv_aload_n hx hb dL_law_222 rfl (lv_at hl 3 rfl) ?_
  refine lv_iload_n hx hb dL_law_223 rfl (lv_at hl 0 rfl) ?_
  refine lv_iconst (v := 5) hx hb dL_law_224 (by decide) ?_
  refine lv_iadd hx hb dL_law_225 ?_
  refine lv_topi (fun x_12 ex_12 => ?_)
  have ex_12 : x_12 = 5 := ex_12.trans (by decide)
  subst ex_12
  refine va_sld hx hb hX hbl hbA hS (show vp_in 5 6 from by unfold vp_in; decide) dL_law_226 ?_
  have hPc := hP.sub (ws' := [(mq, .inr (14, mF g)), (g 0, .inl (cb2, 60000, .inl (fun _ => 0)))]) [1, 5] rfl
  have hDc := hD.sub (ws' := [(mq, .inr (14, mF g)), (g 0, .inl (cb2, 60000, .inl (fun _ => 0)))]) [1, 5] (by decide) rfl
  have hKc := hK.sub (tys' := [(cb2, .byte)]) [1] rfl
  have hFc := va_free (wc := [(mq, .inr (14, mF g)), (g 0, .inl (cb2, 60000, .inl (fun _ => 0)))]) hD hS hA [1, 5] rfl
  refine va_calli (va_runV (As := [.int (xs (Int32.toNatClampNeg 1)), .int (xs (Int32.toNatClampNeg 2)), .int (xs (Int32.toNatClampNeg 3)), .int (xs (Int32.toNatClampNeg 4)), .int (xs (Int32.toNatClampNeg 5))]) (rest := [.int 20]) ⟨hx, hb, hml, hown, hw⟩ (k_X15_feed l dC dI H.size mq g cb2 (fun _ => 0) (xs (Int32.toNatClampNeg 1)) (xs (Int32.toNatClampNeg 2)) (xs (Int32.toNatClampNeg 3)) (xs (Int32.toNatClampNeg 4)) (xs (Int32.toNatClampNeg 5))) ⟨callB_of 5 hw (gdl (tb_11 (List.mem_of_getElem? (i := 7) (by decide +kernel))) rfl) rfl rfl rfl (hw (Cond.initialized RX15) (tb_1 (List.mem_of_getElem? (i := 2) (by decide +kernel)))) (hw (Cond.methodLink RL 17 yX15_feed) (tb_11 (List.mem_of_getElem? (i := 4) (by decide +kernel)))) (by decide +kernel) ⟨Nat.le_of_ble_eq_true rfl, Nat.le_of_ble_eq_true rfl⟩, (hw (Cond.instanceMethod yX15_feed) (tb_11 (List.mem_of_getElem? (i := 5) (by decide +kernel)))), (hw (Cond.selects RX15 yX15_feed yX15_feed) (tb_11 (List.mem_of_getElem? (i := 6) (by decide +kernel))))⟩ ⟨pM_blind, va_recv hKc hPc (ci := 14) (q0 := 0) rfl rfl, pM_of hPc hKc hDc⟩ rfl rfl hl.1 rfl (lv_room (Nat.le_of_ble_eq_true rfl)) dL_law_227 ⟨Nat.le_of_ble_eq_true rfl, Nat.le_of_ble_eq_true rfl⟩) hS (fun q _ h => hFc q h) hFc (fun r_13 u t H1 locs ht hvm hp_14 hB hz1 hk1 hS => ?_)
  obtain ⟨hP, hD⟩ := va_join (wr := [(a2, .inl (cm, 3, .inr (.inr (.inr (.inr (fun _ => none)))))), (g 61, .inr (12, rF mq 0 b0)), (g 62, .inr (12, rF mq 1 b1)), (g 63, .inr (12, rF mq 2 b2)), (g 6, .inr (11, hF b6))]) (w1 := []) hP hD [1, 5] [0, 2, 3, 4, 6] rfl rfl (by decide) (by decide) hk1 hFc pnil dnil
  have hK := hK.sub (tys' := [(cm, .object RX6)]) [0] rfl
  generalize H1 = H at hP hS ⊢
  have hP : va_P (dC, dI) vwCl [(a2, .inl (cm, 3, .inr (.inr (.inr (.inr (fun _ => none)))))), (g 61, .inr (12, rF mq 0 b0)), (g 62, .inr (12, rF mq 1 b1)), (g 63, .inr (12, rF mq 2 b2)), (g 6, .inr (11, hF b6))] H := hP
  have hD : va_D (fun q : Nat => s.heap.size ≤ q) [(a2, .inl (cm, 3, .inr (.inr (.inr (.inr (fun _ => none)))))), (g 61, .inr (12, rF mq 0 b0)), (g 62, .inr (12, rF mq 1 b1)), (g 63, .inr (12, rF mq 2 b2)), (g 6, .inr (11, hF b6))] := hD
  have hK : va_K (dC, dI) vwCl [(cm, .object RX6)] s := hK
  refine W.widen (k := 117) (n := 3761775) (Nat.le_of_ble_eq_true rfl) (Nat.le_of_ble_eq_true rfl) ?_
  subst hp_14
  refine lv_icmp_eq (tgt := 1215) hx hb dL_law_230 (by decide) (fun c_15 => ?_) (fun c_15 => absurd c_15 (by decide))
  exact law_tail C0 hS (Nat.le_of_ble_eq_true rfl) (Nat.le_of_ble_eq_true rfl) hl
set_option maxHeartbeats 8000000 in
set_option maxRecDepth 100000 in
theorem law_1 {p : Program} {l : Launch} {e : Env} {s : State} {m : MethodId} {below : List Frame} {meth : Method} {c : Code} {b : Nat} {xs : Nat → Int32} (C0 : lw_At p s m meth c b 6 xs) {dC : Nat → ClassId} {dI : Nat → Nat → Nat} {xq a1 a2 mq : Nat} {cb cm cb2 : ClassId} {g b0 b1 b2 b6 : Nat → Nat} {H : Heap} {locs : List Loc} {ls : Array Slot} (hK : va_K (dC, dI) vwCl [(cb, .byte), (cm, .object RX6), (cb2, .byte)] s) (hP : va_P (dC, dI) vwCl (lwW xq a1 a2 mq cb cm cb2 g b0 b1 b2 b6) H) (hD : va_D (fun q : Nat => s.heap.size ≤ q) (lwW xq a1 a2 mq cb cm cb2 g b0 b1 b2 b6)) (hS : va_S (fun q : Nat => s.heap.size ≤ q) s.heap H locs) (hl : lv_has ls 4 [(3, .int 0), (2, .ref mq), (1, .ref xq), (0, .ref b)]) : W p l e room_1 s m #[Value.ref b] below meth c H locs 117 3761775 (lw_Z below #[Value.ref b] s) (F0 m 235 ls []) := by
  obtain ⟨hx, hb, hr, hml, hown, hw, hX, hbl, hlocks, hgv⟩ := id C0
  have hA : ∀ q : Nat, s.heap.size ≤ q → (fun q : Nat => s.heap.size ≤ q) q := fun _ h => h
  have hbA : ¬ (fun q : Nat => s.heap.size ≤ q) b := Nat.not_le.mpr hbl
  refine lv_aload_n hx hb dL_law_235 rfl (lv_at hl 2 rfl) ?_
  refine lv_aload_n hx hb dL_law_236 rfl (lv_at hl 3 rfl) ?_
  refine lv_iload_n hx hb dL_law_237 rfl (lv_at hl 0 rfl) ?_
  refine lv_iconst (v := 1) hx hb dL_law_238 (by decide) ?_
  refine lv_iadd hx hb dL_law_239 ?_
  refine lv_topi (fun x_1 ex_1 => ?_)
  have ex_1 : x_1 = 1 := ex_1.trans (by decide)
  subst ex_1
  refine va_sld hx hb hX hbl hbA hS (show vp_in 1 6 from by unfold vp_in; decide) dL_law_240 ?_
  have hPc := hP.sub (ws' := [(xq, .inr (10, xF a1 a2))]) [0] rfl
  have hDc := hD.sub (ws' := [(xq, .inr (10, xF a1 a2))]) [0] (by decide) rfl
  have hKc := hK.sub (tys' := []) [] rfl
  have hFc := va_free (wc := [(xq, .inr (10, xF a1 a2))]) hD hS hA [0] rfl
  refine va_calli (va_runV (As := [.int (xs (Int32.toNatClampNeg 1))]) (rest := []) ⟨hx, hb, hml, hown, hw⟩ (k_X11_end l dC dI H.size xq a1 a2 (xs (Int32.toNatClampNeg 1))) ⟨callB_of 1 hw (gdl (tb_1 (List.mem_of_getElem? (i := 98) (by decide +kernel))) rfl) rfl rfl rfl (hw (Cond.initialized RX11) (tb_1 (List.mem_of_getElem? (i := 1) (by decide +kernel)))) (hw (Cond.methodLink RL 18 yX11_end) (tb_1 (List.mem_of_getElem? (i := 95) (by decide +kernel)))) (by decide +kernel) ⟨Nat.le_of_ble_eq_true rfl, Nat.le_of_ble_eq_true rfl⟩, (hw (Cond.instanceMethod yX11_end) (tb_1 (List.mem_of_getElem? (i := 96) (by decide +kernel)))), (hw (Cond.selects RX11 yX11_end yX11_end) (tb_1 (List.mem_of_getElem? (i := 97) (by decide +kernel))))⟩ ⟨pM_blind, va_recv hKc hPc (ci := 10) (q0 := 0) rfl rfl, pM_of hPc hKc hDc⟩ rfl rfl hl.1 rfl (lv_room (Nat.le_of_ble_eq_true rfl)) dL_law_241 ⟨Nat.le_of_ble_eq_true rfl, Nat.le_of_ble_eq_true rfl⟩) hS (fun q _ h => hFc q h) hFc (fun r_2 u t H1 locs ht hvm hp_3 hB hz1 hk1 hS => ?_)
  obtain ⟨hP, hD⟩ := va_join (wr := [(a1, .inl (cb, 1024, .inl (fun _ => 0))), (a2, .inl (cm, 3, .inr (.inr (.inr (.inr (fun _ => none)))))), (mq, .inr (14, mF g)), (g 61, .inr (12, rF mq 0 b0)), (g 62, .inr (12, rF mq 1 b1)), (g 63, .inr (12, rF mq 2 b2)), (g 0, .inl (cb2, 60000, .inl (fun _ => 0))), (g 6, .inr (11, hF b6))]) (w1 := []) hP hD [0] [1, 2, 3, 4, 5, 6, 7, 8] rfl rfl (by decide) (by decide) hk1 hFc pnil dnil
  have hK := hK.sub (tys' := [(cb, .byte), (cm, .object RX6), (cb2, .byte)]) [0, 1, 2] rfl
  generalize H1 = H at hP hS ⊢
  have hP : va_P (dC, dI) vwCl [(a1, .inl (cb, 1024, .inl (fun _ => 0))), (a2, .inl (cm, 3, .inr (.inr (.inr (.inr (fun _ => none)))))), (mq, .inr (14, mF g)), (g 61, .inr (12, rF mq 0 b0)), (g 62, .inr (12, rF mq 1 b1)), (g 63, .inr (12, rF mq 2 b2)), (g 0, .inl (cb2, 60000, .inl (fun _ => 0))), (g 6, .inr (11, hF b6))] H := hP
  have hD : va_D (fun q : Nat => s.heap.size ≤ q) [(a1, .inl (cb, 1024, .inl (fun _ => 0))), (a2, .inl (cm, 3, .inr (.inr (.inr (.inr (fun _ => none)))))), (mq, .inr (14, mF g)), (g 61, .inr (12, rF mq 0 b0)), (g 62, .inr (12, rF mq 1 b1)), (g 63, .inr (12, rF mq 2 b2)), (g 0, .inl (cb2, 60000, .inl (fun _ => 0))), (g 6, .inr (11, hF b6))] := hD
  have hK : va_K (dC, dI) vwCl [(cb, .byte), (cm, .object RX6), (cb2, .byte)] s := hK
  refine W.widen (k := 117) (n := 3761775) (Nat.le_of_ble_eq_true rfl) (Nat.le_of_ble_eq_true rfl) ?_
  subst hp_3
  refine lv_aload_n hx hb dL_law_244 rfl (lv_at hl 1 rfl) ?_
  refine lv_aload_n hx hb dL_law_245 rfl (lv_at hl 3 rfl) ?_
  refine lv_iload_n hx hb dL_law_246 rfl (lv_at hl 0 rfl) ?_
  refine lv_iconst (v := 1) hx hb dL_law_247 (by decide) ?_
  refine lv_iadd hx hb dL_law_248 ?_
  refine lv_topi (fun x_4 ex_4 => ?_)
  have ex_4 : x_4 = 1 := ex_4.trans (by decide)
  subst ex_4
  refine va_sld hx hb hX hbl hbA hS (show vp_in 1 6 from by unfold vp_in; decide) dL_law_249 ?_
  have hPc := hP.sub (ws' := [(mq, .inr (14, mF g))]) [2] rfl
  have hDc := hD.sub (ws' := [(mq, .inr (14, mF g))]) [2] (by decide) rfl
  have hKc := hK.sub (tys' := []) [] rfl
  have hFc := va_free (wc := [(mq, .inr (14, mF g))]) hD hS hA [2] rfl
  refine va_calli (va_runV (As := [.int (xs (Int32.toNatClampNeg 1))]) (rest := [.int (sp_end (xs (Int32.toNatClampNeg 1)))]) ⟨hx, hb, hml, hown, hw⟩ (k_X15_end l dC dI H.size mq g (xs (Int32.toNatClampNeg 1))) ⟨callB_of 1 hw (gdl (tb_11 (List.mem_of_getElem? (i := 16) (by decide +kernel))) rfl) rfl rfl rfl (hw (Cond.initialized RX15) (tb_1 (List.mem_of_getElem? (i := 2) (by decide +kernel)))) (hw (Cond.methodLink RL 22 yX15_end) (tb_11 (List.mem_of_getElem? (i := 13) (by decide +kernel)))) (by decide +kernel) ⟨Nat.le_of_ble_eq_true rfl, Nat.le_of_ble_eq_true rfl⟩, (hw (Cond.instanceMethod yX15_end) (tb_11 (List.mem_of_getElem? (i := 14) (by decide +kernel)))), (hw (Cond.selects RX15 yX15_end yX15_end) (tb_11 (List.mem_of_getElem? (i := 15) (by decide +kernel))))⟩ ⟨pM_blind, va_recv hKc hPc (ci := 14) (q0 := 0) rfl rfl, pM_of hPc hKc hDc⟩ rfl rfl hl.1 rfl (lv_room (Nat.le_of_ble_eq_true rfl)) dL_law_250 ⟨Nat.le_of_ble_eq_true rfl, Nat.le_of_ble_eq_true rfl⟩) hS (fun q _ h => hFc q h) hFc (fun r_5 u t H1 locs ht hvm hp_6 hB hz1 hk1 hS => ?_)
  obtain ⟨hP, hD⟩ := va_join (wr := [(a1, .inl (cb, 1024, .inl (fun _ => 0))), (a2, .inl (cm, 3, .inr (.inr (.inr (.inr (fun _ => none)))))), (g 61, .inr (12, rF mq 0 b0)), (g 62, .inr (12, rF mq 1 b1)), (g 63, .inr (12, rF mq 2 b2)), (g 0, .inl (cb2, 60000, .inl (fun _ => 0))), (g 6, .inr (11, hF b6))]) (w1 := []) hP hD [2] [0, 1, 3, 4, 5, 6, 7] rfl rfl (by decide) (by decide) hk1 hFc pnil dnil
  have hK := hK.sub (tys' := [(cb, .byte), (cm, .object RX6), (cb2, .byte)]) [0, 1, 2] rfl
  generalize H1 = H at hP hS ⊢
  have hP : va_P (dC, dI) vwCl [(a1, .inl (cb, 1024, .inl (fun _ => 0))), (a2, .inl (cm, 3, .inr (.inr (.inr (.inr (fun _ => none)))))), (g 61, .inr (12, rF mq 0 b0)), (g 62, .inr (12, rF mq 1 b1)), (g 63, .inr (12, rF mq 2 b2)), (g 0, .inl (cb2, 60000, .inl (fun _ => 0))), (g 6, .inr (11, hF b6))] H := hP
  have hD : va_D (fun q : Nat => s.heap.size ≤ q) [(a1, .inl (cb, 1024, .inl (fun _ => 0))), (a2, .inl (cm, 3, .inr (.inr (.inr (.inr (fun _ => none)))))), (g 61, .inr (12, rF mq 0 b0)), (g 62, .inr (12, rF mq 1 b1)), (g 63, .inr (12, rF mq 2 b2)), (g 0, .inl (cb2, 60000, .inl (fun _ => 0))), (g 6, .inr (11, hF b6))] := hD
  have hK : va_K (dC, dI) vwCl [(cb, .byte), (cm, .object RX6), (cb2, .byte)] s := hK
  refine W.widen (k := 117) (n := 3761775) (Nat.le_of_ble_eq_true rfl) (Nat.le_of_ble_eq_true rfl) ?_
  subst hp_6
  refine lv_icmp_eq (tgt := 1215) hx hb dL_law_253 (by decide) (fun c_9 => ?_) (fun c_9 => absurd rfl c_9)
  exact law_tail C0 hS (Nat.le_of_ble_eq_true rfl) (Nat.le_of_ble_eq_true rfl) hl
set_option maxHeartbeats 8000000 in
set_option maxRecDepth 100000 in
theorem law_2 {p : Program} {l : Launch} {e : Env} {s : State} {m : MethodId} {below : List Frame} {meth : Method} {c : Code} {b : Nat} {xs : Nat → Int32} (C0 : lw_At p s m meth c b 6 xs) {dC : Nat → ClassId} {dI : Nat → Nat → Nat} {xq a1 a2 mq : Nat} {cb cm cb2 : ClassId} {g b0 b1 b2 b6 : Nat → Nat} {H : Heap} {locs : List Loc} {ls : Array Slot} (hK : va_K (dC, dI) vwCl [(cb, .byte), (cm, .object RX6), (cb2, .byte)] s) (hP : va_P (dC, dI) vwCl (lwW xq a1 a2 mq cb cm cb2 g b0 b1 b2 b6) H) (hD : va_D (fun q : Nat => s.heap.size ≤ q) (lwW xq a1 a2 mq cb cm cb2 g b0 b1 b2 b6)) (hS : va_S (fun q : Nat => s.heap.size ≤ q) s.heap H locs) (hl : lv_has ls 4 [(3, .int 0), (2, .ref mq), (1, .ref xq), (0, .ref b)]) : W p l e room_1 s m #[Value.ref b] below meth c H locs 117 3761775 (lw_Z below #[Value.ref b] s) (F0 m 258 ls []) := by
  obtain ⟨hx, hb, hr, hml, hown, hw, hX, hbl, hlocks, hgv⟩ := id C0
  have hA : ∀ q : Nat, s.heap.size ≤ q → (fun q : Nat => s.heap.size ≤ q) q := fun _ h => h
  have hbA : ¬ (fun q : Nat => s.heap.size ≤ q) b := Nat.not_le.mpr hbl
  refine lv_aload_n hx hb dL_law_258 rfl (lv_at hl 2 rfl) ?_
  have hPc := hP.sub (ws' := [(xq, .inr (10, xF a1 a2)), (a1, .inl (cb, 1024, .inl (fun _ => 0)))]) [0, 1] rfl
  have hDc := hD.sub (ws' := [(xq, .inr (10, xF a1 a2)), (a1, .inl (cb, 1024, .inl (fun _ => 0)))]) [0, 1] (by decide) rfl
  have hKc := hK.sub (tys' := [(cb, .byte)]) [0] rfl
  have hFc := va_free (wc := [(xq, .inr (10, xF a1 a2)), (a1, .inl (cb, 1024, .inl (fun _ => 0)))]) hD hS hA [0, 1] rfl
  refine va_calli (va_runV (As := []) (rest := []) ⟨hx, hb, hml, hown, hw⟩ (k_X11_read l dC dI H.size xq a1 a2 cb (fun _ => 0)) ⟨callB_of 0 hw (gdl (tb_1 (List.mem_of_getElem? (i := 102) (by decide +kernel))) rfl) rfl rfl rfl (hw (Cond.initialized RX11) (tb_1 (List.mem_of_getElem? (i := 1) (by decide +kernel)))) (hw (Cond.methodLink RL 23 yX11_read) (tb_1 (List.mem_of_getElem? (i := 99) (by decide +kernel)))) (by decide +kernel) ⟨Nat.le_of_ble_eq_true rfl, Nat.le_of_ble_eq_true rfl⟩, (hw (Cond.instanceMethod yX11_read) (tb_1 (List.mem_of_getElem? (i := 100) (by decide +kernel)))), (hw (Cond.selects RX11 yX11_read yX11_read) (tb_1 (List.mem_of_getElem? (i := 101) (by decide +kernel))))⟩ ⟨pM_blind, va_recv hKc hPc (ci := 10) (q0 := 0) rfl rfl, pM_of hPc hKc hDc⟩ rfl rfl hl.1 rfl (lv_room (Nat.le_of_ble_eq_true rfl)) dL_law_259 ⟨Nat.le_of_ble_eq_true rfl, Nat.le_of_ble_eq_true rfl⟩) hS (fun q _ h => hFc q h) hFc (fun r_1 u t H1 locs ht hvm hp_2 hB hz1 hk1 hS => ?_)
  obtain ⟨hP, hD⟩ := va_join (wr := [(a2, .inl (cm, 3, .inr (.inr (.inr (.inr (fun _ => none)))))), (mq, .inr (14, mF g)), (g 61, .inr (12, rF mq 0 b0)), (g 62, .inr (12, rF mq 1 b1)), (g 63, .inr (12, rF mq 2 b2)), (g 0, .inl (cb2, 60000, .inl (fun _ => 0))), (g 6, .inr (11, hF b6))]) (w1 := []) hP hD [0, 1] [2, 3, 4, 5, 6, 7, 8] rfl rfl (by decide) (by decide) hk1 hFc pnil dnil
  have hK := hK.sub (tys' := [(cm, .object RX6), (cb2, .byte)]) [1, 2] rfl
  generalize H1 = H at hP hS ⊢
  have hP : va_P (dC, dI) vwCl [(a2, .inl (cm, 3, .inr (.inr (.inr (.inr (fun _ => none)))))), (mq, .inr (14, mF g)), (g 61, .inr (12, rF mq 0 b0)), (g 62, .inr (12, rF mq 1 b1)), (g 63, .inr (12, rF mq 2 b2)), (g 0, .inl (cb2, 60000, .inl (fun _ => 0))), (g 6, .inr (11, hF b6))] H := hP
  have hD : va_D (fun q : Nat => s.heap.size ≤ q) [(a2, .inl (cm, 3, .inr (.inr (.inr (.inr (fun _ => none)))))), (mq, .inr (14, mF g)), (g 61, .inr (12, rF mq 0 b0)), (g 62, .inr (12, rF mq 1 b1)), (g 63, .inr (12, rF mq 2 b2)), (g 0, .inl (cb2, 60000, .inl (fun _ => 0))), (g 6, .inr (11, hF b6))] := hD
  have hK : va_K (dC, dI) vwCl [(cm, .object RX6), (cb2, .byte)] s := hK
  refine W.widen (k := 130) (n := 3761898) (Nat.le_of_ble_eq_true rfl) (Nat.le_of_ble_eq_true rfl) ?_
  subst hp_2
  refine lv_aload_n hx hb dL_law_262 rfl (lv_at hl 1 rfl) ?_
  have hPc := hP.sub (ws' := [(mq, .inr (14, mF g)), (g 6, .inr (11, hF b6))]) [1, 6] rfl
  have hDc := hD.sub (ws' := [(mq, .inr (14, mF g)), (g 6, .inr (11, hF b6))]) [1, 6] (by decide) rfl
  have hKc := hK.sub (tys' := []) [] rfl
  have hFc := va_free (wc := [(mq, .inr (14, mF g)), (g 6, .inr (11, hF b6))]) hD hS hA [1, 6] rfl
  refine va_calli (va_runV (As := []) (rest := [.int ((-1))]) ⟨hx, hb, hml, hown, hw⟩ (k_X15_read l dC dI H.size mq g b6) ⟨callB_of 0 hw (gdl (tb_11 (List.mem_of_getElem? (i := 20) (by decide +kernel))) rfl) rfl rfl rfl (hw (Cond.initialized RX15) (tb_1 (List.mem_of_getElem? (i := 2) (by decide +kernel)))) (hw (Cond.methodLink RL 27 yX15_read) (tb_11 (List.mem_of_getElem? (i := 17) (by decide +kernel)))) (by decide +kernel) ⟨Nat.le_of_ble_eq_true rfl, Nat.le_of_ble_eq_true rfl⟩, (hw (Cond.instanceMethod yX15_read) (tb_11 (List.mem_of_getElem? (i := 18) (by decide +kernel)))), (hw (Cond.selects RX15 yX15_read yX15_read) (tb_11 (List.mem_of_getElem? (i := 19) (by decide +kernel))))⟩ ⟨pM_blind, va_recv hKc hPc (ci := 14) (q0 := 0) rfl rfl, pM_of hPc hKc hDc⟩ rfl rfl hl.1 rfl (lv_room (Nat.le_of_ble_eq_true rfl)) dL_law_263 ⟨Nat.le_of_ble_eq_true rfl, Nat.le_of_ble_eq_true rfl⟩) hS (fun q _ h => hFc q h) hFc (fun r_3 u t H1 locs ht hvm hp_4 hB hz1 hk1 hS => ?_)
  obtain ⟨hP, hD⟩ := va_join (wr := [(a2, .inl (cm, 3, .inr (.inr (.inr (.inr (fun _ => none)))))), (g 61, .inr (12, rF mq 0 b0)), (g 62, .inr (12, rF mq 1 b1)), (g 63, .inr (12, rF mq 2 b2)), (g 0, .inl (cb2, 60000, .inl (fun _ => 0)))]) (w1 := []) hP hD [1, 6] [0, 2, 3, 4, 5] rfl rfl (by decide) (by decide) hk1 hFc pnil dnil
  have hK := hK.sub (tys' := [(cm, .object RX6), (cb2, .byte)]) [0, 1] rfl
  generalize H1 = H at hP hS ⊢
  have hP : va_P (dC, dI) vwCl [(a2, .inl (cm, 3, .inr (.inr (.inr (.inr (fun _ => none)))))), (g 61, .inr (12, rF mq 0 b0)), (g 62, .inr (12, rF mq 1 b1)), (g 63, .inr (12, rF mq 2 b2)), (g 0, .inl (cb2, 60000, .inl (fun _ => 0)))] H := hP
  have hD : va_D (fun q : Nat => s.heap.size ≤ q) [(a2, .inl (cm, 3, .inr (.inr (.inr (.inr (fun _ => none)))))), (g 61, .inr (12, rF mq 0 b0)), (g 62, .inr (12, rF mq 1 b1)), (g 63, .inr (12, rF mq 2 b2)), (g 0, .inl (cb2, 60000, .inl (fun _ => 0)))] := hD
  have hK : va_K (dC, dI) vwCl [(cm, .object RX6), (cb2, .byte)] s := hK
  refine W.widen (k := 130) (n := 3761898) (Nat.le_of_ble_eq_true rfl) (Nat.le_of_ble_eq_true rfl) ?_
  subst hp_4
  refine lv_icmp_eq (tgt := 1215) hx hb dL_law_266 (by decide) (fun c_5 => ?_) (fun c_5 => absurd c_5 (by decide))
  exact law_tail C0 hS (Nat.le_of_ble_eq_true rfl) (Nat.le_of_ble_eq_true rfl) hl
set_option maxHeartbeats 8000000 in
set_option maxRecDepth 100000 in
theorem law_3 {p : Program} {l : Launch} {e : Env} {s : State} {m : MethodId} {below : List Frame} {meth : Method} {c : Code} {b : Nat} {xs : Nat → Int32} (C0 : lw_At p s m meth c b 6 xs) {dC : Nat → ClassId} {dI : Nat → Nat → Nat} {xq a1 a2 mq : Nat} {cb cm cb2 : ClassId} {g b0 b1 b2 b6 : Nat → Nat} {H : Heap} {locs : List Loc} {ls : Array Slot} (hK : va_K (dC, dI) vwCl [(cb, .byte), (cm, .object RX6), (cb2, .byte)] s) (hP : va_P (dC, dI) vwCl (lwW xq a1 a2 mq cb cm cb2 g b0 b1 b2 b6) H) (hD : va_D (fun q : Nat => s.heap.size ≤ q) (lwW xq a1 a2 mq cb cm cb2 g b0 b1 b2 b6)) (hS : va_S (fun q : Nat => s.heap.size ≤ q) s.heap H locs) (hl : lv_has ls 4 [(3, .int 0), (2, .ref mq), (1, .ref xq), (0, .ref b)]) : W p l e room_1 s m #[Value.ref b] below meth c H locs 117 3761775 (lw_Z below #[Value.ref b] s) (F0 m 271 ls []) := by
  obtain ⟨hx, hb, hr, hml, hown, hw, hX, hbl, hlocks, hgv⟩ := id C0
  have hA : ∀ q : Nat, s.heap.size ≤ q → (fun q : Nat => s.heap.size ≤ q) q := fun _ h => h
  have hbA : ¬ (fun q : Nat => s.heap.size ≤ q) b := Nat.not_le.mpr hbl
  refine lv_aload_n hx hb dL_law_271 rfl (lv_at hl 2 rfl) ?_
  have hPc := hP.sub (ws' := (xW xq a1 a2 cm)) [0, 2] rfl
  have hKc := hK.sub (tys' := [(cm, .object "CodeLayout$Machine")]) [1] rfl
  refine vp_callSi (va_runV (As := []) (rest := []) ⟨hx, hb, hml, hown, hw⟩ (k_X11_place l dC dI xq a1 a2 cm ) ⟨callB_of 0 hw (gdl (tb_4 (List.mem_of_getElem? (i := 95) (by decide +kernel))) rfl) rfl rfl rfl (hw (Cond.initialized RX11) (tb_1 (List.mem_of_getElem? (i := 1) (by decide +kernel)))) (hw (Cond.methodLink RL 28 yX11_place) (tb_4 (List.mem_of_getElem? (i := 92) (by decide +kernel)))) (by decide +kernel) ⟨Nat.le_of_ble_eq_true rfl, Nat.le_of_ble_eq_true rfl⟩, (hw (Cond.instanceMethod yX11_place) (tb_4 (List.mem_of_getElem? (i := 93) (by decide +kernel)))), (hw (Cond.selects RX11 yX11_place yX11_place) (tb_4 (List.mem_of_getElem? (i := 94) (by decide +kernel))))⟩ ⟨pR_blind, va_recv hKc hPc (ci := 10) (q0 := 0) rfl rfl, pR_of hPc hKc⟩ rfl rfl hl.1 rfl (lv_room (Nat.le_of_ble_eq_true rfl)) dL_law_272 ⟨Nat.le_of_ble_eq_true rfl, Nat.le_of_ble_eq_true rfl⟩).run (fun r_1 e_2 => ?_)
  subst e_2
  refine lv_aload_n hx hb dL_law_275 rfl (lv_at hl 1 rfl) ?_
  have hPc := hP.sub (ws' := (mW mq g b0 b1 b2)) [3, 4, 5, 6] rfl
  have hKc := hK.sub (tys' := []) [] rfl
  refine vp_callSi (va_runV (As := []) (rest := [.int ((-1))]) ⟨hx, hb, hml, hown, hw⟩ (k_X15_place l dC dI mq g b0 b1 b2 ) ⟨callB_of 0 hw (gdl (tb_12 (List.mem_of_getElem? (i := 45) (by decide +kernel))) rfl) rfl rfl rfl (hw (Cond.initialized RX15) (tb_1 (List.mem_of_getElem? (i := 2) (by decide +kernel)))) (hw (Cond.methodLink RL 31 yX15_place) (tb_12 (List.mem_of_getElem? (i := 42) (by decide +kernel)))) (by decide +kernel) ⟨Nat.le_of_ble_eq_true rfl, Nat.le_of_ble_eq_true rfl⟩, (hw (Cond.instanceMethod yX15_place) (tb_12 (List.mem_of_getElem? (i := 43) (by decide +kernel)))), (hw (Cond.selects RX15 yX15_place yX15_place) (tb_12 (List.mem_of_getElem? (i := 44) (by decide +kernel))))⟩ ⟨pR_blind, va_recv hKc hPc (ci := 14) (q0 := 0) rfl rfl, pR_of hPc hKc⟩ rfl rfl hl.1 rfl (lv_room (Nat.le_of_ble_eq_true rfl)) dL_law_276 ⟨Nat.le_of_ble_eq_true rfl, Nat.le_of_ble_eq_true rfl⟩).run (fun r_3 e_4 => ?_)
  subst e_4
  refine lv_icmp_eq (tgt := 1215) hx hb dL_law_279 (by decide) (fun c_5 => ?_) (fun c_5 => absurd c_5 (by decide))
  exact law_tail C0 hS (Nat.le_of_ble_eq_true rfl) (Nat.le_of_ble_eq_true rfl) hl
set_option maxHeartbeats 8000000 in
set_option maxRecDepth 100000 in
theorem law_4 {p : Program} {l : Launch} {e : Env} {s : State} {m : MethodId} {below : List Frame} {meth : Method} {c : Code} {b : Nat} {xs : Nat → Int32} (C0 : lw_At p s m meth c b 6 xs) {dC : Nat → ClassId} {dI : Nat → Nat → Nat} {xq a1 a2 mq : Nat} {cb cm cb2 : ClassId} {g b0 b1 b2 b6 : Nat → Nat} {H : Heap} {locs : List Loc} {ls : Array Slot} (hK : va_K (dC, dI) vwCl [(cb, .byte), (cm, .object RX6), (cb2, .byte)] s) (hP : va_P (dC, dI) vwCl (lwW xq a1 a2 mq cb cm cb2 g b0 b1 b2 b6) H) (hD : va_D (fun q : Nat => s.heap.size ≤ q) (lwW xq a1 a2 mq cb cm cb2 g b0 b1 b2 b6)) (hS : va_S (fun q : Nat => s.heap.size ≤ q) s.heap H locs) (hl : lv_has ls 4 [(3, .int 0), (2, .ref mq), (1, .ref xq), (0, .ref b)]) : W p l e room_1 s m #[Value.ref b] below meth c H locs 117 3761775 (lw_Z below #[Value.ref b] s) (F0 m 284 ls []) := by
  obtain ⟨hx, hb, hr, hml, hown, hw, hX, hbl, hlocks, hgv⟩ := id C0
  have hA : ∀ q : Nat, s.heap.size ≤ q → (fun q : Nat => s.heap.size ≤ q) q := fun _ h => h
  have hbA : ¬ (fun q : Nat => s.heap.size ≤ q) b := Nat.not_le.mpr hbl
  refine lv_aload_n hx hb dL_law_284 rfl (lv_at hl 2 rfl) ?_
  refine lv_aload_n hx hb dL_law_285 rfl (lv_at hl 3 rfl) ?_
  refine lv_iload_n hx hb dL_law_286 rfl (lv_at hl 0 rfl) ?_
  refine lv_iconst (v := 1) hx hb dL_law_287 (by decide) ?_
  refine lv_iadd hx hb dL_law_288 ?_
  refine lv_topi (fun x_1 ex_1 => ?_)
  have ex_1 : x_1 = 1 := ex_1.trans (by decide)
  subst ex_1
  refine va_sld hx hb hX hbl hbA hS (show vp_in 1 6 from by unfold vp_in; decide) dL_law_289 ?_
  have hPc := hP.sub (ws' := (xW xq a1 a2 cm)) [0, 2] rfl
  have hKc := hK.sub (tys' := [(cm, .object "CodeLayout$Machine")]) [1] rfl
  refine vp_callSi (va_runV (As := [.int (xs (Int32.toNatClampNeg 1))]) (rest := []) ⟨hx, hb, hml, hown, hw⟩ (k_X11_count l dC dI xq a1 a2 cm (xs (Int32.toNatClampNeg 1))) ⟨callB_of 1 hw (gdl (tb_4 (List.mem_of_getElem? (i := 99) (by decide +kernel))) rfl) rfl rfl rfl (hw (Cond.initialized RX11) (tb_1 (List.mem_of_getElem? (i := 1) (by decide +kernel)))) (hw (Cond.methodLink RL 32 yX11_count) (tb_4 (List.mem_of_getElem? (i := 96) (by decide +kernel)))) (by decide +kernel) ⟨Nat.le_of_ble_eq_true rfl, Nat.le_of_ble_eq_true rfl⟩, (hw (Cond.instanceMethod yX11_count) (tb_4 (List.mem_of_getElem? (i := 97) (by decide +kernel)))), (hw (Cond.selects RX11 yX11_count yX11_count) (tb_4 (List.mem_of_getElem? (i := 98) (by decide +kernel))))⟩ ⟨pR_blind, va_recv hKc hPc (ci := 10) (q0 := 0) rfl rfl, pR_of hPc hKc⟩ rfl rfl hl.1 rfl (lv_room (Nat.le_of_ble_eq_true rfl)) dL_law_290 ⟨Nat.le_of_ble_eq_true rfl, Nat.le_of_ble_eq_true rfl⟩).run (fun r_2 e_3 => ?_)
  subst e_3
  refine lv_aload_n hx hb dL_law_293 rfl (lv_at hl 1 rfl) ?_
  refine lv_aload_n hx hb dL_law_294 rfl (lv_at hl 3 rfl) ?_
  refine lv_iload_n hx hb dL_law_295 rfl (lv_at hl 0 rfl) ?_
  refine lv_iconst (v := 1) hx hb dL_law_296 (by decide) ?_
  refine lv_iadd hx hb dL_law_297 ?_
  refine lv_topi (fun x_4 ex_4 => ?_)
  have ex_4 : x_4 = 1 := ex_4.trans (by decide)
  subst ex_4
  refine va_sld hx hb hX hbl hbA hS (show vp_in 1 6 from by unfold vp_in; decide) dL_law_298 ?_
  have hPc := hP.sub (ws' := (mW mq g b0 b1 b2)) [3, 4, 5, 6] rfl
  have hKc := hK.sub (tys' := []) [] rfl
  refine vp_callSi (va_runV (As := [.int (xs (Int32.toNatClampNeg 1))]) (rest := [.int (sp_count (xs (Int32.toNatClampNeg 1)))]) ⟨hx, hb, hml, hown, hw⟩ (k_X15_count l dC dI mq g b0 b1 b2 (xs (Int32.toNatClampNeg 1))) ⟨callB_of 1 hw (gdl (tb_12 (List.mem_of_getElem? (i := 49) (by decide +kernel))) rfl) rfl rfl rfl (hw (Cond.initialized RX15) (tb_1 (List.mem_of_getElem? (i := 2) (by decide +kernel)))) (hw (Cond.methodLink RL 36 yX15_count) (tb_12 (List.mem_of_getElem? (i := 46) (by decide +kernel)))) (by decide +kernel) ⟨Nat.le_of_ble_eq_true rfl, Nat.le_of_ble_eq_true rfl⟩, (hw (Cond.instanceMethod yX15_count) (tb_12 (List.mem_of_getElem? (i := 47) (by decide +kernel)))), (hw (Cond.selects RX15 yX15_count yX15_count) (tb_12 (List.mem_of_getElem? (i := 48) (by decide +kernel))))⟩ ⟨pR_blind, va_recv hKc hPc (ci := 14) (q0 := 0) rfl rfl, pR_of hPc hKc⟩ rfl rfl hl.1 rfl (lv_room (Nat.le_of_ble_eq_true rfl)) dL_law_299 ⟨Nat.le_of_ble_eq_true rfl, Nat.le_of_ble_eq_true rfl⟩).run (fun r_5 e_6 => ?_)
  subst e_6
  refine lv_icmp_eq (tgt := 1215) hx hb dL_law_302 (by decide) (fun c_9 => ?_) (fun c_9 => absurd rfl c_9)
  exact law_tail C0 hS (Nat.le_of_ble_eq_true rfl) (Nat.le_of_ble_eq_true rfl) hl
set_option maxHeartbeats 8000000 in
set_option maxRecDepth 100000 in
theorem law_5 {p : Program} {l : Launch} {e : Env} {s : State} {m : MethodId} {below : List Frame} {meth : Method} {c : Code} {b : Nat} {xs : Nat → Int32} (C0 : lw_At p s m meth c b 6 xs) {dC : Nat → ClassId} {dI : Nat → Nat → Nat} {xq a1 a2 mq : Nat} {cb cm cb2 : ClassId} {g b0 b1 b2 b6 : Nat → Nat} {H : Heap} {locs : List Loc} {ls : Array Slot} (hK : va_K (dC, dI) vwCl [(cb, .byte), (cm, .object RX6), (cb2, .byte)] s) (hP : va_P (dC, dI) vwCl (lwW xq a1 a2 mq cb cm cb2 g b0 b1 b2 b6) H) (hD : va_D (fun q : Nat => s.heap.size ≤ q) (lwW xq a1 a2 mq cb cm cb2 g b0 b1 b2 b6)) (hS : va_S (fun q : Nat => s.heap.size ≤ q) s.heap H locs) (hl : lv_has ls 4 [(3, .int 0), (2, .ref mq), (1, .ref xq), (0, .ref b)]) : W p l e room_1 s m #[Value.ref b] below meth c H locs 117 3761775 (lw_Z below #[Value.ref b] s) (F0 m 307 ls []) := by
  obtain ⟨hx, hb, hr, hml, hown, hw, hX, hbl, hlocks, hgv⟩ := id C0
  have hA : ∀ q : Nat, s.heap.size ≤ q → (fun q : Nat => s.heap.size ≤ q) q := fun _ h => h
  have hbA : ¬ (fun q : Nat => s.heap.size ≤ q) b := Nat.not_le.mpr hbl
  refine lv_aload_n hx hb dL_law_307 rfl (lv_at hl 2 rfl) ?_
  refine lv_aload_n hx hb dL_law_308 rfl (lv_at hl 3 rfl) ?_
  refine lv_iload_n hx hb dL_law_309 rfl (lv_at hl 0 rfl) ?_
  refine lv_iconst (v := 1) hx hb dL_law_310 (by decide) ?_
  refine lv_iadd hx hb dL_law_311 ?_
  refine lv_topi (fun x_1 ex_1 => ?_)
  have ex_1 : x_1 = 1 := ex_1.trans (by decide)
  subst ex_1
  refine va_sld hx hb hX hbl hbA hS (show vp_in 1 6 from by unfold vp_in; decide) dL_law_312 ?_
  refine lv_aload_n hx hb dL_law_313 rfl (lv_at hl 3 rfl) ?_
  refine lv_iload_n hx hb dL_law_314 rfl (lv_at hl 0 rfl) ?_
  refine lv_iconst (v := 2) hx hb dL_law_315 (by decide) ?_
  refine lv_iadd hx hb dL_law_316 ?_
  refine lv_topi (fun x_2 ex_2 => ?_)
  have ex_2 : x_2 = 2 := ex_2.trans (by decide)
  subst ex_2
  refine va_sld hx hb hX hbl hbA hS (show vp_in 2 6 from by unfold vp_in; decide) dL_law_317 ?_
  have hPc := hP.sub (ws' := (xW xq a1 a2 cm)) [0, 2] rfl
  have hKc := hK.sub (tys' := [(cm, .object "CodeLayout$Machine")]) [1] rfl
  refine vp_callSl (va_runV (As := [.int (xs (Int32.toNatClampNeg 1)), .int (xs (Int32.toNatClampNeg 2))]) (rest := []) ⟨hx, hb, hml, hown, hw⟩ (k_X11_function l dC dI xq a1 a2 cm (xs (Int32.toNatClampNeg 1)) (xs (Int32.toNatClampNeg 2))) ⟨callB_of 2 hw (gdl (tb_4 (List.mem_of_getElem? (i := 104) (by decide +kernel))) rfl) rfl rfl rfl (hw (Cond.initialized RX11) (tb_1 (List.mem_of_getElem? (i := 1) (by decide +kernel)))) (hw (Cond.methodLink RL 37 yX11_function) (tb_4 (List.mem_of_getElem? (i := 101) (by decide +kernel)))) (by decide +kernel) ⟨Nat.le_of_ble_eq_true rfl, Nat.le_of_ble_eq_true rfl⟩, (hw (Cond.instanceMethod yX11_function) (tb_4 (List.mem_of_getElem? (i := 102) (by decide +kernel)))), (hw (Cond.selects RX11 yX11_function yX11_function) (tb_4 (List.mem_of_getElem? (i := 103) (by decide +kernel))))⟩ ⟨pR_blind, va_recv hKc hPc (ci := 10) (q0 := 0) rfl rfl, pR_of hPc hKc⟩ rfl rfl hl.1 rfl (lv_room (Nat.le_of_ble_eq_true rfl)) dL_law_318 ⟨Nat.le_of_ble_eq_true rfl, Nat.le_of_ble_eq_true rfl⟩).run (fun r_3 e_4 => ?_)
  subst e_4
  refine lv_aload_n hx hb dL_law_321 rfl (lv_at hl 1 rfl) ?_
  refine lv_aload_n hx hb dL_law_322 rfl (lv_at hl 3 rfl) ?_
  refine lv_iload_n hx hb dL_law_323 rfl (lv_at hl 0 rfl) ?_
  refine lv_iconst (v := 1) hx hb dL_law_324 (by decide) ?_
  refine lv_iadd hx hb dL_law_325 ?_
  refine lv_topi (fun x_5 ex_5 => ?_)
  have ex_5 : x_5 = 1 := ex_5.trans (by decide)
  subst ex_5
  refine va_sld hx hb hX hbl hbA hS (show vp_in 1 6 from by unfold vp_in; decide) dL_law_326 ?_
  refine lv_aload_n hx hb dL_law_327 rfl (lv_at hl 3 rfl) ?_
  refine lv_iload_n hx hb dL_law_328 rfl (lv_at hl 0 rfl) ?_
  refine lv_iconst (v := 2) hx hb dL_law_329 (by decide) ?_
  refine lv_iadd hx hb dL_law_330 ?_
  refine lv_topi (fun x_6 ex_6 => ?_)
  have ex_6 : x_6 = 2 := ex_6.trans (by decide)
  subst ex_6
  refine va_sld hx hb hX hbl hbA hS (show vp_in 2 6 from by unfold vp_in; decide) dL_law_331 ?_
  have hPc := hP.sub (ws' := (mW mq g b0 b1 b2)) [3, 4, 5, 6] rfl
  have hKc := hK.sub (tys' := []) [] rfl
  refine vp_callSl (va_runV (As := [.int (xs (Int32.toNatClampNeg 1)), .int (xs (Int32.toNatClampNeg 2))]) (rest := [.long ((-14))]) ⟨hx, hb, hml, hown, hw⟩ (k_X15_function l dC dI mq g b0 b1 b2 (xs (Int32.toNatClampNeg 1)) (xs (Int32.toNatClampNeg 2))) ⟨callB_of 2 hw (gdl (tb_12 (List.mem_of_getElem? (i := 53) (by decide +kernel))) rfl) rfl rfl rfl (hw (Cond.initialized RX15) (tb_1 (List.mem_of_getElem? (i := 2) (by decide +kernel)))) (hw (Cond.methodLink RL 41 yX15_function) (tb_12 (List.mem_of_getElem? (i := 50) (by decide +kernel)))) (by decide +kernel) ⟨Nat.le_of_ble_eq_true rfl, Nat.le_of_ble_eq_true rfl⟩, (hw (Cond.instanceMethod yX15_function) (tb_12 (List.mem_of_getElem? (i := 51) (by decide +kernel)))), (hw (Cond.selects RX15 yX15_function yX15_function) (tb_12 (List.mem_of_getElem? (i := 52) (by decide +kernel))))⟩ ⟨pR_blind, va_recv hKc hPc (ci := 14) (q0 := 0) rfl rfl, pR_of hPc hKc⟩ rfl rfl hl.1 rfl (lv_room (Nat.le_of_ble_eq_true rfl)) dL_law_332 ⟨Nat.le_of_ble_eq_true rfl, Nat.le_of_ble_eq_true rfl⟩).run (fun r_7 e_8 => ?_)
  subst e_8
  refine W.lcmp hx hb dL_law_335 ?_
  refine lv_topi (fun x_9 ex_9 => ?_)
  have ex_9 : x_9 = 0 := ex_9.trans (by decide)
  subst ex_9
  refine lv_if_eq (tgt := 1215) hx hb dL_law_336 (by decide) (fun c_10 => ?_) (fun c_10 => absurd c_10 (by decide))
  exact law_tail C0 hS (Nat.le_of_ble_eq_true rfl) (Nat.le_of_ble_eq_true rfl) hl
set_option maxHeartbeats 8000000 in
set_option maxRecDepth 100000 in
theorem law_6 {p : Program} {l : Launch} {e : Env} {s : State} {m : MethodId} {below : List Frame} {meth : Method} {c : Code} {b : Nat} {xs : Nat → Int32} (C0 : lw_At p s m meth c b 6 xs) {dC : Nat → ClassId} {dI : Nat → Nat → Nat} {xq a1 a2 mq : Nat} {cb cm cb2 : ClassId} {g b0 b1 b2 b6 : Nat → Nat} {H : Heap} {locs : List Loc} {ls : Array Slot} (hK : va_K (dC, dI) vwCl [(cb, .byte), (cm, .object RX6), (cb2, .byte)] s) (hP : va_P (dC, dI) vwCl (lwW xq a1 a2 mq cb cm cb2 g b0 b1 b2 b6) H) (hD : va_D (fun q : Nat => s.heap.size ≤ q) (lwW xq a1 a2 mq cb cm cb2 g b0 b1 b2 b6)) (hS : va_S (fun q : Nat => s.heap.size ≤ q) s.heap H locs) (hl : lv_has ls 4 [(3, .int 0), (2, .ref mq), (1, .ref xq), (0, .ref b)]) : W p l e room_1 s m #[Value.ref b] below meth c H locs 117 3761775 (lw_Z below #[Value.ref b] s) (F0 m 341 ls []) := by
  obtain ⟨hx, hb, hr, hml, hown, hw, hX, hbl, hlocks, hgv⟩ := id C0
  have hA : ∀ q : Nat, s.heap.size ≤ q → (fun q : Nat => s.heap.size ≤ q) q := fun _ h => h
  have hbA : ¬ (fun q : Nat => s.heap.size ≤ q) b := Nat.not_le.mpr hbl
  refine lv_aload_n hx hb dL_law_341 rfl (lv_at hl 2 rfl) ?_
  refine lv_aload_n hx hb dL_law_342 rfl (lv_at hl 3 rfl) ?_
  refine lv_iload_n hx hb dL_law_343 rfl (lv_at hl 0 rfl) ?_
  refine lv_iconst (v := 1) hx hb dL_law_344 (by decide) ?_
  refine lv_iadd hx hb dL_law_345 ?_
  refine lv_topi (fun x_1 ex_1 => ?_)
  have ex_1 : x_1 = 1 := ex_1.trans (by decide)
  subst ex_1
  refine va_sld hx hb hX hbl hbA hS (show vp_in 1 6 from by unfold vp_in; decide) dL_law_346 ?_
  refine lv_aload_n hx hb dL_law_347 rfl (lv_at hl 3 rfl) ?_
  refine lv_iload_n hx hb dL_law_348 rfl (lv_at hl 0 rfl) ?_
  refine lv_iconst (v := 2) hx hb dL_law_349 (by decide) ?_
  refine lv_iadd hx hb dL_law_350 ?_
  refine lv_topi (fun x_2 ex_2 => ?_)
  have ex_2 : x_2 = 2 := ex_2.trans (by decide)
  subst ex_2
  refine va_sld hx hb hX hbl hbA hS (show vp_in 2 6 from by unfold vp_in; decide) dL_law_351 ?_
  have hPc := hP.sub (ws' := (xW xq a1 a2 cm)) [0, 2] rfl
  have hKc := hK.sub (tys' := [(cm, .object "CodeLayout$Machine")]) [1] rfl
  refine vp_callSl (va_runV (As := [.int (xs (Int32.toNatClampNeg 1)), .int (xs (Int32.toNatClampNeg 2))]) (rest := []) ⟨hx, hb, hml, hown, hw⟩ (k_X11_block l dC dI xq a1 a2 cm (xs (Int32.toNatClampNeg 1)) (xs (Int32.toNatClampNeg 2))) ⟨callB_of 2 hw (gdl (tb_4 (List.mem_of_getElem? (i := 132) (by decide +kernel))) rfl) rfl rfl rfl (hw (Cond.initialized RX11) (tb_1 (List.mem_of_getElem? (i := 1) (by decide +kernel)))) (hw (Cond.methodLink RL 42 yX11_block) (tb_4 (List.mem_of_getElem? (i := 129) (by decide +kernel)))) (by decide +kernel) ⟨Nat.le_of_ble_eq_true rfl, Nat.le_of_ble_eq_true rfl⟩, (hw (Cond.instanceMethod yX11_block) (tb_4 (List.mem_of_getElem? (i := 130) (by decide +kernel)))), (hw (Cond.selects RX11 yX11_block yX11_block) (tb_4 (List.mem_of_getElem? (i := 131) (by decide +kernel))))⟩ ⟨pR_blind, va_recv hKc hPc (ci := 10) (q0 := 0) rfl rfl, pR_of hPc hKc⟩ rfl rfl hl.1 rfl (lv_room (Nat.le_of_ble_eq_true rfl)) dL_law_352 ⟨Nat.le_of_ble_eq_true rfl, Nat.le_of_ble_eq_true rfl⟩).run (fun r_3 e_4 => ?_)
  subst e_4
  refine lv_aload_n hx hb dL_law_355 rfl (lv_at hl 1 rfl) ?_
  refine lv_aload_n hx hb dL_law_356 rfl (lv_at hl 3 rfl) ?_
  refine lv_iload_n hx hb dL_law_357 rfl (lv_at hl 0 rfl) ?_
  refine lv_iconst (v := 1) hx hb dL_law_358 (by decide) ?_
  refine lv_iadd hx hb dL_law_359 ?_
  refine lv_topi (fun x_5 ex_5 => ?_)
  have ex_5 : x_5 = 1 := ex_5.trans (by decide)
  subst ex_5
  refine va_sld hx hb hX hbl hbA hS (show vp_in 1 6 from by unfold vp_in; decide) dL_law_360 ?_
  refine lv_aload_n hx hb dL_law_361 rfl (lv_at hl 3 rfl) ?_
  refine lv_iload_n hx hb dL_law_362 rfl (lv_at hl 0 rfl) ?_
  refine lv_iconst (v := 2) hx hb dL_law_363 (by decide) ?_
  refine lv_iadd hx hb dL_law_364 ?_
  refine lv_topi (fun x_6 ex_6 => ?_)
  have ex_6 : x_6 = 2 := ex_6.trans (by decide)
  subst ex_6
  refine va_sld hx hb hX hbl hbA hS (show vp_in 2 6 from by unfold vp_in; decide) dL_law_365 ?_
  have hPc := hP.sub (ws' := (mW mq g b0 b1 b2)) [3, 4, 5, 6] rfl
  have hKc := hK.sub (tys' := []) [] rfl
  refine vp_callSl (va_runV (As := [.int (xs (Int32.toNatClampNeg 1)), .int (xs (Int32.toNatClampNeg 2))]) (rest := [.long ((-14))]) ⟨hx, hb, hml, hown, hw⟩ (k_X15_block l dC dI mq g b0 b1 b2 (xs (Int32.toNatClampNeg 1)) (xs (Int32.toNatClampNeg 2))) ⟨callB_of 2 hw (gdl (tb_12 (List.mem_of_getElem? (i := 62) (by decide +kernel))) rfl) rfl rfl rfl (hw (Cond.initialized RX15) (tb_1 (List.mem_of_getElem? (i := 2) (by decide +kernel)))) (hw (Cond.methodLink RL 45 yX15_block) (tb_12 (List.mem_of_getElem? (i := 59) (by decide +kernel)))) (by decide +kernel) ⟨Nat.le_of_ble_eq_true rfl, Nat.le_of_ble_eq_true rfl⟩, (hw (Cond.instanceMethod yX15_block) (tb_12 (List.mem_of_getElem? (i := 60) (by decide +kernel)))), (hw (Cond.selects RX15 yX15_block yX15_block) (tb_12 (List.mem_of_getElem? (i := 61) (by decide +kernel))))⟩ ⟨pR_blind, va_recv hKc hPc (ci := 14) (q0 := 0) rfl rfl, pR_of hPc hKc⟩ rfl rfl hl.1 rfl (lv_room (Nat.le_of_ble_eq_true rfl)) dL_law_366 ⟨Nat.le_of_ble_eq_true rfl, Nat.le_of_ble_eq_true rfl⟩).run (fun r_7 e_8 => ?_)
  subst e_8
  refine W.lcmp hx hb dL_law_369 ?_
  refine lv_topi (fun x_9 ex_9 => ?_)
  have ex_9 : x_9 = 0 := ex_9.trans (by decide)
  subst ex_9
  refine lv_if_eq (tgt := 1215) hx hb dL_law_370 (by decide) (fun c_10 => ?_) (fun c_10 => absurd c_10 (by decide))
  exact law_tail C0 hS (Nat.le_of_ble_eq_true rfl) (Nat.le_of_ble_eq_true rfl) hl
set_option maxHeartbeats 8000000 in
set_option maxRecDepth 100000 in
theorem law_7 {p : Program} {l : Launch} {e : Env} {s : State} {m : MethodId} {below : List Frame} {meth : Method} {c : Code} {b : Nat} {xs : Nat → Int32} (C0 : lw_At p s m meth c b 6 xs) {dC : Nat → ClassId} {dI : Nat → Nat → Nat} {xq a1 a2 mq : Nat} {cb cm cb2 : ClassId} {g b0 b1 b2 b6 : Nat → Nat} {H : Heap} {locs : List Loc} {ls : Array Slot} (hK : va_K (dC, dI) vwCl [(cb, .byte), (cm, .object RX6), (cb2, .byte)] s) (hP : va_P (dC, dI) vwCl (lwW xq a1 a2 mq cb cm cb2 g b0 b1 b2 b6) H) (hD : va_D (fun q : Nat => s.heap.size ≤ q) (lwW xq a1 a2 mq cb cm cb2 g b0 b1 b2 b6)) (hS : va_S (fun q : Nat => s.heap.size ≤ q) s.heap H locs) (hl : lv_has ls 4 [(3, .int 0), (2, .ref mq), (1, .ref xq), (0, .ref b)]) : W p l e room_1 s m #[Value.ref b] below meth c H locs 117 3761775 (lw_Z below #[Value.ref b] s) (F0 m 375 ls []) := by
  obtain ⟨hx, hb, hr, hml, hown, hw, hX, hbl, hlocks, hgv⟩ := id C0
  have hA : ∀ q : Nat, s.heap.size ≤ q → (fun q : Nat => s.heap.size ≤ q) q := fun _ h => h
  have hbA : ¬ (fun q : Nat => s.heap.size ≤ q) b := Nat.not_le.mpr hbl
  refine lv_aload_n hx hb dL_law_375 rfl (lv_at hl 2 rfl) ?_
  refine lv_aload_n hx hb dL_law_376 rfl (lv_at hl 3 rfl) ?_
  refine lv_iload_n hx hb dL_law_377 rfl (lv_at hl 0 rfl) ?_
  refine lv_iconst (v := 1) hx hb dL_law_378 (by decide) ?_
  refine lv_iadd hx hb dL_law_379 ?_
  refine lv_topi (fun x_1 ex_1 => ?_)
  have ex_1 : x_1 = 1 := ex_1.trans (by decide)
  subst ex_1
  refine va_sld hx hb hX hbl hbA hS (show vp_in 1 6 from by unfold vp_in; decide) dL_law_380 ?_
  refine lv_i2l hx hb dL_law_381 rfl ?_
  refine lv_topl (fun y_2 ey_2 => ?_)
  refine lv_bipush (v := 32) hx hb dL_law_382 (by decide) ?_
  refine lv_lshl hx hb dL_law_384 rfl ?_
  refine lv_topl (fun y_3 ey_3 => ?_)
  refine lv_aload_n hx hb dL_law_385 rfl (lv_at hl 3 rfl) ?_
  refine lv_iload_n hx hb dL_law_386 rfl (lv_at hl 0 rfl) ?_
  refine lv_iconst (v := 2) hx hb dL_law_387 (by decide) ?_
  refine lv_iadd hx hb dL_law_388 ?_
  refine lv_topi (fun x_4 ex_4 => ?_)
  have ex_4 : x_4 = 2 := ex_4.trans (by decide)
  subst ex_4
  refine va_sld hx hb hX hbl hbA hS (show vp_in 2 6 from by unfold vp_in; decide) dL_law_389 ?_
  refine lv_i2l hx hb dL_law_390 rfl ?_
  refine lv_topl (fun y_5 ey_5 => ?_)
  refine lv_ldc2 (own := RL) (v := 4294967295) hx hb hown (hw (Cond.constantLong RL 46 (4294967295)) (tb_14 (List.mem_of_getElem? (i := 101) (by decide +kernel)))) dL_law_391 ?_
  refine lv_land hx hb dL_law_394 ?_
  refine lv_topl (fun y_6 ey_6 => ?_)
  refine lv_lor hx hb dL_law_395 ?_
  refine lv_topl (fun y_7 ey_7 => ?_)
  refine lv_aload_n hx hb dL_law_396 rfl (lv_at hl 3 rfl) ?_
  refine lv_iload_n hx hb dL_law_397 rfl (lv_at hl 0 rfl) ?_
  refine lv_iconst (v := 3) hx hb dL_law_398 (by decide) ?_
  refine lv_iadd hx hb dL_law_399 ?_
  refine lv_topi (fun x_8 ex_8 => ?_)
  have ex_8 : x_8 = 3 := ex_8.trans (by decide)
  subst ex_8
  refine va_sld hx hb hX hbl hbA hS (show vp_in 3 6 from by unfold vp_in; decide) dL_law_400 ?_
  refine lv_i2l hx hb dL_law_401 rfl ?_
  refine lv_topl (fun y_9 ey_9 => ?_)
  refine lv_bipush (v := 32) hx hb dL_law_402 (by decide) ?_
  refine lv_lshl hx hb dL_law_404 rfl ?_
  refine lv_topl (fun y_10 ey_10 => ?_)
  refine lv_aload_n hx hb dL_law_405 rfl (lv_at hl 3 rfl) ?_
  refine lv_iload_n hx hb dL_law_406 rfl (lv_at hl 0 rfl) ?_
  refine lv_iconst (v := 4) hx hb dL_law_407 (by decide) ?_
  refine lv_iadd hx hb dL_law_408 ?_
  refine lv_topi (fun x_11 ex_11 => ?_)
  have ex_11 : x_11 = 4 := ex_11.trans (by decide)
  subst ex_11
  refine va_sld hx hb hX hbl hbA hS (show vp_in 4 6 from by unfold vp_in; decide) dL_law_409 ?_
  refine lv_i2l hx hb dL_law_410 rfl ?_
  refine lv_topl (fun y_12 ey_12 => ?_)
  refine lv_ldc2 (own := RL) (v := 4294967295) hx hb hown (hw (Cond.constantLong RL 46 (4294967295)) (tb_14 (List.mem_of_getElem? (i := 101) (by decide +kernel)))) dL_law_411 ?_
  refine lv_land hx hb dL_law_414 ?_
  refine lv_topl (fun y_13 ey_13 => ?_)
  refine lv_lor hx hb dL_law_415 ?_
  refine lv_topl (fun y_14 ey_14 => ?_)
  refine lv_aload_n hx hb dL_law_416 rfl (lv_at hl 3 rfl) ?_
  refine lv_iload_n hx hb dL_law_417 rfl (lv_at hl 0 rfl) ?_
  refine lv_iconst (v := 5) hx hb dL_law_418 (by decide) ?_
  refine lv_iadd hx hb dL_law_419 ?_
  refine lv_topi (fun x_15 ex_15 => ?_)
  have ex_15 : x_15 = 5 := ex_15.trans (by decide)
  subst ex_15
  refine va_sld hx hb hX hbl hbA hS (show vp_in 5 6 from by unfold vp_in; decide) dL_law_420 ?_
  have hPc := hP.sub (ws' := (xW xq a1 a2 cm)) [0, 2] rfl
  have hKc := hK.sub (tys' := [(cm, .object "CodeLayout$Machine")]) [1] rfl
  refine vp_callSi (va_runV (As := [.long y_7, .long y_14, .int (xs (Int32.toNatClampNeg 5))]) (rest := []) ⟨hx, hb, hml, hown, hw⟩ (k_X11_edge l dC dI xq a1 a2 cm y_7 y_14 (xs (Int32.toNatClampNeg 5))) ⟨callB_of 3 hw (gdl (tb_4 (List.mem_of_getElem? (i := 182) (by decide +kernel))) rfl) rfl rfl rfl (hw (Cond.initialized RX11) (tb_1 (List.mem_of_getElem? (i := 1) (by decide +kernel)))) (hw (Cond.methodLink RL 48 yX11_edge) (tb_4 (List.mem_of_getElem? (i := 179) (by decide +kernel)))) (by decide +kernel) ⟨Nat.le_of_ble_eq_true rfl, Nat.le_of_ble_eq_true rfl⟩, (hw (Cond.instanceMethod yX11_edge) (tb_4 (List.mem_of_getElem? (i := 180) (by decide +kernel)))), (hw (Cond.selects RX11 yX11_edge yX11_edge) (tb_4 (List.mem_of_getElem? (i := 181) (by decide +kernel))))⟩ ⟨pR_blind, va_recv hKc hPc (ci := 10) (q0 := 0) rfl rfl, pR_of hPc hKc⟩ rfl rfl hl.1 rfl (lv_room (Nat.le_of_ble_eq_true rfl)) dL_law_421 ⟨Nat.le_of_ble_eq_true rfl, Nat.le_of_ble_eq_true rfl⟩).run (fun r_16 e_17 => ?_)
  subst e_17
  refine lv_aload_n hx hb dL_law_424 rfl (lv_at hl 1 rfl) ?_
  refine lv_aload_n hx hb dL_law_425 rfl (lv_at hl 3 rfl) ?_
  refine lv_iload_n hx hb dL_law_426 rfl (lv_at hl 0 rfl) ?_
  refine lv_iconst (v := 1) hx hb dL_law_427 (by decide) ?_
  refine lv_iadd hx hb dL_law_428 ?_
  refine lv_topi (fun x_18 ex_18 => ?_)
  have ex_18 : x_18 = 1 := ex_18.trans (by decide)
  subst ex_18
  refine va_sld hx hb hX hbl hbA hS (show vp_in 1 6 from by unfold vp_in; decide) dL_law_429 ?_
  refine lv_i2l hx hb dL_law_430 rfl ?_
  refine lv_topl (fun y_19 ey_19 => ?_)
  refine lv_bipush (v := 32) hx hb dL_law_431 (by decide) ?_
  refine lv_lshl hx hb dL_law_433 rfl ?_
  refine lv_topl (fun y_20 ey_20 => ?_)
  refine lv_aload_n hx hb dL_law_434 rfl (lv_at hl 3 rfl) ?_
  refine lv_iload_n hx hb dL_law_435 rfl (lv_at hl 0 rfl) ?_
  refine lv_iconst (v := 2) hx hb dL_law_436 (by decide) ?_
  refine lv_iadd hx hb dL_law_437 ?_
  refine lv_topi (fun x_21 ex_21 => ?_)
  have ex_21 : x_21 = 2 := ex_21.trans (by decide)
  subst ex_21
  refine va_sld hx hb hX hbl hbA hS (show vp_in 2 6 from by unfold vp_in; decide) dL_law_438 ?_
  refine lv_i2l hx hb dL_law_439 rfl ?_
  refine lv_topl (fun y_22 ey_22 => ?_)
  refine lv_ldc2 (own := RL) (v := 4294967295) hx hb hown (hw (Cond.constantLong RL 46 (4294967295)) (tb_14 (List.mem_of_getElem? (i := 101) (by decide +kernel)))) dL_law_440 ?_
  refine lv_land hx hb dL_law_443 ?_
  refine lv_topl (fun y_23 ey_23 => ?_)
  refine lv_lor hx hb dL_law_444 ?_
  refine lv_topl (fun y_24 ey_24 => ?_)
  refine lv_aload_n hx hb dL_law_445 rfl (lv_at hl 3 rfl) ?_
  refine lv_iload_n hx hb dL_law_446 rfl (lv_at hl 0 rfl) ?_
  refine lv_iconst (v := 3) hx hb dL_law_447 (by decide) ?_
  refine lv_iadd hx hb dL_law_448 ?_
  refine lv_topi (fun x_25 ex_25 => ?_)
  have ex_25 : x_25 = 3 := ex_25.trans (by decide)
  subst ex_25
  refine va_sld hx hb hX hbl hbA hS (show vp_in 3 6 from by unfold vp_in; decide) dL_law_449 ?_
  refine lv_i2l hx hb dL_law_450 rfl ?_
  refine lv_topl (fun y_26 ey_26 => ?_)
  refine lv_bipush (v := 32) hx hb dL_law_451 (by decide) ?_
  refine lv_lshl hx hb dL_law_453 rfl ?_
  refine lv_topl (fun y_27 ey_27 => ?_)
  refine lv_aload_n hx hb dL_law_454 rfl (lv_at hl 3 rfl) ?_
  refine lv_iload_n hx hb dL_law_455 rfl (lv_at hl 0 rfl) ?_
  refine lv_iconst (v := 4) hx hb dL_law_456 (by decide) ?_
  refine lv_iadd hx hb dL_law_457 ?_
  refine lv_topi (fun x_28 ex_28 => ?_)
  have ex_28 : x_28 = 4 := ex_28.trans (by decide)
  subst ex_28
  refine va_sld hx hb hX hbl hbA hS (show vp_in 4 6 from by unfold vp_in; decide) dL_law_458 ?_
  refine lv_i2l hx hb dL_law_459 rfl ?_
  refine lv_topl (fun y_29 ey_29 => ?_)
  refine lv_ldc2 (own := RL) (v := 4294967295) hx hb hown (hw (Cond.constantLong RL 46 (4294967295)) (tb_14 (List.mem_of_getElem? (i := 101) (by decide +kernel)))) dL_law_460 ?_
  refine lv_land hx hb dL_law_463 ?_
  refine lv_topl (fun y_30 ey_30 => ?_)
  refine lv_lor hx hb dL_law_464 ?_
  refine lv_topl (fun y_31 ey_31 => ?_)
  refine lv_aload_n hx hb dL_law_465 rfl (lv_at hl 3 rfl) ?_
  refine lv_iload_n hx hb dL_law_466 rfl (lv_at hl 0 rfl) ?_
  refine lv_iconst (v := 5) hx hb dL_law_467 (by decide) ?_
  refine lv_iadd hx hb dL_law_468 ?_
  refine lv_topi (fun x_32 ex_32 => ?_)
  have ex_32 : x_32 = 5 := ex_32.trans (by decide)
  subst ex_32
  refine va_sld hx hb hX hbl hbA hS (show vp_in 5 6 from by unfold vp_in; decide) dL_law_469 ?_
  have hPc := hP.sub (ws' := (mW mq g b0 b1 b2)) [3, 4, 5, 6] rfl
  have hKc := hK.sub (tys' := []) [] rfl
  refine vp_callSi (va_runV (As := [.long y_24, .long y_31, .int (xs (Int32.toNatClampNeg 5))]) (rest := [.int ((-14))]) ⟨hx, hb, hml, hown, hw⟩ (k_X15_edge l dC dI mq g b0 b1 b2 y_24 y_31 (xs (Int32.toNatClampNeg 5))) ⟨callB_of 3 hw (gdl (tb_12 (List.mem_of_getElem? (i := 75) (by decide +kernel))) rfl) rfl rfl rfl (hw (Cond.initialized RX15) (tb_1 (List.mem_of_getElem? (i := 2) (by decide +kernel)))) (hw (Cond.methodLink RL 52 yX15_edge) (tb_12 (List.mem_of_getElem? (i := 72) (by decide +kernel)))) (by decide +kernel) ⟨Nat.le_of_ble_eq_true rfl, Nat.le_of_ble_eq_true rfl⟩, (hw (Cond.instanceMethod yX15_edge) (tb_12 (List.mem_of_getElem? (i := 73) (by decide +kernel)))), (hw (Cond.selects RX15 yX15_edge yX15_edge) (tb_12 (List.mem_of_getElem? (i := 74) (by decide +kernel))))⟩ ⟨pR_blind, va_recv hKc hPc (ci := 14) (q0 := 0) rfl rfl, pR_of hPc hKc⟩ rfl rfl hl.1 rfl (lv_room (Nat.le_of_ble_eq_true rfl)) dL_law_470 ⟨Nat.le_of_ble_eq_true rfl, Nat.le_of_ble_eq_true rfl⟩).run (fun r_33 e_34 => ?_)
  subst e_34
  refine lv_icmp_eq (tgt := 1215) hx hb dL_law_473 (by decide) (fun c_35 => ?_) (fun c_35 => absurd c_35 (by decide))
  exact law_tail C0 hS (Nat.le_of_ble_eq_true rfl) (Nat.le_of_ble_eq_true rfl) hl
