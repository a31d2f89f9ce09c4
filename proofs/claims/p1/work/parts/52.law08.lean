set_option maxHeartbeats 8000000 in
set_option maxRecDepth 100000 in
theorem law_8 {p : Program} {l : Launch} {e : Env} {s : State} {m : MethodId} {below : List Frame} {meth : Method} {c : Code} {b : Nat} {xs : Nat → Int32} (C0 : lw_At p s m meth c b 6 xs) {dC : Nat → ClassId} {dI : Nat → Nat → Nat} {xq a1 a2 mq : Nat} {cb cm cb2 : ClassId} {g b0 b1 b2 b6 : Nat → Nat} {H : Heap} {locs : List Loc} {ls : Array Slot} (hK : va_K (dC, dI) vwCl [(cb, .byte), (cm, .object RX6), (cb2, .byte)] s) (hP : va_P (dC, dI) vwCl (lwW xq a1 a2 mq cb cm cb2 g b0 b1 b2 b6) H) (hD : va_D (fun q : Nat => s.heap.size ≤ q) (lwW xq a1 a2 mq cb cm cb2 g b0 b1 b2 b6)) (hS : va_S (fun q : Nat => s.heap.size ≤ q) s.heap H locs) (hl : lv_has ls 4 [(3, .int 0), (2, .ref mq), (1, .ref xq), (0, .ref b)]) : W p l e room_1 s m #[Value.ref b] below meth c H locs 117 3761775 (lw_Z below #[Value.ref b] s) (F0 m 478 ls []) := by
  obtain ⟨hx, hb, hr, hml, hown, hw, hX, hbl, hlocks, hgv⟩ := id C0
  have hA : ∀ q : Nat, s.heap.size ≤ q → (fun q : Nat => s.heap.size ≤ q) q := fun _ h => h
  have hbA : ¬ (fun q : Nat => s.heap.size ≤ q) b := Nat.not_le.mpr hbl
  refine lv_aload_n hx hb dL_law_478 rfl (lv_at hl 2 rfl) ?_
  refine lv_aload_n hx hb dL_law_479 rfl (lv_at hl 3 rfl) ?_
  refine lv_iload_n hx hb dL_law_480 rfl (lv_at hl 0 rfl) ?_
  refine lv_iconst (v := 1) hx hb dL_law_481 (by decide) ?_
  refine lv_iadd hx hb dL_law_482 ?_
  refine lv_topi (fun x_1 ex_1 => ?_)
  have ex_1 : x_1 = 1 := ex_1.trans (by decide)
  subst ex_1
  refine va_sld hx hb hX hbl hbA hS (show vp_in 1 6 from by unfold vp_in; decide) dL_law_483 ?_
  refine lv_aload_n hx hb dL_law_484 rfl (lv_at hl 3 rfl) ?_
  refine lv_iload_n hx hb dL_law_485 rfl (lv_at hl 0 rfl) ?_
  refine lv_iconst (v := 2) hx hb dL_law_486 (by decide) ?_
  refine lv_iadd hx hb dL_law_487 ?_
  refine lv_topi (fun x_2 ex_2 => ?_)
  have ex_2 : x_2 = 2 := ex_2.trans (by decide)
  subst ex_2
  refine va_sld hx hb hX hbl hbA hS (show vp_in 2 6 from by unfold vp_in; decide) dL_law_488 ?_
  have hPc := hP.sub (ws' := (xW xq a1 a2 cm)) [0, 2] rfl
  have hKc := hK.sub (tys' := [(cm, .object "CodeLayout$Machine")]) [1] rfl
  refine vp_callSl (va_runV (As := [.int (xs (Int32.toNatClampNeg 1)), .int (xs (Int32.toNatClampNeg 2))]) (rest := []) ⟨hx, hb, hml, hown, hw⟩ (k_X11_way l dC dI xq a1 a2 cm (xs (Int32.toNatClampNeg 1)) (xs (Int32.toNatClampNeg 2))) ⟨callB_of 2 hw (gdl (tb_4 (List.mem_of_getElem? (i := 215) (by decide +kernel))) rfl) rfl rfl rfl (hw (Cond.initialized RX11) (tb_1 (List.mem_of_getElem? (i := 1) (by decide +kernel)))) (hw (Cond.methodLink RL 53 yX11_way) (tb_4 (List.mem_of_getElem? (i := 212) (by decide +kernel)))) (by decide +kernel) ⟨Nat.le_of_ble_eq_true rfl, Nat.le_of_ble_eq_true rfl⟩, (hw (Cond.instanceMethod yX11_way) (tb_4 (List.mem_of_getElem? (i := 213) (by decide +kernel)))), (hw (Cond.selects RX11 yX11_way yX11_way) (tb_4 (List.mem_of_getElem? (i := 214) (by decide +kernel))))⟩ ⟨pR_blind, va_recv hKc hPc (ci := 10) (q0 := 0) rfl rfl, pR_of hPc hKc⟩ rfl rfl hl.1 rfl (lv_room (Nat.le_of_ble_eq_true rfl)) dL_law_489 ⟨Nat.le_of_ble_eq_true rfl, Nat.le_of_ble_eq_true rfl⟩).run (fun r_3 e_4 => ?_)
  subst e_4
  refine lv_aload_n hx hb dL_law_492 rfl (lv_at hl 1 rfl) ?_
  refine lv_aload_n hx hb dL_law_493 rfl (lv_at hl 3 rfl) ?_
  refine lv_iload_n hx hb dL_law_494 rfl (lv_at hl 0 rfl) ?_
  refine lv_iconst (v := 1) hx hb dL_law_495 (by decide) ?_
  refine lv_iadd hx hb dL_law_496 ?_
  refine lv_topi (fun x_5 ex_5 => ?_)
  have ex_5 : x_5 = 1 := ex_5.trans (by decide)
  subst ex_5
  refine va_sld hx hb hX hbl hbA hS (show vp_in 1 6 from by unfold vp_in; decide) dL_law_497 ?_
  refine lv_aload_n hx hb dL_law_498 rfl (lv_at hl 3 rfl) ?_
  refine lv_iload_n hx hb dL_law_499 rfl (lv_at hl 0 rfl) ?_
  refine lv_iconst (v := 2) hx hb dL_law_500 (by decide) ?_
  refine lv_iadd hx hb dL_law_501 ?_
  refine lv_topi (fun x_6 ex_6 => ?_)
  have ex_6 : x_6 = 2 := ex_6.trans (by decide)
  subst ex_6
  refine va_sld hx hb hX hbl hbA hS (show vp_in 2 6 from by unfold vp_in; decide) dL_law_502 ?_
  have hPc := hP.sub (ws' := (mW mq g b0 b1 b2)) [3, 4, 5, 6] rfl
  have hKc := hK.sub (tys' := []) [] rfl
  refine vp_callSl (va_runV (As := [.int (xs (Int32.toNatClampNeg 1)), .int (xs (Int32.toNatClampNeg 2))]) (rest := [.long 0]) ⟨hx, hb, hml, hown, hw⟩ (k_X15_way l dC dI mq g b0 b1 b2 (xs (Int32.toNatClampNeg 1)) (xs (Int32.toNatClampNeg 2))) ⟨callB_of 2 hw (gdl (tb_12 (List.mem_of_getElem? (i := 100) (by decide +kernel))) rfl) rfl rfl rfl (hw (Cond.initialized RX15) (tb_1 (List.mem_of_getElem? (i := 2) (by decide +kernel)))) (hw (Cond.methodLink RL 56 yX15_way) (tb_12 (List.mem_of_getElem? (i := 97) (by decide +kernel)))) (by decide +kernel) ⟨Nat.le_of_ble_eq_true rfl, Nat.le_of_ble_eq_true rfl⟩, (hw (Cond.instanceMethod yX15_way) (tb_12 (List.mem_of_getElem? (i := 98) (by decide +kernel)))), (hw (Cond.selects RX15 yX15_way yX15_way) (tb_12 (List.mem_of_getElem? (i := 99) (by decide +kernel))))⟩ ⟨pR_blind, va_recv hKc hPc (ci := 14) (q0 := 0) rfl rfl, pR_of hPc hKc⟩ rfl rfl hl.1 rfl (lv_room (Nat.le_of_ble_eq_true rfl)) dL_law_503 ⟨Nat.le_of_ble_eq_true rfl, Nat.le_of_ble_eq_true rfl⟩).run (fun r_7 e_8 => ?_)
  subst e_8
  refine W.lcmp hx hb dL_law_506 ?_
  refine lv_topi (fun x_9 ex_9 => ?_)
  have ex_9 : x_9 = 0 := ex_9.trans (by decide)
  subst ex_9
  refine lv_if_eq (tgt := 1215) hx hb dL_law_507 (by decide) (fun c_10 => ?_) (fun c_10 => absurd c_10 (by decide))
  exact law_tail C0 hS (Nat.le_of_ble_eq_true rfl) (Nat.le_of_ble_eq_true rfl) hl
set_option maxHeartbeats 8000000 in
set_option maxRecDepth 100000 in
theorem law_9 {p : Program} {l : Launch} {e : Env} {s : State} {m : MethodId} {below : List Frame} {meth : Method} {c : Code} {b : Nat} {xs : Nat → Int32} (C0 : lw_At p s m meth c b 6 xs) {dC : Nat → ClassId} {dI : Nat → Nat → Nat} {xq a1 a2 mq : Nat} {cb cm cb2 : ClassId} {g b0 b1 b2 b6 : Nat → Nat} {H : Heap} {locs : List Loc} {ls : Array Slot} (hK : va_K (dC, dI) vwCl [(cb, .byte), (cm, .object RX6), (cb2, .byte)] s) (hP : va_P (dC, dI) vwCl (lwW xq a1 a2 mq cb cm cb2 g b0 b1 b2 b6) H) (hD : va_D (fun q : Nat => s.heap.size ≤ q) (lwW xq a1 a2 mq cb cm cb2 g b0 b1 b2 b6)) (hS : va_S (fun q : Nat => s.heap.size ≤ q) s.heap H locs) (hl : lv_has ls 4 [(3, .int 0), (2, .ref mq), (1, .ref xq), (0, .ref b)]) : W p l e room_1 s m #[Value.ref b] below meth c H locs 117 3761775 (lw_Z below #[Value.ref b] s) (F0 m 512 ls []) := by
  obtain ⟨hx, hb, hr, hml, hown, hw, hX, hbl, hlocks, hgv⟩ := id C0
  have hA : ∀ q : Nat, s.heap.size ≤ q → (fun q : Nat => s.heap.size ≤ q) q := fun _ h => h
  have hbA : ¬ (fun q : Nat => s.heap.size ≤ q) b := Nat.not_le.mpr hbl
  refine lv_aload_n hx hb dL_law_512 rfl (lv_at hl 2 rfl) ?_
  refine lv_aload_n hx hb dL_law_513 rfl (lv_at hl 3 rfl) ?_
  refine lv_iload_n hx hb dL_law_514 rfl (lv_at hl 0 rfl) ?_
  refine lv_iconst (v := 1) hx hb dL_law_515 (by decide) ?_
  refine lv_iadd hx hb dL_law_516 ?_
  refine lv_topi (fun x_1 ex_1 => ?_)
  have ex_1 : x_1 = 1 := ex_1.trans (by decide)
  subst ex_1
  refine va_sld hx hb hX hbl hbA hS (show vp_in 1 6 from by unfold vp_in; decide) dL_law_517 ?_
  refine lv_aload_n hx hb dL_law_518 rfl (lv_at hl 3 rfl) ?_
  refine lv_iload_n hx hb dL_law_519 rfl (lv_at hl 0 rfl) ?_
  refine lv_iconst (v := 2) hx hb dL_law_520 (by decide) ?_
  refine lv_iadd hx hb dL_law_521 ?_
  refine lv_topi (fun x_2 ex_2 => ?_)
  have ex_2 : x_2 = 2 := ex_2.trans (by decide)
  subst ex_2
  refine va_sld hx hb hX hbl hbA hS (show vp_in 2 6 from by unfold vp_in; decide) dL_law_522 ?_
  have hPc := hP.sub (ws' := (xW xq a1 a2 cm)) [0, 2] rfl
  have hKc := hK.sub (tys' := [(cm, .object "CodeLayout$Machine")]) [1] rfl
  refine vp_callSl (va_runV (As := [.int (xs (Int32.toNatClampNeg 1)), .int (xs (Int32.toNatClampNeg 2))]) (rest := []) ⟨hx, hb, hml, hown, hw⟩ (k_X11_calls l dC dI xq a1 a2 cm (xs (Int32.toNatClampNeg 1)) (xs (Int32.toNatClampNeg 2))) ⟨callB_of 2 hw (gdl (tb_4 (List.mem_of_getElem? (i := 223) (by decide +kernel))) rfl) rfl rfl rfl (hw (Cond.initialized RX11) (tb_1 (List.mem_of_getElem? (i := 1) (by decide +kernel)))) (hw (Cond.methodLink RL 57 yX11_calls) (tb_4 (List.mem_of_getElem? (i := 220) (by decide +kernel)))) (by decide +kernel) ⟨Nat.le_of_ble_eq_true rfl, Nat.le_of_ble_eq_true rfl⟩, (hw (Cond.instanceMethod yX11_calls) (tb_4 (List.mem_of_getElem? (i := 221) (by decide +kernel)))), (hw (Cond.selects RX11 yX11_calls yX11_calls) (tb_4 (List.mem_of_getElem? (i := 222) (by decide +kernel))))⟩ ⟨pR_blind, va_recv hKc hPc (ci := 10) (q0 := 0) rfl rfl, pR_of hPc hKc⟩ rfl rfl hl.1 rfl (lv_room (Nat.le_of_ble_eq_true rfl)) dL_law_523 ⟨Nat.le_of_ble_eq_true rfl, Nat.le_of_ble_eq_true rfl⟩).run (fun r_3 e_4 => ?_)
  subst e_4
  refine lv_aload_n hx hb dL_law_526 rfl (lv_at hl 1 rfl) ?_
  refine lv_aload_n hx hb dL_law_527 rfl (lv_at hl 3 rfl) ?_
  refine lv_iload_n hx hb dL_law_528 rfl (lv_at hl 0 rfl) ?_
  refine lv_iconst (v := 1) hx hb dL_law_529 (by decide) ?_
  refine lv_iadd hx hb dL_law_530 ?_
  refine lv_topi (fun x_5 ex_5 => ?_)
  have ex_5 : x_5 = 1 := ex_5.trans (by decide)
  subst ex_5
  refine va_sld hx hb hX hbl hbA hS (show vp_in 1 6 from by unfold vp_in; decide) dL_law_531 ?_
  refine lv_aload_n hx hb dL_law_532 rfl (lv_at hl 3 rfl) ?_
  refine lv_iload_n hx hb dL_law_533 rfl (lv_at hl 0 rfl) ?_
  refine lv_iconst (v := 2) hx hb dL_law_534 (by decide) ?_
  refine lv_iadd hx hb dL_law_535 ?_
  refine lv_topi (fun x_6 ex_6 => ?_)
  have ex_6 : x_6 = 2 := ex_6.trans (by decide)
  subst ex_6
  refine va_sld hx hb hX hbl hbA hS (show vp_in 2 6 from by unfold vp_in; decide) dL_law_536 ?_
  have hPc := hP.sub (ws' := (mW mq g b0 b1 b2)) [3, 4, 5, 6] rfl
  have hKc := hK.sub (tys' := []) [] rfl
  refine vp_callSl (va_runV (As := [.int (xs (Int32.toNatClampNeg 1)), .int (xs (Int32.toNatClampNeg 2))]) (rest := [.long 0]) ⟨hx, hb, hml, hown, hw⟩ (k_X15_calls l dC dI mq g b0 b1 b2 (xs (Int32.toNatClampNeg 1)) (xs (Int32.toNatClampNeg 2))) ⟨callB_of 2 hw (gdl (tb_12 (List.mem_of_getElem? (i := 104) (by decide +kernel))) rfl) rfl rfl rfl (hw (Cond.initialized RX15) (tb_1 (List.mem_of_getElem? (i := 2) (by decide +kernel)))) (hw (Cond.methodLink RL 60 yX15_calls) (tb_12 (List.mem_of_getElem? (i := 101) (by decide +kernel)))) (by decide +kernel) ⟨Nat.le_of_ble_eq_true rfl, Nat.le_of_ble_eq_true rfl⟩, (hw (Cond.instanceMethod yX15_calls) (tb_12 (List.mem_of_getElem? (i := 102) (by decide +kernel)))), (hw (Cond.selects RX15 yX15_calls yX15_calls) (tb_12 (List.mem_of_getElem? (i := 103) (by decide +kernel))))⟩ ⟨pR_blind, va_recv hKc hPc (ci := 14) (q0 := 0) rfl rfl, pR_of hPc hKc⟩ rfl rfl hl.1 rfl (lv_room (Nat.le_of_ble_eq_true rfl)) dL_law_537 ⟨Nat.le_of_ble_eq_true rfl, Nat.le_of_ble_eq_true rfl⟩).run (fun r_7 e_8 => ?_)
  subst e_8
  refine W.lcmp hx hb dL_law_540 ?_
  refine lv_topi (fun x_9 ex_9 => ?_)
  have ex_9 : x_9 = 0 := ex_9.trans (by decide)
  subst ex_9
  refine lv_if_eq (tgt := 1215) hx hb dL_law_541 (by decide) (fun c_10 => ?_) (fun c_10 => absurd c_10 (by decide))
  exact law_tail C0 hS (Nat.le_of_ble_eq_true rfl) (Nat.le_of_ble_eq_true rfl) hl
set_option maxHeartbeats 8000000 in
set_option maxRecDepth 100000 in
theorem law_10 {p : Program} {l : Launch} {e : Env} {s : State} {m : MethodId} {below : List Frame} {meth : Method} {c : Code} {b : Nat} {xs : Nat → Int32} (C0 : lw_At p s m meth c b 6 xs) {dC : Nat → ClassId} {dI : Nat → Nat → Nat} {xq a1 a2 mq : Nat} {cb cm cb2 : ClassId} {g b0 b1 b2 b6 : Nat → Nat} {H : Heap} {locs : List Loc} {ls : Array Slot} (hK : va_K (dC, dI) vwCl [(cb, .byte), (cm, .object RX6), (cb2, .byte)] s) (hP : va_P (dC, dI) vwCl (lwW xq a1 a2 mq cb cm cb2 g b0 b1 b2 b6) H) (hD : va_D (fun q : Nat => s.heap.size ≤ q) (lwW xq a1 a2 mq cb cm cb2 g b0 b1 b2 b6)) (hS : va_S (fun q : Nat => s.heap.size ≤ q) s.heap H locs) (hl : lv_has ls 4 [(3, .int 0), (2, .ref mq), (1, .ref xq), (0, .ref b)]) : W p l e room_1 s m #[Value.ref b] below meth c H locs 117 3761775 (lw_Z below #[Value.ref b] s) (F0 m 546 ls []) := by
  obtain ⟨hx, hb, hr, hml, hown, hw, hX, hbl, hlocks, hgv⟩ := id C0
  have hA : ∀ q : Nat, s.heap.size ≤ q → (fun q : Nat => s.heap.size ≤ q) q := fun _ h => h
  have hbA : ¬ (fun q : Nat => s.heap.size ≤ q) b := Nat.not_le.mpr hbl
  refine lv_aload_n hx hb dL_law_546 rfl (lv_at hl 2 rfl) ?_
  refine lv_aload_n hx hb dL_law_547 rfl (lv_at hl 3 rfl) ?_
  refine lv_iload_n hx hb dL_law_548 rfl (lv_at hl 0 rfl) ?_
  refine lv_iconst (v := 1) hx hb dL_law_549 (by decide) ?_
  refine lv_iadd hx hb dL_law_550 ?_
  refine lv_topi (fun x_1 ex_1 => ?_)
  have ex_1 : x_1 = 1 := ex_1.trans (by decide)
  subst ex_1
  refine va_sld hx hb hX hbl hbA hS (show vp_in 1 6 from by unfold vp_in; decide) dL_law_551 ?_
  refine lv_aload_n hx hb dL_law_552 rfl (lv_at hl 3 rfl) ?_
  refine lv_iload_n hx hb dL_law_553 rfl (lv_at hl 0 rfl) ?_
  refine lv_iconst (v := 2) hx hb dL_law_554 (by decide) ?_
  refine lv_iadd hx hb dL_law_555 ?_
  refine lv_topi (fun x_2 ex_2 => ?_)
  have ex_2 : x_2 = 2 := ex_2.trans (by decide)
  subst ex_2
  refine va_sld hx hb hX hbl hbA hS (show vp_in 2 6 from by unfold vp_in; decide) dL_law_556 ?_
  have hPc := hP.sub (ws' := (xW xq a1 a2 cm)) [0, 2] rfl
  have hKc := hK.sub (tys' := [(cm, .object "CodeLayout$Machine")]) [1] rfl
  refine vp_callSi (va_runV (As := [.int (xs (Int32.toNatClampNeg 1)), .int (xs (Int32.toNatClampNeg 2))]) (rest := []) ⟨hx, hb, hml, hown, hw⟩ (k_X11_lay l dC dI xq a1 a2 cm (xs (Int32.toNatClampNeg 1)) (xs (Int32.toNatClampNeg 2))) ⟨callB_of 2 hw (gdl (tb_4 (List.mem_of_getElem? (i := 231) (by decide +kernel))) rfl) rfl rfl rfl (hw (Cond.initialized RX11) (tb_1 (List.mem_of_getElem? (i := 1) (by decide +kernel)))) (hw (Cond.methodLink RL 61 yX11_lay) (tb_4 (List.mem_of_getElem? (i := 228) (by decide +kernel)))) (by decide +kernel) ⟨Nat.le_of_ble_eq_true rfl, Nat.le_of_ble_eq_true rfl⟩, (hw (Cond.instanceMethod yX11_lay) (tb_4 (List.mem_of_getElem? (i := 229) (by decide +kernel)))), (hw (Cond.selects RX11 yX11_lay yX11_lay) (tb_4 (List.mem_of_getElem? (i := 230) (by decide +kernel))))⟩ ⟨pR_blind, va_recv hKc hPc (ci := 10) (q0 := 0) rfl rfl, pR_of hPc hKc⟩ rfl rfl hl.1 rfl (lv_room (Nat.le_of_ble_eq_true rfl)) dL_law_557 ⟨Nat.le_of_ble_eq_true rfl, Nat.le_of_ble_eq_true rfl⟩).run (fun r_3 e_4 => ?_)
  subst e_4
  refine lv_aload_n hx hb dL_law_560 rfl (lv_at hl 1 rfl) ?_
  refine lv_aload_n hx hb dL_law_561 rfl (lv_at hl 3 rfl) ?_
  refine lv_iload_n hx hb dL_law_562 rfl (lv_at hl 0 rfl) ?_
  refine lv_iconst (v := 1) hx hb dL_law_563 (by decide) ?_
  refine lv_iadd hx hb dL_law_564 ?_
  refine lv_topi (fun x_5 ex_5 => ?_)
  have ex_5 : x_5 = 1 := ex_5.trans (by decide)
  subst ex_5
  refine va_sld hx hb hX hbl hbA hS (show vp_in 1 6 from by unfold vp_in; decide) dL_law_565 ?_
  refine lv_aload_n hx hb dL_law_566 rfl (lv_at hl 3 rfl) ?_
  refine lv_iload_n hx hb dL_law_567 rfl (lv_at hl 0 rfl) ?_
  refine lv_iconst (v := 2) hx hb dL_law_568 (by decide) ?_
  refine lv_iadd hx hb dL_law_569 ?_
  refine lv_topi (fun x_6 ex_6 => ?_)
  have ex_6 : x_6 = 2 := ex_6.trans (by decide)
  subst ex_6
  refine va_sld hx hb hX hbl hbA hS (show vp_in 2 6 from by unfold vp_in; decide) dL_law_570 ?_
  have hPc := hP.sub (ws' := (mW mq g b0 b1 b2)) [3, 4, 5, 6] rfl
  have hKc := hK.sub (tys' := []) [] rfl
  refine vp_callSi (va_runV (As := [.int (xs (Int32.toNatClampNeg 1)), .int (xs (Int32.toNatClampNeg 2))]) (rest := [.int ((-14))]) ⟨hx, hb, hml, hown, hw⟩ (k_X15_lay l dC dI mq g b0 b1 b2 (xs (Int32.toNatClampNeg 1)) (xs (Int32.toNatClampNeg 2))) ⟨callB_of 2 hw (gdl (tb_12 (List.mem_of_getElem? (i := 179) (by decide +kernel))) rfl) rfl rfl rfl (hw (Cond.initialized RX15) (tb_1 (List.mem_of_getElem? (i := 2) (by decide +kernel)))) (hw (Cond.methodLink RL 65 yX15_lay) (tb_12 (List.mem_of_getElem? (i := 176) (by decide +kernel)))) (by decide +kernel) ⟨Nat.le_of_ble_eq_true rfl, Nat.le_of_ble_eq_true rfl⟩, (hw (Cond.instanceMethod yX15_lay) (tb_12 (List.mem_of_getElem? (i := 177) (by decide +kernel)))), (hw (Cond.selects RX15 yX15_lay yX15_lay) (tb_12 (List.mem_of_getElem? (i := 178) (by decide +kernel))))⟩ ⟨pR_blind, va_recv hKc hPc (ci := 14) (q0 := 0) rfl rfl, pR_of hPc hKc⟩ rfl rfl hl.1 rfl (lv_room (Nat.le_of_ble_eq_true rfl)) dL_law_571 ⟨Nat.le_of_ble_eq_true rfl, Nat.le_of_ble_eq_true rfl⟩).run (fun r_7 e_8 => ?_)
  subst e_8
  refine lv_icmp_eq (tgt := 1215) hx hb dL_law_574 (by decide) (fun c_9 => ?_) (fun c_9 => absurd c_9 (by decide))
  exact law_tail C0 hS (Nat.le_of_ble_eq_true rfl) (Nat.le_of_ble_eq_true rfl) hl
set_option maxHeartbeats 8000000 in
set_option maxRecDepth 100000 in
theorem law_11 {p : Program} {l : Launch} {e : Env} {s : State} {m : MethodId} {below : List Frame} {meth : Method} {c : Code} {b : Nat} {xs : Nat → Int32} (C0 : lw_At p s m meth c b 6 xs) {dC : Nat → ClassId} {dI : Nat → Nat → Nat} {xq a1 a2 mq : Nat} {cb cm cb2 : ClassId} {g b0 b1 b2 b6 : Nat → Nat} {H : Heap} {locs : List Loc} {ls : Array Slot} (hK : va_K (dC, dI) vwCl [(cb, .byte), (cm, .object RX6), (cb2, .byte)] s) (hP : va_P (dC, dI) vwCl (lwW xq a1 a2 mq cb cm cb2 g b0 b1 b2 b6) H) (hD : va_D (fun q : Nat => s.heap.size ≤ q) (lwW xq a1 a2 mq cb cm cb2 g b0 b1 b2 b6)) (hS : va_S (fun q : Nat => s.heap.size ≤ q) s.heap H locs) (hl : lv_has ls 4 [(3, .int 0), (2, .ref mq), (1, .ref xq), (0, .ref b)]) : W p l e room_1 s m #[Value.ref b] below meth c H locs 117 3761775 (lw_Z below #[Value.ref b] s) (F0 m 579 ls []) := by
  obtain ⟨hx, hb, hr, hml, hown, hw, hX, hbl, hlocks, hgv⟩ := id C0
  have hA : ∀ q : Nat, s.heap.size ≤ q → (fun q : Nat => s.heap.size ≤ q) q := fun _ h => h
  have hbA : ¬ (fun q : Nat => s.heap.size ≤ q) b := Nat.not_le.mpr hbl
  refine lv_aload_n hx hb dL_law_579 rfl (lv_at hl 2 rfl) ?_
  refine lv_aload_n hx hb dL_law_580 rfl (lv_at hl 3 rfl) ?_
  refine lv_iload_n hx hb dL_law_581 rfl (lv_at hl 0 rfl) ?_
  refine lv_iconst (v := 1) hx hb dL_law_582 (by decide) ?_
  refine lv_iadd hx hb dL_law_583 ?_
  refine lv_topi (fun x_1 ex_1 => ?_)
  have ex_1 : x_1 = 1 := ex_1.trans (by decide)
  subst ex_1
  refine va_sld hx hb hX hbl hbA hS (show vp_in 1 6 from by unfold vp_in; decide) dL_law_584 ?_
  have hPc := hP.sub (ws' := (xW xq a1 a2 cm)) [0, 2] rfl
  have hKc := hK.sub (tys' := [(cm, .object "CodeLayout$Machine")]) [1] rfl
  refine vp_callSi (va_runV (As := [.int (xs (Int32.toNatClampNeg 1))]) (rest := []) ⟨hx, hb, hml, hown, hw⟩ (k_X11_order l dC dI xq a1 a2 cm (xs (Int32.toNatClampNeg 1))) ⟨callB_of 1 hw (gdl (tb_6 (List.mem_of_getElem? (i := 225) (by decide +kernel))) rfl) rfl rfl rfl (hw (Cond.initialized RX11) (tb_1 (List.mem_of_getElem? (i := 1) (by decide +kernel)))) (hw (Cond.methodLink RL 66 yX11_order) (tb_6 (List.mem_of_getElem? (i := 222) (by decide +kernel)))) (by decide +kernel) ⟨Nat.le_of_ble_eq_true rfl, Nat.le_of_ble_eq_true rfl⟩, (hw (Cond.instanceMethod yX11_order) (tb_6 (List.mem_of_getElem? (i := 223) (by decide +kernel)))), (hw (Cond.selects RX11 yX11_order yX11_order) (tb_6 (List.mem_of_getElem? (i := 224) (by decide +kernel))))⟩ ⟨pR_blind, va_recv hKc hPc (ci := 10) (q0 := 0) rfl rfl, pR_of hPc hKc⟩ rfl rfl hl.1 rfl (lv_room (Nat.le_of_ble_eq_true rfl)) dL_law_585 ⟨Nat.le_of_ble_eq_true rfl, Nat.le_of_ble_eq_true rfl⟩).run (fun r_2 e_3 => ?_)
  subst e_3
  refine lv_aload_n hx hb dL_law_588 rfl (lv_at hl 1 rfl) ?_
  refine lv_aload_n hx hb dL_law_589 rfl (lv_at hl 3 rfl) ?_
  refine lv_iload_n hx hb dL_law_590 rfl (lv_at hl 0 rfl) ?_
  refine lv_iconst (v := 1) hx hb dL_law_591 (by decide) ?_
  refine lv_iadd hx hb dL_law_592 ?_
  refine lv_topi (fun x_4 ex_4 => ?_)
  have ex_4 : x_4 = 1 := ex_4.trans (by decide)
  subst ex_4
  refine va_sld hx hb hX hbl hbA hS (show vp_in 1 6 from by unfold vp_in; decide) dL_law_593 ?_
  have hPc := hP.sub (ws' := (mW mq g b0 b1 b2)) [3, 4, 5, 6] rfl
  have hKc := hK.sub (tys' := []) [] rfl
  refine vp_callSi (va_runV (As := [.int (xs (Int32.toNatClampNeg 1))]) (rest := [.int ((-1))]) ⟨hx, hb, hml, hown, hw⟩ (k_X15_order l dC dI mq g b0 b1 b2 (xs (Int32.toNatClampNeg 1))) ⟨callB_of 1 hw (gdl (tb_13 (List.mem_of_getElem? (i := 30) (by decide +kernel))) rfl) rfl rfl rfl (hw (Cond.initialized RX15) (tb_1 (List.mem_of_getElem? (i := 2) (by decide +kernel)))) (hw (Cond.methodLink RL 69 yX15_order) (tb_13 (List.mem_of_getElem? (i := 27) (by decide +kernel)))) (by decide +kernel) ⟨Nat.le_of_ble_eq_true rfl, Nat.le_of_ble_eq_true rfl⟩, (hw (Cond.instanceMethod yX15_order) (tb_13 (List.mem_of_getElem? (i := 28) (by decide +kernel)))), (hw (Cond.selects RX15 yX15_order yX15_order) (tb_13 (List.mem_of_getElem? (i := 29) (by decide +kernel))))⟩ ⟨pR_blind, va_recv hKc hPc (ci := 14) (q0 := 0) rfl rfl, pR_of hPc hKc⟩ rfl rfl hl.1 rfl (lv_room (Nat.le_of_ble_eq_true rfl)) dL_law_594 ⟨Nat.le_of_ble_eq_true rfl, Nat.le_of_ble_eq_true rfl⟩).run (fun r_5 e_6 => ?_)
  subst e_6
  refine lv_icmp_eq (tgt := 1215) hx hb dL_law_597 (by decide) (fun c_7 => ?_) (fun c_7 => absurd c_7 (by decide))
  exact law_tail C0 hS (Nat.le_of_ble_eq_true rfl) (Nat.le_of_ble_eq_true rfl) hl
set_option maxHeartbeats 8000000 in
set_option maxRecDepth 100000 in
theorem law_12 {p : Program} {l : Launch} {e : Env} {s : State} {m : MethodId} {below : List Frame} {meth : Method} {c : Code} {b : Nat} {xs : Nat → Int32} (C0 : lw_At p s m meth c b 6 xs) {dC : Nat → ClassId} {dI : Nat → Nat → Nat} {xq a1 a2 mq : Nat} {cb cm cb2 : ClassId} {g b0 b1 b2 b6 : Nat → Nat} {H : Heap} {locs : List Loc} {ls : Array Slot} (hK : va_K (dC, dI) vwCl [(cb, .byte), (cm, .object RX6), (cb2, .byte)] s) (hP : va_P (dC, dI) vwCl (lwW xq a1 a2 mq cb cm cb2 g b0 b1 b2 b6) H) (hD : va_D (fun q : Nat => s.heap.size ≤ q) (lwW xq a1 a2 mq cb cm cb2 g b0 b1 b2 b6)) (hS : va_S (fun q : Nat => s.heap.size ≤ q) s.heap H locs) (hl : lv_has ls 4 [(3, .int 0), (2, .ref mq), (1, .ref xq), (0, .ref b)]) : W p l e room_1 s m #[Value.ref b] below meth c H locs 117 3761775 (lw_Z below #[Value.ref b] s) (F0 m 602 ls []) := by
  obtain ⟨hx, hb, hr, hml, hown, hw, hX, hbl, hlocks, hgv⟩ := id C0
  have hA : ∀ q : Nat, s.heap.size ≤ q → (fun q : Nat => s.heap.size ≤ q) q := fun _ h => h
  have hbA : ¬ (fun q : Nat => s.heap.size ≤ q) b := Nat.not_le.mpr hbl
  refine lv_aload_n hx hb dL_law_602 rfl (lv_at hl 2 rfl) ?_
  refine lv_aload_n hx hb dL_law_603 rfl (lv_at hl 3 rfl) ?_
  refine lv_iload_n hx hb dL_law_604 rfl (lv_at hl 0 rfl) ?_
  refine lv_iconst (v := 1) hx hb dL_law_605 (by decide) ?_
  refine lv_iadd hx hb dL_law_606 ?_
  refine lv_topi (fun x_1 ex_1 => ?_)
  have ex_1 : x_1 = 1 := ex_1.trans (by decide)
  subst ex_1
  refine va_sld hx hb hX hbl hbA hS (show vp_in 1 6 from by unfold vp_in; decide) dL_law_607 ?_
  have hPc := hP.sub (ws' := (xW xq a1 a2 cm)) [0, 2] rfl
  have hKc := hK.sub (tys' := [(cm, .object "CodeLayout$Machine")]) [1] rfl
  refine vp_callSi (va_runV (As := [.int (xs (Int32.toNatClampNeg 1))]) (rest := []) ⟨hx, hb, hml, hown, hw⟩ (k_X11_laid l dC dI xq a1 a2 cm (xs (Int32.toNatClampNeg 1))) ⟨callB_of 1 hw (gdl (tb_6 (List.mem_of_getElem? (i := 233) (by decide +kernel))) rfl) rfl rfl rfl (hw (Cond.initialized RX11) (tb_1 (List.mem_of_getElem? (i := 1) (by decide +kernel)))) (hw (Cond.methodLink RL 70 yX11_laid) (tb_6 (List.mem_of_getElem? (i := 230) (by decide +kernel)))) (by decide +kernel) ⟨Nat.le_of_ble_eq_true rfl, Nat.le_of_ble_eq_true rfl⟩, (hw (Cond.instanceMethod yX11_laid) (tb_6 (List.mem_of_getElem? (i := 231) (by decide +kernel)))), (hw (Cond.selects RX11 yX11_laid yX11_laid) (tb_6 (List.mem_of_getElem? (i := 232) (by decide +kernel))))⟩ ⟨pR_blind, va_recv hKc hPc (ci := 10) (q0 := 0) rfl rfl, pR_of hPc hKc⟩ rfl rfl hl.1 rfl (lv_room (Nat.le_of_ble_eq_true rfl)) dL_law_608 ⟨Nat.le_of_ble_eq_true rfl, Nat.le_of_ble_eq_true rfl⟩).run (fun r_2 e_3 => ?_)
  subst e_3
  refine lv_aload_n hx hb dL_law_611 rfl (lv_at hl 1 rfl) ?_
  refine lv_aload_n hx hb dL_law_612 rfl (lv_at hl 3 rfl) ?_
  refine lv_iload_n hx hb dL_law_613 rfl (lv_at hl 0 rfl) ?_
  refine lv_iconst (v := 1) hx hb dL_law_614 (by decide) ?_
  refine lv_iadd hx hb dL_law_615 ?_
  refine lv_topi (fun x_4 ex_4 => ?_)
  have ex_4 : x_4 = 1 := ex_4.trans (by decide)
  subst ex_4
  refine va_sld hx hb hX hbl hbA hS (show vp_in 1 6 from by unfold vp_in; decide) dL_law_616 ?_
  have hPc := hP.sub (ws' := (mW mq g b0 b1 b2)) [3, 4, 5, 6] rfl
  have hKc := hK.sub (tys' := []) [] rfl
  refine vp_callSi (va_runV (As := [.int (xs (Int32.toNatClampNeg 1))]) (rest := [.int ((-14))]) ⟨hx, hb, hml, hown, hw⟩ (k_X15_laid l dC dI mq g b0 b1 b2 (xs (Int32.toNatClampNeg 1))) ⟨callB_of 1 hw (gdl (tb_13 (List.mem_of_getElem? (i := 34) (by decide +kernel))) rfl) rfl rfl rfl (hw (Cond.initialized RX15) (tb_1 (List.mem_of_getElem? (i := 2) (by decide +kernel)))) (hw (Cond.methodLink RL 73 yX15_laid) (tb_13 (List.mem_of_getElem? (i := 31) (by decide +kernel)))) (by decide +kernel) ⟨Nat.le_of_ble_eq_true rfl, Nat.le_of_ble_eq_true rfl⟩, (hw (Cond.instanceMethod yX15_laid) (tb_13 (List.mem_of_getElem? (i := 32) (by decide +kernel)))), (hw (Cond.selects RX15 yX15_laid yX15_laid) (tb_13 (List.mem_of_getElem? (i := 33) (by decide +kernel))))⟩ ⟨pR_blind, va_recv hKc hPc (ci := 14) (q0 := 0) rfl rfl, pR_of hPc hKc⟩ rfl rfl hl.1 rfl (lv_room (Nat.le_of_ble_eq_true rfl)) dL_law_617 ⟨Nat.le_of_ble_eq_true rfl, Nat.le_of_ble_eq_true rfl⟩).run (fun r_5 e_6 => ?_)
  subst e_6
  refine lv_icmp_eq (tgt := 1215) hx hb dL_law_620 (by decide) (fun c_7 => ?_) (fun c_7 => absurd c_7 (by decide))
  exact law_tail C0 hS (Nat.le_of_ble_eq_true rfl) (Nat.le_of_ble_eq_true rfl) hl
set_option maxHeartbeats 8000000 in
set_option maxRecDepth 100000 in
theorem law_13 {p : Program} {l : Launch} {e : Env} {s : State} {m : MethodId} {below : List Frame} {meth : Method} {c : Code} {b : Nat} {xs : Nat → Int32} (C0 : lw_At p s m meth c b 6 xs) {dC : Nat → ClassId} {dI : Nat → Nat → Nat} {xq a1 a2 mq : Nat} {cb cm cb2 : ClassId} {g b0 b1 b2 b6 : Nat → Nat} {H : Heap} {locs : List Loc} {ls : Array Slot} (hK : va_K (dC, dI) vwCl [(cb, .byte), (cm, .object RX6), (cb2, .byte)] s) (hP : va_P (dC, dI) vwCl (lwW xq a1 a2 mq cb cm cb2 g b0 b1 b2 b6) H) (hD : va_D (fun q : Nat => s.heap.size ≤ q) (lwW xq a1 a2 mq cb cm cb2 g b0 b1 b2 b6)) (hS : va_S (fun q : Nat => s.heap.size ≤ q) s.heap H locs) (hl : lv_has ls 4 [(3, .int 0), (2, .ref mq), (1, .ref xq), (0, .ref b)]) : W p l e room_1 s m #[Value.ref b] below meth c H locs 117 3761775 (lw_Z below #[Value.ref b] s) (F0 m 625 ls []) := by
  obtain ⟨hx, hb, hr, hml, hown, hw, hX, hbl, hlocks, hgv⟩ := id C0
  have hA : ∀ q : Nat, s.heap.size ≤ q → (fun q : Nat => s.heap.size ≤ q) q := fun _ h => h
  have hbA : ¬ (fun q : Nat => s.heap.size ≤ q) b := Nat.not_le.mpr hbl
  refine lv_aload_n hx hb dL_law_625 rfl (lv_at hl 2 rfl) ?_
  refine lv_aload_n hx hb dL_law_626 rfl (lv_at hl 3 rfl) ?_
  refine lv_iload_n hx hb dL_law_627 rfl (lv_at hl 0 rfl) ?_
  refine lv_iconst (v := 1) hx hb dL_law_628 (by decide) ?_
  refine lv_iadd hx hb dL_law_629 ?_
  refine lv_topi (fun x_1 ex_1 => ?_)
  have ex_1 : x_1 = 1 := ex_1.trans (by decide)
  subst ex_1
  refine va_sld hx hb hX hbl hbA hS (show vp_in 1 6 from by unfold vp_in; decide) dL_law_630 ?_
  refine lv_aload_n hx hb dL_law_631 rfl (lv_at hl 3 rfl) ?_
  refine lv_iload_n hx hb dL_law_632 rfl (lv_at hl 0 rfl) ?_
  refine lv_iconst (v := 2) hx hb dL_law_633 (by decide) ?_
  refine lv_iadd hx hb dL_law_634 ?_
  refine lv_topi (fun x_2 ex_2 => ?_)
  have ex_2 : x_2 = 2 := ex_2.trans (by decide)
  subst ex_2
  refine va_sld hx hb hX hbl hbA hS (show vp_in 2 6 from by unfold vp_in; decide) dL_law_635 ?_
  have hPc := hP.sub (ws' := (xW xq a1 a2 cm)) [0, 2] rfl
  have hKc := hK.sub (tys' := [(cm, .object "CodeLayout$Machine")]) [1] rfl
  refine vp_callSl (va_runV (As := [.int (xs (Int32.toNatClampNeg 1)), .int (xs (Int32.toNatClampNeg 2))]) (rest := []) ⟨hx, hb, hml, hown, hw⟩ (k_X11_weight l dC dI xq a1 a2 cm (xs (Int32.toNatClampNeg 1)) (xs (Int32.toNatClampNeg 2))) ⟨callB_of 2 hw (gdl (tb_6 (List.mem_of_getElem? (i := 237) (by decide +kernel))) rfl) rfl rfl rfl (hw (Cond.initialized RX11) (tb_1 (List.mem_of_getElem? (i := 1) (by decide +kernel)))) (hw (Cond.methodLink RL 74 yX11_weight) (tb_6 (List.mem_of_getElem? (i := 234) (by decide +kernel)))) (by decide +kernel) ⟨Nat.le_of_ble_eq_true rfl, Nat.le_of_ble_eq_true rfl⟩, (hw (Cond.instanceMethod yX11_weight) (tb_6 (List.mem_of_getElem? (i := 235) (by decide +kernel)))), (hw (Cond.selects RX11 yX11_weight yX11_weight) (tb_6 (List.mem_of_getElem? (i := 236) (by decide +kernel))))⟩ ⟨pR_blind, va_recv hKc hPc (ci := 10) (q0 := 0) rfl rfl, pR_of hPc hKc⟩ rfl rfl hl.1 rfl (lv_room (Nat.le_of_ble_eq_true rfl)) dL_law_636 ⟨Nat.le_of_ble_eq_true rfl, Nat.le_of_ble_eq_true rfl⟩).run (fun r_3 e_4 => ?_)
  subst e_4
  refine lv_aload_n hx hb dL_law_639 rfl (lv_at hl 1 rfl) ?_
  refine lv_aload_n hx hb dL_law_640 rfl (lv_at hl 3 rfl) ?_
  refine lv_iload_n hx hb dL_law_641 rfl (lv_at hl 0 rfl) ?_
  refine lv_iconst (v := 1) hx hb dL_law_642 (by decide) ?_
  refine lv_iadd hx hb dL_law_643 ?_
  refine lv_topi (fun x_5 ex_5 => ?_)
  have ex_5 : x_5 = 1 := ex_5.trans (by decide)
  subst ex_5
  refine va_sld hx hb hX hbl hbA hS (show vp_in 1 6 from by unfold vp_in; decide) dL_law_644 ?_
  refine lv_aload_n hx hb dL_law_645 rfl (lv_at hl 3 rfl) ?_
  refine lv_iload_n hx hb dL_law_646 rfl (lv_at hl 0 rfl) ?_
  refine lv_iconst (v := 2) hx hb dL_law_647 (by decide) ?_
  refine lv_iadd hx hb dL_law_648 ?_
  refine lv_topi (fun x_6 ex_6 => ?_)
  have ex_6 : x_6 = 2 := ex_6.trans (by decide)
  subst ex_6
  refine va_sld hx hb hX hbl hbA hS (show vp_in 2 6 from by unfold vp_in; decide) dL_law_649 ?_
  have hPc := hP.sub (ws' := (mW mq g b0 b1 b2)) [3, 4, 5, 6] rfl
  have hKc := hK.sub (tys' := []) [] rfl
  refine vp_callSl (va_runV (As := [.int (xs (Int32.toNatClampNeg 1)), .int (xs (Int32.toNatClampNeg 2))]) (rest := [.long ((-14))]) ⟨hx, hb, hml, hown, hw⟩ (k_X15_weight l dC dI mq g b0 b1 b2 (xs (Int32.toNatClampNeg 1)) (xs (Int32.toNatClampNeg 2))) ⟨callB_of 2 hw (gdl (tb_13 (List.mem_of_getElem? (i := 38) (by decide +kernel))) rfl) rfl rfl rfl (hw (Cond.initialized RX15) (tb_1 (List.mem_of_getElem? (i := 2) (by decide +kernel)))) (hw (Cond.methodLink RL 77 yX15_weight) (tb_13 (List.mem_of_getElem? (i := 35) (by decide +kernel)))) (by decide +kernel) ⟨Nat.le_of_ble_eq_true rfl, Nat.le_of_ble_eq_true rfl⟩, (hw (Cond.instanceMethod yX15_weight) (tb_13 (List.mem_of_getElem? (i := 36) (by decide +kernel)))), (hw (Cond.selects RX15 yX15_weight yX15_weight) (tb_13 (List.mem_of_getElem? (i := 37) (by decide +kernel))))⟩ ⟨pR_blind, va_recv hKc hPc (ci := 14) (q0 := 0) rfl rfl, pR_of hPc hKc⟩ rfl rfl hl.1 rfl (lv_room (Nat.le_of_ble_eq_true rfl)) dL_law_650 ⟨Nat.le_of_ble_eq_true rfl, Nat.le_of_ble_eq_true rfl⟩).run (fun r_7 e_8 => ?_)
  subst e_8
  refine W.lcmp hx hb dL_law_653 ?_
  refine lv_topi (fun x_9 ex_9 => ?_)
  have ex_9 : x_9 = 0 := ex_9.trans (by decide)
  subst ex_9
  refine lv_if_eq (tgt := 1215) hx hb dL_law_654 (by decide) (fun c_10 => ?_) (fun c_10 => absurd c_10 (by decide))
  exact law_tail C0 hS (Nat.le_of_ble_eq_true rfl) (Nat.le_of_ble_eq_true rfl) hl
set_option maxHeartbeats 8000000 in
set_option maxRecDepth 100000 in
theorem law_14 {p : Program} {l : Launch} {e : Env} {s : State} {m : MethodId} {below : List Frame} {meth : Method} {c : Code} {b : Nat} {xs : Nat → Int32} (C0 : lw_At p s m meth c b 6 xs) {dC : Nat → ClassId} {dI : Nat → Nat → Nat} {xq a1 a2 mq : Nat} {cb cm cb2 : ClassId} {g b0 b1 b2 b6 : Nat → Nat} {H : Heap} {locs : List Loc} {ls : Array Slot} (hK : va_K (dC, dI) vwCl [(cb, .byte), (cm, .object RX6), (cb2, .byte)] s) (hP : va_P (dC, dI) vwCl (lwW xq a1 a2 mq cb cm cb2 g b0 b1 b2 b6) H) (hD : va_D (fun q : Nat => s.heap.size ≤ q) (lwW xq a1 a2 mq cb cm cb2 g b0 b1 b2 b6)) (hS : va_S (fun q : Nat => s.heap.size ≤ q) s.heap H locs) (hl : lv_has ls 4 [(3, .int 0), (2, .ref mq), (1, .ref xq), (0, .ref b)]) : W p l e room_1 s m #[Value.ref b] below meth c H locs 117 3761775 (lw_Z below #[Value.ref b] s) (F0 m 659 ls []) := by
  obtain ⟨hx, hb, hr, hml, hown, hw, hX, hbl, hlocks, hgv⟩ := id C0
  have hA : ∀ q : Nat, s.heap.size ≤ q → (fun q : Nat => s.heap.size ≤ q) q := fun _ h => h
  have hbA : ¬ (fun q : Nat => s.heap.size ≤ q) b := Nat.not_le.mpr hbl
  refine lv_aload_n hx hb dL_law_659 rfl (lv_at hl 2 rfl) ?_
  refine lv_aload_n hx hb dL_law_660 rfl (lv_at hl 3 rfl) ?_
  refine lv_iload_n hx hb dL_law_661 rfl (lv_at hl 0 rfl) ?_
  refine lv_iconst (v := 1) hx hb dL_law_662 (by decide) ?_
  refine lv_iadd hx hb dL_law_663 ?_
  refine lv_topi (fun x_1 ex_1 => ?_)
  have ex_1 : x_1 = 1 := ex_1.trans (by decide)
  subst ex_1
  refine va_sld hx hb hX hbl hbA hS (show vp_in 1 6 from by unfold vp_in; decide) dL_law_664 ?_
  refine lv_i2l hx hb dL_law_665 rfl ?_
  refine lv_topl (fun y_2 ey_2 => ?_)
  refine lv_bipush (v := 32) hx hb dL_law_666 (by decide) ?_
  refine lv_lshl hx hb dL_law_668 rfl ?_
  refine lv_topl (fun y_3 ey_3 => ?_)
  refine lv_aload_n hx hb dL_law_669 rfl (lv_at hl 3 rfl) ?_
  refine lv_iload_n hx hb dL_law_670 rfl (lv_at hl 0 rfl) ?_
  refine lv_iconst (v := 2) hx hb dL_law_671 (by decide) ?_
  refine lv_iadd hx hb dL_law_672 ?_
  refine lv_topi (fun x_4 ex_4 => ?_)
  have ex_4 : x_4 = 2 := ex_4.trans (by decide)
  subst ex_4
  refine va_sld hx hb hX hbl hbA hS (show vp_in 2 6 from by unfold vp_in; decide) dL_law_673 ?_
  refine lv_i2l hx hb dL_law_674 rfl ?_
  refine lv_topl (fun y_5 ey_5 => ?_)
  refine lv_ldc2 (own := RL) (v := 4294967295) hx hb hown (hw (Cond.constantLong RL 46 (4294967295)) (tb_14 (List.mem_of_getElem? (i := 101) (by decide +kernel)))) dL_law_675 ?_
  refine lv_land hx hb dL_law_678 ?_
  refine lv_topl (fun y_6 ey_6 => ?_)
  refine lv_lor hx hb dL_law_679 ?_
  refine lv_topl (fun y_7 ey_7 => ?_)
  have hPc := hP.sub (ws' := (xW xq a1 a2 cm)) [0, 2] rfl
  have hKc := hK.sub (tys' := [(cm, .object "CodeLayout$Machine")]) [1] rfl
  refine vp_callSl (va_runV (As := [.long y_7]) (rest := []) ⟨hx, hb, hml, hown, hw⟩ (k_X11_moved l dC dI xq a1 a2 cm y_7) ⟨callB_of 1 hw (gdl (tb_7 (List.mem_of_getElem? (i := 10) (by decide +kernel))) rfl) rfl rfl rfl (hw (Cond.initialized RX11) (tb_1 (List.mem_of_getElem? (i := 1) (by decide +kernel)))) (hw (Cond.methodLink RL 78 yX11_moved) (tb_7 (List.mem_of_getElem? (i := 7) (by decide +kernel)))) (by decide +kernel) ⟨Nat.le_of_ble_eq_true rfl, Nat.le_of_ble_eq_true rfl⟩, (hw (Cond.instanceMethod yX11_moved) (tb_7 (List.mem_of_getElem? (i := 8) (by decide +kernel)))), (hw (Cond.selects RX11 yX11_moved yX11_moved) (tb_7 (List.mem_of_getElem? (i := 9) (by decide +kernel))))⟩ ⟨pR_blind, va_recv hKc hPc (ci := 10) (q0 := 0) rfl rfl, pR_of hPc hKc⟩ rfl rfl hl.1 rfl (lv_room (Nat.le_of_ble_eq_true rfl)) dL_law_680 ⟨Nat.le_of_ble_eq_true rfl, Nat.le_of_ble_eq_true rfl⟩).run (fun r_8 e_9 => ?_)
  subst e_9
  refine lv_aload_n hx hb dL_law_683 rfl (lv_at hl 1 rfl) ?_
  refine lv_aload_n hx hb dL_law_684 rfl (lv_at hl 3 rfl) ?_
  refine lv_iload_n hx hb dL_law_685 rfl (lv_at hl 0 rfl) ?_
  refine lv_iconst (v := 1) hx hb dL_law_686 (by decide) ?_
  refine lv_iadd hx hb dL_law_687 ?_
  refine lv_topi (fun x_10 ex_10 => ?_)
  have ex_10 : x_10 = 1 := ex_10.trans (by decide)
  subst ex_10
  refine va_sld hx hb hX hbl hbA hS (show vp_in 1 6 from by unfold vp_in; decide) dL_law_688 ?_
  refine lv_i2l hx hb dL_law_689 rfl ?_
  refine lv_topl (fun y_11 ey_11 => ?_)
  refine lv_bipush (v := 32) hx hb dL_law_690 (by decide) ?_
  refine lv_lshl hx hb dL_law_692 rfl ?_
  refine lv_topl (fun y_12 ey_12 => ?_)
  refine lv_aload_n hx hb dL_law_693 rfl (lv_at hl 3 rfl) ?_
  refine lv_iload_n hx hb dL_law_694 rfl (lv_at hl 0 rfl) ?_
  refine lv_iconst (v := 2) hx hb dL_law_695 (by decide) ?_
  refine lv_iadd hx hb dL_law_696 ?_
  refine lv_topi (fun x_13 ex_13 => ?_)
  have ex_13 : x_13 = 2 := ex_13.trans (by decide)
  subst ex_13
  refine va_sld hx hb hX hbl hbA hS (show vp_in 2 6 from by unfold vp_in; decide) dL_law_697 ?_
  refine lv_i2l hx hb dL_law_698 rfl ?_
  refine lv_topl (fun y_14 ey_14 => ?_)
  refine lv_ldc2 (own := RL) (v := 4294967295) hx hb hown (hw (Cond.constantLong RL 46 (4294967295)) (tb_14 (List.mem_of_getElem? (i := 101) (by decide +kernel)))) dL_law_699 ?_
  refine lv_land hx hb dL_law_702 ?_
  refine lv_topl (fun y_15 ey_15 => ?_)
  refine lv_lor hx hb dL_law_703 ?_
  refine lv_topl (fun y_16 ey_16 => ?_)
  have hPc := hP.sub (ws' := (mW mq g b0 b1 b2)) [3, 4, 5, 6] rfl
  have hKc := hK.sub (tys' := []) [] rfl
  refine vp_callSl (va_runV (As := [.long y_16]) (rest := [.long ((-14))]) ⟨hx, hb, hml, hown, hw⟩ (k_X15_moved l dC dI mq g b0 b1 b2 y_16) ⟨callB_of 1 hw (gdl (tb_13 (List.mem_of_getElem? (i := 42) (by decide +kernel))) rfl) rfl rfl rfl (hw (Cond.initialized RX15) (tb_1 (List.mem_of_getElem? (i := 2) (by decide +kernel)))) (hw (Cond.methodLink RL 82 yX15_moved) (tb_13 (List.mem_of_getElem? (i := 39) (by decide +kernel)))) (by decide +kernel) ⟨Nat.le_of_ble_eq_true rfl, Nat.le_of_ble_eq_true rfl⟩, (hw (Cond.instanceMethod yX15_moved) (tb_13 (List.mem_of_getElem? (i := 40) (by decide +kernel)))), (hw (Cond.selects RX15 yX15_moved yX15_moved) (tb_13 (List.mem_of_getElem? (i := 41) (by decide +kernel))))⟩ ⟨pR_blind, va_recv hKc hPc (ci := 14) (q0 := 0) rfl rfl, pR_of hPc hKc⟩ rfl rfl hl.1 rfl (lv_room (Nat.le_of_ble_eq_true rfl)) dL_law_704 ⟨Nat.le_of_ble_eq_true rfl, Nat.le_of_ble_eq_true rfl⟩).run (fun r_17 e_18 => ?_)
  subst e_18
  refine W.lcmp hx hb dL_law_707 ?_
  refine lv_topi (fun x_19 ex_19 => ?_)
  have ex_19 : x_19 = 0 := ex_19.trans (by decide)
  subst ex_19
  refine lv_if_eq (tgt := 1215) hx hb dL_law_708 (by decide) (fun c_20 => ?_) (fun c_20 => absurd c_20 (by decide))
  exact law_tail C0 hS (Nat.le_of_ble_eq_true rfl) (Nat.le_of_ble_eq_true rfl) hl
set_option maxHeartbeats 8000000 in
set_option maxRecDepth 100000 in
theorem law_15 {p : Program} {l : Launch} {e : Env} {s : State} {m : MethodId} {below : List Frame} {meth : Method} {c : Code} {b : Nat} {xs : Nat → Int32} (C0 : lw_At p s m meth c b 6 xs) {dC : Nat → ClassId} {dI : Nat → Nat → Nat} {xq a1 a2 mq : Nat} {cb cm cb2 : ClassId} {g b0 b1 b2 b6 : Nat → Nat} {H : Heap} {locs : List Loc} {ls : Array Slot} (hK : va_K (dC, dI) vwCl [(cb, .byte), (cm, .object RX6), (cb2, .byte)] s) (hP : va_P (dC, dI) vwCl (lwW xq a1 a2 mq cb cm cb2 g b0 b1 b2 b6) H) (hD : va_D (fun q : Nat => s.heap.size ≤ q) (lwW xq a1 a2 mq cb cm cb2 g b0 b1 b2 b6)) (hS : va_S (fun q : Nat => s.heap.size ≤ q) s.heap H locs) (hl : lv_has ls 4 [(3, .int 0), (2, .ref mq), (1, .ref xq), (0, .ref b)]) : W p l e room_1 s m #[Value.ref b] below meth c H locs 117 3761775 (lw_Z below #[Value.ref b] s) (F0 m 713 ls []) := by
  obtain ⟨hx, hb, hr, hml, hown, hw, hX, hbl, hlocks, hgv⟩ := id C0
  have hA : ∀ q : Nat, s.heap.size ≤ q → (fun q : Nat => s.heap.size ≤ q) q := fun _ h => h
  have hbA : ¬ (fun q : Nat => s.heap.size ≤ q) b := Nat.not_le.mpr hbl
  refine lv_aload_n hx hb dL_law_713 rfl (lv_at hl 2 rfl) ?_
  have hPc := hP.sub (ws' := (xW xq a1 a2 cm)) [0, 2] rfl
  have hKc := hK.sub (tys' := [(cm, .object "CodeLayout$Machine")]) [1] rfl
  refine vp_callSi (va_runV (As := []) (rest := []) ⟨hx, hb, hml, hown, hw⟩ (k_X11_size l dC dI xq a1 a2 cm ) ⟨callB_of 0 hw (gdl (tb_7 (List.mem_of_getElem? (i := 16) (by decide +kernel))) rfl) rfl rfl rfl (hw (Cond.initialized RX11) (tb_1 (List.mem_of_getElem? (i := 1) (by decide +kernel)))) (hw (Cond.methodLink RL 83 yX11_size) (tb_7 (List.mem_of_getElem? (i := 13) (by decide +kernel)))) (by decide +kernel) ⟨Nat.le_of_ble_eq_true rfl, Nat.le_of_ble_eq_true rfl⟩, (hw (Cond.instanceMethod yX11_size) (tb_7 (List.mem_of_getElem? (i := 14) (by decide +kernel)))), (hw (Cond.selects RX11 yX11_size yX11_size) (tb_7 (List.mem_of_getElem? (i := 15) (by decide +kernel))))⟩ ⟨pR_blind, va_recv hKc hPc (ci := 10) (q0 := 0) rfl rfl, pR_of hPc hKc⟩ rfl rfl hl.1 rfl (lv_room (Nat.le_of_ble_eq_true rfl)) dL_law_714 ⟨Nat.le_of_ble_eq_true rfl, Nat.le_of_ble_eq_true rfl⟩).run (fun r_1 e_2 => ?_)
  subst e_2
  refine lv_aload_n hx hb dL_law_717 rfl (lv_at hl 1 rfl) ?_
  have hPc := hP.sub (ws' := (mW mq g b0 b1 b2)) [3, 4, 5, 6] rfl
  have hKc := hK.sub (tys' := []) [] rfl
  refine vp_callSi (va_runV (As := []) (rest := [.int ((-14))]) ⟨hx, hb, hml, hown, hw⟩ (k_X15_size l dC dI mq g b0 b1 b2 ) ⟨callB_of 0 hw (gdl (tb_13 (List.mem_of_getElem? (i := 46) (by decide +kernel))) rfl) rfl rfl rfl (hw (Cond.initialized RX15) (tb_1 (List.mem_of_getElem? (i := 2) (by decide +kernel)))) (hw (Cond.methodLink RL 86 yX15_size) (tb_13 (List.mem_of_getElem? (i := 43) (by decide +kernel)))) (by decide +kernel) ⟨Nat.le_of_ble_eq_true rfl, Nat.le_of_ble_eq_true rfl⟩, (hw (Cond.instanceMethod yX15_size) (tb_13 (List.mem_of_getElem? (i := 44) (by decide +kernel)))), (hw (Cond.selects RX15 yX15_size yX15_size) (tb_13 (List.mem_of_getElem? (i := 45) (by decide +kernel))))⟩ ⟨pR_blind, va_recv hKc hPc (ci := 14) (q0 := 0) rfl rfl, pR_of hPc hKc⟩ rfl rfl hl.1 rfl (lv_room (Nat.le_of_ble_eq_true rfl)) dL_law_718 ⟨Nat.le_of_ble_eq_true rfl, Nat.le_of_ble_eq_true rfl⟩).run (fun r_3 e_4 => ?_)
  subst e_4
  refine lv_icmp_eq (tgt := 1215) hx hb dL_law_721 (by decide) (fun c_5 => ?_) (fun c_5 => absurd c_5 (by decide))
  exact law_tail C0 hS (Nat.le_of_ble_eq_true rfl) (Nat.le_of_ble_eq_true rfl) hl
