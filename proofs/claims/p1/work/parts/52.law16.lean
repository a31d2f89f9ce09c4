set_option maxHeartbeats 8000000 in
set_option maxRecDepth 100000 in
theorem law_16 {p : Program} {l : Launch} {e : Env} {s : State} {m : MethodId} {below : List Frame} {meth : Method} {c : Code} {b : Nat} {xs : Nat → Int32} (C0 : lw_At p s m meth c b 6 xs) {dC : Nat → ClassId} {dI : Nat → Nat → Nat} {xq a1 a2 mq : Nat} {cb cm cb2 : ClassId} {g b0 b1 b2 b6 : Nat → Nat} {H : Heap} {locs : List Loc} {ls : Array Slot} (hK : va_K (dC, dI) vwCl [(cb, .byte), (cm, .object RX6), (cb2, .byte)] s) (hP : va_P (dC, dI) vwCl (lwW xq a1 a2 mq cb cm cb2 g b0 b1 b2 b6) H) (hD : va_D (fun q : Nat => s.heap.size ≤ q) (lwW xq a1 a2 mq cb cm cb2 g b0 b1 b2 b6)) (hS : va_S (fun q : Nat => s.heap.size ≤ q) s.heap H locs) (hl : lv_has ls 4 [(3, .int 0), (2, .ref mq), (1, .ref xq), (0, .ref b)]) : W p l e room_1 s m #[Value.ref b] below meth c H locs 117 3761775 (lw_Z below #[Value.ref b] s) (F0 m 726 ls []) := by
  obtain ⟨hx, hb, hr, hml, hown, hw, hX, hbl, hlocks, hgv⟩ := id C0
  have hA : ∀ q : Nat, s.heap.size ≤ q → (fun q : Nat => s.heap.size ≤ q) q := fun _ h => h
  have hbA : ¬ (fun q : Nat => s.heap.size ≤ q) b := Nat.not_le.mpr hbl
  refine lv_aload_n hx hb dL_law_726 rfl (lv_at hl 2 rfl) ?_
  refine lv_aload_n hx hb dL_law_727 rfl (lv_at hl 3 rfl) ?_
  refine lv_iload_n hx hb dL_law_728 rfl (lv_at hl 0 rfl) ?_
  refine lv_iconst (v := 1) hx hb dL_law_729 (by decide) ?_
  refine lv_iadd hx hb dL_law_730 ?_
  refine lv_topi (fun x_1 ex_1 => ?_)
  have ex_1 : x_1 = 1 := ex_1.trans (by decide)
  subst ex_1
  refine va_sld hx hb hX hbl hbA hS (show vp_in 1 6 from by unfold vp_in; decide) dL_law_731 ?_
  have hPc := hP.sub (ws' := (xW xq a1 a2 cm)) [0, 2] rfl
  have hKc := hK.sub (tys' := [(cm, .object "CodeLayout$Machine")]) [1] rfl
  refine vp_callSi (va_runV (As := [.int (xs (Int32.toNatClampNeg 1))]) (rest := []) ⟨hx, hb, hml, hown, hw⟩ (k_X11_out l dC dI xq a1 a2 cm (xs (Int32.toNatClampNeg 1))) ⟨callB_of 1 hw (gdl (tb_7 (List.mem_of_getElem? (i := 20) (by decide +kernel))) rfl) rfl rfl rfl (hw (Cond.initialized RX11) (tb_1 (List.mem_of_getElem? (i := 1) (by decide +kernel)))) (hw (Cond.methodLink RL 87 yX11_out) (tb_7 (List.mem_of_getElem? (i := 17) (by decide +kernel)))) (by decide +kernel) ⟨Nat.le_of_ble_eq_true rfl, Nat.le_of_ble_eq_true rfl⟩, (hw (Cond.instanceMethod yX11_out) (tb_7 (List.mem_of_getElem? (i := 18) (by decide +kernel)))), (hw (Cond.selects RX11 yX11_out yX11_out) (tb_7 (List.mem_of_getElem? (i := 19) (by decide +kernel))))⟩ ⟨pR_blind, va_recv hKc hPc (ci := 10) (q0 := 0) rfl rfl, pR_of hPc hKc⟩ rfl rfl hl.1 rfl (lv_room (Nat.le_of_ble_eq_true rfl)) dL_law_732 ⟨Nat.le_of_ble_eq_true rfl, Nat.le_of_ble_eq_true rfl⟩).run (fun r_2 e_3 => ?_)
  subst e_3
  refine lv_aload_n hx hb dL_law_735 rfl (lv_at hl 1 rfl) ?_
  refine lv_aload_n hx hb dL_law_736 rfl (lv_at hl 3 rfl) ?_
  refine lv_iload_n hx hb dL_law_737 rfl (lv_at hl 0 rfl) ?_
  refine lv_iconst (v := 1) hx hb dL_law_738 (by decide) ?_
  refine lv_iadd hx hb dL_law_739 ?_
  refine lv_topi (fun x_4 ex_4 => ?_)
  have ex_4 : x_4 = 1 := ex_4.trans (by decide)
  subst ex_4
  refine va_sld hx hb hX hbl hbA hS (show vp_in 1 6 from by unfold vp_in; decide) dL_law_740 ?_
  have hPc := hP.sub (ws' := (mW mq g b0 b1 b2)) [3, 4, 5, 6] rfl
  have hKc := hK.sub (tys' := []) [] rfl
  refine vp_callSi (va_runV (As := [.int (xs (Int32.toNatClampNeg 1))]) (rest := [.int ((-1))]) ⟨hx, hb, hml, hown, hw⟩ (k_X15_out l dC dI mq g b0 b1 b2 (xs (Int32.toNatClampNeg 1))) ⟨callB_of 1 hw (gdl (tb_13 (List.mem_of_getElem? (i := 50) (by decide +kernel))) rfl) rfl rfl rfl (hw (Cond.initialized RX15) (tb_1 (List.mem_of_getElem? (i := 2) (by decide +kernel)))) (hw (Cond.methodLink RL 90 yX15_out) (tb_13 (List.mem_of_getElem? (i := 47) (by decide +kernel)))) (by decide +kernel) ⟨Nat.le_of_ble_eq_true rfl, Nat.le_of_ble_eq_true rfl⟩, (hw (Cond.instanceMethod yX15_out) (tb_13 (List.mem_of_getElem? (i := 48) (by decide +kernel)))), (hw (Cond.selects RX15 yX15_out yX15_out) (tb_13 (List.mem_of_getElem? (i := 49) (by decide +kernel))))⟩ ⟨pR_blind, va_recv hKc hPc (ci := 14) (q0 := 0) rfl rfl, pR_of hPc hKc⟩ rfl rfl hl.1 rfl (lv_room (Nat.le_of_ble_eq_true rfl)) dL_law_741 ⟨Nat.le_of_ble_eq_true rfl, Nat.le_of_ble_eq_true rfl⟩).run (fun r_5 e_6 => ?_)
  subst e_6
  refine lv_icmp_eq (tgt := 1215) hx hb dL_law_744 (by decide) (fun c_7 => ?_) (fun c_7 => absurd c_7 (by decide))
  exact law_tail C0 hS (Nat.le_of_ble_eq_true rfl) (Nat.le_of_ble_eq_true rfl) hl
set_option maxHeartbeats 8000000 in
set_option maxRecDepth 100000 in
theorem law_17 {p : Program} {l : Launch} {e : Env} {s : State} {m : MethodId} {below : List Frame} {meth : Method} {c : Code} {b : Nat} {xs : Nat → Int32} (C0 : lw_At p s m meth c b 6 xs) {dC : Nat → ClassId} {dI : Nat → Nat → Nat} {xq a1 a2 mq : Nat} {cb cm cb2 : ClassId} {g b0 b1 b2 b6 : Nat → Nat} {H : Heap} {locs : List Loc} {ls : Array Slot} (hK : va_K (dC, dI) vwCl [(cb, .byte), (cm, .object RX6), (cb2, .byte)] s) (hP : va_P (dC, dI) vwCl (lwW xq a1 a2 mq cb cm cb2 g b0 b1 b2 b6) H) (hD : va_D (fun q : Nat => s.heap.size ≤ q) (lwW xq a1 a2 mq cb cm cb2 g b0 b1 b2 b6)) (hS : va_S (fun q : Nat => s.heap.size ≤ q) s.heap H locs) (hl : lv_has ls 4 [(3, .int 0), (2, .ref mq), (1, .ref xq), (0, .ref b)]) : W p l e room_1 s m #[Value.ref b] below meth c H locs 117 3761775 (lw_Z below #[Value.ref b] s) (F0 m 749 ls []) := by
  obtain ⟨hx, hb, hr, hml, hown, hw, hX, hbl, hlocks, hgv⟩ := id C0
  have hA : ∀ q : Nat, s.heap.size ≤ q → (fun q : Nat => s.heap.size ≤ q) q := fun _ h => h
  have hbA : ¬ (fun q : Nat => s.heap.size ≤ q) b := Nat.not_le.mpr hbl
  refine lv_aload_n hx hb dL_law_749 rfl (lv_at hl 2 rfl) ?_
  have hPc := hP.sub (ws' := (xW xq a1 a2 cm)) [0, 2] rfl
  have hKc := hK.sub (tys' := [(cm, .object "CodeLayout$Machine")]) [1] rfl
  refine vp_callSi (va_runV (As := []) (rest := []) ⟨hx, hb, hml, hown, hw⟩ (k_X11_check l dC dI xq a1 a2 cm ) ⟨callB_of 0 hw (gdl (tb_7 (List.mem_of_getElem? (i := 25) (by decide +kernel))) rfl) rfl rfl rfl (hw (Cond.initialized RX11) (tb_1 (List.mem_of_getElem? (i := 1) (by decide +kernel)))) (hw (Cond.methodLink RL 91 yX11_check) (tb_7 (List.mem_of_getElem? (i := 22) (by decide +kernel)))) (by decide +kernel) ⟨Nat.le_of_ble_eq_true rfl, Nat.le_of_ble_eq_true rfl⟩, (hw (Cond.instanceMethod yX11_check) (tb_7 (List.mem_of_getElem? (i := 23) (by decide +kernel)))), (hw (Cond.selects RX11 yX11_check yX11_check) (tb_7 (List.mem_of_getElem? (i := 24) (by decide +kernel))))⟩ ⟨pR_blind, va_recv hKc hPc (ci := 10) (q0 := 0) rfl rfl, pR_of hPc hKc⟩ rfl rfl hl.1 rfl (lv_room (Nat.le_of_ble_eq_true rfl)) dL_law_750 ⟨Nat.le_of_ble_eq_true rfl, Nat.le_of_ble_eq_true rfl⟩).run (fun r_1 e_2 => ?_)
  subst e_2
  refine lv_aload_n hx hb dL_law_753 rfl (lv_at hl 1 rfl) ?_
  have hPc := hP.sub (ws' := (mW mq g b0 b1 b2)) [3, 4, 5, 6] rfl
  have hKc := hK.sub (tys' := []) [] rfl
  refine vp_callSi (va_runV (As := []) (rest := [.int ((-14))]) ⟨hx, hb, hml, hown, hw⟩ (k_X15_check l dC dI mq g b0 b1 b2 ) ⟨callB_of 0 hw (gdl (tb_13 (List.mem_of_getElem? (i := 54) (by decide +kernel))) rfl) rfl rfl rfl (hw (Cond.initialized RX15) (tb_1 (List.mem_of_getElem? (i := 2) (by decide +kernel)))) (hw (Cond.methodLink RL 94 yX15_check) (tb_13 (List.mem_of_getElem? (i := 51) (by decide +kernel)))) (by decide +kernel) ⟨Nat.le_of_ble_eq_true rfl, Nat.le_of_ble_eq_true rfl⟩, (hw (Cond.instanceMethod yX15_check) (tb_13 (List.mem_of_getElem? (i := 52) (by decide +kernel)))), (hw (Cond.selects RX15 yX15_check yX15_check) (tb_13 (List.mem_of_getElem? (i := 53) (by decide +kernel))))⟩ ⟨pR_blind, va_recv hKc hPc (ci := 14) (q0 := 0) rfl rfl, pR_of hPc hKc⟩ rfl rfl hl.1 rfl (lv_room (Nat.le_of_ble_eq_true rfl)) dL_law_754 ⟨Nat.le_of_ble_eq_true rfl, Nat.le_of_ble_eq_true rfl⟩).run (fun r_3 e_4 => ?_)
  subst e_4
  refine lv_icmp_eq (tgt := 1215) hx hb dL_law_757 (by decide) (fun c_5 => ?_) (fun c_5 => absurd c_5 (by decide))
  exact law_tail C0 hS (Nat.le_of_ble_eq_true rfl) (Nat.le_of_ble_eq_true rfl) hl
set_option maxHeartbeats 8000000 in
set_option maxRecDepth 100000 in
theorem law_18 {p : Program} {l : Launch} {e : Env} {s : State} {m : MethodId} {below : List Frame} {meth : Method} {c : Code} {b : Nat} {xs : Nat → Int32} (C0 : lw_At p s m meth c b 6 xs) {dC : Nat → ClassId} {dI : Nat → Nat → Nat} {xq a1 a2 mq : Nat} {cb cm cb2 : ClassId} {g b0 b1 b2 b6 : Nat → Nat} {H : Heap} {locs : List Loc} {ls : Array Slot} (hK : va_K (dC, dI) vwCl [(cb, .byte), (cm, .object RX6), (cb2, .byte)] s) (hP : va_P (dC, dI) vwCl (lwW xq a1 a2 mq cb cm cb2 g b0 b1 b2 b6) H) (hD : va_D (fun q : Nat => s.heap.size ≤ q) (lwW xq a1 a2 mq cb cm cb2 g b0 b1 b2 b6)) (hS : va_S (fun q : Nat => s.heap.size ≤ q) s.heap H locs) (hl : lv_has ls 4 [(3, .int 0), (2, .ref mq), (1, .ref xq), (0, .ref b)]) : W p l e room_1 s m #[Value.ref b] below meth c H locs 117 3761775 (lw_Z below #[Value.ref b] s) (F0 m 762 ls []) := by
  obtain ⟨hx, hb, hr, hml, hown, hw, hX, hbl, hlocks, hgv⟩ := id C0
  have hA : ∀ q : Nat, s.heap.size ≤ q → (fun q : Nat => s.heap.size ≤ q) q := fun _ h => h
  have hbA : ¬ (fun q : Nat => s.heap.size ≤ q) b := Nat.not_le.mpr hbl
  refine lv_aload_n hx hb dL_law_762 rfl (lv_at hl 2 rfl) ?_
  have hPc := hP.sub (ws' := (xW xq a1 a2 cm)) [0, 2] rfl
  have hKc := hK.sub (tys' := [(cm, .object "CodeLayout$Machine")]) [1] rfl
  refine vp_callSi (va_runV (As := []) (rest := []) ⟨hx, hb, hml, hown, hw⟩ (k_X11_same l dC dI xq a1 a2 cm ) ⟨callB_of 0 hw (gdl (tb_7 (List.mem_of_getElem? (i := 29) (by decide +kernel))) rfl) rfl rfl rfl (hw (Cond.initialized RX11) (tb_1 (List.mem_of_getElem? (i := 1) (by decide +kernel)))) (hw (Cond.methodLink RL 95 yX11_same) (tb_7 (List.mem_of_getElem? (i := 26) (by decide +kernel)))) (by decide +kernel) ⟨Nat.le_of_ble_eq_true rfl, Nat.le_of_ble_eq_true rfl⟩, (hw (Cond.instanceMethod yX11_same) (tb_7 (List.mem_of_getElem? (i := 27) (by decide +kernel)))), (hw (Cond.selects RX11 yX11_same yX11_same) (tb_7 (List.mem_of_getElem? (i := 28) (by decide +kernel))))⟩ ⟨pR_blind, va_recv hKc hPc (ci := 10) (q0 := 0) rfl rfl, pR_of hPc hKc⟩ rfl rfl hl.1 rfl (lv_room (Nat.le_of_ble_eq_true rfl)) dL_law_763 ⟨Nat.le_of_ble_eq_true rfl, Nat.le_of_ble_eq_true rfl⟩).run (fun r_1 e_2 => ?_)
  subst e_2
  refine lv_aload_n hx hb dL_law_766 rfl (lv_at hl 1 rfl) ?_
  have hPc := hP.sub (ws' := (mW mq g b0 b1 b2)) [3, 4, 5, 6] rfl
  have hKc := hK.sub (tys' := []) [] rfl
  refine vp_callSi (va_runV (As := []) (rest := [.int 0]) ⟨hx, hb, hml, hown, hw⟩ (k_X15_same l dC dI mq g b0 b1 b2 ) ⟨callB_of 0 hw (gdl (tb_12 (List.mem_of_getElem? (i := 108) (by decide +kernel))) rfl) rfl rfl rfl (hw (Cond.initialized RX15) (tb_1 (List.mem_of_getElem? (i := 2) (by decide +kernel)))) (hw (Cond.methodLink RL 99 yX15_same) (tb_12 (List.mem_of_getElem? (i := 105) (by decide +kernel)))) (by decide +kernel) ⟨Nat.le_of_ble_eq_true rfl, Nat.le_of_ble_eq_true rfl⟩, (hw (Cond.instanceMethod yX15_same) (tb_12 (List.mem_of_getElem? (i := 106) (by decide +kernel)))), (hw (Cond.selects RX15 yX15_same yX15_same) (tb_12 (List.mem_of_getElem? (i := 107) (by decide +kernel))))⟩ ⟨pR_blind, va_recv hKc hPc (ci := 14) (q0 := 0) rfl rfl, pR_of hPc hKc⟩ rfl rfl hl.1 rfl (lv_room (Nat.le_of_ble_eq_true rfl)) dL_law_767 ⟨Nat.le_of_ble_eq_true rfl, Nat.le_of_ble_eq_true rfl⟩).run (fun r_3 e_4 => ?_)
  subst e_4
  refine lv_icmp_eq (tgt := 1215) hx hb dL_law_770 (by decide) (fun c_5 => ?_) (fun c_5 => absurd c_5 (by decide))
  exact law_tail C0 hS (Nat.le_of_ble_eq_true rfl) (Nat.le_of_ble_eq_true rfl) hl
set_option maxHeartbeats 8000000 in
set_option maxRecDepth 100000 in
theorem law_19 {p : Program} {l : Launch} {e : Env} {s : State} {m : MethodId} {below : List Frame} {meth : Method} {c : Code} {b : Nat} {xs : Nat → Int32} (C0 : lw_At p s m meth c b 6 xs) {dC : Nat → ClassId} {dI : Nat → Nat → Nat} {xq a1 a2 mq : Nat} {cb cm cb2 : ClassId} {g b0 b1 b2 b6 : Nat → Nat} {H : Heap} {locs : List Loc} {ls : Array Slot} (hK : va_K (dC, dI) vwCl [(cb, .byte), (cm, .object RX6), (cb2, .byte)] s) (hP : va_P (dC, dI) vwCl (lwW xq a1 a2 mq cb cm cb2 g b0 b1 b2 b6) H) (hD : va_D (fun q : Nat => s.heap.size ≤ q) (lwW xq a1 a2 mq cb cm cb2 g b0 b1 b2 b6)) (hS : va_S (fun q : Nat => s.heap.size ≤ q) s.heap H locs) (hl : lv_has ls 4 [(3, .int 0), (2, .ref mq), (1, .ref xq), (0, .ref b)]) : W p l e room_1 s m #[Value.ref b] below meth c H locs 117 3761775 (lw_Z below #[Value.ref b] s) (F0 m 775 ls []) := by
  obtain ⟨hx, hb, hr, hml, hown, hw, hX, hbl, hlocks, hgv⟩ := id C0
  have hA : ∀ q : Nat, s.heap.size ≤ q → (fun q : Nat => s.heap.size ≤ q) q := fun _ h => h
  have hbA : ¬ (fun q : Nat => s.heap.size ≤ q) b := Nat.not_le.mpr hbl
  refine lv_aload_n hx hb dL_law_775 rfl (lv_at hl 2 rfl) ?_
  refine lv_aload_n hx hb dL_law_776 rfl (lv_at hl 3 rfl) ?_
  refine lv_iload_n hx hb dL_law_777 rfl (lv_at hl 0 rfl) ?_
  refine lv_iconst (v := 1) hx hb dL_law_778 (by decide) ?_
  refine lv_iadd hx hb dL_law_779 ?_
  refine lv_topi (fun x_1 ex_1 => ?_)
  have ex_1 : x_1 = 1 := ex_1.trans (by decide)
  subst ex_1
  refine va_sld hx hb hX hbl hbA hS (show vp_in 1 6 from by unfold vp_in; decide) dL_law_780 ?_
  refine lv_aload_n hx hb dL_law_781 rfl (lv_at hl 3 rfl) ?_
  refine lv_iload_n hx hb dL_law_782 rfl (lv_at hl 0 rfl) ?_
  refine lv_iconst (v := 2) hx hb dL_law_783 (by decide) ?_
  refine lv_iadd hx hb dL_law_784 ?_
  refine lv_topi (fun x_2 ex_2 => ?_)
  have ex_2 : x_2 = 2 := ex_2.trans (by decide)
  subst ex_2
  refine va_sld hx hb hX hbl hbA hS (show vp_in 2 6 from by unfold vp_in; decide) dL_law_785 ?_
  have hPc := hP.sub (ws' := (xW xq a1 a2 cm)) [0, 2] rfl
  have hKc := hK.sub (tys' := [(cm, .object "CodeLayout$Machine")]) [1] rfl
  refine vp_callSi (va_runV (As := [.int (xs (Int32.toNatClampNeg 1)), .int (xs (Int32.toNatClampNeg 2))]) (rest := []) ⟨hx, hb, hml, hown, hw⟩ (k_X11_run l dC dI xq a1 a2 cm (xs (Int32.toNatClampNeg 1)) (xs (Int32.toNatClampNeg 2))) ⟨callB_of 2 hw (gdl (tb_7 (List.mem_of_getElem? (i := 41) (by decide +kernel))) rfl) rfl rfl rfl (hw (Cond.initialized RX11) (tb_1 (List.mem_of_getElem? (i := 1) (by decide +kernel)))) (hw (Cond.methodLink RL 100 yX11_run) (tb_7 (List.mem_of_getElem? (i := 38) (by decide +kernel)))) (by decide +kernel) ⟨Nat.le_of_ble_eq_true rfl, Nat.le_of_ble_eq_true rfl⟩, (hw (Cond.instanceMethod yX11_run) (tb_7 (List.mem_of_getElem? (i := 39) (by decide +kernel)))), (hw (Cond.selects RX11 yX11_run yX11_run) (tb_7 (List.mem_of_getElem? (i := 40) (by decide +kernel))))⟩ ⟨pR_blind, va_recv hKc hPc (ci := 10) (q0 := 0) rfl rfl, pR_of hPc hKc⟩ rfl rfl hl.1 rfl (lv_room (Nat.le_of_ble_eq_true rfl)) dL_law_786 ⟨Nat.le_of_ble_eq_true rfl, Nat.le_of_ble_eq_true rfl⟩).run (fun r_3 e_4 => ?_)
  subst e_4
  refine lv_aload_n hx hb dL_law_789 rfl (lv_at hl 1 rfl) ?_
  refine lv_aload_n hx hb dL_law_790 rfl (lv_at hl 3 rfl) ?_
  refine lv_iload_n hx hb dL_law_791 rfl (lv_at hl 0 rfl) ?_
  refine lv_iconst (v := 1) hx hb dL_law_792 (by decide) ?_
  refine lv_iadd hx hb dL_law_793 ?_
  refine lv_topi (fun x_5 ex_5 => ?_)
  have ex_5 : x_5 = 1 := ex_5.trans (by decide)
  subst ex_5
  refine va_sld hx hb hX hbl hbA hS (show vp_in 1 6 from by unfold vp_in; decide) dL_law_794 ?_
  refine lv_aload_n hx hb dL_law_795 rfl (lv_at hl 3 rfl) ?_
  refine lv_iload_n hx hb dL_law_796 rfl (lv_at hl 0 rfl) ?_
  refine lv_iconst (v := 2) hx hb dL_law_797 (by decide) ?_
  refine lv_iadd hx hb dL_law_798 ?_
  refine lv_topi (fun x_6 ex_6 => ?_)
  have ex_6 : x_6 = 2 := ex_6.trans (by decide)
  subst ex_6
  refine va_sld hx hb hX hbl hbA hS (show vp_in 2 6 from by unfold vp_in; decide) dL_law_799 ?_
  have hPc := hP.sub (ws' := (mW mq g b0 b1 b2)) [3, 4, 5, 6] rfl
  have hKc := hK.sub (tys' := []) [] rfl
  refine vp_callSi (va_runV (As := [.int (xs (Int32.toNatClampNeg 1)), .int (xs (Int32.toNatClampNeg 2))]) (rest := [.int ((-14))]) ⟨hx, hb, hml, hown, hw⟩ (k_X15_run l dC dI mq g b0 b1 b2 (xs (Int32.toNatClampNeg 1)) (xs (Int32.toNatClampNeg 2))) ⟨callB_of 2 hw (gdl (tb_13 (List.mem_of_getElem? (i := 62) (by decide +kernel))) rfl) rfl rfl rfl (hw (Cond.initialized RX15) (tb_1 (List.mem_of_getElem? (i := 2) (by decide +kernel)))) (hw (Cond.methodLink RL 103 yX15_run) (tb_13 (List.mem_of_getElem? (i := 59) (by decide +kernel)))) (by decide +kernel) ⟨Nat.le_of_ble_eq_true rfl, Nat.le_of_ble_eq_true rfl⟩, (hw (Cond.instanceMethod yX15_run) (tb_13 (List.mem_of_getElem? (i := 60) (by decide +kernel)))), (hw (Cond.selects RX15 yX15_run yX15_run) (tb_13 (List.mem_of_getElem? (i := 61) (by decide +kernel))))⟩ ⟨pR_blind, va_recv hKc hPc (ci := 14) (q0 := 0) rfl rfl, pR_of hPc hKc⟩ rfl rfl hl.1 rfl (lv_room (Nat.le_of_ble_eq_true rfl)) dL_law_800 ⟨Nat.le_of_ble_eq_true rfl, Nat.le_of_ble_eq_true rfl⟩).run (fun r_7 e_8 => ?_)
  subst e_8
  refine lv_icmp_eq (tgt := 1215) hx hb dL_law_803 (by decide) (fun c_9 => ?_) (fun c_9 => absurd c_9 (by decide))
  exact law_tail C0 hS (Nat.le_of_ble_eq_true rfl) (Nat.le_of_ble_eq_true rfl) hl
set_option maxHeartbeats 8000000 in
set_option maxRecDepth 100000 in
theorem law_20 {p : Program} {l : Launch} {e : Env} {s : State} {m : MethodId} {below : List Frame} {meth : Method} {c : Code} {b : Nat} {xs : Nat → Int32} (C0 : lw_At p s m meth c b 6 xs) {dC : Nat → ClassId} {dI : Nat → Nat → Nat} {xq a1 a2 mq : Nat} {cb cm cb2 : ClassId} {g b0 b1 b2 b6 : Nat → Nat} {H : Heap} {locs : List Loc} {ls : Array Slot} (hK : va_K (dC, dI) vwCl [(cb, .byte), (cm, .object RX6), (cb2, .byte)] s) (hP : va_P (dC, dI) vwCl (lwW xq a1 a2 mq cb cm cb2 g b0 b1 b2 b6) H) (hD : va_D (fun q : Nat => s.heap.size ≤ q) (lwW xq a1 a2 mq cb cm cb2 g b0 b1 b2 b6)) (hS : va_S (fun q : Nat => s.heap.size ≤ q) s.heap H locs) (hl : lv_has ls 4 [(3, .int 0), (2, .ref mq), (1, .ref xq), (0, .ref b)]) : W p l e room_1 s m #[Value.ref b] below meth c H locs 117 3761775 (lw_Z below #[Value.ref b] s) (F0 m 808 ls []) := by
  obtain ⟨hx, hb, hr, hml, hown, hw, hX, hbl, hlocks, hgv⟩ := id C0
  have hA : ∀ q : Nat, s.heap.size ≤ q → (fun q : Nat => s.heap.size ≤ q) q := fun _ h => h
  have hbA : ¬ (fun q : Nat => s.heap.size ≤ q) b := Nat.not_le.mpr hbl
  refine lv_aload_n hx hb dL_law_808 rfl (lv_at hl 2 rfl) ?_
  refine lv_aload_n hx hb dL_law_809 rfl (lv_at hl 3 rfl) ?_
  refine lv_iload_n hx hb dL_law_810 rfl (lv_at hl 0 rfl) ?_
  refine lv_iconst (v := 1) hx hb dL_law_811 (by decide) ?_
  refine lv_iadd hx hb dL_law_812 ?_
  refine lv_topi (fun x_1 ex_1 => ?_)
  have ex_1 : x_1 = 1 := ex_1.trans (by decide)
  subst ex_1
  refine va_sld hx hb hX hbl hbA hS (show vp_in 1 6 from by unfold vp_in; decide) dL_law_813 ?_
  refine lv_aload_n hx hb dL_law_814 rfl (lv_at hl 3 rfl) ?_
  refine lv_iload_n hx hb dL_law_815 rfl (lv_at hl 0 rfl) ?_
  refine lv_iconst (v := 2) hx hb dL_law_816 (by decide) ?_
  refine lv_iadd hx hb dL_law_817 ?_
  refine lv_topi (fun x_2 ex_2 => ?_)
  have ex_2 : x_2 = 2 := ex_2.trans (by decide)
  subst ex_2
  refine va_sld hx hb hX hbl hbA hS (show vp_in 2 6 from by unfold vp_in; decide) dL_law_818 ?_
  have hPc := hP.sub (ws' := (xW xq a1 a2 cm)) [0, 2] rfl
  have hKc := hK.sub (tys' := [(cm, .object "CodeLayout$Machine")]) [1] rfl
  refine vp_callSi (va_runV (As := [.int (xs (Int32.toNatClampNeg 1)), .int (xs (Int32.toNatClampNeg 2))]) (rest := []) ⟨hx, hb, hml, hown, hw⟩ (k_X11_told l dC dI xq a1 a2 cm (xs (Int32.toNatClampNeg 1)) (xs (Int32.toNatClampNeg 2))) ⟨callB_of 2 hw (gdl (tb_8 (List.mem_of_getElem? (i := 178) (by decide +kernel))) rfl) rfl rfl rfl (hw (Cond.initialized RX11) (tb_1 (List.mem_of_getElem? (i := 1) (by decide +kernel)))) (hw (Cond.methodLink RL 104 yX11_told) (tb_8 (List.mem_of_getElem? (i := 175) (by decide +kernel)))) (by decide +kernel) ⟨Nat.le_of_ble_eq_true rfl, Nat.le_of_ble_eq_true rfl⟩, (hw (Cond.instanceMethod yX11_told) (tb_8 (List.mem_of_getElem? (i := 176) (by decide +kernel)))), (hw (Cond.selects RX11 yX11_told yX11_told) (tb_8 (List.mem_of_getElem? (i := 177) (by decide +kernel))))⟩ ⟨pR_blind, va_recv hKc hPc (ci := 10) (q0 := 0) rfl rfl, pR_of hPc hKc⟩ rfl rfl hl.1 rfl (lv_room (Nat.le_of_ble_eq_true rfl)) dL_law_819 ⟨Nat.le_of_ble_eq_true rfl, Nat.le_of_ble_eq_true rfl⟩).run (fun r_3 e_4 => ?_)
  subst e_4
  refine lv_aload_n hx hb dL_law_822 rfl (lv_at hl 1 rfl) ?_
  refine lv_aload_n hx hb dL_law_823 rfl (lv_at hl 3 rfl) ?_
  refine lv_iload_n hx hb dL_law_824 rfl (lv_at hl 0 rfl) ?_
  refine lv_iconst (v := 1) hx hb dL_law_825 (by decide) ?_
  refine lv_iadd hx hb dL_law_826 ?_
  refine lv_topi (fun x_5 ex_5 => ?_)
  have ex_5 : x_5 = 1 := ex_5.trans (by decide)
  subst ex_5
  refine va_sld hx hb hX hbl hbA hS (show vp_in 1 6 from by unfold vp_in; decide) dL_law_827 ?_
  refine lv_aload_n hx hb dL_law_828 rfl (lv_at hl 3 rfl) ?_
  refine lv_iload_n hx hb dL_law_829 rfl (lv_at hl 0 rfl) ?_
  refine lv_iconst (v := 2) hx hb dL_law_830 (by decide) ?_
  refine lv_iadd hx hb dL_law_831 ?_
  refine lv_topi (fun x_6 ex_6 => ?_)
  have ex_6 : x_6 = 2 := ex_6.trans (by decide)
  subst ex_6
  refine va_sld hx hb hX hbl hbA hS (show vp_in 2 6 from by unfold vp_in; decide) dL_law_832 ?_
  have hPc := hP.sub (ws' := (mW mq g b0 b1 b2)) [3, 4, 5, 6] rfl
  have hKc := hK.sub (tys' := []) [] rfl
  refine vp_callSi (va_runV (As := [.int (xs (Int32.toNatClampNeg 1)), .int (xs (Int32.toNatClampNeg 2))]) (rest := [.int ((-14))]) ⟨hx, hb, hml, hown, hw⟩ (k_X15_told l dC dI mq g b0 b1 b2 (xs (Int32.toNatClampNeg 1)) (xs (Int32.toNatClampNeg 2))) ⟨callB_of 2 hw (gdl (tb_14 (List.mem_of_getElem? (i := 53) (by decide +kernel))) rfl) rfl rfl rfl (hw (Cond.initialized RX15) (tb_1 (List.mem_of_getElem? (i := 2) (by decide +kernel)))) (hw (Cond.methodLink RL 107 yX15_told) (tb_14 (List.mem_of_getElem? (i := 50) (by decide +kernel)))) (by decide +kernel) ⟨Nat.le_of_ble_eq_true rfl, Nat.le_of_ble_eq_true rfl⟩, (hw (Cond.instanceMethod yX15_told) (tb_14 (List.mem_of_getElem? (i := 51) (by decide +kernel)))), (hw (Cond.selects RX15 yX15_told yX15_told) (tb_14 (List.mem_of_getElem? (i := 52) (by decide +kernel))))⟩ ⟨pR_blind, va_recv hKc hPc (ci := 14) (q0 := 0) rfl rfl, pR_of hPc hKc⟩ rfl rfl hl.1 rfl (lv_room (Nat.le_of_ble_eq_true rfl)) dL_law_833 ⟨Nat.le_of_ble_eq_true rfl, Nat.le_of_ble_eq_true rfl⟩).run (fun r_7 e_8 => ?_)
  subst e_8
  refine lv_icmp_eq (tgt := 1215) hx hb dL_law_836 (by decide) (fun c_9 => ?_) (fun c_9 => absurd c_9 (by decide))
  exact law_tail C0 hS (Nat.le_of_ble_eq_true rfl) (Nat.le_of_ble_eq_true rfl) hl
set_option maxHeartbeats 8000000 in
set_option maxRecDepth 100000 in
theorem law_21 {p : Program} {l : Launch} {e : Env} {s : State} {m : MethodId} {below : List Frame} {meth : Method} {c : Code} {b : Nat} {xs : Nat → Int32} (C0 : lw_At p s m meth c b 6 xs) {dC : Nat → ClassId} {dI : Nat → Nat → Nat} {xq a1 a2 mq : Nat} {cb cm cb2 : ClassId} {g b0 b1 b2 b6 : Nat → Nat} {H : Heap} {locs : List Loc} {ls : Array Slot} (hK : va_K (dC, dI) vwCl [(cb, .byte), (cm, .object RX6), (cb2, .byte)] s) (hP : va_P (dC, dI) vwCl (lwW xq a1 a2 mq cb cm cb2 g b0 b1 b2 b6) H) (hD : va_D (fun q : Nat => s.heap.size ≤ q) (lwW xq a1 a2 mq cb cm cb2 g b0 b1 b2 b6)) (hS : va_S (fun q : Nat => s.heap.size ≤ q) s.heap H locs) (hl : lv_has ls 4 [(3, .int 0), (2, .ref mq), (1, .ref xq), (0, .ref b)]) : W p l e room_1 s m #[Value.ref b] below meth c H locs 117 3761775 (lw_Z below #[Value.ref b] s) (F0 m 841 ls []) := by
  obtain ⟨hx, hb, hr, hml, hown, hw, hX, hbl, hlocks, hgv⟩ := id C0
  have hA : ∀ q : Nat, s.heap.size ≤ q → (fun q : Nat => s.heap.size ≤ q) q := fun _ h => h
  have hbA : ¬ (fun q : Nat => s.heap.size ≤ q) b := Nat.not_le.mpr hbl
  refine lv_aload_n hx hb dL_law_841 rfl (lv_at hl 2 rfl) ?_
  refine lv_aload_n hx hb dL_law_842 rfl (lv_at hl 3 rfl) ?_
  refine lv_iload_n hx hb dL_law_843 rfl (lv_at hl 0 rfl) ?_
  refine lv_iconst (v := 1) hx hb dL_law_844 (by decide) ?_
  refine lv_iadd hx hb dL_law_845 ?_
  refine lv_topi (fun x_1 ex_1 => ?_)
  have ex_1 : x_1 = 1 := ex_1.trans (by decide)
  subst ex_1
  refine va_sld hx hb hX hbl hbA hS (show vp_in 1 6 from by unfold vp_in; decide) dL_law_846 ?_
  refine lv_aload_n hx hb dL_law_847 rfl (lv_at hl 3 rfl) ?_
  refine lv_iload_n hx hb dL_law_848 rfl (lv_at hl 0 rfl) ?_
  refine lv_iconst (v := 2) hx hb dL_law_849 (by decide) ?_
  refine lv_iadd hx hb dL_law_850 ?_
  refine lv_topi (fun x_2 ex_2 => ?_)
  have ex_2 : x_2 = 2 := ex_2.trans (by decide)
  subst ex_2
  refine va_sld hx hb hX hbl hbA hS (show vp_in 2 6 from by unfold vp_in; decide) dL_law_851 ?_
  have hPc := hP.sub (ws' := (xW xq a1 a2 cm)) [0, 2] rfl
  have hKc := hK.sub (tys' := [(cm, .object "CodeLayout$Machine")]) [1] rfl
  refine vp_callSl (va_runV (As := [.int (xs (Int32.toNatClampNeg 1)), .int (xs (Int32.toNatClampNeg 2))]) (rest := []) ⟨hx, hb, hml, hown, hw⟩ (k_X11_register l dC dI xq a1 a2 cm (xs (Int32.toNatClampNeg 1)) (xs (Int32.toNatClampNeg 2))) ⟨callB_of 2 hw (gdl (tb_8 (List.mem_of_getElem? (i := 186) (by decide +kernel))) rfl) rfl rfl rfl (hw (Cond.initialized RX11) (tb_1 (List.mem_of_getElem? (i := 1) (by decide +kernel)))) (hw (Cond.methodLink RL 108 yX11_register) (tb_8 (List.mem_of_getElem? (i := 183) (by decide +kernel)))) (by decide +kernel) ⟨Nat.le_of_ble_eq_true rfl, Nat.le_of_ble_eq_true rfl⟩, (hw (Cond.instanceMethod yX11_register) (tb_8 (List.mem_of_getElem? (i := 184) (by decide +kernel)))), (hw (Cond.selects RX11 yX11_register yX11_register) (tb_8 (List.mem_of_getElem? (i := 185) (by decide +kernel))))⟩ ⟨pR_blind, va_recv hKc hPc (ci := 10) (q0 := 0) rfl rfl, pR_of hPc hKc⟩ rfl rfl hl.1 rfl (lv_room (Nat.le_of_ble_eq_true rfl)) dL_law_852 ⟨Nat.le_of_ble_eq_true rfl, Nat.le_of_ble_eq_true rfl⟩).run (fun r_3 e_4 => ?_)
  subst e_4
  refine lv_aload_n hx hb dL_law_855 rfl (lv_at hl 1 rfl) ?_
  refine lv_aload_n hx hb dL_law_856 rfl (lv_at hl 3 rfl) ?_
  refine lv_iload_n hx hb dL_law_857 rfl (lv_at hl 0 rfl) ?_
  refine lv_iconst (v := 1) hx hb dL_law_858 (by decide) ?_
  refine lv_iadd hx hb dL_law_859 ?_
  refine lv_topi (fun x_5 ex_5 => ?_)
  have ex_5 : x_5 = 1 := ex_5.trans (by decide)
  subst ex_5
  refine va_sld hx hb hX hbl hbA hS (show vp_in 1 6 from by unfold vp_in; decide) dL_law_860 ?_
  refine lv_aload_n hx hb dL_law_861 rfl (lv_at hl 3 rfl) ?_
  refine lv_iload_n hx hb dL_law_862 rfl (lv_at hl 0 rfl) ?_
  refine lv_iconst (v := 2) hx hb dL_law_863 (by decide) ?_
  refine lv_iadd hx hb dL_law_864 ?_
  refine lv_topi (fun x_6 ex_6 => ?_)
  have ex_6 : x_6 = 2 := ex_6.trans (by decide)
  subst ex_6
  refine va_sld hx hb hX hbl hbA hS (show vp_in 2 6 from by unfold vp_in; decide) dL_law_865 ?_
  have hPc := hP.sub (ws' := (mW mq g b0 b1 b2)) [3, 4, 5, 6] rfl
  have hKc := hK.sub (tys' := []) [] rfl
  refine vp_callSl (va_runV (As := [.int (xs (Int32.toNatClampNeg 1)), .int (xs (Int32.toNatClampNeg 2))]) (rest := [.long 0]) ⟨hx, hb, hml, hown, hw⟩ (k_X15_register l dC dI mq g b0 b1 b2 (xs (Int32.toNatClampNeg 1)) (xs (Int32.toNatClampNeg 2))) ⟨callB_of 2 hw (gdl (tb_14 (List.mem_of_getElem? (i := 61) (by decide +kernel))) rfl) rfl rfl rfl (hw (Cond.initialized RX15) (tb_1 (List.mem_of_getElem? (i := 2) (by decide +kernel)))) (hw (Cond.methodLink RL 111 yX15_register) (tb_14 (List.mem_of_getElem? (i := 58) (by decide +kernel)))) (by decide +kernel) ⟨Nat.le_of_ble_eq_true rfl, Nat.le_of_ble_eq_true rfl⟩, (hw (Cond.instanceMethod yX15_register) (tb_14 (List.mem_of_getElem? (i := 59) (by decide +kernel)))), (hw (Cond.selects RX15 yX15_register yX15_register) (tb_14 (List.mem_of_getElem? (i := 60) (by decide +kernel))))⟩ ⟨pR_blind, va_recv hKc hPc (ci := 14) (q0 := 0) rfl rfl, pR_of hPc hKc⟩ rfl rfl hl.1 rfl (lv_room (Nat.le_of_ble_eq_true rfl)) dL_law_866 ⟨Nat.le_of_ble_eq_true rfl, Nat.le_of_ble_eq_true rfl⟩).run (fun r_7 e_8 => ?_)
  subst e_8
  refine W.lcmp hx hb dL_law_869 ?_
  refine lv_topi (fun x_9 ex_9 => ?_)
  have ex_9 : x_9 = 0 := ex_9.trans (by decide)
  subst ex_9
  refine lv_if_eq (tgt := 1215) hx hb dL_law_870 (by decide) (fun c_10 => ?_) (fun c_10 => absurd c_10 (by decide))
  exact law_tail C0 hS (Nat.le_of_ble_eq_true rfl) (Nat.le_of_ble_eq_true rfl) hl
set_option maxHeartbeats 8000000 in
set_option maxRecDepth 100000 in
theorem law_22 {p : Program} {l : Launch} {e : Env} {s : State} {m : MethodId} {below : List Frame} {meth : Method} {c : Code} {b : Nat} {xs : Nat → Int32} (C0 : lw_At p s m meth c b 6 xs) {dC : Nat → ClassId} {dI : Nat → Nat → Nat} {xq a1 a2 mq : Nat} {cb cm cb2 : ClassId} {g b0 b1 b2 b6 : Nat → Nat} {H : Heap} {locs : List Loc} {ls : Array Slot} (hK : va_K (dC, dI) vwCl [(cb, .byte), (cm, .object RX6), (cb2, .byte)] s) (hP : va_P (dC, dI) vwCl (lwW xq a1 a2 mq cb cm cb2 g b0 b1 b2 b6) H) (hD : va_D (fun q : Nat => s.heap.size ≤ q) (lwW xq a1 a2 mq cb cm cb2 g b0 b1 b2 b6)) (hS : va_S (fun q : Nat => s.heap.size ≤ q) s.heap H locs) (hl : lv_has ls 4 [(3, .int 0), (2, .ref mq), (1, .ref xq), (0, .ref b)]) : W p l e room_1 s m #[Value.ref b] below meth c H locs 117 3761775 (lw_Z below #[Value.ref b] s) (F0 m 875 ls []) := by
  obtain ⟨hx, hb, hr, hml, hown, hw, hX, hbl, hlocks, hgv⟩ := id C0
  have hA : ∀ q : Nat, s.heap.size ≤ q → (fun q : Nat => s.heap.size ≤ q) q := fun _ h => h
  have hbA : ¬ (fun q : Nat => s.heap.size ≤ q) b := Nat.not_le.mpr hbl
  refine lv_aload_n hx hb dL_law_875 rfl (lv_at hl 2 rfl) ?_
  refine lv_aload_n hx hb dL_law_876 rfl (lv_at hl 3 rfl) ?_
  refine lv_iload_n hx hb dL_law_877 rfl (lv_at hl 0 rfl) ?_
  refine lv_iconst (v := 1) hx hb dL_law_878 (by decide) ?_
  refine lv_iadd hx hb dL_law_879 ?_
  refine lv_topi (fun x_1 ex_1 => ?_)
  have ex_1 : x_1 = 1 := ex_1.trans (by decide)
  subst ex_1
  refine va_sld hx hb hX hbl hbA hS (show vp_in 1 6 from by unfold vp_in; decide) dL_law_880 ?_
  have hPc := hP.sub (ws' := (xW xq a1 a2 cm)) [0, 2] rfl
  have hKc := hK.sub (tys' := [(cm, .object "CodeLayout$Machine")]) [1] rfl
  refine vp_callSi (va_runV (As := [.int (xs (Int32.toNatClampNeg 1))]) (rest := []) ⟨hx, hb, hml, hown, hw⟩ (k_X11_kind l dC dI xq a1 a2 cm (xs (Int32.toNatClampNeg 1))) ⟨callB_of 1 hw (gdl (tb_8 (List.mem_of_getElem? (i := 194) (by decide +kernel))) rfl) rfl rfl rfl (hw (Cond.initialized RX11) (tb_1 (List.mem_of_getElem? (i := 1) (by decide +kernel)))) (hw (Cond.methodLink RL 112 yX11_kind) (tb_8 (List.mem_of_getElem? (i := 191) (by decide +kernel)))) (by decide +kernel) ⟨Nat.le_of_ble_eq_true rfl, Nat.le_of_ble_eq_true rfl⟩, (hw (Cond.instanceMethod yX11_kind) (tb_8 (List.mem_of_getElem? (i := 192) (by decide +kernel)))), (hw (Cond.selects RX11 yX11_kind yX11_kind) (tb_8 (List.mem_of_getElem? (i := 193) (by decide +kernel))))⟩ ⟨pR_blind, va_recv hKc hPc (ci := 10) (q0 := 0) rfl rfl, pR_of hPc hKc⟩ rfl rfl hl.1 rfl (lv_room (Nat.le_of_ble_eq_true rfl)) dL_law_881 ⟨Nat.le_of_ble_eq_true rfl, Nat.le_of_ble_eq_true rfl⟩).run (fun r_2 e_3 => ?_)
  subst e_3
  refine lv_aload_n hx hb dL_law_884 rfl (lv_at hl 1 rfl) ?_
  refine lv_aload_n hx hb dL_law_885 rfl (lv_at hl 3 rfl) ?_
  refine lv_iload_n hx hb dL_law_886 rfl (lv_at hl 0 rfl) ?_
  refine lv_iconst (v := 1) hx hb dL_law_887 (by decide) ?_
  refine lv_iadd hx hb dL_law_888 ?_
  refine lv_topi (fun x_4 ex_4 => ?_)
  have ex_4 : x_4 = 1 := ex_4.trans (by decide)
  subst ex_4
  refine va_sld hx hb hX hbl hbA hS (show vp_in 1 6 from by unfold vp_in; decide) dL_law_889 ?_
  have hPc := hP.sub (ws' := (mW mq g b0 b1 b2)) [3, 4, 5, 6] rfl
  have hKc := hK.sub (tys' := []) [] rfl
  refine vp_callSi (va_runV (As := [.int (xs (Int32.toNatClampNeg 1))]) (rest := [.int ((-1))]) ⟨hx, hb, hml, hown, hw⟩ (k_X15_kind l dC dI mq g b0 b1 b2 (xs (Int32.toNatClampNeg 1))) ⟨callB_of 1 hw (gdl (tb_14 (List.mem_of_getElem? (i := 65) (by decide +kernel))) rfl) rfl rfl rfl (hw (Cond.initialized RX15) (tb_1 (List.mem_of_getElem? (i := 2) (by decide +kernel)))) (hw (Cond.methodLink RL 115 yX15_kind) (tb_14 (List.mem_of_getElem? (i := 62) (by decide +kernel)))) (by decide +kernel) ⟨Nat.le_of_ble_eq_true rfl, Nat.le_of_ble_eq_true rfl⟩, (hw (Cond.instanceMethod yX15_kind) (tb_14 (List.mem_of_getElem? (i := 63) (by decide +kernel)))), (hw (Cond.selects RX15 yX15_kind yX15_kind) (tb_14 (List.mem_of_getElem? (i := 64) (by decide +kernel))))⟩ ⟨pR_blind, va_recv hKc hPc (ci := 14) (q0 := 0) rfl rfl, pR_of hPc hKc⟩ rfl rfl hl.1 rfl (lv_room (Nat.le_of_ble_eq_true rfl)) dL_law_890 ⟨Nat.le_of_ble_eq_true rfl, Nat.le_of_ble_eq_true rfl⟩).run (fun r_5 e_6 => ?_)
  subst e_6
  refine lv_icmp_eq (tgt := 1215) hx hb dL_law_893 (by decide) (fun c_7 => ?_) (fun c_7 => absurd c_7 (by decide))
  exact law_tail C0 hS (Nat.le_of_ble_eq_true rfl) (Nat.le_of_ble_eq_true rfl) hl
set_option maxHeartbeats 8000000 in
set_option maxRecDepth 100000 in
theorem law_23 {p : Program} {l : Launch} {e : Env} {s : State} {m : MethodId} {below : List Frame} {meth : Method} {c : Code} {b : Nat} {xs : Nat → Int32} (C0 : lw_At p s m meth c b 6 xs) {dC : Nat → ClassId} {dI : Nat → Nat → Nat} {xq a1 a2 mq : Nat} {cb cm cb2 : ClassId} {g b0 b1 b2 b6 : Nat → Nat} {H : Heap} {locs : List Loc} {ls : Array Slot} (hK : va_K (dC, dI) vwCl [(cb, .byte), (cm, .object RX6), (cb2, .byte)] s) (hP : va_P (dC, dI) vwCl (lwW xq a1 a2 mq cb cm cb2 g b0 b1 b2 b6) H) (hD : va_D (fun q : Nat => s.heap.size ≤ q) (lwW xq a1 a2 mq cb cm cb2 g b0 b1 b2 b6)) (hS : va_S (fun q : Nat => s.heap.size ≤ q) s.heap H locs) (hl : lv_has ls 4 [(3, .int 0), (2, .ref mq), (1, .ref xq), (0, .ref b)]) : W p l e room_1 s m #[Value.ref b] below meth c H locs 117 3761775 (lw_Z below #[Value.ref b] s) (F0 m 898 ls []) := by
  obtain ⟨hx, hb, hr, hml, hown, hw, hX, hbl, hlocks, hgv⟩ := id C0
  have hA : ∀ q : Nat, s.heap.size ≤ q → (fun q : Nat => s.heap.size ≤ q) q := fun _ h => h
  have hbA : ¬ (fun q : Nat => s.heap.size ≤ q) b := Nat.not_le.mpr hbl
  refine lv_aload_n hx hb dL_law_898 rfl (lv_at hl 2 rfl) ?_
  refine lv_aload_n hx hb dL_law_899 rfl (lv_at hl 3 rfl) ?_
  refine lv_iload_n hx hb dL_law_900 rfl (lv_at hl 0 rfl) ?_
  refine lv_iconst (v := 1) hx hb dL_law_901 (by decide) ?_
  refine lv_iadd hx hb dL_law_902 ?_
  refine lv_topi (fun x_1 ex_1 => ?_)
  have ex_1 : x_1 = 1 := ex_1.trans (by decide)
  subst ex_1
  refine va_sld hx hb hX hbl hbA hS (show vp_in 1 6 from by unfold vp_in; decide) dL_law_903 ?_
  have hPc := hP.sub (ws' := (xW xq a1 a2 cm)) [0, 2] rfl
  have hKc := hK.sub (tys' := [(cm, .object "CodeLayout$Machine")]) [1] rfl
  refine vp_callSl (va_runV (As := [.int (xs (Int32.toNatClampNeg 1))]) (rest := []) ⟨hx, hb, hml, hown, hw⟩ (k_X11_newer l dC dI xq a1 a2 cm (xs (Int32.toNatClampNeg 1))) ⟨callB_of 1 hw (gdl (tb_8 (List.mem_of_getElem? (i := 202) (by decide +kernel))) rfl) rfl rfl rfl (hw (Cond.initialized RX11) (tb_1 (List.mem_of_getElem? (i := 1) (by decide +kernel)))) (hw (Cond.methodLink RL 116 yX11_newer) (tb_8 (List.mem_of_getElem? (i := 199) (by decide +kernel)))) (by decide +kernel) ⟨Nat.le_of_ble_eq_true rfl, Nat.le_of_ble_eq_true rfl⟩, (hw (Cond.instanceMethod yX11_newer) (tb_8 (List.mem_of_getElem? (i := 200) (by decide +kernel)))), (hw (Cond.selects RX11 yX11_newer yX11_newer) (tb_8 (List.mem_of_getElem? (i := 201) (by decide +kernel))))⟩ ⟨pR_blind, va_recv hKc hPc (ci := 10) (q0 := 0) rfl rfl, pR_of hPc hKc⟩ rfl rfl hl.1 rfl (lv_room (Nat.le_of_ble_eq_true rfl)) dL_law_904 ⟨Nat.le_of_ble_eq_true rfl, Nat.le_of_ble_eq_true rfl⟩).run (fun r_2 e_3 => ?_)
  subst e_3
  refine lv_aload_n hx hb dL_law_907 rfl (lv_at hl 1 rfl) ?_
  refine lv_aload_n hx hb dL_law_908 rfl (lv_at hl 3 rfl) ?_
  refine lv_iload_n hx hb dL_law_909 rfl (lv_at hl 0 rfl) ?_
  refine lv_iconst (v := 1) hx hb dL_law_910 (by decide) ?_
  refine lv_iadd hx hb dL_law_911 ?_
  refine lv_topi (fun x_4 ex_4 => ?_)
  have ex_4 : x_4 = 1 := ex_4.trans (by decide)
  subst ex_4
  refine va_sld hx hb hX hbl hbA hS (show vp_in 1 6 from by unfold vp_in; decide) dL_law_912 ?_
  have hPc := hP.sub (ws' := (mW mq g b0 b1 b2)) [3, 4, 5, 6] rfl
  have hKc := hK.sub (tys' := []) [] rfl
  refine vp_callSl (va_runV (As := [.int (xs (Int32.toNatClampNeg 1))]) (rest := [.long 0]) ⟨hx, hb, hml, hown, hw⟩ (k_X15_newer l dC dI mq g b0 b1 b2 (xs (Int32.toNatClampNeg 1))) ⟨callB_of 1 hw (gdl (tb_14 (List.mem_of_getElem? (i := 69) (by decide +kernel))) rfl) rfl rfl rfl (hw (Cond.initialized RX15) (tb_1 (List.mem_of_getElem? (i := 2) (by decide +kernel)))) (hw (Cond.methodLink RL 120 yX15_newer) (tb_14 (List.mem_of_getElem? (i := 66) (by decide +kernel)))) (by decide +kernel) ⟨Nat.le_of_ble_eq_true rfl, Nat.le_of_ble_eq_true rfl⟩, (hw (Cond.instanceMethod yX15_newer) (tb_14 (List.mem_of_getElem? (i := 67) (by decide +kernel)))), (hw (Cond.selects RX15 yX15_newer yX15_newer) (tb_14 (List.mem_of_getElem? (i := 68) (by decide +kernel))))⟩ ⟨pR_blind, va_recv hKc hPc (ci := 14) (q0 := 0) rfl rfl, pR_of hPc hKc⟩ rfl rfl hl.1 rfl (lv_room (Nat.le_of_ble_eq_true rfl)) dL_law_913 ⟨Nat.le_of_ble_eq_true rfl, Nat.le_of_ble_eq_true rfl⟩).run (fun r_5 e_6 => ?_)
  subst e_6
  refine W.lcmp hx hb dL_law_916 ?_
  refine lv_topi (fun x_7 ex_7 => ?_)
  have ex_7 : x_7 = 0 := ex_7.trans (by decide)
  subst ex_7
  refine lv_if_eq (tgt := 1215) hx hb dL_law_917 (by decide) (fun c_8 => ?_) (fun c_8 => absurd c_8 (by decide))
  exact law_tail C0 hS (Nat.le_of_ble_eq_true rfl) (Nat.le_of_ble_eq_true rfl) hl
