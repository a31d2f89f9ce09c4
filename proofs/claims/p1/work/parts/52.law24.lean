set_option maxHeartbeats 8000000 in
set_option maxRecDepth 100000 in
theorem law_24 {p : Program} {l : Launch} {e : Env} {s : State} {m : MethodId} {below : List Frame} {meth : Method} {c : Code} {b : Nat} {xs : Nat → Int32} (C0 : lw_At p s m meth c b 6 xs) {dC : Nat → ClassId} {dI : Nat → Nat → Nat} {xq a1 a2 mq : Nat} {cb cm cb2 : ClassId} {g b0 b1 b2 b6 : Nat → Nat} {H : Heap} {locs : List Loc} {ls : Array Slot} (hK : va_K (dC, dI) vwCl [(cb, .byte), (cm, .object RX6), (cb2, .byte)] s) (hP : va_P (dC, dI) vwCl (lwW xq a1 a2 mq cb cm cb2 g b0 b1 b2 b6) H) (hD : va_D (fun q : Nat => s.heap.size ≤ q) (lwW xq a1 a2 mq cb cm cb2 g b0 b1 b2 b6)) (hS : va_S (fun q : Nat => s.heap.size ≤ q) s.heap H locs) (hl : lv_has ls 4 [(3, .int 0), (2, .ref mq), (1, .ref xq), (0, .ref b)]) : W p l e room_1 s m #[Value.ref b] below meth c H locs 117 3761775 (lw_Z below #[Value.ref b] s) (F0 m 922 ls []) := by
  obtain ⟨hx, hb, hr, hml, hown, hw, hX, hbl, hlocks, hgv⟩ := id C0
  have hA : ∀ q : Nat, s.heap.size ≤ q → (fun q : Nat => s.heap.size ≤ q) q := fun _ h => h
  have hbA : ¬ (fun q : Nat => s.heap.size ≤ q) b := Nat.not_le.mpr hbl
  refine lv_aload_n hx hb dL_law_922 rfl (lv_at hl 2 rfl) ?_
  refine lv_aload_n hx hb dL_law_923 rfl (lv_at hl 3 rfl) ?_
  refine lv_iload_n hx hb dL_law_924 rfl (lv_at hl 0 rfl) ?_
  refine lv_iconst (v := 1) hx hb dL_law_925 (by decide) ?_
  refine lv_iadd hx hb dL_law_926 ?_
  refine lv_topi (fun x_1 ex_1 => ?_)
  have ex_1 : x_1 = 1 := ex_1.trans (by decide)
  subst ex_1
  refine va_sld hx hb hX hbl hbA hS (show vp_in 1 6 from by unfold vp_in; decide) dL_law_927 ?_
  refine lv_aload_n hx hb dL_law_928 rfl (lv_at hl 3 rfl) ?_
  refine lv_iload_n hx hb dL_law_929 rfl (lv_at hl 0 rfl) ?_
  refine lv_iconst (v := 2) hx hb dL_law_930 (by decide) ?_
  refine lv_iadd hx hb dL_law_931 ?_
  refine lv_topi (fun x_2 ex_2 => ?_)
  have ex_2 : x_2 = 2 := ex_2.trans (by decide)
  subst ex_2
  refine va_sld hx hb hX hbl hbA hS (show vp_in 2 6 from by unfold vp_in; decide) dL_law_932 ?_
  have hPc := hP.sub (ws' := (xW xq a1 a2 cm)) [0, 2] rfl
  have hKc := hK.sub (tys' := [(cm, .object "CodeLayout$Machine")]) [1] rfl
  refine vp_callSi (va_runV (As := [.int (xs (Int32.toNatClampNeg 1)), .int (xs (Int32.toNatClampNeg 2))]) (rest := []) ⟨hx, hb, hml, hown, hw⟩ (k_X11_visit l dC dI xq a1 a2 cm (xs (Int32.toNatClampNeg 1)) (xs (Int32.toNatClampNeg 2))) ⟨callB_of 2 hw (gdl (tb_8 (List.mem_of_getElem? (i := 210) (by decide +kernel))) rfl) rfl rfl rfl (hw (Cond.initialized RX11) (tb_1 (List.mem_of_getElem? (i := 1) (by decide +kernel)))) (hw (Cond.methodLink RL 121 yX11_visit) (tb_8 (List.mem_of_getElem? (i := 207) (by decide +kernel)))) (by decide +kernel) ⟨Nat.le_of_ble_eq_true rfl, Nat.le_of_ble_eq_true rfl⟩, (hw (Cond.instanceMethod yX11_visit) (tb_8 (List.mem_of_getElem? (i := 208) (by decide +kernel)))), (hw (Cond.selects RX11 yX11_visit yX11_visit) (tb_8 (List.mem_of_getElem? (i := 209) (by decide +kernel))))⟩ ⟨pR_blind, va_recv hKc hPc (ci := 10) (q0 := 0) rfl rfl, pR_of hPc hKc⟩ rfl rfl hl.1 rfl (lv_room (Nat.le_of_ble_eq_true rfl)) dL_law_933 ⟨Nat.le_of_ble_eq_true rfl, Nat.le_of_ble_eq_true rfl⟩).run (fun r_3 e_4 => ?_)
  subst e_4
  refine lv_aload_n hx hb dL_law_936 rfl (lv_at hl 1 rfl) ?_
  refine lv_aload_n hx hb dL_law_937 rfl (lv_at hl 3 rfl) ?_
  refine lv_iload_n hx hb dL_law_938 rfl (lv_at hl 0 rfl) ?_
  refine lv_iconst (v := 1) hx hb dL_law_939 (by decide) ?_
  refine lv_iadd hx hb dL_law_940 ?_
  refine lv_topi (fun x_5 ex_5 => ?_)
  have ex_5 : x_5 = 1 := ex_5.trans (by decide)
  subst ex_5
  refine va_sld hx hb hX hbl hbA hS (show vp_in 1 6 from by unfold vp_in; decide) dL_law_941 ?_
  refine lv_aload_n hx hb dL_law_942 rfl (lv_at hl 3 rfl) ?_
  refine lv_iload_n hx hb dL_law_943 rfl (lv_at hl 0 rfl) ?_
  refine lv_iconst (v := 2) hx hb dL_law_944 (by decide) ?_
  refine lv_iadd hx hb dL_law_945 ?_
  refine lv_topi (fun x_6 ex_6 => ?_)
  have ex_6 : x_6 = 2 := ex_6.trans (by decide)
  subst ex_6
  refine va_sld hx hb hX hbl hbA hS (show vp_in 2 6 from by unfold vp_in; decide) dL_law_946 ?_
  have hPc := hP.sub (ws' := (mW mq g b0 b1 b2)) [3, 4, 5, 6] rfl
  have hKc := hK.sub (tys' := []) [] rfl
  refine vp_callSi (va_runV (As := [.int (xs (Int32.toNatClampNeg 1)), .int (xs (Int32.toNatClampNeg 2))]) (rest := [.int ((-1))]) ⟨hx, hb, hml, hown, hw⟩ (k_X15_visit l dC dI mq g b0 b1 b2 (xs (Int32.toNatClampNeg 1)) (xs (Int32.toNatClampNeg 2))) ⟨callB_of 2 hw (gdl (tb_14 (List.mem_of_getElem? (i := 77) (by decide +kernel))) rfl) rfl rfl rfl (hw (Cond.initialized RX15) (tb_1 (List.mem_of_getElem? (i := 2) (by decide +kernel)))) (hw (Cond.methodLink RL 124 yX15_visit) (tb_14 (List.mem_of_getElem? (i := 74) (by decide +kernel)))) (by decide +kernel) ⟨Nat.le_of_ble_eq_true rfl, Nat.le_of_ble_eq_true rfl⟩, (hw (Cond.instanceMethod yX15_visit) (tb_14 (List.mem_of_getElem? (i := 75) (by decide +kernel)))), (hw (Cond.selects RX15 yX15_visit yX15_visit) (tb_14 (List.mem_of_getElem? (i := 76) (by decide +kernel))))⟩ ⟨pR_blind, va_recv hKc hPc (ci := 14) (q0 := 0) rfl rfl, pR_of hPc hKc⟩ rfl rfl hl.1 rfl (lv_room (Nat.le_of_ble_eq_true rfl)) dL_law_947 ⟨Nat.le_of_ble_eq_true rfl, Nat.le_of_ble_eq_true rfl⟩).run (fun r_7 e_8 => ?_)
  subst e_8
  refine lv_icmp_eq (tgt := 1215) hx hb dL_law_950 (by decide) (fun c_9 => ?_) (fun c_9 => absurd c_9 (by decide))
  exact law_tail C0 hS (Nat.le_of_ble_eq_true rfl) (Nat.le_of_ble_eq_true rfl) hl
set_option maxHeartbeats 8000000 in
set_option maxRecDepth 100000 in
theorem law_25 {p : Program} {l : Launch} {e : Env} {s : State} {m : MethodId} {below : List Frame} {meth : Method} {c : Code} {b : Nat} {xs : Nat → Int32} (C0 : lw_At p s m meth c b 6 xs) {dC : Nat → ClassId} {dI : Nat → Nat → Nat} {xq a1 a2 mq : Nat} {cb cm cb2 : ClassId} {g b0 b1 b2 b6 : Nat → Nat} {H : Heap} {locs : List Loc} {ls : Array Slot} (hK : va_K (dC, dI) vwCl [(cb, .byte), (cm, .object RX6), (cb2, .byte)] s) (hP : va_P (dC, dI) vwCl (lwW xq a1 a2 mq cb cm cb2 g b0 b1 b2 b6) H) (hD : va_D (fun q : Nat => s.heap.size ≤ q) (lwW xq a1 a2 mq cb cm cb2 g b0 b1 b2 b6)) (hS : va_S (fun q : Nat => s.heap.size ≤ q) s.heap H locs) (hl : lv_has ls 4 [(3, .int 0), (2, .ref mq), (1, .ref xq), (0, .ref b)]) : W p l e room_1 s m #[Value.ref b] below meth c H locs 117 3761775 (lw_Z below #[Value.ref b] s) (F0 m 955 ls []) := by
  obtain ⟨hx, hb, hr, hml, hown, hw, hX, hbl, hlocks, hgv⟩ := id C0
  have hA : ∀ q : Nat, s.heap.size ≤ q → (fun q : Nat => s.heap.size ≤ q) q := fun _ h => h
  have hbA : ¬ (fun q : Nat => s.heap.size ≤ q) b := Nat.not_le.mpr hbl
  refine lv_aload_n hx hb dL_law_955 rfl (lv_at hl 2 rfl) ?_
  refine lv_aload_n hx hb dL_law_956 rfl (lv_at hl 3 rfl) ?_
  refine lv_iload_n hx hb dL_law_957 rfl (lv_at hl 0 rfl) ?_
  refine lv_iconst (v := 1) hx hb dL_law_958 (by decide) ?_
  refine lv_iadd hx hb dL_law_959 ?_
  refine lv_topi (fun x_1 ex_1 => ?_)
  have ex_1 : x_1 = 1 := ex_1.trans (by decide)
  subst ex_1
  refine va_sld hx hb hX hbl hbA hS (show vp_in 1 6 from by unfold vp_in; decide) dL_law_960 ?_
  refine lv_aload_n hx hb dL_law_961 rfl (lv_at hl 3 rfl) ?_
  refine lv_iload_n hx hb dL_law_962 rfl (lv_at hl 0 rfl) ?_
  refine lv_iconst (v := 2) hx hb dL_law_963 (by decide) ?_
  refine lv_iadd hx hb dL_law_964 ?_
  refine lv_topi (fun x_2 ex_2 => ?_)
  have ex_2 : x_2 = 2 := ex_2.trans (by decide)
  subst ex_2
  refine va_sld hx hb hX hbl hbA hS (show vp_in 2 6 from by unfold vp_in; decide) dL_law_965 ?_
  refine lv_i2l hx hb dL_law_966 rfl ?_
  refine lv_topl (fun y_3 ey_3 => ?_)
  refine lv_bipush (v := 32) hx hb dL_law_967 (by decide) ?_
  refine lv_lshl hx hb dL_law_969 rfl ?_
  refine lv_topl (fun y_4 ey_4 => ?_)
  refine lv_aload_n hx hb dL_law_970 rfl (lv_at hl 3 rfl) ?_
  refine lv_iload_n hx hb dL_law_971 rfl (lv_at hl 0 rfl) ?_
  refine lv_iconst (v := 3) hx hb dL_law_972 (by decide) ?_
  refine lv_iadd hx hb dL_law_973 ?_
  refine lv_topi (fun x_5 ex_5 => ?_)
  have ex_5 : x_5 = 3 := ex_5.trans (by decide)
  subst ex_5
  refine va_sld hx hb hX hbl hbA hS (show vp_in 3 6 from by unfold vp_in; decide) dL_law_974 ?_
  refine lv_i2l hx hb dL_law_975 rfl ?_
  refine lv_topl (fun y_6 ey_6 => ?_)
  refine lv_ldc2 (own := RL) (v := 4294967295) hx hb hown (hw (Cond.constantLong RL 46 (4294967295)) (tb_14 (List.mem_of_getElem? (i := 101) (by decide +kernel)))) dL_law_976 ?_
  refine lv_land hx hb dL_law_979 ?_
  refine lv_topl (fun y_7 ey_7 => ?_)
  refine lv_lor hx hb dL_law_980 ?_
  refine lv_topl (fun y_8 ey_8 => ?_)
  have hPc := hP.sub (ws' := (xW xq a1 a2 cm)) [0, 2] rfl
  have hKc := hK.sub (tys' := [(cm, .object "CodeLayout$Machine")]) [1] rfl
  refine vp_callSi (va_runV (As := [.int (xs (Int32.toNatClampNeg 1)), .long y_8]) (rest := []) ⟨hx, hb, hml, hown, hw⟩ (k_X11_memory l dC dI xq a1 a2 cm (xs (Int32.toNatClampNeg 1)) y_8) ⟨callB_of 2 hw (gdl (tb_8 (List.mem_of_getElem? (i := 218) (by decide +kernel))) rfl) rfl rfl rfl (hw (Cond.initialized RX11) (tb_1 (List.mem_of_getElem? (i := 1) (by decide +kernel)))) (hw (Cond.methodLink RL 125 yX11_memory) (tb_8 (List.mem_of_getElem? (i := 215) (by decide +kernel)))) (by decide +kernel) ⟨Nat.le_of_ble_eq_true rfl, Nat.le_of_ble_eq_true rfl⟩, (hw (Cond.instanceMethod yX11_memory) (tb_8 (List.mem_of_getElem? (i := 216) (by decide +kernel)))), (hw (Cond.selects RX11 yX11_memory yX11_memory) (tb_8 (List.mem_of_getElem? (i := 217) (by decide +kernel))))⟩ ⟨pR_blind, va_recv hKc hPc (ci := 10) (q0 := 0) rfl rfl, pR_of hPc hKc⟩ rfl rfl hl.1 rfl (lv_room (Nat.le_of_ble_eq_true rfl)) dL_law_981 ⟨Nat.le_of_ble_eq_true rfl, Nat.le_of_ble_eq_true rfl⟩).run (fun r_9 e_10 => ?_)
  subst e_10
  refine lv_aload_n hx hb dL_law_984 rfl (lv_at hl 1 rfl) ?_
  refine lv_aload_n hx hb dL_law_985 rfl (lv_at hl 3 rfl) ?_
  refine lv_iload_n hx hb dL_law_986 rfl (lv_at hl 0 rfl) ?_
  refine lv_iconst (v := 1) hx hb dL_law_987 (by decide) ?_
  refine lv_iadd hx hb dL_law_988 ?_
  refine lv_topi (fun x_11 ex_11 => ?_)
  have ex_11 : x_11 = 1 := ex_11.trans (by decide)
  subst ex_11
  refine va_sld hx hb hX hbl hbA hS (show vp_in 1 6 from by unfold vp_in; decide) dL_law_989 ?_
  refine lv_aload_n hx hb dL_law_990 rfl (lv_at hl 3 rfl) ?_
  refine lv_iload_n hx hb dL_law_991 rfl (lv_at hl 0 rfl) ?_
  refine lv_iconst (v := 2) hx hb dL_law_992 (by decide) ?_
  refine lv_iadd hx hb dL_law_993 ?_
  refine lv_topi (fun x_12 ex_12 => ?_)
  have ex_12 : x_12 = 2 := ex_12.trans (by decide)
  subst ex_12
  refine va_sld hx hb hX hbl hbA hS (show vp_in 2 6 from by unfold vp_in; decide) dL_law_994 ?_
  refine lv_i2l hx hb dL_law_995 rfl ?_
  refine lv_topl (fun y_13 ey_13 => ?_)
  refine lv_bipush (v := 32) hx hb dL_law_996 (by decide) ?_
  refine lv_lshl hx hb dL_law_998 rfl ?_
  refine lv_topl (fun y_14 ey_14 => ?_)
  refine lv_aload_n hx hb dL_law_999 rfl (lv_at hl 3 rfl) ?_
  refine lv_iload_n hx hb dL_law_1000 rfl (lv_at hl 0 rfl) ?_
  refine lv_iconst (v := 3) hx hb dL_law_1001 (by decide) ?_
  refine lv_iadd hx hb dL_law_1002 ?_
  refine lv_topi (fun x_15 ex_15 => ?_)
  have ex_15 : x_15 = 3 := ex_15.trans (by decide)
  subst ex_15
  refine va_sld hx hb hX hbl hbA hS (show vp_in 3 6 from by unfold vp_in; decide) dL_law_1003 ?_
  refine lv_i2l hx hb dL_law_1004 rfl ?_
  refine lv_topl (fun y_16 ey_16 => ?_)
  refine lv_ldc2 (own := RL) (v := 4294967295) hx hb hown (hw (Cond.constantLong RL 46 (4294967295)) (tb_14 (List.mem_of_getElem? (i := 101) (by decide +kernel)))) dL_law_1005 ?_
  refine lv_land hx hb dL_law_1008 ?_
  refine lv_topl (fun y_17 ey_17 => ?_)
  refine lv_lor hx hb dL_law_1009 ?_
  refine lv_topl (fun y_18 ey_18 => ?_)
  have hPc := hP.sub (ws' := (mW mq g b0 b1 b2)) [3, 4, 5, 6] rfl
  have hKc := hK.sub (tys' := []) [] rfl
  refine vp_callSi (va_runV (As := [.int (xs (Int32.toNatClampNeg 1)), .long y_18]) (rest := [.int ((-1))]) ⟨hx, hb, hml, hown, hw⟩ (k_X15_memory l dC dI mq g b0 b1 b2 (xs (Int32.toNatClampNeg 1)) y_18) ⟨callB_of 2 hw (gdl (tb_14 (List.mem_of_getElem? (i := 81) (by decide +kernel))) rfl) rfl rfl rfl (hw (Cond.initialized RX15) (tb_1 (List.mem_of_getElem? (i := 2) (by decide +kernel)))) (hw (Cond.methodLink RL 129 yX15_memory) (tb_14 (List.mem_of_getElem? (i := 78) (by decide +kernel)))) (by decide +kernel) ⟨Nat.le_of_ble_eq_true rfl, Nat.le_of_ble_eq_true rfl⟩, (hw (Cond.instanceMethod yX15_memory) (tb_14 (List.mem_of_getElem? (i := 79) (by decide +kernel)))), (hw (Cond.selects RX15 yX15_memory yX15_memory) (tb_14 (List.mem_of_getElem? (i := 80) (by decide +kernel))))⟩ ⟨pR_blind, va_recv hKc hPc (ci := 14) (q0 := 0) rfl rfl, pR_of hPc hKc⟩ rfl rfl hl.1 rfl (lv_room (Nat.le_of_ble_eq_true rfl)) dL_law_1010 ⟨Nat.le_of_ble_eq_true rfl, Nat.le_of_ble_eq_true rfl⟩).run (fun r_19 e_20 => ?_)
  subst e_20
  refine lv_icmp_eq (tgt := 1215) hx hb dL_law_1013 (by decide) (fun c_21 => ?_) (fun c_21 => absurd c_21 (by decide))
  exact law_tail C0 hS (Nat.le_of_ble_eq_true rfl) (Nat.le_of_ble_eq_true rfl) hl
set_option maxHeartbeats 8000000 in
set_option maxRecDepth 100000 in
theorem law_26 {p : Program} {l : Launch} {e : Env} {s : State} {m : MethodId} {below : List Frame} {meth : Method} {c : Code} {b : Nat} {xs : Nat → Int32} (C0 : lw_At p s m meth c b 6 xs) {dC : Nat → ClassId} {dI : Nat → Nat → Nat} {xq a1 a2 mq : Nat} {cb cm cb2 : ClassId} {g b0 b1 b2 b6 : Nat → Nat} {H : Heap} {locs : List Loc} {ls : Array Slot} (hK : va_K (dC, dI) vwCl [(cb, .byte), (cm, .object RX6), (cb2, .byte)] s) (hP : va_P (dC, dI) vwCl (lwW xq a1 a2 mq cb cm cb2 g b0 b1 b2 b6) H) (hD : va_D (fun q : Nat => s.heap.size ≤ q) (lwW xq a1 a2 mq cb cm cb2 g b0 b1 b2 b6)) (hS : va_S (fun q : Nat => s.heap.size ≤ q) s.heap H locs) (hl : lv_has ls 4 [(3, .int 0), (2, .ref mq), (1, .ref xq), (0, .ref b)]) : W p l e room_1 s m #[Value.ref b] below meth c H locs 117 3761775 (lw_Z below #[Value.ref b] s) (F0 m 1018 ls []) := by
  obtain ⟨hx, hb, hr, hml, hown, hw, hX, hbl, hlocks, hgv⟩ := id C0
  have hA : ∀ q : Nat, s.heap.size ≤ q → (fun q : Nat => s.heap.size ≤ q) q := fun _ h => h
  have hbA : ¬ (fun q : Nat => s.heap.size ≤ q) b := Nat.not_le.mpr hbl
  refine lv_aload_n hx hb dL_law_1018 rfl (lv_at hl 2 rfl) ?_
  refine lv_aload_n hx hb dL_law_1019 rfl (lv_at hl 3 rfl) ?_
  refine lv_iload_n hx hb dL_law_1020 rfl (lv_at hl 0 rfl) ?_
  refine lv_iconst (v := 1) hx hb dL_law_1021 (by decide) ?_
  refine lv_iadd hx hb dL_law_1022 ?_
  refine lv_topi (fun x_1 ex_1 => ?_)
  have ex_1 : x_1 = 1 := ex_1.trans (by decide)
  subst ex_1
  refine va_sld hx hb hX hbl hbA hS (show vp_in 1 6 from by unfold vp_in; decide) dL_law_1023 ?_
  refine lv_i2l hx hb dL_law_1024 rfl ?_
  refine lv_topl (fun y_2 ey_2 => ?_)
  refine lv_bipush (v := 32) hx hb dL_law_1025 (by decide) ?_
  refine lv_lshl hx hb dL_law_1027 rfl ?_
  refine lv_topl (fun y_3 ey_3 => ?_)
  refine lv_aload_n hx hb dL_law_1028 rfl (lv_at hl 3 rfl) ?_
  refine lv_iload_n hx hb dL_law_1029 rfl (lv_at hl 0 rfl) ?_
  refine lv_iconst (v := 2) hx hb dL_law_1030 (by decide) ?_
  refine lv_iadd hx hb dL_law_1031 ?_
  refine lv_topi (fun x_4 ex_4 => ?_)
  have ex_4 : x_4 = 2 := ex_4.trans (by decide)
  subst ex_4
  refine va_sld hx hb hX hbl hbA hS (show vp_in 2 6 from by unfold vp_in; decide) dL_law_1032 ?_
  refine lv_i2l hx hb dL_law_1033 rfl ?_
  refine lv_topl (fun y_5 ey_5 => ?_)
  refine lv_ldc2 (own := RL) (v := 4294967295) hx hb hown (hw (Cond.constantLong RL 46 (4294967295)) (tb_14 (List.mem_of_getElem? (i := 101) (by decide +kernel)))) dL_law_1034 ?_
  refine lv_land hx hb dL_law_1037 ?_
  refine lv_topl (fun y_6 ey_6 => ?_)
  refine lv_lor hx hb dL_law_1038 ?_
  refine lv_topl (fun y_7 ey_7 => ?_)
  have hPc := hP.sub (ws' := (xW xq a1 a2 cm)) [0, 2] rfl
  have hKc := hK.sub (tys' := [(cm, .object "CodeLayout$Machine")]) [1] rfl
  refine vp_callSi (va_runV (As := [.long y_7]) (rest := []) ⟨hx, hb, hml, hown, hw⟩ (k_X11_keeps l dC dI xq a1 a2 cm y_7) ⟨callB_of 1 hw (gdl (tb_8 (List.mem_of_getElem? (i := 227) (by decide +kernel))) rfl) rfl rfl rfl (hw (Cond.initialized RX11) (tb_1 (List.mem_of_getElem? (i := 1) (by decide +kernel)))) (hw (Cond.methodLink RL 130 yX11_keeps) (tb_8 (List.mem_of_getElem? (i := 224) (by decide +kernel)))) (by decide +kernel) ⟨Nat.le_of_ble_eq_true rfl, Nat.le_of_ble_eq_true rfl⟩, (hw (Cond.instanceMethod yX11_keeps) (tb_8 (List.mem_of_getElem? (i := 225) (by decide +kernel)))), (hw (Cond.selects RX11 yX11_keeps yX11_keeps) (tb_8 (List.mem_of_getElem? (i := 226) (by decide +kernel))))⟩ ⟨pR_blind, va_recv hKc hPc (ci := 10) (q0 := 0) rfl rfl, pR_of hPc hKc⟩ rfl rfl hl.1 rfl (lv_room (Nat.le_of_ble_eq_true rfl)) dL_law_1039 ⟨Nat.le_of_ble_eq_true rfl, Nat.le_of_ble_eq_true rfl⟩).run (fun r_8 e_9 => ?_)
  subst e_9
  refine lv_aload_n hx hb dL_law_1042 rfl (lv_at hl 1 rfl) ?_
  refine lv_aload_n hx hb dL_law_1043 rfl (lv_at hl 3 rfl) ?_
  refine lv_iload_n hx hb dL_law_1044 rfl (lv_at hl 0 rfl) ?_
  refine lv_iconst (v := 1) hx hb dL_law_1045 (by decide) ?_
  refine lv_iadd hx hb dL_law_1046 ?_
  refine lv_topi (fun x_10 ex_10 => ?_)
  have ex_10 : x_10 = 1 := ex_10.trans (by decide)
  subst ex_10
  refine va_sld hx hb hX hbl hbA hS (show vp_in 1 6 from by unfold vp_in; decide) dL_law_1047 ?_
  refine lv_i2l hx hb dL_law_1048 rfl ?_
  refine lv_topl (fun y_11 ey_11 => ?_)
  refine lv_bipush (v := 32) hx hb dL_law_1049 (by decide) ?_
  refine lv_lshl hx hb dL_law_1051 rfl ?_
  refine lv_topl (fun y_12 ey_12 => ?_)
  refine lv_aload_n hx hb dL_law_1052 rfl (lv_at hl 3 rfl) ?_
  refine lv_iload_n hx hb dL_law_1053 rfl (lv_at hl 0 rfl) ?_
  refine lv_iconst (v := 2) hx hb dL_law_1054 (by decide) ?_
  refine lv_iadd hx hb dL_law_1055 ?_
  refine lv_topi (fun x_13 ex_13 => ?_)
  have ex_13 : x_13 = 2 := ex_13.trans (by decide)
  subst ex_13
  refine va_sld hx hb hX hbl hbA hS (show vp_in 2 6 from by unfold vp_in; decide) dL_law_1056 ?_
  refine lv_i2l hx hb dL_law_1057 rfl ?_
  refine lv_topl (fun y_14 ey_14 => ?_)
  refine lv_ldc2 (own := RL) (v := 4294967295) hx hb hown (hw (Cond.constantLong RL 46 (4294967295)) (tb_14 (List.mem_of_getElem? (i := 101) (by decide +kernel)))) dL_law_1058 ?_
  refine lv_land hx hb dL_law_1061 ?_
  refine lv_topl (fun y_15 ey_15 => ?_)
  refine lv_lor hx hb dL_law_1062 ?_
  refine lv_topl (fun y_16 ey_16 => ?_)
  have hPc := hP.sub (ws' := (mW mq g b0 b1 b2)) [3, 4, 5, 6] rfl
  have hKc := hK.sub (tys' := []) [] rfl
  refine vp_callSi (va_runV (As := [.long y_16]) (rest := [.int ((-1))]) ⟨hx, hb, hml, hown, hw⟩ (k_X15_keeps l dC dI mq g b0 b1 b2 y_16) ⟨callB_of 1 hw (gdl (tb_14 (List.mem_of_getElem? (i := 86) (by decide +kernel))) rfl) rfl rfl rfl (hw (Cond.initialized RX15) (tb_1 (List.mem_of_getElem? (i := 2) (by decide +kernel)))) (hw (Cond.methodLink RL 134 yX15_keeps) (tb_14 (List.mem_of_getElem? (i := 83) (by decide +kernel)))) (by decide +kernel) ⟨Nat.le_of_ble_eq_true rfl, Nat.le_of_ble_eq_true rfl⟩, (hw (Cond.instanceMethod yX15_keeps) (tb_14 (List.mem_of_getElem? (i := 84) (by decide +kernel)))), (hw (Cond.selects RX15 yX15_keeps yX15_keeps) (tb_14 (List.mem_of_getElem? (i := 85) (by decide +kernel))))⟩ ⟨pR_blind, va_recv hKc hPc (ci := 14) (q0 := 0) rfl rfl, pR_of hPc hKc⟩ rfl rfl hl.1 rfl (lv_room (Nat.le_of_ble_eq_true rfl)) dL_law_1063 ⟨Nat.le_of_ble_eq_true rfl, Nat.le_of_ble_eq_true rfl⟩).run (fun r_17 e_18 => ?_)
  subst e_18
  refine lv_icmp_eq (tgt := 1215) hx hb dL_law_1066 (by decide) (fun c_19 => ?_) (fun c_19 => absurd c_19 (by decide))
  exact law_tail C0 hS (Nat.le_of_ble_eq_true rfl) (Nat.le_of_ble_eq_true rfl) hl
set_option maxHeartbeats 8000000 in
set_option maxRecDepth 100000 in
theorem law_27 {p : Program} {l : Launch} {e : Env} {s : State} {m : MethodId} {below : List Frame} {meth : Method} {c : Code} {b : Nat} {xs : Nat → Int32} (C0 : lw_At p s m meth c b 6 xs) {dC : Nat → ClassId} {dI : Nat → Nat → Nat} {xq a1 a2 mq : Nat} {cb cm cb2 : ClassId} {g b0 b1 b2 b6 : Nat → Nat} {H : Heap} {locs : List Loc} {ls : Array Slot} (hK : va_K (dC, dI) vwCl [(cb, .byte), (cm, .object RX6), (cb2, .byte)] s) (hP : va_P (dC, dI) vwCl (lwW xq a1 a2 mq cb cm cb2 g b0 b1 b2 b6) H) (hD : va_D (fun q : Nat => s.heap.size ≤ q) (lwW xq a1 a2 mq cb cm cb2 g b0 b1 b2 b6)) (hS : va_S (fun q : Nat => s.heap.size ≤ q) s.heap H locs) (hl : lv_has ls 4 [(3, .int 0), (2, .ref mq), (1, .ref xq), (0, .ref b)]) : W p l e room_1 s m #[Value.ref b] below meth c H locs 117 3761775 (lw_Z below #[Value.ref b] s) (F0 m 1071 ls []) := by
  obtain ⟨hx, hb, hr, hml, hown, hw, hX, hbl, hlocks, hgv⟩ := id C0
  have hA : ∀ q : Nat, s.heap.size ≤ q → (fun q : Nat => s.heap.size ≤ q) q := fun _ h => h
  have hbA : ¬ (fun q : Nat => s.heap.size ≤ q) b := Nat.not_le.mpr hbl
  refine lv_aload_n hx hb dL_law_1071 rfl (lv_at hl 2 rfl) ?_
  refine lv_aload_n hx hb dL_law_1072 rfl (lv_at hl 3 rfl) ?_
  refine lv_iload_n hx hb dL_law_1073 rfl (lv_at hl 0 rfl) ?_
  refine lv_iconst (v := 1) hx hb dL_law_1074 (by decide) ?_
  refine lv_iadd hx hb dL_law_1075 ?_
  refine lv_topi (fun x_1 ex_1 => ?_)
  have ex_1 : x_1 = 1 := ex_1.trans (by decide)
  subst ex_1
  refine va_sld hx hb hX hbl hbA hS (show vp_in 1 6 from by unfold vp_in; decide) dL_law_1076 ?_
  refine lv_i2l hx hb dL_law_1077 rfl ?_
  refine lv_topl (fun y_2 ey_2 => ?_)
  refine lv_bipush (v := 32) hx hb dL_law_1078 (by decide) ?_
  refine lv_lshl hx hb dL_law_1080 rfl ?_
  refine lv_topl (fun y_3 ey_3 => ?_)
  refine lv_aload_n hx hb dL_law_1081 rfl (lv_at hl 3 rfl) ?_
  refine lv_iload_n hx hb dL_law_1082 rfl (lv_at hl 0 rfl) ?_
  refine lv_iconst (v := 2) hx hb dL_law_1083 (by decide) ?_
  refine lv_iadd hx hb dL_law_1084 ?_
  refine lv_topi (fun x_4 ex_4 => ?_)
  have ex_4 : x_4 = 2 := ex_4.trans (by decide)
  subst ex_4
  refine va_sld hx hb hX hbl hbA hS (show vp_in 2 6 from by unfold vp_in; decide) dL_law_1085 ?_
  refine lv_i2l hx hb dL_law_1086 rfl ?_
  refine lv_topl (fun y_5 ey_5 => ?_)
  refine lv_ldc2 (own := RL) (v := 4294967295) hx hb hown (hw (Cond.constantLong RL 46 (4294967295)) (tb_14 (List.mem_of_getElem? (i := 101) (by decide +kernel)))) dL_law_1087 ?_
  refine lv_land hx hb dL_law_1090 ?_
  refine lv_topl (fun y_6 ey_6 => ?_)
  refine lv_lor hx hb dL_law_1091 ?_
  refine lv_topl (fun y_7 ey_7 => ?_)
  have hPc := hP.sub (ws' := (xW xq a1 a2 cm)) [0, 2] rfl
  have hKc := hK.sub (tys' := [(cm, .object "CodeLayout$Machine")]) [1] rfl
  refine vp_callSl (va_runV (As := [.long y_7]) (rest := []) ⟨hx, hb, hml, hown, hw⟩ (k_X11_newest l dC dI xq a1 a2 cm y_7) ⟨callB_of 1 hw (gdl (tb_8 (List.mem_of_getElem? (i := 236) (by decide +kernel))) rfl) rfl rfl rfl (hw (Cond.initialized RX11) (tb_1 (List.mem_of_getElem? (i := 1) (by decide +kernel)))) (hw (Cond.methodLink RL 135 yX11_newest) (tb_8 (List.mem_of_getElem? (i := 233) (by decide +kernel)))) (by decide +kernel) ⟨Nat.le_of_ble_eq_true rfl, Nat.le_of_ble_eq_true rfl⟩, (hw (Cond.instanceMethod yX11_newest) (tb_8 (List.mem_of_getElem? (i := 234) (by decide +kernel)))), (hw (Cond.selects RX11 yX11_newest yX11_newest) (tb_8 (List.mem_of_getElem? (i := 235) (by decide +kernel))))⟩ ⟨pR_blind, va_recv hKc hPc (ci := 10) (q0 := 0) rfl rfl, pR_of hPc hKc⟩ rfl rfl hl.1 rfl (lv_room (Nat.le_of_ble_eq_true rfl)) dL_law_1092 ⟨Nat.le_of_ble_eq_true rfl, Nat.le_of_ble_eq_true rfl⟩).run (fun r_8 e_9 => ?_)
  subst e_9
  refine lv_aload_n hx hb dL_law_1095 rfl (lv_at hl 1 rfl) ?_
  refine lv_aload_n hx hb dL_law_1096 rfl (lv_at hl 3 rfl) ?_
  refine lv_iload_n hx hb dL_law_1097 rfl (lv_at hl 0 rfl) ?_
  refine lv_iconst (v := 1) hx hb dL_law_1098 (by decide) ?_
  refine lv_iadd hx hb dL_law_1099 ?_
  refine lv_topi (fun x_10 ex_10 => ?_)
  have ex_10 : x_10 = 1 := ex_10.trans (by decide)
  subst ex_10
  refine va_sld hx hb hX hbl hbA hS (show vp_in 1 6 from by unfold vp_in; decide) dL_law_1100 ?_
  refine lv_i2l hx hb dL_law_1101 rfl ?_
  refine lv_topl (fun y_11 ey_11 => ?_)
  refine lv_bipush (v := 32) hx hb dL_law_1102 (by decide) ?_
  refine lv_lshl hx hb dL_law_1104 rfl ?_
  refine lv_topl (fun y_12 ey_12 => ?_)
  refine lv_aload_n hx hb dL_law_1105 rfl (lv_at hl 3 rfl) ?_
  refine lv_iload_n hx hb dL_law_1106 rfl (lv_at hl 0 rfl) ?_
  refine lv_iconst (v := 2) hx hb dL_law_1107 (by decide) ?_
  refine lv_iadd hx hb dL_law_1108 ?_
  refine lv_topi (fun x_13 ex_13 => ?_)
  have ex_13 : x_13 = 2 := ex_13.trans (by decide)
  subst ex_13
  refine va_sld hx hb hX hbl hbA hS (show vp_in 2 6 from by unfold vp_in; decide) dL_law_1109 ?_
  refine lv_i2l hx hb dL_law_1110 rfl ?_
  refine lv_topl (fun y_14 ey_14 => ?_)
  refine lv_ldc2 (own := RL) (v := 4294967295) hx hb hown (hw (Cond.constantLong RL 46 (4294967295)) (tb_14 (List.mem_of_getElem? (i := 101) (by decide +kernel)))) dL_law_1111 ?_
  refine lv_land hx hb dL_law_1114 ?_
  refine lv_topl (fun y_15 ey_15 => ?_)
  refine lv_lor hx hb dL_law_1115 ?_
  refine lv_topl (fun y_16 ey_16 => ?_)
  have hPc := hP.sub (ws' := (mW mq g b0 b1 b2)) [3, 4, 5, 6] rfl
  have hKc := hK.sub (tys' := []) [] rfl
  refine vp_callSl (va_runV (As := [.long y_16]) (rest := [.long 0]) ⟨hx, hb, hml, hown, hw⟩ (k_X15_newest l dC dI mq g b0 b1 b2 y_16) ⟨callB_of 1 hw (gdl (tb_14 (List.mem_of_getElem? (i := 91) (by decide +kernel))) rfl) rfl rfl rfl (hw (Cond.initialized RX15) (tb_1 (List.mem_of_getElem? (i := 2) (by decide +kernel)))) (hw (Cond.methodLink RL 138 yX15_newest) (tb_14 (List.mem_of_getElem? (i := 88) (by decide +kernel)))) (by decide +kernel) ⟨Nat.le_of_ble_eq_true rfl, Nat.le_of_ble_eq_true rfl⟩, (hw (Cond.instanceMethod yX15_newest) (tb_14 (List.mem_of_getElem? (i := 89) (by decide +kernel)))), (hw (Cond.selects RX15 yX15_newest yX15_newest) (tb_14 (List.mem_of_getElem? (i := 90) (by decide +kernel))))⟩ ⟨pR_blind, va_recv hKc hPc (ci := 14) (q0 := 0) rfl rfl, pR_of hPc hKc⟩ rfl rfl hl.1 rfl (lv_room (Nat.le_of_ble_eq_true rfl)) dL_law_1116 ⟨Nat.le_of_ble_eq_true rfl, Nat.le_of_ble_eq_true rfl⟩).run (fun r_17 e_18 => ?_)
  subst e_18
  refine W.lcmp hx hb dL_law_1119 ?_
  refine lv_topi (fun x_19 ex_19 => ?_)
  have ex_19 : x_19 = 0 := ex_19.trans (by decide)
  subst ex_19
  refine lv_if_eq (tgt := 1215) hx hb dL_law_1120 (by decide) (fun c_20 => ?_) (fun c_20 => absurd c_20 (by decide))
  exact law_tail C0 hS (Nat.le_of_ble_eq_true rfl) (Nat.le_of_ble_eq_true rfl) hl
set_option maxHeartbeats 8000000 in
set_option maxRecDepth 100000 in
theorem law_28 {p : Program} {l : Launch} {e : Env} {s : State} {m : MethodId} {below : List Frame} {meth : Method} {c : Code} {b : Nat} {xs : Nat → Int32} (C0 : lw_At p s m meth c b 6 xs) {dC : Nat → ClassId} {dI : Nat → Nat → Nat} {xq a1 a2 mq : Nat} {cb cm cb2 : ClassId} {g b0 b1 b2 b6 : Nat → Nat} {H : Heap} {locs : List Loc} {ls : Array Slot} (hK : va_K (dC, dI) vwCl [(cb, .byte), (cm, .object RX6), (cb2, .byte)] s) (hP : va_P (dC, dI) vwCl (lwW xq a1 a2 mq cb cm cb2 g b0 b1 b2 b6) H) (hD : va_D (fun q : Nat => s.heap.size ≤ q) (lwW xq a1 a2 mq cb cm cb2 g b0 b1 b2 b6)) (hS : va_S (fun q : Nat => s.heap.size ≤ q) s.heap H locs) (hl : lv_has ls 4 [(3, .int 0), (2, .ref mq), (1, .ref xq), (0, .ref b)]) : W p l e room_1 s m #[Value.ref b] below meth c H locs 117 3761775 (lw_Z below #[Value.ref b] s) (F0 m 1125 ls []) := by
  obtain ⟨hx, hb, hr, hml, hown, hw, hX, hbl, hlocks, hgv⟩ := id C0
  have hA : ∀ q : Nat, s.heap.size ≤ q → (fun q : Nat => s.heap.size ≤ q) q := fun _ h => h
  have hbA : ¬ (fun q : Nat => s.heap.size ≤ q) b := Nat.not_le.mpr hbl
  refine lv_aload_n hx hb dL_law_1125 rfl (lv_at hl 2 rfl) ?_
  refine lv_aload_n hx hb dL_law_1126 rfl (lv_at hl 3 rfl) ?_
  refine lv_iload_n hx hb dL_law_1127 rfl (lv_at hl 0 rfl) ?_
  refine lv_iconst (v := 1) hx hb dL_law_1128 (by decide) ?_
  refine lv_iadd hx hb dL_law_1129 ?_
  refine lv_topi (fun x_1 ex_1 => ?_)
  have ex_1 : x_1 = 1 := ex_1.trans (by decide)
  subst ex_1
  refine va_sld hx hb hX hbl hbA hS (show vp_in 1 6 from by unfold vp_in; decide) dL_law_1130 ?_
  refine lv_aload_n hx hb dL_law_1131 rfl (lv_at hl 3 rfl) ?_
  refine lv_iload_n hx hb dL_law_1132 rfl (lv_at hl 0 rfl) ?_
  refine lv_iconst (v := 2) hx hb dL_law_1133 (by decide) ?_
  refine lv_iadd hx hb dL_law_1134 ?_
  refine lv_topi (fun x_2 ex_2 => ?_)
  have ex_2 : x_2 = 2 := ex_2.trans (by decide)
  subst ex_2
  refine va_sld hx hb hX hbl hbA hS (show vp_in 2 6 from by unfold vp_in; decide) dL_law_1135 ?_
  refine lv_aload_n hx hb dL_law_1136 rfl (lv_at hl 3 rfl) ?_
  refine lv_iload_n hx hb dL_law_1137 rfl (lv_at hl 0 rfl) ?_
  refine lv_iconst (v := 3) hx hb dL_law_1138 (by decide) ?_
  refine lv_iadd hx hb dL_law_1139 ?_
  refine lv_topi (fun x_3 ex_3 => ?_)
  have ex_3 : x_3 = 3 := ex_3.trans (by decide)
  subst ex_3
  refine va_sld hx hb hX hbl hbA hS (show vp_in 3 6 from by unfold vp_in; decide) dL_law_1140 ?_
  have hPc := hP.sub (ws' := (xW xq a1 a2 cm)) [0, 2] rfl
  have hKc := hK.sub (tys' := [(cm, .object "CodeLayout$Machine")]) [1] rfl
  refine vp_callSl (va_runV (As := [.int (xs (Int32.toNatClampNeg 1)), .int (xs (Int32.toNatClampNeg 2)), .int (xs (Int32.toNatClampNeg 3))]) (rest := []) ⟨hx, hb, hml, hown, hw⟩ (k_X11_trace l dC dI xq a1 a2 cm (xs (Int32.toNatClampNeg 1)) (xs (Int32.toNatClampNeg 2)) (xs (Int32.toNatClampNeg 3))) ⟨callB_of 3 hw (gdl (tb_9 (List.mem_of_getElem? (i := 3) (by decide +kernel))) rfl) rfl rfl rfl (hw (Cond.initialized RX11) (tb_1 (List.mem_of_getElem? (i := 1) (by decide +kernel)))) (hw (Cond.methodLink RL 139 yX11_trace) (tb_9 (List.mem_of_getElem? (i := 0) (by decide +kernel)))) (by decide +kernel) ⟨Nat.le_of_ble_eq_true rfl, Nat.le_of_ble_eq_true rfl⟩, (hw (Cond.instanceMethod yX11_trace) (tb_9 (List.mem_of_getElem? (i := 1) (by decide +kernel)))), (hw (Cond.selects RX11 yX11_trace yX11_trace) (tb_9 (List.mem_of_getElem? (i := 2) (by decide +kernel))))⟩ ⟨pR_blind, va_recv hKc hPc (ci := 10) (q0 := 0) rfl rfl, pR_of hPc hKc⟩ rfl rfl hl.1 rfl (lv_room (Nat.le_of_ble_eq_true rfl)) dL_law_1141 ⟨Nat.le_of_ble_eq_true rfl, Nat.le_of_ble_eq_true rfl⟩).run (fun r_4 e_5 => ?_)
  subst e_5
  refine lv_aload_n hx hb dL_law_1144 rfl (lv_at hl 1 rfl) ?_
  refine lv_aload_n hx hb dL_law_1145 rfl (lv_at hl 3 rfl) ?_
  refine lv_iload_n hx hb dL_law_1146 rfl (lv_at hl 0 rfl) ?_
  refine lv_iconst (v := 1) hx hb dL_law_1147 (by decide) ?_
  refine lv_iadd hx hb dL_law_1148 ?_
  refine lv_topi (fun x_6 ex_6 => ?_)
  have ex_6 : x_6 = 1 := ex_6.trans (by decide)
  subst ex_6
  refine va_sld hx hb hX hbl hbA hS (show vp_in 1 6 from by unfold vp_in; decide) dL_law_1149 ?_
  refine lv_aload_n hx hb dL_law_1150 rfl (lv_at hl 3 rfl) ?_
  refine lv_iload_n hx hb dL_law_1151 rfl (lv_at hl 0 rfl) ?_
  refine lv_iconst (v := 2) hx hb dL_law_1152 (by decide) ?_
  refine lv_iadd hx hb dL_law_1153 ?_
  refine lv_topi (fun x_7 ex_7 => ?_)
  have ex_7 : x_7 = 2 := ex_7.trans (by decide)
  subst ex_7
  refine va_sld hx hb hX hbl hbA hS (show vp_in 2 6 from by unfold vp_in; decide) dL_law_1154 ?_
  refine lv_aload_n hx hb dL_law_1155 rfl (lv_at hl 3 rfl) ?_
  refine lv_iload_n hx hb dL_law_1156 rfl (lv_at hl 0 rfl) ?_
  refine lv_iconst (v := 3) hx hb dL_law_1157 (by decide) ?_
  refine lv_iadd hx hb dL_law_1158 ?_
  refine lv_topi (fun x_8 ex_8 => ?_)
  have ex_8 : x_8 = 3 := ex_8.trans (by decide)
  subst ex_8
  refine va_sld hx hb hX hbl hbA hS (show vp_in 3 6 from by unfold vp_in; decide) dL_law_1159 ?_
  have hPc := hP.sub (ws' := (mW mq g b0 b1 b2)) [3, 4, 5, 6] rfl
  have hKc := hK.sub (tys' := []) [] rfl
  refine vp_callSl (va_runV (As := [.int (xs (Int32.toNatClampNeg 1)), .int (xs (Int32.toNatClampNeg 2)), .int (xs (Int32.toNatClampNeg 3))]) (rest := [.long 0]) ⟨hx, hb, hml, hown, hw⟩ (k_X15_trace l dC dI mq g b0 b1 b2 (xs (Int32.toNatClampNeg 1)) (xs (Int32.toNatClampNeg 2)) (xs (Int32.toNatClampNeg 3))) ⟨callB_of 3 hw (gdl (tb_14 (List.mem_of_getElem? (i := 96) (by decide +kernel))) rfl) rfl rfl rfl (hw (Cond.initialized RX15) (tb_1 (List.mem_of_getElem? (i := 2) (by decide +kernel)))) (hw (Cond.methodLink RL 143 yX15_trace) (tb_14 (List.mem_of_getElem? (i := 93) (by decide +kernel)))) (by decide +kernel) ⟨Nat.le_of_ble_eq_true rfl, Nat.le_of_ble_eq_true rfl⟩, (hw (Cond.instanceMethod yX15_trace) (tb_14 (List.mem_of_getElem? (i := 94) (by decide +kernel)))), (hw (Cond.selects RX15 yX15_trace yX15_trace) (tb_14 (List.mem_of_getElem? (i := 95) (by decide +kernel))))⟩ ⟨pR_blind, va_recv hKc hPc (ci := 14) (q0 := 0) rfl rfl, pR_of hPc hKc⟩ rfl rfl hl.1 rfl (lv_room (Nat.le_of_ble_eq_true rfl)) dL_law_1160 ⟨Nat.le_of_ble_eq_true rfl, Nat.le_of_ble_eq_true rfl⟩).run (fun r_9 e_10 => ?_)
  subst e_10
  refine W.lcmp hx hb dL_law_1163 ?_
  refine lv_topi (fun x_11 ex_11 => ?_)
  have ex_11 : x_11 = 0 := ex_11.trans (by decide)
  subst ex_11
  refine lv_if_eq (tgt := 1215) hx hb dL_law_1164 (by decide) (fun c_12 => ?_) (fun c_12 => absurd c_12 (by decide))
  exact law_tail C0 hS (Nat.le_of_ble_eq_true rfl) (Nat.le_of_ble_eq_true rfl) hl
set_option maxHeartbeats 8000000 in
set_option maxRecDepth 100000 in
theorem law_29 {p : Program} {l : Launch} {e : Env} {s : State} {m : MethodId} {below : List Frame} {meth : Method} {c : Code} {b : Nat} {xs : Nat → Int32} (C0 : lw_At p s m meth c b 6 xs) {dC : Nat → ClassId} {dI : Nat → Nat → Nat} {xq a1 a2 mq : Nat} {cb cm cb2 : ClassId} {g b0 b1 b2 b6 : Nat → Nat} {H : Heap} {locs : List Loc} {ls : Array Slot} (hK : va_K (dC, dI) vwCl [(cb, .byte), (cm, .object RX6), (cb2, .byte)] s) (hP : va_P (dC, dI) vwCl (lwW xq a1 a2 mq cb cm cb2 g b0 b1 b2 b6) H) (hD : va_D (fun q : Nat => s.heap.size ≤ q) (lwW xq a1 a2 mq cb cm cb2 g b0 b1 b2 b6)) (hS : va_S (fun q : Nat => s.heap.size ≤ q) s.heap H locs) (hl : lv_has ls 4 [(3, .int 0), (2, .ref mq), (1, .ref xq), (0, .ref b)]) : W p l e room_1 s m #[Value.ref b] below meth c H locs 117 3761775 (lw_Z below #[Value.ref b] s) (F0 m 1169 ls []) := by
  obtain ⟨hx, hb, hr, hml, hown, hw, hX, hbl, hlocks, hgv⟩ := id C0
  have hA : ∀ q : Nat, s.heap.size ≤ q → (fun q : Nat => s.heap.size ≤ q) q := fun _ h => h
  have hbA : ¬ (fun q : Nat => s.heap.size ≤ q) b := Nat.not_le.mpr hbl
  refine lv_aload_n hx hb dL_law_1169 rfl (lv_at hl 2 rfl) ?_
  refine lv_aload_n hx hb dL_law_1170 rfl (lv_at hl 3 rfl) ?_
  refine lv_iload_n hx hb dL_law_1171 rfl (lv_at hl 0 rfl) ?_
  refine lv_iconst (v := 1) hx hb dL_law_1172 (by decide) ?_
  refine lv_iadd hx hb dL_law_1173 ?_
  refine lv_topi (fun x_1 ex_1 => ?_)
  have ex_1 : x_1 = 1 := ex_1.trans (by decide)
  subst ex_1
  refine va_sld hx hb hX hbl hbA hS (show vp_in 1 6 from by unfold vp_in; decide) dL_law_1174 ?_
  refine lv_aload_n hx hb dL_law_1175 rfl (lv_at hl 3 rfl) ?_
  refine lv_iload_n hx hb dL_law_1176 rfl (lv_at hl 0 rfl) ?_
  refine lv_iconst (v := 2) hx hb dL_law_1177 (by decide) ?_
  refine lv_iadd hx hb dL_law_1178 ?_
  refine lv_topi (fun x_2 ex_2 => ?_)
  have ex_2 : x_2 = 2 := ex_2.trans (by decide)
  subst ex_2
  refine va_sld hx hb hX hbl hbA hS (show vp_in 2 6 from by unfold vp_in; decide) dL_law_1179 ?_
  have hPc := hP.sub (ws' := (xW xq a1 a2 cm)) [0, 2] rfl
  have hKc := hK.sub (tys' := [(cm, .object "CodeLayout$Machine")]) [1] rfl
  refine vp_callSi (va_runV (As := [.int (xs (Int32.toNatClampNeg 1)), .int (xs (Int32.toNatClampNeg 2))]) (rest := []) ⟨hx, hb, hml, hown, hw⟩ (k_X11_text l dC dI xq a1 a2 cm (xs (Int32.toNatClampNeg 1)) (xs (Int32.toNatClampNeg 2))) ⟨callB_of 2 hw (gdl (tb_9 (List.mem_of_getElem? (i := 11) (by decide +kernel))) rfl) rfl rfl rfl (hw (Cond.initialized RX11) (tb_1 (List.mem_of_getElem? (i := 1) (by decide +kernel)))) (hw (Cond.methodLink RL 144 yX11_text) (tb_9 (List.mem_of_getElem? (i := 8) (by decide +kernel)))) (by decide +kernel) ⟨Nat.le_of_ble_eq_true rfl, Nat.le_of_ble_eq_true rfl⟩, (hw (Cond.instanceMethod yX11_text) (tb_9 (List.mem_of_getElem? (i := 9) (by decide +kernel)))), (hw (Cond.selects RX11 yX11_text yX11_text) (tb_9 (List.mem_of_getElem? (i := 10) (by decide +kernel))))⟩ ⟨pR_blind, va_recv hKc hPc (ci := 10) (q0 := 0) rfl rfl, pR_of hPc hKc⟩ rfl rfl hl.1 rfl (lv_room (Nat.le_of_ble_eq_true rfl)) dL_law_1180 ⟨Nat.le_of_ble_eq_true rfl, Nat.le_of_ble_eq_true rfl⟩).run (fun r_3 e_4 => ?_)
  subst e_4
  refine lv_aload_n hx hb dL_law_1183 rfl (lv_at hl 1 rfl) ?_
  refine lv_aload_n hx hb dL_law_1184 rfl (lv_at hl 3 rfl) ?_
  refine lv_iload_n hx hb dL_law_1185 rfl (lv_at hl 0 rfl) ?_
  refine lv_iconst (v := 1) hx hb dL_law_1186 (by decide) ?_
  refine lv_iadd hx hb dL_law_1187 ?_
  refine lv_topi (fun x_5 ex_5 => ?_)
  have ex_5 : x_5 = 1 := ex_5.trans (by decide)
  subst ex_5
  refine va_sld hx hb hX hbl hbA hS (show vp_in 1 6 from by unfold vp_in; decide) dL_law_1188 ?_
  refine lv_aload_n hx hb dL_law_1189 rfl (lv_at hl 3 rfl) ?_
  refine lv_iload_n hx hb dL_law_1190 rfl (lv_at hl 0 rfl) ?_
  refine lv_iconst (v := 2) hx hb dL_law_1191 (by decide) ?_
  refine lv_iadd hx hb dL_law_1192 ?_
  refine lv_topi (fun x_6 ex_6 => ?_)
  have ex_6 : x_6 = 2 := ex_6.trans (by decide)
  subst ex_6
  refine va_sld hx hb hX hbl hbA hS (show vp_in 2 6 from by unfold vp_in; decide) dL_law_1193 ?_
  have hPc := hP.sub (ws' := (mW mq g b0 b1 b2)) [3, 4, 5, 6] rfl
  have hKc := hK.sub (tys' := []) [] rfl
  refine vp_callSi (va_runV (As := [.int (xs (Int32.toNatClampNeg 1)), .int (xs (Int32.toNatClampNeg 2))]) (rest := [.int ((-1))]) ⟨hx, hb, hml, hown, hw⟩ (k_X15_text l dC dI mq g b0 b1 b2 (xs (Int32.toNatClampNeg 1)) (xs (Int32.toNatClampNeg 2))) ⟨callB_of 2 hw (gdl (tb_14 (List.mem_of_getElem? (i := 100) (by decide +kernel))) rfl) rfl rfl rfl (hw (Cond.initialized RX15) (tb_1 (List.mem_of_getElem? (i := 2) (by decide +kernel)))) (hw (Cond.methodLink RL 147 yX15_text) (tb_14 (List.mem_of_getElem? (i := 97) (by decide +kernel)))) (by decide +kernel) ⟨Nat.le_of_ble_eq_true rfl, Nat.le_of_ble_eq_true rfl⟩, (hw (Cond.instanceMethod yX15_text) (tb_14 (List.mem_of_getElem? (i := 98) (by decide +kernel)))), (hw (Cond.selects RX15 yX15_text yX15_text) (tb_14 (List.mem_of_getElem? (i := 99) (by decide +kernel))))⟩ ⟨pR_blind, va_recv hKc hPc (ci := 14) (q0 := 0) rfl rfl, pR_of hPc hKc⟩ rfl rfl hl.1 rfl (lv_room (Nat.le_of_ble_eq_true rfl)) dL_law_1194 ⟨Nat.le_of_ble_eq_true rfl, Nat.le_of_ble_eq_true rfl⟩).run (fun r_7 e_8 => ?_)
  subst e_8
  refine lv_icmp_eq (tgt := 1215) hx hb dL_law_1197 (by decide) (fun c_9 => ?_) (fun c_9 => absurd c_9 (by decide))
  exact law_tail C0 hS (Nat.le_of_ble_eq_true rfl) (Nat.le_of_ble_eq_true rfl) hl
set_option maxHeartbeats 8000000 in
set_option maxRecDepth 100000 in
theorem law_30 {p : Program} {l : Launch} {e : Env} {s : State} {m : MethodId} {below : List Frame} {meth : Method} {c : Code} {b : Nat} {xs : Nat → Int32} (C0 : lw_At p s m meth c b 6 xs) {dC : Nat → ClassId} {dI : Nat → Nat → Nat} {xq a1 a2 mq : Nat} {cb cm cb2 : ClassId} {g b0 b1 b2 b6 : Nat → Nat} {H : Heap} {locs : List Loc} {ls : Array Slot} (hK : va_K (dC, dI) vwCl [(cb, .byte), (cm, .object RX6), (cb2, .byte)] s) (hP : va_P (dC, dI) vwCl (lwW xq a1 a2 mq cb cm cb2 g b0 b1 b2 b6) H) (hD : va_D (fun q : Nat => s.heap.size ≤ q) (lwW xq a1 a2 mq cb cm cb2 g b0 b1 b2 b6)) (hS : va_S (fun q : Nat => s.heap.size ≤ q) s.heap H locs) (hl : lv_has ls 4 [(3, .int 0), (2, .ref mq), (1, .ref xq), (0, .ref b)]) : W p l e room_1 s m #[Value.ref b] below meth c H locs 117 3761775 (lw_Z below #[Value.ref b] s) (F0 m 1202 ls []) := by
  obtain ⟨hx, hb, hr, hml, hown, hw, hX, hbl, hlocks, hgv⟩ := id C0
  have hA : ∀ q : Nat, s.heap.size ≤ q → (fun q : Nat => s.heap.size ≤ q) q := fun _ h => h
  have hbA : ¬ (fun q : Nat => s.heap.size ≤ q) b := Nat.not_le.mpr hbl
  refine lv_aload_n hx hb dL_law_1202 rfl (lv_at hl 2 rfl) ?_
  have hPc := hP.sub (ws' := (xW xq a1 a2 cm)) [0, 2] rfl
  have hKc := hK.sub (tys' := [(cm, .object "CodeLayout$Machine")]) [1] rfl
  refine vp_callSi (va_runV (As := []) (rest := []) ⟨hx, hb, hml, hown, hw⟩ (k_X11_strays l dC dI xq a1 a2 cm ) ⟨callB_of 0 hw (gdl (tb_9 (List.mem_of_getElem? (i := 19) (by decide +kernel))) rfl) rfl rfl rfl (hw (Cond.initialized RX11) (tb_1 (List.mem_of_getElem? (i := 1) (by decide +kernel)))) (hw (Cond.methodLink RL 148 yX11_strays) (tb_9 (List.mem_of_getElem? (i := 16) (by decide +kernel)))) (by decide +kernel) ⟨Nat.le_of_ble_eq_true rfl, Nat.le_of_ble_eq_true rfl⟩, (hw (Cond.instanceMethod yX11_strays) (tb_9 (List.mem_of_getElem? (i := 17) (by decide +kernel)))), (hw (Cond.selects RX11 yX11_strays yX11_strays) (tb_9 (List.mem_of_getElem? (i := 18) (by decide +kernel))))⟩ ⟨pR_blind, va_recv hKc hPc (ci := 10) (q0 := 0) rfl rfl, pR_of hPc hKc⟩ rfl rfl hl.1 rfl (lv_room (Nat.le_of_ble_eq_true rfl)) dL_law_1203 ⟨Nat.le_of_ble_eq_true rfl, Nat.le_of_ble_eq_true rfl⟩).run (fun r_1 e_2 => ?_)
  subst e_2
  refine lv_aload_n hx hb dL_law_1206 rfl (lv_at hl 1 rfl) ?_
  have hPc := hP.sub (ws' := (mW mq g b0 b1 b2)) [3, 4, 5, 6] rfl
  have hKc := hK.sub (tys' := []) [] rfl
  refine vp_callSi (va_runV (As := []) (rest := [.int 0]) ⟨hx, hb, hml, hown, hw⟩ (k_X15_strays l dC dI mq g b0 b1 b2 ) ⟨callB_of 0 hw (gdl (tb_13 (List.mem_of_getElem? (i := 58) (by decide +kernel))) rfl) rfl rfl rfl (hw (Cond.initialized RX15) (tb_1 (List.mem_of_getElem? (i := 2) (by decide +kernel)))) (hw (Cond.methodLink RL 151 yX15_strays) (tb_13 (List.mem_of_getElem? (i := 55) (by decide +kernel)))) (by decide +kernel) ⟨Nat.le_of_ble_eq_true rfl, Nat.le_of_ble_eq_true rfl⟩, (hw (Cond.instanceMethod yX15_strays) (tb_13 (List.mem_of_getElem? (i := 56) (by decide +kernel)))), (hw (Cond.selects RX15 yX15_strays yX15_strays) (tb_13 (List.mem_of_getElem? (i := 57) (by decide +kernel))))⟩ ⟨pR_blind, va_recv hKc hPc (ci := 14) (q0 := 0) rfl rfl, pR_of hPc hKc⟩ rfl rfl hl.1 rfl (lv_room (Nat.le_of_ble_eq_true rfl)) dL_law_1207 ⟨Nat.le_of_ble_eq_true rfl, Nat.le_of_ble_eq_true rfl⟩).run (fun r_3 e_4 => ?_)
  subst e_4
  refine lv_icmp_eq (tgt := 1215) hx hb dL_law_1210 (by decide) (fun c_5 => ?_) (fun c_5 => absurd c_5 (by decide))
  exact law_tail C0 hS (Nat.le_of_ble_eq_true rfl) (Nat.le_of_ble_eq_true rfl) hl
