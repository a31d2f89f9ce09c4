set_option maxHeartbeats 8000000 in
set_option maxRecDepth 100000 in
theorem k_X11_read (l : Launch) (dC : Nat → ClassId) (dI : Nat → Nat → Nat) (sz : Nat) (h0 a1 a2 : Nat) (cb : ClassId) (f : Nat → Int32) : Met l yX11_read (Cond.code yX11_read cX11_read 5 (some .int) :: bw) ({ frames := 3, cells := 13, slots := 123, locals := 102 }) (pM [.ref h0] (dC, dI) sz [(h0, .inr (10, [.ref a1, .int 0, .int 0, .int ((-1)), .null, .null, .null, .null, .null, .null, .int 0, .ref a2])), (a1, .inl (cb, 1024, .inl f))] [(cb, .byte)]) (va_Qi (fun (r : Int32) (_ : Unit) => r = (-1)) (fun _ t => True) (va_A [(h0, .inr (10, [.ref a1, .int 0, .int 0, .int ((-1)), .null, .null, .null, .null, .null, .null, .int 0, .ref a2])), (a1, .inl (cb, 1024, .inl f))] sz)) 13 123 (va_A [(h0, .inr (10, [.ref a1, .int 0, .int 0, .int ((-1)), .null, .null, .null, .null, .null, .null, .int 0, .ref a2])), (a1, .inl (cb, 1024, .inl f))] sz) := by
  refine Met.ofW (cc := cX11_read) (maxL := 5) (ret := (some .int)) (by decide) rfl ?_
  intro p e s m args below meth c s₁ B hml hv
  obtain ⟨rfl, hsz, hP, hK, hD0⟩ := hv
  have hx := B.exec
  have hb := B.bytes
  have hr := B.returns
  have hts := atoms_spec (ws := Cond.code yX11_read cX11_read 5 (some .int) :: bw) B.pre
  have hw : ∀ w ∈ bw, w.before _ s = true := fun w h => hts w (List.mem_cons_of_mem _ h)
  have hown : s.vm.findClass RX11 = some m.cls := findClass_of_methodNamed B.named
  subst hsz
  have hD := hD0.self (sz := s.heap.size)
  generalize hAe : va_A [(h0, .inr (10, [.ref a1, .int 0, .int 0, .int ((-1)), .null, .null, .null, .null, .null, .null, .int 0, .ref a2])), (a1, .inl (cb, 1024, .inl f))] s.heap.size = A at hD ⊢
  have hA : ∀ q : Nat, s.heap.size ≤ q → A q := fun q h => by rw [← hAe]; exact Or.inr h
  have hS : va_S A s.heap s.heap [] := va_S.rf
  have hP : va_P (dC, dI) vwCl [(h0, .inr (10, [.ref a1, .int 0, .int 0, .int ((-1)), .null, .null, .null, .null, .null, .null, .int 0, .ref a2])), (a1, .inl (cb, 1024, .inl f))] s.heap := hP
  have hl := lv_entry ([.ref h0]) (n := 5) (Nat.le_of_ble_eq_true rfl)
  rw [lg_entry_eq]
  generalize (lg_sl ([.ref h0]) ++ List.replicate (5 - (lg_sl ([.ref h0])).length) Slot.unset).toArray = ls at hl ⊢
  have hl : lv_has ls 5 [(0, .ref h0)] := hl
  refine va_new (ci := 3) (fs := [.null, .int 0, .null, .null, .int 0, .int 0, .int 0, .int 0, .int 0, .int 0]) (C := RX4) (T := TX4) (N := 10) hx hb hw inlX4 tyX4 tyX4_ok hown (hw (Cond.classLink RX11 41 RX4) (wl_9 (List.mem_of_getElem? (i := 3) rfl))) (hw (Cond.instantiable RX4 10) (wl_9 (List.mem_of_getElem? (i := 4) rfl))) (hw (Cond.initialized RX4) (wl_9 (List.mem_of_getElem? (i := 5) rfl))) hK hP hD hS hA rfl (fun j hj => match j, hj with | 0, _ => rfl | 1, _ => rfl | 2, _ => rfl | 3, _ => rfl | 4, _ => rfl | 5, _ => rfl | 6, _ => rfl | 7, _ => rfl | 8, _ => rfl | 9, _ => rfl | j + 10, hj => absurd hj (by omega)) (Nat.le_of_ble_eq_true rfl) (Nat.le_of_ble_eq_true rfl) dX11_read_0 (fun q_1 H hP hD hS => ?_)
  have hP : va_P (dC, dI) vwCl [(h0, .inr (10, [.ref a1, .int 0, .int 0, .int ((-1)), .null, .null, .null, .null, .null, .null, .int 0, .ref a2])), (a1, .inl (cb, 1024, .inl f)), (q_1, .inr (3, [.null, .int 0, .null, .null, .int 0, .int 0, .int 0, .int 0, .int 0, .int 0]))] H := hP
  have hD : va_D A [(h0, .inr (10, [.ref a1, .int 0, .int 0, .int ((-1)), .null, .null, .null, .null, .null, .null, .int 0, .ref a2])), (a1, .inl (cb, 1024, .inl f)), (q_1, .inr (3, [.null, .int 0, .null, .null, .int 0, .int 0, .int 0, .int 0, .int 0, .int 0]))] := hD
  refine W.widen (k := 1) (n := 10) (Nat.le_of_ble_eq_true rfl) (Nat.le_of_ble_eq_true rfl) ?_
  refine lv_dup hx hb dX11_read_3 rfl ?_
  refine lv_aload_n hx hb dX11_read_4 rfl (lv_at hl 0 rfl) ?_
  refine va_get (D := (dC, dI)) (ci := 10) (v := .ref a1) (C := RX11) (T := TX11) (N := 12) hx hb hw inlX11 hown hK hP 0 rfl rfl 0 (by decide) (hw (Cond.fieldLink RX11 7 "CodeLayout" "tray" "[B") (wl_2 (List.mem_of_getElem? (i := 22) rfl))) (fun _ h9 => h9) rfl dX11_read_5 ?_
  refine lv_aload_n hx hb dX11_read_8 rfl (lv_at hl 0 rfl) ?_
  refine va_get (D := (dC, dI)) (ci := 10) (v := .int 0) (C := RX11) (T := TX11) (N := 12) hx hb hw inlX11 hown hK hP 0 rfl rfl 1 (by decide) (hw (Cond.fieldLink RX11 23 "CodeLayout" "inTray" "I") (wl_6 (List.mem_of_getElem? (i := 23) rfl))) (fun _ h9 => h9) rfl dX11_read_9 ?_
  have hPc := hP.sub (ws' := [(q_1, .inr (3, [.null, .int 0, .null, .null, .int 0, .int 0, .int 0, .int 0, .int 0, .int 0])), (a1, .inl (cb, 1024, .inl f))]) [2, 1] rfl
  have hDc := hD.sub (ws' := [(q_1, .inr (3, [.null, .int 0, .null, .null, .int 0, .int 0, .int 0, .int 0, .int 0, .int 0])), (a1, .inl (cb, 1024, .inl f))]) [2, 1] (by decide) rfl
  have hKc := hK.sub (tys' := [(cb, .byte)]) [0] rfl
  have hFc := va_free (wc := [(q_1, .inr (3, [.null, .int 0, .null, .null, .int 0, .int 0, .int 0, .int 0, .int 0, .int 0])), (a1, .inl (cb, 1024, .inl f))]) hD hS hA [2, 1] rfl
  refine va_callv (va_runI (As := [.ref a1, .int 0]) (rest := [.ref q_1]) ⟨hx, hb, hml, hown, hw⟩ (k_X4_init l dC dI H.size q_1 a1 cb f) ⟨callB_of 2 hw (gdw (wl_9 (List.mem_of_getElem? (i := 6) rfl))) rfl rfl rfl (hw (Cond.initialized RX4) (wl_9 (List.mem_of_getElem? (i := 5) rfl))) (hw (Cond.methodLink RX11 43 yX4_init) (wl_9 (List.mem_of_getElem? (i := 7) rfl))) (by decide +kernel) ⟨Nat.le_of_ble_eq_true rfl, Nat.le_of_ble_eq_true rfl⟩, rfl, (hw (Cond.instanceMethod yX4_init) (wl_9 (List.mem_of_getElem? (i := 8) rfl)))⟩ ⟨pM_blind, pM_of hPc hKc hDc⟩ rfl rfl hl.1 rfl (lv_room (Nat.le_of_ble_eq_true rfl)) dX11_read_12 ⟨Nat.le_of_ble_eq_true rfl, Nat.le_of_ble_eq_true rfl⟩) hS (fun q _ h => hFc q h) hFc (fun u t H1 locs ht hvm hp_3 hB hz1 hk1 hS => ?_)
  obtain ⟨x_4, x_5, hP1, hK1, hD1⟩ := hB
  rw [ht] at hP1
  have hK1 := va_K.moved hvm.symm hK1
  obtain ⟨hP, hD⟩ := va_join (wr := [(h0, .inr (10, [.ref a1, .int 0, .int 0, .int ((-1)), .null, .null, .null, .null, .null, .null, .int 0, .ref a2]))]) (w1 := [(q_1, .inr (3, [.ref x_4, .int 0, .ref x_5, .ref x_5, .int 2147483647, .int 0, .int 0, .int 0, .int 0, .int 0]))]) hP hD [2, 1] [0] rfl rfl (by decide) (by decide) hk1 hFc hP1 hD1
  have hK := (hK.sub (tys' := []) [] rfl).app hK1
  generalize H1 = H at hP hS ⊢
  have hP : va_P (dC, dI) vwCl [(h0, .inr (10, [.ref a1, .int 0, .int 0, .int ((-1)), .null, .null, .null, .null, .null, .null, .int 0, .ref a2])), (q_1, .inr (3, [.ref x_4, .int 0, .ref x_5, .ref x_5, .int 2147483647, .int 0, .int 0, .int 0, .int 0, .int 0]))] H := hP
  have hD : va_D A [(h0, .inr (10, [.ref a1, .int 0, .int 0, .int ((-1)), .null, .null, .null, .null, .null, .null, .int 0, .ref a2])), (q_1, .inr (3, [.ref x_4, .int 0, .ref x_5, .ref x_5, .int 2147483647, .int 0, .int 0, .int 0, .int 0, .int 0]))] := hD
  have hK : va_K (dC, dI) vwCl [] s := hK
  refine W.widen (k := 3) (n := 10) (Nat.le_of_ble_eq_true rfl) (Nat.le_of_ble_eq_true rfl) ?_
  refine lv_astore_n (lv' := [(1, .ref q_1), (0, .ref h0)]) hx hb dX11_read_15 rfl hl (by decide) rfl (fun ls hl => ?_)
  refine lv_aload_n hx hb dX11_read_16 rfl (lv_at hl 1 rfl) ?_
  refine lv_iconst (v := 0) hx hb dX11_read_17 (by decide) ?_
  refine va_put (D := (dC, dI)) (ci := 10) (v := .int 0) (ty := .int) (C := RX11) (T := TX11) (N := 12) hx hb hw inlX11 tyX11 tyX11_ok nmX11 hown hK hP hD hS 0 rfl rfl 1 (by decide) (hw (Cond.fieldLink RX11 23 "CodeLayout" "inTray" "I") (wl_6 (List.mem_of_getElem? (i := 23) rfl))) (fun _ h9 => h9) rfl (by decide +kernel) rfl rfl (Nat.le_of_ble_eq_true rfl) dX11_read_18 (fun H locs hP hD hS => ?_)
  have hP : va_P (dC, dI) vwCl [(h0, .inr (10, [.ref a1, .int 0, .int 0, .int ((-1)), .null, .null, .null, .null, .null, .null, .int 0, .ref a2])), (q_1, .inr (3, [.ref x_4, .int 0, .ref x_5, .ref x_5, .int 2147483647, .int 0, .int 0, .int 0, .int 0, .int 0]))] H := hP
  have hD : va_D A [(h0, .inr (10, [.ref a1, .int 0, .int 0, .int ((-1)), .null, .null, .null, .null, .null, .null, .int 0, .ref a2])), (q_1, .inr (3, [.ref x_4, .int 0, .ref x_5, .ref x_5, .int 2147483647, .int 0, .int 0, .int 0, .int 0, .int 0]))] := hD
  refine va_new (ci := 9) (fs := [.null, .int 0, .int 0, .int 0, .int 0, .null, .null, .null, .null, .null, .null, .null, .null, .int 0, .int 0, .long 0, .null]) (C := RX10) (T := TX10) (N := 17) hx hb hw inlX10 tyX10 tyX10_ok hown (hw (Cond.classLink RX11 46 RX10) (wl_9 (List.mem_of_getElem? (i := 9) rfl))) (hw (Cond.instantiable RX10 17) (wl_9 (List.mem_of_getElem? (i := 10) rfl))) (hw (Cond.initialized RX10) (wl_8 (List.mem_of_getElem? (i := 19) rfl))) hK hP hD hS hA rfl (fun j hj => match j, hj with | 0, _ => rfl | 1, _ => rfl | 2, _ => rfl | 3, _ => rfl | 4, _ => rfl | 5, _ => rfl | 6, _ => rfl | 7, _ => rfl | 8, _ => rfl | 9, _ => rfl | 10, _ => rfl | 11, _ => rfl | 12, _ => rfl | 13, _ => rfl | 14, _ => rfl | 15, _ => rfl | 16, _ => rfl | j + 17, hj => absurd hj (by omega)) (Nat.le_of_ble_eq_true rfl) (Nat.le_of_ble_eq_true rfl) dX11_read_21 (fun q_6 H hP hD hS => ?_)
  have hP : va_P (dC, dI) vwCl [(h0, .inr (10, [.ref a1, .int 0, .int 0, .int ((-1)), .null, .null, .null, .null, .null, .null, .int 0, .ref a2])), (q_1, .inr (3, [.ref x_4, .int 0, .ref x_5, .ref x_5, .int 2147483647, .int 0, .int 0, .int 0, .int 0, .int 0])), (q_6, .inr (9, [.null, .int 0, .int 0, .int 0, .int 0, .null, .null, .null, .null, .null, .null, .null, .null, .int 0, .int 0, .long 0, .null]))] H := hP
  have hD : va_D A [(h0, .inr (10, [.ref a1, .int 0, .int 0, .int ((-1)), .null, .null, .null, .null, .null, .null, .int 0, .ref a2])), (q_1, .inr (3, [.ref x_4, .int 0, .ref x_5, .ref x_5, .int 2147483647, .int 0, .int 0, .int 0, .int 0, .int 0])), (q_6, .inr (9, [.null, .int 0, .int 0, .int 0, .int 0, .null, .null, .null, .null, .null, .null, .null, .null, .int 0, .int 0, .long 0, .null]))] := hD
  refine W.widen (k := 4) (n := 27) (Nat.le_of_ble_eq_true rfl) (Nat.le_of_ble_eq_true rfl) ?_
  refine lv_dup hx hb dX11_read_24 rfl ?_
  refine lv_aload_n hx hb dX11_read_25 rfl (lv_at hl 0 rfl) ?_
  have hPc := hP.sub (ws' := [(q_6, .inr (9, [.null, .int 0, .int 0, .int 0, .int 0, .null, .null, .null, .null, .null, .null, .null, .null, .int 0, .int 0, .long 0, .null]))]) [2] rfl
  have hDc := hD.sub (ws' := [(q_6, .inr (9, [.null, .int 0, .int 0, .int 0, .int 0, .null, .null, .null, .null, .null, .null, .null, .null, .int 0, .int 0, .long 0, .null]))]) [2] (by decide) rfl
  have hKc := hK.sub (tys' := []) [] rfl
  have hFc := va_free (wc := [(q_6, .inr (9, [.null, .int 0, .int 0, .int 0, .int 0, .null, .null, .null, .null, .null, .null, .null, .null, .int 0, .int 0, .long 0, .null]))]) hD hS hA [2] rfl
  refine va_callv (va_runI (As := [.ref q_1]) (rest := [.ref q_6]) ⟨hx, hb, hml, hown, hw⟩ (k_X10_init l dC dI H.size q_6 q_1) ⟨callB_of 1 hw (gdw (wl_9 (List.mem_of_getElem? (i := 11) rfl))) rfl rfl rfl (hw (Cond.initialized RX10) (wl_8 (List.mem_of_getElem? (i := 19) rfl))) (hw (Cond.methodLink RX11 48 yX10_init) (wl_9 (List.mem_of_getElem? (i := 12) rfl))) (by decide +kernel) ⟨Nat.le_of_ble_eq_true rfl, Nat.le_of_ble_eq_true rfl⟩, rfl, (hw (Cond.instanceMethod yX10_init) (wl_9 (List.mem_of_getElem? (i := 13) rfl)))⟩ ⟨pM_blind, pM_of hPc hKc hDc⟩ rfl rfl hl.1 rfl (lv_room (Nat.le_of_ble_eq_true rfl)) dX11_read_26 ⟨Nat.le_of_ble_eq_true rfl, Nat.le_of_ble_eq_true rfl⟩) hS (fun q _ h => hFc q h) hFc (fun u t H1 locs ht hvm hp_8 hB hz1 hk1 hS => ?_)
  obtain ⟨b_9, hP1, hK1, hD1⟩ := hB
  rw [ht] at hP1
  have hK1 := va_K.moved hvm.symm hK1
  obtain ⟨hP, hD⟩ := va_join (wr := [(h0, .inr (10, [.ref a1, .int 0, .int 0, .int ((-1)), .null, .null, .null, .null, .null, .null, .int 0, .ref a2])), (q_1, .inr (3, [.ref x_4, .int 0, .ref x_5, .ref x_5, .int 2147483647, .int 0, .int 0, .int 0, .int 0, .int 0]))]) (w1 := [(q_6, .inr (9, [.ref q_1, .int ((-1)), .int 0, .int 0, .int 0, .ref (b_9 5), .ref (b_9 6), .ref (b_9 7), .ref (b_9 8), .ref (b_9 9), .ref (b_9 10), .ref (b_9 11), .ref (b_9 12), .int 0, .int 0, .long 0, .ref (b_9 16)]))]) hP hD [2] [0, 1] rfl rfl (by decide) (by decide) hk1 hFc hP1 hD1
  have hK := (hK.sub (tys' := []) [] rfl).app hK1
  generalize H1 = H at hP hS ⊢
  have hP : va_P (dC, dI) vwCl [(h0, .inr (10, [.ref a1, .int 0, .int 0, .int ((-1)), .null, .null, .null, .null, .null, .null, .int 0, .ref a2])), (q_1, .inr (3, [.ref x_4, .int 0, .ref x_5, .ref x_5, .int 2147483647, .int 0, .int 0, .int 0, .int 0, .int 0])), (q_6, .inr (9, [.ref q_1, .int ((-1)), .int 0, .int 0, .int 0, .ref (b_9 5), .ref (b_9 6), .ref (b_9 7), .ref (b_9 8), .ref (b_9 9), .ref (b_9 10), .ref (b_9 11), .ref (b_9 12), .int 0, .int 0, .long 0, .ref (b_9 16)]))] H := hP
  have hD : va_D A [(h0, .inr (10, [.ref a1, .int 0, .int 0, .int ((-1)), .null, .null, .null, .null, .null, .null, .int 0, .ref a2])), (q_1, .inr (3, [.ref x_4, .int 0, .ref x_5, .ref x_5, .int 2147483647, .int 0, .int 0, .int 0, .int 0, .int 0])), (q_6, .inr (9, [.ref q_1, .int ((-1)), .int 0, .int 0, .int 0, .ref (b_9 5), .ref (b_9 6), .ref (b_9 7), .ref (b_9 8), .ref (b_9 9), .ref (b_9 10), .ref (b_9 11), .ref (b_9 12), .int 0, .int 0, .long 0, .ref (b_9 16)]))] := hD
  have hK : va_K (dC, dI) vwCl [] s := hK
  refine W.widen (k := 13) (n := 123) (Nat.le_of_ble_eq_true rfl) (Nat.le_of_ble_eq_true rfl) ?_
  refine lv_astore_n (lv' := [(2, .ref q_6), (1, .ref q_1), (0, .ref h0)]) hx hb dX11_read_29 rfl hl (by decide) rfl (fun ls hl => ?_)
  refine lv_aload_n hx hb dX11_read_30 rfl (lv_at hl 0 rfl) ?_
  have hPc := hP.sub (ws' := [(q_6, .inr (9, [.ref q_1, .int ((-1)), .int 0, .int 0, .int 0, .ref (b_9 5), .ref (b_9 6), .ref (b_9 7), .ref (b_9 8), .ref (b_9 9), .ref (b_9 10), .ref (b_9 11), .ref (b_9 12), .int 0, .int 0, .long 0, .ref (b_9 16)])), (q_1, .inr (3, [.ref x_4, .int 0, .ref x_5, .ref x_5, .int 2147483647, .int 0, .int 0, .int 0, .int 0, .int 0]))]) [2, 1] rfl
  have hDc := hD.sub (ws' := [(q_6, .inr (9, [.ref q_1, .int ((-1)), .int 0, .int 0, .int 0, .ref (b_9 5), .ref (b_9 6), .ref (b_9 7), .ref (b_9 8), .ref (b_9 9), .ref (b_9 10), .ref (b_9 11), .ref (b_9 12), .int 0, .int 0, .long 0, .ref (b_9 16)])), (q_1, .inr (3, [.ref x_4, .int 0, .ref x_5, .ref x_5, .int 2147483647, .int 0, .int 0, .int 0, .int 0, .int 0]))]) [2, 1] (by decide) rfl
  have hKc := hK.sub (tys' := []) [] rfl
  have hFc := va_free (wc := [(q_6, .inr (9, [.ref q_1, .int ((-1)), .int 0, .int 0, .int 0, .ref (b_9 5), .ref (b_9 6), .ref (b_9 7), .ref (b_9 8), .ref (b_9 9), .ref (b_9 10), .ref (b_9 11), .ref (b_9 12), .int 0, .int 0, .long 0, .ref (b_9 16)])), (q_1, .inr (3, [.ref x_4, .int 0, .ref x_5, .ref x_5, .int 2147483647, .int 0, .int 0, .int 0, .int 0, .int 0]))]) hD hS hA [2, 1] rfl
  refine va_calli (va_runV (As := []) (rest := []) ⟨hx, hb, hml, hown, hw⟩ (k_X10_judge l dC dI H.size q_6 q_1 x_4 x_5 b_9) ⟨callB_of 0 hw (gdw (wl_9 (List.mem_of_getElem? (i := 14) rfl))) rfl rfl rfl (hw (Cond.initialized RX10) (wl_8 (List.mem_of_getElem? (i := 19) rfl))) (hw (Cond.methodLink RX11 51 yX10_judge) (wl_9 (List.mem_of_getElem? (i := 15) rfl))) (by decide +kernel) ⟨Nat.le_of_ble_eq_true rfl, Nat.le_of_ble_eq_true rfl⟩, (hw (Cond.instanceMethod yX10_judge) (wl_9 (List.mem_of_getElem? (i := 16) rfl))), (hw (Cond.selects RX10 yX10_judge yX10_judge) (wl_9 (List.mem_of_getElem? (i := 17) rfl)))⟩ ⟨pM_blind, va_recv hKc hPc (ci := 9) (q0 := 0) rfl rfl, pM_of hPc hKc hDc⟩ rfl rfl hl.1 rfl (lv_room (Nat.le_of_ble_eq_true rfl)) dX11_read_31 ⟨Nat.le_of_ble_eq_true rfl, Nat.le_of_ble_eq_true rfl⟩) hS (fun q _ h => hFc q h) hFc (fun r_10 u t H1 locs ht hvm hp_11 hB hz1 hk1 hS => ?_)
  obtain ⟨hP1, hK1, hD1⟩ := hB
  rw [ht] at hP1
  have hK1 := va_K.moved hvm.symm hK1
  obtain ⟨hP, hD⟩ := va_join (wr := [(h0, .inr (10, [.ref a1, .int 0, .int 0, .int ((-1)), .null, .null, .null, .null, .null, .null, .int 0, .ref a2]))]) (w1 := [(q_6, .inr (9, [.ref q_1, .int 0, .int 0, .int 0, .int 0, .ref (b_9 5), .ref (b_9 6), .ref (b_9 7), .ref (b_9 8), .ref (b_9 9), .ref (b_9 10), .ref (b_9 11), .ref (b_9 12), .int 0, .int 0, .long 0, .ref (b_9 16)])), (q_1, .inr (3, [.ref x_4, .int 0, .ref x_5, .ref x_5, .int 2147483647, .int 0, .int 0, .int 0, .int 0, .int 0]))]) hP hD [2, 1] [0] rfl rfl (by decide) (by decide) hk1 hFc hP1 hD1
  have hK := (hK.sub (tys' := []) [] rfl).app hK1
  generalize H1 = H at hP hS ⊢
  have hP : va_P (dC, dI) vwCl [(h0, .inr (10, [.ref a1, .int 0, .int 0, .int ((-1)), .null, .null, .null, .null, .null, .null, .int 0, .ref a2])), (q_6, .inr (9, [.ref q_1, .int 0, .int 0, .int 0, .int 0, .ref (b_9 5), .ref (b_9 6), .ref (b_9 7), .ref (b_9 8), .ref (b_9 9), .ref (b_9 10), .ref (b_9 11), .ref (b_9 12), .int 0, .int 0, .long 0, .ref (b_9 16)])), (q_1, .inr (3, [.ref x_4, .int 0, .ref x_5, .ref x_5, .int 2147483647, .int 0, .int 0, .int 0, .int 0, .int 0]))] H := hP
  have hD : va_D A [(h0, .inr (10, [.ref a1, .int 0, .int 0, .int ((-1)), .null, .null, .null, .null, .null, .null, .int 0, .ref a2])), (q_6, .inr (9, [.ref q_1, .int 0, .int 0, .int 0, .int 0, .ref (b_9 5), .ref (b_9 6), .ref (b_9 7), .ref (b_9 8), .ref (b_9 9), .ref (b_9 10), .ref (b_9 11), .ref (b_9 12), .int 0, .int 0, .long 0, .ref (b_9 16)])), (q_1, .inr (3, [.ref x_4, .int 0, .ref x_5, .ref x_5, .int 2147483647, .int 0, .int 0, .int 0, .int 0, .int 0]))] := hD
  have hK : va_K (dC, dI) vwCl [] s := hK
  refine W.widen (k := 13) (n := 123) (Nat.le_of_ble_eq_true rfl) (Nat.le_of_ble_eq_true rfl) ?_
  subst hp_11
  refine lv_istore_n (lv' := [(3, .int 1), (2, .ref q_6), (1, .ref q_1), (0, .ref h0)]) hx hb dX11_read_34 rfl hl (by decide) rfl (fun ls hl => ?_)
  refine lv_iload_n hx hb dX11_read_35 rfl (lv_at hl 0 rfl) ?_
  refine lv_if_eq (tgt := 50) hx hb dX11_read_36 (by decide) (fun c_12 => absurd c_12 (by decide)) (fun c_12 => ?_)
  refine lv_aload_n hx hb dX11_read_39 rfl (lv_at hl 3 rfl) ?_
  refine lv_aload_n hx hb dX11_read_40 rfl (lv_at hl 1 rfl) ?_
  refine va_get (D := (dC, dI)) (ci := 9) (v := .int 0) (C := RX10) (T := TX10) (N := 17) hx hb hw inlX10 hown hK hP 1 rfl rfl 1 (by decide) (hw (Cond.fieldLink RX11 55 "CodeLayout$Rules" "at" "I") (wl_9 (List.mem_of_getElem? (i := 18) rfl))) (fun _ h9 => h9) rfl dX11_read_41 ?_
  refine va_put (D := (dC, dI)) (ci := 10) (v := .int 0) (ty := .int) (C := RX11) (T := TX11) (N := 12) hx hb hw inlX11 tyX11 tyX11_ok nmX11 hown hK hP hD hS 0 rfl rfl 3 (by decide) (hw (Cond.fieldLink RX11 13 "CodeLayout" "refusedAt" "I") (wl_1 (List.mem_of_getElem? (i := 3) rfl))) (fun _ h9 => h9) rfl (by decide +kernel) rfl rfl (Nat.le_of_ble_eq_true rfl) dX11_read_44 (fun H locs hP hD hS => ?_)
  have hP : va_P (dC, dI) vwCl [(h0, .inr (10, [.ref a1, .int 0, .int 0, .int 0, .null, .null, .null, .null, .null, .null, .int 0, .ref a2])), (q_6, .inr (9, [.ref q_1, .int 0, .int 0, .int 0, .int 0, .ref (b_9 5), .ref (b_9 6), .ref (b_9 7), .ref (b_9 8), .ref (b_9 9), .ref (b_9 10), .ref (b_9 11), .ref (b_9 12), .int 0, .int 0, .long 0, .ref (b_9 16)])), (q_1, .inr (3, [.ref x_4, .int 0, .ref x_5, .ref x_5, .int 2147483647, .int 0, .int 0, .int 0, .int 0, .int 0]))] H := hP
  have hD : va_D A [(h0, .inr (10, [.ref a1, .int 0, .int 0, .int 0, .null, .null, .null, .null, .null, .null, .int 0, .ref a2])), (q_6, .inr (9, [.ref q_1, .int 0, .int 0, .int 0, .int 0, .ref (b_9 5), .ref (b_9 6), .ref (b_9 7), .ref (b_9 8), .ref (b_9 9), .ref (b_9 10), .ref (b_9 11), .ref (b_9 12), .int 0, .int 0, .long 0, .ref (b_9 16)])), (q_1, .inr (3, [.ref x_4, .int 0, .ref x_5, .ref x_5, .int 2147483647, .int 0, .int 0, .int 0, .int 0, .int 0]))] := hD
  refine lv_iload_n hx hb dX11_read_47 rfl (lv_at hl 0 rfl) ?_
  refine lv_ineg hx hb dX11_read_48 ?_
  refine lv_topi (fun x_13 ex_13 => ?_)
  have ex_13 : x_13 = (-1) := ex_13.trans (by decide)
  subst ex_13
  refine W.widen (k := 13) (n := 123) (Nat.le_of_ble_eq_true rfl) (Nat.le_of_ble_eq_true rfl) ?_
  exact W.iret (v := (-1)) hx hb hr (fun t ht hW => ⟨⟨(-1), (), rfl, rfl, trivial⟩, hS.F ht⟩) hS.2.2 dX11_read_49
