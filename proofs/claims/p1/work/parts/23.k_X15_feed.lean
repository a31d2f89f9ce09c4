set_option maxHeartbeats 8000000 in
set_option maxRecDepth 100000 in
theorem k_X15_feed (l : Launch) (dC : Nat → ClassId) (dI : Nat → Nat → Nat) (sz : Nat) (h0 : Nat) (g : Nat → Nat) (cb : ClassId) (f : Nat → Int32) (p1 p2 p3 p4 p5 : Int32) : Met l yX15_feed (Cond.code yX15_feed cX15_feed 6 (some .int) :: bw) ({ frames := 1, cells := 0, slots := 0, locals := 22 }) (pM [.ref h0, .int p1, .int p2, .int p3, .int p4, .int p5] (dC, dI) sz [(h0, .inr (14, mFt g 0)), (g 0, .inl (cb, 60000, .inl f))] [(cb, .byte)]) (va_Qi (fun (r : Int32) (_ : Unit) => r = 20) (fun _ t => True) (va_A [(h0, .inr (14, mFt g 0)), (g 0, .inl (cb, 60000, .inl f))] sz)) 0 0 (va_A [(h0, .inr (14, mFt g 0)), (g 0, .inl (cb, 60000, .inl f))] sz) := by
  refine Met.ofW (cc := cX15_feed) (maxL := 6) (ret := (some .int)) (by decide) rfl ?_
  intro p e s m args below meth c s₁ B hml hv
  obtain ⟨rfl, hsz, hP, hK, hD0⟩ := hv
  have hx := B.exec
  have hb := B.bytes
  have hr := B.returns
  have hts := atoms_spec (ws := Cond.code yX15_feed cX15_feed 6 (some .int) :: bw) B.pre
  have hw : ∀ w ∈ bw, w.before _ s = true := fun w h => hts w (List.mem_cons_of_mem _ h)
  have hown : s.vm.findClass RX15 = some m.cls := findClass_of_methodNamed B.named
  subst hsz
  have hD := hD0.self (sz := s.heap.size)
  generalize hAe : va_A [(h0, .inr (14, mFt g 0)), (g 0, .inl (cb, 60000, .inl f))] s.heap.size = A at hD ⊢
  have hA : ∀ q : Nat, s.heap.size ≤ q → A q := fun q h => by rw [← hAe]; exact Or.inr h
  have hS : va_S A s.heap s.heap [] := va_S.rf
  have hP : va_P (dC, dI) vwCl [(h0, .inr (14, mFt g 0)), (g 0, .inl (cb, 60000, .inl f))] s.heap := hP
  have hl := lv_entry ([.ref h0, .int p1, .int p2, .int p3, .int p4, .int p5]) (n := 6) (Nat.le_of_ble_eq_true rfl)
  rw [lg_entry_eq]
  generalize (lg_sl ([.ref h0, .int p1, .int p2, .int p3, .int p4, .int p5]) ++ List.replicate (6 - (lg_sl ([.ref h0, .int p1, .int p2, .int p3, .int p4, .int p5])).length) Slot.unset).toArray = ls at hl ⊢
  have hl : lv_has ls 6 [(0, .ref h0), (1, .int p1), (2, .int p2), (3, .int p3), (4, .int p4), (5, .int p5)] := hl
  refine lv_aload_n hx hb dX15_feed_0 rfl (lv_at hl 0 rfl) ?_
  refine va_get (D := (dC, dI)) (ci := 14) (v := .int 0) (C := RX15) (T := TX15) (N := 64) hx hb hw inlX15 hown hK hP 0 rfl rfl 1 (by decide) (hw (Cond.fieldLink RX15 178 "CodeLayoutModel" "trayed" "I") (wl_7 (List.mem_of_getElem? (i := 6) rfl))) (fun _ h9 => h9) rfl dX15_feed_1 ?_
  refine lv_bipush (v := 20) hx hb dX15_feed_4 (by decide) ?_
  refine lv_iadd hx hb dX15_feed_6 ?_
  refine lv_topi (fun x_1 ex_1 => ?_)
  have ex_1 : x_1 = 20 := ex_1.trans (by decide)
  subst ex_1
  refine lv_ldc (own := RX15) (v := 60000) hx hb hown (hw (Cond.constant RX15 9 (60000)) (wl_4 (List.mem_of_getElem? (i := 9) rfl))) dX15_feed_7 ?_
  refine lv_icmp_gt (tgt := 24) hx hb dX15_feed_9 (by decide) (fun c_2 => absurd c_2 (by decide)) (fun c_2 => ?_)
  refine lv_aload_n hx hb dX15_feed_12 rfl (lv_at hl 0 rfl) ?_
  refine va_get (D := (dC, dI)) (ci := 14) (v := .int 0) (C := RX15) (T := TX15) (N := 64) hx hb hw inlX15 hown hK hP 0 rfl rfl 2 (by decide) (hw (Cond.fieldLink RX15 182 "CodeLayoutModel" "fed" "I") (wl_7 (List.mem_of_getElem? (i := 7) rfl))) (fun _ h9 => h9) rfl dX15_feed_13 ?_
  refine lv_bipush (v := 20) hx hb dX15_feed_16 (by decide) ?_
  refine lv_iadd hx hb dX15_feed_18 ?_
  refine lv_topi (fun x_3 ex_3 => ?_)
  have ex_3 : x_3 = 20 := ex_3.trans (by decide)
  subst ex_3
  refine lv_ldc (own := RX15) (v := 131072) hx hb hown (hw (Cond.constant RX15 185 (131072)) (wl_7 (List.mem_of_getElem? (i := 8) rfl))) dX15_feed_19 ?_
  refine lv_icmp_le (tgt := 26) hx hb dX15_feed_21 (by decide) (fun c_4 => ?_) (fun c_4 => absurd c_4 (by decide))
  refine lv_aload_n hx hb dX15_feed_26 rfl (lv_at hl 0 rfl) ?_
  refine lv_iload_n hx hb dX15_feed_27 rfl (lv_at hl 1 rfl) ?_
  have hPc := hP.sub (ws' := [(h0, .inr (14, mFt g 0)), (g 0, .inl (cb, 60000, .inl f))]) [0, 1] rfl
  have hDc := hD.sub (ws' := [(h0, .inr (14, mFt g 0)), (g 0, .inl (cb, 60000, .inl f))]) [0, 1] (by decide) rfl
  have hKc := hK.sub (tys' := [(cb, .byte)]) [0] rfl
  have hFc := va_free (wc := [(h0, .inr (14, mFt g 0)), (g 0, .inl (cb, 60000, .inl f))]) hD hS hA [0, 1] rfl
  refine va_callv (va_runV (As := [.int p1]) (rest := []) ⟨hx, hb, hml, hown, hw⟩ (k_X15_four_0 l dC dI s.heap.size h0 g cb f p1) ⟨callB_of 1 hw (gdw (wl_7 (List.mem_of_getElem? (i := 9) rfl))) rfl rfl rfl (hw (Cond.initialized RX15) (wl_1 (List.mem_of_getElem? (i := 21) rfl))) (hw (Cond.methodLink RX15 186 yX15_four) (wl_7 (List.mem_of_getElem? (i := 10) rfl))) (by decide +kernel) ⟨Nat.le_of_ble_eq_true rfl, Nat.le_of_ble_eq_true rfl⟩, (hw (Cond.instanceMethod yX15_four) (wl_7 (List.mem_of_getElem? (i := 11) rfl))), (hw (Cond.selects RX15 yX15_four yX15_four) (wl_7 (List.mem_of_getElem? (i := 12) rfl)))⟩ ⟨pM_blind, va_recv hKc hPc (ci := 14) (q0 := 0) rfl rfl, pM_of hPc hKc hDc⟩ rfl rfl hl.1 rfl (lv_room (Nat.le_of_ble_eq_true rfl)) dX15_feed_28 ⟨Nat.le_of_ble_eq_true rfl, Nat.le_of_ble_eq_true rfl⟩) hS (fun q _ h => hFc q h) hFc (fun u t H1 locs ht hvm hp_6 hB hz1 hk1 hS => ?_)
  obtain ⟨f_7, hP1, hK1, hD1⟩ := hB
  rw [ht] at hP1
  have hK1 := va_K.moved hvm.symm hK1
  obtain ⟨hP, hD⟩ := va_join (wr := []) (w1 := [(h0, .inr (14, mFt g 4)), (g 0, .inl (cb, 60000, .inl f_7))]) hP hD [0, 1] [] rfl rfl (by decide) (by decide) hk1 hFc hP1 hD1
  have hK := (hK.sub (tys' := []) [] rfl).app hK1
  generalize H1 = H at hP hS ⊢
  have hP : va_P (dC, dI) vwCl [(h0, .inr (14, mFt g 4)), (g 0, .inl (cb, 60000, .inl f_7))] H := hP
  have hD : va_D A [(h0, .inr (14, mFt g 4)), (g 0, .inl (cb, 60000, .inl f_7))] := hD
  have hK : va_K (dC, dI) vwCl [(cb, .byte)] s := hK
  refine W.widen (k := 0) (n := 0) (Nat.le_of_ble_eq_true rfl) (Nat.le_of_ble_eq_true rfl) ?_
  refine lv_aload_n hx hb dX15_feed_31 rfl (lv_at hl 0 rfl) ?_
  refine lv_iload_n hx hb dX15_feed_32 rfl (lv_at hl 2 rfl) ?_
  have hPc := hP.sub (ws' := [(h0, .inr (14, mFt g 4)), (g 0, .inl (cb, 60000, .inl f_7))]) [0, 1] rfl
  have hDc := hD.sub (ws' := [(h0, .inr (14, mFt g 4)), (g 0, .inl (cb, 60000, .inl f_7))]) [0, 1] (by decide) rfl
  have hKc := hK.sub (tys' := [(cb, .byte)]) [0] rfl
  have hFc := va_free (wc := [(h0, .inr (14, mFt g 4)), (g 0, .inl (cb, 60000, .inl f_7))]) hD hS hA [0, 1] rfl
  refine va_callv (va_runV (As := [.int p2]) (rest := []) ⟨hx, hb, hml, hown, hw⟩ (k_X15_four_4 l dC dI H.size h0 g cb f_7 p2) ⟨callB_of 1 hw (gdw (wl_7 (List.mem_of_getElem? (i := 9) rfl))) rfl rfl rfl (hw (Cond.initialized RX15) (wl_1 (List.mem_of_getElem? (i := 21) rfl))) (hw (Cond.methodLink RX15 186 yX15_four) (wl_7 (List.mem_of_getElem? (i := 10) rfl))) (by decide +kernel) ⟨Nat.le_of_ble_eq_true rfl, Nat.le_of_ble_eq_true rfl⟩, (hw (Cond.instanceMethod yX15_four) (wl_7 (List.mem_of_getElem? (i := 11) rfl))), (hw (Cond.selects RX15 yX15_four yX15_four) (wl_7 (List.mem_of_getElem? (i := 12) rfl)))⟩ ⟨pM_blind, va_recv hKc hPc (ci := 14) (q0 := 0) rfl rfl, pM_of hPc hKc hDc⟩ rfl rfl hl.1 rfl (lv_room (Nat.le_of_ble_eq_true rfl)) dX15_feed_33 ⟨Nat.le_of_ble_eq_true rfl, Nat.le_of_ble_eq_true rfl⟩) hS (fun q _ h => hFc q h) hFc (fun u t H1 locs ht hvm hp_9 hB hz1 hk1 hS => ?_)
  obtain ⟨f_10, hP1, hK1, hD1⟩ := hB
  rw [ht] at hP1
  have hK1 := va_K.moved hvm.symm hK1
  obtain ⟨hP, hD⟩ := va_join (wr := []) (w1 := [(h0, .inr (14, mFt g 8)), (g 0, .inl (cb, 60000, .inl f_10))]) hP hD [0, 1] [] rfl rfl (by decide) (by decide) hk1 hFc hP1 hD1
  have hK := (hK.sub (tys' := []) [] rfl).app hK1
  generalize H1 = H at hP hS ⊢
  have hP : va_P (dC, dI) vwCl [(h0, .inr (14, mFt g 8)), (g 0, .inl (cb, 60000, .inl f_10))] H := hP
  have hD : va_D A [(h0, .inr (14, mFt g 8)), (g 0, .inl (cb, 60000, .inl f_10))] := hD
  have hK : va_K (dC, dI) vwCl [(cb, .byte)] s := hK
  refine W.widen (k := 0) (n := 0) (Nat.le_of_ble_eq_true rfl) (Nat.le_of_ble_eq_true rfl) ?_
  refine lv_aload_n hx hb dX15_feed_36 rfl (lv_at hl 0 rfl) ?_
  refine lv_iload_n hx hb dX15_feed_37 rfl (lv_at hl 3 rfl) ?_
  have hPc := hP.sub (ws' := [(h0, .inr (14, mFt g 8)), (g 0, .inl (cb, 60000, .inl f_10))]) [0, 1] rfl
  have hDc := hD.sub (ws' := [(h0, .inr (14, mFt g 8)), (g 0, .inl (cb, 60000, .inl f_10))]) [0, 1] (by decide) rfl
  have hKc := hK.sub (tys' := [(cb, .byte)]) [0] rfl
  have hFc := va_free (wc := [(h0, .inr (14, mFt g 8)), (g 0, .inl (cb, 60000, .inl f_10))]) hD hS hA [0, 1] rfl
  refine va_callv (va_runV (As := [.int p3]) (rest := []) ⟨hx, hb, hml, hown, hw⟩ (k_X15_four_8 l dC dI H.size h0 g cb f_10 p3) ⟨callB_of 1 hw (gdw (wl_7 (List.mem_of_getElem? (i := 9) rfl))) rfl rfl rfl (hw (Cond.initialized RX15) (wl_1 (List.mem_of_getElem? (i := 21) rfl))) (hw (Cond.methodLink RX15 186 yX15_four) (wl_7 (List.mem_of_getElem? (i := 10) rfl))) (by decide +kernel) ⟨Nat.le_of_ble_eq_true rfl, Nat.le_of_ble_eq_true rfl⟩, (hw (Cond.instanceMethod yX15_four) (wl_7 (List.mem_of_getElem? (i := 11) rfl))), (hw (Cond.selects RX15 yX15_four yX15_four) (wl_7 (List.mem_of_getElem? (i := 12) rfl)))⟩ ⟨pM_blind, va_recv hKc hPc (ci := 14) (q0 := 0) rfl rfl, pM_of hPc hKc hDc⟩ rfl rfl hl.1 rfl (lv_room (Nat.le_of_ble_eq_true rfl)) dX15_feed_38 ⟨Nat.le_of_ble_eq_true rfl, Nat.le_of_ble_eq_true rfl⟩) hS (fun q _ h => hFc q h) hFc (fun u t H1 locs ht hvm hp_12 hB hz1 hk1 hS => ?_)
  obtain ⟨f_13, hP1, hK1, hD1⟩ := hB
  rw [ht] at hP1
  have hK1 := va_K.moved hvm.symm hK1
  obtain ⟨hP, hD⟩ := va_join (wr := []) (w1 := [(h0, .inr (14, mFt g 12)), (g 0, .inl (cb, 60000, .inl f_13))]) hP hD [0, 1] [] rfl rfl (by decide) (by decide) hk1 hFc hP1 hD1
  have hK := (hK.sub (tys' := []) [] rfl).app hK1
  generalize H1 = H at hP hS ⊢
  have hP : va_P (dC, dI) vwCl [(h0, .inr (14, mFt g 12)), (g 0, .inl (cb, 60000, .inl f_13))] H := hP
  have hD : va_D A [(h0, .inr (14, mFt g 12)), (g 0, .inl (cb, 60000, .inl f_13))] := hD
  have hK : va_K (dC, dI) vwCl [(cb, .byte)] s := hK
  refine W.widen (k := 0) (n := 0) (Nat.le_of_ble_eq_true rfl) (Nat.le_of_ble_eq_true rfl) ?_
  refine lv_aload_n hx hb dX15_feed_41 rfl (lv_at hl 0 rfl) ?_
  refine lv_iload hx hb dX15_feed_42 (lv_at hl 4 rfl) ?_
  have hPc := hP.sub (ws' := [(h0, .inr (14, mFt g 12)), (g 0, .inl (cb, 60000, .inl f_13))]) [0, 1] rfl
  have hDc := hD.sub (ws' := [(h0, .inr (14, mFt g 12)), (g 0, .inl (cb, 60000, .inl f_13))]) [0, 1] (by decide) rfl
  have hKc := hK.sub (tys' := [(cb, .byte)]) [0] rfl
  have hFc := va_free (wc := [(h0, .inr (14, mFt g 12)), (g 0, .inl (cb, 60000, .inl f_13))]) hD hS hA [0, 1] rfl
  refine va_callv (va_runV (As := [.int p4]) (rest := []) ⟨hx, hb, hml, hown, hw⟩ (k_X15_four_12 l dC dI H.size h0 g cb f_13 p4) ⟨callB_of 1 hw (gdw (wl_7 (List.mem_of_getElem? (i := 9) rfl))) rfl rfl rfl (hw (Cond.initialized RX15) (wl_1 (List.mem_of_getElem? (i := 21) rfl))) (hw (Cond.methodLink RX15 186 yX15_four) (wl_7 (List.mem_of_getElem? (i := 10) rfl))) (by decide +kernel) ⟨Nat.le_of_ble_eq_true rfl, Nat.le_of_ble_eq_true rfl⟩, (hw (Cond.instanceMethod yX15_four) (wl_7 (List.mem_of_getElem? (i := 11) rfl))), (hw (Cond.selects RX15 yX15_four yX15_four) (wl_7 (List.mem_of_getElem? (i := 12) rfl)))⟩ ⟨pM_blind, va_recv hKc hPc (ci := 14) (q0 := 0) rfl rfl, pM_of hPc hKc hDc⟩ rfl rfl hl.1 rfl (lv_room (Nat.le_of_ble_eq_true rfl)) dX15_feed_44 ⟨Nat.le_of_ble_eq_true rfl, Nat.le_of_ble_eq_true rfl⟩) hS (fun q _ h => hFc q h) hFc (fun u t H1 locs ht hvm hp_15 hB hz1 hk1 hS => ?_)
  obtain ⟨f_16, hP1, hK1, hD1⟩ := hB
  rw [ht] at hP1
  have hK1 := va_K.moved hvm.symm hK1
  obtain ⟨hP, hD⟩ := va_join (wr := []) (w1 := [(h0, .inr (14, mFt g 16)), (g 0, .inl (cb, 60000, .inl f_16))]) hP hD [0, 1] [] rfl rfl (by decide) (by decide) hk1 hFc hP1 hD1
  have hK := (hK.sub (tys' := []) [] rfl).app hK1
  generalize H1 = H at hP hS ⊢
  have hP : va_P (dC, dI) vwCl [(h0, .inr (14, mFt g 16)), (g 0, .inl (cb, 60000, .inl f_16))] H := hP
  have hD : va_D A [(h0, .inr (14, mFt g 16)), (g 0, .inl (cb, 60000, .inl f_16))] := hD
  have hK : va_K (dC, dI) vwCl [(cb, .byte)] s := hK
  refine W.widen (k := 0) (n := 0) (Nat.le_of_ble_eq_true rfl) (Nat.le_of_ble_eq_true rfl) ?_
  refine lv_aload_n hx hb dX15_feed_47 rfl (lv_at hl 0 rfl) ?_
  refine lv_iload hx hb dX15_feed_48 (lv_at hl 5 rfl) ?_
  have hPc := hP.sub (ws' := [(h0, .inr (14, mFt g 16)), (g 0, .inl (cb, 60000, .inl f_16))]) [0, 1] rfl
  have hDc := hD.sub (ws' := [(h0, .inr (14, mFt g 16)), (g 0, .inl (cb, 60000, .inl f_16))]) [0, 1] (by decide) rfl
  have hKc := hK.sub (tys' := [(cb, .byte)]) [0] rfl
  have hFc := va_free (wc := [(h0, .inr (14, mFt g 16)), (g 0, .inl (cb, 60000, .inl f_16))]) hD hS hA [0, 1] rfl
  refine va_callv (va_runV (As := [.int p5]) (rest := []) ⟨hx, hb, hml, hown, hw⟩ (k_X15_four_16 l dC dI H.size h0 g cb f_16 p5) ⟨callB_of 1 hw (gdw (wl_7 (List.mem_of_getElem? (i := 9) rfl))) rfl rfl rfl (hw (Cond.initialized RX15) (wl_1 (List.mem_of_getElem? (i := 21) rfl))) (hw (Cond.methodLink RX15 186 yX15_four) (wl_7 (List.mem_of_getElem? (i := 10) rfl))) (by decide +kernel) ⟨Nat.le_of_ble_eq_true rfl, Nat.le_of_ble_eq_true rfl⟩, (hw (Cond.instanceMethod yX15_four) (wl_7 (List.mem_of_getElem? (i := 11) rfl))), (hw (Cond.selects RX15 yX15_four yX15_four) (wl_7 (List.mem_of_getElem? (i := 12) rfl)))⟩ ⟨pM_blind, va_recv hKc hPc (ci := 14) (q0 := 0) rfl rfl, pM_of hPc hKc hDc⟩ rfl rfl hl.1 rfl (lv_room (Nat.le_of_ble_eq_true rfl)) dX15_feed_50 ⟨Nat.le_of_ble_eq_true rfl, Nat.le_of_ble_eq_true rfl⟩) hS (fun q _ h => hFc q h) hFc (fun u t H1 locs ht hvm hp_18 hB hz1 hk1 hS => ?_)
  obtain ⟨f_19, hP1, hK1, hD1⟩ := hB
  rw [ht] at hP1
  have hK1 := va_K.moved hvm.symm hK1
  obtain ⟨hP, hD⟩ := va_join (wr := []) (w1 := [(h0, .inr (14, mFt g 20)), (g 0, .inl (cb, 60000, .inl f_19))]) hP hD [0, 1] [] rfl rfl (by decide) (by decide) hk1 hFc hP1 hD1
  have hK := (hK.sub (tys' := []) [] rfl).app hK1
  generalize H1 = H at hP hS ⊢
  have hP : va_P (dC, dI) vwCl [(h0, .inr (14, mFt g 20)), (g 0, .inl (cb, 60000, .inl f_19))] H := hP
  have hD : va_D A [(h0, .inr (14, mFt g 20)), (g 0, .inl (cb, 60000, .inl f_19))] := hD
  have hK : va_K (dC, dI) vwCl [(cb, .byte)] s := hK
  refine W.widen (k := 0) (n := 0) (Nat.le_of_ble_eq_true rfl) (Nat.le_of_ble_eq_true rfl) ?_
  refine lv_aload_n hx hb dX15_feed_53 rfl (lv_at hl 0 rfl) ?_
  refine lv_dup hx hb dX15_feed_54 rfl ?_
  refine va_get (D := (dC, dI)) (ci := 14) (v := .int 0) (C := RX15) (T := TX15) (N := 64) hx hb hw inlX15 hown hK hP 0 rfl rfl 2 (by decide) (hw (Cond.fieldLink RX15 182 "CodeLayoutModel" "fed" "I") (wl_7 (List.mem_of_getElem? (i := 7) rfl))) (fun _ h9 => h9) rfl dX15_feed_55 ?_
  refine lv_bipush (v := 20) hx hb dX15_feed_58 (by decide) ?_
  refine lv_iadd hx hb dX15_feed_60 ?_
  refine lv_topi (fun x_20 ex_20 => ?_)
  have ex_20 : x_20 = 20 := ex_20.trans (by decide)
  subst ex_20
  refine va_put (D := (dC, dI)) (ci := 14) (v := .int 20) (ty := .int) (C := RX15) (T := TX15) (N := 64) hx hb hw inlX15 tyX15 tyX15_ok nmX15 hown hK hP hD hS 0 rfl rfl 2 (by decide) (hw (Cond.fieldLink RX15 182 "CodeLayoutModel" "fed" "I") (wl_7 (List.mem_of_getElem? (i := 7) rfl))) (fun _ h9 => h9) rfl (by decide +kernel) rfl rfl (Nat.le_of_ble_eq_true rfl) dX15_feed_61 (fun H locs hP hD hS => ?_)
  have hP : va_P (dC, dI) vwCl [(h0, .inr (14, [.ref (g 0), .int 20, .int 20, .ref (g 3), .ref (g 4), .ref (g 5), .ref (g 6), .int 0, .int 0, .int 0, .int 0, .int 0, .int 0, .long 0, .long ((-1)), .ref (g 15), .ref (g 16), .ref (g 17), .ref (g 18), .ref (g 19), .ref (g 20), .ref (g 21), .ref (g 22), .ref (g 23), .ref (g 24), .ref (g 25), .ref (g 26), .ref (g 27), .int 0, .int 0, .ref (g 30), .ref (g 31), .ref (g 32), .ref (g 33), .ref (g 34), .ref (g 35), .ref (g 36), .ref (g 37), .ref (g 38), .ref (g 39), .ref (g 40), .ref (g 41), .ref (g 42), .ref (g 43), .ref (g 44), .ref (g 45), .ref (g 46), .ref (g 47), .ref (g 48), .ref (g 49), .ref (g 50), .ref (g 51), .int 0, .int 0, .ref (g 54), .int 0, .int 0, .int 0, .ref (g 58), .ref (g 59), .ref (g 60), .ref (g 61), .ref (g 62), .ref (g 63)])), (g 0, .inl (cb, 60000, .inl f_19))] H := hP
  have hD : va_D A [(h0, .inr (14, [.ref (g 0), .int 20, .int 20, .ref (g 3), .ref (g 4), .ref (g 5), .ref (g 6), .int 0, .int 0, .int 0, .int 0, .int 0, .int 0, .long 0, .long ((-1)), .ref (g 15), .ref (g 16), .ref (g 17), .ref (g 18), .ref (g 19), .ref (g 20), .ref (g 21), .ref (g 22), .ref (g 23), .ref (g 24), .ref (g 25), .ref (g 26), .ref (g 27), .int 0, .int 0, .ref (g 30), .ref (g 31), .ref (g 32), .ref (g 33), .ref (g 34), .ref (g 35), .ref (g 36), .ref (g 37), .ref (g 38), .ref (g 39), .ref (g 40), .ref (g 41), .ref (g 42), .ref (g 43), .ref (g 44), .ref (g 45), .ref (g 46), .ref (g 47), .ref (g 48), .ref (g 49), .ref (g 50), .ref (g 51), .int 0, .int 0, .ref (g 54), .int 0, .int 0, .int 0, .ref (g 58), .ref (g 59), .ref (g 60), .ref (g 61), .ref (g 62), .ref (g 63)])), (g 0, .inl (cb, 60000, .inl f_19))] := hD
  refine lv_aload_n hx hb dX15_feed_64 rfl (lv_at hl 0 rfl) ?_
  refine va_get (D := (dC, dI)) (ci := 14) (v := .int 20) (C := RX15) (T := TX15) (N := 64) hx hb hw inlX15 hown hK hP 0 rfl rfl 1 (by decide) (hw (Cond.fieldLink RX15 178 "CodeLayoutModel" "trayed" "I") (wl_7 (List.mem_of_getElem? (i := 6) rfl))) (fun _ h9 => h9) rfl dX15_feed_65 ?_
  refine W.widen (k := 0) (n := 0) (Nat.le_of_ble_eq_true rfl) (Nat.le_of_ble_eq_true rfl) ?_
  exact W.iret (v := 20) hx hb hr (fun t ht hW => ⟨⟨20, (), rfl, rfl, trivial⟩, hS.F ht⟩) hS.2.2 dX15_feed_68
