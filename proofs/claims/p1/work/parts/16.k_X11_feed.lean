set_option maxHeartbeats 8000000 in
set_option maxRecDepth 100000 in
theorem k_X11_feed (l : Launch) (dC : Nat → ClassId) (dI : Nat → Nat → Nat) (sz : Nat) (h0 a1 a2 : Nat) (cb : ClassId) (f : Nat → Int32) (p1 p2 p3 p4 p5 : Int32) : Met l yX11_feed (Cond.code yX11_feed cX11_feed 6 (some .int) :: bw) ({ frames := 1, cells := 0, slots := 0, locals := 23 }) (pM [.ref h0, .int p1, .int p2, .int p3, .int p4, .int p5] (dC, dI) sz [(h0, .inr (10, [.ref a1, .int 0, .int 0, .int ((-1)), .null, .null, .null, .null, .null, .null, .int 0, .ref a2])), (a1, .inl (cb, 1024, .inl f))] [(cb, .byte)]) (va_Qi (fun (r : Int32) (_ : Unit) => r = 20) (fun _ t => True) (va_A [(h0, .inr (10, [.ref a1, .int 0, .int 0, .int ((-1)), .null, .null, .null, .null, .null, .null, .int 0, .ref a2])), (a1, .inl (cb, 1024, .inl f))] sz)) 0 0 (va_A [(h0, .inr (10, [.ref a1, .int 0, .int 0, .int ((-1)), .null, .null, .null, .null, .null, .null, .int 0, .ref a2])), (a1, .inl (cb, 1024, .inl f))] sz) := by
  refine Met.ofW (cc := cX11_feed) (maxL := 6) (ret := (some .int)) (by decide) rfl ?_
  intro p e s m args below meth c s₁ B hml hv
  obtain ⟨rfl, hsz, hP, hK, hD0⟩ := hv
  have hx := B.exec
  have hb := B.bytes
  have hr := B.returns
  have hts := atoms_spec (ws := Cond.code yX11_feed cX11_feed 6 (some .int) :: bw) B.pre
  have hw : ∀ w ∈ bw, w.before _ s = true := fun w h => hts w (List.mem_cons_of_mem _ h)
  have hown : s.vm.findClass RX11 = some m.cls := findClass_of_methodNamed B.named
  subst hsz
  have hD := hD0.self (sz := s.heap.size)
  generalize hAe : va_A [(h0, .inr (10, [.ref a1, .int 0, .int 0, .int ((-1)), .null, .null, .null, .null, .null, .null, .int 0, .ref a2])), (a1, .inl (cb, 1024, .inl f))] s.heap.size = A at hD ⊢
  have hA : ∀ q : Nat, s.heap.size ≤ q → A q := fun q h => by rw [← hAe]; exact Or.inr h
  have hS : va_S A s.heap s.heap [] := va_S.rf
  have hP : va_P (dC, dI) vwCl [(h0, .inr (10, [.ref a1, .int 0, .int 0, .int ((-1)), .null, .null, .null, .null, .null, .null, .int 0, .ref a2])), (a1, .inl (cb, 1024, .inl f))] s.heap := hP
  have hl := lv_entry ([.ref h0, .int p1, .int p2, .int p3, .int p4, .int p5]) (n := 6) (Nat.le_of_ble_eq_true rfl)
  rw [lg_entry_eq]
  generalize (lg_sl ([.ref h0, .int p1, .int p2, .int p3, .int p4, .int p5]) ++ List.replicate (6 - (lg_sl ([.ref h0, .int p1, .int p2, .int p3, .int p4, .int p5])).length) Slot.unset).toArray = ls at hl ⊢
  have hl : lv_has ls 6 [(0, .ref h0), (1, .int p1), (2, .int p2), (3, .int p3), (4, .int p4), (5, .int p5)] := hl
  refine lv_aload_n hx hb dX11_feed_0 rfl (lv_at hl 0 rfl) ?_
  refine va_get (D := (dC, dI)) (ci := 10) (v := .int 0) (C := RX11) (T := TX11) (N := 12) hx hb hw inlX11 hown hK hP 0 rfl rfl 1 (by decide) (hw (Cond.fieldLink RX11 23 "CodeLayout" "inTray" "I") (wl_6 (List.mem_of_getElem? (i := 23) rfl))) (fun _ h9 => h9) rfl dX11_feed_1 ?_
  refine lv_bipush (v := 20) hx hb dX11_feed_4 (by decide) ?_
  refine lv_iadd hx hb dX11_feed_6 ?_
  refine lv_topi (fun x_1 ex_1 => ?_)
  have ex_1 : x_1 = 20 := ex_1.trans (by decide)
  subst ex_1
  refine lv_ldc (own := RX11) (v := 60000) hx hb hown (hw (Cond.constant RX11 26 (60000)) (wl_6 (List.mem_of_getElem? (i := 24) rfl))) dX11_feed_7 ?_
  refine lv_icmp_gt (tgt := 24) hx hb dX11_feed_9 (by decide) (fun c_2 => absurd c_2 (by decide)) (fun c_2 => ?_)
  refine lv_aload_n hx hb dX11_feed_12 rfl (lv_at hl 0 rfl) ?_
  refine va_get (D := (dC, dI)) (ci := 10) (v := .int 0) (C := RX11) (T := TX11) (N := 12) hx hb hw inlX11 hown hK hP 0 rfl rfl 2 (by decide) (hw (Cond.fieldLink RX11 27 "CodeLayout" "fed" "I") (wl_7 (List.mem_of_getElem? (i := 0) rfl))) (fun _ h9 => h9) rfl dX11_feed_13 ?_
  refine lv_bipush (v := 20) hx hb dX11_feed_16 (by decide) ?_
  refine lv_iadd hx hb dX11_feed_18 ?_
  refine lv_topi (fun x_3 ex_3 => ?_)
  have ex_3 : x_3 = 20 := ex_3.trans (by decide)
  subst ex_3
  refine lv_ldc (own := RX11) (v := 131072) hx hb hown (hw (Cond.constant RX11 30 (131072)) (wl_7 (List.mem_of_getElem? (i := 1) rfl))) dX11_feed_19 ?_
  refine lv_icmp_le (tgt := 26) hx hb dX11_feed_21 (by decide) (fun c_4 => ?_) (fun c_4 => absurd c_4 (by decide))
  refine lv_aload_n hx hb dX11_feed_26 rfl (lv_at hl 0 rfl) ?_
  refine va_get (D := (dC, dI)) (ci := 10) (v := .int 0) (C := RX11) (T := TX11) (N := 12) hx hb hw inlX11 hown hK hP 0 rfl rfl 1 (by decide) (hw (Cond.fieldLink RX11 23 "CodeLayout" "inTray" "I") (wl_6 (List.mem_of_getElem? (i := 23) rfl))) (fun _ h9 => h9) rfl dX11_feed_27 ?_
  refine lv_bipush (v := 20) hx hb dX11_feed_30 (by decide) ?_
  refine lv_iadd hx hb dX11_feed_32 ?_
  refine lv_topi (fun x_5 ex_5 => ?_)
  have ex_5 : x_5 = 20 := ex_5.trans (by decide)
  subst ex_5
  refine lv_aload_n hx hb dX11_feed_33 rfl (lv_at hl 0 rfl) ?_
  refine va_get (D := (dC, dI)) (ci := 10) (v := .ref a1) (C := RX11) (T := TX11) (N := 12) hx hb hw inlX11 hown hK hP 0 rfl rfl 0 (by decide) (hw (Cond.fieldLink RX11 7 "CodeLayout" "tray" "[B") (wl_2 (List.mem_of_getElem? (i := 22) rfl))) (fun _ h9 => h9) rfl dX11_feed_34 ?_
  refine va_alen (v := 1024) hx hb hK hP 1 0 rfl rfl (show Int32.ofNat 1024 = 1024 from by decide) dX11_feed_37 ?_
  refine lv_icmp_le (tgt := 59) hx hb dX11_feed_38 (by decide) (fun c_6 => ?_) (fun c_6 => absurd c_6 (by decide))
  refine lv_aload_n hx hb dX11_feed_59 rfl (lv_at hl 0 rfl) ?_
  refine lv_aload_n hx hb dX11_feed_60 rfl (lv_at hl 0 rfl) ?_
  refine va_get (D := (dC, dI)) (ci := 10) (v := .int 0) (C := RX11) (T := TX11) (N := 12) hx hb hw inlX11 hown hK hP 0 rfl rfl 1 (by decide) (hw (Cond.fieldLink RX11 23 "CodeLayout" "inTray" "I") (wl_6 (List.mem_of_getElem? (i := 23) rfl))) (fun _ h9 => h9) rfl dX11_feed_61 ?_
  refine lv_iload_n hx hb dX11_feed_64 rfl (lv_at hl 1 rfl) ?_
  have hPc := hP.sub (ws' := [(h0, .inr (10, [.ref a1, .int 0, .int 0, .int ((-1)), .null, .null, .null, .null, .null, .null, .int 0, .ref a2])), (a1, .inl (cb, 1024, .inl f))]) [0, 1] rfl
  have hDc := hD.sub (ws' := [(h0, .inr (10, [.ref a1, .int 0, .int 0, .int ((-1)), .null, .null, .null, .null, .null, .null, .int 0, .ref a2])), (a1, .inl (cb, 1024, .inl f))]) [0, 1] (by decide) rfl
  have hKc := hK.sub (tys' := [(cb, .byte)]) [0] rfl
  have hFc := va_free (wc := [(h0, .inr (10, [.ref a1, .int 0, .int 0, .int ((-1)), .null, .null, .null, .null, .null, .null, .int 0, .ref a2])), (a1, .inl (cb, 1024, .inl f))]) hD hS hA [0, 1] rfl
  refine va_callv (va_runV (As := [.int 0, .int p1]) (rest := []) ⟨hx, hb, hml, hown, hw⟩ (k_X11_trayWord_0 l dC dI s.heap.size h0 a1 a2 cb f p1) ⟨callB_of 2 hw (gdw (wl_7 (List.mem_of_getElem? (i := 2) rfl))) rfl rfl rfl (hw (Cond.initialized RX11) (wl_1 (List.mem_of_getElem? (i := 8) rfl))) (hw (Cond.methodLink RX11 37 yX11_trayWord) (wl_7 (List.mem_of_getElem? (i := 3) rfl))) (by decide +kernel) ⟨Nat.le_of_ble_eq_true rfl, Nat.le_of_ble_eq_true rfl⟩, (hw (Cond.instanceMethod yX11_trayWord) (wl_7 (List.mem_of_getElem? (i := 4) rfl))), (hw (Cond.selects RX11 yX11_trayWord yX11_trayWord) (wl_7 (List.mem_of_getElem? (i := 5) rfl)))⟩ ⟨pM_blind, va_recv hKc hPc (ci := 10) (q0 := 0) rfl rfl, pM_of hPc hKc hDc⟩ rfl rfl hl.1 rfl (lv_room (Nat.le_of_ble_eq_true rfl)) dX11_feed_65 ⟨Nat.le_of_ble_eq_true rfl, Nat.le_of_ble_eq_true rfl⟩) hS (fun q _ h => hFc q h) hFc (fun u t H1 locs ht hvm hp_8 hB hz1 hk1 hS => ?_)
  obtain ⟨f_9, hP1, hK1, hD1⟩ := hB
  rw [ht] at hP1
  have hK1 := va_K.moved hvm.symm hK1
  obtain ⟨hP, hD⟩ := va_join (wr := []) (w1 := [(h0, .inr (10, [.ref a1, .int 0, .int 0, .int ((-1)), .null, .null, .null, .null, .null, .null, .int 0, .ref a2])), (a1, .inl (cb, 1024, .inl f_9))]) hP hD [0, 1] [] rfl rfl (by decide) (by decide) hk1 hFc hP1 hD1
  have hK := (hK.sub (tys' := []) [] rfl).app hK1
  generalize H1 = H at hP hS ⊢
  have hP : va_P (dC, dI) vwCl [(h0, .inr (10, [.ref a1, .int 0, .int 0, .int ((-1)), .null, .null, .null, .null, .null, .null, .int 0, .ref a2])), (a1, .inl (cb, 1024, .inl f_9))] H := hP
  have hD : va_D A [(h0, .inr (10, [.ref a1, .int 0, .int 0, .int ((-1)), .null, .null, .null, .null, .null, .null, .int 0, .ref a2])), (a1, .inl (cb, 1024, .inl f_9))] := hD
  have hK : va_K (dC, dI) vwCl [(cb, .byte)] s := hK
  refine W.widen (k := 0) (n := 0) (Nat.le_of_ble_eq_true rfl) (Nat.le_of_ble_eq_true rfl) ?_
  refine lv_aload_n hx hb dX11_feed_68 rfl (lv_at hl 0 rfl) ?_
  refine lv_aload_n hx hb dX11_feed_69 rfl (lv_at hl 0 rfl) ?_
  refine va_get (D := (dC, dI)) (ci := 10) (v := .int 0) (C := RX11) (T := TX11) (N := 12) hx hb hw inlX11 hown hK hP 0 rfl rfl 1 (by decide) (hw (Cond.fieldLink RX11 23 "CodeLayout" "inTray" "I") (wl_6 (List.mem_of_getElem? (i := 23) rfl))) (fun _ h9 => h9) rfl dX11_feed_70 ?_
  refine lv_iconst (v := 4) hx hb dX11_feed_73 (by decide) ?_
  refine lv_iadd hx hb dX11_feed_74 ?_
  refine lv_topi (fun x_10 ex_10 => ?_)
  have ex_10 : x_10 = 4 := ex_10.trans (by decide)
  subst ex_10
  refine lv_iload_n hx hb dX11_feed_75 rfl (lv_at hl 2 rfl) ?_
  have hPc := hP.sub (ws' := [(h0, .inr (10, [.ref a1, .int 0, .int 0, .int ((-1)), .null, .null, .null, .null, .null, .null, .int 0, .ref a2])), (a1, .inl (cb, 1024, .inl f_9))]) [0, 1] rfl
  have hDc := hD.sub (ws' := [(h0, .inr (10, [.ref a1, .int 0, .int 0, .int ((-1)), .null, .null, .null, .null, .null, .null, .int 0, .ref a2])), (a1, .inl (cb, 1024, .inl f_9))]) [0, 1] (by decide) rfl
  have hKc := hK.sub (tys' := [(cb, .byte)]) [0] rfl
  have hFc := va_free (wc := [(h0, .inr (10, [.ref a1, .int 0, .int 0, .int ((-1)), .null, .null, .null, .null, .null, .null, .int 0, .ref a2])), (a1, .inl (cb, 1024, .inl f_9))]) hD hS hA [0, 1] rfl
  refine va_callv (va_runV (As := [.int 4, .int p2]) (rest := []) ⟨hx, hb, hml, hown, hw⟩ (k_X11_trayWord_4 l dC dI H.size h0 a1 a2 cb f_9 p2) ⟨callB_of 2 hw (gdw (wl_7 (List.mem_of_getElem? (i := 2) rfl))) rfl rfl rfl (hw (Cond.initialized RX11) (wl_1 (List.mem_of_getElem? (i := 8) rfl))) (hw (Cond.methodLink RX11 37 yX11_trayWord) (wl_7 (List.mem_of_getElem? (i := 3) rfl))) (by decide +kernel) ⟨Nat.le_of_ble_eq_true rfl, Nat.le_of_ble_eq_true rfl⟩, (hw (Cond.instanceMethod yX11_trayWord) (wl_7 (List.mem_of_getElem? (i := 4) rfl))), (hw (Cond.selects RX11 yX11_trayWord yX11_trayWord) (wl_7 (List.mem_of_getElem? (i := 5) rfl)))⟩ ⟨pM_blind, va_recv hKc hPc (ci := 10) (q0 := 0) rfl rfl, pM_of hPc hKc hDc⟩ rfl rfl hl.1 rfl (lv_room (Nat.le_of_ble_eq_true rfl)) dX11_feed_76 ⟨Nat.le_of_ble_eq_true rfl, Nat.le_of_ble_eq_true rfl⟩) hS (fun q _ h => hFc q h) hFc (fun u t H1 locs ht hvm hp_12 hB hz1 hk1 hS => ?_)
  obtain ⟨f_13, hP1, hK1, hD1⟩ := hB
  rw [ht] at hP1
  have hK1 := va_K.moved hvm.symm hK1
  obtain ⟨hP, hD⟩ := va_join (wr := []) (w1 := [(h0, .inr (10, [.ref a1, .int 0, .int 0, .int ((-1)), .null, .null, .null, .null, .null, .null, .int 0, .ref a2])), (a1, .inl (cb, 1024, .inl f_13))]) hP hD [0, 1] [] rfl rfl (by decide) (by decide) hk1 hFc hP1 hD1
  have hK := (hK.sub (tys' := []) [] rfl).app hK1
  generalize H1 = H at hP hS ⊢
  have hP : va_P (dC, dI) vwCl [(h0, .inr (10, [.ref a1, .int 0, .int 0, .int ((-1)), .null, .null, .null, .null, .null, .null, .int 0, .ref a2])), (a1, .inl (cb, 1024, .inl f_13))] H := hP
  have hD : va_D A [(h0, .inr (10, [.ref a1, .int 0, .int 0, .int ((-1)), .null, .null, .null, .null, .null, .null, .int 0, .ref a2])), (a1, .inl (cb, 1024, .inl f_13))] := hD
  have hK : va_K (dC, dI) vwCl [(cb, .byte)] s := hK
  refine W.widen (k := 0) (n := 0) (Nat.le_of_ble_eq_true rfl) (Nat.le_of_ble_eq_true rfl) ?_
  refine lv_aload_n hx hb dX11_feed_79 rfl (lv_at hl 0 rfl) ?_
  refine lv_aload_n hx hb dX11_feed_80 rfl (lv_at hl 0 rfl) ?_
  refine va_get (D := (dC, dI)) (ci := 10) (v := .int 0) (C := RX11) (T := TX11) (N := 12) hx hb hw inlX11 hown hK hP 0 rfl rfl 1 (by decide) (hw (Cond.fieldLink RX11 23 "CodeLayout" "inTray" "I") (wl_6 (List.mem_of_getElem? (i := 23) rfl))) (fun _ h9 => h9) rfl dX11_feed_81 ?_
  refine lv_bipush (v := 8) hx hb dX11_feed_84 (by decide) ?_
  refine lv_iadd hx hb dX11_feed_86 ?_
  refine lv_topi (fun x_14 ex_14 => ?_)
  have ex_14 : x_14 = 8 := ex_14.trans (by decide)
  subst ex_14
  refine lv_iload_n hx hb dX11_feed_87 rfl (lv_at hl 3 rfl) ?_
  have hPc := hP.sub (ws' := [(h0, .inr (10, [.ref a1, .int 0, .int 0, .int ((-1)), .null, .null, .null, .null, .null, .null, .int 0, .ref a2])), (a1, .inl (cb, 1024, .inl f_13))]) [0, 1] rfl
  have hDc := hD.sub (ws' := [(h0, .inr (10, [.ref a1, .int 0, .int 0, .int ((-1)), .null, .null, .null, .null, .null, .null, .int 0, .ref a2])), (a1, .inl (cb, 1024, .inl f_13))]) [0, 1] (by decide) rfl
  have hKc := hK.sub (tys' := [(cb, .byte)]) [0] rfl
  have hFc := va_free (wc := [(h0, .inr (10, [.ref a1, .int 0, .int 0, .int ((-1)), .null, .null, .null, .null, .null, .null, .int 0, .ref a2])), (a1, .inl (cb, 1024, .inl f_13))]) hD hS hA [0, 1] rfl
  refine va_callv (va_runV (As := [.int 8, .int p3]) (rest := []) ⟨hx, hb, hml, hown, hw⟩ (k_X11_trayWord_8 l dC dI H.size h0 a1 a2 cb f_13 p3) ⟨callB_of 2 hw (gdw (wl_7 (List.mem_of_getElem? (i := 2) rfl))) rfl rfl rfl (hw (Cond.initialized RX11) (wl_1 (List.mem_of_getElem? (i := 8) rfl))) (hw (Cond.methodLink RX11 37 yX11_trayWord) (wl_7 (List.mem_of_getElem? (i := 3) rfl))) (by decide +kernel) ⟨Nat.le_of_ble_eq_true rfl, Nat.le_of_ble_eq_true rfl⟩, (hw (Cond.instanceMethod yX11_trayWord) (wl_7 (List.mem_of_getElem? (i := 4) rfl))), (hw (Cond.selects RX11 yX11_trayWord yX11_trayWord) (wl_7 (List.mem_of_getElem? (i := 5) rfl)))⟩ ⟨pM_blind, va_recv hKc hPc (ci := 10) (q0 := 0) rfl rfl, pM_of hPc hKc hDc⟩ rfl rfl hl.1 rfl (lv_room (Nat.le_of_ble_eq_true rfl)) dX11_feed_88 ⟨Nat.le_of_ble_eq_true rfl, Nat.le_of_ble_eq_true rfl⟩) hS (fun q _ h => hFc q h) hFc (fun u t H1 locs ht hvm hp_16 hB hz1 hk1 hS => ?_)
  obtain ⟨f_17, hP1, hK1, hD1⟩ := hB
  rw [ht] at hP1
  have hK1 := va_K.moved hvm.symm hK1
  obtain ⟨hP, hD⟩ := va_join (wr := []) (w1 := [(h0, .inr (10, [.ref a1, .int 0, .int 0, .int ((-1)), .null, .null, .null, .null, .null, .null, .int 0, .ref a2])), (a1, .inl (cb, 1024, .inl f_17))]) hP hD [0, 1] [] rfl rfl (by decide) (by decide) hk1 hFc hP1 hD1
  have hK := (hK.sub (tys' := []) [] rfl).app hK1
  generalize H1 = H at hP hS ⊢
  have hP : va_P (dC, dI) vwCl [(h0, .inr (10, [.ref a1, .int 0, .int 0, .int ((-1)), .null, .null, .null, .null, .null, .null, .int 0, .ref a2])), (a1, .inl (cb, 1024, .inl f_17))] H := hP
  have hD : va_D A [(h0, .inr (10, [.ref a1, .int 0, .int 0, .int ((-1)), .null, .null, .null, .null, .null, .null, .int 0, .ref a2])), (a1, .inl (cb, 1024, .inl f_17))] := hD
  have hK : va_K (dC, dI) vwCl [(cb, .byte)] s := hK
  refine W.widen (k := 0) (n := 0) (Nat.le_of_ble_eq_true rfl) (Nat.le_of_ble_eq_true rfl) ?_
  refine lv_aload_n hx hb dX11_feed_91 rfl (lv_at hl 0 rfl) ?_
  refine lv_aload_n hx hb dX11_feed_92 rfl (lv_at hl 0 rfl) ?_
  refine va_get (D := (dC, dI)) (ci := 10) (v := .int 0) (C := RX11) (T := TX11) (N := 12) hx hb hw inlX11 hown hK hP 0 rfl rfl 1 (by decide) (hw (Cond.fieldLink RX11 23 "CodeLayout" "inTray" "I") (wl_6 (List.mem_of_getElem? (i := 23) rfl))) (fun _ h9 => h9) rfl dX11_feed_93 ?_
  refine lv_bipush (v := 12) hx hb dX11_feed_96 (by decide) ?_
  refine lv_iadd hx hb dX11_feed_98 ?_
  refine lv_topi (fun x_18 ex_18 => ?_)
  have ex_18 : x_18 = 12 := ex_18.trans (by decide)
  subst ex_18
  refine lv_iload hx hb dX11_feed_99 (lv_at hl 4 rfl) ?_
  have hPc := hP.sub (ws' := [(h0, .inr (10, [.ref a1, .int 0, .int 0, .int ((-1)), .null, .null, .null, .null, .null, .null, .int 0, .ref a2])), (a1, .inl (cb, 1024, .inl f_17))]) [0, 1] rfl
  have hDc := hD.sub (ws' := [(h0, .inr (10, [.ref a1, .int 0, .int 0, .int ((-1)), .null, .null, .null, .null, .null, .null, .int 0, .ref a2])), (a1, .inl (cb, 1024, .inl f_17))]) [0, 1] (by decide) rfl
  have hKc := hK.sub (tys' := [(cb, .byte)]) [0] rfl
  have hFc := va_free (wc := [(h0, .inr (10, [.ref a1, .int 0, .int 0, .int ((-1)), .null, .null, .null, .null, .null, .null, .int 0, .ref a2])), (a1, .inl (cb, 1024, .inl f_17))]) hD hS hA [0, 1] rfl
  refine va_callv (va_runV (As := [.int 12, .int p4]) (rest := []) ⟨hx, hb, hml, hown, hw⟩ (k_X11_trayWord_12 l dC dI H.size h0 a1 a2 cb f_17 p4) ⟨callB_of 2 hw (gdw (wl_7 (List.mem_of_getElem? (i := 2) rfl))) rfl rfl rfl (hw (Cond.initialized RX11) (wl_1 (List.mem_of_getElem? (i := 8) rfl))) (hw (Cond.methodLink RX11 37 yX11_trayWord) (wl_7 (List.mem_of_getElem? (i := 3) rfl))) (by decide +kernel) ⟨Nat.le_of_ble_eq_true rfl, Nat.le_of_ble_eq_true rfl⟩, (hw (Cond.instanceMethod yX11_trayWord) (wl_7 (List.mem_of_getElem? (i := 4) rfl))), (hw (Cond.selects RX11 yX11_trayWord yX11_trayWord) (wl_7 (List.mem_of_getElem? (i := 5) rfl)))⟩ ⟨pM_blind, va_recv hKc hPc (ci := 10) (q0 := 0) rfl rfl, pM_of hPc hKc hDc⟩ rfl rfl hl.1 rfl (lv_room (Nat.le_of_ble_eq_true rfl)) dX11_feed_101 ⟨Nat.le_of_ble_eq_true rfl, Nat.le_of_ble_eq_true rfl⟩) hS (fun q _ h => hFc q h) hFc (fun u t H1 locs ht hvm hp_20 hB hz1 hk1 hS => ?_)
  obtain ⟨f_21, hP1, hK1, hD1⟩ := hB
  rw [ht] at hP1
  have hK1 := va_K.moved hvm.symm hK1
  obtain ⟨hP, hD⟩ := va_join (wr := []) (w1 := [(h0, .inr (10, [.ref a1, .int 0, .int 0, .int ((-1)), .null, .null, .null, .null, .null, .null, .int 0, .ref a2])), (a1, .inl (cb, 1024, .inl f_21))]) hP hD [0, 1] [] rfl rfl (by decide) (by decide) hk1 hFc hP1 hD1
  have hK := (hK.sub (tys' := []) [] rfl).app hK1
  generalize H1 = H at hP hS ⊢
  have hP : va_P (dC, dI) vwCl [(h0, .inr (10, [.ref a1, .int 0, .int 0, .int ((-1)), .null, .null, .null, .null, .null, .null, .int 0, .ref a2])), (a1, .inl (cb, 1024, .inl f_21))] H := hP
  have hD : va_D A [(h0, .inr (10, [.ref a1, .int 0, .int 0, .int ((-1)), .null, .null, .null, .null, .null, .null, .int 0, .ref a2])), (a1, .inl (cb, 1024, .inl f_21))] := hD
  have hK : va_K (dC, dI) vwCl [(cb, .byte)] s := hK
  refine W.widen (k := 0) (n := 0) (Nat.le_of_ble_eq_true rfl) (Nat.le_of_ble_eq_true rfl) ?_
  refine lv_aload_n hx hb dX11_feed_104 rfl (lv_at hl 0 rfl) ?_
  refine lv_aload_n hx hb dX11_feed_105 rfl (lv_at hl 0 rfl) ?_
  refine va_get (D := (dC, dI)) (ci := 10) (v := .int 0) (C := RX11) (T := TX11) (N := 12) hx hb hw inlX11 hown hK hP 0 rfl rfl 1 (by decide) (hw (Cond.fieldLink RX11 23 "CodeLayout" "inTray" "I") (wl_6 (List.mem_of_getElem? (i := 23) rfl))) (fun _ h9 => h9) rfl dX11_feed_106 ?_
  refine lv_bipush (v := 16) hx hb dX11_feed_109 (by decide) ?_
  refine lv_iadd hx hb dX11_feed_111 ?_
  refine lv_topi (fun x_22 ex_22 => ?_)
  have ex_22 : x_22 = 16 := ex_22.trans (by decide)
  subst ex_22
  refine lv_iload hx hb dX11_feed_112 (lv_at hl 5 rfl) ?_
  have hPc := hP.sub (ws' := [(h0, .inr (10, [.ref a1, .int 0, .int 0, .int ((-1)), .null, .null, .null, .null, .null, .null, .int 0, .ref a2])), (a1, .inl (cb, 1024, .inl f_21))]) [0, 1] rfl
  have hDc := hD.sub (ws' := [(h0, .inr (10, [.ref a1, .int 0, .int 0, .int ((-1)), .null, .null, .null, .null, .null, .null, .int 0, .ref a2])), (a1, .inl (cb, 1024, .inl f_21))]) [0, 1] (by decide) rfl
  have hKc := hK.sub (tys' := [(cb, .byte)]) [0] rfl
  have hFc := va_free (wc := [(h0, .inr (10, [.ref a1, .int 0, .int 0, .int ((-1)), .null, .null, .null, .null, .null, .null, .int 0, .ref a2])), (a1, .inl (cb, 1024, .inl f_21))]) hD hS hA [0, 1] rfl
  refine va_callv (va_runV (As := [.int 16, .int p5]) (rest := []) ⟨hx, hb, hml, hown, hw⟩ (k_X11_trayWord_16 l dC dI H.size h0 a1 a2 cb f_21 p5) ⟨callB_of 2 hw (gdw (wl_7 (List.mem_of_getElem? (i := 2) rfl))) rfl rfl rfl (hw (Cond.initialized RX11) (wl_1 (List.mem_of_getElem? (i := 8) rfl))) (hw (Cond.methodLink RX11 37 yX11_trayWord) (wl_7 (List.mem_of_getElem? (i := 3) rfl))) (by decide +kernel) ⟨Nat.le_of_ble_eq_true rfl, Nat.le_of_ble_eq_true rfl⟩, (hw (Cond.instanceMethod yX11_trayWord) (wl_7 (List.mem_of_getElem? (i := 4) rfl))), (hw (Cond.selects RX11 yX11_trayWord yX11_trayWord) (wl_7 (List.mem_of_getElem? (i := 5) rfl)))⟩ ⟨pM_blind, va_recv hKc hPc (ci := 10) (q0 := 0) rfl rfl, pM_of hPc hKc hDc⟩ rfl rfl hl.1 rfl (lv_room (Nat.le_of_ble_eq_true rfl)) dX11_feed_114 ⟨Nat.le_of_ble_eq_true rfl, Nat.le_of_ble_eq_true rfl⟩) hS (fun q _ h => hFc q h) hFc (fun u t H1 locs ht hvm hp_24 hB hz1 hk1 hS => ?_)
  obtain ⟨f_25, hP1, hK1, hD1⟩ := hB
  rw [ht] at hP1
  have hK1 := va_K.moved hvm.symm hK1
  obtain ⟨hP, hD⟩ := va_join (wr := []) (w1 := [(h0, .inr (10, [.ref a1, .int 0, .int 0, .int ((-1)), .null, .null, .null, .null, .null, .null, .int 0, .ref a2])), (a1, .inl (cb, 1024, .inl f_25))]) hP hD [0, 1] [] rfl rfl (by decide) (by decide) hk1 hFc hP1 hD1
  have hK := (hK.sub (tys' := []) [] rfl).app hK1
  generalize H1 = H at hP hS ⊢
  have hP : va_P (dC, dI) vwCl [(h0, .inr (10, [.ref a1, .int 0, .int 0, .int ((-1)), .null, .null, .null, .null, .null, .null, .int 0, .ref a2])), (a1, .inl (cb, 1024, .inl f_25))] H := hP
  have hD : va_D A [(h0, .inr (10, [.ref a1, .int 0, .int 0, .int ((-1)), .null, .null, .null, .null, .null, .null, .int 0, .ref a2])), (a1, .inl (cb, 1024, .inl f_25))] := hD
  have hK : va_K (dC, dI) vwCl [(cb, .byte)] s := hK
  refine W.widen (k := 0) (n := 0) (Nat.le_of_ble_eq_true rfl) (Nat.le_of_ble_eq_true rfl) ?_
  refine lv_aload_n hx hb dX11_feed_117 rfl (lv_at hl 0 rfl) ?_
  refine lv_dup hx hb dX11_feed_118 rfl ?_
  refine va_get (D := (dC, dI)) (ci := 10) (v := .int 0) (C := RX11) (T := TX11) (N := 12) hx hb hw inlX11 hown hK hP 0 rfl rfl 1 (by decide) (hw (Cond.fieldLink RX11 23 "CodeLayout" "inTray" "I") (wl_6 (List.mem_of_getElem? (i := 23) rfl))) (fun _ h9 => h9) rfl dX11_feed_119 ?_
  refine lv_bipush (v := 20) hx hb dX11_feed_122 (by decide) ?_
  refine lv_iadd hx hb dX11_feed_124 ?_
  refine lv_topi (fun x_26 ex_26 => ?_)
  have ex_26 : x_26 = 20 := ex_26.trans (by decide)
  subst ex_26
  refine va_put (D := (dC, dI)) (ci := 10) (v := .int 20) (ty := .int) (C := RX11) (T := TX11) (N := 12) hx hb hw inlX11 tyX11 tyX11_ok nmX11 hown hK hP hD hS 0 rfl rfl 1 (by decide) (hw (Cond.fieldLink RX11 23 "CodeLayout" "inTray" "I") (wl_6 (List.mem_of_getElem? (i := 23) rfl))) (fun _ h9 => h9) rfl (by decide +kernel) rfl rfl (Nat.le_of_ble_eq_true rfl) dX11_feed_125 (fun H locs hP hD hS => ?_)
  have hP : va_P (dC, dI) vwCl [(h0, .inr (10, [.ref a1, .int 20, .int 0, .int ((-1)), .null, .null, .null, .null, .null, .null, .int 0, .ref a2])), (a1, .inl (cb, 1024, .inl f_25))] H := hP
  have hD : va_D A [(h0, .inr (10, [.ref a1, .int 20, .int 0, .int ((-1)), .null, .null, .null, .null, .null, .null, .int 0, .ref a2])), (a1, .inl (cb, 1024, .inl f_25))] := hD
  refine lv_aload_n hx hb dX11_feed_128 rfl (lv_at hl 0 rfl) ?_
  refine lv_dup hx hb dX11_feed_129 rfl ?_
  refine va_get (D := (dC, dI)) (ci := 10) (v := .int 0) (C := RX11) (T := TX11) (N := 12) hx hb hw inlX11 hown hK hP 0 rfl rfl 2 (by decide) (hw (Cond.fieldLink RX11 27 "CodeLayout" "fed" "I") (wl_7 (List.mem_of_getElem? (i := 0) rfl))) (fun _ h9 => h9) rfl dX11_feed_130 ?_
  refine lv_bipush (v := 20) hx hb dX11_feed_133 (by decide) ?_
  refine lv_iadd hx hb dX11_feed_135 ?_
  refine lv_topi (fun x_27 ex_27 => ?_)
  have ex_27 : x_27 = 20 := ex_27.trans (by decide)
  subst ex_27
  refine va_put (D := (dC, dI)) (ci := 10) (v := .int 20) (ty := .int) (C := RX11) (T := TX11) (N := 12) hx hb hw inlX11 tyX11 tyX11_ok nmX11 hown hK hP hD hS 0 rfl rfl 2 (by decide) (hw (Cond.fieldLink RX11 27 "CodeLayout" "fed" "I") (wl_7 (List.mem_of_getElem? (i := 0) rfl))) (fun _ h9 => h9) rfl (by decide +kernel) rfl rfl (Nat.le_of_ble_eq_true rfl) dX11_feed_136 (fun H locs hP hD hS => ?_)
  have hP : va_P (dC, dI) vwCl [(h0, .inr (10, [.ref a1, .int 20, .int 20, .int ((-1)), .null, .null, .null, .null, .null, .null, .int 0, .ref a2])), (a1, .inl (cb, 1024, .inl f_25))] H := hP
  have hD : va_D A [(h0, .inr (10, [.ref a1, .int 20, .int 20, .int ((-1)), .null, .null, .null, .null, .null, .null, .int 0, .ref a2])), (a1, .inl (cb, 1024, .inl f_25))] := hD
  refine lv_aload_n hx hb dX11_feed_139 rfl (lv_at hl 0 rfl) ?_
  refine va_get (D := (dC, dI)) (ci := 10) (v := .int 20) (C := RX11) (T := TX11) (N := 12) hx hb hw inlX11 hown hK hP 0 rfl rfl 1 (by decide) (hw (Cond.fieldLink RX11 23 "CodeLayout" "inTray" "I") (wl_6 (List.mem_of_getElem? (i := 23) rfl))) (fun _ h9 => h9) rfl dX11_feed_140 ?_
  refine W.widen (k := 0) (n := 0) (Nat.le_of_ble_eq_true rfl) (Nat.le_of_ble_eq_true rfl) ?_
  exact W.iret (v := 20) hx hb hr (fun t ht hW => ⟨⟨20, (), rfl, rfl, trivial⟩, hS.F ht⟩) hS.2.2 dX11_feed_143
