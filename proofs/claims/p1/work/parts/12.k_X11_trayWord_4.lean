set_option maxHeartbeats 8000000 in
set_option maxRecDepth 100000 in
theorem k_X11_trayWord_4 (l : Launch) (dC : Nat → ClassId) (dI : Nat → Nat → Nat) (sz : Nat) (h0 a1 a2 : Nat) (cb : ClassId) (f : Nat → Int32) (p2 : Int32) : Met l yX11_trayWord (Cond.code yX11_trayWord cX11_trayWord 4 none :: bw) ({ frames := 0, cells := 0, slots := 0, locals := 0 }) (pM [.ref h0, .int 4, .int p2] (dC, dI) sz [(h0, .inr (10, [.ref a1, .int 0, .int 0, .int ((-1)), .null, .null, .null, .null, .null, .null, .int 0, .ref a2])), (a1, .inl (cb, 1024, .inl f))] [(cb, .byte)]) (va_Qv (fun _ : Unit => True) (fun _ t => ∃ f1 : Nat → Int32, va_P (dC, dI) vwCl [(h0, .inr (10, [.ref a1, .int 0, .int 0, .int ((-1)), .null, .null, .null, .null, .null, .null, .int 0, .ref a2])), (a1, .inl (cb, 1024, .inl f1))] t.heap ∧ va_K (dC, dI) vwCl [(cb, .byte)] t ∧ va_D (va_A [(h0, .inr (10, [.ref a1, .int 0, .int 0, .int ((-1)), .null, .null, .null, .null, .null, .null, .int 0, .ref a2])), (a1, .inl (cb, 1024, .inl f))] sz) [(h0, .inr (10, [.ref a1, .int 0, .int 0, .int ((-1)), .null, .null, .null, .null, .null, .null, .int 0, .ref a2])), (a1, .inl (cb, 1024, .inl f1))]) (va_A [(h0, .inr (10, [.ref a1, .int 0, .int 0, .int ((-1)), .null, .null, .null, .null, .null, .null, .int 0, .ref a2])), (a1, .inl (cb, 1024, .inl f))] sz)) 0 0 (va_A [(h0, .inr (10, [.ref a1, .int 0, .int 0, .int ((-1)), .null, .null, .null, .null, .null, .null, .int 0, .ref a2])), (a1, .inl (cb, 1024, .inl f))] sz) := by
  refine Met.ofW (cc := cX11_trayWord) (maxL := 4) (ret := none) (by decide) rfl ?_
  intro p e s m args below meth c s₁ B hml hv
  obtain ⟨rfl, hsz, hP, hK, hD0⟩ := hv
  have hx := B.exec
  have hb := B.bytes
  have hr := B.returns
  have hts := atoms_spec (ws := Cond.code yX11_trayWord cX11_trayWord 4 none :: bw) B.pre
  have hw : ∀ w ∈ bw, w.before _ s = true := fun w h => hts w (List.mem_cons_of_mem _ h)
  have hown : s.vm.findClass RX11 = some m.cls := findClass_of_methodNamed B.named
  subst hsz
  have hD := hD0.self (sz := s.heap.size)
  generalize hAe : va_A [(h0, .inr (10, [.ref a1, .int 0, .int 0, .int ((-1)), .null, .null, .null, .null, .null, .null, .int 0, .ref a2])), (a1, .inl (cb, 1024, .inl f))] s.heap.size = A at hD ⊢
  have hA : ∀ q : Nat, s.heap.size ≤ q → A q := fun q h => by rw [← hAe]; exact Or.inr h
  have hS : va_S A s.heap s.heap [] := va_S.rf
  have hP : va_P (dC, dI) vwCl [(h0, .inr (10, [.ref a1, .int 0, .int 0, .int ((-1)), .null, .null, .null, .null, .null, .null, .int 0, .ref a2])), (a1, .inl (cb, 1024, .inl f))] s.heap := hP
  have hl := lv_entry ([.ref h0, .int 4, .int p2]) (n := 4) (Nat.le_of_ble_eq_true rfl)
  rw [lg_entry_eq]
  generalize (lg_sl ([.ref h0, .int 4, .int p2]) ++ List.replicate (4 - (lg_sl ([.ref h0, .int 4, .int p2])).length) Slot.unset).toArray = ls at hl ⊢
  have hl : lv_has ls 4 [(0, .ref h0), (1, .int 4), (2, .int p2)] := hl
  refine lv_iconst (v := 0) hx hb dX11_trayWord_0 (by decide) ?_
  refine lv_istore_n (lv' := [(3, .int 0), (0, .ref h0), (1, .int 4), (2, .int p2)]) hx hb dX11_trayWord_1 rfl hl (by decide) rfl (fun ls hl => ?_)
  refine lv_iload_n hx hb dX11_trayWord_2 rfl (lv_at hl 0 rfl) ?_
  refine lv_iconst (v := 4) hx hb dX11_trayWord_3 (by decide) ?_
  refine lv_icmp_ge (tgt := 42) hx hb dX11_trayWord_4 (by decide) (fun c_1 => absurd c_1 (by decide)) (fun c_1 => ?_)
  refine lv_iload_n hx hb dX11_trayWord_7 rfl (lv_at hl 2 rfl) ?_
  refine lv_iload_n hx hb dX11_trayWord_8 rfl (lv_at hl 0 rfl) ?_
  refine lv_iadd hx hb dX11_trayWord_9 ?_
  refine lv_topi (fun x_2 ex_2 => ?_)
  have ex_2 : x_2 = 4 := ex_2.trans (by decide)
  subst ex_2
  refine lv_aload_n hx hb dX11_trayWord_10 rfl (lv_at hl 1 rfl) ?_
  refine va_get (D := (dC, dI)) (ci := 10) (v := .ref a1) (C := RX11) (T := TX11) (N := 12) hx hb hw inlX11 hown hK hP 0 rfl rfl 0 (by decide) (hw (Cond.fieldLink RX11 7 "CodeLayout" "tray" "[B") (wl_2 (List.mem_of_getElem? (i := 22) rfl))) (fun _ h9 => h9) rfl dX11_trayWord_11 ?_
  refine va_alen (v := 1024) hx hb hK hP 1 0 rfl rfl (show Int32.ofNat 1024 = 1024 from by decide) dX11_trayWord_14 ?_
  refine lv_icmp_ge (tgt := 36) hx hb dX11_trayWord_15 (by decide) (fun c_3 => absurd c_3 (by decide)) (fun c_3 => ?_)
  refine lv_aload_n hx hb dX11_trayWord_18 rfl (lv_at hl 1 rfl) ?_
  refine va_get (D := (dC, dI)) (ci := 10) (v := .ref a1) (C := RX11) (T := TX11) (N := 12) hx hb hw inlX11 hown hK hP 0 rfl rfl 0 (by decide) (hw (Cond.fieldLink RX11 7 "CodeLayout" "tray" "[B") (wl_2 (List.mem_of_getElem? (i := 22) rfl))) (fun _ h9 => h9) rfl dX11_trayWord_19 ?_
  refine lv_iload_n hx hb dX11_trayWord_22 rfl (lv_at hl 2 rfl) ?_
  refine lv_iload_n hx hb dX11_trayWord_23 rfl (lv_at hl 0 rfl) ?_
  refine lv_iadd hx hb dX11_trayWord_24 ?_
  refine lv_topi (fun x_4 ex_4 => ?_)
  have ex_4 : x_4 = 4 := ex_4.trans (by decide)
  subst ex_4
  refine lv_iload_n hx hb dX11_trayWord_25 rfl (lv_at hl 3 rfl) ?_
  refine lv_bipush (v := 24) hx hb dX11_trayWord_26 (by decide) ?_
  refine lv_bipush (v := 8) hx hb dX11_trayWord_28 (by decide) ?_
  refine lv_iload_n hx hb dX11_trayWord_30 rfl (lv_at hl 0 rfl) ?_
  refine lv_imul hx hb dX11_trayWord_31 ?_
  refine lv_topi (fun x_5 ex_5 => ?_)
  have ex_5 : x_5 = 0 := ex_5.trans (by decide)
  subst ex_5
  refine lv_isub hx hb dX11_trayWord_32 ?_
  refine lv_topi (fun x_6 ex_6 => ?_)
  have ex_6 : x_6 = 24 := ex_6.trans (by decide)
  subst ex_6
  refine lv_iushr hx hb dX11_trayWord_33 rfl ?_
  refine lv_topi (fun x_7 ex_7 => ?_)
  refine lv_i2b hx hb dX11_trayWord_34 rfl ?_
  refine lv_topi (fun x_8 ex_8 => ?_)
  refine va_bast hx hb hK hP hD hS 1 0 rfl rfl (show vp_in 4 1024 from by unfold vp_in; decide) dX11_trayWord_35 (fun H locs hP hD hS => ?_)
  obtain ⟨f_9, hP, hD⟩ : ∃ fz : Nat → Int32, va_P (dC, dI) vwCl [(h0, .inr (10, [.ref a1, .int 0, .int 0, .int ((-1)), .null, .null, .null, .null, .null, .null, .int 0, .ref a2])), (a1, .inl (cb, 1024, .inl fz))] H ∧ va_D A [(h0, .inr (10, [.ref a1, .int 0, .int 0, .int ((-1)), .null, .null, .null, .null, .null, .null, .int 0, .ref a2])), (a1, .inl (cb, 1024, .inl fz))] := ⟨_, hP, hD⟩
  refine lv_iinc (v := 1) (lv' := [(3, .int 1), (0, .ref h0), (1, .int 4), (2, .int p2)]) hx hb dX11_trayWord_36 hl (k := 0) rfl (by decide) (by decide) rfl (fun ls hl => ?_)
  refine lv_goto (tgt := 2) hx hb dX11_trayWord_39 (by decide) ?_
  refine lv_iload_n hx hb dX11_trayWord_2 rfl (lv_at hl 0 rfl) ?_
  refine lv_iconst (v := 4) hx hb dX11_trayWord_3 (by decide) ?_
  refine lv_icmp_ge (tgt := 42) hx hb dX11_trayWord_4 (by decide) (fun c_10 => absurd c_10 (by decide)) (fun c_10 => ?_)
  refine lv_iload_n hx hb dX11_trayWord_7 rfl (lv_at hl 2 rfl) ?_
  refine lv_iload_n hx hb dX11_trayWord_8 rfl (lv_at hl 0 rfl) ?_
  refine lv_iadd hx hb dX11_trayWord_9 ?_
  refine lv_topi (fun x_11 ex_11 => ?_)
  have ex_11 : x_11 = 5 := ex_11.trans (by decide)
  subst ex_11
  refine lv_aload_n hx hb dX11_trayWord_10 rfl (lv_at hl 1 rfl) ?_
  refine va_get (D := (dC, dI)) (ci := 10) (v := .ref a1) (C := RX11) (T := TX11) (N := 12) hx hb hw inlX11 hown hK hP 0 rfl rfl 0 (by decide) (hw (Cond.fieldLink RX11 7 "CodeLayout" "tray" "[B") (wl_2 (List.mem_of_getElem? (i := 22) rfl))) (fun _ h9 => h9) rfl dX11_trayWord_11 ?_
  refine va_alen (v := 1024) hx hb hK hP 1 0 rfl rfl (show Int32.ofNat 1024 = 1024 from by decide) dX11_trayWord_14 ?_
  refine lv_icmp_ge (tgt := 36) hx hb dX11_trayWord_15 (by decide) (fun c_12 => absurd c_12 (by decide)) (fun c_12 => ?_)
  refine lv_aload_n hx hb dX11_trayWord_18 rfl (lv_at hl 1 rfl) ?_
  refine va_get (D := (dC, dI)) (ci := 10) (v := .ref a1) (C := RX11) (T := TX11) (N := 12) hx hb hw inlX11 hown hK hP 0 rfl rfl 0 (by decide) (hw (Cond.fieldLink RX11 7 "CodeLayout" "tray" "[B") (wl_2 (List.mem_of_getElem? (i := 22) rfl))) (fun _ h9 => h9) rfl dX11_trayWord_19 ?_
  refine lv_iload_n hx hb dX11_trayWord_22 rfl (lv_at hl 2 rfl) ?_
  refine lv_iload_n hx hb dX11_trayWord_23 rfl (lv_at hl 0 rfl) ?_
  refine lv_iadd hx hb dX11_trayWord_24 ?_
  refine lv_topi (fun x_13 ex_13 => ?_)
  have ex_13 : x_13 = 5 := ex_13.trans (by decide)
  subst ex_13
  refine lv_iload_n hx hb dX11_trayWord_25 rfl (lv_at hl 3 rfl) ?_
  refine lv_bipush (v := 24) hx hb dX11_trayWord_26 (by decide) ?_
  refine lv_bipush (v := 8) hx hb dX11_trayWord_28 (by decide) ?_
  refine lv_iload_n hx hb dX11_trayWord_30 rfl (lv_at hl 0 rfl) ?_
  refine lv_imul hx hb dX11_trayWord_31 ?_
  refine lv_topi (fun x_14 ex_14 => ?_)
  have ex_14 : x_14 = 8 := ex_14.trans (by decide)
  subst ex_14
  refine lv_isub hx hb dX11_trayWord_32 ?_
  refine lv_topi (fun x_15 ex_15 => ?_)
  have ex_15 : x_15 = 16 := ex_15.trans (by decide)
  subst ex_15
  refine lv_iushr hx hb dX11_trayWord_33 rfl ?_
  refine lv_topi (fun x_16 ex_16 => ?_)
  refine lv_i2b hx hb dX11_trayWord_34 rfl ?_
  refine lv_topi (fun x_17 ex_17 => ?_)
  refine va_bast hx hb hK hP hD hS 1 0 rfl rfl (show vp_in 5 1024 from by unfold vp_in; decide) dX11_trayWord_35 (fun H locs hP hD hS => ?_)
  obtain ⟨f_18, hP, hD⟩ : ∃ fz : Nat → Int32, va_P (dC, dI) vwCl [(h0, .inr (10, [.ref a1, .int 0, .int 0, .int ((-1)), .null, .null, .null, .null, .null, .null, .int 0, .ref a2])), (a1, .inl (cb, 1024, .inl fz))] H ∧ va_D A [(h0, .inr (10, [.ref a1, .int 0, .int 0, .int ((-1)), .null, .null, .null, .null, .null, .null, .int 0, .ref a2])), (a1, .inl (cb, 1024, .inl fz))] := ⟨_, hP, hD⟩
  refine lv_iinc (v := 2) (lv' := [(3, .int 2), (0, .ref h0), (1, .int 4), (2, .int p2)]) hx hb dX11_trayWord_36 hl (k := 0) rfl (by decide) (by decide) rfl (fun ls hl => ?_)
  refine lv_goto (tgt := 2) hx hb dX11_trayWord_39 (by decide) ?_
  refine lv_iload_n hx hb dX11_trayWord_2 rfl (lv_at hl 0 rfl) ?_
  refine lv_iconst (v := 4) hx hb dX11_trayWord_3 (by decide) ?_
  refine lv_icmp_ge (tgt := 42) hx hb dX11_trayWord_4 (by decide) (fun c_19 => absurd c_19 (by decide)) (fun c_19 => ?_)
  refine lv_iload_n hx hb dX11_trayWord_7 rfl (lv_at hl 2 rfl) ?_
  refine lv_iload_n hx hb dX11_trayWord_8 rfl (lv_at hl 0 rfl) ?_
  refine lv_iadd hx hb dX11_trayWord_9 ?_
  refine lv_topi (fun x_20 ex_20 => ?_)
  have ex_20 : x_20 = 6 := ex_20.trans (by decide)
  subst ex_20
  refine lv_aload_n hx hb dX11_trayWord_10 rfl (lv_at hl 1 rfl) ?_
  refine va_get (D := (dC, dI)) (ci := 10) (v := .ref a1) (C := RX11) (T := TX11) (N := 12) hx hb hw inlX11 hown hK hP 0 rfl rfl 0 (by decide) (hw (Cond.fieldLink RX11 7 "CodeLayout" "tray" "[B") (wl_2 (List.mem_of_getElem? (i := 22) rfl))) (fun _ h9 => h9) rfl dX11_trayWord_11 ?_
  refine va_alen (v := 1024) hx hb hK hP 1 0 rfl rfl (show Int32.ofNat 1024 = 1024 from by decide) dX11_trayWord_14 ?_
  refine lv_icmp_ge (tgt := 36) hx hb dX11_trayWord_15 (by decide) (fun c_21 => absurd c_21 (by decide)) (fun c_21 => ?_)
  refine lv_aload_n hx hb dX11_trayWord_18 rfl (lv_at hl 1 rfl) ?_
  refine va_get (D := (dC, dI)) (ci := 10) (v := .ref a1) (C := RX11) (T := TX11) (N := 12) hx hb hw inlX11 hown hK hP 0 rfl rfl 0 (by decide) (hw (Cond.fieldLink RX11 7 "CodeLayout" "tray" "[B") (wl_2 (List.mem_of_getElem? (i := 22) rfl))) (fun _ h9 => h9) rfl dX11_trayWord_19 ?_
  refine lv_iload_n hx hb dX11_trayWord_22 rfl (lv_at hl 2 rfl) ?_
  refine lv_iload_n hx hb dX11_trayWord_23 rfl (lv_at hl 0 rfl) ?_
  refine lv_iadd hx hb dX11_trayWord_24 ?_
  refine lv_topi (fun x_22 ex_22 => ?_)
  have ex_22 : x_22 = 6 := ex_22.trans (by decide)
  subst ex_22
  refine lv_iload_n hx hb dX11_trayWord_25 rfl (lv_at hl 3 rfl) ?_
  refine lv_bipush (v := 24) hx hb dX11_trayWord_26 (by decide) ?_
  refine lv_bipush (v := 8) hx hb dX11_trayWord_28 (by decide) ?_
  refine lv_iload_n hx hb dX11_trayWord_30 rfl (lv_at hl 0 rfl) ?_
  refine lv_imul hx hb dX11_trayWord_31 ?_
  refine lv_topi (fun x_23 ex_23 => ?_)
  have ex_23 : x_23 = 16 := ex_23.trans (by decide)
  subst ex_23
  refine lv_isub hx hb dX11_trayWord_32 ?_
  refine lv_topi (fun x_24 ex_24 => ?_)
  have ex_24 : x_24 = 8 := ex_24.trans (by decide)
  subst ex_24
  refine lv_iushr hx hb dX11_trayWord_33 rfl ?_
  refine lv_topi (fun x_25 ex_25 => ?_)
  refine lv_i2b hx hb dX11_trayWord_34 rfl ?_
  refine lv_topi (fun x_26 ex_26 => ?_)
  refine va_bast hx hb hK hP hD hS 1 0 rfl rfl (show vp_in 6 1024 from by unfold vp_in; decide) dX11_trayWord_35 (fun H locs hP hD hS => ?_)
  obtain ⟨f_27, hP, hD⟩ : ∃ fz : Nat → Int32, va_P (dC, dI) vwCl [(h0, .inr (10, [.ref a1, .int 0, .int 0, .int ((-1)), .null, .null, .null, .null, .null, .null, .int 0, .ref a2])), (a1, .inl (cb, 1024, .inl fz))] H ∧ va_D A [(h0, .inr (10, [.ref a1, .int 0, .int 0, .int ((-1)), .null, .null, .null, .null, .null, .null, .int 0, .ref a2])), (a1, .inl (cb, 1024, .inl fz))] := ⟨_, hP, hD⟩
  refine lv_iinc (v := 3) (lv' := [(3, .int 3), (0, .ref h0), (1, .int 4), (2, .int p2)]) hx hb dX11_trayWord_36 hl (k := 0) rfl (by decide) (by decide) rfl (fun ls hl => ?_)
  refine lv_goto (tgt := 2) hx hb dX11_trayWord_39 (by decide) ?_
  refine lv_iload_n hx hb dX11_trayWord_2 rfl (lv_at hl 0 rfl) ?_
  refine lv_iconst (v := 4) hx hb dX11_trayWord_3 (by decide) ?_
  refine lv_icmp_ge (tgt := 42) hx hb dX11_trayWord_4 (by decide) (fun c_28 => absurd c_28 (by decide)) (fun c_28 => ?_)
  refine lv_iload_n hx hb dX11_trayWord_7 rfl (lv_at hl 2 rfl) ?_
  refine lv_iload_n hx hb dX11_trayWord_8 rfl (lv_at hl 0 rfl) ?_
  refine lv_iadd hx hb dX11_trayWord_9 ?_
  refine lv_topi (fun x_29 ex_29 => ?_)
  have ex_29 : x_29 = 7 := ex_29.trans (by decide)
  subst ex_29
  refine lv_aload_n hx hb dX11_trayWord_10 rfl (lv_at hl 1 rfl) ?_
  refine va_get (D := (dC, dI)) (ci := 10) (v := .ref a1) (C := RX11) (T := TX11) (N := 12) hx hb hw inlX11 hown hK hP 0 rfl rfl 0 (by decide) (hw (Cond.fieldLink RX11 7 "CodeLayout" "tray" "[B") (wl_2 (List.mem_of_getElem? (i := 22) rfl))) (fun _ h9 => h9) rfl dX11_trayWord_11 ?_
  refine va_alen (v := 1024) hx hb hK hP 1 0 rfl rfl (show Int32.ofNat 1024 = 1024 from by decide) dX11_trayWord_14 ?_
  refine lv_icmp_ge (tgt := 36) hx hb dX11_trayWord_15 (by decide) (fun c_30 => absurd c_30 (by decide)) (fun c_30 => ?_)
  refine lv_aload_n hx hb dX11_trayWord_18 rfl (lv_at hl 1 rfl) ?_
  refine va_get (D := (dC, dI)) (ci := 10) (v := .ref a1) (C := RX11) (T := TX11) (N := 12) hx hb hw inlX11 hown hK hP 0 rfl rfl 0 (by decide) (hw (Cond.fieldLink RX11 7 "CodeLayout" "tray" "[B") (wl_2 (List.mem_of_getElem? (i := 22) rfl))) (fun _ h9 => h9) rfl dX11_trayWord_19 ?_
  refine lv_iload_n hx hb dX11_trayWord_22 rfl (lv_at hl 2 rfl) ?_
  refine lv_iload_n hx hb dX11_trayWord_23 rfl (lv_at hl 0 rfl) ?_
  refine lv_iadd hx hb dX11_trayWord_24 ?_
  refine lv_topi (fun x_31 ex_31 => ?_)
  have ex_31 : x_31 = 7 := ex_31.trans (by decide)
  subst ex_31
  refine lv_iload_n hx hb dX11_trayWord_25 rfl (lv_at hl 3 rfl) ?_
  refine lv_bipush (v := 24) hx hb dX11_trayWord_26 (by decide) ?_
  refine lv_bipush (v := 8) hx hb dX11_trayWord_28 (by decide) ?_
  refine lv_iload_n hx hb dX11_trayWord_30 rfl (lv_at hl 0 rfl) ?_
  refine lv_imul hx hb dX11_trayWord_31 ?_
  refine lv_topi (fun x_32 ex_32 => ?_)
  have ex_32 : x_32 = 24 := ex_32.trans (by decide)
  subst ex_32
  refine lv_isub hx hb dX11_trayWord_32 ?_
  refine lv_topi (fun x_33 ex_33 => ?_)
  have ex_33 : x_33 = 0 := ex_33.trans (by decide)
  subst ex_33
  refine lv_iushr hx hb dX11_trayWord_33 rfl ?_
  refine lv_topi (fun x_34 ex_34 => ?_)
  refine lv_i2b hx hb dX11_trayWord_34 rfl ?_
  refine lv_topi (fun x_35 ex_35 => ?_)
  refine va_bast hx hb hK hP hD hS 1 0 rfl rfl (show vp_in 7 1024 from by unfold vp_in; decide) dX11_trayWord_35 (fun H locs hP hD hS => ?_)
  obtain ⟨f_36, hP, hD⟩ : ∃ fz : Nat → Int32, va_P (dC, dI) vwCl [(h0, .inr (10, [.ref a1, .int 0, .int 0, .int ((-1)), .null, .null, .null, .null, .null, .null, .int 0, .ref a2])), (a1, .inl (cb, 1024, .inl fz))] H ∧ va_D A [(h0, .inr (10, [.ref a1, .int 0, .int 0, .int ((-1)), .null, .null, .null, .null, .null, .null, .int 0, .ref a2])), (a1, .inl (cb, 1024, .inl fz))] := ⟨_, hP, hD⟩
  refine lv_iinc (v := 4) (lv' := [(3, .int 4), (0, .ref h0), (1, .int 4), (2, .int p2)]) hx hb dX11_trayWord_36 hl (k := 0) rfl (by decide) (by decide) rfl (fun ls hl => ?_)
  refine lv_goto (tgt := 2) hx hb dX11_trayWord_39 (by decide) ?_
  refine lv_iload_n hx hb dX11_trayWord_2 rfl (lv_at hl 0 rfl) ?_
  refine lv_iconst (v := 4) hx hb dX11_trayWord_3 (by decide) ?_
  refine lv_icmp_ge (tgt := 42) hx hb dX11_trayWord_4 (by decide) (fun c_37 => ?_) (fun c_37 => absurd c_37 (by decide))
  refine W.widen (k := 0) (n := 0) (Nat.le_of_ble_eq_true rfl) (Nat.le_of_ble_eq_true rfl) ?_
  have hP9 := hP.sub (ws' := [(h0, .inr (10, [.ref a1, .int 0, .int 0, .int ((-1)), .null, .null, .null, .null, .null, .null, .int 0, .ref a2])), (a1, .inl (cb, 1024, .inl f_36))]) [0, 1] rfl
  have hD9 := hD.sub (ws' := [(h0, .inr (10, [.ref a1, .int 0, .int 0, .int ((-1)), .null, .null, .null, .null, .null, .null, .int 0, .ref a2])), (a1, .inl (cb, 1024, .inl f_36))]) [0, 1] (by decide) rfl
  have hK9 := hK.sub (tys' := [(cb, .byte)]) [0] rfl
  exact W.vret hx hb hr (fun t ht hW => ⟨⟨(), rfl, trivial, ⟨(f_36), by rw [ht]; exact hP9, va_K.moved hW.alike hK9, hD9⟩⟩, hS.F ht⟩) hS.2.2 dX11_trayWord_42
