set_option maxHeartbeats 8000000 in
set_option maxRecDepth 100000 in
theorem k_X15_four_12 (l : Launch) (dC : Nat → ClassId) (dI : Nat → Nat → Nat) (sz : Nat) (h0 : Nat) (g : Nat → Nat) (cb : ClassId) (f : Nat → Int32) (p1 : Int32) : Met l yX15_four (Cond.code yX15_four cX15_four 3 none :: bw) ({ frames := 0, cells := 0, slots := 0, locals := 0 }) (pM [.ref h0, .int p1] (dC, dI) sz [(h0, .inr (14, mFt g 12)), (g 0, .inl (cb, 60000, .inl f))] [(cb, .byte)]) (va_Qv (fun _ : Unit => True) (fun _ t => ∃ f1 : Nat → Int32, va_P (dC, dI) vwCl [(h0, .inr (14, mFt g 16)), (g 0, .inl (cb, 60000, .inl f1))] t.heap ∧ va_K (dC, dI) vwCl [(cb, .byte)] t ∧ va_D (va_A [(h0, .inr (14, mFt g 12)), (g 0, .inl (cb, 60000, .inl f))] sz) [(h0, .inr (14, mFt g 16)), (g 0, .inl (cb, 60000, .inl f1))]) (va_A [(h0, .inr (14, mFt g 12)), (g 0, .inl (cb, 60000, .inl f))] sz)) 0 0 (va_A [(h0, .inr (14, mFt g 12)), (g 0, .inl (cb, 60000, .inl f))] sz) := by
  refine Met.ofW (cc := cX15_four) (maxL := 3) (ret := none) (by decide) rfl ?_
  intro p e s m args below meth c s₁ B hml hv
  obtain ⟨rfl, hsz, hP, hK, hD0⟩ := hv
  have hx := B.exec
  have hb := B.bytes
  have hr := B.returns
  have hts := atoms_spec (ws := Cond.code yX15_four cX15_four 3 none :: bw) B.pre
  have hw : ∀ w ∈ bw, w.before _ s = true := fun w h => hts w (List.mem_cons_of_mem _ h)
  have hown : s.vm.findClass RX15 = some m.cls := findClass_of_methodNamed B.named
  subst hsz
  have hD := hD0.self (sz := s.heap.size)
  generalize hAe : va_A [(h0, .inr (14, mFt g 12)), (g 0, .inl (cb, 60000, .inl f))] s.heap.size = A at hD ⊢
  have hA : ∀ q : Nat, s.heap.size ≤ q → A q := fun q h => by rw [← hAe]; exact Or.inr h
  have hS : va_S A s.heap s.heap [] := va_S.rf
  have hP : va_P (dC, dI) vwCl [(h0, .inr (14, mFt g 12)), (g 0, .inl (cb, 60000, .inl f))] s.heap := hP
  have hl := lv_entry ([.ref h0, .int p1]) (n := 3) (Nat.le_of_ble_eq_true rfl)
  rw [lg_entry_eq]
  generalize (lg_sl ([.ref h0, .int p1]) ++ List.replicate (3 - (lg_sl ([.ref h0, .int p1])).length) Slot.unset).toArray = ls at hl ⊢
  have hl : lv_has ls 3 [(0, .ref h0), (1, .int p1)] := hl
  refine lv_bipush (v := 24) hx hb dX15_four_0 (by decide) ?_
  refine lv_istore_n (lv' := [(2, .int 24), (0, .ref h0), (1, .int p1)]) hx hb dX15_four_2 rfl hl (by decide) rfl (fun ls hl => ?_)
  refine lv_iload_n hx hb dX15_four_3 rfl (lv_at hl 0 rfl) ?_
  refine lv_if_lt (tgt := 36) hx hb dX15_four_4 (by decide) (fun c_1 => absurd c_1 (by decide)) (fun c_1 => ?_)
  refine lv_aload_n hx hb dX15_four_7 rfl (lv_at hl 1 rfl) ?_
  refine va_get (D := (dC, dI)) (ci := 14) (v := .ref (g 0)) (C := RX15) (T := TX15) (N := 64) hx hb hw inlX15 hown hK hP 0 rfl rfl 0 (by decide) (hw (Cond.fieldLink RX15 10 "CodeLayoutModel" "tray" "[B") (wl_4 (List.mem_of_getElem? (i := 10) rfl))) (fun _ h9 => h9) rfl dX15_four_8 ?_
  refine lv_aload_n hx hb dX15_four_11 rfl (lv_at hl 1 rfl) ?_
  refine va_get (D := (dC, dI)) (ci := 14) (v := .int 12) (C := RX15) (T := TX15) (N := 64) hx hb hw inlX15 hown hK hP 0 rfl rfl 1 (by decide) (hw (Cond.fieldLink RX15 178 "CodeLayoutModel" "trayed" "I") (wl_7 (List.mem_of_getElem? (i := 6) rfl))) (fun _ h9 => h9) rfl dX15_four_12 ?_
  refine lv_iload_n hx hb dX15_four_15 rfl (lv_at hl 2 rfl) ?_
  refine lv_iload_n hx hb dX15_four_16 rfl (lv_at hl 0 rfl) ?_
  refine lv_ishr hx hb dX15_four_17 ?_
  refine lv_topi (fun x_2 ex_2 => ?_)
  refine lv_i2b hx hb dX15_four_18 rfl ?_
  refine lv_topi (fun x_3 ex_3 => ?_)
  refine va_bast hx hb hK hP hD hS 1 0 rfl rfl (show vp_in 12 60000 from by unfold vp_in; decide) dX15_four_19 (fun H locs hP hD hS => ?_)
  obtain ⟨f_4, hP, hD⟩ : ∃ fz : Nat → Int32, va_P (dC, dI) vwCl [(h0, .inr (14, mFt g 12)), (g 0, .inl (cb, 60000, .inl fz))] H ∧ va_D A [(h0, .inr (14, mFt g 12)), (g 0, .inl (cb, 60000, .inl fz))] := ⟨_, hP, hD⟩
  refine lv_aload_n hx hb dX15_four_20 rfl (lv_at hl 1 rfl) ?_
  refine lv_dup hx hb dX15_four_21 rfl ?_
  refine va_get (D := (dC, dI)) (ci := 14) (v := .int 12) (C := RX15) (T := TX15) (N := 64) hx hb hw inlX15 hown hK hP 0 rfl rfl 1 (by decide) (hw (Cond.fieldLink RX15 178 "CodeLayoutModel" "trayed" "I") (wl_7 (List.mem_of_getElem? (i := 6) rfl))) (fun _ h9 => h9) rfl dX15_four_22 ?_
  refine lv_iconst (v := 1) hx hb dX15_four_25 (by decide) ?_
  refine lv_iadd hx hb dX15_four_26 ?_
  refine lv_topi (fun x_5 ex_5 => ?_)
  have ex_5 : x_5 = 13 := ex_5.trans (by decide)
  subst ex_5
  refine va_put (D := (dC, dI)) (ci := 14) (v := .int 13) (ty := .int) (C := RX15) (T := TX15) (N := 64) hx hb hw inlX15 tyX15 tyX15_ok nmX15 hown hK hP hD hS 0 rfl rfl 1 (by decide) (hw (Cond.fieldLink RX15 178 "CodeLayoutModel" "trayed" "I") (wl_7 (List.mem_of_getElem? (i := 6) rfl))) (fun _ h9 => h9) rfl (by decide +kernel) rfl rfl (Nat.le_of_ble_eq_true rfl) dX15_four_27 (fun H locs hP hD hS => ?_)
  have hP : va_P (dC, dI) vwCl [(h0, .inr (14, mFt g 13)), (g 0, .inl (cb, 60000, .inl f_4))] H := hP
  have hD : va_D A [(h0, .inr (14, mFt g 13)), (g 0, .inl (cb, 60000, .inl f_4))] := hD
  refine lv_iinc (v := 16) (lv' := [(2, .int 16), (0, .ref h0), (1, .int p1)]) hx hb dX15_four_30 hl (k := 0) rfl (by decide) (by decide) rfl (fun ls hl => ?_)
  refine lv_goto (tgt := 3) hx hb dX15_four_33 (by decide) ?_
  refine lv_iload_n hx hb dX15_four_3 rfl (lv_at hl 0 rfl) ?_
  refine lv_if_lt (tgt := 36) hx hb dX15_four_4 (by decide) (fun c_6 => absurd c_6 (by decide)) (fun c_6 => ?_)
  refine lv_aload_n hx hb dX15_four_7 rfl (lv_at hl 1 rfl) ?_
  refine va_get (D := (dC, dI)) (ci := 14) (v := .ref (g 0)) (C := RX15) (T := TX15) (N := 64) hx hb hw inlX15 hown hK hP 0 rfl rfl 0 (by decide) (hw (Cond.fieldLink RX15 10 "CodeLayoutModel" "tray" "[B") (wl_4 (List.mem_of_getElem? (i := 10) rfl))) (fun _ h9 => h9) rfl dX15_four_8 ?_
  refine lv_aload_n hx hb dX15_four_11 rfl (lv_at hl 1 rfl) ?_
  refine va_get (D := (dC, dI)) (ci := 14) (v := .int 13) (C := RX15) (T := TX15) (N := 64) hx hb hw inlX15 hown hK hP 0 rfl rfl 1 (by decide) (hw (Cond.fieldLink RX15 178 "CodeLayoutModel" "trayed" "I") (wl_7 (List.mem_of_getElem? (i := 6) rfl))) (fun _ h9 => h9) rfl dX15_four_12 ?_
  refine lv_iload_n hx hb dX15_four_15 rfl (lv_at hl 2 rfl) ?_
  refine lv_iload_n hx hb dX15_four_16 rfl (lv_at hl 0 rfl) ?_
  refine lv_ishr hx hb dX15_four_17 ?_
  refine lv_topi (fun x_7 ex_7 => ?_)
  refine lv_i2b hx hb dX15_four_18 rfl ?_
  refine lv_topi (fun x_8 ex_8 => ?_)
  refine va_bast hx hb hK hP hD hS 1 0 rfl rfl (show vp_in 13 60000 from by unfold vp_in; decide) dX15_four_19 (fun H locs hP hD hS => ?_)
  obtain ⟨f_9, hP, hD⟩ : ∃ fz : Nat → Int32, va_P (dC, dI) vwCl [(h0, .inr (14, mFt g 13)), (g 0, .inl (cb, 60000, .inl fz))] H ∧ va_D A [(h0, .inr (14, mFt g 13)), (g 0, .inl (cb, 60000, .inl fz))] := ⟨_, hP, hD⟩
  refine lv_aload_n hx hb dX15_four_20 rfl (lv_at hl 1 rfl) ?_
  refine lv_dup hx hb dX15_four_21 rfl ?_
  refine va_get (D := (dC, dI)) (ci := 14) (v := .int 13) (C := RX15) (T := TX15) (N := 64) hx hb hw inlX15 hown hK hP 0 rfl rfl 1 (by decide) (hw (Cond.fieldLink RX15 178 "CodeLayoutModel" "trayed" "I") (wl_7 (List.mem_of_getElem? (i := 6) rfl))) (fun _ h9 => h9) rfl dX15_four_22 ?_
  refine lv_iconst (v := 1) hx hb dX15_four_25 (by decide) ?_
  refine lv_iadd hx hb dX15_four_26 ?_
  refine lv_topi (fun x_10 ex_10 => ?_)
  have ex_10 : x_10 = 14 := ex_10.trans (by decide)
  subst ex_10
  refine va_put (D := (dC, dI)) (ci := 14) (v := .int 14) (ty := .int) (C := RX15) (T := TX15) (N := 64) hx hb hw inlX15 tyX15 tyX15_ok nmX15 hown hK hP hD hS 0 rfl rfl 1 (by decide) (hw (Cond.fieldLink RX15 178 "CodeLayoutModel" "trayed" "I") (wl_7 (List.mem_of_getElem? (i := 6) rfl))) (fun _ h9 => h9) rfl (by decide +kernel) rfl rfl (Nat.le_of_ble_eq_true rfl) dX15_four_27 (fun H locs hP hD hS => ?_)
  have hP : va_P (dC, dI) vwCl [(h0, .inr (14, mFt g 14)), (g 0, .inl (cb, 60000, .inl f_9))] H := hP
  have hD : va_D A [(h0, .inr (14, mFt g 14)), (g 0, .inl (cb, 60000, .inl f_9))] := hD
  refine lv_iinc (v := 8) (lv' := [(2, .int 8), (0, .ref h0), (1, .int p1)]) hx hb dX15_four_30 hl (k := 0) rfl (by decide) (by decide) rfl (fun ls hl => ?_)
  refine lv_goto (tgt := 3) hx hb dX15_four_33 (by decide) ?_
  refine lv_iload_n hx hb dX15_four_3 rfl (lv_at hl 0 rfl) ?_
  refine lv_if_lt (tgt := 36) hx hb dX15_four_4 (by decide) (fun c_11 => absurd c_11 (by decide)) (fun c_11 => ?_)
  refine lv_aload_n hx hb dX15_four_7 rfl (lv_at hl 1 rfl) ?_
  refine va_get (D := (dC, dI)) (ci := 14) (v := .ref (g 0)) (C := RX15) (T := TX15) (N := 64) hx hb hw inlX15 hown hK hP 0 rfl rfl 0 (by decide) (hw (Cond.fieldLink RX15 10 "CodeLayoutModel" "tray" "[B") (wl_4 (List.mem_of_getElem? (i := 10) rfl))) (fun _ h9 => h9) rfl dX15_four_8 ?_
  refine lv_aload_n hx hb dX15_four_11 rfl (lv_at hl 1 rfl) ?_
  refine va_get (D := (dC, dI)) (ci := 14) (v := .int 14) (C := RX15) (T := TX15) (N := 64) hx hb hw inlX15 hown hK hP 0 rfl rfl 1 (by decide) (hw (Cond.fieldLink RX15 178 "CodeLayoutModel" "trayed" "I") (wl_7 (List.mem_of_getElem? (i := 6) rfl))) (fun _ h9 => h9) rfl dX15_four_12 ?_
  refine lv_iload_n hx hb dX15_four_15 rfl (lv_at hl 2 rfl) ?_
  refine lv_iload_n hx hb dX15_four_16 rfl (lv_at hl 0 rfl) ?_
  refine lv_ishr hx hb dX15_four_17 ?_
  refine lv_topi (fun x_12 ex_12 => ?_)
  refine lv_i2b hx hb dX15_four_18 rfl ?_
  refine lv_topi (fun x_13 ex_13 => ?_)
  refine va_bast hx hb hK hP hD hS 1 0 rfl rfl (show vp_in 14 60000 from by unfold vp_in; decide) dX15_four_19 (fun H locs hP hD hS => ?_)
  obtain ⟨f_14, hP, hD⟩ : ∃ fz : Nat → Int32, va_P (dC, dI) vwCl [(h0, .inr (14, mFt g 14)), (g 0, .inl (cb, 60000, .inl fz))] H ∧ va_D A [(h0, .inr (14, mFt g 14)), (g 0, .inl (cb, 60000, .inl fz))] := ⟨_, hP, hD⟩
  refine lv_aload_n hx hb dX15_four_20 rfl (lv_at hl 1 rfl) ?_
  refine lv_dup hx hb dX15_four_21 rfl ?_
  refine va_get (D := (dC, dI)) (ci := 14) (v := .int 14) (C := RX15) (T := TX15) (N := 64) hx hb hw inlX15 hown hK hP 0 rfl rfl 1 (by decide) (hw (Cond.fieldLink RX15 178 "CodeLayoutModel" "trayed" "I") (wl_7 (List.mem_of_getElem? (i := 6) rfl))) (fun _ h9 => h9) rfl dX15_four_22 ?_
  refine lv_iconst (v := 1) hx hb dX15_four_25 (by decide) ?_
  refine lv_iadd hx hb dX15_four_26 ?_
  refine lv_topi (fun x_15 ex_15 => ?_)
  have ex_15 : x_15 = 15 := ex_15.trans (by decide)
  subst ex_15
  refine va_put (D := (dC, dI)) (ci := 14) (v := .int 15) (ty := .int) (C := RX15) (T := TX15) (N := 64) hx hb hw inlX15 tyX15 tyX15_ok nmX15 hown hK hP hD hS 0 rfl rfl 1 (by decide) (hw (Cond.fieldLink RX15 178 "CodeLayoutModel" "trayed" "I") (wl_7 (List.mem_of_getElem? (i := 6) rfl))) (fun _ h9 => h9) rfl (by decide +kernel) rfl rfl (Nat.le_of_ble_eq_true rfl) dX15_four_27 (fun H locs hP hD hS => ?_)
  have hP : va_P (dC, dI) vwCl [(h0, .inr (14, mFt g 15)), (g 0, .inl (cb, 60000, .inl f_14))] H := hP
  have hD : va_D A [(h0, .inr (14, mFt g 15)), (g 0, .inl (cb, 60000, .inl f_14))] := hD
  refine lv_iinc (v := 0) (lv' := [(2, .int 0), (0, .ref h0), (1, .int p1)]) hx hb dX15_four_30 hl (k := 0) rfl (by decide) (by decide) rfl (fun ls hl => ?_)
  refine lv_goto (tgt := 3) hx hb dX15_four_33 (by decide) ?_
  refine lv_iload_n hx hb dX15_four_3 rfl (lv_at hl 0 rfl) ?_
  refine lv_if_lt (tgt := 36) hx hb dX15_four_4 (by decide) (fun c_16 => absurd c_16 (by decide)) (fun c_16 => ?_)
  refine lv_aload_n hx hb dX15_four_7 rfl (lv_at hl 1 rfl) ?_
  refine va_get (D := (dC, dI)) (ci := 14) (v := .ref (g 0)) (C := RX15) (T := TX15) (N := 64) hx hb hw inlX15 hown hK hP 0 rfl rfl 0 (by decide) (hw (Cond.fieldLink RX15 10 "CodeLayoutModel" "tray" "[B") (wl_4 (List.mem_of_getElem? (i := 10) rfl))) (fun _ h9 => h9) rfl dX15_four_8 ?_
  refine lv_aload_n hx hb dX15_four_11 rfl (lv_at hl 1 rfl) ?_
  refine va_get (D := (dC, dI)) (ci := 14) (v := .int 15) (C := RX15) (T := TX15) (N := 64) hx hb hw inlX15 hown hK hP 0 rfl rfl 1 (by decide) (hw (Cond.fieldLink RX15 178 "CodeLayoutModel" "trayed" "I") (wl_7 (List.mem_of_getElem? (i := 6) rfl))) (fun _ h9 => h9) rfl dX15_four_12 ?_
  refine lv_iload_n hx hb dX15_four_15 rfl (lv_at hl 2 rfl) ?_
  refine lv_iload_n hx hb dX15_four_16 rfl (lv_at hl 0 rfl) ?_
  refine lv_ishr hx hb dX15_four_17 ?_
  refine lv_topi (fun x_17 ex_17 => ?_)
  refine lv_i2b hx hb dX15_four_18 rfl ?_
  refine lv_topi (fun x_18 ex_18 => ?_)
  refine va_bast hx hb hK hP hD hS 1 0 rfl rfl (show vp_in 15 60000 from by unfold vp_in; decide) dX15_four_19 (fun H locs hP hD hS => ?_)
  obtain ⟨f_19, hP, hD⟩ : ∃ fz : Nat → Int32, va_P (dC, dI) vwCl [(h0, .inr (14, mFt g 15)), (g 0, .inl (cb, 60000, .inl fz))] H ∧ va_D A [(h0, .inr (14, mFt g 15)), (g 0, .inl (cb, 60000, .inl fz))] := ⟨_, hP, hD⟩
  refine lv_aload_n hx hb dX15_four_20 rfl (lv_at hl 1 rfl) ?_
  refine lv_dup hx hb dX15_four_21 rfl ?_
  refine va_get (D := (dC, dI)) (ci := 14) (v := .int 15) (C := RX15) (T := TX15) (N := 64) hx hb hw inlX15 hown hK hP 0 rfl rfl 1 (by decide) (hw (Cond.fieldLink RX15 178 "CodeLayoutModel" "trayed" "I") (wl_7 (List.mem_of_getElem? (i := 6) rfl))) (fun _ h9 => h9) rfl dX15_four_22 ?_
  refine lv_iconst (v := 1) hx hb dX15_four_25 (by decide) ?_
  refine lv_iadd hx hb dX15_four_26 ?_
  refine lv_topi (fun x_20 ex_20 => ?_)
  have ex_20 : x_20 = 16 := ex_20.trans (by decide)
  subst ex_20
  refine va_put (D := (dC, dI)) (ci := 14) (v := .int 16) (ty := .int) (C := RX15) (T := TX15) (N := 64) hx hb hw inlX15 tyX15 tyX15_ok nmX15 hown hK hP hD hS 0 rfl rfl 1 (by decide) (hw (Cond.fieldLink RX15 178 "CodeLayoutModel" "trayed" "I") (wl_7 (List.mem_of_getElem? (i := 6) rfl))) (fun _ h9 => h9) rfl (by decide +kernel) rfl rfl (Nat.le_of_ble_eq_true rfl) dX15_four_27 (fun H locs hP hD hS => ?_)
  have hP : va_P (dC, dI) vwCl [(h0, .inr (14, mFt g 16)), (g 0, .inl (cb, 60000, .inl f_19))] H := hP
  have hD : va_D A [(h0, .inr (14, mFt g 16)), (g 0, .inl (cb, 60000, .inl f_19))] := hD
  refine lv_iinc (v := (-8)) (lv' := [(2, .int ((-8))), (0, .ref h0), (1, .int p1)]) hx hb dX15_four_30 hl (k := 0) rfl (by decide) (by decide) rfl (fun ls hl => ?_)
  refine lv_goto (tgt := 3) hx hb dX15_four_33 (by decide) ?_
  refine lv_iload_n hx hb dX15_four_3 rfl (lv_at hl 0 rfl) ?_
  refine lv_if_lt (tgt := 36) hx hb dX15_four_4 (by decide) (fun c_21 => ?_) (fun c_21 => absurd c_21 (by decide))
  refine W.widen (k := 0) (n := 0) (Nat.le_of_ble_eq_true rfl) (Nat.le_of_ble_eq_true rfl) ?_
  have hP9 := hP.sub (ws' := [(h0, .inr (14, mFt g 16)), (g 0, .inl (cb, 60000, .inl f_19))]) [0, 1] rfl
  have hD9 := hD.sub (ws' := [(h0, .inr (14, mFt g 16)), (g 0, .inl (cb, 60000, .inl f_19))]) [0, 1] (by decide) rfl
  have hK9 := hK.sub (tys' := [(cb, .byte)]) [0] rfl
  exact W.vret hx hb hr (fun t ht hW => ⟨⟨(), rfl, trivial, ⟨(f_19), by rw [ht]; exact hP9, va_K.moved hW.alike hK9, hD9⟩⟩, hS.F ht⟩) hS.2.2 dX15_four_36
