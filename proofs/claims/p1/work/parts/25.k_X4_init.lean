set_option maxHeartbeats 8000000 in
set_option maxRecDepth 100000 in
theorem k_X4_init (l : Launch) (dC : Nat → ClassId) (dI : Nat → Nat → Nat) (sz : Nat) (h0 a1 : Nat) (cb : ClassId) (f : Nat → Int32) : Met l yX4_init (Cond.code yX4_init cX4_init 3 none :: bw) ({ frames := 1, cells := 2, slots := 0, locals := 80 }) (pM [.ref h0, .ref a1, .int 0] (dC, dI) sz [(h0, .inr (3, [.null, .int 0, .null, .null, .int 0, .int 0, .int 0, .int 0, .int 0, .int 0])), (a1, .inl (cb, 1024, .inl f))] [(cb, .byte)]) (va_Qv (fun _ : Unit => True) (fun _ t => ∃ x0 x2 : Nat, va_P (dC, dI) vwCl [(h0, .inr (3, [.ref x0, .int 0, .ref x2, .ref x2, .int 2147483647, .int 0, .int 0, .int 0, .int 0, .int 0]))] t.heap ∧ va_K (dC, dI) vwCl [] t ∧ va_D (va_A [(h0, .inr (3, [.null, .int 0, .null, .null, .int 0, .int 0, .int 0, .int 0, .int 0, .int 0])), (a1, .inl (cb, 1024, .inl f))] sz) [(h0, .inr (3, [.ref x0, .int 0, .ref x2, .ref x2, .int 2147483647, .int 0, .int 0, .int 0, .int 0, .int 0]))]) (va_A [(h0, .inr (3, [.null, .int 0, .null, .null, .int 0, .int 0, .int 0, .int 0, .int 0, .int 0])), (a1, .inl (cb, 1024, .inl f))] sz)) 2 0 (va_A [(h0, .inr (3, [.null, .int 0, .null, .null, .int 0, .int 0, .int 0, .int 0, .int 0, .int 0])), (a1, .inl (cb, 1024, .inl f))] sz) := by
  refine Met.ofW (cc := cX4_init) (maxL := 3) (ret := none) (by decide) rfl ?_
  intro p e s m args below meth c s₁ B hml hv
  obtain ⟨rfl, hsz, hP, hK, hD0⟩ := hv
  have hx := B.exec
  have hb := B.bytes
  have hr := B.returns
  have hts := atoms_spec (ws := Cond.code yX4_init cX4_init 3 none :: bw) B.pre
  have hw : ∀ w ∈ bw, w.before _ s = true := fun w h => hts w (List.mem_cons_of_mem _ h)
  have hown : s.vm.findClass RX4 = some m.cls := findClass_of_methodNamed B.named
  have hin : meth.name = "<init>" := (name_of_methodNamed B.named B.method).1
  subst hsz
  have hD := hD0.self (sz := s.heap.size)
  generalize hAe : va_A [(h0, .inr (3, [.null, .int 0, .null, .null, .int 0, .int 0, .int 0, .int 0, .int 0, .int 0])), (a1, .inl (cb, 1024, .inl f))] s.heap.size = A at hD ⊢
  have hA : ∀ q : Nat, s.heap.size ≤ q → A q := fun q h => by rw [← hAe]; exact Or.inr h
  have hS : va_S A s.heap s.heap [] := va_S.rf
  have hP : va_P (dC, dI) vwCl [(h0, .inr (3, [.null, .int 0, .null, .null, .int 0, .int 0, .int 0, .int 0, .int 0, .int 0])), (a1, .inl (cb, 1024, .inl f))] s.heap := hP
  have hl := lv_entry ([.ref h0, .ref a1, .int 0]) (n := 3) (Nat.le_of_ble_eq_true rfl)
  rw [lg_entry_eq]
  generalize (lg_sl ([.ref h0, .ref a1, .int 0]) ++ List.replicate (3 - (lg_sl ([.ref h0, .ref a1, .int 0])).length) Slot.unset).toArray = ls at hl ⊢
  have hl : lv_has ls 3 [(0, .ref h0), (1, .ref a1), (2, .int 0)] := hl
  refine lv_aload_n hx hb dX4_init_0 rfl (lv_at hl 0 rfl) ?_
  refine W.objInit hx hb hown (hw (Cond.methodLink RX4 1 objectInit) (wl_7 (List.mem_of_getElem? (i := 13) rfl))) (hw (Cond.instanceMethod objectInit) (wl_2 (List.mem_of_getElem? (i := 19) rfl))) (hw (Cond.code objectInit ⟨#[0xb1]⟩ 1 none) (wl_2 (List.mem_of_getElem? (i := 20) rfl))) rfl (by rw [hml]; exact hl.1) rfl dX4_init_1 (Nat.le_of_ble_eq_true rfl) (Nat.le_of_ble_eq_true rfl) ?_
  refine W.eq (g2 := F0 m 4 ls []) rfl ?_
  refine lv_aload_n hx hb dX4_init_4 rfl (lv_at hl 0 rfl) ?_
  refine lv_iconst (v := 0) hx hb dX4_init_5 (by decide) ?_
  refine lv_iload_n hx hb dX4_init_6 rfl (lv_at hl 2 rfl) ?_
  refine lv_aload_n hx hb dX4_init_7 rfl (lv_at hl 1 rfl) ?_
  refine va_alen (v := 1024) hx hb hK hP 1 0 rfl rfl (show Int32.ofNat 1024 = 1024 from by decide) dX4_init_8 ?_
  refine va_mmin (own := RX4) hx hb (hml.trans hl.1.symm) hown (hw (Cond.methodLink RX4 7 Lib.Math.min.name) (wl_7 (List.mem_of_getElem? (i := 14) rfl))) (hw (Cond.static Lib.Math.min.name) (wl_7 (List.mem_of_getElem? (i := 15) rfl))) (hw (Cond.initialized "java/lang/Math") (wl_7 (List.mem_of_getElem? (i := 16) rfl))) (hw (Cond.code Lib.Math.min.name Lib.Math.min.code 2 (some .int)) (wl_7 (List.mem_of_getElem? (i := 17) rfl))) (Nat.le_of_ble_eq_true rfl) (Nat.le_of_ble_eq_true rfl) (Nat.le_of_ble_eq_true rfl) (Nat.le_of_ble_eq_true rfl) dX4_init_9 ?_
  refine lv_topi (fun x_1 ex_1 => ?_)
  have ex_1 : x_1 = 0 := ex_1.trans (by decide)
  subst ex_1
  refine va_mmax (own := RX4) hx hb (hml.trans hl.1.symm) hown (hw (Cond.methodLink RX4 13 Lib.Math.max.name) (wl_7 (List.mem_of_getElem? (i := 18) rfl))) (hw (Cond.static Lib.Math.max.name) (wl_7 (List.mem_of_getElem? (i := 19) rfl))) (hw (Cond.initialized "java/lang/Math") (wl_7 (List.mem_of_getElem? (i := 16) rfl))) (hw (Cond.code Lib.Math.max.name Lib.Math.max.code 2 (some .int)) (wl_7 (List.mem_of_getElem? (i := 20) rfl))) (Nat.le_of_ble_eq_true rfl) (Nat.le_of_ble_eq_true rfl) (Nat.le_of_ble_eq_true rfl) (Nat.le_of_ble_eq_true rfl) dX4_init_12 ?_
  refine lv_topi (fun x_2 ex_2 => ?_)
  have ex_2 : x_2 = 0 := ex_2.trans (by decide)
  subst ex_2
  refine va_newa (atype := .byte) (ty := .byte) (n := 0) (N' := 0) (a0 := (0, .inl (fun _ => 0))) hx hb (hw (Cond.arrayClass .byte) (wl_2 (List.mem_of_getElem? (i := 21) rfl))) rfl hK hP hD hS hA (az_byte 0) (by decide) (by decide +kernel) (Nat.le_of_ble_eq_true rfl) (Nat.le_of_ble_eq_true rfl) (Nat.le_of_ble_eq_true rfl) dX4_init_15 (fun q_3 ca_4 H hK hP hD hS => ?_)
  have hK : va_K (dC, dI) vwCl [(cb, .byte), (ca_4, .byte)] s := hK
  have hP : va_P (dC, dI) vwCl [(h0, .inr (3, [.null, .int 0, .null, .null, .int 0, .int 0, .int 0, .int 0, .int 0, .int 0])), (a1, .inl (cb, 1024, .inl f)), (q_3, .inl (ca_4, 0, .inl (fun _ => 0)))] H := hP
  have hD : va_D A [(h0, .inr (3, [.null, .int 0, .null, .null, .int 0, .int 0, .int 0, .int 0, .int 0, .int 0])), (a1, .inl (cb, 1024, .inl f)), (q_3, .inl (ca_4, 0, .inl (fun _ => 0)))] := hD
  refine W.widen (k := 1) (n := 0) (Nat.le_of_ble_eq_true rfl) (Nat.le_of_ble_eq_true rfl) ?_
  refine va_putF (D := (dC, dI)) (ci := 3) (v := .ref q_3) (ty := .array .byte) (C := RX4) (T := TX4) (N := 10) hx hb hw inlX4 tyX4 tyX4_ok nmX4 hown hK hP hD hS 0 rfl rfl 0 (by decide) (hw (Cond.fieldLink RX4 16 "CodeLayout$Image" "bytes" "[B") (wl_7 (List.mem_of_getElem? (i := 21) rfl))) (fun _ h9 => h9) rfl hin rfl (by decide +kernel) rfl rfl (Nat.le_of_ble_eq_true rfl) dX4_init_17 (fun H locs hP hD hS => ?_)
  have hP : va_P (dC, dI) vwCl [(h0, .inr (3, [.ref q_3, .int 0, .null, .null, .int 0, .int 0, .int 0, .int 0, .int 0, .int 0])), (a1, .inl (cb, 1024, .inl f)), (q_3, .inl (ca_4, 0, .inl (fun _ => 0)))] H := hP
  have hD : va_D A [(h0, .inr (3, [.ref q_3, .int 0, .null, .null, .int 0, .int 0, .int 0, .int 0, .int 0, .int 0])), (a1, .inl (cb, 1024, .inl f)), (q_3, .inl (ca_4, 0, .inl (fun _ => 0)))] := hD
  refine lv_aload_n hx hb dX4_init_20 rfl (lv_at hl 1 rfl) ?_
  refine lv_iconst (v := 0) hx hb dX4_init_21 (by decide) ?_
  refine lv_aload_n hx hb dX4_init_22 rfl (lv_at hl 0 rfl) ?_
  refine va_get (D := (dC, dI)) (ci := 3) (v := .ref q_3) (C := RX4) (T := TX4) (N := 10) hx hb hw inlX4 hown hK hP 0 rfl rfl 0 (by decide) (hw (Cond.fieldLink RX4 16 "CodeLayout$Image" "bytes" "[B") (wl_7 (List.mem_of_getElem? (i := 21) rfl))) (fun _ h9 => h9) rfl dX4_init_23 ?_
  refine lv_iconst (v := 0) hx hb dX4_init_26 (by decide) ?_
  refine lv_aload_n hx hb dX4_init_27 rfl (lv_at hl 0 rfl) ?_
  refine va_get (D := (dC, dI)) (ci := 3) (v := .ref q_3) (C := RX4) (T := TX4) (N := 10) hx hb hw inlX4 hown hK hP 0 rfl rfl 0 (by decide) (hw (Cond.fieldLink RX4 16 "CodeLayout$Image" "bytes" "[B") (wl_7 (List.mem_of_getElem? (i := 21) rfl))) (fun _ h9 => h9) rfl dX4_init_28 ?_
  refine va_alen (v := 0) hx hb hK hP 2 1 rfl rfl (show Int32.ofNat 0 = 0 from by decide) dX4_init_31 ?_
  refine va_copyi (own := RX4) (ty := .byte) hx hb (hml.trans hl.1.symm) hown (hw (Cond.methodLink RX4 22 arraycopyName) (wl_7 (List.mem_of_getElem? (i := 22) rfl))) (hw (Cond.native arraycopyName) (wl_7 (List.mem_of_getElem? (i := 23) rfl))) (hw (Cond.static arraycopyName) (wl_7 (List.mem_of_getElem? (i := 24) rfl))) (hw (Cond.initialized "java/lang/System") (wl_8 (List.mem_of_getElem? (i := 0) rfl))) hK hP hD hS 1 2 0 1 rfl rfl rfl rfl rfl (by decide) (by decide) (by decide) (by decide) (by decide) (fun i hi => by rw [sb_cl0] at hi; exact absurd hi (Nat.not_lt_zero i)) (Nat.le_of_ble_eq_true rfl) (Nat.le_of_ble_eq_true rfl) dX4_init_32 (fun H locs hP hD hS => ?_)
  obtain ⟨f_5, hP, hD⟩ : ∃ fz : Nat → Int32, va_P (dC, dI) vwCl [(h0, .inr (3, [.ref q_3, .int 0, .null, .null, .int 0, .int 0, .int 0, .int 0, .int 0, .int 0])), (a1, .inl (cb, 1024, .inl f)), (q_3, .inl (ca_4, 0, .inl fz))] H ∧ va_D A [(h0, .inr (3, [.ref q_3, .int 0, .null, .null, .int 0, .int 0, .int 0, .int 0, .int 0, .int 0])), (a1, .inl (cb, 1024, .inl f)), (q_3, .inl (ca_4, 0, .inl fz))] := ⟨_, hP, hD⟩
  refine lv_aload_n hx hb dX4_init_35 rfl (lv_at hl 0 rfl) ?_
  refine lv_aload_n hx hb dX4_init_36 rfl (lv_at hl 0 rfl) ?_
  refine va_get (D := (dC, dI)) (ci := 3) (v := .ref q_3) (C := RX4) (T := TX4) (N := 10) hx hb hw inlX4 hown hK hP 0 rfl rfl 0 (by decide) (hw (Cond.fieldLink RX4 16 "CodeLayout$Image" "bytes" "[B") (wl_7 (List.mem_of_getElem? (i := 21) rfl))) (fun _ h9 => h9) rfl dX4_init_37 ?_
  refine va_alen (v := 0) hx hb hK hP 2 1 rfl rfl (show Int32.ofNat 0 = 0 from by decide) dX4_init_40 ?_
  refine va_put (D := (dC, dI)) (ci := 3) (v := .int 0) (ty := .int) (C := RX4) (T := TX4) (N := 10) hx hb hw inlX4 tyX4 tyX4_ok nmX4 hown hK hP hD hS 0 rfl rfl 1 (by decide) (hw (Cond.fieldLink RX4 28 "CodeLayout$Image" "length" "I") (wl_8 (List.mem_of_getElem? (i := 1) rfl))) (fun _ h9 => h9) rfl (by decide +kernel) rfl rfl (Nat.le_of_ble_eq_true rfl) dX4_init_41 (fun H locs hP hD hS => ?_)
  have hP : va_P (dC, dI) vwCl [(h0, .inr (3, [.ref q_3, .int 0, .null, .null, .int 0, .int 0, .int 0, .int 0, .int 0, .int 0])), (a1, .inl (cb, 1024, .inl f)), (q_3, .inl (ca_4, 0, .inl f_5))] H := hP
  have hD : va_D A [(h0, .inr (3, [.ref q_3, .int 0, .null, .null, .int 0, .int 0, .int 0, .int 0, .int 0, .int 0])), (a1, .inl (cb, 1024, .inl f)), (q_3, .inl (ca_4, 0, .inl f_5))] := hD
  refine lv_aload_n hx hb dX4_init_44 rfl (lv_at hl 0 rfl) ?_
  refine lv_iconst (v := 0) hx hb dX4_init_45 (by decide) ?_
  refine va_newa (atype := .int) (ty := .int) (n := 0) (N' := 0) (a0 := (0, .inl (fun _ => 0))) hx hb (hw (Cond.arrayClass .int) (wl_3 (List.mem_of_getElem? (i := 0) rfl))) rfl hK hP hD hS hA (az_int 0) (by decide) (by decide +kernel) (Nat.le_of_ble_eq_true rfl) (Nat.le_of_ble_eq_true rfl) (Nat.le_of_ble_eq_true rfl) dX4_init_46 (fun q_6 ca_7 H hK hP hD hS => ?_)
  have hK : va_K (dC, dI) vwCl [(cb, .byte), (ca_4, .byte), (ca_7, .int)] s := hK
  have hP : va_P (dC, dI) vwCl [(h0, .inr (3, [.ref q_3, .int 0, .null, .null, .int 0, .int 0, .int 0, .int 0, .int 0, .int 0])), (a1, .inl (cb, 1024, .inl f)), (q_3, .inl (ca_4, 0, .inl f_5)), (q_6, .inl (ca_7, 0, .inl (fun _ => 0)))] H := hP
  have hD : va_D A [(h0, .inr (3, [.ref q_3, .int 0, .null, .null, .int 0, .int 0, .int 0, .int 0, .int 0, .int 0])), (a1, .inl (cb, 1024, .inl f)), (q_3, .inl (ca_4, 0, .inl f_5)), (q_6, .inl (ca_7, 0, .inl (fun _ => 0)))] := hD
  refine W.widen (k := 2) (n := 0) (Nat.le_of_ble_eq_true rfl) (Nat.le_of_ble_eq_true rfl) ?_
  refine va_put (D := (dC, dI)) (ci := 3) (v := .ref q_6) (ty := .array .int) (C := RX4) (T := TX4) (N := 10) hx hb hw inlX4 tyX4 tyX4_ok nmX4 hown hK hP hD hS 0 rfl rfl 2 (by decide) (hw (Cond.fieldLink RX4 32 "CodeLayout$Image" "words" "[I") (wl_8 (List.mem_of_getElem? (i := 2) rfl))) (fun _ h9 => h9) rfl (by decide +kernel) rfl rfl (Nat.le_of_ble_eq_true rfl) dX4_init_48 (fun H locs hP hD hS => ?_)
  have hP : va_P (dC, dI) vwCl [(h0, .inr (3, [.ref q_3, .int 0, .ref q_6, .null, .int 0, .int 0, .int 0, .int 0, .int 0, .int 0])), (a1, .inl (cb, 1024, .inl f)), (q_3, .inl (ca_4, 0, .inl f_5)), (q_6, .inl (ca_7, 0, .inl (fun _ => 0)))] H := hP
  have hD : va_D A [(h0, .inr (3, [.ref q_3, .int 0, .ref q_6, .null, .int 0, .int 0, .int 0, .int 0, .int 0, .int 0])), (a1, .inl (cb, 1024, .inl f)), (q_3, .inl (ca_4, 0, .inl f_5)), (q_6, .inl (ca_7, 0, .inl (fun _ => 0)))] := hD
  refine lv_aload_n hx hb dX4_init_51 rfl (lv_at hl 0 rfl) ?_
  refine lv_aload_n hx hb dX4_init_52 rfl (lv_at hl 0 rfl) ?_
  refine va_get (D := (dC, dI)) (ci := 3) (v := .ref q_6) (C := RX4) (T := TX4) (N := 10) hx hb hw inlX4 hown hK hP 0 rfl rfl 2 (by decide) (hw (Cond.fieldLink RX4 32 "CodeLayout$Image" "words" "[I") (wl_8 (List.mem_of_getElem? (i := 2) rfl))) (fun _ h9 => h9) rfl dX4_init_53 ?_
  refine va_put (D := (dC, dI)) (ci := 3) (v := .ref q_6) (ty := .array .int) (C := RX4) (T := TX4) (N := 10) hx hb hw inlX4 tyX4 tyX4_ok nmX4 hown hK hP hD hS 0 rfl rfl 3 (by decide) (hw (Cond.fieldLink RX4 36 "CodeLayout$Image" "marks" "[I") (wl_8 (List.mem_of_getElem? (i := 3) rfl))) (fun _ h9 => h9) rfl (by decide +kernel) rfl rfl (Nat.le_of_ble_eq_true rfl) dX4_init_56 (fun H locs hP hD hS => ?_)
  have hP : va_P (dC, dI) vwCl [(h0, .inr (3, [.ref q_3, .int 0, .ref q_6, .ref q_6, .int 0, .int 0, .int 0, .int 0, .int 0, .int 0])), (a1, .inl (cb, 1024, .inl f)), (q_3, .inl (ca_4, 0, .inl f_5)), (q_6, .inl (ca_7, 0, .inl (fun _ => 0)))] H := hP
  have hD : va_D A [(h0, .inr (3, [.ref q_3, .int 0, .ref q_6, .ref q_6, .int 0, .int 0, .int 0, .int 0, .int 0, .int 0])), (a1, .inl (cb, 1024, .inl f)), (q_3, .inl (ca_4, 0, .inl f_5)), (q_6, .inl (ca_7, 0, .inl (fun _ => 0)))] := hD
  refine lv_aload_n hx hb dX4_init_59 rfl (lv_at hl 0 rfl) ?_
  refine lv_ldc (own := RX4) (v := 2147483647) hx hb hown (hw (Cond.constant RX4 41 (2147483647)) (wl_8 (List.mem_of_getElem? (i := 4) rfl))) dX4_init_60 ?_
  refine va_put (D := (dC, dI)) (ci := 3) (v := .int 2147483647) (ty := .int) (C := RX4) (T := TX4) (N := 10) hx hb hw inlX4 tyX4 tyX4_ok nmX4 hown hK hP hD hS 0 rfl rfl 4 (by decide) (hw (Cond.fieldLink RX4 42 "CodeLayout$Image" "textPlace" "I") (wl_8 (List.mem_of_getElem? (i := 5) rfl))) (fun _ h9 => h9) rfl (by decide +kernel) rfl rfl (Nat.le_of_ble_eq_true rfl) dX4_init_62 (fun H locs hP hD hS => ?_)
  have hP : va_P (dC, dI) vwCl [(h0, .inr (3, [.ref q_3, .int 0, .ref q_6, .ref q_6, .int 2147483647, .int 0, .int 0, .int 0, .int 0, .int 0])), (a1, .inl (cb, 1024, .inl f)), (q_3, .inl (ca_4, 0, .inl f_5)), (q_6, .inl (ca_7, 0, .inl (fun _ => 0)))] H := hP
  have hD : va_D A [(h0, .inr (3, [.ref q_3, .int 0, .ref q_6, .ref q_6, .int 2147483647, .int 0, .int 0, .int 0, .int 0, .int 0])), (a1, .inl (cb, 1024, .inl f)), (q_3, .inl (ca_4, 0, .inl f_5)), (q_6, .inl (ca_7, 0, .inl (fun _ => 0)))] := hD
  refine W.widen (k := 2) (n := 0) (Nat.le_of_ble_eq_true rfl) (Nat.le_of_ble_eq_true rfl) ?_
  have hP9 := hP.sub (ws' := [(h0, .inr (3, [.ref q_3, .int 0, .ref q_6, .ref q_6, .int 2147483647, .int 0, .int 0, .int 0, .int 0, .int 0]))]) [0] rfl
  have hD9 := hD.sub (ws' := [(h0, .inr (3, [.ref q_3, .int 0, .ref q_6, .ref q_6, .int 2147483647, .int 0, .int 0, .int 0, .int 0, .int 0]))]) [0] (by decide) rfl
  have hK9 := hK.sub (tys' := []) [] rfl
  exact W.vret hx hb hr (fun t ht hW => ⟨⟨(), rfl, trivial, ⟨q_3, q_6, by rw [ht]; exact hP9, va_K.moved hW.alike hK9, hD9⟩⟩, hS.F ht⟩) hS.2.2 dX4_init_65
