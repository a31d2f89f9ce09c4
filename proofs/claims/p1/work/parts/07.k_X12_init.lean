set_option maxHeartbeats 8000000 in
set_option maxRecDepth 100000 in
theorem k_X12_init (l : Launch) (dC : Nat → ClassId) (dI : Nat → Nat → Nat) (sz : Nat) (h0 : Nat) : Met l yX12_init (Cond.code yX12_init cX12_init 1 none :: bw) ({ frames := 1, cells := 9, slots := 96, locals := 12 }) (pM [.ref h0] (dC, dI) sz [(h0, .inr (11, [.null, .int 0, .int 0, .int 0, .int 0, .long 0, .null, .null, .null, .null, .null, .null, .null, .null, .null, .int 0, .int 0, .long 0]))] []) (va_Qv (fun _ : Unit => True) (fun _ t => ∃ b : Nat → Nat, va_P (dC, dI) vwCl [(h0, .inr (11, hF b))] t.heap ∧ va_K (dC, dI) vwCl [] t ∧ va_D (va_A [(h0, .inr (11, [.null, .int 0, .int 0, .int 0, .int 0, .long 0, .null, .null, .null, .null, .null, .null, .null, .null, .null, .int 0, .int 0, .long 0]))] sz) [(h0, .inr (11, hF b))]) (va_A [(h0, .inr (11, [.null, .int 0, .int 0, .int 0, .int 0, .long 0, .null, .null, .null, .null, .null, .null, .null, .null, .null, .int 0, .int 0, .long 0]))] sz)) 9 96 (va_A [(h0, .inr (11, [.null, .int 0, .int 0, .int 0, .int 0, .long 0, .null, .null, .null, .null, .null, .null, .null, .null, .null, .int 0, .int 0, .long 0]))] sz) := by
  refine Met.ofW (cc := cX12_init) (maxL := 1) (ret := none) (by decide) rfl ?_
  intro p e s m args below meth c s₁ B hml hv
  obtain ⟨rfl, hsz, hP, hK, hD0⟩ := hv
  have hx := B.exec
  have hb := B.bytes
  have hr := B.returns
  have hts := atoms_spec (ws := Cond.code yX12_init cX12_init 1 none :: bw) B.pre
  have hw : ∀ w ∈ bw, w.before _ s = true := fun w h => hts w (List.mem_cons_of_mem _ h)
  have hown : s.vm.findClass RX12 = some m.cls := findClass_of_methodNamed B.named
  have hin : meth.name = "<init>" := (name_of_methodNamed B.named B.method).1
  subst hsz
  have hD := hD0.self (sz := s.heap.size)
  generalize hAe : va_A [(h0, .inr (11, [.null, .int 0, .int 0, .int 0, .int 0, .long 0, .null, .null, .null, .null, .null, .null, .null, .null, .null, .int 0, .int 0, .long 0]))] s.heap.size = A at hD ⊢
  have hA : ∀ q : Nat, s.heap.size ≤ q → A q := fun q h => by rw [← hAe]; exact Or.inr h
  have hS : va_S A s.heap s.heap [] := va_S.rf
  have hP : va_P (dC, dI) vwCl [(h0, .inr (11, [.null, .int 0, .int 0, .int 0, .int 0, .long 0, .null, .null, .null, .null, .null, .null, .null, .null, .null, .int 0, .int 0, .long 0]))] s.heap := hP
  have hl := lv_entry ([.ref h0]) (n := 1) (Nat.le_of_ble_eq_true rfl)
  rw [lg_entry_eq]
  generalize (lg_sl ([.ref h0]) ++ List.replicate (1 - (lg_sl ([.ref h0])).length) Slot.unset).toArray = ls at hl ⊢
  have hl : lv_has ls 1 [(0, .ref h0)] := hl
  refine lv_aload_n hx hb dX12_init_0 rfl (lv_at hl 0 rfl) ?_
  refine W.objInit hx hb hown (hw (Cond.methodLink RX12 1 objectInit) (wl_2 (List.mem_of_getElem? (i := 24) rfl))) (hw (Cond.instanceMethod objectInit) (wl_2 (List.mem_of_getElem? (i := 19) rfl))) (hw (Cond.code objectInit ⟨#[0xb1]⟩ 1 none) (wl_2 (List.mem_of_getElem? (i := 20) rfl))) rfl (by rw [hml]; exact hl.1) rfl dX12_init_1 (Nat.le_of_ble_eq_true rfl) (Nat.le_of_ble_eq_true rfl) ?_
  refine W.eq (g2 := F0 m 4 ls []) rfl ?_
  refine lv_aload_n hx hb dX12_init_4 rfl (lv_at hl 0 rfl) ?_
  refine lv_iconst (v := 4) hx hb dX12_init_5 (by decide) ?_
  refine va_newa (atype := .int) (ty := .int) (n := 4) (N' := 4) (a0 := (4, .inl (fun _ => 0))) hx hb (hw (Cond.arrayClass .int) (wl_3 (List.mem_of_getElem? (i := 0) rfl))) rfl hK hP hD hS hA (az_int 4) (by decide) (by decide +kernel) (Nat.le_of_ble_eq_true rfl) (Nat.le_of_ble_eq_true rfl) (Nat.le_of_ble_eq_true rfl) dX12_init_6 (fun q_1 ca_2 H hK hP hD hS => ?_)
  have hK : va_K (dC, dI) vwCl [(ca_2, .int)] s := hK
  have hP : va_P (dC, dI) vwCl [(h0, .inr (11, [.null, .int 0, .int 0, .int 0, .int 0, .long 0, .null, .null, .null, .null, .null, .null, .null, .null, .null, .int 0, .int 0, .long 0])), (q_1, .inl (ca_2, 4, .inl (fun _ => 0)))] H := hP
  have hD : va_D A [(h0, .inr (11, [.null, .int 0, .int 0, .int 0, .int 0, .long 0, .null, .null, .null, .null, .null, .null, .null, .null, .null, .int 0, .int 0, .long 0])), (q_1, .inl (ca_2, 4, .inl (fun _ => 0)))] := hD
  refine W.widen (k := 1) (n := 4) (Nat.le_of_ble_eq_true rfl) (Nat.le_of_ble_eq_true rfl) ?_
  refine va_putF (D := (dC, dI)) (ci := 11) (v := .ref q_1) (ty := .array .int) (C := RX12) (T := TX12) (N := 18) hx hb hw inlX12 tyX12 tyX12_ok nmX12 hown hK hP hD hS 0 rfl rfl 6 (by decide) (hw (Cond.fieldLink RX12 7 "CodeLayoutModel$Heads" "flags" "[I") (wl_3 (List.mem_of_getElem? (i := 1) rfl))) (fun _ h9 => h9) rfl hin rfl (by decide +kernel) rfl rfl (Nat.le_of_ble_eq_true rfl) dX12_init_8 (fun H locs hP hD hS => ?_)
  have hP : va_P (dC, dI) vwCl [(h0, .inr (11, [.null, .int 0, .int 0, .int 0, .int 0, .long 0, .ref q_1, .null, .null, .null, .null, .null, .null, .null, .null, .int 0, .int 0, .long 0])), (q_1, .inl (ca_2, 4, .inl (fun _ => 0)))] H := hP
  have hD : va_D A [(h0, .inr (11, [.null, .int 0, .int 0, .int 0, .int 0, .long 0, .ref q_1, .null, .null, .null, .null, .null, .null, .null, .null, .int 0, .int 0, .long 0])), (q_1, .inl (ca_2, 4, .inl (fun _ => 0)))] := hD
  have hP := hP.sub (ws' := [(h0, .inr (11, [.null, .int 0, .int 0, .int 0, .int 0, .long 0, .ref q_1, .null, .null, .null, .null, .null, .null, .null, .null, .int 0, .int 0, .long 0]))]) [0] rfl
  have hD := hD.sub (ws' := [(h0, .inr (11, [.null, .int 0, .int 0, .int 0, .int 0, .long 0, .ref q_1, .null, .null, .null, .null, .null, .null, .null, .null, .int 0, .int 0, .long 0]))]) [0] (by decide) rfl
  have hK := hK.sub (tys' := []) [] rfl
  refine lv_aload_n hx hb dX12_init_11 rfl (lv_at hl 0 rfl) ?_
  refine lv_iconst (v := 4) hx hb dX12_init_12 (by decide) ?_
  refine va_newa (atype := .int) (ty := .int) (n := 4) (N' := 4) (a0 := (4, .inl (fun _ => 0))) hx hb (hw (Cond.arrayClass .int) (wl_3 (List.mem_of_getElem? (i := 0) rfl))) rfl hK hP hD hS hA (az_int 4) (by decide) (by decide +kernel) (Nat.le_of_ble_eq_true rfl) (Nat.le_of_ble_eq_true rfl) (Nat.le_of_ble_eq_true rfl) dX12_init_13 (fun q_3 ca_4 H hK hP hD hS => ?_)
  have hK : va_K (dC, dI) vwCl [(ca_4, .int)] s := hK
  have hP : va_P (dC, dI) vwCl [(h0, .inr (11, [.null, .int 0, .int 0, .int 0, .int 0, .long 0, .ref q_1, .null, .null, .null, .null, .null, .null, .null, .null, .int 0, .int 0, .long 0])), (q_3, .inl (ca_4, 4, .inl (fun _ => 0)))] H := hP
  have hD : va_D A [(h0, .inr (11, [.null, .int 0, .int 0, .int 0, .int 0, .long 0, .ref q_1, .null, .null, .null, .null, .null, .null, .null, .null, .int 0, .int 0, .long 0])), (q_3, .inl (ca_4, 4, .inl (fun _ => 0)))] := hD
  refine W.widen (k := 2) (n := 8) (Nat.le_of_ble_eq_true rfl) (Nat.le_of_ble_eq_true rfl) ?_
  refine va_putF (D := (dC, dI)) (ci := 11) (v := .ref q_3) (ty := .array .int) (C := RX12) (T := TX12) (N := 18) hx hb hw inlX12 tyX12 tyX12_ok nmX12 hown hK hP hD hS 0 rfl rfl 7 (by decide) (hw (Cond.fieldLink RX12 13 "CodeLayoutModel$Heads" "offset" "[I") (wl_3 (List.mem_of_getElem? (i := 2) rfl))) (fun _ h9 => h9) rfl hin rfl (by decide +kernel) rfl rfl (Nat.le_of_ble_eq_true rfl) dX12_init_15 (fun H locs hP hD hS => ?_)
  have hP : va_P (dC, dI) vwCl [(h0, .inr (11, [.null, .int 0, .int 0, .int 0, .int 0, .long 0, .ref q_1, .ref q_3, .null, .null, .null, .null, .null, .null, .null, .int 0, .int 0, .long 0])), (q_3, .inl (ca_4, 4, .inl (fun _ => 0)))] H := hP
  have hD : va_D A [(h0, .inr (11, [.null, .int 0, .int 0, .int 0, .int 0, .long 0, .ref q_1, .ref q_3, .null, .null, .null, .null, .null, .null, .null, .int 0, .int 0, .long 0])), (q_3, .inl (ca_4, 4, .inl (fun _ => 0)))] := hD
  have hP := hP.sub (ws' := [(h0, .inr (11, [.null, .int 0, .int 0, .int 0, .int 0, .long 0, .ref q_1, .ref q_3, .null, .null, .null, .null, .null, .null, .null, .int 0, .int 0, .long 0]))]) [0] rfl
  have hD := hD.sub (ws' := [(h0, .inr (11, [.null, .int 0, .int 0, .int 0, .int 0, .long 0, .ref q_1, .ref q_3, .null, .null, .null, .null, .null, .null, .null, .int 0, .int 0, .long 0]))]) [0] (by decide) rfl
  have hK := hK.sub (tys' := []) [] rfl
  refine lv_aload_n hx hb dX12_init_18 rfl (lv_at hl 0 rfl) ?_
  refine lv_iconst (v := 4) hx hb dX12_init_19 (by decide) ?_
  refine va_newa (atype := .long) (ty := .long) (n := 4) (N' := 4) (a0 := (4, .inr (.inl (fun _ => 0)))) hx hb (hw (Cond.arrayClass .long) (wl_3 (List.mem_of_getElem? (i := 3) rfl))) rfl hK hP hD hS hA (az_long 4) (by decide) (by decide +kernel) (Nat.le_of_ble_eq_true rfl) (Nat.le_of_ble_eq_true rfl) (Nat.le_of_ble_eq_true rfl) dX12_init_20 (fun q_5 ca_6 H hK hP hD hS => ?_)
  have hK : va_K (dC, dI) vwCl [(ca_6, .long)] s := hK
  have hP : va_P (dC, dI) vwCl [(h0, .inr (11, [.null, .int 0, .int 0, .int 0, .int 0, .long 0, .ref q_1, .ref q_3, .null, .null, .null, .null, .null, .null, .null, .int 0, .int 0, .long 0])), (q_5, .inl (ca_6, 4, .inr (.inl (fun _ => 0))))] H := hP
  have hD : va_D A [(h0, .inr (11, [.null, .int 0, .int 0, .int 0, .int 0, .long 0, .ref q_1, .ref q_3, .null, .null, .null, .null, .null, .null, .null, .int 0, .int 0, .long 0])), (q_5, .inl (ca_6, 4, .inr (.inl (fun _ => 0))))] := hD
  refine W.widen (k := 3) (n := 12) (Nat.le_of_ble_eq_true rfl) (Nat.le_of_ble_eq_true rfl) ?_
  refine va_putF (D := (dC, dI)) (ci := 11) (v := .ref q_5) (ty := .array .long) (C := RX12) (T := TX12) (N := 18) hx hb hw inlX12 tyX12 tyX12_ok nmX12 hown hK hP hD hS 0 rfl rfl 8 (by decide) (hw (Cond.fieldLink RX12 16 "CodeLayoutModel$Heads" "address" "[J") (wl_3 (List.mem_of_getElem? (i := 4) rfl))) (fun _ h9 => h9) rfl hin rfl (by decide +kernel) rfl rfl (Nat.le_of_ble_eq_true rfl) dX12_init_22 (fun H locs hP hD hS => ?_)
  have hP : va_P (dC, dI) vwCl [(h0, .inr (11, [.null, .int 0, .int 0, .int 0, .int 0, .long 0, .ref q_1, .ref q_3, .ref q_5, .null, .null, .null, .null, .null, .null, .int 0, .int 0, .long 0])), (q_5, .inl (ca_6, 4, .inr (.inl (fun _ => 0))))] H := hP
  have hD : va_D A [(h0, .inr (11, [.null, .int 0, .int 0, .int 0, .int 0, .long 0, .ref q_1, .ref q_3, .ref q_5, .null, .null, .null, .null, .null, .null, .int 0, .int 0, .long 0])), (q_5, .inl (ca_6, 4, .inr (.inl (fun _ => 0))))] := hD
  have hP := hP.sub (ws' := [(h0, .inr (11, [.null, .int 0, .int 0, .int 0, .int 0, .long 0, .ref q_1, .ref q_3, .ref q_5, .null, .null, .null, .null, .null, .null, .int 0, .int 0, .long 0]))]) [0] rfl
  have hD := hD.sub (ws' := [(h0, .inr (11, [.null, .int 0, .int 0, .int 0, .int 0, .long 0, .ref q_1, .ref q_3, .ref q_5, .null, .null, .null, .null, .null, .null, .int 0, .int 0, .long 0]))]) [0] (by decide) rfl
  have hK := hK.sub (tys' := []) [] rfl
  refine lv_aload_n hx hb dX12_init_25 rfl (lv_at hl 0 rfl) ?_
  refine lv_iconst (v := 4) hx hb dX12_init_26 (by decide) ?_
  refine va_newa (atype := .int) (ty := .int) (n := 4) (N' := 4) (a0 := (4, .inl (fun _ => 0))) hx hb (hw (Cond.arrayClass .int) (wl_3 (List.mem_of_getElem? (i := 0) rfl))) rfl hK hP hD hS hA (az_int 4) (by decide) (by decide +kernel) (Nat.le_of_ble_eq_true rfl) (Nat.le_of_ble_eq_true rfl) (Nat.le_of_ble_eq_true rfl) dX12_init_27 (fun q_7 ca_8 H hK hP hD hS => ?_)
  have hK : va_K (dC, dI) vwCl [(ca_8, .int)] s := hK
  have hP : va_P (dC, dI) vwCl [(h0, .inr (11, [.null, .int 0, .int 0, .int 0, .int 0, .long 0, .ref q_1, .ref q_3, .ref q_5, .null, .null, .null, .null, .null, .null, .int 0, .int 0, .long 0])), (q_7, .inl (ca_8, 4, .inl (fun _ => 0)))] H := hP
  have hD : va_D A [(h0, .inr (11, [.null, .int 0, .int 0, .int 0, .int 0, .long 0, .ref q_1, .ref q_3, .ref q_5, .null, .null, .null, .null, .null, .null, .int 0, .int 0, .long 0])), (q_7, .inl (ca_8, 4, .inl (fun _ => 0)))] := hD
  refine W.widen (k := 4) (n := 16) (Nat.le_of_ble_eq_true rfl) (Nat.le_of_ble_eq_true rfl) ?_
  refine va_putF (D := (dC, dI)) (ci := 11) (v := .ref q_7) (ty := .array .int) (C := RX12) (T := TX12) (N := 18) hx hb hw inlX12 tyX12 tyX12_ok nmX12 hown hK hP hD hS 0 rfl rfl 9 (by decide) (hw (Cond.fieldLink RX12 20 "CodeLayoutModel$Heads" "length" "[I") (wl_3 (List.mem_of_getElem? (i := 5) rfl))) (fun _ h9 => h9) rfl hin rfl (by decide +kernel) rfl rfl (Nat.le_of_ble_eq_true rfl) dX12_init_29 (fun H locs hP hD hS => ?_)
  have hP : va_P (dC, dI) vwCl [(h0, .inr (11, [.null, .int 0, .int 0, .int 0, .int 0, .long 0, .ref q_1, .ref q_3, .ref q_5, .ref q_7, .null, .null, .null, .null, .null, .int 0, .int 0, .long 0])), (q_7, .inl (ca_8, 4, .inl (fun _ => 0)))] H := hP
  have hD : va_D A [(h0, .inr (11, [.null, .int 0, .int 0, .int 0, .int 0, .long 0, .ref q_1, .ref q_3, .ref q_5, .ref q_7, .null, .null, .null, .null, .null, .int 0, .int 0, .long 0])), (q_7, .inl (ca_8, 4, .inl (fun _ => 0)))] := hD
  have hP := hP.sub (ws' := [(h0, .inr (11, [.null, .int 0, .int 0, .int 0, .int 0, .long 0, .ref q_1, .ref q_3, .ref q_5, .ref q_7, .null, .null, .null, .null, .null, .int 0, .int 0, .long 0]))]) [0] rfl
  have hD := hD.sub (ws' := [(h0, .inr (11, [.null, .int 0, .int 0, .int 0, .int 0, .long 0, .ref q_1, .ref q_3, .ref q_5, .ref q_7, .null, .null, .null, .null, .null, .int 0, .int 0, .long 0]))]) [0] (by decide) rfl
  have hK := hK.sub (tys' := []) [] rfl
  refine lv_aload_n hx hb dX12_init_32 rfl (lv_at hl 0 rfl) ?_
  refine lv_bipush (v := 16) hx hb dX12_init_33 (by decide) ?_
  refine va_newa (atype := .int) (ty := .int) (n := 16) (N' := 16) (a0 := (16, .inl (fun _ => 0))) hx hb (hw (Cond.arrayClass .int) (wl_3 (List.mem_of_getElem? (i := 0) rfl))) rfl hK hP hD hS hA (az_int 16) (by decide) (by decide +kernel) (Nat.le_of_ble_eq_true rfl) (Nat.le_of_ble_eq_true rfl) (Nat.le_of_ble_eq_true rfl) dX12_init_35 (fun q_9 ca_10 H hK hP hD hS => ?_)
  have hK : va_K (dC, dI) vwCl [(ca_10, .int)] s := hK
  have hP : va_P (dC, dI) vwCl [(h0, .inr (11, [.null, .int 0, .int 0, .int 0, .int 0, .long 0, .ref q_1, .ref q_3, .ref q_5, .ref q_7, .null, .null, .null, .null, .null, .int 0, .int 0, .long 0])), (q_9, .inl (ca_10, 16, .inl (fun _ => 0)))] H := hP
  have hD : va_D A [(h0, .inr (11, [.null, .int 0, .int 0, .int 0, .int 0, .long 0, .ref q_1, .ref q_3, .ref q_5, .ref q_7, .null, .null, .null, .null, .null, .int 0, .int 0, .long 0])), (q_9, .inl (ca_10, 16, .inl (fun _ => 0)))] := hD
  refine W.widen (k := 5) (n := 32) (Nat.le_of_ble_eq_true rfl) (Nat.le_of_ble_eq_true rfl) ?_
  refine va_putF (D := (dC, dI)) (ci := 11) (v := .ref q_9) (ty := .array .int) (C := RX12) (T := TX12) (N := 18) hx hb hw inlX12 tyX12 tyX12_ok nmX12 hown hK hP hD hS 0 rfl rfl 10 (by decide) (hw (Cond.fieldLink RX12 23 "CodeLayoutModel$Heads" "type" "[I") (wl_3 (List.mem_of_getElem? (i := 6) rfl))) (fun _ h9 => h9) rfl hin rfl (by decide +kernel) rfl rfl (Nat.le_of_ble_eq_true rfl) dX12_init_37 (fun H locs hP hD hS => ?_)
  have hP : va_P (dC, dI) vwCl [(h0, .inr (11, [.null, .int 0, .int 0, .int 0, .int 0, .long 0, .ref q_1, .ref q_3, .ref q_5, .ref q_7, .ref q_9, .null, .null, .null, .null, .int 0, .int 0, .long 0])), (q_9, .inl (ca_10, 16, .inl (fun _ => 0)))] H := hP
  have hD : va_D A [(h0, .inr (11, [.null, .int 0, .int 0, .int 0, .int 0, .long 0, .ref q_1, .ref q_3, .ref q_5, .ref q_7, .ref q_9, .null, .null, .null, .null, .int 0, .int 0, .long 0])), (q_9, .inl (ca_10, 16, .inl (fun _ => 0)))] := hD
  have hP := hP.sub (ws' := [(h0, .inr (11, [.null, .int 0, .int 0, .int 0, .int 0, .long 0, .ref q_1, .ref q_3, .ref q_5, .ref q_7, .ref q_9, .null, .null, .null, .null, .int 0, .int 0, .long 0]))]) [0] rfl
  have hD := hD.sub (ws' := [(h0, .inr (11, [.null, .int 0, .int 0, .int 0, .int 0, .long 0, .ref q_1, .ref q_3, .ref q_5, .ref q_7, .ref q_9, .null, .null, .null, .null, .int 0, .int 0, .long 0]))]) [0] (by decide) rfl
  have hK := hK.sub (tys' := []) [] rfl
  refine lv_aload_n hx hb dX12_init_40 rfl (lv_at hl 0 rfl) ?_
  refine lv_bipush (v := 16) hx hb dX12_init_41 (by decide) ?_
  refine va_newa (atype := .int) (ty := .int) (n := 16) (N' := 16) (a0 := (16, .inl (fun _ => 0))) hx hb (hw (Cond.arrayClass .int) (wl_3 (List.mem_of_getElem? (i := 0) rfl))) rfl hK hP hD hS hA (az_int 16) (by decide) (by decide +kernel) (Nat.le_of_ble_eq_true rfl) (Nat.le_of_ble_eq_true rfl) (Nat.le_of_ble_eq_true rfl) dX12_init_43 (fun q_11 ca_12 H hK hP hD hS => ?_)
  have hK : va_K (dC, dI) vwCl [(ca_12, .int)] s := hK
  have hP : va_P (dC, dI) vwCl [(h0, .inr (11, [.null, .int 0, .int 0, .int 0, .int 0, .long 0, .ref q_1, .ref q_3, .ref q_5, .ref q_7, .ref q_9, .null, .null, .null, .null, .int 0, .int 0, .long 0])), (q_11, .inl (ca_12, 16, .inl (fun _ => 0)))] H := hP
  have hD : va_D A [(h0, .inr (11, [.null, .int 0, .int 0, .int 0, .int 0, .long 0, .ref q_1, .ref q_3, .ref q_5, .ref q_7, .ref q_9, .null, .null, .null, .null, .int 0, .int 0, .long 0])), (q_11, .inl (ca_12, 16, .inl (fun _ => 0)))] := hD
  refine W.widen (k := 6) (n := 48) (Nat.le_of_ble_eq_true rfl) (Nat.le_of_ble_eq_true rfl) ?_
  refine va_putF (D := (dC, dI)) (ci := 11) (v := .ref q_11) (ty := .array .int) (C := RX12) (T := TX12) (N := 18) hx hb hw inlX12 tyX12 tyX12_ok nmX12 hown hK hP hD hS 0 rfl rfl 11 (by decide) (hw (Cond.fieldLink RX12 26 "CodeLayoutModel$Heads" "kind" "[I") (wl_3 (List.mem_of_getElem? (i := 7) rfl))) (fun _ h9 => h9) rfl hin rfl (by decide +kernel) rfl rfl (Nat.le_of_ble_eq_true rfl) dX12_init_45 (fun H locs hP hD hS => ?_)
  have hP : va_P (dC, dI) vwCl [(h0, .inr (11, [.null, .int 0, .int 0, .int 0, .int 0, .long 0, .ref q_1, .ref q_3, .ref q_5, .ref q_7, .ref q_9, .ref q_11, .null, .null, .null, .int 0, .int 0, .long 0])), (q_11, .inl (ca_12, 16, .inl (fun _ => 0)))] H := hP
  have hD : va_D A [(h0, .inr (11, [.null, .int 0, .int 0, .int 0, .int 0, .long 0, .ref q_1, .ref q_3, .ref q_5, .ref q_7, .ref q_9, .ref q_11, .null, .null, .null, .int 0, .int 0, .long 0])), (q_11, .inl (ca_12, 16, .inl (fun _ => 0)))] := hD
  have hP := hP.sub (ws' := [(h0, .inr (11, [.null, .int 0, .int 0, .int 0, .int 0, .long 0, .ref q_1, .ref q_3, .ref q_5, .ref q_7, .ref q_9, .ref q_11, .null, .null, .null, .int 0, .int 0, .long 0]))]) [0] rfl
  have hD := hD.sub (ws' := [(h0, .inr (11, [.null, .int 0, .int 0, .int 0, .int 0, .long 0, .ref q_1, .ref q_3, .ref q_5, .ref q_7, .ref q_9, .ref q_11, .null, .null, .null, .int 0, .int 0, .long 0]))]) [0] (by decide) rfl
  have hK := hK.sub (tys' := []) [] rfl
  refine lv_aload_n hx hb dX12_init_48 rfl (lv_at hl 0 rfl) ?_
  refine lv_bipush (v := 16) hx hb dX12_init_49 (by decide) ?_
  refine va_newa (atype := .long) (ty := .long) (n := 16) (N' := 16) (a0 := (16, .inr (.inl (fun _ => 0)))) hx hb (hw (Cond.arrayClass .long) (wl_3 (List.mem_of_getElem? (i := 3) rfl))) rfl hK hP hD hS hA (az_long 16) (by decide) (by decide +kernel) (Nat.le_of_ble_eq_true rfl) (Nat.le_of_ble_eq_true rfl) (Nat.le_of_ble_eq_true rfl) dX12_init_51 (fun q_13 ca_14 H hK hP hD hS => ?_)
  have hK : va_K (dC, dI) vwCl [(ca_14, .long)] s := hK
  have hP : va_P (dC, dI) vwCl [(h0, .inr (11, [.null, .int 0, .int 0, .int 0, .int 0, .long 0, .ref q_1, .ref q_3, .ref q_5, .ref q_7, .ref q_9, .ref q_11, .null, .null, .null, .int 0, .int 0, .long 0])), (q_13, .inl (ca_14, 16, .inr (.inl (fun _ => 0))))] H := hP
  have hD : va_D A [(h0, .inr (11, [.null, .int 0, .int 0, .int 0, .int 0, .long 0, .ref q_1, .ref q_3, .ref q_5, .ref q_7, .ref q_9, .ref q_11, .null, .null, .null, .int 0, .int 0, .long 0])), (q_13, .inl (ca_14, 16, .inr (.inl (fun _ => 0))))] := hD
  refine W.widen (k := 7) (n := 64) (Nat.le_of_ble_eq_true rfl) (Nat.le_of_ble_eq_true rfl) ?_
  refine va_putF (D := (dC, dI)) (ci := 11) (v := .ref q_13) (ty := .array .long) (C := RX12) (T := TX12) (N := 18) hx hb hw inlX12 tyX12 tyX12_ok nmX12 hown hK hP hD hS 0 rfl rfl 12 (by decide) (hw (Cond.fieldLink RX12 29 "CodeLayoutModel$Heads" "from" "[J") (wl_3 (List.mem_of_getElem? (i := 8) rfl))) (fun _ h9 => h9) rfl hin rfl (by decide +kernel) rfl rfl (Nat.le_of_ble_eq_true rfl) dX12_init_53 (fun H locs hP hD hS => ?_)
  have hP : va_P (dC, dI) vwCl [(h0, .inr (11, [.null, .int 0, .int 0, .int 0, .int 0, .long 0, .ref q_1, .ref q_3, .ref q_5, .ref q_7, .ref q_9, .ref q_11, .ref q_13, .null, .null, .int 0, .int 0, .long 0])), (q_13, .inl (ca_14, 16, .inr (.inl (fun _ => 0))))] H := hP
  have hD : va_D A [(h0, .inr (11, [.null, .int 0, .int 0, .int 0, .int 0, .long 0, .ref q_1, .ref q_3, .ref q_5, .ref q_7, .ref q_9, .ref q_11, .ref q_13, .null, .null, .int 0, .int 0, .long 0])), (q_13, .inl (ca_14, 16, .inr (.inl (fun _ => 0))))] := hD
  have hP := hP.sub (ws' := [(h0, .inr (11, [.null, .int 0, .int 0, .int 0, .int 0, .long 0, .ref q_1, .ref q_3, .ref q_5, .ref q_7, .ref q_9, .ref q_11, .ref q_13, .null, .null, .int 0, .int 0, .long 0]))]) [0] rfl
  have hD := hD.sub (ws' := [(h0, .inr (11, [.null, .int 0, .int 0, .int 0, .int 0, .long 0, .ref q_1, .ref q_3, .ref q_5, .ref q_7, .ref q_9, .ref q_11, .ref q_13, .null, .null, .int 0, .int 0, .long 0]))]) [0] (by decide) rfl
  have hK := hK.sub (tys' := []) [] rfl
  refine lv_aload_n hx hb dX12_init_56 rfl (lv_at hl 0 rfl) ?_
  refine lv_bipush (v := 16) hx hb dX12_init_57 (by decide) ?_
  refine va_newa (atype := .long) (ty := .long) (n := 16) (N' := 16) (a0 := (16, .inr (.inl (fun _ => 0)))) hx hb (hw (Cond.arrayClass .long) (wl_3 (List.mem_of_getElem? (i := 3) rfl))) rfl hK hP hD hS hA (az_long 16) (by decide) (by decide +kernel) (Nat.le_of_ble_eq_true rfl) (Nat.le_of_ble_eq_true rfl) (Nat.le_of_ble_eq_true rfl) dX12_init_59 (fun q_15 ca_16 H hK hP hD hS => ?_)
  have hK : va_K (dC, dI) vwCl [(ca_16, .long)] s := hK
  have hP : va_P (dC, dI) vwCl [(h0, .inr (11, [.null, .int 0, .int 0, .int 0, .int 0, .long 0, .ref q_1, .ref q_3, .ref q_5, .ref q_7, .ref q_9, .ref q_11, .ref q_13, .null, .null, .int 0, .int 0, .long 0])), (q_15, .inl (ca_16, 16, .inr (.inl (fun _ => 0))))] H := hP
  have hD : va_D A [(h0, .inr (11, [.null, .int 0, .int 0, .int 0, .int 0, .long 0, .ref q_1, .ref q_3, .ref q_5, .ref q_7, .ref q_9, .ref q_11, .ref q_13, .null, .null, .int 0, .int 0, .long 0])), (q_15, .inl (ca_16, 16, .inr (.inl (fun _ => 0))))] := hD
  refine W.widen (k := 8) (n := 80) (Nat.le_of_ble_eq_true rfl) (Nat.le_of_ble_eq_true rfl) ?_
  refine va_putF (D := (dC, dI)) (ci := 11) (v := .ref q_15) (ty := .array .long) (C := RX12) (T := TX12) (N := 18) hx hb hw inlX12 tyX12 tyX12_ok nmX12 hown hK hP hD hS 0 rfl rfl 13 (by decide) (hw (Cond.fieldLink RX12 32 "CodeLayoutModel$Heads" "at" "[J") (wl_3 (List.mem_of_getElem? (i := 9) rfl))) (fun _ h9 => h9) rfl hin rfl (by decide +kernel) rfl rfl (Nat.le_of_ble_eq_true rfl) dX12_init_61 (fun H locs hP hD hS => ?_)
  have hP : va_P (dC, dI) vwCl [(h0, .inr (11, [.null, .int 0, .int 0, .int 0, .int 0, .long 0, .ref q_1, .ref q_3, .ref q_5, .ref q_7, .ref q_9, .ref q_11, .ref q_13, .ref q_15, .null, .int 0, .int 0, .long 0])), (q_15, .inl (ca_16, 16, .inr (.inl (fun _ => 0))))] H := hP
  have hD : va_D A [(h0, .inr (11, [.null, .int 0, .int 0, .int 0, .int 0, .long 0, .ref q_1, .ref q_3, .ref q_5, .ref q_7, .ref q_9, .ref q_11, .ref q_13, .ref q_15, .null, .int 0, .int 0, .long 0])), (q_15, .inl (ca_16, 16, .inr (.inl (fun _ => 0))))] := hD
  have hP := hP.sub (ws' := [(h0, .inr (11, [.null, .int 0, .int 0, .int 0, .int 0, .long 0, .ref q_1, .ref q_3, .ref q_5, .ref q_7, .ref q_9, .ref q_11, .ref q_13, .ref q_15, .null, .int 0, .int 0, .long 0]))]) [0] rfl
  have hD := hD.sub (ws' := [(h0, .inr (11, [.null, .int 0, .int 0, .int 0, .int 0, .long 0, .ref q_1, .ref q_3, .ref q_5, .ref q_7, .ref q_9, .ref q_11, .ref q_13, .ref q_15, .null, .int 0, .int 0, .long 0]))]) [0] (by decide) rfl
  have hK := hK.sub (tys' := []) [] rfl
  refine lv_aload_n hx hb dX12_init_64 rfl (lv_at hl 0 rfl) ?_
  refine lv_bipush (v := 16) hx hb dX12_init_65 (by decide) ?_
  refine va_newa (atype := .long) (ty := .long) (n := 16) (N' := 16) (a0 := (16, .inr (.inl (fun _ => 0)))) hx hb (hw (Cond.arrayClass .long) (wl_3 (List.mem_of_getElem? (i := 3) rfl))) rfl hK hP hD hS hA (az_long 16) (by decide) (by decide +kernel) (Nat.le_of_ble_eq_true rfl) (Nat.le_of_ble_eq_true rfl) (Nat.le_of_ble_eq_true rfl) dX12_init_67 (fun q_17 ca_18 H hK hP hD hS => ?_)
  have hK : va_K (dC, dI) vwCl [(ca_18, .long)] s := hK
  have hP : va_P (dC, dI) vwCl [(h0, .inr (11, [.null, .int 0, .int 0, .int 0, .int 0, .long 0, .ref q_1, .ref q_3, .ref q_5, .ref q_7, .ref q_9, .ref q_11, .ref q_13, .ref q_15, .null, .int 0, .int 0, .long 0])), (q_17, .inl (ca_18, 16, .inr (.inl (fun _ => 0))))] H := hP
  have hD : va_D A [(h0, .inr (11, [.null, .int 0, .int 0, .int 0, .int 0, .long 0, .ref q_1, .ref q_3, .ref q_5, .ref q_7, .ref q_9, .ref q_11, .ref q_13, .ref q_15, .null, .int 0, .int 0, .long 0])), (q_17, .inl (ca_18, 16, .inr (.inl (fun _ => 0))))] := hD
  refine W.widen (k := 9) (n := 96) (Nat.le_of_ble_eq_true rfl) (Nat.le_of_ble_eq_true rfl) ?_
  refine va_putF (D := (dC, dI)) (ci := 11) (v := .ref q_17) (ty := .array .long) (C := RX12) (T := TX12) (N := 18) hx hb hw inlX12 tyX12 tyX12_ok nmX12 hown hK hP hD hS 0 rfl rfl 14 (by decide) (hw (Cond.fieldLink RX12 35 "CodeLayoutModel$Heads" "bytes" "[J") (wl_3 (List.mem_of_getElem? (i := 10) rfl))) (fun _ h9 => h9) rfl hin rfl (by decide +kernel) rfl rfl (Nat.le_of_ble_eq_true rfl) dX12_init_69 (fun H locs hP hD hS => ?_)
  have hP : va_P (dC, dI) vwCl [(h0, .inr (11, [.null, .int 0, .int 0, .int 0, .int 0, .long 0, .ref q_1, .ref q_3, .ref q_5, .ref q_7, .ref q_9, .ref q_11, .ref q_13, .ref q_15, .ref q_17, .int 0, .int 0, .long 0])), (q_17, .inl (ca_18, 16, .inr (.inl (fun _ => 0))))] H := hP
  have hD : va_D A [(h0, .inr (11, [.null, .int 0, .int 0, .int 0, .int 0, .long 0, .ref q_1, .ref q_3, .ref q_5, .ref q_7, .ref q_9, .ref q_11, .ref q_13, .ref q_15, .ref q_17, .int 0, .int 0, .long 0])), (q_17, .inl (ca_18, 16, .inr (.inl (fun _ => 0))))] := hD
  have hP := hP.sub (ws' := [(h0, .inr (11, [.null, .int 0, .int 0, .int 0, .int 0, .long 0, .ref q_1, .ref q_3, .ref q_5, .ref q_7, .ref q_9, .ref q_11, .ref q_13, .ref q_15, .ref q_17, .int 0, .int 0, .long 0]))]) [0] rfl
  have hD := hD.sub (ws' := [(h0, .inr (11, [.null, .int 0, .int 0, .int 0, .int 0, .long 0, .ref q_1, .ref q_3, .ref q_5, .ref q_7, .ref q_9, .ref q_11, .ref q_13, .ref q_15, .ref q_17, .int 0, .int 0, .long 0]))]) [0] (by decide) rfl
  have hK := hK.sub (tys' := []) [] rfl
  refine W.widen (k := 9) (n := 96) (Nat.le_of_ble_eq_true rfl) (Nat.le_of_ble_eq_true rfl) ?_
  have hP9 := hP.sub (ws' := [(h0, .inr (11, [.null, .int 0, .int 0, .int 0, .int 0, .long 0, .ref q_1, .ref q_3, .ref q_5, .ref q_7, .ref q_9, .ref q_11, .ref q_13, .ref q_15, .ref q_17, .int 0, .int 0, .long 0]))]) [0] rfl
  have hD9 := hD.sub (ws' := [(h0, .inr (11, [.null, .int 0, .int 0, .int 0, .int 0, .long 0, .ref q_1, .ref q_3, .ref q_5, .ref q_7, .ref q_9, .ref q_11, .ref q_13, .ref q_15, .ref q_17, .int 0, .int 0, .long 0]))]) [0] (by decide) rfl
  have hK9 := hK.sub (tys' := []) [] rfl
  exact W.vret hx hb hr (fun t ht hW => ⟨⟨(), rfl, trivial, ⟨bq [0, 0, 0, 0, 0, 0, q_1, q_3, q_5, q_7, q_9, q_11, q_13, q_15, q_17, 0, 0, 0], by rw [ht]; exact hP9, va_K.moved hW.alike hK9, hD9⟩⟩, hS.F ht⟩) hS.2.2 dX12_init_72
