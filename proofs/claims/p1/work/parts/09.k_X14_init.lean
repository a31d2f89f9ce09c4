set_option maxHeartbeats 8000000 in
set_option maxRecDepth 100000 in
theorem k_X14_init (l : Launch) (dC : Nat → ClassId) (dI : Nat → Nat → Nat) (sz : Nat) (h0 o : Nat) : Met l yX14_init (Cond.code yX14_init cX14_init 2 none :: bw) ({ frames := 1, cells := 6, slots := 90012, locals := 12 }) (pM [.ref h0, .ref o] (dC, dI) sz [(h0, .inr (13, [.null, .null, .int 0, .null, .null, .null, .null, .null, .int 0, .int 0, .int 0, .int 0, .int 0, .int 0]))] []) (va_Qv (fun _ : Unit => True) (fun _ t => True) (va_A [(h0, .inr (13, [.null, .null, .int 0, .null, .null, .null, .null, .null, .int 0, .int 0, .int 0, .int 0, .int 0, .int 0]))] sz)) 6 90012 (va_A [(h0, .inr (13, [.null, .null, .int 0, .null, .null, .null, .null, .null, .int 0, .int 0, .int 0, .int 0, .int 0, .int 0]))] sz) := by
  refine Met.ofW (cc := cX14_init) (maxL := 2) (ret := none) (by decide) rfl ?_
  intro p e s m args below meth c s₁ B hml hv
  obtain ⟨rfl, hsz, hP, hK, hD0⟩ := hv
  have hx := B.exec
  have hb := B.bytes
  have hr := B.returns
  have hts := atoms_spec (ws := Cond.code yX14_init cX14_init 2 none :: bw) B.pre
  have hw : ∀ w ∈ bw, w.before _ s = true := fun w h => hts w (List.mem_cons_of_mem _ h)
  have hown : s.vm.findClass RX14 = some m.cls := findClass_of_methodNamed B.named
  have hin : meth.name = "<init>" := (name_of_methodNamed B.named B.method).1
  subst hsz
  have hD := hD0.self (sz := s.heap.size)
  generalize hAe : va_A [(h0, .inr (13, [.null, .null, .int 0, .null, .null, .null, .null, .null, .int 0, .int 0, .int 0, .int 0, .int 0, .int 0]))] s.heap.size = A at hD ⊢
  have hA : ∀ q : Nat, s.heap.size ≤ q → A q := fun q h => by rw [← hAe]; exact Or.inr h
  have hS : va_S A s.heap s.heap [] := va_S.rf
  have hP : va_P (dC, dI) vwCl [(h0, .inr (13, [.null, .null, .int 0, .null, .null, .null, .null, .null, .int 0, .int 0, .int 0, .int 0, .int 0, .int 0]))] s.heap := hP
  have hl := lv_entry ([.ref h0, .ref o]) (n := 2) (Nat.le_of_ble_eq_true rfl)
  rw [lg_entry_eq]
  generalize (lg_sl ([.ref h0, .ref o]) ++ List.replicate (2 - (lg_sl ([.ref h0, .ref o])).length) Slot.unset).toArray = ls at hl ⊢
  have hl : lv_has ls 2 [(0, .ref h0), (1, .ref o)] := hl
  refine lv_aload_n hx hb dX14_init_0 rfl (lv_at hl 0 rfl) ?_
  refine W.objInit hx hb hown (hw (Cond.methodLink RX14 3 objectInit) (wl_3 (List.mem_of_getElem? (i := 24) rfl))) (hw (Cond.instanceMethod objectInit) (wl_2 (List.mem_of_getElem? (i := 19) rfl))) (hw (Cond.code objectInit ⟨#[0xb1]⟩ 1 none) (wl_2 (List.mem_of_getElem? (i := 20) rfl))) rfl (by rw [hml]; exact hl.1) rfl dX14_init_1 (Nat.le_of_ble_eq_true rfl) (Nat.le_of_ble_eq_true rfl) ?_
  refine W.eq (g2 := F0 m 4 ls []) rfl ?_
  refine lv_aload_n hx hb dX14_init_4 rfl (lv_at hl 0 rfl) ?_
  refine lv_sipush (v := 15002) hx hb dX14_init_5 (by decide) ?_
  refine va_newa (atype := .int) (ty := .int) (n := 15002) (N' := 15002) (a0 := (15002, .inl (fun _ => 0))) hx hb (hw (Cond.arrayClass .int) (wl_3 (List.mem_of_getElem? (i := 0) rfl))) rfl hK hP hD hS hA (az_int 15002) (by decide) (by decide +kernel) (Nat.le_of_ble_eq_true rfl) (Nat.le_of_ble_eq_true rfl) (Nat.le_of_ble_eq_true rfl) dX14_init_8 (fun q_1 ca_2 H hK hP hD hS => ?_)
  have hK : va_K (dC, dI) vwCl [(ca_2, .int)] s := hK
  have hP : va_P (dC, dI) vwCl [(h0, .inr (13, [.null, .null, .int 0, .null, .null, .null, .null, .null, .int 0, .int 0, .int 0, .int 0, .int 0, .int 0])), (q_1, .inl (ca_2, 15002, .inl (fun _ => 0)))] H := hP
  have hD : va_D A [(h0, .inr (13, [.null, .null, .int 0, .null, .null, .null, .null, .null, .int 0, .int 0, .int 0, .int 0, .int 0, .int 0])), (q_1, .inl (ca_2, 15002, .inl (fun _ => 0)))] := hD
  refine W.widen (k := 1) (n := 15002) (Nat.le_of_ble_eq_true rfl) (Nat.le_of_ble_eq_true rfl) ?_
  refine va_putF (D := (dC, dI)) (ci := 13) (v := .ref q_1) (ty := .array .int) (C := RX14) (T := TX14) (N := 14) hx hb hw inlX14 tyX14 tyX14_ok nmX14 hown hK hP hD hS 0 rfl rfl 1 (by decide) (hw (Cond.fieldLink RX14 9 "CodeLayoutModel$Written" "order" "[I") (wl_4 (List.mem_of_getElem? (i := 0) rfl))) (fun _ h9 => h9) rfl hin rfl (by decide +kernel) rfl rfl (Nat.le_of_ble_eq_true rfl) dX14_init_10 (fun H locs hP hD hS => ?_)
  have hP : va_P (dC, dI) vwCl [(h0, .inr (13, [.null, .ref q_1, .int 0, .null, .null, .null, .null, .null, .int 0, .int 0, .int 0, .int 0, .int 0, .int 0])), (q_1, .inl (ca_2, 15002, .inl (fun _ => 0)))] H := hP
  have hD : va_D A [(h0, .inr (13, [.null, .ref q_1, .int 0, .null, .null, .null, .null, .null, .int 0, .int 0, .int 0, .int 0, .int 0, .int 0])), (q_1, .inl (ca_2, 15002, .inl (fun _ => 0)))] := hD
  have hP := hP.sub (ws' := [(h0, .inr (13, [.null, .ref q_1, .int 0, .null, .null, .null, .null, .null, .int 0, .int 0, .int 0, .int 0, .int 0, .int 0]))]) [0] rfl
  have hD := hD.sub (ws' := [(h0, .inr (13, [.null, .ref q_1, .int 0, .null, .null, .null, .null, .null, .int 0, .int 0, .int 0, .int 0, .int 0, .int 0]))]) [0] (by decide) rfl
  have hK := hK.sub (tys' := []) [] rfl
  refine lv_aload_n hx hb dX14_init_13 rfl (lv_at hl 0 rfl) ?_
  refine lv_sipush (v := 15002) hx hb dX14_init_14 (by decide) ?_
  refine va_newa (atype := .int) (ty := .int) (n := 15002) (N' := 15002) (a0 := (15002, .inl (fun _ => 0))) hx hb (hw (Cond.arrayClass .int) (wl_3 (List.mem_of_getElem? (i := 0) rfl))) rfl hK hP hD hS hA (az_int 15002) (by decide) (by decide +kernel) (Nat.le_of_ble_eq_true rfl) (Nat.le_of_ble_eq_true rfl) (Nat.le_of_ble_eq_true rfl) dX14_init_17 (fun q_3 ca_4 H hK hP hD hS => ?_)
  have hK : va_K (dC, dI) vwCl [(ca_4, .int)] s := hK
  have hP : va_P (dC, dI) vwCl [(h0, .inr (13, [.null, .ref q_1, .int 0, .null, .null, .null, .null, .null, .int 0, .int 0, .int 0, .int 0, .int 0, .int 0])), (q_3, .inl (ca_4, 15002, .inl (fun _ => 0)))] H := hP
  have hD : va_D A [(h0, .inr (13, [.null, .ref q_1, .int 0, .null, .null, .null, .null, .null, .int 0, .int 0, .int 0, .int 0, .int 0, .int 0])), (q_3, .inl (ca_4, 15002, .inl (fun _ => 0)))] := hD
  refine W.widen (k := 2) (n := 30004) (Nat.le_of_ble_eq_true rfl) (Nat.le_of_ble_eq_true rfl) ?_
  refine va_putF (D := (dC, dI)) (ci := 13) (v := .ref q_3) (ty := .array .int) (C := RX14) (T := TX14) (N := 14) hx hb hw inlX14 tyX14 tyX14_ok nmX14 hown hK hP hD hS 0 rfl rfl 3 (by decide) (hw (Cond.fieldLink RX14 15 "CodeLayoutModel$Written" "at" "[I") (wl_4 (List.mem_of_getElem? (i := 1) rfl))) (fun _ h9 => h9) rfl hin rfl (by decide +kernel) rfl rfl (Nat.le_of_ble_eq_true rfl) dX14_init_19 (fun H locs hP hD hS => ?_)
  have hP : va_P (dC, dI) vwCl [(h0, .inr (13, [.null, .ref q_1, .int 0, .ref q_3, .null, .null, .null, .null, .int 0, .int 0, .int 0, .int 0, .int 0, .int 0])), (q_3, .inl (ca_4, 15002, .inl (fun _ => 0)))] H := hP
  have hD : va_D A [(h0, .inr (13, [.null, .ref q_1, .int 0, .ref q_3, .null, .null, .null, .null, .int 0, .int 0, .int 0, .int 0, .int 0, .int 0])), (q_3, .inl (ca_4, 15002, .inl (fun _ => 0)))] := hD
  have hP := hP.sub (ws' := [(h0, .inr (13, [.null, .ref q_1, .int 0, .ref q_3, .null, .null, .null, .null, .int 0, .int 0, .int 0, .int 0, .int 0, .int 0]))]) [0] rfl
  have hD := hD.sub (ws' := [(h0, .inr (13, [.null, .ref q_1, .int 0, .ref q_3, .null, .null, .null, .null, .int 0, .int 0, .int 0, .int 0, .int 0, .int 0]))]) [0] (by decide) rfl
  have hK := hK.sub (tys' := []) [] rfl
  refine lv_aload_n hx hb dX14_init_22 rfl (lv_at hl 0 rfl) ?_
  refine lv_sipush (v := 15002) hx hb dX14_init_23 (by decide) ?_
  refine va_newa (atype := .byte) (ty := .byte) (n := 15002) (N' := 15002) (a0 := (15002, .inl (fun _ => 0))) hx hb (hw (Cond.arrayClass .byte) (wl_2 (List.mem_of_getElem? (i := 21) rfl))) rfl hK hP hD hS hA (az_byte 15002) (by decide) (by decide +kernel) (Nat.le_of_ble_eq_true rfl) (Nat.le_of_ble_eq_true rfl) (Nat.le_of_ble_eq_true rfl) dX14_init_26 (fun q_5 ca_6 H hK hP hD hS => ?_)
  have hK : va_K (dC, dI) vwCl [(ca_6, .byte)] s := hK
  have hP : va_P (dC, dI) vwCl [(h0, .inr (13, [.null, .ref q_1, .int 0, .ref q_3, .null, .null, .null, .null, .int 0, .int 0, .int 0, .int 0, .int 0, .int 0])), (q_5, .inl (ca_6, 15002, .inl (fun _ => 0)))] H := hP
  have hD : va_D A [(h0, .inr (13, [.null, .ref q_1, .int 0, .ref q_3, .null, .null, .null, .null, .int 0, .int 0, .int 0, .int 0, .int 0, .int 0])), (q_5, .inl (ca_6, 15002, .inl (fun _ => 0)))] := hD
  refine W.widen (k := 3) (n := 45006) (Nat.le_of_ble_eq_true rfl) (Nat.le_of_ble_eq_true rfl) ?_
  refine va_putF (D := (dC, dI)) (ci := 13) (v := .ref q_5) (ty := .array .byte) (C := RX14) (T := TX14) (N := 14) hx hb hw inlX14 tyX14 tyX14_ok nmX14 hown hK hP hD hS 0 rfl rfl 4 (by decide) (hw (Cond.fieldLink RX14 18 "CodeLayoutModel$Written" "how" "[B") (wl_4 (List.mem_of_getElem? (i := 2) rfl))) (fun _ h9 => h9) rfl hin rfl (by decide +kernel) rfl rfl (Nat.le_of_ble_eq_true rfl) dX14_init_28 (fun H locs hP hD hS => ?_)
  have hP : va_P (dC, dI) vwCl [(h0, .inr (13, [.null, .ref q_1, .int 0, .ref q_3, .ref q_5, .null, .null, .null, .int 0, .int 0, .int 0, .int 0, .int 0, .int 0])), (q_5, .inl (ca_6, 15002, .inl (fun _ => 0)))] H := hP
  have hD : va_D A [(h0, .inr (13, [.null, .ref q_1, .int 0, .ref q_3, .ref q_5, .null, .null, .null, .int 0, .int 0, .int 0, .int 0, .int 0, .int 0])), (q_5, .inl (ca_6, 15002, .inl (fun _ => 0)))] := hD
  have hP := hP.sub (ws' := [(h0, .inr (13, [.null, .ref q_1, .int 0, .ref q_3, .ref q_5, .null, .null, .null, .int 0, .int 0, .int 0, .int 0, .int 0, .int 0]))]) [0] rfl
  have hD := hD.sub (ws' := [(h0, .inr (13, [.null, .ref q_1, .int 0, .ref q_3, .ref q_5, .null, .null, .null, .int 0, .int 0, .int 0, .int 0, .int 0, .int 0]))]) [0] (by decide) rfl
  have hK := hK.sub (tys' := []) [] rfl
  refine lv_aload_n hx hb dX14_init_31 rfl (lv_at hl 0 rfl) ?_
  refine lv_sipush (v := 15002) hx hb dX14_init_32 (by decide) ?_
  refine va_newa (atype := .boolean) (ty := .boolean) (n := 15002) (N' := 15002) (a0 := (15002, .inl (fun _ => 0))) hx hb (hw (Cond.arrayClass .boolean) (wl_4 (List.mem_of_getElem? (i := 3) rfl))) rfl hK hP hD hS hA (az_boolean 15002) (by decide) (by decide +kernel) (Nat.le_of_ble_eq_true rfl) (Nat.le_of_ble_eq_true rfl) (Nat.le_of_ble_eq_true rfl) dX14_init_35 (fun q_7 ca_8 H hK hP hD hS => ?_)
  have hK : va_K (dC, dI) vwCl [(ca_8, .boolean)] s := hK
  have hP : va_P (dC, dI) vwCl [(h0, .inr (13, [.null, .ref q_1, .int 0, .ref q_3, .ref q_5, .null, .null, .null, .int 0, .int 0, .int 0, .int 0, .int 0, .int 0])), (q_7, .inl (ca_8, 15002, .inl (fun _ => 0)))] H := hP
  have hD : va_D A [(h0, .inr (13, [.null, .ref q_1, .int 0, .ref q_3, .ref q_5, .null, .null, .null, .int 0, .int 0, .int 0, .int 0, .int 0, .int 0])), (q_7, .inl (ca_8, 15002, .inl (fun _ => 0)))] := hD
  refine W.widen (k := 4) (n := 60008) (Nat.le_of_ble_eq_true rfl) (Nat.le_of_ble_eq_true rfl) ?_
  refine va_putF (D := (dC, dI)) (ci := 13) (v := .ref q_7) (ty := .array .boolean) (C := RX14) (T := TX14) (N := 14) hx hb hw inlX14 tyX14 tyX14_ok nmX14 hown hK hP hD hS 0 rfl rfl 5 (by decide) (hw (Cond.fieldLink RX14 22 "CodeLayoutModel$Written" "isLong" "[Z") (wl_4 (List.mem_of_getElem? (i := 4) rfl))) (fun _ h9 => h9) rfl hin rfl (by decide +kernel) rfl rfl (Nat.le_of_ble_eq_true rfl) dX14_init_37 (fun H locs hP hD hS => ?_)
  have hP : va_P (dC, dI) vwCl [(h0, .inr (13, [.null, .ref q_1, .int 0, .ref q_3, .ref q_5, .ref q_7, .null, .null, .int 0, .int 0, .int 0, .int 0, .int 0, .int 0])), (q_7, .inl (ca_8, 15002, .inl (fun _ => 0)))] H := hP
  have hD : va_D A [(h0, .inr (13, [.null, .ref q_1, .int 0, .ref q_3, .ref q_5, .ref q_7, .null, .null, .int 0, .int 0, .int 0, .int 0, .int 0, .int 0])), (q_7, .inl (ca_8, 15002, .inl (fun _ => 0)))] := hD
  have hP := hP.sub (ws' := [(h0, .inr (13, [.null, .ref q_1, .int 0, .ref q_3, .ref q_5, .ref q_7, .null, .null, .int 0, .int 0, .int 0, .int 0, .int 0, .int 0]))]) [0] rfl
  have hD := hD.sub (ws' := [(h0, .inr (13, [.null, .ref q_1, .int 0, .ref q_3, .ref q_5, .ref q_7, .null, .null, .int 0, .int 0, .int 0, .int 0, .int 0, .int 0]))]) [0] (by decide) rfl
  have hK := hK.sub (tys' := []) [] rfl
  refine lv_aload_n hx hb dX14_init_40 rfl (lv_at hl 0 rfl) ?_
  refine lv_sipush (v := 15002) hx hb dX14_init_41 (by decide) ?_
  refine va_newa (atype := .boolean) (ty := .boolean) (n := 15002) (N' := 15002) (a0 := (15002, .inl (fun _ => 0))) hx hb (hw (Cond.arrayClass .boolean) (wl_4 (List.mem_of_getElem? (i := 3) rfl))) rfl hK hP hD hS hA (az_boolean 15002) (by decide) (by decide +kernel) (Nat.le_of_ble_eq_true rfl) (Nat.le_of_ble_eq_true rfl) (Nat.le_of_ble_eq_true rfl) dX14_init_44 (fun q_9 ca_10 H hK hP hD hS => ?_)
  have hK : va_K (dC, dI) vwCl [(ca_10, .boolean)] s := hK
  have hP : va_P (dC, dI) vwCl [(h0, .inr (13, [.null, .ref q_1, .int 0, .ref q_3, .ref q_5, .ref q_7, .null, .null, .int 0, .int 0, .int 0, .int 0, .int 0, .int 0])), (q_9, .inl (ca_10, 15002, .inl (fun _ => 0)))] H := hP
  have hD : va_D A [(h0, .inr (13, [.null, .ref q_1, .int 0, .ref q_3, .ref q_5, .ref q_7, .null, .null, .int 0, .int 0, .int 0, .int 0, .int 0, .int 0])), (q_9, .inl (ca_10, 15002, .inl (fun _ => 0)))] := hD
  refine W.widen (k := 5) (n := 75010) (Nat.le_of_ble_eq_true rfl) (Nat.le_of_ble_eq_true rfl) ?_
  refine va_putF (D := (dC, dI)) (ci := 13) (v := .ref q_9) (ty := .array .boolean) (C := RX14) (T := TX14) (N := 14) hx hb hw inlX14 tyX14 tyX14_ok nmX14 hown hK hP hD hS 0 rfl rfl 6 (by decide) (hw (Cond.fieldLink RX14 26 "CodeLayoutModel$Written" "hasB" "[Z") (wl_4 (List.mem_of_getElem? (i := 5) rfl))) (fun _ h9 => h9) rfl hin rfl (by decide +kernel) rfl rfl (Nat.le_of_ble_eq_true rfl) dX14_init_46 (fun H locs hP hD hS => ?_)
  have hP : va_P (dC, dI) vwCl [(h0, .inr (13, [.null, .ref q_1, .int 0, .ref q_3, .ref q_5, .ref q_7, .ref q_9, .null, .int 0, .int 0, .int 0, .int 0, .int 0, .int 0])), (q_9, .inl (ca_10, 15002, .inl (fun _ => 0)))] H := hP
  have hD : va_D A [(h0, .inr (13, [.null, .ref q_1, .int 0, .ref q_3, .ref q_5, .ref q_7, .ref q_9, .null, .int 0, .int 0, .int 0, .int 0, .int 0, .int 0])), (q_9, .inl (ca_10, 15002, .inl (fun _ => 0)))] := hD
  have hP := hP.sub (ws' := [(h0, .inr (13, [.null, .ref q_1, .int 0, .ref q_3, .ref q_5, .ref q_7, .ref q_9, .null, .int 0, .int 0, .int 0, .int 0, .int 0, .int 0]))]) [0] rfl
  have hD := hD.sub (ws' := [(h0, .inr (13, [.null, .ref q_1, .int 0, .ref q_3, .ref q_5, .ref q_7, .ref q_9, .null, .int 0, .int 0, .int 0, .int 0, .int 0, .int 0]))]) [0] (by decide) rfl
  have hK := hK.sub (tys' := []) [] rfl
  refine lv_aload_n hx hb dX14_init_49 rfl (lv_at hl 0 rfl) ?_
  refine lv_sipush (v := 15002) hx hb dX14_init_50 (by decide) ?_
  refine va_newa (atype := .int) (ty := .int) (n := 15002) (N' := 15002) (a0 := (15002, .inl (fun _ => 0))) hx hb (hw (Cond.arrayClass .int) (wl_3 (List.mem_of_getElem? (i := 0) rfl))) rfl hK hP hD hS hA (az_int 15002) (by decide) (by decide +kernel) (Nat.le_of_ble_eq_true rfl) (Nat.le_of_ble_eq_true rfl) (Nat.le_of_ble_eq_true rfl) dX14_init_53 (fun q_11 ca_12 H hK hP hD hS => ?_)
  have hK : va_K (dC, dI) vwCl [(ca_12, .int)] s := hK
  have hP : va_P (dC, dI) vwCl [(h0, .inr (13, [.null, .ref q_1, .int 0, .ref q_3, .ref q_5, .ref q_7, .ref q_9, .null, .int 0, .int 0, .int 0, .int 0, .int 0, .int 0])), (q_11, .inl (ca_12, 15002, .inl (fun _ => 0)))] H := hP
  have hD : va_D A [(h0, .inr (13, [.null, .ref q_1, .int 0, .ref q_3, .ref q_5, .ref q_7, .ref q_9, .null, .int 0, .int 0, .int 0, .int 0, .int 0, .int 0])), (q_11, .inl (ca_12, 15002, .inl (fun _ => 0)))] := hD
  refine W.widen (k := 6) (n := 90012) (Nat.le_of_ble_eq_true rfl) (Nat.le_of_ble_eq_true rfl) ?_
  refine va_putF (D := (dC, dI)) (ci := 13) (v := .ref q_11) (ty := .array .int) (C := RX14) (T := TX14) (N := 14) hx hb hw inlX14 tyX14 tyX14_ok nmX14 hown hK hP hD hS 0 rfl rfl 7 (by decide) (hw (Cond.fieldLink RX14 29 "CodeLayoutModel$Written" "next" "[I") (wl_4 (List.mem_of_getElem? (i := 6) rfl))) (fun _ h9 => h9) rfl hin rfl (by decide +kernel) rfl rfl (Nat.le_of_ble_eq_true rfl) dX14_init_55 (fun H locs hP hD hS => ?_)
  have hP : va_P (dC, dI) vwCl [(h0, .inr (13, [.null, .ref q_1, .int 0, .ref q_3, .ref q_5, .ref q_7, .ref q_9, .ref q_11, .int 0, .int 0, .int 0, .int 0, .int 0, .int 0])), (q_11, .inl (ca_12, 15002, .inl (fun _ => 0)))] H := hP
  have hD : va_D A [(h0, .inr (13, [.null, .ref q_1, .int 0, .ref q_3, .ref q_5, .ref q_7, .ref q_9, .ref q_11, .int 0, .int 0, .int 0, .int 0, .int 0, .int 0])), (q_11, .inl (ca_12, 15002, .inl (fun _ => 0)))] := hD
  have hP := hP.sub (ws' := [(h0, .inr (13, [.null, .ref q_1, .int 0, .ref q_3, .ref q_5, .ref q_7, .ref q_9, .ref q_11, .int 0, .int 0, .int 0, .int 0, .int 0, .int 0]))]) [0] rfl
  have hD := hD.sub (ws' := [(h0, .inr (13, [.null, .ref q_1, .int 0, .ref q_3, .ref q_5, .ref q_7, .ref q_9, .ref q_11, .int 0, .int 0, .int 0, .int 0, .int 0, .int 0]))]) [0] (by decide) rfl
  have hK := hK.sub (tys' := []) [] rfl
  refine lv_aload_n hx hb dX14_init_58 rfl (lv_at hl 0 rfl) ?_
  refine lv_aload_n hx hb dX14_init_59 rfl (lv_at hl 1 rfl) ?_
  refine va_putF (D := (dC, dI)) (ci := 13) (v := .ref o) (ty := .object "CodeLayoutModel") (C := RX14) (T := TX14) (N := 14) hx hb hw inlX14 tyX14 tyX14_ok nmX14 hown hK hP hD hS 0 rfl rfl 0 (by decide) (hw (Cond.fieldLink RX14 32 "CodeLayoutModel$Written" "m" "LCodeLayoutModel;") (wl_4 (List.mem_of_getElem? (i := 7) rfl))) (fun _ h9 => h9) rfl hin rfl (by decide +kernel) rfl rfl (Nat.le_of_ble_eq_true rfl) dX14_init_60 (fun H locs hP hD hS => ?_)
  have hP : va_P (dC, dI) vwCl [(h0, .inr (13, [.ref o, .ref q_1, .int 0, .ref q_3, .ref q_5, .ref q_7, .ref q_9, .ref q_11, .int 0, .int 0, .int 0, .int 0, .int 0, .int 0]))] H := hP
  have hD : va_D A [(h0, .inr (13, [.ref o, .ref q_1, .int 0, .ref q_3, .ref q_5, .ref q_7, .ref q_9, .ref q_11, .int 0, .int 0, .int 0, .int 0, .int 0, .int 0]))] := hD
  refine W.widen (k := 6) (n := 90012) (Nat.le_of_ble_eq_true rfl) (Nat.le_of_ble_eq_true rfl) ?_
  exact W.vret hx hb hr (fun t ht hW => ⟨⟨(), rfl, trivial, trivial⟩, hS.F ht⟩) hS.2.2 dX14_init_63
