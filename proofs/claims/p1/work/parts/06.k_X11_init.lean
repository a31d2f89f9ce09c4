set_option maxHeartbeats 8000000 in
set_option maxRecDepth 100000 in
theorem k_X11_init (l : Launch) (dC : Nat → ClassId) (dI : Nat → Nat → Nat) (sz : Nat) (h0 : Nat) : Met l yX11_init (Cond.code yX11_init cX11_init 1 none :: bw) ({ frames := 1, cells := 2, slots := 1027, locals := 12 }) (va_Pc [.ref h0] (fun U => U.heap.size = sz ∧ va_P (dC, dI) vwCl [(h0, .inr (10, [.null, .int 0, .int 0, .int 0, .null, .null, .null, .null, .null, .null, .int 0, .null]))] U.heap ∧ va_K (dC, dI) vwCl [] U ∧ va_D (fun _ => True) [(h0, .inr (10, [.null, .int 0, .int 0, .int 0, .null, .null, .null, .null, .null, .null, .int 0, .null]))] ∧ va_AO RX6 U)) (va_Qv (fun _ : Unit => True) (fun _ t => ∃ (a1 a2 : Nat) (cb cm : ClassId), va_P (dC, dI) vwCl (xW3 h0 a1 a2 cb cm) t.heap ∧ va_K (dC, dI) vwCl [(cb, .byte), (cm, .object RX6)] t ∧ va_D (va_A [(h0, .inr (10, [.null, .int 0, .int 0, .int 0, .null, .null, .null, .null, .null, .null, .int 0, .null]))] sz) (xW3 h0 a1 a2 cb cm)) (va_A [(h0, .inr (10, [.null, .int 0, .int 0, .int 0, .null, .null, .null, .null, .null, .null, .int 0, .null]))] sz)) 2 1027 (va_A [(h0, .inr (10, [.null, .int 0, .int 0, .int 0, .null, .null, .null, .null, .null, .null, .int 0, .null]))] sz) := by
  refine Met.ofW (cc := cX11_init) (maxL := 1) (ret := none) (by decide) rfl ?_
  intro p e s m args below meth c s₁ B hml hv
  obtain ⟨rfl, hsz, hP, hK, hD0, hAO⟩ := hv
  have hx := B.exec
  have hb := B.bytes
  have hr := B.returns
  have hts := atoms_spec (ws := Cond.code yX11_init cX11_init 1 none :: bw) B.pre
  have hw : ∀ w ∈ bw, w.before _ s = true := fun w h => hts w (List.mem_cons_of_mem _ h)
  have hown : s.vm.findClass RX11 = some m.cls := findClass_of_methodNamed B.named
  have hin : meth.name = "<init>" := (name_of_methodNamed B.named B.method).1
  subst hsz
  have hD := hD0.self (sz := s.heap.size)
  generalize hAe : va_A [(h0, .inr (10, [.null, .int 0, .int 0, .int 0, .null, .null, .null, .null, .null, .null, .int 0, .null]))] s.heap.size = A at hD ⊢
  have hA : ∀ q : Nat, s.heap.size ≤ q → A q := fun q h => by rw [← hAe]; exact Or.inr h
  have hS : va_S A s.heap s.heap [] := va_S.rf
  have hP : va_P (dC, dI) vwCl [(h0, .inr (10, [.null, .int 0, .int 0, .int 0, .null, .null, .null, .null, .null, .null, .int 0, .null]))] s.heap := hP
  have hl := lv_entry ([.ref h0]) (n := 1) (Nat.le_of_ble_eq_true rfl)
  rw [lg_entry_eq]
  generalize (lg_sl ([.ref h0]) ++ List.replicate (1 - (lg_sl ([.ref h0])).length) Slot.unset).toArray = ls at hl ⊢
  have hl : lv_has ls 1 [(0, .ref h0)] := hl
  refine lv_aload_n hx hb dX11_init_0 rfl (lv_at hl 0 rfl) ?_
  refine W.objInit hx hb hown (hw (Cond.methodLink RX11 1 objectInit) (wl_2 (List.mem_of_getElem? (i := 18) rfl))) (hw (Cond.instanceMethod objectInit) (wl_2 (List.mem_of_getElem? (i := 19) rfl))) (hw (Cond.code objectInit ⟨#[0xb1]⟩ 1 none) (wl_2 (List.mem_of_getElem? (i := 20) rfl))) rfl (by rw [hml]; exact hl.1) rfl dX11_init_1 (Nat.le_of_ble_eq_true rfl) (Nat.le_of_ble_eq_true rfl) ?_
  refine W.eq (g2 := F0 m 4 ls []) rfl ?_
  refine lv_aload_n hx hb dX11_init_4 rfl (lv_at hl 0 rfl) ?_
  refine lv_sipush (v := 1024) hx hb dX11_init_5 (by decide) ?_
  refine va_newa (atype := .byte) (ty := .byte) (n := 1024) (N' := 1024) (a0 := (1024, .inl (fun _ => 0))) hx hb (hw (Cond.arrayClass .byte) (wl_2 (List.mem_of_getElem? (i := 21) rfl))) rfl hK hP hD hS hA (az_byte 1024) (by decide) (by decide +kernel) (Nat.le_of_ble_eq_true rfl) (Nat.le_of_ble_eq_true rfl) (Nat.le_of_ble_eq_true rfl) dX11_init_8 (fun q_1 ca_2 H hK hP hD hS => ?_)
  have hK : va_K (dC, dI) vwCl [(ca_2, .byte)] s := hK
  have hP : va_P (dC, dI) vwCl [(h0, .inr (10, [.null, .int 0, .int 0, .int 0, .null, .null, .null, .null, .null, .null, .int 0, .null])), (q_1, .inl (ca_2, 1024, .inl (fun _ => 0)))] H := hP
  have hD : va_D A [(h0, .inr (10, [.null, .int 0, .int 0, .int 0, .null, .null, .null, .null, .null, .null, .int 0, .null])), (q_1, .inl (ca_2, 1024, .inl (fun _ => 0)))] := hD
  refine W.widen (k := 1) (n := 1024) (Nat.le_of_ble_eq_true rfl) (Nat.le_of_ble_eq_true rfl) ?_
  refine va_put (D := (dC, dI)) (ci := 10) (v := .ref q_1) (ty := .array .byte) (C := RX11) (T := TX11) (N := 12) hx hb hw inlX11 tyX11 tyX11_ok nmX11 hown hK hP hD hS 0 rfl rfl 0 (by decide) (hw (Cond.fieldLink RX11 7 "CodeLayout" "tray" "[B") (wl_2 (List.mem_of_getElem? (i := 22) rfl))) (fun _ h9 => h9) rfl (by decide +kernel) rfl rfl (Nat.le_of_ble_eq_true rfl) dX11_init_10 (fun H locs hP hD hS => ?_)
  have hP : va_P (dC, dI) vwCl [(h0, .inr (10, [.ref q_1, .int 0, .int 0, .int 0, .null, .null, .null, .null, .null, .null, .int 0, .null])), (q_1, .inl (ca_2, 1024, .inl (fun _ => 0)))] H := hP
  have hD : va_D A [(h0, .inr (10, [.ref q_1, .int 0, .int 0, .int 0, .null, .null, .null, .null, .null, .null, .int 0, .null])), (q_1, .inl (ca_2, 1024, .inl (fun _ => 0)))] := hD
  refine lv_aload_n hx hb dX11_init_13 rfl (lv_at hl 0 rfl) ?_
  refine lv_iconst (v := (-1)) hx hb dX11_init_14 (by decide) ?_
  refine va_put (D := (dC, dI)) (ci := 10) (v := .int ((-1))) (ty := .int) (C := RX11) (T := TX11) (N := 12) hx hb hw inlX11 tyX11 tyX11_ok nmX11 hown hK hP hD hS 0 rfl rfl 3 (by decide) (hw (Cond.fieldLink RX11 13 "CodeLayout" "refusedAt" "I") (wl_1 (List.mem_of_getElem? (i := 3) rfl))) (fun _ h9 => h9) rfl (by decide +kernel) rfl rfl (Nat.le_of_ble_eq_true rfl) dX11_init_15 (fun H locs hP hD hS => ?_)
  have hP : va_P (dC, dI) vwCl [(h0, .inr (10, [.ref q_1, .int 0, .int 0, .int ((-1)), .null, .null, .null, .null, .null, .null, .int 0, .null])), (q_1, .inl (ca_2, 1024, .inl (fun _ => 0)))] H := hP
  have hD : va_D A [(h0, .inr (10, [.ref q_1, .int 0, .int 0, .int ((-1)), .null, .null, .null, .null, .null, .null, .int 0, .null])), (q_1, .inl (ca_2, 1024, .inl (fun _ => 0)))] := hD
  refine lv_aload_n hx hb dX11_init_18 rfl (lv_at hl 0 rfl) ?_
  refine lv_iconst (v := 3) hx hb dX11_init_19 (by decide) ?_
  refine va_newq (n := 3) (N' := 3) (own := RX11) (C := RX6) hx hb hown (hw (Cond.classLink RX11 17 RX6) (wl_2 (List.mem_of_getElem? (i := 23) rfl))) hAO hK hP hD hS hA (by decide) (by decide +kernel) (Nat.le_of_ble_eq_true rfl) (Nat.le_of_ble_eq_true rfl) (Nat.le_of_ble_eq_true rfl) dX11_init_20 (fun q_3 ca_4 H hK hP hD hS => ?_)
  have hK : va_K (dC, dI) vwCl [(ca_2, .byte), (ca_4, .object RX6)] s := hK
  have hP : va_P (dC, dI) vwCl [(h0, .inr (10, [.ref q_1, .int 0, .int 0, .int ((-1)), .null, .null, .null, .null, .null, .null, .int 0, .null])), (q_1, .inl (ca_2, 1024, .inl (fun _ => 0))), (q_3, .inl (ca_4, 3, .inr (.inr (.inr (.inr (fun _ => none))))))] H := hP
  have hD : va_D A [(h0, .inr (10, [.ref q_1, .int 0, .int 0, .int ((-1)), .null, .null, .null, .null, .null, .null, .int 0, .null])), (q_1, .inl (ca_2, 1024, .inl (fun _ => 0))), (q_3, .inl (ca_4, 3, .inr (.inr (.inr (.inr (fun _ => none))))))] := hD
  refine W.widen (k := 2) (n := 1027) (Nat.le_of_ble_eq_true rfl) (Nat.le_of_ble_eq_true rfl) ?_
  refine va_putF (D := (dC, dI)) (ci := 10) (v := .ref q_3) (ty := .array (.object "CodeLayout$Machine")) (C := RX11) (T := TX11) (N := 12) hx hb hw inlX11 tyX11 tyX11_ok nmX11 hown hK hP hD hS 0 rfl rfl 11 (by decide) (hw (Cond.fieldLink RX11 19 "CodeLayout" "machines" "[LCodeLayout$Machine;") (wl_1 (List.mem_of_getElem? (i := 2) rfl))) (fun _ h9 => h9) rfl hin rfl (by decide +kernel) rfl rfl (Nat.le_of_ble_eq_true rfl) dX11_init_23 (fun H locs hP hD hS => ?_)
  have hP : va_P (dC, dI) vwCl [(h0, .inr (10, [.ref q_1, .int 0, .int 0, .int ((-1)), .null, .null, .null, .null, .null, .null, .int 0, .ref q_3])), (q_1, .inl (ca_2, 1024, .inl (fun _ => 0))), (q_3, .inl (ca_4, 3, .inr (.inr (.inr (.inr (fun _ => none))))))] H := hP
  have hD : va_D A [(h0, .inr (10, [.ref q_1, .int 0, .int 0, .int ((-1)), .null, .null, .null, .null, .null, .null, .int 0, .ref q_3])), (q_1, .inl (ca_2, 1024, .inl (fun _ => 0))), (q_3, .inl (ca_4, 3, .inr (.inr (.inr (.inr (fun _ => none))))))] := hD
  refine W.widen (k := 2) (n := 1027) (Nat.le_of_ble_eq_true rfl) (Nat.le_of_ble_eq_true rfl) ?_
  have hP9 := hP.sub (ws' := [(h0, .inr (10, [.ref q_1, .int 0, .int 0, .int ((-1)), .null, .null, .null, .null, .null, .null, .int 0, .ref q_3])), (q_1, .inl (ca_2, 1024, .inl (fun _ => 0))), (q_3, .inl (ca_4, 3, .inr (.inr (.inr (.inr (fun _ => none))))))]) [0, 1, 2] rfl
  have hD9 := hD.sub (ws' := [(h0, .inr (10, [.ref q_1, .int 0, .int 0, .int ((-1)), .null, .null, .null, .null, .null, .null, .int 0, .ref q_3])), (q_1, .inl (ca_2, 1024, .inl (fun _ => 0))), (q_3, .inl (ca_4, 3, .inr (.inr (.inr (.inr (fun _ => none))))))]) [0, 1, 2] (by decide) rfl
  have hK9 := hK.sub (tys' := [(ca_2, .byte), (ca_4, .object RX6)]) [0, 1] rfl
  exact W.vret hx hb hr (fun t ht hW => ⟨⟨(), rfl, trivial, ⟨q_1, q_3, ca_2, ca_4, by rw [ht]; exact hP9, va_K.moved hW.alike hK9, hD9⟩⟩, hS.F ht⟩) hS.2.2 dX11_init_26
