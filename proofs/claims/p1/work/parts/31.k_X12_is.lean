set_option maxHeartbeats 8000000 in
set_option maxRecDepth 100000 in
theorem k_X12_is (l : Launch) (dC : Nat → ClassId) (dI : Nat → Nat → Nat) (sz : Nat) (h0 sp : Nat) (b : Nat → Nat) : Met l yX12_is (Cond.code yX12_is cX12_is 4 (some .boolean) :: bw) ({ frames := 0, cells := 0, slots := 0, locals := 0 }) (pM [.ref h0, .int 0, .long 0] (dC, dI) sz [(h0, .inr (11, [.ref sp, .int 0, .int 0, .int 0, .int 0, .long 0, .ref (b 6), .ref (b 7), .ref (b 8), .ref (b 9), .ref (b 10), .ref (b 11), .ref (b 12), .ref (b 13), .ref (b 14), .int 0, .int 0, .long 0]))] []) (va_Qi (fun (r : Int32) (_ : Unit) => r = 0) (fun _ t => va_P (dC, dI) vwCl [(h0, .inr (11, [.ref sp, .int 0, .int 0, .int 0, .int 0, .long 0, .ref (b 6), .ref (b 7), .ref (b 8), .ref (b 9), .ref (b 10), .ref (b 11), .ref (b 12), .ref (b 13), .ref (b 14), .int 0, .int 0, .long 0]))] t.heap ∧ va_K (dC, dI) vwCl [] t ∧ va_D (va_A [(h0, .inr (11, [.ref sp, .int 0, .int 0, .int 0, .int 0, .long 0, .ref (b 6), .ref (b 7), .ref (b 8), .ref (b 9), .ref (b 10), .ref (b 11), .ref (b 12), .ref (b 13), .ref (b 14), .int 0, .int 0, .long 0]))] sz) [(h0, .inr (11, [.ref sp, .int 0, .int 0, .int 0, .int 0, .long 0, .ref (b 6), .ref (b 7), .ref (b 8), .ref (b 9), .ref (b 10), .ref (b 11), .ref (b 12), .ref (b 13), .ref (b 14), .int 0, .int 0, .long 0]))]) (va_A [(h0, .inr (11, [.ref sp, .int 0, .int 0, .int 0, .int 0, .long 0, .ref (b 6), .ref (b 7), .ref (b 8), .ref (b 9), .ref (b 10), .ref (b 11), .ref (b 12), .ref (b 13), .ref (b 14), .int 0, .int 0, .long 0]))] sz)) 0 0 (va_A [(h0, .inr (11, [.ref sp, .int 0, .int 0, .int 0, .int 0, .long 0, .ref (b 6), .ref (b 7), .ref (b 8), .ref (b 9), .ref (b 10), .ref (b 11), .ref (b 12), .ref (b 13), .ref (b 14), .int 0, .int 0, .long 0]))] sz) := by
  refine Met.ofW (cc := cX12_is) (maxL := 4) (ret := (some .boolean)) (by decide) rfl ?_
  intro p e s m args below meth c s₁ B hml hv
  obtain ⟨rfl, hsz, hP, hK, hD0⟩ := hv
  have hx := B.exec
  have hb := B.bytes
  have hr := B.returns
  have hts := atoms_spec (ws := Cond.code yX12_is cX12_is 4 (some .boolean) :: bw) B.pre
  have hw : ∀ w ∈ bw, w.before _ s = true := fun w h => hts w (List.mem_cons_of_mem _ h)
  have hown : s.vm.findClass RX12 = some m.cls := findClass_of_methodNamed B.named
  subst hsz
  have hD := hD0.self (sz := s.heap.size)
  generalize hAe : va_A [(h0, .inr (11, [.ref sp, .int 0, .int 0, .int 0, .int 0, .long 0, .ref (b 6), .ref (b 7), .ref (b 8), .ref (b 9), .ref (b 10), .ref (b 11), .ref (b 12), .ref (b 13), .ref (b 14), .int 0, .int 0, .long 0]))] s.heap.size = A at hD ⊢
  have hA : ∀ q : Nat, s.heap.size ≤ q → A q := fun q h => by rw [← hAe]; exact Or.inr h
  have hS : va_S A s.heap s.heap [] := va_S.rf
  have hP : va_P (dC, dI) vwCl [(h0, .inr (11, [.ref sp, .int 0, .int 0, .int 0, .int 0, .long 0, .ref (b 6), .ref (b 7), .ref (b 8), .ref (b 9), .ref (b 10), .ref (b 11), .ref (b 12), .ref (b 13), .ref (b 14), .int 0, .int 0, .long 0]))] s.heap := hP
  have hl := lv_entry ([.ref h0, .int 0, .long 0]) (n := 4) (Nat.le_of_ble_eq_true rfl)
  rw [lg_entry_eq]
  generalize (lg_sl ([.ref h0, .int 0, .long 0]) ++ List.replicate (4 - (lg_sl ([.ref h0, .int 0, .long 0])).length) Slot.unset).toArray = ls at hl ⊢
  have hl : lv_has ls 4 [(0, .ref h0), (1, .int 0), (2, .long 0)] := hl
  refine lv_iload_n hx hb dX12_is_0 rfl (lv_at hl 1 rfl) ?_
  refine lv_if_ne (tgt := 9) hx hb dX12_is_1 (by decide) (fun c_1 => absurd c_1 (by decide)) (fun c_1 => ?_)
  refine lv_aload_n hx hb dX12_is_4 rfl (lv_at hl 0 rfl) ?_
  refine lv_lload_n hx hb dX12_is_5 rfl (lv_at hl 2 rfl) ?_
  refine va_put (D := (dC, dI)) (ci := 11) (v := .long 0) (ty := .long) (C := RX12) (T := TX12) (N := 18) hx hb hw inlX12 tyX12 tyX12_ok nmX12 hown hK hP hD hS 0 rfl rfl 17 (by decide) (hw (Cond.fieldLink RX12 48 "CodeLayoutModel$Heads" "place" "J") (wl_9 (List.mem_of_getElem? (i := 19) rfl))) (fun _ h9 => h9) rfl (by decide +kernel) rfl rfl (Nat.le_of_ble_eq_true rfl) dX12_is_6 (fun H locs hP hD hS => ?_)
  have hP : va_P (dC, dI) vwCl [(h0, .inr (11, [.ref sp, .int 0, .int 0, .int 0, .int 0, .long 0, .ref (b 6), .ref (b 7), .ref (b 8), .ref (b 9), .ref (b 10), .ref (b 11), .ref (b 12), .ref (b 13), .ref (b 14), .int 0, .int 0, .long 0]))] H := hP
  have hD : va_D A [(h0, .inr (11, [.ref sp, .int 0, .int 0, .int 0, .int 0, .long 0, .ref (b 6), .ref (b 7), .ref (b 8), .ref (b 9), .ref (b 10), .ref (b 11), .ref (b 12), .ref (b 13), .ref (b 14), .int 0, .int 0, .long 0]))] := hD
  refine lv_iload_n hx hb dX12_is_9 rfl (lv_at hl 1 rfl) ?_
  refine W.widen (k := 0) (n := 0) (Nat.le_of_ble_eq_true rfl) (Nat.le_of_ble_eq_true rfl) ?_
  have hP9 := hP.sub (ws' := [(h0, .inr (11, [.ref sp, .int 0, .int 0, .int 0, .int 0, .long 0, .ref (b 6), .ref (b 7), .ref (b 8), .ref (b 9), .ref (b 10), .ref (b 11), .ref (b 12), .ref (b 13), .ref (b 14), .int 0, .int 0, .long 0]))]) [0] rfl
  have hD9 := hD.sub (ws' := [(h0, .inr (11, [.ref sp, .int 0, .int 0, .int 0, .int 0, .long 0, .ref (b 6), .ref (b 7), .ref (b 8), .ref (b 9), .ref (b 10), .ref (b 11), .ref (b 12), .ref (b 13), .ref (b 14), .int 0, .int 0, .long 0]))]) [0] (by decide) rfl
  have hK9 := hK.sub (tys' := []) [] rfl
  exact W.zret (v := 0) hx hb hr rfl (fun t ht hW => ⟨⟨0, (), rfl, rfl, ⟨by rw [ht]; exact hP9, va_K.moved hW.alike hK9, hD9⟩⟩, hS.F ht⟩) hS.2.2 dX12_is_10
