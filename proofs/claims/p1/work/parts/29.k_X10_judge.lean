set_option maxHeartbeats 8000000 in
set_option maxRecDepth 100000 in
theorem k_X10_judge (l : Launch) (dC : Nat → ClassId) (dI : Nat → Nat → Nat) (sz : Nat) (h0 im x0 x2 : Nat) (b : Nat → Nat) : Met l yX10_judge (Cond.code yX10_judge cX10_judge 1 (some .int) :: bw) ({ frames := 2, cells := 0, slots := 0, locals := 43 }) (pM [.ref h0] (dC, dI) sz [(h0, .inr (9, [.ref im, .int ((-1)), .int 0, .int 0, .int 0, .ref (b 5), .ref (b 6), .ref (b 7), .ref (b 8), .ref (b 9), .ref (b 10), .ref (b 11), .ref (b 12), .int 0, .int 0, .long 0, .ref (b 16)])), (im, .inr (3, [.ref x0, .int 0, .ref x2, .ref x2, .int 2147483647, .int 0, .int 0, .int 0, .int 0, .int 0]))] []) (va_Qi (fun (r : Int32) (_ : Unit) => r = 1) (fun _ t => va_P (dC, dI) vwCl [(h0, .inr (9, [.ref im, .int 0, .int 0, .int 0, .int 0, .ref (b 5), .ref (b 6), .ref (b 7), .ref (b 8), .ref (b 9), .ref (b 10), .ref (b 11), .ref (b 12), .int 0, .int 0, .long 0, .ref (b 16)])), (im, .inr (3, [.ref x0, .int 0, .ref x2, .ref x2, .int 2147483647, .int 0, .int 0, .int 0, .int 0, .int 0]))] t.heap ∧ va_K (dC, dI) vwCl [] t ∧ va_D (va_A [(h0, .inr (9, [.ref im, .int ((-1)), .int 0, .int 0, .int 0, .ref (b 5), .ref (b 6), .ref (b 7), .ref (b 8), .ref (b 9), .ref (b 10), .ref (b 11), .ref (b 12), .int 0, .int 0, .long 0, .ref (b 16)])), (im, .inr (3, [.ref x0, .int 0, .ref x2, .ref x2, .int 2147483647, .int 0, .int 0, .int 0, .int 0, .int 0]))] sz) [(h0, .inr (9, [.ref im, .int 0, .int 0, .int 0, .int 0, .ref (b 5), .ref (b 6), .ref (b 7), .ref (b 8), .ref (b 9), .ref (b 10), .ref (b 11), .ref (b 12), .int 0, .int 0, .long 0, .ref (b 16)])), (im, .inr (3, [.ref x0, .int 0, .ref x2, .ref x2, .int 2147483647, .int 0, .int 0, .int 0, .int 0, .int 0]))]) (va_A [(h0, .inr (9, [.ref im, .int ((-1)), .int 0, .int 0, .int 0, .ref (b 5), .ref (b 6), .ref (b 7), .ref (b 8), .ref (b 9), .ref (b 10), .ref (b 11), .ref (b 12), .int 0, .int 0, .long 0, .ref (b 16)])), (im, .inr (3, [.ref x0, .int 0, .ref x2, .ref x2, .int 2147483647, .int 0, .int 0, .int 0, .int 0, .int 0]))] sz)) 0 0 (va_A [(h0, .inr (9, [.ref im, .int ((-1)), .int 0, .int 0, .int 0, .ref (b 5), .ref (b 6), .ref (b 7), .ref (b 8), .ref (b 9), .ref (b 10), .ref (b 11), .ref (b 12), .int 0, .int 0, .long 0, .ref (b 16)])), (im, .inr (3, [.ref x0, .int 0, .ref x2, .ref x2, .int 2147483647, .int 0, .int 0, .int 0, .int 0, .int 0]))] sz) := by
  refine Met.ofW (cc := cX10_judge) (maxL := 1) (ret := (some .int)) (by decide) rfl ?_
  intro p e s m args below meth c s₁ B hml hv
  obtain ⟨rfl, hsz, hP, hK, hD0⟩ := hv
  have hx := B.exec
  have hb := B.bytes
  have hr := B.returns
  have hts := atoms_spec (ws := Cond.code yX10_judge cX10_judge 1 (some .int) :: bw) B.pre
  have hw : ∀ w ∈ bw, w.before _ s = true := fun w h => hts w (List.mem_cons_of_mem _ h)
  have hown : s.vm.findClass RX10 = some m.cls := findClass_of_methodNamed B.named
  subst hsz
  have hD := hD0.self (sz := s.heap.size)
  generalize hAe : va_A [(h0, .inr (9, [.ref im, .int ((-1)), .int 0, .int 0, .int 0, .ref (b 5), .ref (b 6), .ref (b 7), .ref (b 8), .ref (b 9), .ref (b 10), .ref (b 11), .ref (b 12), .int 0, .int 0, .long 0, .ref (b 16)])), (im, .inr (3, [.ref x0, .int 0, .ref x2, .ref x2, .int 2147483647, .int 0, .int 0, .int 0, .int 0, .int 0]))] s.heap.size = A at hD ⊢
  have hA : ∀ q : Nat, s.heap.size ≤ q → A q := fun q h => by rw [← hAe]; exact Or.inr h
  have hS : va_S A s.heap s.heap [] := va_S.rf
  have hP : va_P (dC, dI) vwCl [(h0, .inr (9, [.ref im, .int ((-1)), .int 0, .int 0, .int 0, .ref (b 5), .ref (b 6), .ref (b 7), .ref (b 8), .ref (b 9), .ref (b 10), .ref (b 11), .ref (b 12), .int 0, .int 0, .long 0, .ref (b 16)])), (im, .inr (3, [.ref x0, .int 0, .ref x2, .ref x2, .int 2147483647, .int 0, .int 0, .int 0, .int 0, .int 0]))] s.heap := hP
  have hl := lv_entry ([.ref h0]) (n := 1) (Nat.le_of_ble_eq_true rfl)
  rw [lg_entry_eq]
  generalize (lg_sl ([.ref h0]) ++ List.replicate (1 - (lg_sl ([.ref h0])).length) Slot.unset).toArray = ls at hl ⊢
  have hl : lv_has ls 1 [(0, .ref h0)] := hl
  refine lv_aload_n hx hb dX10_judge_0 rfl (lv_at hl 0 rfl) ?_
  have hPc := hP.sub (ws' := [(h0, .inr (9, [.ref im, .int ((-1)), .int 0, .int 0, .int 0, .ref (b 5), .ref (b 6), .ref (b 7), .ref (b 8), .ref (b 9), .ref (b 10), .ref (b 11), .ref (b 12), .int 0, .int 0, .long 0, .ref (b 16)])), (im, .inr (3, [.ref x0, .int 0, .ref x2, .ref x2, .int 2147483647, .int 0, .int 0, .int 0, .int 0, .int 0]))]) [0, 1] rfl
  have hDc := hD.sub (ws' := [(h0, .inr (9, [.ref im, .int ((-1)), .int 0, .int 0, .int 0, .ref (b 5), .ref (b 6), .ref (b 7), .ref (b 8), .ref (b 9), .ref (b 10), .ref (b 11), .ref (b 12), .int 0, .int 0, .long 0, .ref (b 16)])), (im, .inr (3, [.ref x0, .int 0, .ref x2, .ref x2, .int 2147483647, .int 0, .int 0, .int 0, .int 0, .int 0]))]) [0, 1] (by decide) rfl
  have hKc := hK.sub (tys' := []) [] rfl
  have hFc := va_free (wc := [(h0, .inr (9, [.ref im, .int ((-1)), .int 0, .int 0, .int 0, .ref (b 5), .ref (b 6), .ref (b 7), .ref (b 8), .ref (b 9), .ref (b 10), .ref (b 11), .ref (b 12), .int 0, .int 0, .long 0, .ref (b 16)])), (im, .inr (3, [.ref x0, .int 0, .ref x2, .ref x2, .int 2147483647, .int 0, .int 0, .int 0, .int 0, .int 0]))]) hD hS hA [0, 1] rfl
  refine va_calli (va_runV (As := []) (rest := []) ⟨hx, hb, hml, hown, hw⟩ (k_X10_fileHeadHolds l dC dI s.heap.size h0 im x0 x2 b) ⟨callB_of 0 hw (gdw (wl_8 (List.mem_of_getElem? (i := 24) rfl))) rfl rfl rfl (hw (Cond.initialized RX10) (wl_8 (List.mem_of_getElem? (i := 19) rfl))) (hw (Cond.methodLink RX10 46 yX10_fileHeadHolds) (wl_9 (List.mem_of_getElem? (i := 0) rfl))) (by decide +kernel) ⟨Nat.le_of_ble_eq_true rfl, Nat.le_of_ble_eq_true rfl⟩, (hw (Cond.instanceMethod yX10_fileHeadHolds) (wl_9 (List.mem_of_getElem? (i := 1) rfl))), (hw (Cond.selects RX10 yX10_fileHeadHolds yX10_fileHeadHolds) (wl_9 (List.mem_of_getElem? (i := 2) rfl)))⟩ ⟨pM_blind, va_recv hKc hPc (ci := 9) (q0 := 0) rfl rfl, pM_of hPc hKc hDc⟩ rfl rfl hl.1 rfl (lv_room (Nat.le_of_ble_eq_true rfl)) dX10_judge_1 ⟨Nat.le_of_ble_eq_true rfl, Nat.le_of_ble_eq_true rfl⟩) hS (fun q _ h => hFc q h) hFc (fun r_1 u t H1 locs ht hvm hp_2 hB hz1 hk1 hS => ?_)
  obtain ⟨hP1, hK1, hD1⟩ := hB
  rw [ht] at hP1
  have hK1 := va_K.moved hvm.symm hK1
  obtain ⟨hP, hD⟩ := va_join (wr := []) (w1 := [(h0, .inr (9, [.ref im, .int 0, .int 0, .int 0, .int 0, .ref (b 5), .ref (b 6), .ref (b 7), .ref (b 8), .ref (b 9), .ref (b 10), .ref (b 11), .ref (b 12), .int 0, .int 0, .long 0, .ref (b 16)])), (im, .inr (3, [.ref x0, .int 0, .ref x2, .ref x2, .int 2147483647, .int 0, .int 0, .int 0, .int 0, .int 0]))]) hP hD [0, 1] [] rfl rfl (by decide) (by decide) hk1 hFc hP1 hD1
  have hK := (hK.sub (tys' := []) [] rfl).app hK1
  generalize H1 = H at hP hS ⊢
  have hP : va_P (dC, dI) vwCl [(h0, .inr (9, [.ref im, .int 0, .int 0, .int 0, .int 0, .ref (b 5), .ref (b 6), .ref (b 7), .ref (b 8), .ref (b 9), .ref (b 10), .ref (b 11), .ref (b 12), .int 0, .int 0, .long 0, .ref (b 16)])), (im, .inr (3, [.ref x0, .int 0, .ref x2, .ref x2, .int 2147483647, .int 0, .int 0, .int 0, .int 0, .int 0]))] H := hP
  have hD : va_D A [(h0, .inr (9, [.ref im, .int 0, .int 0, .int 0, .int 0, .ref (b 5), .ref (b 6), .ref (b 7), .ref (b 8), .ref (b 9), .ref (b 10), .ref (b 11), .ref (b 12), .int 0, .int 0, .long 0, .ref (b 16)])), (im, .inr (3, [.ref x0, .int 0, .ref x2, .ref x2, .int 2147483647, .int 0, .int 0, .int 0, .int 0, .int 0]))] := hD
  have hK : va_K (dC, dI) vwCl [] s := hK
  refine W.widen (k := 0) (n := 0) (Nat.le_of_ble_eq_true rfl) (Nat.le_of_ble_eq_true rfl) ?_
  subst hp_2
  refine lv_if_ne (tgt := 9) hx hb dX10_judge_4 (by decide) (fun c_3 => absurd c_3 (by decide)) (fun c_3 => ?_)
  refine lv_iconst (v := 1) hx hb dX10_judge_7 (by decide) ?_
  refine W.widen (k := 0) (n := 0) (Nat.le_of_ble_eq_true rfl) (Nat.le_of_ble_eq_true rfl) ?_
  have hP9 := hP.sub (ws' := [(h0, .inr (9, [.ref im, .int 0, .int 0, .int 0, .int 0, .ref (b 5), .ref (b 6), .ref (b 7), .ref (b 8), .ref (b 9), .ref (b 10), .ref (b 11), .ref (b 12), .int 0, .int 0, .long 0, .ref (b 16)])), (im, .inr (3, [.ref x0, .int 0, .ref x2, .ref x2, .int 2147483647, .int 0, .int 0, .int 0, .int 0, .int 0]))]) [0, 1] rfl
  have hD9 := hD.sub (ws' := [(h0, .inr (9, [.ref im, .int 0, .int 0, .int 0, .int 0, .ref (b 5), .ref (b 6), .ref (b 7), .ref (b 8), .ref (b 9), .ref (b 10), .ref (b 11), .ref (b 12), .int 0, .int 0, .long 0, .ref (b 16)])), (im, .inr (3, [.ref x0, .int 0, .ref x2, .ref x2, .int 2147483647, .int 0, .int 0, .int 0, .int 0, .int 0]))]) [0, 1] (by decide) rfl
  have hK9 := hK.sub (tys' := []) [] rfl
  exact W.iret (v := 1) hx hb hr (fun t ht hW => ⟨⟨1, (), rfl, rfl, ⟨by rw [ht]; exact hP9, va_K.moved hW.alike hK9, hD9⟩⟩, hS.F ht⟩) hS.2.2 dX10_judge_8
