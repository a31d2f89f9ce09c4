set_option maxHeartbeats 8000000 in
set_option maxRecDepth 100000 in
theorem k_X15_read (l : Launch) (dC : Nat → ClassId) (dI : Nat → Nat → Nat) (sz : Nat) (h0 : Nat) (g b6 : Nat → Nat) : Met l yX15_read (Cond.code yX15_read cX15_read 7 (some .int) :: bw) ({ frames := 3, cells := 0, slots := 0, locals := 66 }) (pM [.ref h0] (dC, dI) sz [(h0, .inr (14, mFt g 0)), (g 6, .inr (11, [.null, .int 0, .int 0, .int 0, .int 0, .long 0, .ref (b6 6), .ref (b6 7), .ref (b6 8), .ref (b6 9), .ref (b6 10), .ref (b6 11), .ref (b6 12), .ref (b6 13), .ref (b6 14), .int 0, .int 0, .long 0]))] []) (va_Qi (fun (r : Int32) (_ : Unit) => r = (-1)) (fun _ t => True) (va_A [(h0, .inr (14, mFt g 0)), (g 6, .inr (11, [.null, .int 0, .int 0, .int 0, .int 0, .long 0, .ref (b6 6), .ref (b6 7), .ref (b6 8), .ref (b6 9), .ref (b6 10), .ref (b6 11), .ref (b6 12), .ref (b6 13), .ref (b6 14), .int 0, .int 0, .long 0]))] sz)) 0 0 (va_A [(h0, .inr (14, mFt g 0)), (g 6, .inr (11, [.null, .int 0, .int 0, .int 0, .int 0, .long 0, .ref (b6 6), .ref (b6 7), .ref (b6 8), .ref (b6 9), .ref (b6 10), .ref (b6 11), .ref (b6 12), .ref (b6 13), .ref (b6 14), .int 0, .int 0, .long 0]))] sz) := by
  refine Met.ofW (cc := cX15_read) (maxL := 7) (ret := (some .int)) (by decide) rfl ?_
  intro p e s m args below meth c s₁ B hml hv
  obtain ⟨rfl, hsz, hP, hK, hD0⟩ := hv
  have hx := B.exec
  have hb := B.bytes
  have hr := B.returns
  have hts := atoms_spec (ws := Cond.code yX15_read cX15_read 7 (some .int) :: bw) B.pre
  have hw : ∀ w ∈ bw, w.before _ s = true := fun w h => hts w (List.mem_cons_of_mem _ h)
  have hown : s.vm.findClass RX15 = some m.cls := findClass_of_methodNamed B.named
  subst hsz
  have hD := hD0.self (sz := s.heap.size)
  generalize hAe : va_A [(h0, .inr (14, mFt g 0)), (g 6, .inr (11, [.null, .int 0, .int 0, .int 0, .int 0, .long 0, .ref (b6 6), .ref (b6 7), .ref (b6 8), .ref (b6 9), .ref (b6 10), .ref (b6 11), .ref (b6 12), .ref (b6 13), .ref (b6 14), .int 0, .int 0, .long 0]))] s.heap.size = A at hD ⊢
  have hA : ∀ q : Nat, s.heap.size ≤ q → A q := fun q h => by rw [← hAe]; exact Or.inr h
  have hS : va_S A s.heap s.heap [] := va_S.rf
  have hP : va_P (dC, dI) vwCl [(h0, .inr (14, mFt g 0)), (g 6, .inr (11, [.null, .int 0, .int 0, .int 0, .int 0, .long 0, .ref (b6 6), .ref (b6 7), .ref (b6 8), .ref (b6 9), .ref (b6 10), .ref (b6 11), .ref (b6 12), .ref (b6 13), .ref (b6 14), .int 0, .int 0, .long 0]))] s.heap := hP
  have hl := lv_entry ([.ref h0]) (n := 7) (Nat.le_of_ble_eq_true rfl)
  rw [lg_entry_eq]
  generalize (lg_sl ([.ref h0]) ++ List.replicate (7 - (lg_sl ([.ref h0])).length) Slot.unset).toArray = ls at hl ⊢
  have hl : lv_has ls 7 [(0, .ref h0)] := hl
  refine lv_aload_n hx hb dX15_read_0 rfl (lv_at hl 0 rfl) ?_
  refine va_get (D := (dC, dI)) (ci := 14) (v := .int 0) (C := RX15) (T := TX15) (N := 64) hx hb hw inlX15 hown hK hP 0 rfl rfl 1 (by decide) (hw (Cond.fieldLink RX15 178 "CodeLayoutModel" "trayed" "I") (wl_7 (List.mem_of_getElem? (i := 6) rfl))) (fun _ h9 => h9) rfl dX15_read_1 ?_
  refine lv_istore_n (lv' := [(1, .int 0), (0, .ref h0)]) hx hb dX15_read_4 rfl hl (by decide) rfl (fun ls hl => ?_)
  refine lv_aload_n hx hb dX15_read_5 rfl (lv_at hl 1 rfl) ?_
  refine lv_iconst (v := 0) hx hb dX15_read_6 (by decide) ?_
  refine va_put (D := (dC, dI)) (ci := 14) (v := .int 0) (ty := .int) (C := RX15) (T := TX15) (N := 64) hx hb hw inlX15 tyX15 tyX15_ok nmX15 hown hK hP hD hS 0 rfl rfl 1 (by decide) (hw (Cond.fieldLink RX15 178 "CodeLayoutModel" "trayed" "I") (wl_7 (List.mem_of_getElem? (i := 6) rfl))) (fun _ h9 => h9) rfl (by decide +kernel) rfl rfl (Nat.le_of_ble_eq_true rfl) dX15_read_7 (fun H locs hP hD hS => ?_)
  have hP : va_P (dC, dI) vwCl [(h0, .inr (14, mFt g 0)), (g 6, .inr (11, [.null, .int 0, .int 0, .int 0, .int 0, .long 0, .ref (b6 6), .ref (b6 7), .ref (b6 8), .ref (b6 9), .ref (b6 10), .ref (b6 11), .ref (b6 12), .ref (b6 13), .ref (b6 14), .int 0, .int 0, .long 0]))] H := hP
  have hD : va_D A [(h0, .inr (14, mFt g 0)), (g 6, .inr (11, [.null, .int 0, .int 0, .int 0, .int 0, .long 0, .ref (b6 6), .ref (b6 7), .ref (b6 8), .ref (b6 9), .ref (b6 10), .ref (b6 11), .ref (b6 12), .ref (b6 13), .ref (b6 14), .int 0, .int 0, .long 0]))] := hD
  refine lv_iconst (v := 0) hx hb dX15_read_10 (by decide) ?_
  refine lv_istore_n (lv' := [(2, .int 0), (1, .int 0), (0, .ref h0)]) hx hb dX15_read_11 rfl hl (by decide) rfl (fun ls hl => ?_)
  refine lv_iload_n hx hb dX15_read_12 rfl (lv_at hl 0 rfl) ?_
  refine lv_iload_n hx hb dX15_read_13 rfl (lv_at hl 1 rfl) ?_
  refine lv_icmp_ge (tgt := 35) hx hb dX15_read_14 (by decide) (fun c_1 => ?_) (fun c_1 => absurd c_1 (by decide))
  refine lv_aload_n hx hb dX15_read_35 rfl (lv_at hl 2 rfl) ?_
  refine va_get (D := (dC, dI)) (ci := 14) (v := .ref (g 6)) (C := RX15) (T := TX15) (N := 64) hx hb hw inlX15 hown hK hP 0 rfl rfl 6 (by decide) (hw (Cond.fieldLink RX15 27 "CodeLayoutModel" "spareHeads" "LCodeLayoutModel$Heads;") (wl_4 (List.mem_of_getElem? (i := 19) rfl))) (fun _ h9 => h9) rfl dX15_read_36 ?_
  refine lv_astore_n (lv' := [(2, .ref (g 6)), (1, .int 0), (0, .ref h0)]) hx hb dX15_read_39 rfl hl (by decide) rfl (fun ls hl => ?_)
  refine lv_aload_n hx hb dX15_read_40 rfl (lv_at hl 0 rfl) ?_
  refine lv_aload_n hx hb dX15_read_41 rfl (lv_at hl 2 rfl) ?_
  refine va_get (D := (dC, dI)) (ci := 14) (v := .ref (g 4)) (C := RX15) (T := TX15) (N := 64) hx hb hw inlX15 hown hK hP 0 rfl rfl 4 (by decide) (hw (Cond.fieldLink RX15 17 "CodeLayoutModel" "spare" "[B") (wl_4 (List.mem_of_getElem? (i := 12) rfl))) (fun _ h9 => h9) rfl dX15_read_42 ?_
  refine va_put (D := (dC, dI)) (ci := 11) (v := .ref (g 4)) (ty := .array .byte) (C := RX12) (T := TX12) (N := 18) hx hb hw inlX12 tyX12 tyX12_ok nmX12 hown hK hP hD hS 1 rfl rfl 0 (by decide) (hw (Cond.fieldLink RX15 251 "CodeLayoutModel$Heads" "b" "[B") (wl_10 (List.mem_of_getElem? (i := 4) rfl))) (fun _ h9 => h9) rfl (by decide +kernel) rfl rfl (Nat.le_of_ble_eq_true rfl) dX15_read_45 (fun H locs hP hD hS => ?_)
  have hP : va_P (dC, dI) vwCl [(h0, .inr (14, mFt g 0)), (g 6, .inr (11, [.ref (g 4), .int 0, .int 0, .int 0, .int 0, .long 0, .ref (b6 6), .ref (b6 7), .ref (b6 8), .ref (b6 9), .ref (b6 10), .ref (b6 11), .ref (b6 12), .ref (b6 13), .ref (b6 14), .int 0, .int 0, .long 0]))] H := hP
  have hD : va_D A [(h0, .inr (14, mFt g 0)), (g 6, .inr (11, [.ref (g 4), .int 0, .int 0, .int 0, .int 0, .long 0, .ref (b6 6), .ref (b6 7), .ref (b6 8), .ref (b6 9), .ref (b6 10), .ref (b6 11), .ref (b6 12), .ref (b6 13), .ref (b6 14), .int 0, .int 0, .long 0]))] := hD
  refine lv_aload_n hx hb dX15_read_48 rfl (lv_at hl 0 rfl) ?_
  refine lv_iload_n hx hb dX15_read_49 rfl (lv_at hl 1 rfl) ?_
  refine va_put (D := (dC, dI)) (ci := 11) (v := .int 0) (ty := .int) (C := RX12) (T := TX12) (N := 18) hx hb hw inlX12 tyX12 tyX12_ok nmX12 hown hK hP hD hS 1 rfl rfl 1 (by decide) (hw (Cond.fieldLink RX15 254 "CodeLayoutModel$Heads" "size" "I") (wl_10 (List.mem_of_getElem? (i := 5) rfl))) (fun _ h9 => h9) rfl (by decide +kernel) rfl rfl (Nat.le_of_ble_eq_true rfl) dX15_read_50 (fun H locs hP hD hS => ?_)
  have hP : va_P (dC, dI) vwCl [(h0, .inr (14, mFt g 0)), (g 6, .inr (11, [.ref (g 4), .int 0, .int 0, .int 0, .int 0, .long 0, .ref (b6 6), .ref (b6 7), .ref (b6 8), .ref (b6 9), .ref (b6 10), .ref (b6 11), .ref (b6 12), .ref (b6 13), .ref (b6 14), .int 0, .int 0, .long 0]))] H := hP
  have hD : va_D A [(h0, .inr (14, mFt g 0)), (g 6, .inr (11, [.ref (g 4), .int 0, .int 0, .int 0, .int 0, .long 0, .ref (b6 6), .ref (b6 7), .ref (b6 8), .ref (b6 9), .ref (b6 10), .ref (b6 11), .ref (b6 12), .ref (b6 13), .ref (b6 14), .int 0, .int 0, .long 0]))] := hD
  refine lv_aload_n hx hb dX15_read_53 rfl (lv_at hl 0 rfl) ?_
  have hPc := hP.sub (ws' := [(g 6, .inr (11, [.ref (g 4), .int 0, .int 0, .int 0, .int 0, .long 0, .ref (b6 6), .ref (b6 7), .ref (b6 8), .ref (b6 9), .ref (b6 10), .ref (b6 11), .ref (b6 12), .ref (b6 13), .ref (b6 14), .int 0, .int 0, .long 0]))]) [1] rfl
  have hDc := hD.sub (ws' := [(g 6, .inr (11, [.ref (g 4), .int 0, .int 0, .int 0, .int 0, .long 0, .ref (b6 6), .ref (b6 7), .ref (b6 8), .ref (b6 9), .ref (b6 10), .ref (b6 11), .ref (b6 12), .ref (b6 13), .ref (b6 14), .int 0, .int 0, .long 0]))]) [1] (by decide) rfl
  have hKc := hK.sub (tys' := []) [] rfl
  have hFc := va_free (wc := [(g 6, .inr (11, [.ref (g 4), .int 0, .int 0, .int 0, .int 0, .long 0, .ref (b6 6), .ref (b6 7), .ref (b6 8), .ref (b6 9), .ref (b6 10), .ref (b6 11), .ref (b6 12), .ref (b6 13), .ref (b6 14), .int 0, .int 0, .long 0]))]) hD hS hA [1] rfl
  refine va_calli (va_runV (As := []) (rest := []) ⟨hx, hb, hml, hown, hw⟩ (k_X12_broken l dC dI H.size (g 6) (g 4) b6) ⟨callB_of 0 hw (gdw (wl_10 (List.mem_of_getElem? (i := 6) rfl))) rfl rfl rfl (hw (Cond.initialized RX12) (wl_4 (List.mem_of_getElem? (i := 15) rfl))) (hw (Cond.methodLink RX15 257 yX12_broken) (wl_10 (List.mem_of_getElem? (i := 7) rfl))) (by decide +kernel) ⟨Nat.le_of_ble_eq_true rfl, Nat.le_of_ble_eq_true rfl⟩, (hw (Cond.instanceMethod yX12_broken) (wl_10 (List.mem_of_getElem? (i := 8) rfl))), (hw (Cond.selects RX12 yX12_broken yX12_broken) (wl_10 (List.mem_of_getElem? (i := 9) rfl)))⟩ ⟨pM_blind, va_recv hKc hPc (ci := 11) (q0 := 0) rfl rfl, pM_of hPc hKc hDc⟩ rfl rfl hl.1 rfl (lv_room (Nat.le_of_ble_eq_true rfl)) dX15_read_54 ⟨Nat.le_of_ble_eq_true rfl, Nat.le_of_ble_eq_true rfl⟩) hS (fun q _ h => hFc q h) hFc (fun r_2 u t H1 locs ht hvm hp_3 hB hz1 hk1 hS => ?_)
  obtain ⟨hP1, hK1, hD1⟩ := hB
  rw [ht] at hP1
  have hK1 := va_K.moved hvm.symm hK1
  obtain ⟨hP, hD⟩ := va_join (wr := [(h0, .inr (14, mFt g 0))]) (w1 := [(g 6, .inr (11, [.ref (g 4), .int 0, .int 0, .int 0, .int 0, .long 0, .ref (b6 6), .ref (b6 7), .ref (b6 8), .ref (b6 9), .ref (b6 10), .ref (b6 11), .ref (b6 12), .ref (b6 13), .ref (b6 14), .int 0, .int 0, .long 0]))]) hP hD [1] [0] rfl rfl (by decide) (by decide) hk1 hFc hP1 hD1
  have hK := (hK.sub (tys' := []) [] rfl).app hK1
  generalize H1 = H at hP hS ⊢
  have hP : va_P (dC, dI) vwCl [(h0, .inr (14, mFt g 0)), (g 6, .inr (11, [.ref (g 4), .int 0, .int 0, .int 0, .int 0, .long 0, .ref (b6 6), .ref (b6 7), .ref (b6 8), .ref (b6 9), .ref (b6 10), .ref (b6 11), .ref (b6 12), .ref (b6 13), .ref (b6 14), .int 0, .int 0, .long 0]))] H := hP
  have hD : va_D A [(h0, .inr (14, mFt g 0)), (g 6, .inr (11, [.ref (g 4), .int 0, .int 0, .int 0, .int 0, .long 0, .ref (b6 6), .ref (b6 7), .ref (b6 8), .ref (b6 9), .ref (b6 10), .ref (b6 11), .ref (b6 12), .ref (b6 13), .ref (b6 14), .int 0, .int 0, .long 0]))] := hD
  have hK : va_K (dC, dI) vwCl [] s := hK
  refine W.widen (k := 0) (n := 0) (Nat.le_of_ble_eq_true rfl) (Nat.le_of_ble_eq_true rfl) ?_
  subst hp_3
  refine lv_istore_n (lv' := [(3, .int 1), (2, .ref (g 6)), (1, .int 0), (0, .ref h0)]) hx hb dX15_read_57 rfl hl (by decide) rfl (fun ls hl => ?_)
  refine lv_iload_n hx hb dX15_read_58 rfl (lv_at hl 0 rfl) ?_
  refine lv_if_le (tgt := 73) hx hb dX15_read_59 (by decide) (fun c_4 => absurd c_4 (by decide)) (fun c_4 => ?_)
  refine lv_aload_n hx hb dX15_read_62 rfl (lv_at hl 3 rfl) ?_
  refine lv_aload_n hx hb dX15_read_63 rfl (lv_at hl 1 rfl) ?_
  refine va_get (D := (dC, dI)) (ci := 11) (v := .long 0) (C := RX12) (T := TX12) (N := 18) hx hb hw inlX12 hown hK hP 1 rfl rfl 17 (by decide) (hw (Cond.fieldLink RX15 261 "CodeLayoutModel$Heads" "place" "J") (wl_10 (List.mem_of_getElem? (i := 10) rfl))) (fun _ h9 => h9) rfl dX15_read_64 ?_
  refine va_put (D := (dC, dI)) (ci := 14) (v := .long 0) (ty := .long) (C := RX15) (T := TX15) (N := 64) hx hb hw inlX15 tyX15 tyX15_ok nmX15 hown hK hP hD hS 0 rfl rfl 14 (by decide) (hw (Cond.fieldLink RX15 32 "CodeLayoutModel" "place" "J") (wl_2 (List.mem_of_getElem? (i := 1) rfl))) (fun _ h9 => h9) rfl (by decide +kernel) rfl rfl (Nat.le_of_ble_eq_true rfl) dX15_read_67 (fun H locs hP hD hS => ?_)
  have hP : va_P (dC, dI) vwCl [(h0, .inr (14, [.ref (g 0), .int 0, .int 0, .ref (g 3), .ref (g 4), .ref (g 5), .ref (g 6), .int 0, .int 0, .int 0, .int 0, .int 0, .int 0, .long 0, .long 0, .ref (g 15), .ref (g 16), .ref (g 17), .ref (g 18), .ref (g 19), .ref (g 20), .ref (g 21), .ref (g 22), .ref (g 23), .ref (g 24), .ref (g 25), .ref (g 26), .ref (g 27), .int 0, .int 0, .ref (g 30), .ref (g 31), .ref (g 32), .ref (g 33), .ref (g 34), .ref (g 35), .ref (g 36), .ref (g 37), .ref (g 38), .ref (g 39), .ref (g 40), .ref (g 41), .ref (g 42), .ref (g 43), .ref (g 44), .ref (g 45), .ref (g 46), .ref (g 47), .ref (g 48), .ref (g 49), .ref (g 50), .ref (g 51), .int 0, .int 0, .ref (g 54), .int 0, .int 0, .int 0, .ref (g 58), .ref (g 59), .ref (g 60), .ref (g 61), .ref (g 62), .ref (g 63)])), (g 6, .inr (11, [.ref (g 4), .int 0, .int 0, .int 0, .int 0, .long 0, .ref (b6 6), .ref (b6 7), .ref (b6 8), .ref (b6 9), .ref (b6 10), .ref (b6 11), .ref (b6 12), .ref (b6 13), .ref (b6 14), .int 0, .int 0, .long 0]))] H := hP
  have hD : va_D A [(h0, .inr (14, [.ref (g 0), .int 0, .int 0, .ref (g 3), .ref (g 4), .ref (g 5), .ref (g 6), .int 0, .int 0, .int 0, .int 0, .int 0, .int 0, .long 0, .long 0, .ref (g 15), .ref (g 16), .ref (g 17), .ref (g 18), .ref (g 19), .ref (g 20), .ref (g 21), .ref (g 22), .ref (g 23), .ref (g 24), .ref (g 25), .ref (g 26), .ref (g 27), .int 0, .int 0, .ref (g 30), .ref (g 31), .ref (g 32), .ref (g 33), .ref (g 34), .ref (g 35), .ref (g 36), .ref (g 37), .ref (g 38), .ref (g 39), .ref (g 40), .ref (g 41), .ref (g 42), .ref (g 43), .ref (g 44), .ref (g 45), .ref (g 46), .ref (g 47), .ref (g 48), .ref (g 49), .ref (g 50), .ref (g 51), .int 0, .int 0, .ref (g 54), .int 0, .int 0, .int 0, .ref (g 58), .ref (g 59), .ref (g 60), .ref (g 61), .ref (g 62), .ref (g 63)])), (g 6, .inr (11, [.ref (g 4), .int 0, .int 0, .int 0, .int 0, .long 0, .ref (b6 6), .ref (b6 7), .ref (b6 8), .ref (b6 9), .ref (b6 10), .ref (b6 11), .ref (b6 12), .ref (b6 13), .ref (b6 14), .int 0, .int 0, .long 0]))] := hD
  refine lv_iload_n hx hb dX15_read_70 rfl (lv_at hl 0 rfl) ?_
  refine lv_ineg hx hb dX15_read_71 ?_
  refine lv_topi (fun x_5 ex_5 => ?_)
  have ex_5 : x_5 = (-1) := ex_5.trans (by decide)
  subst ex_5
  refine W.widen (k := 0) (n := 0) (Nat.le_of_ble_eq_true rfl) (Nat.le_of_ble_eq_true rfl) ?_
  exact W.iret (v := (-1)) hx hb hr (fun t ht hW => ⟨⟨(-1), (), rfl, rfl, trivial⟩, hS.F ht⟩) hS.2.2 dX15_read_72
