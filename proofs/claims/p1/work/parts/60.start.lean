set_option maxHeartbeats 8000000 in
set_option maxRecDepth 100000 in
theorem whole_start {p : Program} {e : Env} {s : State} {m : MethodId} {below : List Frame} {meth : Method} {c : Code} (l : Launch) {b L : Nat} {xs : Nat → Int32} (hL : L ≤ 6) (C0 : lw_At p s m meth c b L xs) : W p l e room_1 s m #[Value.ref b] below meth c s.heap [] 0 0 (lw_Z below #[Value.ref b] s) (entryFrame m ([Value.ref b] : List Value).toArray 4) := by
  obtain ⟨hx, hb, hr, hml, hown, hw, hX, hbl, hlocks, hgv⟩ := id C0
  have hA : ∀ q : Nat, s.heap.size ≤ q → (fun q : Nat => s.heap.size ≤ q) q := fun _ h => h
  have hbA : ¬ (fun q : Nat => s.heap.size ≤ q) b := Nat.not_le.mpr hbl
  obtain ⟨c0, i0, K0⟩ := u_known (C := RX0) (T := TX0) (N := 12) (n := 12) hw bx_X0 (hw (Cond.instantiable RX0 12) (tb_5 (List.mem_of_getElem? (i := 1) (by decide +kernel))))
  obtain ⟨c1, i1, K1⟩ := u_known (C := RX2) (T := TX2) (N := 6) (n := 6) hw bx_X2 (hw (Cond.instantiable RX2 6) (tb_4 (List.mem_of_getElem? (i := 49) (by decide +kernel))))
  obtain ⟨c2, i2, K2⟩ := u_known (C := RX3) (T := TX3) (N := 5) (n := 5) hw bx_X3 (hw (Cond.instantiable RX3 5) (tb_2 (List.mem_of_getElem? (i := 192) (by decide +kernel))))
  obtain ⟨c3, i3, K3⟩ := u_known (C := RX4) (T := TX4) (N := 10) (n := 10) hw bx_X4 (hw (Cond.instantiable RX4 10) (tb_1 (List.mem_of_getElem? (i := 104) (by decide +kernel))))
  obtain ⟨c4, i4, K4⟩ := u_known (C := RX5) (T := TX5) (N := 19) (n := 19) hw bx_X5 (hw (Cond.instantiable RX5 19) (tb_5 (List.mem_of_getElem? (i := 106) (by decide +kernel))))
  obtain ⟨c5, i5, K5⟩ := u_known (C := RX6) (T := TX6) (N := 20) (n := 20) hw bx_X6 (hw (Cond.instantiable RX6 20) (tb_7 (List.mem_of_getElem? (i := 42) (by decide +kernel))))
  obtain ⟨c6, i6, K6⟩ := u_known (C := RX7) (T := TX7) (N := 9) (n := 9) hw bx_X7 (hw (Cond.instantiable RX7 9) (tb_7 (List.mem_of_getElem? (i := 48) (by decide +kernel))))
  obtain ⟨c7, i7, K7⟩ := u_known (C := RX8) (T := TX8) (N := 19) (n := 19) hw bx_X8 (hw (Cond.instantiable RX8 19) (tb_4 (List.mem_of_getElem? (i := 235) (by decide +kernel))))
  obtain ⟨c8, i8, K8⟩ := u_known (C := RX9) (T := TX9) (N := 20) (n := 20) hw bx_X9 (hw (Cond.instantiable RX9 20) (tb_2 (List.mem_of_getElem? (i := 186) (by decide +kernel))))
  obtain ⟨c9, i9, K9⟩ := u_known (C := RX10) (T := TX10) (N := 17) (n := 17) hw bx_X10 (hw (Cond.instantiable RX10 17) (tb_1 (List.mem_of_getElem? (i := 155) (by decide +kernel))))
  obtain ⟨c10, i10, K10⟩ := u_known (C := RX11) (T := TX11) (N := 12) (n := 12) hw bx_X11 (hw (Cond.instantiable RX11 12) (tb_1 (List.mem_of_getElem? (i := 22) (by decide +kernel))))
  obtain ⟨c11, i11, K11⟩ := u_known (C := RX12) (T := TX12) (N := 18) (n := 18) hw bx_X12 (hw (Cond.instantiable RX12 18) (tb_9 (List.mem_of_getElem? (i := 28) (by decide +kernel))))
  obtain ⟨c12, i12, K12⟩ := u_known (C := RX13) (T := TX13) (N := 24) (n := 24) hw bx_X13 (hw (Cond.instantiable RX13 24) (tb_9 (List.mem_of_getElem? (i := 170) (by decide +kernel))))
  obtain ⟨c13, i13, K13⟩ := u_known (C := RX14) (T := TX14) (N := 14) (n := 14) hw bx_X14 (hw (Cond.instantiable RX14 14) (tb_9 (List.mem_of_getElem? (i := 110) (by decide +kernel))))
  obtain ⟨c14, i14, K14⟩ := u_known (C := RX15) (T := TX15) (N := 64) (n := 64) hw bx_X15 (hw (Cond.instantiable RX15 64) (tb_9 (List.mem_of_getElem? (i := 21) (by decide +kernel))))
  obtain ⟨dC, dI, hKn⟩ : ∃ (dC : Nat → ClassId) (dI : Nat → Nat → Nat), ∀ (k : Nat) (q : vw_C), vwCl[k]? = some q → u_Kn s q.1 q.2.1 q.2.2 (dC k) (dI k) := by
    refine ⟨fun k => match k with | 0 => c0 | 1 => c1 | 2 => c2 | 3 => c3 | 4 => c4 | 5 => c5 | 6 => c6 | 7 => c7 | 8 => c8 | 9 => c9 | 10 => c10 | 11 => c11 | 12 => c12 | 13 => c13 | _ => c14, fun k => match k with | 0 => i0 | 1 => i1 | 2 => i2 | 3 => i3 | 4 => i4 | 5 => i5 | 6 => i6 | 7 => i7 | 8 => i8 | 9 => i9 | 10 => i10 | 11 => i11 | 12 => i12 | 13 => i13 | _ => i14, ?_⟩
    intro k q hq
    match k, hq with
    | 0, hq => cases hq; exact K0
    | 1, hq => cases hq; exact K1
    | 2, hq => cases hq; exact K2
    | 3, hq => cases hq; exact K3
    | 4, hq => cases hq; exact K4
    | 5, hq => cases hq; exact K5
    | 6, hq => cases hq; exact K6
    | 7, hq => cases hq; exact K7
    | 8, hq => cases hq; exact K8
    | 9, hq => cases hq; exact K9
    | 10, hq => cases hq; exact K10
    | 11, hq => cases hq; exact K11
    | 12, hq => cases hq; exact K12
    | 13, hq => cases hq; exact K13
    | 14, hq => cases hq; exact K14
    | k + 15, hq => simp [vwCl] at hq
  have hS : va_S (fun q : Nat => s.heap.size ≤ q) s.heap s.heap [] := va_S.rf
  have hK : va_K (dC, dI) vwCl [] s := ⟨hKn, fun k q h => by simp at h⟩
  have hP : va_P (dC, dI) vwCl [] s.heap := pnil
  have hD : va_D (fun q : Nat => s.heap.size ≤ q) [] := dnil
  have hAO : va_AO RX6 s := va_AO.of (hw (Cond.arrayOver (.object RX6)) (tb_1 (List.mem_of_getElem? (i := 30) (by decide +kernel))))
  have hNst : va_Nw nst s := va_Nw.of rfl (hw nst (tb_9 (List.mem_of_getElem? (i := 29) (by decide +kernel))))
  have hl := lv_entry ([.ref b]) (n := 4) (Nat.le_of_ble_eq_true rfl)
  rw [lg_entry_eq]
  generalize (lg_sl ([.ref b]) ++ List.replicate (4 - (lg_sl ([.ref b])).length) Slot.unset).toArray = ls at hl ⊢
  have hl : lv_has ls 4 [(0, .ref b)] := hl
  refine va_new (ci := 10) (fs := [.null, .int 0, .int 0, .int 0, .null, .null, .null, .null, .null, .null, .int 0, .null]) (C := RX11) (T := TX11) (N := 12) hx hb hw bx_X11 tyX11 tyX11_ok hown (hw (Cond.classLink RL 7 RX11) (tb_1 (List.mem_of_getElem? (i := 21) (by decide +kernel)))) (hw (Cond.instantiable RX11 12) (tb_1 (List.mem_of_getElem? (i := 22) (by decide +kernel)))) (hw (Cond.initialized RX11) (tb_1 (List.mem_of_getElem? (i := 1) (by decide +kernel)))) hK hP hD hS hA rfl (fun j hj => match j, hj with | 0, _ => rfl | 1, _ => rfl | 2, _ => rfl | 3, _ => rfl | 4, _ => rfl | 5, _ => rfl | 6, _ => rfl | 7, _ => rfl | 8, _ => rfl | 9, _ => rfl | 10, _ => rfl | 11, _ => rfl | j + 12, hj => absurd hj (by omega)) (Nat.le_of_ble_eq_true rfl) (Nat.le_of_ble_eq_true rfl) dL_law_0 (fun q_1 H hP hD hS => ?_)
  have hP : va_P (dC, dI) vwCl [(q_1, .inr (10, [.null, .int 0, .int 0, .int 0, .null, .null, .null, .null, .null, .null, .int 0, .null]))] H := hP
  have hD : va_D (fun q : Nat => s.heap.size ≤ q) [(q_1, .inr (10, [.null, .int 0, .int 0, .int 0, .null, .null, .null, .null, .null, .null, .int 0, .null]))] := hD
  refine W.widen (k := 1) (n := 12) (Nat.le_of_ble_eq_true rfl) (Nat.le_of_ble_eq_true rfl) ?_
  refine lv_dup hx hb dL_law_3 rfl ?_
  have hPc := hP.sub (ws' := [(q_1, .inr (10, [.null, .int 0, .int 0, .int 0, .null, .null, .null, .null, .null, .null, .int 0, .null]))]) [0] rfl
  have hDc := hD.sub (ws' := [(q_1, .inr (10, [.null, .int 0, .int 0, .int 0, .null, .null, .null, .null, .null, .null, .int 0, .null]))]) [0] (by decide) rfl
  have hKc := hK.sub (tys' := []) [] rfl
  have hFc := va_free (wc := [(q_1, .inr (10, [.null, .int 0, .int 0, .int 0, .null, .null, .null, .null, .null, .null, .int 0, .null]))]) hD hS hA [0] rfl
  refine va_callv (va_runI (As := []) (rest := [.ref q_1]) ⟨hx, hb, hml, hown, hw⟩ (k_X11_init l dC dI H.size q_1) ⟨callB_of 0 hw (gdl (tb_1 (List.mem_of_getElem? (i := 25) (by decide +kernel))) rfl) rfl rfl rfl (hw (Cond.initialized RX11) (tb_1 (List.mem_of_getElem? (i := 1) (by decide +kernel)))) (hw (Cond.methodLink RL 9 yX11_init) (tb_1 (List.mem_of_getElem? (i := 23) (by decide +kernel)))) (by decide +kernel) ⟨Nat.le_of_ble_eq_true rfl, Nat.le_of_ble_eq_true rfl⟩, rfl, (hw (Cond.instanceMethod yX11_init) (tb_1 (List.mem_of_getElem? (i := 24) (by decide +kernel))))⟩ ⟨fun a U g mk q => by obtain ⟨q0, q1, qP, qK, qD, qE⟩ := q; exact ⟨q0, q1, qP, va_K.moved (u := U) (U := U.calling g mk a) (Vm.Alike.refl U.vm) qK, qD, va_AO.moved (u := U) (U := U.calling g mk a) (Vm.Alike.refl U.vm) qE⟩, fun U hU hW => ⟨rfl, by rw [hU], by rw [hU]; exact hPc, va_K.moved hW.alike hKc, hDc.weaken (fun _ _ _ _ => trivial), va_AO.moved hW.alike hAO⟩⟩ rfl rfl hl.1 rfl (lv_room (Nat.le_of_ble_eq_true rfl)) dL_law_4 ⟨Nat.le_of_ble_eq_true rfl, Nat.le_of_ble_eq_true rfl⟩) hS (fun q _ h => hFc q h) hFc (fun u t H1 locs ht hvm hp_3 hB hz1 hk1 hS => ?_)
  obtain ⟨a1, a2, cb, cm, hP1, hK1, hD1⟩ := hB
  rw [ht] at hP1
  have hK1 := va_K.moved hvm.symm hK1
  obtain ⟨hP, hD⟩ := va_join (wr := []) (w1 := [(q_1, .inr (10, xF a1 a2)), (a1, .inl (cb, 1024, .inl (fun _ => 0))), (a2, .inl (cm, 3, .inr (.inr (.inr (.inr (fun _ => none))))))]) hP hD [0] [] rfl rfl (by decide) (by decide) hk1 hFc hP1 hD1
  have hK := (hK.sub (tys' := []) [] rfl).app hK1
  generalize H1 = H at hP hS ⊢
  have hP : va_P (dC, dI) vwCl [(q_1, .inr (10, xF a1 a2)), (a1, .inl (cb, 1024, .inl (fun _ => 0))), (a2, .inl (cm, 3, .inr (.inr (.inr (.inr (fun _ => none))))))] H := hP
  have hD : va_D (fun q : Nat => s.heap.size ≤ q) [(q_1, .inr (10, xF a1 a2)), (a1, .inl (cb, 1024, .inl (fun _ => 0))), (a2, .inl (cm, 3, .inr (.inr (.inr (.inr (fun _ => none))))))] := hD
  have hK : va_K (dC, dI) vwCl [(cb, .byte), (cm, .object RX6)] s := hK
  refine W.widen (k := 3) (n := 1039) (Nat.le_of_ble_eq_true rfl) (Nat.le_of_ble_eq_true rfl) ?_
  refine lv_astore_n (lv' := [(1, .ref q_1), (0, .ref b)]) hx hb dL_law_7 rfl hl (by decide) rfl (fun ls hl => ?_)
  refine va_new (ci := 14) (fs := [.null, .int 0, .int 0, .null, .null, .null, .null, .int 0, .int 0, .int 0, .int 0, .int 0, .int 0, .long 0, .long 0, .null, .null, .null, .null, .null, .null, .null, .null, .null, .null, .null, .null, .null, .int 0, .int 0, .null, .null, .null, .null, .null, .null, .null, .null, .null, .null, .null, .null, .null, .null, .null, .null, .null, .null, .null, .null, .null, .null, .int 0, .int 0, .null, .int 0, .int 0, .int 0, .null, .null, .null, .null, .null, .null]) (C := RX15) (T := TX15) (N := 64) hx hb hw bx_X15 tyX15 tyX15_ok hown (hw (Cond.classLink RL 10 RX15) (tb_9 (List.mem_of_getElem? (i := 20) (by decide +kernel)))) (hw (Cond.instantiable RX15 64) (tb_9 (List.mem_of_getElem? (i := 21) (by decide +kernel)))) (hw (Cond.initialized RX15) (tb_1 (List.mem_of_getElem? (i := 2) (by decide +kernel)))) hK hP hD hS hA rfl (fun j hj => match j, hj with | 0, _ => rfl | 1, _ => rfl | 2, _ => rfl | 3, _ => rfl | 4, _ => rfl | 5, _ => rfl | 6, _ => rfl | 7, _ => rfl | 8, _ => rfl | 9, _ => rfl | 10, _ => rfl | 11, _ => rfl | 12, _ => rfl | 13, _ => rfl | 14, _ => rfl | 15, _ => rfl | 16, _ => rfl | 17, _ => rfl | 18, _ => rfl | 19, _ => rfl | 20, _ => rfl | 21, _ => rfl | 22, _ => rfl | 23, _ => rfl | 24, _ => rfl | 25, _ => rfl | 26, _ => rfl | 27, _ => rfl | 28, _ => rfl | 29, _ => rfl | 30, _ => rfl | 31, _ => rfl | 32, _ => rfl | 33, _ => rfl | 34, _ => rfl | 35, _ => rfl | 36, _ => rfl | 37, _ => rfl | 38, _ => rfl | 39, _ => rfl | 40, _ => rfl | 41, _ => rfl | 42, _ => rfl | 43, _ => rfl | 44, _ => rfl | 45, _ => rfl | 46, _ => rfl | 47, _ => rfl | 48, _ => rfl | 49, _ => rfl | 50, _ => rfl | 51, _ => rfl | 52, _ => rfl | 53, _ => rfl | 54, _ => rfl | 55, _ => rfl | 56, _ => rfl | 57, _ => rfl | 58, _ => rfl | 59, _ => rfl | 60, _ => rfl | 61, _ => rfl | 62, _ => rfl | 63, _ => rfl | j + 64, hj => absurd hj (by omega)) (Nat.le_of_ble_eq_true rfl) (Nat.le_of_ble_eq_true rfl) dL_law_8 (fun q_4 H hP hD hS => ?_)
  have hP : va_P (dC, dI) vwCl [(q_1, .inr (10, xF a1 a2)), (a1, .inl (cb, 1024, .inl (fun _ => 0))), (a2, .inl (cm, 3, .inr (.inr (.inr (.inr (fun _ => none)))))), (q_4, .inr (14, [.null, .int 0, .int 0, .null, .null, .null, .null, .int 0, .int 0, .int 0, .int 0, .int 0, .int 0, .long 0, .long 0, .null, .null, .null, .null, .null, .null, .null, .null, .null, .null, .null, .null, .null, .int 0, .int 0, .null, .null, .null, .null, .null, .null, .null, .null, .null, .null, .null, .null, .null, .null, .null, .null, .null, .null, .null, .null, .null, .null, .int 0, .int 0, .null, .int 0, .int 0, .int 0, .null, .null, .null, .null, .null, .null]))] H := hP
  have hD : va_D (fun q : Nat => s.heap.size ≤ q) [(q_1, .inr (10, xF a1 a2)), (a1, .inl (cb, 1024, .inl (fun _ => 0))), (a2, .inl (cm, 3, .inr (.inr (.inr (.inr (fun _ => none)))))), (q_4, .inr (14, [.null, .int 0, .int 0, .null, .null, .null, .null, .int 0, .int 0, .int 0, .int 0, .int 0, .int 0, .long 0, .long 0, .null, .null, .null, .null, .null, .null, .null, .null, .null, .null, .null, .null, .null, .int 0, .int 0, .null, .null, .null, .null, .null, .null, .null, .null, .null, .null, .null, .null, .null, .null, .null, .null, .null, .null, .null, .null, .null, .null, .int 0, .int 0, .null, .int 0, .int 0, .int 0, .null, .null, .null, .null, .null, .null]))] := hD
  refine W.widen (k := 4) (n := 1103) (Nat.le_of_ble_eq_true rfl) (Nat.le_of_ble_eq_true rfl) ?_
  refine lv_dup hx hb dL_law_11 rfl ?_
  have hPc := hP.sub (ws' := [(q_4, .inr (14, [.null, .int 0, .int 0, .null, .null, .null, .null, .int 0, .int 0, .int 0, .int 0, .int 0, .int 0, .long 0, .long 0, .null, .null, .null, .null, .null, .null, .null, .null, .null, .null, .null, .null, .null, .int 0, .int 0, .null, .null, .null, .null, .null, .null, .null, .null, .null, .null, .null, .null, .null, .null, .null, .null, .null, .null, .null, .null, .null, .null, .int 0, .int 0, .null, .int 0, .int 0, .int 0, .null, .null, .null, .null, .null, .null]))]) [3] rfl
  have hDc := hD.sub (ws' := [(q_4, .inr (14, [.null, .int 0, .int 0, .null, .null, .null, .null, .int 0, .int 0, .int 0, .int 0, .int 0, .int 0, .long 0, .long 0, .null, .null, .null, .null, .null, .null, .null, .null, .null, .null, .null, .null, .null, .int 0, .int 0, .null, .null, .null, .null, .null, .null, .null, .null, .null, .null, .null, .null, .null, .null, .null, .null, .null, .null, .null, .null, .null, .null, .int 0, .int 0, .null, .int 0, .int 0, .int 0, .null, .null, .null, .null, .null, .null]))]) [3] (by decide) rfl
  have hKc := hK.sub (tys' := []) [] rfl
  have hFc := va_free (wc := [(q_4, .inr (14, [.null, .int 0, .int 0, .null, .null, .null, .null, .int 0, .int 0, .int 0, .int 0, .int 0, .int 0, .long 0, .long 0, .null, .null, .null, .null, .null, .null, .null, .null, .null, .null, .null, .null, .null, .int 0, .int 0, .null, .null, .null, .null, .null, .null, .null, .null, .null, .null, .null, .null, .null, .null, .null, .null, .null, .null, .null, .null, .null, .null, .int 0, .int 0, .null, .int 0, .int 0, .int 0, .null, .null, .null, .null, .null, .null]))]) hD hS hA [3] rfl
  refine va_callv (va_runI (As := []) (rest := [.ref q_4]) ⟨hx, hb, hml, hown, hw⟩ (k_X15_init l dC dI H.size q_4) ⟨callB_of 0 hw (gdl (tb_9 (List.mem_of_getElem? (i := 24) (by decide +kernel))) rfl) rfl rfl rfl (hw (Cond.initialized RX15) (tb_1 (List.mem_of_getElem? (i := 2) (by decide +kernel)))) (hw (Cond.methodLink RL 12 yX15_init) (tb_9 (List.mem_of_getElem? (i := 22) (by decide +kernel)))) (by decide +kernel) ⟨Nat.le_of_ble_eq_true rfl, Nat.le_of_ble_eq_true rfl⟩, rfl, (hw (Cond.instanceMethod yX15_init) (tb_9 (List.mem_of_getElem? (i := 23) (by decide +kernel))))⟩ ⟨fun a U g mk q => by obtain ⟨q0, q1, qP, qK, qD, qE⟩ := q; exact ⟨q0, q1, qP, va_K.moved (u := U) (U := U.calling g mk a) (Vm.Alike.refl U.vm) qK, qD, va_Nw.same rfl rfl qE⟩, fun U hU hW => ⟨rfl, by rw [hU], by rw [hU]; exact hPc, va_K.moved hW.alike hKc, hDc.weaken (fun _ _ _ _ => trivial), va_Nw.warmM hW hNst⟩⟩ rfl rfl hl.1 rfl (lv_room (Nat.le_of_ble_eq_true rfl)) dL_law_12 ⟨Nat.le_of_ble_eq_true rfl, Nat.le_of_ble_eq_true rfl⟩) hS (fun q _ h => hFc q h) hFc (fun u t H1 locs ht hvm hp_6 hB hz1 hk1 hS => ?_)
  obtain ⟨g, b0, b1, b2, b6, cb2, hP1, hK1, hD1⟩ := hB
  rw [ht] at hP1
  have hK1 := va_K.moved hvm.symm hK1
  obtain ⟨hP, hD⟩ := va_join (wr := [(q_1, .inr (10, xF a1 a2)), (a1, .inl (cb, 1024, .inl (fun _ => 0))), (a2, .inl (cm, 3, .inr (.inr (.inr (.inr (fun _ => none))))))]) (w1 := [(q_4, .inr (14, mF g)), (g 61, .inr (12, rF q_4 0 b0)), (g 62, .inr (12, rF q_4 1 b1)), (g 63, .inr (12, rF q_4 2 b2)), (g 0, .inl (cb2, 60000, .inl (fun _ => 0))), (g 6, .inr (11, hF b6))]) hP hD [3] [0, 1, 2] rfl rfl (by decide) (by decide) hk1 hFc hP1 hD1
  have hK := (hK.sub (tys' := [(cb, .byte), (cm, .object RX6)]) [0, 1] rfl).app hK1
  generalize H1 = H at hP hS ⊢
  have hP : va_P (dC, dI) vwCl [(q_1, .inr (10, xF a1 a2)), (a1, .inl (cb, 1024, .inl (fun _ => 0))), (a2, .inl (cm, 3, .inr (.inr (.inr (.inr (fun _ => none)))))), (q_4, .inr (14, mF g)), (g 61, .inr (12, rF q_4 0 b0)), (g 62, .inr (12, rF q_4 1 b1)), (g 63, .inr (12, rF q_4 2 b2)), (g 0, .inl (cb2, 60000, .inl (fun _ => 0))), (g 6, .inr (11, hF b6))] H := hP
  have hD : va_D (fun q : Nat => s.heap.size ≤ q) [(q_1, .inr (10, xF a1 a2)), (a1, .inl (cb, 1024, .inl (fun _ => 0))), (a2, .inl (cm, 3, .inr (.inr (.inr (.inr (fun _ => none)))))), (q_4, .inr (14, mF g)), (g 61, .inr (12, rF q_4 0 b0)), (g 62, .inr (12, rF q_4 1 b1)), (g 63, .inr (12, rF q_4 2 b2)), (g 0, .inl (cb2, 60000, .inl (fun _ => 0))), (g 6, .inr (11, hF b6))] := hD
  have hK : va_K (dC, dI) vwCl [(cb, .byte), (cm, .object RX6), (cb2, .byte)] s := hK
  refine W.widen (k := 117) (n := 3761775) (Nat.le_of_ble_eq_true rfl) (Nat.le_of_ble_eq_true rfl) ?_
  refine lv_astore_n (lv' := [(2, .ref q_4), (1, .ref q_1), (0, .ref b)]) hx hb dL_law_15 rfl hl (by decide) rfl (fun ls hl => ?_)
  refine lv_iconst (v := 0) hx hb dL_law_16 (by decide) ?_
  refine lv_istore_n (lv' := [(3, .int 0), (2, .ref q_4), (1, .ref q_1), (0, .ref b)]) hx hb dL_law_17 rfl hl (by decide) rfl (fun ls hl => ?_)
  rcases Nat.lt_or_ge L 6 with hlt | hge
  · refine lv_iload_n hx hb dL_law_18 rfl (lv_at hl 0 rfl) ?_
    refine lv_aload_n hx hb dL_law_19 rfl (lv_at hl 3 rfl) ?_
    refine va_slen hx hb hX hbl hbA hS dL_law_20 ?_
    refine lv_bipush (v := 6) hx hb dL_law_21 (by decide) ?_
    refine lv_isub hx hb dL_law_23 ?_
    exact lv_icmp_gt (tgt := 1221) hx hb dL_law_24 (by decide) (fun _ => law_end C0 hS (Nat.le_of_ble_eq_true rfl) (Nat.le_of_ble_eq_true rfl)) (fun c_1 => absurd (lt6 L hlt) c_1)
  · obtain rfl : L = 6 := Nat.le_antisymm hL hge
    refine lv_iload_n hx hb dL_law_18 rfl (lv_at hl 0 rfl) ?_
    refine lv_aload_n hx hb dL_law_19 rfl (lv_at hl 3 rfl) ?_
    refine va_slen hx hb hX hbl hbA hS dL_law_20 ?_
    refine lv_bipush (v := 6) hx hb dL_law_21 (by decide) ?_
    refine lv_isub hx hb dL_law_23 ?_
    refine lv_icmp_gt (tgt := 1221) hx hb dL_law_24 (by decide) (fun c_1 => absurd c_1 (by decide)) (fun c_1 => ?_)
    refine lv_aload_n hx hb dL_law_27 rfl (lv_at hl 3 rfl) ?_
    refine lv_iload_n hx hb dL_law_28 rfl (lv_at hl 0 rfl) ?_
    refine va_sld hx hb hX hbl hbA hS (show vp_in 0 6 from by unfold vp_in; decide) dL_law_29 ?_
    refine lv_bipush (v := 31) hx hb dL_law_30 (by decide) ?_
    refine lv_iand hx hb dL_law_32 ?_
    obtain ⟨j, hj, ej⟩ := pk_andE (xs (Int32.toNatClampNeg 0)) (m := 31) 5 (by decide)
    refine lv_topi (fun v ev => ?_)
    rw [ej] at ev
    subst ev
    match j, hj with
    | 0, _ => exact lv_tableIn (off := 139) (tgt := 172) hx hb dL_law_33 (by decide) (by decide) (by decide) (by decide) (law_0 C0 hK hP hD hS hl)
    | 1, _ => exact lv_tableIn (off := 202) (tgt := 235) hx hb dL_law_33 (by decide) (by decide) (by decide) (by decide) (law_1 C0 hK hP hD hS hl)
    | 2, _ => exact lv_tableIn (off := 225) (tgt := 258) hx hb dL_law_33 (by decide) (by decide) (by decide) (by decide) (law_2 C0 hK hP hD hS hl)
    | 3, _ => exact lv_tableIn (off := 238) (tgt := 271) hx hb dL_law_33 (by decide) (by decide) (by decide) (by decide) (law_3 C0 hK hP hD hS hl)
    | 4, _ => exact lv_tableIn (off := 251) (tgt := 284) hx hb dL_law_33 (by decide) (by decide) (by decide) (by decide) (law_4 C0 hK hP hD hS hl)
    | 5, _ => exact lv_tableIn (off := 274) (tgt := 307) hx hb dL_law_33 (by decide) (by decide) (by decide) (by decide) (law_5 C0 hK hP hD hS hl)
    | 6, _ => exact lv_tableIn (off := 308) (tgt := 341) hx hb dL_law_33 (by decide) (by decide) (by decide) (by decide) (law_6 C0 hK hP hD hS hl)
    | 7, _ => exact lv_tableIn (off := 342) (tgt := 375) hx hb dL_law_33 (by decide) (by decide) (by decide) (by decide) (law_7 C0 hK hP hD hS hl)
    | 8, _ => exact lv_tableIn (off := 445) (tgt := 478) hx hb dL_law_33 (by decide) (by decide) (by decide) (by decide) (law_8 C0 hK hP hD hS hl)
    | 9, _ => exact lv_tableIn (off := 479) (tgt := 512) hx hb dL_law_33 (by decide) (by decide) (by decide) (by decide) (law_9 C0 hK hP hD hS hl)
    | 10, _ => exact lv_tableIn (off := 513) (tgt := 546) hx hb dL_law_33 (by decide) (by decide) (by decide) (by decide) (law_10 C0 hK hP hD hS hl)
    | 11, _ => exact lv_tableIn (off := 546) (tgt := 579) hx hb dL_law_33 (by decide) (by decide) (by decide) (by decide) (law_11 C0 hK hP hD hS hl)
    | 12, _ => exact lv_tableIn (off := 569) (tgt := 602) hx hb dL_law_33 (by decide) (by decide) (by decide) (by decide) (law_12 C0 hK hP hD hS hl)
    | 13, _ => exact lv_tableIn (off := 592) (tgt := 625) hx hb dL_law_33 (by decide) (by decide) (by decide) (by decide) (law_13 C0 hK hP hD hS hl)
    | 14, _ => exact lv_tableIn (off := 626) (tgt := 659) hx hb dL_law_33 (by decide) (by decide) (by decide) (by decide) (law_14 C0 hK hP hD hS hl)
    | 15, _ => exact lv_tableIn (off := 680) (tgt := 713) hx hb dL_law_33 (by decide) (by decide) (by decide) (by decide) (law_15 C0 hK hP hD hS hl)
    | 16, _ => exact lv_tableIn (off := 693) (tgt := 726) hx hb dL_law_33 (by decide) (by decide) (by decide) (by decide) (law_16 C0 hK hP hD hS hl)
    | 17, _ => exact lv_tableIn (off := 716) (tgt := 749) hx hb dL_law_33 (by decide) (by decide) (by decide) (by decide) (law_17 C0 hK hP hD hS hl)
    | 18, _ => exact lv_tableIn (off := 729) (tgt := 762) hx hb dL_law_33 (by decide) (by decide) (by decide) (by decide) (law_18 C0 hK hP hD hS hl)
    | 19, _ => exact lv_tableIn (off := 742) (tgt := 775) hx hb dL_law_33 (by decide) (by decide) (by decide) (by decide) (law_19 C0 hK hP hD hS hl)
    | 20, _ => exact lv_tableIn (off := 775) (tgt := 808) hx hb dL_law_33 (by decide) (by decide) (by decide) (by decide) (law_20 C0 hK hP hD hS hl)
    | 21, _ => exact lv_tableIn (off := 808) (tgt := 841) hx hb dL_law_33 (by decide) (by decide) (by decide) (by decide) (law_21 C0 hK hP hD hS hl)
    | 22, _ => exact lv_tableIn (off := 842) (tgt := 875) hx hb dL_law_33 (by decide) (by decide) (by decide) (by decide) (law_22 C0 hK hP hD hS hl)
    | 23, _ => exact lv_tableIn (off := 865) (tgt := 898) hx hb dL_law_33 (by decide) (by decide) (by decide) (by decide) (law_23 C0 hK hP hD hS hl)
    | 24, _ => exact lv_tableIn (off := 889) (tgt := 922) hx hb dL_law_33 (by decide) (by decide) (by decide) (by decide) (law_24 C0 hK hP hD hS hl)
    | 25, _ => exact lv_tableIn (off := 922) (tgt := 955) hx hb dL_law_33 (by decide) (by decide) (by decide) (by decide) (law_25 C0 hK hP hD hS hl)
    | 26, _ => exact lv_tableIn (off := 985) (tgt := 1018) hx hb dL_law_33 (by decide) (by decide) (by decide) (by decide) (law_26 C0 hK hP hD hS hl)
    | 27, _ => exact lv_tableIn (off := 1038) (tgt := 1071) hx hb dL_law_33 (by decide) (by decide) (by decide) (by decide) (law_27 C0 hK hP hD hS hl)
    | 28, _ => exact lv_tableIn (off := 1092) (tgt := 1125) hx hb dL_law_33 (by decide) (by decide) (by decide) (by decide) (law_28 C0 hK hP hD hS hl)
    | 29, _ => exact lv_tableIn (off := 1136) (tgt := 1169) hx hb dL_law_33 (by decide) (by decide) (by decide) (by decide) (law_29 C0 hK hP hD hS hl)
    | 30, _ => exact lv_tableIn (off := 1169) (tgt := 1202) hx hb dL_law_33 (by decide) (by decide) (by decide) (by decide) (law_30 C0 hK hP hD hS hl)
    | 31, _ => exact lv_tableOut (tgt := 1215) hx hb dL_law_33 (by decide) (by decide) (law_tail C0 hS (Nat.le_of_ble_eq_true rfl) (Nat.le_of_ble_eq_true rfl) hl)
    | j + 32, hj => exact absurd hj (by omega)
