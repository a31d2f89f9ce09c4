set_option maxHeartbeats 8000000 in
set_option maxRecDepth 100000 in
theorem k_X15_end (l : Launch) (dC : Nat → ClassId) (dI : Nat → Nat → Nat) (sz : Nat) (h0 : Nat) (g : Nat → Nat) (p1 : Int32) : Met l yX15_end (Cond.code yX15_end cX15_end 2 (some .boolean) :: bw) ({ frames := 0, cells := 0, slots := 0, locals := 0 }) (pM [.ref h0, .int p1] (dC, dI) sz [(h0, .inr (14, mFt g 0))] []) (va_Qi (fun (r : Int32) (_ : Unit) => r = sp_end p1) (fun _ t => True) (va_A [(h0, .inr (14, mFt g 0))] sz)) 0 0 (va_A [(h0, .inr (14, mFt g 0))] sz) := by
  refine Met.ofW (cc := cX15_end) (maxL := 2) (ret := (some .boolean)) (by decide) rfl ?_
  intro p e s m args below meth c s₁ B hml hv
  obtain ⟨rfl, hsz, hP, hK, hD0⟩ := hv
  have hx := B.exec
  have hb := B.bytes
  have hr := B.returns
  have hts := atoms_spec (ws := Cond.code yX15_end cX15_end 2 (some .boolean) :: bw) B.pre
  have hw : ∀ w ∈ bw, w.before _ s = true := fun w h => hts w (List.mem_cons_of_mem _ h)
  have hown : s.vm.findClass RX15 = some m.cls := findClass_of_methodNamed B.named
  subst hsz
  have hD := hD0.self (sz := s.heap.size)
  generalize hAe : va_A [(h0, .inr (14, mFt g 0))] s.heap.size = A at hD ⊢
  have hA : ∀ q : Nat, s.heap.size ≤ q → A q := fun q h => by rw [← hAe]; exact Or.inr h
  have hS : va_S A s.heap s.heap [] := va_S.rf
  have hP : va_P (dC, dI) vwCl [(h0, .inr (14, mFt g 0))] s.heap := hP
  have hl := lv_entry ([.ref h0, .int p1]) (n := 2) (Nat.le_of_ble_eq_true rfl)
  rw [lg_entry_eq]
  generalize (lg_sl ([.ref h0, .int p1]) ++ List.replicate (2 - (lg_sl ([.ref h0, .int p1])).length) Slot.unset).toArray = ls at hl ⊢
  have hl : lv_has ls 2 [(0, .ref h0), (1, .int p1)] := hl
  refine lv_iload_n hx hb dX15_end_0 rfl (lv_at hl 1 rfl) ?_
  refine lv_if_lt (tgt := 12) hx hb dX15_end_1 (by decide) (fun c_1 => ?_) (fun c_1 => ?_)
  · skip
    refine lv_iconst (v := 0) hx hb dX15_end_12 (by decide) ?_
    refine W.widen (k := 0) (n := 0) (Nat.le_of_ble_eq_true rfl) (Nat.le_of_ble_eq_true rfl) ?_
    exact W.zret (v := 0) hx hb hr rfl (fun t ht hW => ⟨⟨0, (), rfl, by unfold sp_end; simp [*], trivial⟩, hS.F ht⟩) hS.2.2 dX15_end_13
  · skip
    refine lv_iload_n hx hb dX15_end_4 rfl (lv_at hl 1 rfl) ?_
    refine lv_aload_n hx hb dX15_end_5 rfl (lv_at hl 0 rfl) ?_
    refine va_get (D := (dC, dI)) (ci := 14) (v := .int 0) (C := RX15) (T := TX15) (N := 64) hx hb hw inlX15 hown hK hP 0 rfl rfl 1 (by decide) (hw (Cond.fieldLink RX15 178 "CodeLayoutModel" "trayed" "I") (wl_7 (List.mem_of_getElem? (i := 6) rfl))) (fun _ h9 => h9) rfl dX15_end_6 ?_
    refine lv_icmp_le (tgt := 14) hx hb dX15_end_9 (by decide) (fun c_2 => ?_) (fun c_2 => ?_)
    · skip
      refine lv_aload_n hx hb dX15_end_14 rfl (lv_at hl 0 rfl) ?_
      refine lv_iload_n hx hb dX15_end_15 rfl (lv_at hl 1 rfl) ?_
      refine va_put (D := (dC, dI)) (ci := 14) (v := .int p1) (ty := .int) (C := RX15) (T := TX15) (N := 64) hx hb hw inlX15 tyX15 tyX15_ok nmX15 hown hK hP hD hS 0 rfl rfl 1 (by decide) (hw (Cond.fieldLink RX15 178 "CodeLayoutModel" "trayed" "I") (wl_7 (List.mem_of_getElem? (i := 6) rfl))) (fun _ h9 => h9) rfl (by decide +kernel) rfl rfl (Nat.le_of_ble_eq_true rfl) dX15_end_16 (fun H locs hP hD hS => ?_)
      have hP : va_P (dC, dI) vwCl [(h0, .inr (14, mFt g p1))] H := hP
      have hD : va_D A [(h0, .inr (14, mFt g p1))] := hD
      refine lv_iconst (v := 1) hx hb dX15_end_19 (by decide) ?_
      refine W.widen (k := 0) (n := 0) (Nat.le_of_ble_eq_true rfl) (Nat.le_of_ble_eq_true rfl) ?_
      exact W.zret (v := 1) hx hb hr rfl (fun t ht hW => ⟨⟨1, (), rfl, by unfold sp_end; simp [*], trivial⟩, hS.F ht⟩) hS.2.2 dX15_end_20
    · skip
      refine lv_iconst (v := 0) hx hb dX15_end_12 (by decide) ?_
      refine W.widen (k := 0) (n := 0) (Nat.le_of_ble_eq_true rfl) (Nat.le_of_ble_eq_true rfl) ?_
      exact W.zret (v := 0) hx hb hr rfl (fun t ht hW => ⟨⟨0, (), rfl, by unfold sp_end; simp [*], trivial⟩, hS.F ht⟩) hS.2.2 dX15_end_13
