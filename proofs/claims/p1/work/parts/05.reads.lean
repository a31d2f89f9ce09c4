set_option maxHeartbeats 4000000 in
set_option maxRecDepth 100000 in
theorem k_X11_count (l : Launch) (dC : Nat → ClassId) (dI : Nat → Nat → Nat) (h0 a1 a2 : Nat) (cm : ClassId) (p1 : Int32) : Met l yX11_count (Cond.code yX11_count cX11_count 2 (some .int) :: bw) ({ frames := 0, cells := 0, slots := 0, locals := 0 }) (pR [.ref h0, .int p1] (dC, dI) (xW h0 a1 a2 cm) [(cm, .object "CodeLayout$Machine")]) (vp_Si (fun r => r = sp_count p1)) 0 0 (fun _ => False) := by
  refine Met.ofW (cc := cX11_count) (maxL := 2) (ret := (some .int)) (by decide) rfl ?_
  intro p e s m args below meth c s₁ B hml hv
  obtain ⟨rfl, hP, hK⟩ := hv
  have hx := B.exec
  have hb := B.bytes
  have hr := B.returns
  have hts := atoms_spec (ws := Cond.code yX11_count cX11_count 2 (some .int) :: bw) B.pre
  have hw : ∀ w ∈ bw, w.before _ s = true := fun w h => hts w (List.mem_cons_of_mem _ h)
  have hown : s.vm.findClass RX11 = some m.cls := findClass_of_methodNamed B.named
  have hl := lv_entry ([.ref h0, .int p1]) (n := 2) (Nat.le_of_ble_eq_true rfl)
  rw [lg_entry_eq]
  generalize (lg_sl ([.ref h0, .int p1]) ++ List.replicate (2 - (lg_sl ([.ref h0, .int p1])).length) Slot.unset).toArray = ls at hl ⊢
  have hl : lv_has ls 2 [(0, .ref h0), (1, .int p1)] := hl
  refine lv_iload_n hx hb dX11_count_0 rfl (lv_at hl 1 rfl) ?_
  refine lv_if_lt (tgt := 9) hx hb dX11_count_1 (by decide) (fun c_1 => ?_) (fun c_1 => ?_)
  · skip
    refine lv_bipush (v := (-14)) hx hb dX11_count_9 (by decide) ?_
    exact W.iret (v := (-14)) hx hb hr (fun t ht hW => ⟨(-14), rfl, by unfold sp_count; simp [*], ht⟩) (fun q h => absurd h List.not_mem_nil) dX11_count_11
  · skip
    refine lv_iload_n hx hb dX11_count_4 rfl (lv_at hl 1 rfl) ?_
    refine lv_iconst (v := 4) hx hb dX11_count_5 (by decide) ?_
    refine lv_icmp_le (tgt := 12) hx hb dX11_count_6 (by decide) (fun c_2 => ?_) (fun c_2 => ?_)
    · skip
      refine lv_aload_n hx hb dX11_count_12 rfl (lv_at hl 0 rfl) ?_
      refine va_get (D := (dC, dI)) (ci := 10) (v := .null) (C := RX11) (T := TX11) (N := 12) hx hb hw inlX11 hown hK hP 0 rfl rfl 4 (by decide) (hw (Cond.fieldLink RX11 67 "CodeLayout" "program" "LCodeLayout$Program;") (wl_1 (List.mem_of_getElem? (i := 0) rfl))) (fun _ h9 => h9) rfl dX11_count_13 ?_
      refine lv_ifnonnullN hx hb dX11_count_16 ?_
      refine lv_iconst (v := 0) hx hb dX11_count_19 (by decide) ?_
      exact W.iret (v := 0) hx hb hr (fun t ht hW => ⟨0, rfl, by unfold sp_count; simp [*], ht⟩) (fun q h => absurd h List.not_mem_nil) dX11_count_20
    · skip
      refine lv_bipush (v := (-14)) hx hb dX11_count_9 (by decide) ?_
      exact W.iret (v := (-14)) hx hb hr (fun t ht hW => ⟨(-14), rfl, by unfold sp_count; simp [*], ht⟩) (fun q h => absurd h List.not_mem_nil) dX11_count_11
set_option maxHeartbeats 4000000 in
set_option maxRecDepth 100000 in
theorem k_X15_count (l : Launch) (dC : Nat → ClassId) (dI : Nat → Nat → Nat) (h0 : Nat) (g b0 b1 b2 : Nat → Nat) (p1 : Int32) : Met l yX15_count (Cond.code yX15_count cX15_count 2 (some .int) :: bw) ({ frames := 0, cells := 0, slots := 0, locals := 0 }) (pR [.ref h0, .int p1] (dC, dI) (mW h0 g b0 b1 b2) []) (vp_Si (fun r => r = sp_count p1)) 0 0 (fun _ => False) := by
  refine Met.ofW (cc := cX15_count) (maxL := 2) (ret := (some .int)) (by decide) rfl ?_
  intro p e s m args below meth c s₁ B hml hv
  obtain ⟨rfl, hP, hK⟩ := hv
  have hx := B.exec
  have hb := B.bytes
  have hr := B.returns
  have hts := atoms_spec (ws := Cond.code yX15_count cX15_count 2 (some .int) :: bw) B.pre
  have hw : ∀ w ∈ bw, w.before _ s = true := fun w h => hts w (List.mem_cons_of_mem _ h)
  have hown : s.vm.findClass RX15 = some m.cls := findClass_of_methodNamed B.named
  have hl := lv_entry ([.ref h0, .int p1]) (n := 2) (Nat.le_of_ble_eq_true rfl)
  rw [lg_entry_eq]
  generalize (lg_sl ([.ref h0, .int p1]) ++ List.replicate (2 - (lg_sl ([.ref h0, .int p1])).length) Slot.unset).toArray = ls at hl ⊢
  have hl : lv_has ls 2 [(0, .ref h0), (1, .int p1)] := hl
  refine lv_iload_n hx hb dX15_count_0 rfl (lv_at hl 1 rfl) ?_
  refine lv_if_lt (tgt := 9) hx hb dX15_count_1 (by decide) (fun c_1 => ?_) (fun c_1 => ?_)
  · skip
    refine lv_bipush (v := (-14)) hx hb dX15_count_9 (by decide) ?_
    exact W.iret (v := (-14)) hx hb hr (fun t ht hW => ⟨(-14), rfl, by unfold sp_count; simp [*], ht⟩) (fun q h => absurd h List.not_mem_nil) dX15_count_11
  · skip
    refine lv_iload_n hx hb dX15_count_4 rfl (lv_at hl 1 rfl) ?_
    refine lv_iconst (v := 4) hx hb dX15_count_5 (by decide) ?_
    refine lv_icmp_le (tgt := 12) hx hb dX15_count_6 (by decide) (fun c_2 => ?_) (fun c_2 => ?_)
    · skip
      refine lv_aload_n hx hb dX15_count_12 rfl (lv_at hl 0 rfl) ?_
      refine va_get (D := (dC, dI)) (ci := 14) (v := .int 0) (C := RX15) (T := TX15) (N := 64) hx hb hw inlX15 hown hK hP 0 rfl rfl 7 (by decide) (hw (Cond.fieldLink RX15 265 "CodeLayoutModel" "isRead" "Z") (wl_1 (List.mem_of_getElem? (i := 1) rfl))) (fun _ h9 => h9) rfl dX15_count_13 ?_
      refine lv_if_ne (tgt := 21) hx hb dX15_count_16 (by decide) (fun c_3 => absurd c_3 (by decide)) (fun c_3 => ?_)
      refine lv_iconst (v := 0) hx hb dX15_count_19 (by decide) ?_
      exact W.iret (v := 0) hx hb hr (fun t ht hW => ⟨0, rfl, by unfold sp_count; simp [*], ht⟩) (fun q h => absurd h List.not_mem_nil) dX15_count_20
    · skip
      refine lv_bipush (v := (-14)) hx hb dX15_count_9 (by decide) ?_
      exact W.iret (v := (-14)) hx hb hr (fun t ht hW => ⟨(-14), rfl, by unfold sp_count; simp [*], ht⟩) (fun q h => absurd h List.not_mem_nil) dX15_count_11
set_option maxHeartbeats 4000000 in
set_option maxRecDepth 100000 in
theorem k_X11_latest (l : Launch) (dC : Nat → ClassId) (dI : Nat → Nat → Nat) (h0 a1 a2 : Nat) (cm : ClassId) (p1 : Int32) : Met l yX11_latest (Cond.code yX11_latest cX11_latest 2 (some (.object "CodeLayout$Machine")) :: bw) ({ frames := 0, cells := 0, slots := 0, locals := 0 }) (pR [.ref h0, .int p1] (dC, dI) (xW h0 a1 a2 cm) [(cm, .object "CodeLayout$Machine")]) (va_Sq (fun r => r = none)) 0 0 (fun _ => False) := by
  refine Met.ofW (cc := cX11_latest) (maxL := 2) (ret := (some (.object "CodeLayout$Machine"))) (by decide) rfl ?_
  intro p e s m args below meth c s₁ B hml hv
  obtain ⟨rfl, hP, hK⟩ := hv
  have hx := B.exec
  have hb := B.bytes
  have hr := B.returns
  have hts := atoms_spec (ws := Cond.code yX11_latest cX11_latest 2 (some (.object "CodeLayout$Machine")) :: bw) B.pre
  have hw : ∀ w ∈ bw, w.before _ s = true := fun w h => hts w (List.mem_cons_of_mem _ h)
  have hown : s.vm.findClass RX11 = some m.cls := findClass_of_methodNamed B.named
  have hl := lv_entry ([.ref h0, .int p1]) (n := 2) (Nat.le_of_ble_eq_true rfl)
  rw [lg_entry_eq]
  generalize (lg_sl ([.ref h0, .int p1]) ++ List.replicate (2 - (lg_sl ([.ref h0, .int p1])).length) Slot.unset).toArray = ls at hl ⊢
  have hl : lv_has ls 2 [(0, .ref h0), (1, .int p1)] := hl
  refine lv_iload_n hx hb dX11_latest_0 rfl (lv_at hl 1 rfl) ?_
  refine lv_if_lt (tgt := 30) hx hb dX11_latest_1 (by decide) (fun c_1 => ?_) (fun c_1 => ?_)
  · skip
    refine lv_null hx hb dX11_latest_30 ?_
    exact W.aret (v := .null) hx hb hr (Or.inl ⟨_, rfl⟩) (Or.inl rfl) (fun t ht hW => ⟨none, rfl, rfl, ht⟩) (fun q h => absurd h List.not_mem_nil) dX11_latest_31
  · skip
    refine lv_iload_n hx hb dX11_latest_4 rfl (lv_at hl 1 rfl) ?_
    refine lv_iconst (v := 3) hx hb dX11_latest_5 (by decide) ?_
    refine lv_icmp_ge (tgt := 30) hx hb dX11_latest_6 (by decide) (fun c_2 => ?_) (fun c_2 => ?_)
    · skip
      refine lv_null hx hb dX11_latest_30 ?_
      exact W.aret (v := .null) hx hb hr (Or.inl ⟨_, rfl⟩) (Or.inl rfl) (fun t ht hW => ⟨none, rfl, rfl, ht⟩) (fun q h => absurd h List.not_mem_nil) dX11_latest_31
    · skip
      refine lv_aload_n hx hb dX11_latest_9 rfl (lv_at hl 0 rfl) ?_
      refine va_get (D := (dC, dI)) (ci := 10) (v := .ref a2) (C := RX11) (T := TX11) (N := 12) hx hb hw inlX11 hown hK hP 0 rfl rfl 11 (by decide) (hw (Cond.fieldLink RX11 19 "CodeLayout" "machines" "[LCodeLayout$Machine;") (wl_1 (List.mem_of_getElem? (i := 2) rfl))) (fun _ h9 => h9) rfl dX11_latest_10 ?_
      refine lv_iload_n hx hb dX11_latest_13 rfl (lv_at hl 1 rfl) ?_
      have hi_3 : vp_in p1 3 := bd_3 c_1 c_2
      refine va_aldq hx hb hK hP 1 0 rfl rfl hi_3 dX11_latest_14 ?_
      refine W.eq (g2 := F0 m 15 ls [.null]) rfl ?_
      refine lv_ifnullN (tgt := 30) hx hb dX11_latest_15 (by decide) ?_
      refine lv_null hx hb dX11_latest_30 ?_
      exact W.aret (v := .null) hx hb hr (Or.inl ⟨_, rfl⟩) (Or.inl rfl) (fun t ht hW => ⟨none, rfl, rfl, ht⟩) (fun q h => absurd h List.not_mem_nil) dX11_latest_31
set_option maxHeartbeats 4000000 in
set_option maxRecDepth 100000 in
theorem k_X11_place (l : Launch) (dC : Nat → ClassId) (dI : Nat → Nat → Nat) (h0 a1 a2 : Nat) (cm : ClassId) : Met l yX11_place (Cond.code yX11_place cX11_place 1 (some .int) :: bw) ({ frames := 0, cells := 0, slots := 0, locals := 0 }) (pR [.ref h0] (dC, dI) (xW h0 a1 a2 cm) [(cm, .object "CodeLayout$Machine")]) (vp_Si (fun r => r = (-1))) 0 0 (fun _ => False) := by
  refine Met.ofW (cc := cX11_place) (maxL := 1) (ret := (some .int)) (by decide) rfl ?_
  intro p e s m args below meth c s₁ B hml hv
  obtain ⟨rfl, hP, hK⟩ := hv
  have hx := B.exec
  have hb := B.bytes
  have hr := B.returns
  have hts := atoms_spec (ws := Cond.code yX11_place cX11_place 1 (some .int) :: bw) B.pre
  have hw : ∀ w ∈ bw, w.before _ s = true := fun w h => hts w (List.mem_cons_of_mem _ h)
  have hown : s.vm.findClass RX11 = some m.cls := findClass_of_methodNamed B.named
  have hl := lv_entry ([.ref h0]) (n := 1) (Nat.le_of_ble_eq_true rfl)
  rw [lg_entry_eq]
  generalize (lg_sl ([.ref h0]) ++ List.replicate (1 - (lg_sl ([.ref h0])).length) Slot.unset).toArray = ls at hl ⊢
  have hl : lv_has ls 1 [(0, .ref h0)] := hl
  refine lv_aload_n hx hb dX11_place_0 rfl (lv_at hl 0 rfl) ?_
  refine va_get (D := (dC, dI)) (ci := 10) (v := .int ((-1))) (C := RX11) (T := TX11) (N := 12) hx hb hw inlX11 hown hK hP 0 rfl rfl 3 (by decide) (hw (Cond.fieldLink RX11 13 "CodeLayout" "refusedAt" "I") (wl_1 (List.mem_of_getElem? (i := 3) rfl))) (fun _ h9 => h9) rfl dX11_place_1 ?_
  exact W.iret (v := (-1)) hx hb hr (fun t ht hW => ⟨(-1), rfl, rfl, ht⟩) (fun q h => absurd h List.not_mem_nil) dX11_place_4
set_option maxHeartbeats 4000000 in
set_option maxRecDepth 100000 in
theorem k_X11_function (l : Launch) (dC : Nat → ClassId) (dI : Nat → Nat → Nat) (h0 a1 a2 : Nat) (cm : ClassId) (p1 : Int32) (p2 : Int32) : Met l yX11_function (Cond.code yX11_function cX11_function 3 (some .long) :: bw) ({ frames := 0, cells := 0, slots := 0, locals := 0 }) (pR [.ref h0, .int p1, .int p2] (dC, dI) (xW h0 a1 a2 cm) [(cm, .object "CodeLayout$Machine")]) (vp_Sl (fun r => r = (-14))) 0 0 (fun _ => False) := by
  refine Met.ofW (cc := cX11_function) (maxL := 3) (ret := (some .long)) (by decide) rfl ?_
  intro p e s m args below meth c s₁ B hml hv
  obtain ⟨rfl, hP, hK⟩ := hv
  have hx := B.exec
  have hb := B.bytes
  have hr := B.returns
  have hts := atoms_spec (ws := Cond.code yX11_function cX11_function 3 (some .long) :: bw) B.pre
  have hw : ∀ w ∈ bw, w.before _ s = true := fun w h => hts w (List.mem_cons_of_mem _ h)
  have hown : s.vm.findClass RX11 = some m.cls := findClass_of_methodNamed B.named
  have hl := lv_entry ([.ref h0, .int p1, .int p2]) (n := 3) (Nat.le_of_ble_eq_true rfl)
  rw [lg_entry_eq]
  generalize (lg_sl ([.ref h0, .int p1, .int p2]) ++ List.replicate (3 - (lg_sl ([.ref h0, .int p1, .int p2])).length) Slot.unset).toArray = ls at hl ⊢
  have hl : lv_has ls 3 [(0, .ref h0), (1, .int p1), (2, .int p2)] := hl
  refine lv_aload_n hx hb dX11_function_0 rfl (lv_at hl 0 rfl) ?_
  refine va_get (D := (dC, dI)) (ci := 10) (v := .null) (C := RX11) (T := TX11) (N := 12) hx hb hw inlX11 hown hK hP 0 rfl rfl 4 (by decide) (hw (Cond.fieldLink RX11 67 "CodeLayout" "program" "LCodeLayout$Program;") (wl_1 (List.mem_of_getElem? (i := 0) rfl))) (fun _ h9 => h9) rfl dX11_function_1 ?_
  refine lv_ifnullN (tgt := 34) hx hb dX11_function_4 (by decide) ?_
  refine lv_ldc2 (own := RX11) (v := (-14)) hx hb hown (hw (Cond.constantLong RX11 126 (-14)) (wl_1 (List.mem_of_getElem? (i := 4) rfl))) dX11_function_34 ?_
  exact W.lret (v := (-14)) hx hb hr (fun t ht hW => ⟨(-14), rfl, rfl, ht⟩) (fun q h => absurd h List.not_mem_nil) dX11_function_37
set_option maxHeartbeats 4000000 in
set_option maxRecDepth 100000 in
theorem k_X11_block (l : Launch) (dC : Nat → ClassId) (dI : Nat → Nat → Nat) (h0 a1 a2 : Nat) (cm : ClassId) (p1 : Int32) (p2 : Int32) : Met l yX11_block (Cond.code yX11_block cX11_block 3 (some .long) :: bw) ({ frames := 0, cells := 0, slots := 0, locals := 0 }) (pR [.ref h0, .int p1, .int p2] (dC, dI) (xW h0 a1 a2 cm) [(cm, .object "CodeLayout$Machine")]) (vp_Sl (fun r => r = (-14))) 0 0 (fun _ => False) := by
  refine Met.ofW (cc := cX11_block) (maxL := 3) (ret := (some .long)) (by decide) rfl ?_
  intro p e s m args below meth c s₁ B hml hv
  obtain ⟨rfl, hP, hK⟩ := hv
  have hx := B.exec
  have hb := B.bytes
  have hr := B.returns
  have hts := atoms_spec (ws := Cond.code yX11_block cX11_block 3 (some .long) :: bw) B.pre
  have hw : ∀ w ∈ bw, w.before _ s = true := fun w h => hts w (List.mem_cons_of_mem _ h)
  have hown : s.vm.findClass RX11 = some m.cls := findClass_of_methodNamed B.named
  have hl := lv_entry ([.ref h0, .int p1, .int p2]) (n := 3) (Nat.le_of_ble_eq_true rfl)
  rw [lg_entry_eq]
  generalize (lg_sl ([.ref h0, .int p1, .int p2]) ++ List.replicate (3 - (lg_sl ([.ref h0, .int p1, .int p2])).length) Slot.unset).toArray = ls at hl ⊢
  have hl : lv_has ls 3 [(0, .ref h0), (1, .int p1), (2, .int p2)] := hl
  refine lv_aload_n hx hb dX11_block_0 rfl (lv_at hl 0 rfl) ?_
  refine va_get (D := (dC, dI)) (ci := 10) (v := .null) (C := RX11) (T := TX11) (N := 12) hx hb hw inlX11 hown hK hP 0 rfl rfl 4 (by decide) (hw (Cond.fieldLink RX11 67 "CodeLayout" "program" "LCodeLayout$Program;") (wl_1 (List.mem_of_getElem? (i := 0) rfl))) (fun _ h9 => h9) rfl dX11_block_1 ?_
  refine lv_ifnullN (tgt := 35) hx hb dX11_block_4 (by decide) ?_
  refine lv_ldc2 (own := RX11) (v := (-14)) hx hb hown (hw (Cond.constantLong RX11 126 (-14)) (wl_1 (List.mem_of_getElem? (i := 4) rfl))) dX11_block_35 ?_
  exact W.lret (v := (-14)) hx hb hr (fun t ht hW => ⟨(-14), rfl, rfl, ht⟩) (fun q h => absurd h List.not_mem_nil) dX11_block_38
set_option maxHeartbeats 4000000 in
set_option maxRecDepth 100000 in
theorem k_X11_edge (l : Launch) (dC : Nat → ClassId) (dI : Nat → Nat → Nat) (h0 a1 a2 : Nat) (cm : ClassId) (p1 : Int64) (p2 : Int64) (p3 : Int32) : Met l yX11_edge (Cond.code yX11_edge cX11_edge 8 (some .int) :: bw) ({ frames := 0, cells := 0, slots := 0, locals := 0 }) (pR [.ref h0, .long p1, .long p2, .int p3] (dC, dI) (xW h0 a1 a2 cm) [(cm, .object "CodeLayout$Machine")]) (vp_Si (fun r => r = (-14))) 0 0 (fun _ => False) := by
  refine Met.ofW (cc := cX11_edge) (maxL := 8) (ret := (some .int)) (by decide) rfl ?_
  intro p e s m args below meth c s₁ B hml hv
  obtain ⟨rfl, hP, hK⟩ := hv
  have hx := B.exec
  have hb := B.bytes
  have hr := B.returns
  have hts := atoms_spec (ws := Cond.code yX11_edge cX11_edge 8 (some .int) :: bw) B.pre
  have hw : ∀ w ∈ bw, w.before _ s = true := fun w h => hts w (List.mem_cons_of_mem _ h)
  have hown : s.vm.findClass RX11 = some m.cls := findClass_of_methodNamed B.named
  have hl := lv_entry ([.ref h0, .long p1, .long p2, .int p3]) (n := 8) (Nat.le_of_ble_eq_true rfl)
  rw [lg_entry_eq]
  generalize (lg_sl ([.ref h0, .long p1, .long p2, .int p3]) ++ List.replicate (8 - (lg_sl ([.ref h0, .long p1, .long p2, .int p3])).length) Slot.unset).toArray = ls at hl ⊢
  have hl : lv_has ls 8 [(0, .ref h0), (1, .long p1), (3, .long p2), (5, .int p3)] := hl
  refine lv_aload_n hx hb dX11_edge_0 rfl (lv_at hl 0 rfl) ?_
  refine va_get (D := (dC, dI)) (ci := 10) (v := .null) (C := RX11) (T := TX11) (N := 12) hx hb hw inlX11 hown hK hP 0 rfl rfl 4 (by decide) (hw (Cond.fieldLink RX11 67 "CodeLayout" "program" "LCodeLayout$Program;") (wl_1 (List.mem_of_getElem? (i := 0) rfl))) (fun _ h9 => h9) rfl dX11_edge_1 ?_
  refine lv_ifnullN (tgt := 14) hx hb dX11_edge_4 (by decide) ?_
  refine lv_bipush (v := (-14)) hx hb dX11_edge_14 (by decide) ?_
  exact W.iret (v := (-14)) hx hb hr (fun t ht hW => ⟨(-14), rfl, rfl, ht⟩) (fun q h => absurd h List.not_mem_nil) dX11_edge_16
set_option maxHeartbeats 4000000 in
set_option maxRecDepth 100000 in
theorem k_X11_way (l : Launch) (dC : Nat → ClassId) (dI : Nat → Nat → Nat) (h0 a1 a2 : Nat) (cm : ClassId) (p1 : Int32) (p2 : Int32) : Met l yX11_way (Cond.code yX11_way cX11_way 3 (some .long) :: bw) ({ frames := 0, cells := 0, slots := 0, locals := 0 }) (pR [.ref h0, .int p1, .int p2] (dC, dI) (xW h0 a1 a2 cm) [(cm, .object "CodeLayout$Machine")]) (vp_Sl (fun r => r = 0)) 0 0 (fun _ => False) := by
  refine Met.ofW (cc := cX11_way) (maxL := 3) (ret := (some .long)) (by decide) rfl ?_
  intro p e s m args below meth c s₁ B hml hv
  obtain ⟨rfl, hP, hK⟩ := hv
  have hx := B.exec
  have hb := B.bytes
  have hr := B.returns
  have hts := atoms_spec (ws := Cond.code yX11_way cX11_way 3 (some .long) :: bw) B.pre
  have hw : ∀ w ∈ bw, w.before _ s = true := fun w h => hts w (List.mem_cons_of_mem _ h)
  have hown : s.vm.findClass RX11 = some m.cls := findClass_of_methodNamed B.named
  have hl := lv_entry ([.ref h0, .int p1, .int p2]) (n := 3) (Nat.le_of_ble_eq_true rfl)
  rw [lg_entry_eq]
  generalize (lg_sl ([.ref h0, .int p1, .int p2]) ++ List.replicate (3 - (lg_sl ([.ref h0, .int p1, .int p2])).length) Slot.unset).toArray = ls at hl ⊢
  have hl : lv_has ls 3 [(0, .ref h0), (1, .int p1), (2, .int p2)] := hl
  refine lv_aload_n hx hb dX11_way_0 rfl (lv_at hl 0 rfl) ?_
  refine va_get (D := (dC, dI)) (ci := 10) (v := .null) (C := RX11) (T := TX11) (N := 12) hx hb hw inlX11 hown hK hP 0 rfl rfl 5 (by decide) (hw (Cond.fieldLink RX11 76 "CodeLayout" "counts" "LCodeLayout$Counts;") (wl_1 (List.mem_of_getElem? (i := 5) rfl))) (fun _ h9 => h9) rfl dX11_way_1 ?_
  refine lv_ifnonnullN hx hb dX11_way_4 ?_
  refine lv_lconst (v := 0) hx hb dX11_way_7 (by decide) ?_
  refine lv_goto (tgt := 20) hx hb dX11_way_8 (by decide) ?_
  exact W.lret (v := 0) hx hb hr (fun t ht hW => ⟨0, rfl, rfl, ht⟩) (fun q h => absurd h List.not_mem_nil) dX11_way_20
set_option maxHeartbeats 4000000 in
set_option maxRecDepth 100000 in
theorem k_X11_calls (l : Launch) (dC : Nat → ClassId) (dI : Nat → Nat → Nat) (h0 a1 a2 : Nat) (cm : ClassId) (p1 : Int32) (p2 : Int32) : Met l yX11_calls (Cond.code yX11_calls cX11_calls 3 (some .long) :: bw) ({ frames := 0, cells := 0, slots := 0, locals := 0 }) (pR [.ref h0, .int p1, .int p2] (dC, dI) (xW h0 a1 a2 cm) [(cm, .object "CodeLayout$Machine")]) (vp_Sl (fun r => r = 0)) 0 0 (fun _ => False) := by
  refine Met.ofW (cc := cX11_calls) (maxL := 3) (ret := (some .long)) (by decide) rfl ?_
  intro p e s m args below meth c s₁ B hml hv
  obtain ⟨rfl, hP, hK⟩ := hv
  have hx := B.exec
  have hb := B.bytes
  have hr := B.returns
  have hts := atoms_spec (ws := Cond.code yX11_calls cX11_calls 3 (some .long) :: bw) B.pre
  have hw : ∀ w ∈ bw, w.before _ s = true := fun w h => hts w (List.mem_cons_of_mem _ h)
  have hown : s.vm.findClass RX11 = some m.cls := findClass_of_methodNamed B.named
  have hl := lv_entry ([.ref h0, .int p1, .int p2]) (n := 3) (Nat.le_of_ble_eq_true rfl)
  rw [lg_entry_eq]
  generalize (lg_sl ([.ref h0, .int p1, .int p2]) ++ List.replicate (3 - (lg_sl ([.ref h0, .int p1, .int p2])).length) Slot.unset).toArray = ls at hl ⊢
  have hl : lv_has ls 3 [(0, .ref h0), (1, .int p1), (2, .int p2)] := hl
  refine lv_aload_n hx hb dX11_calls_0 rfl (lv_at hl 0 rfl) ?_
  refine va_get (D := (dC, dI)) (ci := 10) (v := .null) (C := RX11) (T := TX11) (N := 12) hx hb hw inlX11 hown hK hP 0 rfl rfl 5 (by decide) (hw (Cond.fieldLink RX11 76 "CodeLayout" "counts" "LCodeLayout$Counts;") (wl_1 (List.mem_of_getElem? (i := 5) rfl))) (fun _ h9 => h9) rfl dX11_calls_1 ?_
  refine lv_ifnonnullN hx hb dX11_calls_4 ?_
  refine lv_lconst (v := 0) hx hb dX11_calls_7 (by decide) ?_
  refine lv_goto (tgt := 20) hx hb dX11_calls_8 (by decide) ?_
  exact W.lret (v := 0) hx hb hr (fun t ht hW => ⟨0, rfl, rfl, ht⟩) (fun q h => absurd h List.not_mem_nil) dX11_calls_20
set_option maxHeartbeats 4000000 in
set_option maxRecDepth 100000 in
theorem k_X11_lay (l : Launch) (dC : Nat → ClassId) (dI : Nat → Nat → Nat) (h0 a1 a2 : Nat) (cm : ClassId) (p1 : Int32) (p2 : Int32) : Met l yX11_lay (Cond.code yX11_lay cX11_lay 3 (some .int) :: bw) ({ frames := 0, cells := 0, slots := 0, locals := 0 }) (pR [.ref h0, .int p1, .int p2] (dC, dI) (xW h0 a1 a2 cm) [(cm, .object "CodeLayout$Machine")]) (vp_Si (fun r => r = (-14))) 0 0 (fun _ => False) := by
  refine Met.ofW (cc := cX11_lay) (maxL := 3) (ret := (some .int)) (by decide) rfl ?_
  intro p e s m args below meth c s₁ B hml hv
  obtain ⟨rfl, hP, hK⟩ := hv
  have hx := B.exec
  have hb := B.bytes
  have hr := B.returns
  have hts := atoms_spec (ws := Cond.code yX11_lay cX11_lay 3 (some .int) :: bw) B.pre
  have hw : ∀ w ∈ bw, w.before _ s = true := fun w h => hts w (List.mem_cons_of_mem _ h)
  have hown : s.vm.findClass RX11 = some m.cls := findClass_of_methodNamed B.named
  have hl := lv_entry ([.ref h0, .int p1, .int p2]) (n := 3) (Nat.le_of_ble_eq_true rfl)
  rw [lg_entry_eq]
  generalize (lg_sl ([.ref h0, .int p1, .int p2]) ++ List.replicate (3 - (lg_sl ([.ref h0, .int p1, .int p2])).length) Slot.unset).toArray = ls at hl ⊢
  have hl : lv_has ls 3 [(0, .ref h0), (1, .int p1), (2, .int p2)] := hl
  refine lv_aload_n hx hb dX11_lay_0 rfl (lv_at hl 0 rfl) ?_
  refine va_get (D := (dC, dI)) (ci := 10) (v := .null) (C := RX11) (T := TX11) (N := 12) hx hb hw inlX11 hown hK hP 0 rfl rfl 4 (by decide) (hw (Cond.fieldLink RX11 67 "CodeLayout" "program" "LCodeLayout$Program;") (wl_1 (List.mem_of_getElem? (i := 0) rfl))) (fun _ h9 => h9) rfl dX11_lay_1 ?_
  refine lv_ifnullN (tgt := 14) hx hb dX11_lay_4 (by decide) ?_
  refine lv_bipush (v := (-14)) hx hb dX11_lay_14 (by decide) ?_
  exact W.iret (v := (-14)) hx hb hr (fun t ht hW => ⟨(-14), rfl, rfl, ht⟩) (fun q h => absurd h List.not_mem_nil) dX11_lay_16
set_option maxHeartbeats 4000000 in
set_option maxRecDepth 100000 in
theorem k_X11_order (l : Launch) (dC : Nat → ClassId) (dI : Nat → Nat → Nat) (h0 a1 a2 : Nat) (cm : ClassId) (p1 : Int32) : Met l yX11_order (Cond.code yX11_order cX11_order 2 (some .int) :: bw) ({ frames := 0, cells := 0, slots := 0, locals := 0 }) (pR [.ref h0, .int p1] (dC, dI) (xW h0 a1 a2 cm) [(cm, .object "CodeLayout$Machine")]) (vp_Si (fun r => r = (-1))) 0 0 (fun _ => False) := by
  refine Met.ofW (cc := cX11_order) (maxL := 2) (ret := (some .int)) (by decide) rfl ?_
  intro p e s m args below meth c s₁ B hml hv
  obtain ⟨rfl, hP, hK⟩ := hv
  have hx := B.exec
  have hb := B.bytes
  have hr := B.returns
  have hts := atoms_spec (ws := Cond.code yX11_order cX11_order 2 (some .int) :: bw) B.pre
  have hw : ∀ w ∈ bw, w.before _ s = true := fun w h => hts w (List.mem_cons_of_mem _ h)
  have hown : s.vm.findClass RX11 = some m.cls := findClass_of_methodNamed B.named
  have hl := lv_entry ([.ref h0, .int p1]) (n := 2) (Nat.le_of_ble_eq_true rfl)
  rw [lg_entry_eq]
  generalize (lg_sl ([.ref h0, .int p1]) ++ List.replicate (2 - (lg_sl ([.ref h0, .int p1])).length) Slot.unset).toArray = ls at hl ⊢
  have hl : lv_has ls 2 [(0, .ref h0), (1, .int p1)] := hl
  refine lv_aload_n hx hb dX11_order_0 rfl (lv_at hl 0 rfl) ?_
  refine va_get (D := (dC, dI)) (ci := 10) (v := .null) (C := RX11) (T := TX11) (N := 12) hx hb hw inlX11 hown hK hP 0 rfl rfl 7 (by decide) (hw (Cond.fieldLink RX11 84 "CodeLayout" "layout" "LCodeLayout$Layout;") (wl_1 (List.mem_of_getElem? (i := 6) rfl))) (fun _ h9 => h9) rfl dX11_order_1 ?_
  refine lv_ifnullN (tgt := 18) hx hb dX11_order_4 (by decide) ?_
  refine lv_iconst (v := (-1)) hx hb dX11_order_18 (by decide) ?_
  exact W.iret (v := (-1)) hx hb hr (fun t ht hW => ⟨(-1), rfl, rfl, ht⟩) (fun q h => absurd h List.not_mem_nil) dX11_order_19
set_option maxHeartbeats 4000000 in
set_option maxRecDepth 100000 in
theorem k_X11_laid (l : Launch) (dC : Nat → ClassId) (dI : Nat → Nat → Nat) (h0 a1 a2 : Nat) (cm : ClassId) (p1 : Int32) : Met l yX11_laid (Cond.code yX11_laid cX11_laid 2 (some .int) :: bw) ({ frames := 0, cells := 0, slots := 0, locals := 0 }) (pR [.ref h0, .int p1] (dC, dI) (xW h0 a1 a2 cm) [(cm, .object "CodeLayout$Machine")]) (vp_Si (fun r => r = (-14))) 0 0 (fun _ => False) := by
  refine Met.ofW (cc := cX11_laid) (maxL := 2) (ret := (some .int)) (by decide) rfl ?_
  intro p e s m args below meth c s₁ B hml hv
  obtain ⟨rfl, hP, hK⟩ := hv
  have hx := B.exec
  have hb := B.bytes
  have hr := B.returns
  have hts := atoms_spec (ws := Cond.code yX11_laid cX11_laid 2 (some .int) :: bw) B.pre
  have hw : ∀ w ∈ bw, w.before _ s = true := fun w h => hts w (List.mem_cons_of_mem _ h)
  have hown : s.vm.findClass RX11 = some m.cls := findClass_of_methodNamed B.named
  have hl := lv_entry ([.ref h0, .int p1]) (n := 2) (Nat.le_of_ble_eq_true rfl)
  rw [lg_entry_eq]
  generalize (lg_sl ([.ref h0, .int p1]) ++ List.replicate (2 - (lg_sl ([.ref h0, .int p1])).length) Slot.unset).toArray = ls at hl ⊢
  have hl : lv_has ls 2 [(0, .ref h0), (1, .int p1)] := hl
  refine lv_aload_n hx hb dX11_laid_0 rfl (lv_at hl 0 rfl) ?_
  refine va_get (D := (dC, dI)) (ci := 10) (v := .null) (C := RX11) (T := TX11) (N := 12) hx hb hw inlX11 hown hK hP 0 rfl rfl 7 (by decide) (hw (Cond.fieldLink RX11 84 "CodeLayout" "layout" "LCodeLayout$Layout;") (wl_1 (List.mem_of_getElem? (i := 6) rfl))) (fun _ h9 => h9) rfl dX11_laid_1 ?_
  refine lv_ifnullN (tgt := 16) hx hb dX11_laid_4 (by decide) ?_
  refine lv_bipush (v := (-14)) hx hb dX11_laid_16 (by decide) ?_
  exact W.iret (v := (-14)) hx hb hr (fun t ht hW => ⟨(-14), rfl, rfl, ht⟩) (fun q h => absurd h List.not_mem_nil) dX11_laid_18
set_option maxHeartbeats 4000000 in
set_option maxRecDepth 100000 in
theorem k_X11_weight (l : Launch) (dC : Nat → ClassId) (dI : Nat → Nat → Nat) (h0 a1 a2 : Nat) (cm : ClassId) (p1 : Int32) (p2 : Int32) : Met l yX11_weight (Cond.code yX11_weight cX11_weight 3 (some .long) :: bw) ({ frames := 0, cells := 0, slots := 0, locals := 0 }) (pR [.ref h0, .int p1, .int p2] (dC, dI) (xW h0 a1 a2 cm) [(cm, .object "CodeLayout$Machine")]) (vp_Sl (fun r => r = (-14))) 0 0 (fun _ => False) := by
  refine Met.ofW (cc := cX11_weight) (maxL := 3) (ret := (some .long)) (by decide) rfl ?_
  intro p e s m args below meth c s₁ B hml hv
  obtain ⟨rfl, hP, hK⟩ := hv
  have hx := B.exec
  have hb := B.bytes
  have hr := B.returns
  have hts := atoms_spec (ws := Cond.code yX11_weight cX11_weight 3 (some .long) :: bw) B.pre
  have hw : ∀ w ∈ bw, w.before _ s = true := fun w h => hts w (List.mem_cons_of_mem _ h)
  have hown : s.vm.findClass RX11 = some m.cls := findClass_of_methodNamed B.named
  have hl := lv_entry ([.ref h0, .int p1, .int p2]) (n := 3) (Nat.le_of_ble_eq_true rfl)
  rw [lg_entry_eq]
  generalize (lg_sl ([.ref h0, .int p1, .int p2]) ++ List.replicate (3 - (lg_sl ([.ref h0, .int p1, .int p2])).length) Slot.unset).toArray = ls at hl ⊢
  have hl : lv_has ls 3 [(0, .ref h0), (1, .int p1), (2, .int p2)] := hl
  refine lv_aload_n hx hb dX11_weight_0 rfl (lv_at hl 0 rfl) ?_
  refine va_get (D := (dC, dI)) (ci := 10) (v := .null) (C := RX11) (T := TX11) (N := 12) hx hb hw inlX11 hown hK hP 0 rfl rfl 4 (by decide) (hw (Cond.fieldLink RX11 67 "CodeLayout" "program" "LCodeLayout$Program;") (wl_1 (List.mem_of_getElem? (i := 0) rfl))) (fun _ h9 => h9) rfl dX11_weight_1 ?_
  refine lv_ifnullN (tgt := 34) hx hb dX11_weight_4 (by decide) ?_
  refine lv_ldc2 (own := RX11) (v := (-14)) hx hb hown (hw (Cond.constantLong RX11 126 (-14)) (wl_1 (List.mem_of_getElem? (i := 4) rfl))) dX11_weight_34 ?_
  exact W.lret (v := (-14)) hx hb hr (fun t ht hW => ⟨(-14), rfl, rfl, ht⟩) (fun q h => absurd h List.not_mem_nil) dX11_weight_37
set_option maxHeartbeats 4000000 in
set_option maxRecDepth 100000 in
theorem k_X11_moved (l : Launch) (dC : Nat → ClassId) (dI : Nat → Nat → Nat) (h0 a1 a2 : Nat) (cm : ClassId) (p1 : Int64) : Met l yX11_moved (Cond.code yX11_moved cX11_moved 3 (some .long) :: bw) ({ frames := 0, cells := 0, slots := 0, locals := 0 }) (pR [.ref h0, .long p1] (dC, dI) (xW h0 a1 a2 cm) [(cm, .object "CodeLayout$Machine")]) (vp_Sl (fun r => r = (-14))) 0 0 (fun _ => False) := by
  refine Met.ofW (cc := cX11_moved) (maxL := 3) (ret := (some .long)) (by decide) rfl ?_
  intro p e s m args below meth c s₁ B hml hv
  obtain ⟨rfl, hP, hK⟩ := hv
  have hx := B.exec
  have hb := B.bytes
  have hr := B.returns
  have hts := atoms_spec (ws := Cond.code yX11_moved cX11_moved 3 (some .long) :: bw) B.pre
  have hw : ∀ w ∈ bw, w.before _ s = true := fun w h => hts w (List.mem_cons_of_mem _ h)
  have hown : s.vm.findClass RX11 = some m.cls := findClass_of_methodNamed B.named
  have hl := lv_entry ([.ref h0, .long p1]) (n := 3) (Nat.le_of_ble_eq_true rfl)
  rw [lg_entry_eq]
  generalize (lg_sl ([.ref h0, .long p1]) ++ List.replicate (3 - (lg_sl ([.ref h0, .long p1])).length) Slot.unset).toArray = ls at hl ⊢
  have hl : lv_has ls 3 [(0, .ref h0), (1, .long p1)] := hl
  refine lv_aload_n hx hb dX11_moved_0 rfl (lv_at hl 0 rfl) ?_
  refine va_get (D := (dC, dI)) (ci := 10) (v := .null) (C := RX11) (T := TX11) (N := 12) hx hb hw inlX11 hown hK hP 0 rfl rfl 4 (by decide) (hw (Cond.fieldLink RX11 67 "CodeLayout" "program" "LCodeLayout$Program;") (wl_1 (List.mem_of_getElem? (i := 0) rfl))) (fun _ h9 => h9) rfl dX11_moved_1 ?_
  refine lv_ifnullN (tgt := 25) hx hb dX11_moved_4 (by decide) ?_
  refine lv_ldc2 (own := RX11) (v := (-14)) hx hb hown (hw (Cond.constantLong RX11 126 (-14)) (wl_1 (List.mem_of_getElem? (i := 4) rfl))) dX11_moved_25 ?_
  exact W.lret (v := (-14)) hx hb hr (fun t ht hW => ⟨(-14), rfl, rfl, ht⟩) (fun q h => absurd h List.not_mem_nil) dX11_moved_28
set_option maxHeartbeats 4000000 in
set_option maxRecDepth 100000 in
theorem k_X11_size (l : Launch) (dC : Nat → ClassId) (dI : Nat → Nat → Nat) (h0 a1 a2 : Nat) (cm : ClassId) : Met l yX11_size (Cond.code yX11_size cX11_size 1 (some .int) :: bw) ({ frames := 0, cells := 0, slots := 0, locals := 0 }) (pR [.ref h0] (dC, dI) (xW h0 a1 a2 cm) [(cm, .object "CodeLayout$Machine")]) (vp_Si (fun r => r = (-14))) 0 0 (fun _ => False) := by
  refine Met.ofW (cc := cX11_size) (maxL := 1) (ret := (some .int)) (by decide) rfl ?_
  intro p e s m args below meth c s₁ B hml hv
  obtain ⟨rfl, hP, hK⟩ := hv
  have hx := B.exec
  have hb := B.bytes
  have hr := B.returns
  have hts := atoms_spec (ws := Cond.code yX11_size cX11_size 1 (some .int) :: bw) B.pre
  have hw : ∀ w ∈ bw, w.before _ s = true := fun w h => hts w (List.mem_cons_of_mem _ h)
  have hown : s.vm.findClass RX11 = some m.cls := findClass_of_methodNamed B.named
  have hl := lv_entry ([.ref h0]) (n := 1) (Nat.le_of_ble_eq_true rfl)
  rw [lg_entry_eq]
  generalize (lg_sl ([.ref h0]) ++ List.replicate (1 - (lg_sl ([.ref h0])).length) Slot.unset).toArray = ls at hl ⊢
  have hl : lv_has ls 1 [(0, .ref h0)] := hl
  refine lv_aload_n hx hb dX11_size_0 rfl (lv_at hl 0 rfl) ?_
  refine va_get (D := (dC, dI)) (ci := 10) (v := .null) (C := RX11) (T := TX11) (N := 12) hx hb hw inlX11 hown hK hP 0 rfl rfl 7 (by decide) (hw (Cond.fieldLink RX11 84 "CodeLayout" "layout" "LCodeLayout$Layout;") (wl_1 (List.mem_of_getElem? (i := 6) rfl))) (fun _ h9 => h9) rfl dX11_size_1 ?_
  refine lv_ifnullN (tgt := 20) hx hb dX11_size_4 (by decide) ?_
  refine lv_bipush (v := (-14)) hx hb dX11_size_20 (by decide) ?_
  exact W.iret (v := (-14)) hx hb hr (fun t ht hW => ⟨(-14), rfl, rfl, ht⟩) (fun q h => absurd h List.not_mem_nil) dX11_size_22
set_option maxHeartbeats 4000000 in
set_option maxRecDepth 100000 in
theorem k_X11_out (l : Launch) (dC : Nat → ClassId) (dI : Nat → Nat → Nat) (h0 a1 a2 : Nat) (cm : ClassId) (p1 : Int32) : Met l yX11_out (Cond.code yX11_out cX11_out 2 (some .int) :: bw) ({ frames := 0, cells := 0, slots := 0, locals := 0 }) (pR [.ref h0, .int p1] (dC, dI) (xW h0 a1 a2 cm) [(cm, .object "CodeLayout$Machine")]) (vp_Si (fun r => r = (-1))) 0 0 (fun _ => False) := by
  refine Met.ofW (cc := cX11_out) (maxL := 2) (ret := (some .int)) (by decide) rfl ?_
  intro p e s m args below meth c s₁ B hml hv
  obtain ⟨rfl, hP, hK⟩ := hv
  have hx := B.exec
  have hb := B.bytes
  have hr := B.returns
  have hts := atoms_spec (ws := Cond.code yX11_out cX11_out 2 (some .int) :: bw) B.pre
  have hw : ∀ w ∈ bw, w.before _ s = true := fun w h => hts w (List.mem_cons_of_mem _ h)
  have hown : s.vm.findClass RX11 = some m.cls := findClass_of_methodNamed B.named
  have hl := lv_entry ([.ref h0, .int p1]) (n := 2) (Nat.le_of_ble_eq_true rfl)
  rw [lg_entry_eq]
  generalize (lg_sl ([.ref h0, .int p1]) ++ List.replicate (2 - (lg_sl ([.ref h0, .int p1])).length) Slot.unset).toArray = ls at hl ⊢
  have hl : lv_has ls 2 [(0, .ref h0), (1, .int p1)] := hl
  refine lv_aload_n hx hb dX11_out_0 rfl (lv_at hl 0 rfl) ?_
  refine va_get (D := (dC, dI)) (ci := 10) (v := .null) (C := RX11) (T := TX11) (N := 12) hx hb hw inlX11 hown hK hP 0 rfl rfl 7 (by decide) (hw (Cond.fieldLink RX11 84 "CodeLayout" "layout" "LCodeLayout$Layout;") (wl_1 (List.mem_of_getElem? (i := 6) rfl))) (fun _ h9 => h9) rfl dX11_out_1 ?_
  refine lv_ifnullN (tgt := 25) hx hb dX11_out_4 (by decide) ?_
  refine lv_iconst (v := (-1)) hx hb dX11_out_25 (by decide) ?_
  exact W.iret (v := (-1)) hx hb hr (fun t ht hW => ⟨(-1), rfl, rfl, ht⟩) (fun q h => absurd h List.not_mem_nil) dX11_out_26
set_option maxHeartbeats 4000000 in
set_option maxRecDepth 100000 in
theorem k_X11_check (l : Launch) (dC : Nat → ClassId) (dI : Nat → Nat → Nat) (h0 a1 a2 : Nat) (cm : ClassId) : Met l yX11_check (Cond.code yX11_check cX11_check 1 (some .int) :: bw) ({ frames := 0, cells := 0, slots := 0, locals := 0 }) (pR [.ref h0] (dC, dI) (xW h0 a1 a2 cm) [(cm, .object "CodeLayout$Machine")]) (vp_Si (fun r => r = (-14))) 0 0 (fun _ => False) := by
  refine Met.ofW (cc := cX11_check) (maxL := 1) (ret := (some .int)) (by decide) rfl ?_
  intro p e s m args below meth c s₁ B hml hv
  obtain ⟨rfl, hP, hK⟩ := hv
  have hx := B.exec
  have hb := B.bytes
  have hr := B.returns
  have hts := atoms_spec (ws := Cond.code yX11_check cX11_check 1 (some .int) :: bw) B.pre
  have hw : ∀ w ∈ bw, w.before _ s = true := fun w h => hts w (List.mem_cons_of_mem _ h)
  have hown : s.vm.findClass RX11 = some m.cls := findClass_of_methodNamed B.named
  have hl := lv_entry ([.ref h0]) (n := 1) (Nat.le_of_ble_eq_true rfl)
  rw [lg_entry_eq]
  generalize (lg_sl ([.ref h0]) ++ List.replicate (1 - (lg_sl ([.ref h0])).length) Slot.unset).toArray = ls at hl ⊢
  have hl : lv_has ls 1 [(0, .ref h0)] := hl
  refine lv_aload_n hx hb dX11_check_0 rfl (lv_at hl 0 rfl) ?_
  refine va_get (D := (dC, dI)) (ci := 10) (v := .null) (C := RX11) (T := TX11) (N := 12) hx hb hw inlX11 hown hK hP 0 rfl rfl 7 (by decide) (hw (Cond.fieldLink RX11 84 "CodeLayout" "layout" "LCodeLayout$Layout;") (wl_1 (List.mem_of_getElem? (i := 6) rfl))) (fun _ h9 => h9) rfl dX11_check_1 ?_
  refine lv_ifnonnullN hx hb dX11_check_4 ?_
  refine lv_bipush (v := (-14)) hx hb dX11_check_7 (by decide) ?_
  exact W.iret (v := (-14)) hx hb hr (fun t ht hW => ⟨(-14), rfl, rfl, ht⟩) (fun q h => absurd h List.not_mem_nil) dX11_check_9
set_option maxHeartbeats 4000000 in
set_option maxRecDepth 100000 in
theorem k_X11_same (l : Launch) (dC : Nat → ClassId) (dI : Nat → Nat → Nat) (h0 a1 a2 : Nat) (cm : ClassId) : Met l yX11_same (Cond.code yX11_same cX11_same 1 (some .boolean) :: bw) ({ frames := 0, cells := 0, slots := 0, locals := 0 }) (pR [.ref h0] (dC, dI) (xW h0 a1 a2 cm) [(cm, .object "CodeLayout$Machine")]) (vp_Si (fun r => r = 0)) 0 0 (fun _ => False) := by
  refine Met.ofW (cc := cX11_same) (maxL := 1) (ret := (some .boolean)) (by decide) rfl ?_
  intro p e s m args below meth c s₁ B hml hv
  obtain ⟨rfl, hP, hK⟩ := hv
  have hx := B.exec
  have hb := B.bytes
  have hr := B.returns
  have hts := atoms_spec (ws := Cond.code yX11_same cX11_same 1 (some .boolean) :: bw) B.pre
  have hw : ∀ w ∈ bw, w.before _ s = true := fun w h => hts w (List.mem_cons_of_mem _ h)
  have hown : s.vm.findClass RX11 = some m.cls := findClass_of_methodNamed B.named
  have hl := lv_entry ([.ref h0]) (n := 1) (Nat.le_of_ble_eq_true rfl)
  rw [lg_entry_eq]
  generalize (lg_sl ([.ref h0]) ++ List.replicate (1 - (lg_sl ([.ref h0])).length) Slot.unset).toArray = ls at hl ⊢
  have hl : lv_has ls 1 [(0, .ref h0)] := hl
  refine lv_aload_n hx hb dX11_same_0 rfl (lv_at hl 0 rfl) ?_
  refine va_get (D := (dC, dI)) (ci := 10) (v := .null) (C := RX11) (T := TX11) (N := 12) hx hb hw inlX11 hown hK hP 0 rfl rfl 4 (by decide) (hw (Cond.fieldLink RX11 67 "CodeLayout" "program" "LCodeLayout$Program;") (wl_1 (List.mem_of_getElem? (i := 0) rfl))) (fun _ h9 => h9) rfl dX11_same_1 ?_
  refine lv_ifnonnullN hx hb dX11_same_4 ?_
  refine lv_iconst (v := 0) hx hb dX11_same_7 (by decide) ?_
  exact W.zret (v := 0) hx hb hr rfl (fun t ht hW => ⟨0, rfl, rfl, ht⟩) (fun q h => absurd h List.not_mem_nil) dX11_same_8
set_option maxHeartbeats 4000000 in
set_option maxRecDepth 100000 in
theorem k_X11_run (l : Launch) (dC : Nat → ClassId) (dI : Nat → Nat → Nat) (h0 a1 a2 : Nat) (cm : ClassId) (p1 : Int32) (p2 : Int32) : Met l yX11_run (Cond.code yX11_run cX11_run 4 (some .int) :: bw) ({ frames := 0, cells := 0, slots := 0, locals := 0 }) (pR [.ref h0, .int p1, .int p2] (dC, dI) (xW h0 a1 a2 cm) [(cm, .object "CodeLayout$Machine")]) (vp_Si (fun r => r = (-14))) 0 0 (fun _ => False) := by
  refine Met.ofW (cc := cX11_run) (maxL := 4) (ret := (some .int)) (by decide) rfl ?_
  intro p e s m args below meth c s₁ B hml hv
  obtain ⟨rfl, hP, hK⟩ := hv
  have hx := B.exec
  have hb := B.bytes
  have hr := B.returns
  have hts := atoms_spec (ws := Cond.code yX11_run cX11_run 4 (some .int) :: bw) B.pre
  have hw : ∀ w ∈ bw, w.before _ s = true := fun w h => hts w (List.mem_cons_of_mem _ h)
  have hown : s.vm.findClass RX11 = some m.cls := findClass_of_methodNamed B.named
  have hl := lv_entry ([.ref h0, .int p1, .int p2]) (n := 4) (Nat.le_of_ble_eq_true rfl)
  rw [lg_entry_eq]
  generalize (lg_sl ([.ref h0, .int p1, .int p2]) ++ List.replicate (4 - (lg_sl ([.ref h0, .int p1, .int p2])).length) Slot.unset).toArray = ls at hl ⊢
  have hl : lv_has ls 4 [(0, .ref h0), (1, .int p1), (2, .int p2)] := hl
  refine lv_aload_n hx hb dX11_run_0 rfl (lv_at hl 0 rfl) ?_
  refine va_get (D := (dC, dI)) (ci := 10) (v := .null) (C := RX11) (T := TX11) (N := 12) hx hb hw inlX11 hown hK hP 0 rfl rfl 4 (by decide) (hw (Cond.fieldLink RX11 67 "CodeLayout" "program" "LCodeLayout$Program;") (wl_1 (List.mem_of_getElem? (i := 0) rfl))) (fun _ h9 => h9) rfl dX11_run_1 ?_
  refine lv_ifnullN (tgt := 19) hx hb dX11_run_4 (by decide) ?_
  refine lv_bipush (v := (-14)) hx hb dX11_run_19 (by decide) ?_
  exact W.iret (v := (-14)) hx hb hr (fun t ht hW => ⟨(-14), rfl, rfl, ht⟩) (fun q h => absurd h List.not_mem_nil) dX11_run_21
set_option maxHeartbeats 4000000 in
set_option maxRecDepth 100000 in
theorem k_X11_told (l : Launch) (dC : Nat → ClassId) (dI : Nat → Nat → Nat) (h0 a1 a2 : Nat) (cm : ClassId) (p1 : Int32) (p2 : Int32) : Met l yX11_told (Cond.code yX11_told cX11_told 4 (some .int) :: bw) ({ frames := 1, cells := 0, slots := 0, locals := 21 }) (pR [.ref h0, .int p1, .int p2] (dC, dI) (xW h0 a1 a2 cm) [(cm, .object "CodeLayout$Machine")]) (vp_Si (fun r => r = (-14))) 0 0 (fun _ => False) := by
  refine Met.ofW (cc := cX11_told) (maxL := 4) (ret := (some .int)) (by decide) rfl ?_
  intro p e s m args below meth c s₁ B hml hv
  obtain ⟨rfl, hP, hK⟩ := hv
  have hx := B.exec
  have hb := B.bytes
  have hr := B.returns
  have hts := atoms_spec (ws := Cond.code yX11_told cX11_told 4 (some .int) :: bw) B.pre
  have hw : ∀ w ∈ bw, w.before _ s = true := fun w h => hts w (List.mem_cons_of_mem _ h)
  have hown : s.vm.findClass RX11 = some m.cls := findClass_of_methodNamed B.named
  have hl := lv_entry ([.ref h0, .int p1, .int p2]) (n := 4) (Nat.le_of_ble_eq_true rfl)
  rw [lg_entry_eq]
  generalize (lg_sl ([.ref h0, .int p1, .int p2]) ++ List.replicate (4 - (lg_sl ([.ref h0, .int p1, .int p2])).length) Slot.unset).toArray = ls at hl ⊢
  have hl : lv_has ls 4 [(0, .ref h0), (1, .int p1), (2, .int p2)] := hl
  refine lv_aload_n hx hb dX11_told_0 rfl (lv_at hl 0 rfl) ?_
  refine lv_iload_n hx hb dX11_told_1 rfl (lv_at hl 1 rfl) ?_
  have hPc := hP.sub (ws' := (xW h0 a1 a2 cm)) [0, 1] rfl
  have hKc := hK.sub (tys' := [(cm, .object "CodeLayout$Machine")]) [0] rfl
  refine va_csq (va_runV (As := [.int p1]) (rest := []) ⟨hx, hb, hml, hown, hw⟩ (k_X11_latest l dC dI h0 a1 a2 cm p1) ⟨callB_of 1 hw (gdw (wl_1 (List.mem_of_getElem? (i := 7) rfl))) rfl rfl rfl (hw (Cond.initialized RX11) (wl_1 (List.mem_of_getElem? (i := 8) rfl))) (hw (Cond.methodLink RX11 295 yX11_latest) (wl_1 (List.mem_of_getElem? (i := 9) rfl))) (by decide +kernel) ⟨Nat.le_of_ble_eq_true rfl, Nat.le_of_ble_eq_true rfl⟩, (hw (Cond.instanceMethod yX11_latest) (wl_1 (List.mem_of_getElem? (i := 10) rfl))), (hw (Cond.selects RX11 yX11_latest yX11_latest) (wl_1 (List.mem_of_getElem? (i := 11) rfl)))⟩ ⟨pR_blind, va_recv hKc hPc (ci := 10) (q0 := 0) rfl rfl, pR_of hPc hKc⟩ rfl rfl hl.1 rfl (lv_room (Nat.le_of_ble_eq_true rfl)) dX11_told_2 ⟨Nat.zero_le _, Nat.zero_le _⟩).run (fun r_1 e_2 => ?_)
  subst e_2
  refine W.eq (g2 := F0 m 5 ls [.null]) rfl ?_
  refine lv_astore_nN (lv' := [(3, .null), (0, .ref h0), (1, .int p1), (2, .int p2)]) hx hb dX11_told_5 rfl hl (by decide) rfl (fun ls hl => ?_)
  refine lv_aload_nN hx hb dX11_told_6 rfl (lv_at hl 0 rfl) ?_
  refine lv_ifnullN (tgt := 19) hx hb dX11_told_7 (by decide) ?_
  refine lv_bipush (v := (-14)) hx hb dX11_told_19 (by decide) ?_
  exact W.iret (v := (-14)) hx hb hr (fun t ht hW => ⟨(-14), rfl, rfl, ht⟩) (fun q h => absurd h List.not_mem_nil) dX11_told_21
set_option maxHeartbeats 4000000 in
set_option maxRecDepth 100000 in
theorem k_X11_register (l : Launch) (dC : Nat → ClassId) (dI : Nat → Nat → Nat) (h0 a1 a2 : Nat) (cm : ClassId) (p1 : Int32) (p2 : Int32) : Met l yX11_register (Cond.code yX11_register cX11_register 4 (some .long) :: bw) ({ frames := 1, cells := 0, slots := 0, locals := 21 }) (pR [.ref h0, .int p1, .int p2] (dC, dI) (xW h0 a1 a2 cm) [(cm, .object "CodeLayout$Machine")]) (vp_Sl (fun r => r = 0)) 0 0 (fun _ => False) := by
  refine Met.ofW (cc := cX11_register) (maxL := 4) (ret := (some .long)) (by decide) rfl ?_
  intro p e s m args below meth c s₁ B hml hv
  obtain ⟨rfl, hP, hK⟩ := hv
  have hx := B.exec
  have hb := B.bytes
  have hr := B.returns
  have hts := atoms_spec (ws := Cond.code yX11_register cX11_register 4 (some .long) :: bw) B.pre
  have hw : ∀ w ∈ bw, w.before _ s = true := fun w h => hts w (List.mem_cons_of_mem _ h)
  have hown : s.vm.findClass RX11 = some m.cls := findClass_of_methodNamed B.named
  have hl := lv_entry ([.ref h0, .int p1, .int p2]) (n := 4) (Nat.le_of_ble_eq_true rfl)
  rw [lg_entry_eq]
  generalize (lg_sl ([.ref h0, .int p1, .int p2]) ++ List.replicate (4 - (lg_sl ([.ref h0, .int p1, .int p2])).length) Slot.unset).toArray = ls at hl ⊢
  have hl : lv_has ls 4 [(0, .ref h0), (1, .int p1), (2, .int p2)] := hl
  refine lv_aload_n hx hb dX11_register_0 rfl (lv_at hl 0 rfl) ?_
  refine lv_iload_n hx hb dX11_register_1 rfl (lv_at hl 1 rfl) ?_
  have hPc := hP.sub (ws' := (xW h0 a1 a2 cm)) [0, 1] rfl
  have hKc := hK.sub (tys' := [(cm, .object "CodeLayout$Machine")]) [0] rfl
  refine va_csq (va_runV (As := [.int p1]) (rest := []) ⟨hx, hb, hml, hown, hw⟩ (k_X11_latest l dC dI h0 a1 a2 cm p1) ⟨callB_of 1 hw (gdw (wl_1 (List.mem_of_getElem? (i := 7) rfl))) rfl rfl rfl (hw (Cond.initialized RX11) (wl_1 (List.mem_of_getElem? (i := 8) rfl))) (hw (Cond.methodLink RX11 295 yX11_latest) (wl_1 (List.mem_of_getElem? (i := 9) rfl))) (by decide +kernel) ⟨Nat.le_of_ble_eq_true rfl, Nat.le_of_ble_eq_true rfl⟩, (hw (Cond.instanceMethod yX11_latest) (wl_1 (List.mem_of_getElem? (i := 10) rfl))), (hw (Cond.selects RX11 yX11_latest yX11_latest) (wl_1 (List.mem_of_getElem? (i := 11) rfl)))⟩ ⟨pR_blind, va_recv hKc hPc (ci := 10) (q0 := 0) rfl rfl, pR_of hPc hKc⟩ rfl rfl hl.1 rfl (lv_room (Nat.le_of_ble_eq_true rfl)) dX11_register_2 ⟨Nat.zero_le _, Nat.zero_le _⟩).run (fun r_1 e_2 => ?_)
  subst e_2
  refine W.eq (g2 := F0 m 5 ls [.null]) rfl ?_
  refine lv_astore_nN (lv' := [(3, .null), (0, .ref h0), (1, .int p1), (2, .int p2)]) hx hb dX11_register_5 rfl hl (by decide) rfl (fun ls hl => ?_)
  refine lv_aload_nN hx hb dX11_register_6 rfl (lv_at hl 0 rfl) ?_
  refine lv_ifnonnullN hx hb dX11_register_7 ?_
  refine lv_lconst (v := 0) hx hb dX11_register_10 (by decide) ?_
  refine lv_goto (tgt := 19) hx hb dX11_register_11 (by decide) ?_
  exact W.lret (v := 0) hx hb hr (fun t ht hW => ⟨0, rfl, rfl, ht⟩) (fun q h => absurd h List.not_mem_nil) dX11_register_19
set_option maxHeartbeats 4000000 in
set_option maxRecDepth 100000 in
theorem k_X11_kind (l : Launch) (dC : Nat → ClassId) (dI : Nat → Nat → Nat) (h0 a1 a2 : Nat) (cm : ClassId) (p1 : Int32) : Met l yX11_kind (Cond.code yX11_kind cX11_kind 3 (some .int) :: bw) ({ frames := 1, cells := 0, slots := 0, locals := 21 }) (pR [.ref h0, .int p1] (dC, dI) (xW h0 a1 a2 cm) [(cm, .object "CodeLayout$Machine")]) (vp_Si (fun r => r = (-1))) 0 0 (fun _ => False) := by
  refine Met.ofW (cc := cX11_kind) (maxL := 3) (ret := (some .int)) (by decide) rfl ?_
  intro p e s m args below meth c s₁ B hml hv
  obtain ⟨rfl, hP, hK⟩ := hv
  have hx := B.exec
  have hb := B.bytes
  have hr := B.returns
  have hts := atoms_spec (ws := Cond.code yX11_kind cX11_kind 3 (some .int) :: bw) B.pre
  have hw : ∀ w ∈ bw, w.before _ s = true := fun w h => hts w (List.mem_cons_of_mem _ h)
  have hown : s.vm.findClass RX11 = some m.cls := findClass_of_methodNamed B.named
  have hl := lv_entry ([.ref h0, .int p1]) (n := 3) (Nat.le_of_ble_eq_true rfl)
  rw [lg_entry_eq]
  generalize (lg_sl ([.ref h0, .int p1]) ++ List.replicate (3 - (lg_sl ([.ref h0, .int p1])).length) Slot.unset).toArray = ls at hl ⊢
  have hl : lv_has ls 3 [(0, .ref h0), (1, .int p1)] := hl
  refine lv_aload_n hx hb dX11_kind_0 rfl (lv_at hl 0 rfl) ?_
  refine lv_iconst (v := 1) hx hb dX11_kind_1 (by decide) ?_
  have hPc := hP.sub (ws' := (xW h0 a1 a2 cm)) [0, 1] rfl
  have hKc := hK.sub (tys' := [(cm, .object "CodeLayout$Machine")]) [0] rfl
  refine va_csq (va_runV (As := [.int 1]) (rest := []) ⟨hx, hb, hml, hown, hw⟩ (k_X11_latest l dC dI h0 a1 a2 cm 1) ⟨callB_of 1 hw (gdw (wl_1 (List.mem_of_getElem? (i := 7) rfl))) rfl rfl rfl (hw (Cond.initialized RX11) (wl_1 (List.mem_of_getElem? (i := 8) rfl))) (hw (Cond.methodLink RX11 295 yX11_latest) (wl_1 (List.mem_of_getElem? (i := 9) rfl))) (by decide +kernel) ⟨Nat.le_of_ble_eq_true rfl, Nat.le_of_ble_eq_true rfl⟩, (hw (Cond.instanceMethod yX11_latest) (wl_1 (List.mem_of_getElem? (i := 10) rfl))), (hw (Cond.selects RX11 yX11_latest yX11_latest) (wl_1 (List.mem_of_getElem? (i := 11) rfl)))⟩ ⟨pR_blind, va_recv hKc hPc (ci := 10) (q0 := 0) rfl rfl, pR_of hPc hKc⟩ rfl rfl hl.1 rfl (lv_room (Nat.le_of_ble_eq_true rfl)) dX11_kind_2 ⟨Nat.zero_le _, Nat.zero_le _⟩).run (fun r_1 e_2 => ?_)
  subst e_2
  refine W.eq (g2 := F0 m 5 ls [.null]) rfl ?_
  refine lv_astore_nN (lv' := [(2, .null), (0, .ref h0), (1, .int p1)]) hx hb dX11_kind_5 rfl hl (by decide) rfl (fun ls hl => ?_)
  refine lv_aload_nN hx hb dX11_kind_6 rfl (lv_at hl 0 rfl) ?_
  refine lv_ifnonnullN hx hb dX11_kind_7 ?_
  refine lv_iconst (v := (-1)) hx hb dX11_kind_10 (by decide) ?_
  refine lv_goto (tgt := 19) hx hb dX11_kind_11 (by decide) ?_
  exact W.iret (v := (-1)) hx hb hr (fun t ht hW => ⟨(-1), rfl, rfl, ht⟩) (fun q h => absurd h List.not_mem_nil) dX11_kind_19
set_option maxHeartbeats 4000000 in
set_option maxRecDepth 100000 in
theorem k_X11_newer (l : Launch) (dC : Nat → ClassId) (dI : Nat → Nat → Nat) (h0 a1 a2 : Nat) (cm : ClassId) (p1 : Int32) : Met l yX11_newer (Cond.code yX11_newer cX11_newer 4 (some .long) :: bw) ({ frames := 1, cells := 0, slots := 0, locals := 21 }) (pR [.ref h0, .int p1] (dC, dI) (xW h0 a1 a2 cm) [(cm, .object "CodeLayout$Machine")]) (vp_Sl (fun r => r = 0)) 0 0 (fun _ => False) := by
  refine Met.ofW (cc := cX11_newer) (maxL := 4) (ret := (some .long)) (by decide) rfl ?_
  intro p e s m args below meth c s₁ B hml hv
  obtain ⟨rfl, hP, hK⟩ := hv
  have hx := B.exec
  have hb := B.bytes
  have hr := B.returns
  have hts := atoms_spec (ws := Cond.code yX11_newer cX11_newer 4 (some .long) :: bw) B.pre
  have hw : ∀ w ∈ bw, w.before _ s = true := fun w h => hts w (List.mem_cons_of_mem _ h)
  have hown : s.vm.findClass RX11 = some m.cls := findClass_of_methodNamed B.named
  have hl := lv_entry ([.ref h0, .int p1]) (n := 4) (Nat.le_of_ble_eq_true rfl)
  rw [lg_entry_eq]
  generalize (lg_sl ([.ref h0, .int p1]) ++ List.replicate (4 - (lg_sl ([.ref h0, .int p1])).length) Slot.unset).toArray = ls at hl ⊢
  have hl : lv_has ls 4 [(0, .ref h0), (1, .int p1)] := hl
  refine lv_aload_n hx hb dX11_newer_0 rfl (lv_at hl 0 rfl) ?_
  refine lv_iconst (v := 1) hx hb dX11_newer_1 (by decide) ?_
  have hPc := hP.sub (ws' := (xW h0 a1 a2 cm)) [0, 1] rfl
  have hKc := hK.sub (tys' := [(cm, .object "CodeLayout$Machine")]) [0] rfl
  refine va_csq (va_runV (As := [.int 1]) (rest := []) ⟨hx, hb, hml, hown, hw⟩ (k_X11_latest l dC dI h0 a1 a2 cm 1) ⟨callB_of 1 hw (gdw (wl_1 (List.mem_of_getElem? (i := 7) rfl))) rfl rfl rfl (hw (Cond.initialized RX11) (wl_1 (List.mem_of_getElem? (i := 8) rfl))) (hw (Cond.methodLink RX11 295 yX11_latest) (wl_1 (List.mem_of_getElem? (i := 9) rfl))) (by decide +kernel) ⟨Nat.le_of_ble_eq_true rfl, Nat.le_of_ble_eq_true rfl⟩, (hw (Cond.instanceMethod yX11_latest) (wl_1 (List.mem_of_getElem? (i := 10) rfl))), (hw (Cond.selects RX11 yX11_latest yX11_latest) (wl_1 (List.mem_of_getElem? (i := 11) rfl)))⟩ ⟨pR_blind, va_recv hKc hPc (ci := 10) (q0 := 0) rfl rfl, pR_of hPc hKc⟩ rfl rfl hl.1 rfl (lv_room (Nat.le_of_ble_eq_true rfl)) dX11_newer_2 ⟨Nat.zero_le _, Nat.zero_le _⟩).run (fun r_1 e_2 => ?_)
  subst e_2
  refine W.eq (g2 := F0 m 5 ls [.null]) rfl ?_
  refine lv_astore_nN (lv' := [(2, .null), (0, .ref h0), (1, .int p1)]) hx hb dX11_newer_5 rfl hl (by decide) rfl (fun ls hl => ?_)
  refine lv_aload_nN hx hb dX11_newer_6 rfl (lv_at hl 0 rfl) ?_
  refine lv_ifnonnullN hx hb dX11_newer_7 ?_
  refine lv_lconst (v := 0) hx hb dX11_newer_10 (by decide) ?_
  exact W.lret (v := 0) hx hb hr (fun t ht hW => ⟨0, rfl, rfl, ht⟩) (fun q h => absurd h List.not_mem_nil) dX11_newer_11
set_option maxHeartbeats 4000000 in
set_option maxRecDepth 100000 in
theorem k_X11_visit (l : Launch) (dC : Nat → ClassId) (dI : Nat → Nat → Nat) (h0 a1 a2 : Nat) (cm : ClassId) (p1 : Int32) (p2 : Int32) : Met l yX11_visit (Cond.code yX11_visit cX11_visit 4 (some .int) :: bw) ({ frames := 1, cells := 0, slots := 0, locals := 21 }) (pR [.ref h0, .int p1, .int p2] (dC, dI) (xW h0 a1 a2 cm) [(cm, .object "CodeLayout$Machine")]) (vp_Si (fun r => r = (-1))) 0 0 (fun _ => False) := by
  refine Met.ofW (cc := cX11_visit) (maxL := 4) (ret := (some .int)) (by decide) rfl ?_
  intro p e s m args below meth c s₁ B hml hv
  obtain ⟨rfl, hP, hK⟩ := hv
  have hx := B.exec
  have hb := B.bytes
  have hr := B.returns
  have hts := atoms_spec (ws := Cond.code yX11_visit cX11_visit 4 (some .int) :: bw) B.pre
  have hw : ∀ w ∈ bw, w.before _ s = true := fun w h => hts w (List.mem_cons_of_mem _ h)
  have hown : s.vm.findClass RX11 = some m.cls := findClass_of_methodNamed B.named
  have hl := lv_entry ([.ref h0, .int p1, .int p2]) (n := 4) (Nat.le_of_ble_eq_true rfl)
  rw [lg_entry_eq]
  generalize (lg_sl ([.ref h0, .int p1, .int p2]) ++ List.replicate (4 - (lg_sl ([.ref h0, .int p1, .int p2])).length) Slot.unset).toArray = ls at hl ⊢
  have hl : lv_has ls 4 [(0, .ref h0), (1, .int p1), (2, .int p2)] := hl
  refine lv_aload_n hx hb dX11_visit_0 rfl (lv_at hl 0 rfl) ?_
  refine lv_iload_n hx hb dX11_visit_1 rfl (lv_at hl 1 rfl) ?_
  have hPc := hP.sub (ws' := (xW h0 a1 a2 cm)) [0, 1] rfl
  have hKc := hK.sub (tys' := [(cm, .object "CodeLayout$Machine")]) [0] rfl
  refine va_csq (va_runV (As := [.int p1]) (rest := []) ⟨hx, hb, hml, hown, hw⟩ (k_X11_latest l dC dI h0 a1 a2 cm p1) ⟨callB_of 1 hw (gdw (wl_1 (List.mem_of_getElem? (i := 7) rfl))) rfl rfl rfl (hw (Cond.initialized RX11) (wl_1 (List.mem_of_getElem? (i := 8) rfl))) (hw (Cond.methodLink RX11 295 yX11_latest) (wl_1 (List.mem_of_getElem? (i := 9) rfl))) (by decide +kernel) ⟨Nat.le_of_ble_eq_true rfl, Nat.le_of_ble_eq_true rfl⟩, (hw (Cond.instanceMethod yX11_latest) (wl_1 (List.mem_of_getElem? (i := 10) rfl))), (hw (Cond.selects RX11 yX11_latest yX11_latest) (wl_1 (List.mem_of_getElem? (i := 11) rfl)))⟩ ⟨pR_blind, va_recv hKc hPc (ci := 10) (q0 := 0) rfl rfl, pR_of hPc hKc⟩ rfl rfl hl.1 rfl (lv_room (Nat.le_of_ble_eq_true rfl)) dX11_visit_2 ⟨Nat.zero_le _, Nat.zero_le _⟩).run (fun r_1 e_2 => ?_)
  subst e_2
  refine W.eq (g2 := F0 m 5 ls [.null]) rfl ?_
  refine lv_astore_nN (lv' := [(3, .null), (0, .ref h0), (1, .int p1), (2, .int p2)]) hx hb dX11_visit_5 rfl hl (by decide) rfl (fun ls hl => ?_)
  refine lv_aload_nN hx hb dX11_visit_6 rfl (lv_at hl 0 rfl) ?_
  refine lv_ifnonnullN hx hb dX11_visit_7 ?_
  refine lv_iconst (v := (-1)) hx hb dX11_visit_10 (by decide) ?_
  refine lv_goto (tgt := 19) hx hb dX11_visit_11 (by decide) ?_
  exact W.iret (v := (-1)) hx hb hr (fun t ht hW => ⟨(-1), rfl, rfl, ht⟩) (fun q h => absurd h List.not_mem_nil) dX11_visit_19
set_option maxHeartbeats 4000000 in
set_option maxRecDepth 100000 in
theorem k_X11_memory (l : Launch) (dC : Nat → ClassId) (dI : Nat → Nat → Nat) (h0 a1 a2 : Nat) (cm : ClassId) (p1 : Int32) (p2 : Int64) : Met l yX11_memory (Cond.code yX11_memory cX11_memory 5 (some .int) :: bw) ({ frames := 1, cells := 0, slots := 0, locals := 21 }) (pR [.ref h0, .int p1, .long p2] (dC, dI) (xW h0 a1 a2 cm) [(cm, .object "CodeLayout$Machine")]) (vp_Si (fun r => r = (-1))) 0 0 (fun _ => False) := by
  refine Met.ofW (cc := cX11_memory) (maxL := 5) (ret := (some .int)) (by decide) rfl ?_
  intro p e s m args below meth c s₁ B hml hv
  obtain ⟨rfl, hP, hK⟩ := hv
  have hx := B.exec
  have hb := B.bytes
  have hr := B.returns
  have hts := atoms_spec (ws := Cond.code yX11_memory cX11_memory 5 (some .int) :: bw) B.pre
  have hw : ∀ w ∈ bw, w.before _ s = true := fun w h => hts w (List.mem_cons_of_mem _ h)
  have hown : s.vm.findClass RX11 = some m.cls := findClass_of_methodNamed B.named
  have hl := lv_entry ([.ref h0, .int p1, .long p2]) (n := 5) (Nat.le_of_ble_eq_true rfl)
  rw [lg_entry_eq]
  generalize (lg_sl ([.ref h0, .int p1, .long p2]) ++ List.replicate (5 - (lg_sl ([.ref h0, .int p1, .long p2])).length) Slot.unset).toArray = ls at hl ⊢
  have hl : lv_has ls 5 [(0, .ref h0), (1, .int p1), (2, .long p2)] := hl
  refine lv_aload_n hx hb dX11_memory_0 rfl (lv_at hl 0 rfl) ?_
  refine lv_iload_n hx hb dX11_memory_1 rfl (lv_at hl 1 rfl) ?_
  have hPc := hP.sub (ws' := (xW h0 a1 a2 cm)) [0, 1] rfl
  have hKc := hK.sub (tys' := [(cm, .object "CodeLayout$Machine")]) [0] rfl
  refine va_csq (va_runV (As := [.int p1]) (rest := []) ⟨hx, hb, hml, hown, hw⟩ (k_X11_latest l dC dI h0 a1 a2 cm p1) ⟨callB_of 1 hw (gdw (wl_1 (List.mem_of_getElem? (i := 7) rfl))) rfl rfl rfl (hw (Cond.initialized RX11) (wl_1 (List.mem_of_getElem? (i := 8) rfl))) (hw (Cond.methodLink RX11 295 yX11_latest) (wl_1 (List.mem_of_getElem? (i := 9) rfl))) (by decide +kernel) ⟨Nat.le_of_ble_eq_true rfl, Nat.le_of_ble_eq_true rfl⟩, (hw (Cond.instanceMethod yX11_latest) (wl_1 (List.mem_of_getElem? (i := 10) rfl))), (hw (Cond.selects RX11 yX11_latest yX11_latest) (wl_1 (List.mem_of_getElem? (i := 11) rfl)))⟩ ⟨pR_blind, va_recv hKc hPc (ci := 10) (q0 := 0) rfl rfl, pR_of hPc hKc⟩ rfl rfl hl.1 rfl (lv_room (Nat.le_of_ble_eq_true rfl)) dX11_memory_2 ⟨Nat.zero_le _, Nat.zero_le _⟩).run (fun r_1 e_2 => ?_)
  subst e_2
  refine W.eq (g2 := F0 m 5 ls [.null]) rfl ?_
  refine lv_astoreN (lv' := [(4, .null), (0, .ref h0), (1, .int p1), (2, .long p2)]) hx hb dX11_memory_5 hl (by decide) rfl (fun ls hl => ?_)
  refine lv_aloadN hx hb dX11_memory_7 (lv_at hl 0 rfl) ?_
  refine lv_ifnonnullN hx hb dX11_memory_9 ?_
  refine lv_iconst (v := (-1)) hx hb dX11_memory_12 (by decide) ?_
  refine lv_goto (tgt := 25) hx hb dX11_memory_13 (by decide) ?_
  exact W.iret (v := (-1)) hx hb hr (fun t ht hW => ⟨(-1), rfl, rfl, ht⟩) (fun q h => absurd h List.not_mem_nil) dX11_memory_25
set_option maxHeartbeats 4000000 in
set_option maxRecDepth 100000 in
theorem k_X11_keeps (l : Launch) (dC : Nat → ClassId) (dI : Nat → Nat → Nat) (h0 a1 a2 : Nat) (cm : ClassId) (p1 : Int64) : Met l yX11_keeps (Cond.code yX11_keeps cX11_keeps 4 (some .int) :: bw) ({ frames := 1, cells := 0, slots := 0, locals := 21 }) (pR [.ref h0, .long p1] (dC, dI) (xW h0 a1 a2 cm) [(cm, .object "CodeLayout$Machine")]) (vp_Si (fun r => r = (-1))) 0 0 (fun _ => False) := by
  refine Met.ofW (cc := cX11_keeps) (maxL := 4) (ret := (some .int)) (by decide) rfl ?_
  intro p e s m args below meth c s₁ B hml hv
  obtain ⟨rfl, hP, hK⟩ := hv
  have hx := B.exec
  have hb := B.bytes
  have hr := B.returns
  have hts := atoms_spec (ws := Cond.code yX11_keeps cX11_keeps 4 (some .int) :: bw) B.pre
  have hw : ∀ w ∈ bw, w.before _ s = true := fun w h => hts w (List.mem_cons_of_mem _ h)
  have hown : s.vm.findClass RX11 = some m.cls := findClass_of_methodNamed B.named
  have hl := lv_entry ([.ref h0, .long p1]) (n := 4) (Nat.le_of_ble_eq_true rfl)
  rw [lg_entry_eq]
  generalize (lg_sl ([.ref h0, .long p1]) ++ List.replicate (4 - (lg_sl ([.ref h0, .long p1])).length) Slot.unset).toArray = ls at hl ⊢
  have hl : lv_has ls 4 [(0, .ref h0), (1, .long p1)] := hl
  refine lv_aload_n hx hb dX11_keeps_0 rfl (lv_at hl 0 rfl) ?_
  refine lv_iconst (v := 1) hx hb dX11_keeps_1 (by decide) ?_
  have hPc := hP.sub (ws' := (xW h0 a1 a2 cm)) [0, 1] rfl
  have hKc := hK.sub (tys' := [(cm, .object "CodeLayout$Machine")]) [0] rfl
  refine va_csq (va_runV (As := [.int 1]) (rest := []) ⟨hx, hb, hml, hown, hw⟩ (k_X11_latest l dC dI h0 a1 a2 cm 1) ⟨callB_of 1 hw (gdw (wl_1 (List.mem_of_getElem? (i := 7) rfl))) rfl rfl rfl (hw (Cond.initialized RX11) (wl_1 (List.mem_of_getElem? (i := 8) rfl))) (hw (Cond.methodLink RX11 295 yX11_latest) (wl_1 (List.mem_of_getElem? (i := 9) rfl))) (by decide +kernel) ⟨Nat.le_of_ble_eq_true rfl, Nat.le_of_ble_eq_true rfl⟩, (hw (Cond.instanceMethod yX11_latest) (wl_1 (List.mem_of_getElem? (i := 10) rfl))), (hw (Cond.selects RX11 yX11_latest yX11_latest) (wl_1 (List.mem_of_getElem? (i := 11) rfl)))⟩ ⟨pR_blind, va_recv hKc hPc (ci := 10) (q0 := 0) rfl rfl, pR_of hPc hKc⟩ rfl rfl hl.1 rfl (lv_room (Nat.le_of_ble_eq_true rfl)) dX11_keeps_2 ⟨Nat.zero_le _, Nat.zero_le _⟩).run (fun r_1 e_2 => ?_)
  subst e_2
  refine W.eq (g2 := F0 m 5 ls [.null]) rfl ?_
  refine lv_astore_nN (lv' := [(3, .null), (0, .ref h0), (1, .long p1)]) hx hb dX11_keeps_5 rfl hl (by decide) rfl (fun ls hl => ?_)
  refine lv_aload_nN hx hb dX11_keeps_6 rfl (lv_at hl 0 rfl) ?_
  refine lv_ifnullN (tgt := 20) hx hb dX11_keeps_7 (by decide) ?_
  refine lv_iconst (v := (-1)) hx hb dX11_keeps_20 (by decide) ?_
  exact W.iret (v := (-1)) hx hb hr (fun t ht hW => ⟨(-1), rfl, rfl, ht⟩) (fun q h => absurd h List.not_mem_nil) dX11_keeps_21
set_option maxHeartbeats 4000000 in
set_option maxRecDepth 100000 in
theorem k_X11_newest (l : Launch) (dC : Nat → ClassId) (dI : Nat → Nat → Nat) (h0 a1 a2 : Nat) (cm : ClassId) (p1 : Int64) : Met l yX11_newest (Cond.code yX11_newest cX11_newest 5 (some .long) :: bw) ({ frames := 2, cells := 0, slots := 0, locals := 44 }) (pR [.ref h0, .long p1] (dC, dI) (xW h0 a1 a2 cm) [(cm, .object "CodeLayout$Machine")]) (vp_Sl (fun r => r = 0)) 0 0 (fun _ => False) := by
  refine Met.ofW (cc := cX11_newest) (maxL := 5) (ret := (some .long)) (by decide) rfl ?_
  intro p e s m args below meth c s₁ B hml hv
  obtain ⟨rfl, hP, hK⟩ := hv
  have hx := B.exec
  have hb := B.bytes
  have hr := B.returns
  have hts := atoms_spec (ws := Cond.code yX11_newest cX11_newest 5 (some .long) :: bw) B.pre
  have hw : ∀ w ∈ bw, w.before _ s = true := fun w h => hts w (List.mem_cons_of_mem _ h)
  have hown : s.vm.findClass RX11 = some m.cls := findClass_of_methodNamed B.named
  have hl := lv_entry ([.ref h0, .long p1]) (n := 5) (Nat.le_of_ble_eq_true rfl)
  rw [lg_entry_eq]
  generalize (lg_sl ([.ref h0, .long p1]) ++ List.replicate (5 - (lg_sl ([.ref h0, .long p1])).length) Slot.unset).toArray = ls at hl ⊢
  have hl : lv_has ls 5 [(0, .ref h0), (1, .long p1)] := hl
  refine lv_aload_n hx hb dX11_newest_0 rfl (lv_at hl 0 rfl) ?_
  refine lv_iconst (v := 1) hx hb dX11_newest_1 (by decide) ?_
  have hPc := hP.sub (ws' := (xW h0 a1 a2 cm)) [0, 1] rfl
  have hKc := hK.sub (tys' := [(cm, .object "CodeLayout$Machine")]) [0] rfl
  refine va_csq (va_runV (As := [.int 1]) (rest := []) ⟨hx, hb, hml, hown, hw⟩ (k_X11_latest l dC dI h0 a1 a2 cm 1) ⟨callB_of 1 hw (gdw (wl_1 (List.mem_of_getElem? (i := 7) rfl))) rfl rfl rfl (hw (Cond.initialized RX11) (wl_1 (List.mem_of_getElem? (i := 8) rfl))) (hw (Cond.methodLink RX11 295 yX11_latest) (wl_1 (List.mem_of_getElem? (i := 9) rfl))) (by decide +kernel) ⟨Nat.le_of_ble_eq_true rfl, Nat.le_of_ble_eq_true rfl⟩, (hw (Cond.instanceMethod yX11_latest) (wl_1 (List.mem_of_getElem? (i := 10) rfl))), (hw (Cond.selects RX11 yX11_latest yX11_latest) (wl_1 (List.mem_of_getElem? (i := 11) rfl)))⟩ ⟨pR_blind, va_recv hKc hPc (ci := 10) (q0 := 0) rfl rfl, pR_of hPc hKc⟩ rfl rfl hl.1 rfl (lv_room (Nat.le_of_ble_eq_true rfl)) dX11_newest_2 ⟨Nat.zero_le _, Nat.zero_le _⟩).run (fun r_1 e_2 => ?_)
  subst e_2
  refine W.eq (g2 := F0 m 5 ls [.null]) rfl ?_
  refine lv_astore_nN (lv' := [(3, .null), (0, .ref h0), (1, .long p1)]) hx hb dX11_newest_5 rfl hl (by decide) rfl (fun ls hl => ?_)
  refine lv_aload_n hx hb dX11_newest_6 rfl (lv_at hl 1 rfl) ?_
  refine lv_lload_n hx hb dX11_newest_7 rfl (lv_at hl 2 rfl) ?_
  have hPc := hP.sub (ws' := (xW h0 a1 a2 cm)) [0, 1] rfl
  have hKc := hK.sub (tys' := [(cm, .object "CodeLayout$Machine")]) [0] rfl
  refine vp_callSi (va_runV (As := [.long p1]) (rest := []) ⟨hx, hb, hml, hown, hw⟩ (k_X11_keeps l dC dI h0 a1 a2 cm p1) ⟨callB_of 1 hw (gdw (wl_1 (List.mem_of_getElem? (i := 12) rfl))) rfl rfl rfl (hw (Cond.initialized RX11) (wl_1 (List.mem_of_getElem? (i := 8) rfl))) (hw (Cond.methodLink RX11 344 yX11_keeps) (wl_1 (List.mem_of_getElem? (i := 13) rfl))) (by decide +kernel) ⟨Nat.le_of_ble_eq_true rfl, Nat.le_of_ble_eq_true rfl⟩, (hw (Cond.instanceMethod yX11_keeps) (wl_1 (List.mem_of_getElem? (i := 14) rfl))), (hw (Cond.selects RX11 yX11_keeps yX11_keeps) (wl_1 (List.mem_of_getElem? (i := 15) rfl)))⟩ ⟨pR_blind, va_recv hKc hPc (ci := 10) (q0 := 0) rfl rfl, pR_of hPc hKc⟩ rfl rfl hl.1 rfl (lv_room (Nat.le_of_ble_eq_true rfl)) dX11_newest_8 ⟨Nat.zero_le _, Nat.zero_le _⟩).run (fun r_3 e_4 => ?_)
  subst e_4
  refine lv_istore (lv' := [(4, .int ((-1))), (3, .null), (0, .ref h0), (1, .long p1)]) hx hb dX11_newest_11 hl (by decide) rfl (fun ls hl => ?_)
  refine lv_aload_nN hx hb dX11_newest_13 rfl (lv_at hl 1 rfl) ?_
  refine lv_ifnullN (tgt := 22) hx hb dX11_newest_14 (by decide) ?_
  refine lv_lconst (v := 0) hx hb dX11_newest_22 (by decide) ?_
  exact W.lret (v := 0) hx hb hr (fun t ht hW => ⟨0, rfl, rfl, ht⟩) (fun q h => absurd h List.not_mem_nil) dX11_newest_23
set_option maxHeartbeats 4000000 in
set_option maxRecDepth 100000 in
theorem k_X11_trace (l : Launch) (dC : Nat → ClassId) (dI : Nat → Nat → Nat) (h0 a1 a2 : Nat) (cm : ClassId) (p1 : Int32) (p2 : Int32) (p3 : Int32) : Met l yX11_trace (Cond.code yX11_trace cX11_trace 5 (some .long) :: bw) ({ frames := 1, cells := 0, slots := 0, locals := 21 }) (pR [.ref h0, .int p1, .int p2, .int p3] (dC, dI) (xW h0 a1 a2 cm) [(cm, .object "CodeLayout$Machine")]) (vp_Sl (fun r => r = 0)) 0 0 (fun _ => False) := by
  refine Met.ofW (cc := cX11_trace) (maxL := 5) (ret := (some .long)) (by decide) rfl ?_
  intro p e s m args below meth c s₁ B hml hv
  obtain ⟨rfl, hP, hK⟩ := hv
  have hx := B.exec
  have hb := B.bytes
  have hr := B.returns
  have hts := atoms_spec (ws := Cond.code yX11_trace cX11_trace 5 (some .long) :: bw) B.pre
  have hw : ∀ w ∈ bw, w.before _ s = true := fun w h => hts w (List.mem_cons_of_mem _ h)
  have hown : s.vm.findClass RX11 = some m.cls := findClass_of_methodNamed B.named
  have hl := lv_entry ([.ref h0, .int p1, .int p2, .int p3]) (n := 5) (Nat.le_of_ble_eq_true rfl)
  rw [lg_entry_eq]
  generalize (lg_sl ([.ref h0, .int p1, .int p2, .int p3]) ++ List.replicate (5 - (lg_sl ([.ref h0, .int p1, .int p2, .int p3])).length) Slot.unset).toArray = ls at hl ⊢
  have hl : lv_has ls 5 [(0, .ref h0), (1, .int p1), (2, .int p2), (3, .int p3)] := hl
  refine lv_aload_n hx hb dX11_trace_0 rfl (lv_at hl 0 rfl) ?_
  refine lv_iload_n hx hb dX11_trace_1 rfl (lv_at hl 1 rfl) ?_
  have hPc := hP.sub (ws' := (xW h0 a1 a2 cm)) [0, 1] rfl
  have hKc := hK.sub (tys' := [(cm, .object "CodeLayout$Machine")]) [0] rfl
  refine va_csq (va_runV (As := [.int p1]) (rest := []) ⟨hx, hb, hml, hown, hw⟩ (k_X11_latest l dC dI h0 a1 a2 cm p1) ⟨callB_of 1 hw (gdw (wl_1 (List.mem_of_getElem? (i := 7) rfl))) rfl rfl rfl (hw (Cond.initialized RX11) (wl_1 (List.mem_of_getElem? (i := 8) rfl))) (hw (Cond.methodLink RX11 295 yX11_latest) (wl_1 (List.mem_of_getElem? (i := 9) rfl))) (by decide +kernel) ⟨Nat.le_of_ble_eq_true rfl, Nat.le_of_ble_eq_true rfl⟩, (hw (Cond.instanceMethod yX11_latest) (wl_1 (List.mem_of_getElem? (i := 10) rfl))), (hw (Cond.selects RX11 yX11_latest yX11_latest) (wl_1 (List.mem_of_getElem? (i := 11) rfl)))⟩ ⟨pR_blind, va_recv hKc hPc (ci := 10) (q0 := 0) rfl rfl, pR_of hPc hKc⟩ rfl rfl hl.1 rfl (lv_room (Nat.le_of_ble_eq_true rfl)) dX11_trace_2 ⟨Nat.zero_le _, Nat.zero_le _⟩).run (fun r_1 e_2 => ?_)
  subst e_2
  refine W.eq (g2 := F0 m 5 ls [.null]) rfl ?_
  refine lv_astoreN (lv' := [(4, .null), (0, .ref h0), (1, .int p1), (2, .int p2), (3, .int p3)]) hx hb dX11_trace_5 hl (by decide) rfl (fun ls hl => ?_)
  refine lv_aloadN hx hb dX11_trace_7 (lv_at hl 0 rfl) ?_
  refine lv_ifnonnullN hx hb dX11_trace_9 ?_
  refine lv_lconst (v := 0) hx hb dX11_trace_12 (by decide) ?_
  refine lv_goto (tgt := 23) hx hb dX11_trace_13 (by decide) ?_
  exact W.lret (v := 0) hx hb hr (fun t ht hW => ⟨0, rfl, rfl, ht⟩) (fun q h => absurd h List.not_mem_nil) dX11_trace_23
set_option maxHeartbeats 4000000 in
set_option maxRecDepth 100000 in
theorem k_X11_text (l : Launch) (dC : Nat → ClassId) (dI : Nat → Nat → Nat) (h0 a1 a2 : Nat) (cm : ClassId) (p1 : Int32) (p2 : Int32) : Met l yX11_text (Cond.code yX11_text cX11_text 4 (some .int) :: bw) ({ frames := 1, cells := 0, slots := 0, locals := 21 }) (pR [.ref h0, .int p1, .int p2] (dC, dI) (xW h0 a1 a2 cm) [(cm, .object "CodeLayout$Machine")]) (vp_Si (fun r => r = (-1))) 0 0 (fun _ => False) := by
  refine Met.ofW (cc := cX11_text) (maxL := 4) (ret := (some .int)) (by decide) rfl ?_
  intro p e s m args below meth c s₁ B hml hv
  obtain ⟨rfl, hP, hK⟩ := hv
  have hx := B.exec
  have hb := B.bytes
  have hr := B.returns
  have hts := atoms_spec (ws := Cond.code yX11_text cX11_text 4 (some .int) :: bw) B.pre
  have hw : ∀ w ∈ bw, w.before _ s = true := fun w h => hts w (List.mem_cons_of_mem _ h)
  have hown : s.vm.findClass RX11 = some m.cls := findClass_of_methodNamed B.named
  have hl := lv_entry ([.ref h0, .int p1, .int p2]) (n := 4) (Nat.le_of_ble_eq_true rfl)
  rw [lg_entry_eq]
  generalize (lg_sl ([.ref h0, .int p1, .int p2]) ++ List.replicate (4 - (lg_sl ([.ref h0, .int p1, .int p2])).length) Slot.unset).toArray = ls at hl ⊢
  have hl : lv_has ls 4 [(0, .ref h0), (1, .int p1), (2, .int p2)] := hl
  refine lv_aload_n hx hb dX11_text_0 rfl (lv_at hl 0 rfl) ?_
  refine lv_iload_n hx hb dX11_text_1 rfl (lv_at hl 1 rfl) ?_
  have hPc := hP.sub (ws' := (xW h0 a1 a2 cm)) [0, 1] rfl
  have hKc := hK.sub (tys' := [(cm, .object "CodeLayout$Machine")]) [0] rfl
  refine va_csq (va_runV (As := [.int p1]) (rest := []) ⟨hx, hb, hml, hown, hw⟩ (k_X11_latest l dC dI h0 a1 a2 cm p1) ⟨callB_of 1 hw (gdw (wl_1 (List.mem_of_getElem? (i := 7) rfl))) rfl rfl rfl (hw (Cond.initialized RX11) (wl_1 (List.mem_of_getElem? (i := 8) rfl))) (hw (Cond.methodLink RX11 295 yX11_latest) (wl_1 (List.mem_of_getElem? (i := 9) rfl))) (by decide +kernel) ⟨Nat.le_of_ble_eq_true rfl, Nat.le_of_ble_eq_true rfl⟩, (hw (Cond.instanceMethod yX11_latest) (wl_1 (List.mem_of_getElem? (i := 10) rfl))), (hw (Cond.selects RX11 yX11_latest yX11_latest) (wl_1 (List.mem_of_getElem? (i := 11) rfl)))⟩ ⟨pR_blind, va_recv hKc hPc (ci := 10) (q0 := 0) rfl rfl, pR_of hPc hKc⟩ rfl rfl hl.1 rfl (lv_room (Nat.le_of_ble_eq_true rfl)) dX11_text_2 ⟨Nat.zero_le _, Nat.zero_le _⟩).run (fun r_1 e_2 => ?_)
  subst e_2
  refine W.eq (g2 := F0 m 5 ls [.null]) rfl ?_
  refine lv_astore_nN (lv' := [(3, .null), (0, .ref h0), (1, .int p1), (2, .int p2)]) hx hb dX11_text_5 rfl hl (by decide) rfl (fun ls hl => ?_)
  refine lv_aload_nN hx hb dX11_text_6 rfl (lv_at hl 0 rfl) ?_
  refine lv_ifnonnullN hx hb dX11_text_7 ?_
  refine lv_iconst (v := (-1)) hx hb dX11_text_10 (by decide) ?_
  refine lv_goto (tgt := 19) hx hb dX11_text_11 (by decide) ?_
  exact W.iret (v := (-1)) hx hb hr (fun t ht hW => ⟨(-1), rfl, rfl, ht⟩) (fun q h => absurd h List.not_mem_nil) dX11_text_19
set_option maxHeartbeats 4000000 in
set_option maxRecDepth 100000 in
theorem k_X11_strays (l : Launch) (dC : Nat → ClassId) (dI : Nat → Nat → Nat) (h0 a1 a2 : Nat) (cm : ClassId) : Met l yX11_strays (Cond.code yX11_strays cX11_strays 1 (some .int) :: bw) ({ frames := 0, cells := 0, slots := 0, locals := 0 }) (pR [.ref h0] (dC, dI) (xW h0 a1 a2 cm) [(cm, .object "CodeLayout$Machine")]) (vp_Si (fun r => r = 0)) 0 0 (fun _ => False) := by
  refine Met.ofW (cc := cX11_strays) (maxL := 1) (ret := (some .int)) (by decide) rfl ?_
  intro p e s m args below meth c s₁ B hml hv
  obtain ⟨rfl, hP, hK⟩ := hv
  have hx := B.exec
  have hb := B.bytes
  have hr := B.returns
  have hts := atoms_spec (ws := Cond.code yX11_strays cX11_strays 1 (some .int) :: bw) B.pre
  have hw : ∀ w ∈ bw, w.before _ s = true := fun w h => hts w (List.mem_cons_of_mem _ h)
  have hown : s.vm.findClass RX11 = some m.cls := findClass_of_methodNamed B.named
  have hl := lv_entry ([.ref h0]) (n := 1) (Nat.le_of_ble_eq_true rfl)
  rw [lg_entry_eq]
  generalize (lg_sl ([.ref h0]) ++ List.replicate (1 - (lg_sl ([.ref h0])).length) Slot.unset).toArray = ls at hl ⊢
  have hl : lv_has ls 1 [(0, .ref h0)] := hl
  refine lv_aload_n hx hb dX11_strays_0 rfl (lv_at hl 0 rfl) ?_
  refine va_get (D := (dC, dI)) (ci := 10) (v := .int 0) (C := RX11) (T := TX11) (N := 12) hx hb hw inlX11 hown hK hP 0 rfl rfl 10 (by decide) (hw (Cond.fieldLink RX11 226 "CodeLayout" "strayed" "I") (wl_1 (List.mem_of_getElem? (i := 16) rfl))) (fun _ h9 => h9) rfl dX11_strays_1 ?_
  exact W.iret (v := 0) hx hb hr (fun t ht hW => ⟨0, rfl, rfl, ht⟩) (fun q h => absurd h List.not_mem_nil) dX11_strays_4
set_option maxHeartbeats 4000000 in
set_option maxRecDepth 100000 in
theorem k_X15_runOf (l : Launch) (dC : Nat → ClassId) (dI : Nat → Nat → Nat) (h0 : Nat) (g b0 b1 b2 : Nat → Nat) (p1 : Int32) : Met l yX15_runOf (Cond.code yX15_runOf cX15_runOf 2 (some (.object "CodeLayoutModel$Run")) :: bw) ({ frames := 0, cells := 0, slots := 0, locals := 0 }) (pR [.ref h0, .int p1] (dC, dI) (mW h0 g b0 b1 b2) []) (va_Sq (fun r => r = some (g 61) ∨ r = some (g 62) ∨ r = some (g 63) ∨ r = none)) 0 0 (fun _ => False) := by
  refine Met.ofW (cc := cX15_runOf) (maxL := 2) (ret := (some (.object "CodeLayoutModel$Run"))) (by decide) rfl ?_
  intro p e s m args below meth c s₁ B hml hv
  obtain ⟨rfl, hP, hK⟩ := hv
  have hx := B.exec
  have hb := B.bytes
  have hr := B.returns
  have hts := atoms_spec (ws := Cond.code yX15_runOf cX15_runOf 2 (some (.object "CodeLayoutModel$Run")) :: bw) B.pre
  have hw : ∀ w ∈ bw, w.before _ s = true := fun w h => hts w (List.mem_cons_of_mem _ h)
  have hown : s.vm.findClass RX15 = some m.cls := findClass_of_methodNamed B.named
  have hl := lv_entry ([.ref h0, .int p1]) (n := 2) (Nat.le_of_ble_eq_true rfl)
  rw [lg_entry_eq]
  generalize (lg_sl ([.ref h0, .int p1]) ++ List.replicate (2 - (lg_sl ([.ref h0, .int p1])).length) Slot.unset).toArray = ls at hl ⊢
  have hl : lv_has ls 2 [(0, .ref h0), (1, .int p1)] := hl
  refine lv_iload_n hx hb dX15_runOf_0 rfl (lv_at hl 1 rfl) ?_
  refine lv_if_ne (tgt := 11) hx hb dX15_runOf_1 (by decide) (fun c_1 => ?_) (fun c_1 => ?_)
  · skip
    refine lv_iload_n hx hb dX15_runOf_11 rfl (lv_at hl 1 rfl) ?_
    refine lv_iconst (v := 1) hx hb dX15_runOf_12 (by decide) ?_
    refine lv_icmp_ne (tgt := 23) hx hb dX15_runOf_13 (by decide) (fun c_2 => ?_) (fun c_2 => ?_)
    · skip
      refine lv_iload_n hx hb dX15_runOf_23 rfl (lv_at hl 1 rfl) ?_
      refine lv_iconst (v := 2) hx hb dX15_runOf_24 (by decide) ?_
      refine lv_icmp_ne (tgt := 35) hx hb dX15_runOf_25 (by decide) (fun c_3 => ?_) (fun c_3 => ?_)
      · skip
        refine lv_null hx hb dX15_runOf_35 ?_
        exact W.aret (v := .null) hx hb hr (Or.inl ⟨_, rfl⟩) (Or.inl rfl) (fun t ht hW => ⟨none, rfl, Or.inr (Or.inr (Or.inr (rfl))), ht⟩) (fun q h => absurd h List.not_mem_nil) dX15_runOf_36
      · skip
        refine lv_aload_n hx hb dX15_runOf_28 rfl (lv_at hl 0 rfl) ?_
        refine va_get (D := (dC, dI)) (ci := 14) (v := .ref (g 63)) (C := RX15) (T := TX15) (N := 64) hx hb hw inlX15 hown hK hP 0 rfl rfl 63 (by decide) (hw (Cond.fieldLink RX15 175 "CodeLayoutModel" "run2" "LCodeLayoutModel$Run;") (wl_1 (List.mem_of_getElem? (i := 17) rfl))) (fun _ h9 => h9) rfl dX15_runOf_29 ?_
        refine lv_goto (tgt := 36) hx hb dX15_runOf_32 (by decide) ?_
        exact W.aret (v := .ref (g 63)) hx hb hr (Or.inl ⟨_, rfl⟩) (Or.inr ⟨_, rfl⟩) (fun t ht hW => ⟨some (g 63), rfl, Or.inr (Or.inr (Or.inl rfl)), ht⟩) (fun q h => absurd h List.not_mem_nil) dX15_runOf_36
    · skip
      refine lv_aload_n hx hb dX15_runOf_16 rfl (lv_at hl 0 rfl) ?_
      refine va_get (D := (dC, dI)) (ci := 14) (v := .ref (g 62)) (C := RX15) (T := TX15) (N := 64) hx hb hw inlX15 hown hK hP 0 rfl rfl 62 (by decide) (hw (Cond.fieldLink RX15 172 "CodeLayoutModel" "run1" "LCodeLayoutModel$Run;") (wl_1 (List.mem_of_getElem? (i := 18) rfl))) (fun _ h9 => h9) rfl dX15_runOf_17 ?_
      refine lv_goto (tgt := 36) hx hb dX15_runOf_20 (by decide) ?_
      exact W.aret (v := .ref (g 62)) hx hb hr (Or.inl ⟨_, rfl⟩) (Or.inr ⟨_, rfl⟩) (fun t ht hW => ⟨some (g 62), rfl, Or.inr (Or.inl rfl), ht⟩) (fun q h => absurd h List.not_mem_nil) dX15_runOf_36
  · skip
    refine lv_aload_n hx hb dX15_runOf_4 rfl (lv_at hl 0 rfl) ?_
    refine va_get (D := (dC, dI)) (ci := 14) (v := .ref (g 61)) (C := RX15) (T := TX15) (N := 64) hx hb hw inlX15 hown hK hP 0 rfl rfl 61 (by decide) (hw (Cond.fieldLink RX15 168 "CodeLayoutModel" "run0" "LCodeLayoutModel$Run;") (wl_1 (List.mem_of_getElem? (i := 19) rfl))) (fun _ h9 => h9) rfl dX15_runOf_5 ?_
    refine lv_goto (tgt := 36) hx hb dX15_runOf_8 (by decide) ?_
    exact W.aret (v := .ref (g 61)) hx hb hr (Or.inl ⟨_, rfl⟩) (Or.inr ⟨_, rfl⟩) (fun t ht hW => ⟨some (g 61), rfl, Or.inl rfl, ht⟩) (fun q h => absurd h List.not_mem_nil) dX15_runOf_36
set_option maxHeartbeats 4000000 in
set_option maxRecDepth 100000 in
theorem k_X15_known (l : Launch) (dC : Nat → ClassId) (dI : Nat → Nat → Nat) (h0 : Nat) (g b0 b1 b2 : Nat → Nat) (p1 : Int32) : Met l yX15_known (Cond.code yX15_known cX15_known 3 (some (.object "CodeLayoutModel$Run")) :: bw) ({ frames := 1, cells := 0, slots := 0, locals := 21 }) (pR [.ref h0, .int p1] (dC, dI) (mW h0 g b0 b1 b2) []) (va_Sq (fun r => r = none)) 0 0 (fun _ => False) := by
  refine Met.ofW (cc := cX15_known) (maxL := 3) (ret := (some (.object "CodeLayoutModel$Run"))) (by decide) rfl ?_
  intro p e s m args below meth c s₁ B hml hv
  obtain ⟨rfl, hP, hK⟩ := hv
  have hx := B.exec
  have hb := B.bytes
  have hr := B.returns
  have hts := atoms_spec (ws := Cond.code yX15_known cX15_known 3 (some (.object "CodeLayoutModel$Run")) :: bw) B.pre
  have hw : ∀ w ∈ bw, w.before _ s = true := fun w h => hts w (List.mem_cons_of_mem _ h)
  have hown : s.vm.findClass RX15 = some m.cls := findClass_of_methodNamed B.named
  have hl := lv_entry ([.ref h0, .int p1]) (n := 3) (Nat.le_of_ble_eq_true rfl)
  rw [lg_entry_eq]
  generalize (lg_sl ([.ref h0, .int p1]) ++ List.replicate (3 - (lg_sl ([.ref h0, .int p1])).length) Slot.unset).toArray = ls at hl ⊢
  have hl : lv_has ls 3 [(0, .ref h0), (1, .int p1)] := hl
  refine lv_aload_n hx hb dX15_known_0 rfl (lv_at hl 0 rfl) ?_
  refine lv_iload_n hx hb dX15_known_1 rfl (lv_at hl 1 rfl) ?_
  have hPc := hP.sub (ws' := (mW h0 g b0 b1 b2)) [0, 1, 2, 3] rfl
  have hKc := hK.sub (tys' := []) [] rfl
  refine va_csq (va_runV (As := [.int p1]) (rest := []) ⟨hx, hb, hml, hown, hw⟩ (k_X15_runOf l dC dI h0 g b0 b1 b2 p1) ⟨callB_of 1 hw (gdw (wl_1 (List.mem_of_getElem? (i := 20) rfl))) rfl rfl rfl (hw (Cond.initialized RX15) (wl_1 (List.mem_of_getElem? (i := 21) rfl))) (hw (Cond.methodLink RX15 587 yX15_runOf) (wl_1 (List.mem_of_getElem? (i := 22) rfl))) (by decide +kernel) ⟨Nat.le_of_ble_eq_true rfl, Nat.le_of_ble_eq_true rfl⟩, (hw (Cond.instanceMethod yX15_runOf) (wl_1 (List.mem_of_getElem? (i := 23) rfl))), (hw (Cond.selects RX15 yX15_runOf yX15_runOf) (wl_1 (List.mem_of_getElem? (i := 24) rfl)))⟩ ⟨pR_blind, va_recv hKc hPc (ci := 14) (q0 := 0) rfl rfl, pR_of hPc hKc⟩ rfl rfl hl.1 rfl (lv_room (Nat.le_of_ble_eq_true rfl)) dX15_known_2 ⟨Nat.zero_le _, Nat.zero_le _⟩).run (fun r_1 e_2 => ?_)
  rcases e_2 with rfl | rfl | rfl | rfl
  · refine W.eq (g2 := F0 m 5 ls [.ref (g 61)]) rfl ?_
    refine lv_astore_n (lv' := [(2, .ref (g 61)), (0, .ref h0), (1, .int p1)]) hx hb dX15_known_5 rfl hl (by decide) rfl (fun ls hl => ?_)
    refine lv_aload_n hx hb dX15_known_6 rfl (lv_at hl 0 rfl) ?_
    refine lv_ifnull hx hb dX15_known_7 ?_
    refine lv_aload_n hx hb dX15_known_10 rfl (lv_at hl 0 rfl) ?_
    refine va_get (D := (dC, dI)) (ci := 12) (v := .int 0) (C := RX13) (T := TX13) (N := 24) hx hb hw inlX13 hown hK hP 1 rfl rfl 2 (by decide) (hw (Cond.fieldLink RX15 584 "CodeLayoutModel$Run" "isThere" "Z") (wl_2 (List.mem_of_getElem? (i := 0) rfl))) (fun _ h9 => h9) rfl dX15_known_11 ?_
    refine lv_if_ne (tgt := 21) hx hb dX15_known_14 (by decide) (fun c_3 => absurd c_3 (by decide)) (fun c_3 => ?_)
    refine lv_null hx hb dX15_known_17 ?_
    refine lv_goto (tgt := 22) hx hb dX15_known_18 (by decide) ?_
    exact W.aret (v := .null) hx hb hr (Or.inl ⟨_, rfl⟩) (Or.inl rfl) (fun t ht hW => ⟨none, rfl, rfl, ht⟩) (fun q h => absurd h List.not_mem_nil) dX15_known_22
  · refine W.eq (g2 := F0 m 5 ls [.ref (g 62)]) rfl ?_
    refine lv_astore_n (lv' := [(2, .ref (g 62)), (0, .ref h0), (1, .int p1)]) hx hb dX15_known_5 rfl hl (by decide) rfl (fun ls hl => ?_)
    refine lv_aload_n hx hb dX15_known_6 rfl (lv_at hl 0 rfl) ?_
    refine lv_ifnull hx hb dX15_known_7 ?_
    refine lv_aload_n hx hb dX15_known_10 rfl (lv_at hl 0 rfl) ?_
    refine va_get (D := (dC, dI)) (ci := 12) (v := .int 0) (C := RX13) (T := TX13) (N := 24) hx hb hw inlX13 hown hK hP 2 rfl rfl 2 (by decide) (hw (Cond.fieldLink RX15 584 "CodeLayoutModel$Run" "isThere" "Z") (wl_2 (List.mem_of_getElem? (i := 0) rfl))) (fun _ h9 => h9) rfl dX15_known_11 ?_
    refine lv_if_ne (tgt := 21) hx hb dX15_known_14 (by decide) (fun c_4 => absurd c_4 (by decide)) (fun c_4 => ?_)
    refine lv_null hx hb dX15_known_17 ?_
    refine lv_goto (tgt := 22) hx hb dX15_known_18 (by decide) ?_
    exact W.aret (v := .null) hx hb hr (Or.inl ⟨_, rfl⟩) (Or.inl rfl) (fun t ht hW => ⟨none, rfl, rfl, ht⟩) (fun q h => absurd h List.not_mem_nil) dX15_known_22
  · refine W.eq (g2 := F0 m 5 ls [.ref (g 63)]) rfl ?_
    refine lv_astore_n (lv' := [(2, .ref (g 63)), (0, .ref h0), (1, .int p1)]) hx hb dX15_known_5 rfl hl (by decide) rfl (fun ls hl => ?_)
    refine lv_aload_n hx hb dX15_known_6 rfl (lv_at hl 0 rfl) ?_
    refine lv_ifnull hx hb dX15_known_7 ?_
    refine lv_aload_n hx hb dX15_known_10 rfl (lv_at hl 0 rfl) ?_
    refine va_get (D := (dC, dI)) (ci := 12) (v := .int 0) (C := RX13) (T := TX13) (N := 24) hx hb hw inlX13 hown hK hP 3 rfl rfl 2 (by decide) (hw (Cond.fieldLink RX15 584 "CodeLayoutModel$Run" "isThere" "Z") (wl_2 (List.mem_of_getElem? (i := 0) rfl))) (fun _ h9 => h9) rfl dX15_known_11 ?_
    refine lv_if_ne (tgt := 21) hx hb dX15_known_14 (by decide) (fun c_5 => absurd c_5 (by decide)) (fun c_5 => ?_)
    refine lv_null hx hb dX15_known_17 ?_
    refine lv_goto (tgt := 22) hx hb dX15_known_18 (by decide) ?_
    exact W.aret (v := .null) hx hb hr (Or.inl ⟨_, rfl⟩) (Or.inl rfl) (fun t ht hW => ⟨none, rfl, rfl, ht⟩) (fun q h => absurd h List.not_mem_nil) dX15_known_22
  · refine W.eq (g2 := F0 m 5 ls [.null]) rfl ?_
    refine lv_astore_nN (lv' := [(2, .null), (0, .ref h0), (1, .int p1)]) hx hb dX15_known_5 rfl hl (by decide) rfl (fun ls hl => ?_)
    refine lv_aload_nN hx hb dX15_known_6 rfl (lv_at hl 0 rfl) ?_
    refine lv_ifnullN (tgt := 17) hx hb dX15_known_7 (by decide) ?_
    refine lv_null hx hb dX15_known_17 ?_
    refine lv_goto (tgt := 22) hx hb dX15_known_18 (by decide) ?_
    exact W.aret (v := .null) hx hb hr (Or.inl ⟨_, rfl⟩) (Or.inl rfl) (fun t ht hW => ⟨none, rfl, rfl, ht⟩) (fun q h => absurd h List.not_mem_nil) dX15_known_22
set_option maxHeartbeats 4000000 in
set_option maxRecDepth 100000 in
theorem k_X15_wordAt (l : Launch) (dC : Nat → ClassId) (dI : Nat → Nat → Nat) (h0 : Nat) (g b0 b1 b2 : Nat → Nat) (p1 : Int64) : Met l yX15_wordAt (Cond.code yX15_wordAt cX15_wordAt 3 (some .int) :: bw) ({ frames := 0, cells := 0, slots := 0, locals := 0 }) (pR [.ref h0, .long p1] (dC, dI) (mW h0 g b0 b1 b2) []) (vp_Si (fun r => r = (-1))) 0 0 (fun _ => False) := by
  refine Met.ofW (cc := cX15_wordAt) (maxL := 3) (ret := (some .int)) (by decide) rfl ?_
  intro p e s m args below meth c s₁ B hml hv
  obtain ⟨rfl, hP, hK⟩ := hv
  have hx := B.exec
  have hb := B.bytes
  have hr := B.returns
  have hts := atoms_spec (ws := Cond.code yX15_wordAt cX15_wordAt 3 (some .int) :: bw) B.pre
  have hw : ∀ w ∈ bw, w.before _ s = true := fun w h => hts w (List.mem_cons_of_mem _ h)
  have hown : s.vm.findClass RX15 = some m.cls := findClass_of_methodNamed B.named
  have hl := lv_entry ([.ref h0, .long p1]) (n := 3) (Nat.le_of_ble_eq_true rfl)
  rw [lg_entry_eq]
  generalize (lg_sl ([.ref h0, .long p1]) ++ List.replicate (3 - (lg_sl ([.ref h0, .long p1])).length) Slot.unset).toArray = ls at hl ⊢
  have hl : lv_has ls 3 [(0, .ref h0), (1, .long p1)] := hl
  refine lv_aload_n hx hb dX15_wordAt_0 rfl (lv_at hl 0 rfl) ?_
  refine va_get (D := (dC, dI)) (ci := 14) (v := .int 0) (C := RX15) (T := TX15) (N := 64) hx hb hw inlX15 hown hK hP 0 rfl rfl 7 (by decide) (hw (Cond.fieldLink RX15 265 "CodeLayoutModel" "isRead" "Z") (wl_1 (List.mem_of_getElem? (i := 1) rfl))) (fun _ h9 => h9) rfl dX15_wordAt_1 ?_
  refine lv_if_eq (tgt := 40) hx hb dX15_wordAt_4 (by decide) (fun c_1 => ?_) (fun c_1 => absurd c_1 (by decide))
  refine lv_iconst (v := (-1)) hx hb dX15_wordAt_40 (by decide) ?_
  exact W.iret (v := (-1)) hx hb hr (fun t ht hW => ⟨(-1), rfl, rfl, ht⟩) (fun q h => absurd h List.not_mem_nil) dX15_wordAt_41
set_option maxHeartbeats 4000000 in
set_option maxRecDepth 100000 in
theorem k_X15_place (l : Launch) (dC : Nat → ClassId) (dI : Nat → Nat → Nat) (h0 : Nat) (g b0 b1 b2 : Nat → Nat) : Met l yX15_place (Cond.code yX15_place cX15_place 1 (some .int) :: bw) ({ frames := 0, cells := 0, slots := 0, locals := 0 }) (pR [.ref h0] (dC, dI) (mW h0 g b0 b1 b2) []) (vp_Si (fun r => r = (-1))) 0 0 (fun _ => False) := by
  refine Met.ofW (cc := cX15_place) (maxL := 1) (ret := (some .int)) (by decide) rfl ?_
  intro p e s m args below meth c s₁ B hml hv
  obtain ⟨rfl, hP, hK⟩ := hv
  have hx := B.exec
  have hb := B.bytes
  have hr := B.returns
  have hts := atoms_spec (ws := Cond.code yX15_place cX15_place 1 (some .int) :: bw) B.pre
  have hw : ∀ w ∈ bw, w.before _ s = true := fun w h => hts w (List.mem_cons_of_mem _ h)
  have hown : s.vm.findClass RX15 = some m.cls := findClass_of_methodNamed B.named
  have hl := lv_entry ([.ref h0]) (n := 1) (Nat.le_of_ble_eq_true rfl)
  rw [lg_entry_eq]
  generalize (lg_sl ([.ref h0]) ++ List.replicate (1 - (lg_sl ([.ref h0])).length) Slot.unset).toArray = ls at hl ⊢
  have hl : lv_has ls 1 [(0, .ref h0)] := hl
  refine lv_aload_n hx hb dX15_place_0 rfl (lv_at hl 0 rfl) ?_
  refine va_get (D := (dC, dI)) (ci := 14) (v := .long ((-1))) (C := RX15) (T := TX15) (N := 64) hx hb hw inlX15 hown hK hP 0 rfl rfl 14 (by decide) (hw (Cond.fieldLink RX15 32 "CodeLayoutModel" "place" "J") (wl_2 (List.mem_of_getElem? (i := 1) rfl))) (fun _ h9 => h9) rfl dX15_place_1 ?_
  refine lv_l2i (v := (-1)) hx hb dX15_place_4 (by decide) ?_
  exact W.iret (v := (-1)) hx hb hr (fun t ht hW => ⟨(-1), rfl, rfl, ht⟩) (fun q h => absurd h List.not_mem_nil) dX15_place_5
set_option maxHeartbeats 4000000 in
set_option maxRecDepth 100000 in
theorem k_X15_function (l : Launch) (dC : Nat → ClassId) (dI : Nat → Nat → Nat) (h0 : Nat) (g b0 b1 b2 : Nat → Nat) (p1 : Int32) (p2 : Int32) : Met l yX15_function (Cond.code yX15_function cX15_function 3 (some .long) :: bw) ({ frames := 0, cells := 0, slots := 0, locals := 0 }) (pR [.ref h0, .int p1, .int p2] (dC, dI) (mW h0 g b0 b1 b2) []) (vp_Sl (fun r => r = (-14))) 0 0 (fun _ => False) := by
  refine Met.ofW (cc := cX15_function) (maxL := 3) (ret := (some .long)) (by decide) rfl ?_
  intro p e s m args below meth c s₁ B hml hv
  obtain ⟨rfl, hP, hK⟩ := hv
  have hx := B.exec
  have hb := B.bytes
  have hr := B.returns
  have hts := atoms_spec (ws := Cond.code yX15_function cX15_function 3 (some .long) :: bw) B.pre
  have hw : ∀ w ∈ bw, w.before _ s = true := fun w h => hts w (List.mem_cons_of_mem _ h)
  have hown : s.vm.findClass RX15 = some m.cls := findClass_of_methodNamed B.named
  have hl := lv_entry ([.ref h0, .int p1, .int p2]) (n := 3) (Nat.le_of_ble_eq_true rfl)
  rw [lg_entry_eq]
  generalize (lg_sl ([.ref h0, .int p1, .int p2]) ++ List.replicate (3 - (lg_sl ([.ref h0, .int p1, .int p2])).length) Slot.unset).toArray = ls at hl ⊢
  have hl : lv_has ls 3 [(0, .ref h0), (1, .int p1), (2, .int p2)] := hl
  refine lv_aload_n hx hb dX15_function_0 rfl (lv_at hl 0 rfl) ?_
  refine va_get (D := (dC, dI)) (ci := 14) (v := .int 0) (C := RX15) (T := TX15) (N := 64) hx hb hw inlX15 hown hK hP 0 rfl rfl 7 (by decide) (hw (Cond.fieldLink RX15 265 "CodeLayoutModel" "isRead" "Z") (wl_1 (List.mem_of_getElem? (i := 1) rfl))) (fun _ h9 => h9) rfl dX15_function_1 ?_
  refine lv_if_eq (tgt := 28) hx hb dX15_function_4 (by decide) (fun c_1 => ?_) (fun c_1 => absurd c_1 (by decide))
  refine lv_ldc2 (own := RX15) (v := (-14)) hx hb hown (hw (Cond.constantLong RX15 408 (-14)) (wl_2 (List.mem_of_getElem? (i := 2) rfl))) dX15_function_28 ?_
  exact W.lret (v := (-14)) hx hb hr (fun t ht hW => ⟨(-14), rfl, rfl, ht⟩) (fun q h => absurd h List.not_mem_nil) dX15_function_31
set_option maxHeartbeats 4000000 in
set_option maxRecDepth 100000 in
theorem k_X15_block (l : Launch) (dC : Nat → ClassId) (dI : Nat → Nat → Nat) (h0 : Nat) (g b0 b1 b2 : Nat → Nat) (p1 : Int32) (p2 : Int32) : Met l yX15_block (Cond.code yX15_block cX15_block 3 (some .long) :: bw) ({ frames := 0, cells := 0, slots := 0, locals := 0 }) (pR [.ref h0, .int p1, .int p2] (dC, dI) (mW h0 g b0 b1 b2) []) (vp_Sl (fun r => r = (-14))) 0 0 (fun _ => False) := by
  refine Met.ofW (cc := cX15_block) (maxL := 3) (ret := (some .long)) (by decide) rfl ?_
  intro p e s m args below meth c s₁ B hml hv
  obtain ⟨rfl, hP, hK⟩ := hv
  have hx := B.exec
  have hb := B.bytes
  have hr := B.returns
  have hts := atoms_spec (ws := Cond.code yX15_block cX15_block 3 (some .long) :: bw) B.pre
  have hw : ∀ w ∈ bw, w.before _ s = true := fun w h => hts w (List.mem_cons_of_mem _ h)
  have hown : s.vm.findClass RX15 = some m.cls := findClass_of_methodNamed B.named
  have hl := lv_entry ([.ref h0, .int p1, .int p2]) (n := 3) (Nat.le_of_ble_eq_true rfl)
  rw [lg_entry_eq]
  generalize (lg_sl ([.ref h0, .int p1, .int p2]) ++ List.replicate (3 - (lg_sl ([.ref h0, .int p1, .int p2])).length) Slot.unset).toArray = ls at hl ⊢
  have hl : lv_has ls 3 [(0, .ref h0), (1, .int p1), (2, .int p2)] := hl
  refine lv_aload_n hx hb dX15_block_0 rfl (lv_at hl 0 rfl) ?_
  refine va_get (D := (dC, dI)) (ci := 14) (v := .int 0) (C := RX15) (T := TX15) (N := 64) hx hb hw inlX15 hown hK hP 0 rfl rfl 7 (by decide) (hw (Cond.fieldLink RX15 265 "CodeLayoutModel" "isRead" "Z") (wl_1 (List.mem_of_getElem? (i := 1) rfl))) (fun _ h9 => h9) rfl dX15_block_1 ?_
  refine lv_if_eq (tgt := 19) hx hb dX15_block_4 (by decide) (fun c_1 => ?_) (fun c_1 => absurd c_1 (by decide))
  refine lv_ldc2 (own := RX15) (v := (-14)) hx hb hown (hw (Cond.constantLong RX15 408 (-14)) (wl_2 (List.mem_of_getElem? (i := 2) rfl))) dX15_block_19 ?_
  exact W.lret (v := (-14)) hx hb hr (fun t ht hW => ⟨(-14), rfl, rfl, ht⟩) (fun q h => absurd h List.not_mem_nil) dX15_block_22
set_option maxHeartbeats 4000000 in
set_option maxRecDepth 100000 in
theorem k_X15_edge (l : Launch) (dC : Nat → ClassId) (dI : Nat → Nat → Nat) (h0 : Nat) (g b0 b1 b2 : Nat → Nat) (p1 : Int64) (p2 : Int64) (p3 : Int32) : Met l yX15_edge (Cond.code yX15_edge cX15_edge 12 (some .int) :: bw) ({ frames := 0, cells := 0, slots := 0, locals := 0 }) (pR [.ref h0, .long p1, .long p2, .int p3] (dC, dI) (mW h0 g b0 b1 b2) []) (vp_Si (fun r => r = (-14))) 0 0 (fun _ => False) := by
  refine Met.ofW (cc := cX15_edge) (maxL := 12) (ret := (some .int)) (by decide) rfl ?_
  intro p e s m args below meth c s₁ B hml hv
  obtain ⟨rfl, hP, hK⟩ := hv
  have hx := B.exec
  have hb := B.bytes
  have hr := B.returns
  have hts := atoms_spec (ws := Cond.code yX15_edge cX15_edge 12 (some .int) :: bw) B.pre
  have hw : ∀ w ∈ bw, w.before _ s = true := fun w h => hts w (List.mem_cons_of_mem _ h)
  have hown : s.vm.findClass RX15 = some m.cls := findClass_of_methodNamed B.named
  have hl := lv_entry ([.ref h0, .long p1, .long p2, .int p3]) (n := 12) (Nat.le_of_ble_eq_true rfl)
  rw [lg_entry_eq]
  generalize (lg_sl ([.ref h0, .long p1, .long p2, .int p3]) ++ List.replicate (12 - (lg_sl ([.ref h0, .long p1, .long p2, .int p3])).length) Slot.unset).toArray = ls at hl ⊢
  have hl : lv_has ls 12 [(0, .ref h0), (1, .long p1), (3, .long p2), (5, .int p3)] := hl
  refine lv_aload_n hx hb dX15_edge_0 rfl (lv_at hl 0 rfl) ?_
  refine va_get (D := (dC, dI)) (ci := 14) (v := .int 0) (C := RX15) (T := TX15) (N := 64) hx hb hw inlX15 hown hK hP 0 rfl rfl 7 (by decide) (hw (Cond.fieldLink RX15 265 "CodeLayoutModel" "isRead" "Z") (wl_1 (List.mem_of_getElem? (i := 1) rfl))) (fun _ h9 => h9) rfl dX15_edge_1 ?_
  refine lv_if_ne (tgt := 10) hx hb dX15_edge_4 (by decide) (fun c_1 => absurd c_1 (by decide)) (fun c_1 => ?_)
  refine lv_bipush (v := (-14)) hx hb dX15_edge_7 (by decide) ?_
  exact W.iret (v := (-14)) hx hb hr (fun t ht hW => ⟨(-14), rfl, rfl, ht⟩) (fun q h => absurd h List.not_mem_nil) dX15_edge_9
set_option maxHeartbeats 4000000 in
set_option maxRecDepth 100000 in
theorem k_X15_way (l : Launch) (dC : Nat → ClassId) (dI : Nat → Nat → Nat) (h0 : Nat) (g b0 b1 b2 : Nat → Nat) (p1 : Int32) (p2 : Int32) : Met l yX15_way (Cond.code yX15_way cX15_way 4 (some .long) :: bw) ({ frames := 0, cells := 0, slots := 0, locals := 0 }) (pR [.ref h0, .int p1, .int p2] (dC, dI) (mW h0 g b0 b1 b2) []) (vp_Sl (fun r => r = 0)) 0 0 (fun _ => False) := by
  refine Met.ofW (cc := cX15_way) (maxL := 4) (ret := (some .long)) (by decide) rfl ?_
  intro p e s m args below meth c s₁ B hml hv
  obtain ⟨rfl, hP, hK⟩ := hv
  have hx := B.exec
  have hb := B.bytes
  have hr := B.returns
  have hts := atoms_spec (ws := Cond.code yX15_way cX15_way 4 (some .long) :: bw) B.pre
  have hw : ∀ w ∈ bw, w.before _ s = true := fun w h => hts w (List.mem_cons_of_mem _ h)
  have hown : s.vm.findClass RX15 = some m.cls := findClass_of_methodNamed B.named
  have hl := lv_entry ([.ref h0, .int p1, .int p2]) (n := 4) (Nat.le_of_ble_eq_true rfl)
  rw [lg_entry_eq]
  generalize (lg_sl ([.ref h0, .int p1, .int p2]) ++ List.replicate (4 - (lg_sl ([.ref h0, .int p1, .int p2])).length) Slot.unset).toArray = ls at hl ⊢
  have hl : lv_has ls 4 [(0, .ref h0), (1, .int p1), (2, .int p2)] := hl
  refine lv_iconst (v := 0) hx hb dX15_way_0 (by decide) ?_
  refine lv_istore_n (lv' := [(3, .int 0), (0, .ref h0), (1, .int p1), (2, .int p2)]) hx hb dX15_way_1 rfl hl (by decide) rfl (fun ls hl => ?_)
  refine lv_iload_n hx hb dX15_way_2 rfl (lv_at hl 0 rfl) ?_
  refine lv_aload_n hx hb dX15_way_3 rfl (lv_at hl 1 rfl) ?_
  refine va_get (D := (dC, dI)) (ci := 14) (v := .int 0) (C := RX15) (T := TX15) (N := 64) hx hb hw inlX15 hown hK hP 0 rfl rfl 29 (by decide) (hw (Cond.fieldLink RX15 272 "CodeLayoutModel" "ways" "I") (wl_2 (List.mem_of_getElem? (i := 3) rfl))) (fun _ h9 => h9) rfl dX15_way_4 ?_
  refine lv_icmp_ge (tgt := 59) hx hb dX15_way_7 (by decide) (fun c_1 => ?_) (fun c_1 => absurd c_1 (by decide))
  refine lv_lconst (v := 0) hx hb dX15_way_59 (by decide) ?_
  exact W.lret (v := 0) hx hb hr (fun t ht hW => ⟨0, rfl, rfl, ht⟩) (fun q h => absurd h List.not_mem_nil) dX15_way_60
set_option maxHeartbeats 4000000 in
set_option maxRecDepth 100000 in
theorem k_X15_calls (l : Launch) (dC : Nat → ClassId) (dI : Nat → Nat → Nat) (h0 : Nat) (g b0 b1 b2 : Nat → Nat) (p1 : Int32) (p2 : Int32) : Met l yX15_calls (Cond.code yX15_calls cX15_calls 6 (some .long) :: bw) ({ frames := 0, cells := 0, slots := 0, locals := 0 }) (pR [.ref h0, .int p1, .int p2] (dC, dI) (mW h0 g b0 b1 b2) []) (vp_Sl (fun r => r = 0)) 0 0 (fun _ => False) := by
  refine Met.ofW (cc := cX15_calls) (maxL := 6) (ret := (some .long)) (by decide) rfl ?_
  intro p e s m args below meth c s₁ B hml hv
  obtain ⟨rfl, hP, hK⟩ := hv
  have hx := B.exec
  have hb := B.bytes
  have hr := B.returns
  have hts := atoms_spec (ws := Cond.code yX15_calls cX15_calls 6 (some .long) :: bw) B.pre
  have hw : ∀ w ∈ bw, w.before _ s = true := fun w h => hts w (List.mem_cons_of_mem _ h)
  have hown : s.vm.findClass RX15 = some m.cls := findClass_of_methodNamed B.named
  have hl := lv_entry ([.ref h0, .int p1, .int p2]) (n := 6) (Nat.le_of_ble_eq_true rfl)
  rw [lg_entry_eq]
  generalize (lg_sl ([.ref h0, .int p1, .int p2]) ++ List.replicate (6 - (lg_sl ([.ref h0, .int p1, .int p2])).length) Slot.unset).toArray = ls at hl ⊢
  have hl : lv_has ls 6 [(0, .ref h0), (1, .int p1), (2, .int p2)] := hl
  refine lv_lconst (v := 0) hx hb dX15_calls_0 (by decide) ?_
  refine lv_lstore_n (lv' := [(3, .long 0), (0, .ref h0), (1, .int p1), (2, .int p2)]) hx hb dX15_calls_1 rfl hl (by decide) rfl (fun ls hl => ?_)
  refine lv_iconst (v := 0) hx hb dX15_calls_2 (by decide) ?_
  refine lv_istore (lv' := [(5, .int 0), (3, .long 0), (0, .ref h0), (1, .int p1), (2, .int p2)]) hx hb dX15_calls_3 hl (by decide) rfl (fun ls hl => ?_)
  refine lv_iload hx hb dX15_calls_5 (lv_at hl 0 rfl) ?_
  refine lv_aload_n hx hb dX15_calls_7 rfl (lv_at hl 2 rfl) ?_
  refine va_get (D := (dC, dI)) (ci := 14) (v := .int 0) (C := RX15) (T := TX15) (N := 64) hx hb hw inlX15 hown hK hP 0 rfl rfl 29 (by decide) (hw (Cond.fieldLink RX15 272 "CodeLayoutModel" "ways" "I") (wl_2 (List.mem_of_getElem? (i := 3) rfl))) (fun _ h9 => h9) rfl dX15_calls_8 ?_
  refine lv_icmp_ge (tgt := 79) hx hb dX15_calls_11 (by decide) (fun c_1 => ?_) (fun c_1 => absurd c_1 (by decide))
  refine lv_lload_n hx hb dX15_calls_79 rfl (lv_at hl 1 rfl) ?_
  exact W.lret (v := 0) hx hb hr (fun t ht hW => ⟨0, rfl, rfl, ht⟩) (fun q h => absurd h List.not_mem_nil) dX15_calls_80
set_option maxHeartbeats 4000000 in
set_option maxRecDepth 100000 in
theorem k_X15_lay (l : Launch) (dC : Nat → ClassId) (dI : Nat → Nat → Nat) (h0 : Nat) (g b0 b1 b2 : Nat → Nat) (p1 : Int32) (p2 : Int32) : Met l yX15_lay (Cond.code yX15_lay cX15_lay 6 (some .int) :: bw) ({ frames := 0, cells := 0, slots := 0, locals := 0 }) (pR [.ref h0, .int p1, .int p2] (dC, dI) (mW h0 g b0 b1 b2) []) (vp_Si (fun r => r = (-14))) 0 0 (fun _ => False) := by
  refine Met.ofW (cc := cX15_lay) (maxL := 6) (ret := (some .int)) (by decide) rfl ?_
  intro p e s m args below meth c s₁ B hml hv
  obtain ⟨rfl, hP, hK⟩ := hv
  have hx := B.exec
  have hb := B.bytes
  have hr := B.returns
  have hts := atoms_spec (ws := Cond.code yX15_lay cX15_lay 6 (some .int) :: bw) B.pre
  have hw : ∀ w ∈ bw, w.before _ s = true := fun w h => hts w (List.mem_cons_of_mem _ h)
  have hown : s.vm.findClass RX15 = some m.cls := findClass_of_methodNamed B.named
  have hl := lv_entry ([.ref h0, .int p1, .int p2]) (n := 6) (Nat.le_of_ble_eq_true rfl)
  rw [lg_entry_eq]
  generalize (lg_sl ([.ref h0, .int p1, .int p2]) ++ List.replicate (6 - (lg_sl ([.ref h0, .int p1, .int p2])).length) Slot.unset).toArray = ls at hl ⊢
  have hl : lv_has ls 6 [(0, .ref h0), (1, .int p1), (2, .int p2)] := hl
  refine lv_aload_n hx hb dX15_lay_0 rfl (lv_at hl 0 rfl) ?_
  refine va_get (D := (dC, dI)) (ci := 14) (v := .int 0) (C := RX15) (T := TX15) (N := 64) hx hb hw inlX15 hown hK hP 0 rfl rfl 7 (by decide) (hw (Cond.fieldLink RX15 265 "CodeLayoutModel" "isRead" "Z") (wl_1 (List.mem_of_getElem? (i := 1) rfl))) (fun _ h9 => h9) rfl dX15_lay_1 ?_
  refine lv_if_ne (tgt := 10) hx hb dX15_lay_4 (by decide) (fun c_1 => absurd c_1 (by decide)) (fun c_1 => ?_)
  refine lv_bipush (v := (-14)) hx hb dX15_lay_7 (by decide) ?_
  exact W.iret (v := (-14)) hx hb hr (fun t ht hW => ⟨(-14), rfl, rfl, ht⟩) (fun q h => absurd h List.not_mem_nil) dX15_lay_9
set_option maxHeartbeats 4000000 in
set_option maxRecDepth 100000 in
theorem k_X15_order (l : Launch) (dC : Nat → ClassId) (dI : Nat → Nat → Nat) (h0 : Nat) (g b0 b1 b2 : Nat → Nat) (p1 : Int32) : Met l yX15_order (Cond.code yX15_order cX15_order 2 (some .int) :: bw) ({ frames := 0, cells := 0, slots := 0, locals := 0 }) (pR [.ref h0, .int p1] (dC, dI) (mW h0 g b0 b1 b2) []) (vp_Si (fun r => r = (-1))) 0 0 (fun _ => False) := by
  refine Met.ofW (cc := cX15_order) (maxL := 2) (ret := (some .int)) (by decide) rfl ?_
  intro p e s m args below meth c s₁ B hml hv
  obtain ⟨rfl, hP, hK⟩ := hv
  have hx := B.exec
  have hb := B.bytes
  have hr := B.returns
  have hts := atoms_spec (ws := Cond.code yX15_order cX15_order 2 (some .int) :: bw) B.pre
  have hw : ∀ w ∈ bw, w.before _ s = true := fun w h => hts w (List.mem_cons_of_mem _ h)
  have hown : s.vm.findClass RX15 = some m.cls := findClass_of_methodNamed B.named
  have hl := lv_entry ([.ref h0, .int p1]) (n := 2) (Nat.le_of_ble_eq_true rfl)
  rw [lg_entry_eq]
  generalize (lg_sl ([.ref h0, .int p1]) ++ List.replicate (2 - (lg_sl ([.ref h0, .int p1])).length) Slot.unset).toArray = ls at hl ⊢
  have hl : lv_has ls 2 [(0, .ref h0), (1, .int p1)] := hl
  refine lv_aload_n hx hb dX15_order_0 rfl (lv_at hl 0 rfl) ?_
  refine va_get (D := (dC, dI)) (ci := 14) (v := .int 0) (C := RX15) (T := TX15) (N := 64) hx hb hw inlX15 hown hK hP 0 rfl rfl 52 (by decide) (hw (Cond.fieldLink RX15 275 "CodeLayoutModel" "isLaid" "Z") (wl_2 (List.mem_of_getElem? (i := 4) rfl))) (fun _ h9 => h9) rfl dX15_order_1 ?_
  refine lv_if_eq (tgt := 31) hx hb dX15_order_4 (by decide) (fun c_1 => ?_) (fun c_1 => absurd c_1 (by decide))
  refine lv_iconst (v := (-1)) hx hb dX15_order_31 (by decide) ?_
  exact W.iret (v := (-1)) hx hb hr (fun t ht hW => ⟨(-1), rfl, rfl, ht⟩) (fun q h => absurd h List.not_mem_nil) dX15_order_32
set_option maxHeartbeats 4000000 in
set_option maxRecDepth 100000 in
theorem k_X15_laid (l : Launch) (dC : Nat → ClassId) (dI : Nat → Nat → Nat) (h0 : Nat) (g b0 b1 b2 : Nat → Nat) (p1 : Int32) : Met l yX15_laid (Cond.code yX15_laid cX15_laid 2 (some .int) :: bw) ({ frames := 0, cells := 0, slots := 0, locals := 0 }) (pR [.ref h0, .int p1] (dC, dI) (mW h0 g b0 b1 b2) []) (vp_Si (fun r => r = (-14))) 0 0 (fun _ => False) := by
  refine Met.ofW (cc := cX15_laid) (maxL := 2) (ret := (some .int)) (by decide) rfl ?_
  intro p e s m args below meth c s₁ B hml hv
  obtain ⟨rfl, hP, hK⟩ := hv
  have hx := B.exec
  have hb := B.bytes
  have hr := B.returns
  have hts := atoms_spec (ws := Cond.code yX15_laid cX15_laid 2 (some .int) :: bw) B.pre
  have hw : ∀ w ∈ bw, w.before _ s = true := fun w h => hts w (List.mem_cons_of_mem _ h)
  have hown : s.vm.findClass RX15 = some m.cls := findClass_of_methodNamed B.named
  have hl := lv_entry ([.ref h0, .int p1]) (n := 2) (Nat.le_of_ble_eq_true rfl)
  rw [lg_entry_eq]
  generalize (lg_sl ([.ref h0, .int p1]) ++ List.replicate (2 - (lg_sl ([.ref h0, .int p1])).length) Slot.unset).toArray = ls at hl ⊢
  have hl : lv_has ls 2 [(0, .ref h0), (1, .int p1)] := hl
  refine lv_aload_n hx hb dX15_laid_0 rfl (lv_at hl 0 rfl) ?_
  refine va_get (D := (dC, dI)) (ci := 14) (v := .int 0) (C := RX15) (T := TX15) (N := 64) hx hb hw inlX15 hown hK hP 0 rfl rfl 52 (by decide) (hw (Cond.fieldLink RX15 275 "CodeLayoutModel" "isLaid" "Z") (wl_2 (List.mem_of_getElem? (i := 4) rfl))) (fun _ h9 => h9) rfl dX15_laid_1 ?_
  refine lv_if_eq (tgt := 16) hx hb dX15_laid_4 (by decide) (fun c_1 => ?_) (fun c_1 => absurd c_1 (by decide))
  refine lv_bipush (v := (-14)) hx hb dX15_laid_16 (by decide) ?_
  exact W.iret (v := (-14)) hx hb hr (fun t ht hW => ⟨(-14), rfl, rfl, ht⟩) (fun q h => absurd h List.not_mem_nil) dX15_laid_18
set_option maxHeartbeats 4000000 in
set_option maxRecDepth 100000 in
theorem k_X15_weight (l : Launch) (dC : Nat → ClassId) (dI : Nat → Nat → Nat) (h0 : Nat) (g b0 b1 b2 : Nat → Nat) (p1 : Int32) (p2 : Int32) : Met l yX15_weight (Cond.code yX15_weight cX15_weight 3 (some .long) :: bw) ({ frames := 0, cells := 0, slots := 0, locals := 0 }) (pR [.ref h0, .int p1, .int p2] (dC, dI) (mW h0 g b0 b1 b2) []) (vp_Sl (fun r => r = (-14))) 0 0 (fun _ => False) := by
  refine Met.ofW (cc := cX15_weight) (maxL := 3) (ret := (some .long)) (by decide) rfl ?_
  intro p e s m args below meth c s₁ B hml hv
  obtain ⟨rfl, hP, hK⟩ := hv
  have hx := B.exec
  have hb := B.bytes
  have hr := B.returns
  have hts := atoms_spec (ws := Cond.code yX15_weight cX15_weight 3 (some .long) :: bw) B.pre
  have hw : ∀ w ∈ bw, w.before _ s = true := fun w h => hts w (List.mem_cons_of_mem _ h)
  have hown : s.vm.findClass RX15 = some m.cls := findClass_of_methodNamed B.named
  have hl := lv_entry ([.ref h0, .int p1, .int p2]) (n := 3) (Nat.le_of_ble_eq_true rfl)
  rw [lg_entry_eq]
  generalize (lg_sl ([.ref h0, .int p1, .int p2]) ++ List.replicate (3 - (lg_sl ([.ref h0, .int p1, .int p2])).length) Slot.unset).toArray = ls at hl ⊢
  have hl : lv_has ls 3 [(0, .ref h0), (1, .int p1), (2, .int p2)] := hl
  refine lv_aload_n hx hb dX15_weight_0 rfl (lv_at hl 0 rfl) ?_
  refine va_get (D := (dC, dI)) (ci := 14) (v := .int 0) (C := RX15) (T := TX15) (N := 64) hx hb hw inlX15 hown hK hP 0 rfl rfl 52 (by decide) (hw (Cond.fieldLink RX15 275 "CodeLayoutModel" "isLaid" "Z") (wl_2 (List.mem_of_getElem? (i := 4) rfl))) (fun _ h9 => h9) rfl dX15_weight_1 ?_
  refine lv_if_eq (tgt := 28) hx hb dX15_weight_4 (by decide) (fun c_1 => ?_) (fun c_1 => absurd c_1 (by decide))
  refine lv_ldc2 (own := RX15) (v := (-14)) hx hb hown (hw (Cond.constantLong RX15 408 (-14)) (wl_2 (List.mem_of_getElem? (i := 2) rfl))) dX15_weight_28 ?_
  exact W.lret (v := (-14)) hx hb hr (fun t ht hW => ⟨(-14), rfl, rfl, ht⟩) (fun q h => absurd h List.not_mem_nil) dX15_weight_31
set_option maxHeartbeats 4000000 in
set_option maxRecDepth 100000 in
theorem k_X15_moved (l : Launch) (dC : Nat → ClassId) (dI : Nat → Nat → Nat) (h0 : Nat) (g b0 b1 b2 : Nat → Nat) (p1 : Int64) : Met l yX15_moved (Cond.code yX15_moved cX15_moved 4 (some .long) :: bw) ({ frames := 1, cells := 0, slots := 0, locals := 22 }) (pR [.ref h0, .long p1] (dC, dI) (mW h0 g b0 b1 b2) []) (vp_Sl (fun r => r = (-14))) 0 0 (fun _ => False) := by
  refine Met.ofW (cc := cX15_moved) (maxL := 4) (ret := (some .long)) (by decide) rfl ?_
  intro p e s m args below meth c s₁ B hml hv
  obtain ⟨rfl, hP, hK⟩ := hv
  have hx := B.exec
  have hb := B.bytes
  have hr := B.returns
  have hts := atoms_spec (ws := Cond.code yX15_moved cX15_moved 4 (some .long) :: bw) B.pre
  have hw : ∀ w ∈ bw, w.before _ s = true := fun w h => hts w (List.mem_cons_of_mem _ h)
  have hown : s.vm.findClass RX15 = some m.cls := findClass_of_methodNamed B.named
  have hl := lv_entry ([.ref h0, .long p1]) (n := 4) (Nat.le_of_ble_eq_true rfl)
  rw [lg_entry_eq]
  generalize (lg_sl ([.ref h0, .long p1]) ++ List.replicate (4 - (lg_sl ([.ref h0, .long p1])).length) Slot.unset).toArray = ls at hl ⊢
  have hl : lv_has ls 4 [(0, .ref h0), (1, .long p1)] := hl
  refine lv_aload_n hx hb dX15_moved_0 rfl (lv_at hl 0 rfl) ?_
  refine lv_lload_n hx hb dX15_moved_1 rfl (lv_at hl 1 rfl) ?_
  have hPc := hP.sub (ws' := (mW h0 g b0 b1 b2)) [0, 1, 2, 3] rfl
  have hKc := hK.sub (tys' := []) [] rfl
  refine vp_callSi (va_runV (As := [.long p1]) (rest := []) ⟨hx, hb, hml, hown, hw⟩ (k_X15_wordAt l dC dI h0 g b0 b1 b2 p1) ⟨callB_of 1 hw (gdw (wl_2 (List.mem_of_getElem? (i := 5) rfl))) rfl rfl rfl (hw (Cond.initialized RX15) (wl_1 (List.mem_of_getElem? (i := 21) rfl))) (hw (Cond.methodLink RX15 423 yX15_wordAt) (wl_2 (List.mem_of_getElem? (i := 6) rfl))) (by decide +kernel) ⟨Nat.le_of_ble_eq_true rfl, Nat.le_of_ble_eq_true rfl⟩, (hw (Cond.instanceMethod yX15_wordAt) (wl_2 (List.mem_of_getElem? (i := 7) rfl))), (hw (Cond.selects RX15 yX15_wordAt yX15_wordAt) (wl_2 (List.mem_of_getElem? (i := 8) rfl)))⟩ ⟨pR_blind, va_recv hKc hPc (ci := 14) (q0 := 0) rfl rfl, pR_of hPc hKc⟩ rfl rfl hl.1 rfl (lv_room (Nat.le_of_ble_eq_true rfl)) dX15_moved_2 ⟨Nat.zero_le _, Nat.zero_le _⟩).run (fun r_1 e_2 => ?_)
  subst e_2
  refine lv_istore_n (lv' := [(3, .int ((-1))), (0, .ref h0), (1, .long p1)]) hx hb dX15_moved_5 rfl hl (by decide) rfl (fun ls hl => ?_)
  refine lv_aload_n hx hb dX15_moved_6 rfl (lv_at hl 1 rfl) ?_
  refine va_get (D := (dC, dI)) (ci := 14) (v := .int 0) (C := RX15) (T := TX15) (N := 64) hx hb hw inlX15 hown hK hP 0 rfl rfl 52 (by decide) (hw (Cond.fieldLink RX15 275 "CodeLayoutModel" "isLaid" "Z") (wl_2 (List.mem_of_getElem? (i := 4) rfl))) (fun _ h9 => h9) rfl dX15_moved_7 ?_
  refine lv_if_eq (tgt := 17) hx hb dX15_moved_10 (by decide) (fun c_3 => ?_) (fun c_3 => absurd c_3 (by decide))
  refine lv_ldc2 (own := RX15) (v := (-14)) hx hb hown (hw (Cond.constantLong RX15 408 (-14)) (wl_2 (List.mem_of_getElem? (i := 2) rfl))) dX15_moved_17 ?_
  refine lv_goto (tgt := 41) hx hb dX15_moved_20 (by decide) ?_
  exact W.lret (v := (-14)) hx hb hr (fun t ht hW => ⟨(-14), rfl, rfl, ht⟩) (fun q h => absurd h List.not_mem_nil) dX15_moved_41
set_option maxHeartbeats 4000000 in
set_option maxRecDepth 100000 in
theorem k_X15_size (l : Launch) (dC : Nat → ClassId) (dI : Nat → Nat → Nat) (h0 : Nat) (g b0 b1 b2 : Nat → Nat) : Met l yX15_size (Cond.code yX15_size cX15_size 1 (some .int) :: bw) ({ frames := 0, cells := 0, slots := 0, locals := 0 }) (pR [.ref h0] (dC, dI) (mW h0 g b0 b1 b2) []) (vp_Si (fun r => r = (-14))) 0 0 (fun _ => False) := by
  refine Met.ofW (cc := cX15_size) (maxL := 1) (ret := (some .int)) (by decide) rfl ?_
  intro p e s m args below meth c s₁ B hml hv
  obtain ⟨rfl, hP, hK⟩ := hv
  have hx := B.exec
  have hb := B.bytes
  have hr := B.returns
  have hts := atoms_spec (ws := Cond.code yX15_size cX15_size 1 (some .int) :: bw) B.pre
  have hw : ∀ w ∈ bw, w.before _ s = true := fun w h => hts w (List.mem_cons_of_mem _ h)
  have hown : s.vm.findClass RX15 = some m.cls := findClass_of_methodNamed B.named
  have hl := lv_entry ([.ref h0]) (n := 1) (Nat.le_of_ble_eq_true rfl)
  rw [lg_entry_eq]
  generalize (lg_sl ([.ref h0]) ++ List.replicate (1 - (lg_sl ([.ref h0])).length) Slot.unset).toArray = ls at hl ⊢
  have hl : lv_has ls 1 [(0, .ref h0)] := hl
  refine lv_aload_n hx hb dX15_size_0 rfl (lv_at hl 0 rfl) ?_
  refine va_get (D := (dC, dI)) (ci := 14) (v := .int 0) (C := RX15) (T := TX15) (N := 64) hx hb hw inlX15 hown hK hP 0 rfl rfl 52 (by decide) (hw (Cond.fieldLink RX15 275 "CodeLayoutModel" "isLaid" "Z") (wl_2 (List.mem_of_getElem? (i := 4) rfl))) (fun _ h9 => h9) rfl dX15_size_1 ?_
  refine lv_if_eq (tgt := 14) hx hb dX15_size_4 (by decide) (fun c_1 => ?_) (fun c_1 => absurd c_1 (by decide))
  refine lv_bipush (v := (-14)) hx hb dX15_size_14 (by decide) ?_
  exact W.iret (v := (-14)) hx hb hr (fun t ht hW => ⟨(-14), rfl, rfl, ht⟩) (fun q h => absurd h List.not_mem_nil) dX15_size_16
set_option maxHeartbeats 4000000 in
set_option maxRecDepth 100000 in
theorem k_X15_out (l : Launch) (dC : Nat → ClassId) (dI : Nat → Nat → Nat) (h0 : Nat) (g b0 b1 b2 : Nat → Nat) (p1 : Int32) : Met l yX15_out (Cond.code yX15_out cX15_out 2 (some .int) :: bw) ({ frames := 0, cells := 0, slots := 0, locals := 0 }) (pR [.ref h0, .int p1] (dC, dI) (mW h0 g b0 b1 b2) []) (vp_Si (fun r => r = (-1))) 0 0 (fun _ => False) := by
  refine Met.ofW (cc := cX15_out) (maxL := 2) (ret := (some .int)) (by decide) rfl ?_
  intro p e s m args below meth c s₁ B hml hv
  obtain ⟨rfl, hP, hK⟩ := hv
  have hx := B.exec
  have hb := B.bytes
  have hr := B.returns
  have hts := atoms_spec (ws := Cond.code yX15_out cX15_out 2 (some .int) :: bw) B.pre
  have hw : ∀ w ∈ bw, w.before _ s = true := fun w h => hts w (List.mem_cons_of_mem _ h)
  have hown : s.vm.findClass RX15 = some m.cls := findClass_of_methodNamed B.named
  have hl := lv_entry ([.ref h0, .int p1]) (n := 2) (Nat.le_of_ble_eq_true rfl)
  rw [lg_entry_eq]
  generalize (lg_sl ([.ref h0, .int p1]) ++ List.replicate (2 - (lg_sl ([.ref h0, .int p1])).length) Slot.unset).toArray = ls at hl ⊢
  have hl : lv_has ls 2 [(0, .ref h0), (1, .int p1)] := hl
  refine lv_aload_n hx hb dX15_out_0 rfl (lv_at hl 0 rfl) ?_
  refine va_get (D := (dC, dI)) (ci := 14) (v := .int 0) (C := RX15) (T := TX15) (N := 64) hx hb hw inlX15 hown hK hP 0 rfl rfl 52 (by decide) (hw (Cond.fieldLink RX15 275 "CodeLayoutModel" "isLaid" "Z") (wl_2 (List.mem_of_getElem? (i := 4) rfl))) (fun _ h9 => h9) rfl dX15_out_1 ?_
  refine lv_if_eq (tgt := 32) hx hb dX15_out_4 (by decide) (fun c_1 => ?_) (fun c_1 => absurd c_1 (by decide))
  refine lv_iconst (v := (-1)) hx hb dX15_out_32 (by decide) ?_
  exact W.iret (v := (-1)) hx hb hr (fun t ht hW => ⟨(-1), rfl, rfl, ht⟩) (fun q h => absurd h List.not_mem_nil) dX15_out_33
set_option maxHeartbeats 4000000 in
set_option maxRecDepth 100000 in
theorem k_X15_check (l : Launch) (dC : Nat → ClassId) (dI : Nat → Nat → Nat) (h0 : Nat) (g b0 b1 b2 : Nat → Nat) : Met l yX15_check (Cond.code yX15_check cX15_check 1 (some .int) :: bw) ({ frames := 0, cells := 0, slots := 0, locals := 0 }) (pR [.ref h0] (dC, dI) (mW h0 g b0 b1 b2) []) (vp_Si (fun r => r = (-14))) 0 0 (fun _ => False) := by
  refine Met.ofW (cc := cX15_check) (maxL := 1) (ret := (some .int)) (by decide) rfl ?_
  intro p e s m args below meth c s₁ B hml hv
  obtain ⟨rfl, hP, hK⟩ := hv
  have hx := B.exec
  have hb := B.bytes
  have hr := B.returns
  have hts := atoms_spec (ws := Cond.code yX15_check cX15_check 1 (some .int) :: bw) B.pre
  have hw : ∀ w ∈ bw, w.before _ s = true := fun w h => hts w (List.mem_cons_of_mem _ h)
  have hown : s.vm.findClass RX15 = some m.cls := findClass_of_methodNamed B.named
  have hl := lv_entry ([.ref h0]) (n := 1) (Nat.le_of_ble_eq_true rfl)
  rw [lg_entry_eq]
  generalize (lg_sl ([.ref h0]) ++ List.replicate (1 - (lg_sl ([.ref h0])).length) Slot.unset).toArray = ls at hl ⊢
  have hl : lv_has ls 1 [(0, .ref h0)] := hl
  refine lv_aload_n hx hb dX15_check_0 rfl (lv_at hl 0 rfl) ?_
  refine va_get (D := (dC, dI)) (ci := 14) (v := .int 0) (C := RX15) (T := TX15) (N := 64) hx hb hw inlX15 hown hK hP 0 rfl rfl 52 (by decide) (hw (Cond.fieldLink RX15 275 "CodeLayoutModel" "isLaid" "Z") (wl_2 (List.mem_of_getElem? (i := 4) rfl))) (fun _ h9 => h9) rfl dX15_check_1 ?_
  refine lv_if_ne (tgt := 10) hx hb dX15_check_4 (by decide) (fun c_1 => absurd c_1 (by decide)) (fun c_1 => ?_)
  refine lv_bipush (v := (-14)) hx hb dX15_check_7 (by decide) ?_
  exact W.iret (v := (-14)) hx hb hr (fun t ht hW => ⟨(-14), rfl, rfl, ht⟩) (fun q h => absurd h List.not_mem_nil) dX15_check_9
set_option maxHeartbeats 4000000 in
set_option maxRecDepth 100000 in
theorem k_X15_same (l : Launch) (dC : Nat → ClassId) (dI : Nat → Nat → Nat) (h0 : Nat) (g b0 b1 b2 : Nat → Nat) : Met l yX15_same (Cond.code yX15_same cX15_same 3 (some .boolean) :: bw) ({ frames := 0, cells := 0, slots := 0, locals := 0 }) (pR [.ref h0] (dC, dI) (mW h0 g b0 b1 b2) []) (vp_Si (fun r => r = 0)) 0 0 (fun _ => False) := by
  refine Met.ofW (cc := cX15_same) (maxL := 3) (ret := (some .boolean)) (by decide) rfl ?_
  intro p e s m args below meth c s₁ B hml hv
  obtain ⟨rfl, hP, hK⟩ := hv
  have hx := B.exec
  have hb := B.bytes
  have hr := B.returns
  have hts := atoms_spec (ws := Cond.code yX15_same cX15_same 3 (some .boolean) :: bw) B.pre
  have hw : ∀ w ∈ bw, w.before _ s = true := fun w h => hts w (List.mem_cons_of_mem _ h)
  have hown : s.vm.findClass RX15 = some m.cls := findClass_of_methodNamed B.named
  have hl := lv_entry ([.ref h0]) (n := 3) (Nat.le_of_ble_eq_true rfl)
  rw [lg_entry_eq]
  generalize (lg_sl ([.ref h0]) ++ List.replicate (3 - (lg_sl ([.ref h0])).length) Slot.unset).toArray = ls at hl ⊢
  have hl : lv_has ls 3 [(0, .ref h0)] := hl
  refine lv_aload_n hx hb dX15_same_0 rfl (lv_at hl 0 rfl) ?_
  refine va_get (D := (dC, dI)) (ci := 14) (v := .int 0) (C := RX15) (T := TX15) (N := 64) hx hb hw inlX15 hown hK hP 0 rfl rfl 7 (by decide) (hw (Cond.fieldLink RX15 265 "CodeLayoutModel" "isRead" "Z") (wl_1 (List.mem_of_getElem? (i := 1) rfl))) (fun _ h9 => h9) rfl dX15_same_1 ?_
  refine lv_if_ne (tgt := 9) hx hb dX15_same_4 (by decide) (fun c_1 => absurd c_1 (by decide)) (fun c_1 => ?_)
  refine lv_iconst (v := 0) hx hb dX15_same_7 (by decide) ?_
  exact W.zret (v := 0) hx hb hr rfl (fun t ht hW => ⟨0, rfl, rfl, ht⟩) (fun q h => absurd h List.not_mem_nil) dX15_same_8
set_option maxHeartbeats 4000000 in
set_option maxRecDepth 100000 in
theorem k_X15_run (l : Launch) (dC : Nat → ClassId) (dI : Nat → Nat → Nat) (h0 : Nat) (g b0 b1 b2 : Nat → Nat) (p1 : Int32) (p2 : Int32) : Met l yX15_run (Cond.code yX15_run cX15_run 3 (some .int) :: bw) ({ frames := 0, cells := 0, slots := 0, locals := 0 }) (pR [.ref h0, .int p1, .int p2] (dC, dI) (mW h0 g b0 b1 b2) []) (vp_Si (fun r => r = (-14))) 0 0 (fun _ => False) := by
  refine Met.ofW (cc := cX15_run) (maxL := 3) (ret := (some .int)) (by decide) rfl ?_
  intro p e s m args below meth c s₁ B hml hv
  obtain ⟨rfl, hP, hK⟩ := hv
  have hx := B.exec
  have hb := B.bytes
  have hr := B.returns
  have hts := atoms_spec (ws := Cond.code yX15_run cX15_run 3 (some .int) :: bw) B.pre
  have hw : ∀ w ∈ bw, w.before _ s = true := fun w h => hts w (List.mem_cons_of_mem _ h)
  have hown : s.vm.findClass RX15 = some m.cls := findClass_of_methodNamed B.named
  have hl := lv_entry ([.ref h0, .int p1, .int p2]) (n := 3) (Nat.le_of_ble_eq_true rfl)
  rw [lg_entry_eq]
  generalize (lg_sl ([.ref h0, .int p1, .int p2]) ++ List.replicate (3 - (lg_sl ([.ref h0, .int p1, .int p2])).length) Slot.unset).toArray = ls at hl ⊢
  have hl : lv_has ls 3 [(0, .ref h0), (1, .int p1), (2, .int p2)] := hl
  refine lv_aload_n hx hb dX15_run_0 rfl (lv_at hl 0 rfl) ?_
  refine va_get (D := (dC, dI)) (ci := 14) (v := .int 0) (C := RX15) (T := TX15) (N := 64) hx hb hw inlX15 hown hK hP 0 rfl rfl 7 (by decide) (hw (Cond.fieldLink RX15 265 "CodeLayoutModel" "isRead" "Z") (wl_1 (List.mem_of_getElem? (i := 1) rfl))) (fun _ h9 => h9) rfl dX15_run_1 ?_
  refine lv_if_eq (tgt := 19) hx hb dX15_run_4 (by decide) (fun c_1 => ?_) (fun c_1 => absurd c_1 (by decide))
  refine lv_bipush (v := (-14)) hx hb dX15_run_19 (by decide) ?_
  exact W.iret (v := (-14)) hx hb hr (fun t ht hW => ⟨(-14), rfl, rfl, ht⟩) (fun q h => absurd h List.not_mem_nil) dX15_run_21
set_option maxHeartbeats 4000000 in
set_option maxRecDepth 100000 in
theorem k_X15_told (l : Launch) (dC : Nat → ClassId) (dI : Nat → Nat → Nat) (h0 : Nat) (g b0 b1 b2 : Nat → Nat) (p1 : Int32) (p2 : Int32) : Met l yX15_told (Cond.code yX15_told cX15_told 4 (some .int) :: bw) ({ frames := 2, cells := 0, slots := 0, locals := 43 }) (pR [.ref h0, .int p1, .int p2] (dC, dI) (mW h0 g b0 b1 b2) []) (vp_Si (fun r => r = (-14))) 0 0 (fun _ => False) := by
  refine Met.ofW (cc := cX15_told) (maxL := 4) (ret := (some .int)) (by decide) rfl ?_
  intro p e s m args below meth c s₁ B hml hv
  obtain ⟨rfl, hP, hK⟩ := hv
  have hx := B.exec
  have hb := B.bytes
  have hr := B.returns
  have hts := atoms_spec (ws := Cond.code yX15_told cX15_told 4 (some .int) :: bw) B.pre
  have hw : ∀ w ∈ bw, w.before _ s = true := fun w h => hts w (List.mem_cons_of_mem _ h)
  have hown : s.vm.findClass RX15 = some m.cls := findClass_of_methodNamed B.named
  have hl := lv_entry ([.ref h0, .int p1, .int p2]) (n := 4) (Nat.le_of_ble_eq_true rfl)
  rw [lg_entry_eq]
  generalize (lg_sl ([.ref h0, .int p1, .int p2]) ++ List.replicate (4 - (lg_sl ([.ref h0, .int p1, .int p2])).length) Slot.unset).toArray = ls at hl ⊢
  have hl : lv_has ls 4 [(0, .ref h0), (1, .int p1), (2, .int p2)] := hl
  refine lv_aload_n hx hb dX15_told_0 rfl (lv_at hl 0 rfl) ?_
  refine lv_iload_n hx hb dX15_told_1 rfl (lv_at hl 1 rfl) ?_
  have hPc := hP.sub (ws' := (mW h0 g b0 b1 b2)) [0, 1, 2, 3] rfl
  have hKc := hK.sub (tys' := []) [] rfl
  refine va_csq (va_runV (As := [.int p1]) (rest := []) ⟨hx, hb, hml, hown, hw⟩ (k_X15_known l dC dI h0 g b0 b1 b2 p1) ⟨callB_of 1 hw (gdw (wl_2 (List.mem_of_getElem? (i := 9) rfl))) rfl rfl rfl (hw (Cond.initialized RX15) (wl_1 (List.mem_of_getElem? (i := 21) rfl))) (hw (Cond.methodLink RX15 594 yX15_known) (wl_2 (List.mem_of_getElem? (i := 10) rfl))) (by decide +kernel) ⟨Nat.le_of_ble_eq_true rfl, Nat.le_of_ble_eq_true rfl⟩, (hw (Cond.instanceMethod yX15_known) (wl_2 (List.mem_of_getElem? (i := 11) rfl))), (hw (Cond.selects RX15 yX15_known yX15_known) (wl_2 (List.mem_of_getElem? (i := 12) rfl)))⟩ ⟨pR_blind, va_recv hKc hPc (ci := 14) (q0 := 0) rfl rfl, pR_of hPc hKc⟩ rfl rfl hl.1 rfl (lv_room (Nat.le_of_ble_eq_true rfl)) dX15_told_2 ⟨Nat.zero_le _, Nat.zero_le _⟩).run (fun r_1 e_2 => ?_)
  subst e_2
  refine W.eq (g2 := F0 m 5 ls [.null]) rfl ?_
  refine lv_astore_nN (lv' := [(3, .null), (0, .ref h0), (1, .int p1), (2, .int p2)]) hx hb dX15_told_5 rfl hl (by decide) rfl (fun ls hl => ?_)
  refine lv_aload_nN hx hb dX15_told_6 rfl (lv_at hl 0 rfl) ?_
  refine lv_ifnonnullN hx hb dX15_told_7 ?_
  refine lv_bipush (v := (-14)) hx hb dX15_told_10 (by decide) ?_
  exact W.iret (v := (-14)) hx hb hr (fun t ht hW => ⟨(-14), rfl, rfl, ht⟩) (fun q h => absurd h List.not_mem_nil) dX15_told_12
set_option maxHeartbeats 4000000 in
set_option maxRecDepth 100000 in
theorem k_X15_register (l : Launch) (dC : Nat → ClassId) (dI : Nat → Nat → Nat) (h0 : Nat) (g b0 b1 b2 : Nat → Nat) (p1 : Int32) (p2 : Int32) : Met l yX15_register (Cond.code yX15_register cX15_register 4 (some .long) :: bw) ({ frames := 2, cells := 0, slots := 0, locals := 43 }) (pR [.ref h0, .int p1, .int p2] (dC, dI) (mW h0 g b0 b1 b2) []) (vp_Sl (fun r => r = 0)) 0 0 (fun _ => False) := by
  refine Met.ofW (cc := cX15_register) (maxL := 4) (ret := (some .long)) (by decide) rfl ?_
  intro p e s m args below meth c s₁ B hml hv
  obtain ⟨rfl, hP, hK⟩ := hv
  have hx := B.exec
  have hb := B.bytes
  have hr := B.returns
  have hts := atoms_spec (ws := Cond.code yX15_register cX15_register 4 (some .long) :: bw) B.pre
  have hw : ∀ w ∈ bw, w.before _ s = true := fun w h => hts w (List.mem_cons_of_mem _ h)
  have hown : s.vm.findClass RX15 = some m.cls := findClass_of_methodNamed B.named
  have hl := lv_entry ([.ref h0, .int p1, .int p2]) (n := 4) (Nat.le_of_ble_eq_true rfl)
  rw [lg_entry_eq]
  generalize (lg_sl ([.ref h0, .int p1, .int p2]) ++ List.replicate (4 - (lg_sl ([.ref h0, .int p1, .int p2])).length) Slot.unset).toArray = ls at hl ⊢
  have hl : lv_has ls 4 [(0, .ref h0), (1, .int p1), (2, .int p2)] := hl
  refine lv_aload_n hx hb dX15_register_0 rfl (lv_at hl 0 rfl) ?_
  refine lv_iload_n hx hb dX15_register_1 rfl (lv_at hl 1 rfl) ?_
  have hPc := hP.sub (ws' := (mW h0 g b0 b1 b2)) [0, 1, 2, 3] rfl
  have hKc := hK.sub (tys' := []) [] rfl
  refine va_csq (va_runV (As := [.int p1]) (rest := []) ⟨hx, hb, hml, hown, hw⟩ (k_X15_known l dC dI h0 g b0 b1 b2 p1) ⟨callB_of 1 hw (gdw (wl_2 (List.mem_of_getElem? (i := 9) rfl))) rfl rfl rfl (hw (Cond.initialized RX15) (wl_1 (List.mem_of_getElem? (i := 21) rfl))) (hw (Cond.methodLink RX15 594 yX15_known) (wl_2 (List.mem_of_getElem? (i := 10) rfl))) (by decide +kernel) ⟨Nat.le_of_ble_eq_true rfl, Nat.le_of_ble_eq_true rfl⟩, (hw (Cond.instanceMethod yX15_known) (wl_2 (List.mem_of_getElem? (i := 11) rfl))), (hw (Cond.selects RX15 yX15_known yX15_known) (wl_2 (List.mem_of_getElem? (i := 12) rfl)))⟩ ⟨pR_blind, va_recv hKc hPc (ci := 14) (q0 := 0) rfl rfl, pR_of hPc hKc⟩ rfl rfl hl.1 rfl (lv_room (Nat.le_of_ble_eq_true rfl)) dX15_register_2 ⟨Nat.zero_le _, Nat.zero_le _⟩).run (fun r_1 e_2 => ?_)
  subst e_2
  refine W.eq (g2 := F0 m 5 ls [.null]) rfl ?_
  refine lv_astore_nN (lv' := [(3, .null), (0, .ref h0), (1, .int p1), (2, .int p2)]) hx hb dX15_register_5 rfl hl (by decide) rfl (fun ls hl => ?_)
  refine lv_aload_nN hx hb dX15_register_6 rfl (lv_at hl 0 rfl) ?_
  refine lv_ifnullN (tgt := 20) hx hb dX15_register_7 (by decide) ?_
  refine lv_lconst (v := 0) hx hb dX15_register_20 (by decide) ?_
  refine lv_goto (tgt := 30) hx hb dX15_register_21 (by decide) ?_
  exact W.lret (v := 0) hx hb hr (fun t ht hW => ⟨0, rfl, rfl, ht⟩) (fun q h => absurd h List.not_mem_nil) dX15_register_30
set_option maxHeartbeats 4000000 in
set_option maxRecDepth 100000 in
theorem k_X15_kind (l : Launch) (dC : Nat → ClassId) (dI : Nat → Nat → Nat) (h0 : Nat) (g b0 b1 b2 : Nat → Nat) (p1 : Int32) : Met l yX15_kind (Cond.code yX15_kind cX15_kind 3 (some .int) :: bw) ({ frames := 2, cells := 0, slots := 0, locals := 43 }) (pR [.ref h0, .int p1] (dC, dI) (mW h0 g b0 b1 b2) []) (vp_Si (fun r => r = (-1))) 0 0 (fun _ => False) := by
  refine Met.ofW (cc := cX15_kind) (maxL := 3) (ret := (some .int)) (by decide) rfl ?_
  intro p e s m args below meth c s₁ B hml hv
  obtain ⟨rfl, hP, hK⟩ := hv
  have hx := B.exec
  have hb := B.bytes
  have hr := B.returns
  have hts := atoms_spec (ws := Cond.code yX15_kind cX15_kind 3 (some .int) :: bw) B.pre
  have hw : ∀ w ∈ bw, w.before _ s = true := fun w h => hts w (List.mem_cons_of_mem _ h)
  have hown : s.vm.findClass RX15 = some m.cls := findClass_of_methodNamed B.named
  have hl := lv_entry ([.ref h0, .int p1]) (n := 3) (Nat.le_of_ble_eq_true rfl)
  rw [lg_entry_eq]
  generalize (lg_sl ([.ref h0, .int p1]) ++ List.replicate (3 - (lg_sl ([.ref h0, .int p1])).length) Slot.unset).toArray = ls at hl ⊢
  have hl : lv_has ls 3 [(0, .ref h0), (1, .int p1)] := hl
  refine lv_aload_n hx hb dX15_kind_0 rfl (lv_at hl 0 rfl) ?_
  refine lv_iconst (v := 1) hx hb dX15_kind_1 (by decide) ?_
  have hPc := hP.sub (ws' := (mW h0 g b0 b1 b2)) [0, 1, 2, 3] rfl
  have hKc := hK.sub (tys' := []) [] rfl
  refine va_csq (va_runV (As := [.int 1]) (rest := []) ⟨hx, hb, hml, hown, hw⟩ (k_X15_known l dC dI h0 g b0 b1 b2 1) ⟨callB_of 1 hw (gdw (wl_2 (List.mem_of_getElem? (i := 9) rfl))) rfl rfl rfl (hw (Cond.initialized RX15) (wl_1 (List.mem_of_getElem? (i := 21) rfl))) (hw (Cond.methodLink RX15 594 yX15_known) (wl_2 (List.mem_of_getElem? (i := 10) rfl))) (by decide +kernel) ⟨Nat.le_of_ble_eq_true rfl, Nat.le_of_ble_eq_true rfl⟩, (hw (Cond.instanceMethod yX15_known) (wl_2 (List.mem_of_getElem? (i := 11) rfl))), (hw (Cond.selects RX15 yX15_known yX15_known) (wl_2 (List.mem_of_getElem? (i := 12) rfl)))⟩ ⟨pR_blind, va_recv hKc hPc (ci := 14) (q0 := 0) rfl rfl, pR_of hPc hKc⟩ rfl rfl hl.1 rfl (lv_room (Nat.le_of_ble_eq_true rfl)) dX15_kind_2 ⟨Nat.zero_le _, Nat.zero_le _⟩).run (fun r_1 e_2 => ?_)
  subst e_2
  refine W.eq (g2 := F0 m 5 ls [.null]) rfl ?_
  refine lv_astore_nN (lv' := [(2, .null), (0, .ref h0), (1, .int p1)]) hx hb dX15_kind_5 rfl hl (by decide) rfl (fun ls hl => ?_)
  refine lv_aload_nN hx hb dX15_kind_6 rfl (lv_at hl 0 rfl) ?_
  refine lv_ifnullN (tgt := 20) hx hb dX15_kind_7 (by decide) ?_
  refine lv_iconst (v := (-1)) hx hb dX15_kind_20 (by decide) ?_
  refine lv_goto (tgt := 30) hx hb dX15_kind_21 (by decide) ?_
  exact W.iret (v := (-1)) hx hb hr (fun t ht hW => ⟨(-1), rfl, rfl, ht⟩) (fun q h => absurd h List.not_mem_nil) dX15_kind_30
set_option maxHeartbeats 4000000 in
set_option maxRecDepth 100000 in
theorem k_X15_newer (l : Launch) (dC : Nat → ClassId) (dI : Nat → Nat → Nat) (h0 : Nat) (g b0 b1 b2 : Nat → Nat) (p1 : Int32) : Met l yX15_newer (Cond.code yX15_newer cX15_newer 3 (some .long) :: bw) ({ frames := 2, cells := 0, slots := 0, locals := 43 }) (pR [.ref h0, .int p1] (dC, dI) (mW h0 g b0 b1 b2) []) (vp_Sl (fun r => r = 0)) 0 0 (fun _ => False) := by
  refine Met.ofW (cc := cX15_newer) (maxL := 3) (ret := (some .long)) (by decide) rfl ?_
  intro p e s m args below meth c s₁ B hml hv
  obtain ⟨rfl, hP, hK⟩ := hv
  have hx := B.exec
  have hb := B.bytes
  have hr := B.returns
  have hts := atoms_spec (ws := Cond.code yX15_newer cX15_newer 3 (some .long) :: bw) B.pre
  have hw : ∀ w ∈ bw, w.before _ s = true := fun w h => hts w (List.mem_cons_of_mem _ h)
  have hown : s.vm.findClass RX15 = some m.cls := findClass_of_methodNamed B.named
  have hl := lv_entry ([.ref h0, .int p1]) (n := 3) (Nat.le_of_ble_eq_true rfl)
  rw [lg_entry_eq]
  generalize (lg_sl ([.ref h0, .int p1]) ++ List.replicate (3 - (lg_sl ([.ref h0, .int p1])).length) Slot.unset).toArray = ls at hl ⊢
  have hl : lv_has ls 3 [(0, .ref h0), (1, .int p1)] := hl
  refine lv_aload_n hx hb dX15_newer_0 rfl (lv_at hl 0 rfl) ?_
  refine lv_iconst (v := 1) hx hb dX15_newer_1 (by decide) ?_
  have hPc := hP.sub (ws' := (mW h0 g b0 b1 b2)) [0, 1, 2, 3] rfl
  have hKc := hK.sub (tys' := []) [] rfl
  refine va_csq (va_runV (As := [.int 1]) (rest := []) ⟨hx, hb, hml, hown, hw⟩ (k_X15_known l dC dI h0 g b0 b1 b2 1) ⟨callB_of 1 hw (gdw (wl_2 (List.mem_of_getElem? (i := 9) rfl))) rfl rfl rfl (hw (Cond.initialized RX15) (wl_1 (List.mem_of_getElem? (i := 21) rfl))) (hw (Cond.methodLink RX15 594 yX15_known) (wl_2 (List.mem_of_getElem? (i := 10) rfl))) (by decide +kernel) ⟨Nat.le_of_ble_eq_true rfl, Nat.le_of_ble_eq_true rfl⟩, (hw (Cond.instanceMethod yX15_known) (wl_2 (List.mem_of_getElem? (i := 11) rfl))), (hw (Cond.selects RX15 yX15_known yX15_known) (wl_2 (List.mem_of_getElem? (i := 12) rfl)))⟩ ⟨pR_blind, va_recv hKc hPc (ci := 14) (q0 := 0) rfl rfl, pR_of hPc hKc⟩ rfl rfl hl.1 rfl (lv_room (Nat.le_of_ble_eq_true rfl)) dX15_newer_2 ⟨Nat.zero_le _, Nat.zero_le _⟩).run (fun r_1 e_2 => ?_)
  subst e_2
  refine W.eq (g2 := F0 m 5 ls [.null]) rfl ?_
  refine lv_astore_nN (lv' := [(2, .null), (0, .ref h0), (1, .int p1)]) hx hb dX15_newer_5 rfl hl (by decide) rfl (fun ls hl => ?_)
  refine lv_aload_nN hx hb dX15_newer_6 rfl (lv_at hl 0 rfl) ?_
  refine lv_ifnullN (tgt := 20) hx hb dX15_newer_7 (by decide) ?_
  refine lv_lconst (v := 0) hx hb dX15_newer_20 (by decide) ?_
  exact W.lret (v := 0) hx hb hr (fun t ht hW => ⟨0, rfl, rfl, ht⟩) (fun q h => absurd h List.not_mem_nil) dX15_newer_21
set_option maxHeartbeats 4000000 in
set_option maxRecDepth 100000 in
theorem k_X15_visit (l : Launch) (dC : Nat → ClassId) (dI : Nat → Nat → Nat) (h0 : Nat) (g b0 b1 b2 : Nat → Nat) (p1 : Int32) (p2 : Int32) : Met l yX15_visit (Cond.code yX15_visit cX15_visit 4 (some .int) :: bw) ({ frames := 2, cells := 0, slots := 0, locals := 43 }) (pR [.ref h0, .int p1, .int p2] (dC, dI) (mW h0 g b0 b1 b2) []) (vp_Si (fun r => r = (-1))) 0 0 (fun _ => False) := by
  refine Met.ofW (cc := cX15_visit) (maxL := 4) (ret := (some .int)) (by decide) rfl ?_
  intro p e s m args below meth c s₁ B hml hv
  obtain ⟨rfl, hP, hK⟩ := hv
  have hx := B.exec
  have hb := B.bytes
  have hr := B.returns
  have hts := atoms_spec (ws := Cond.code yX15_visit cX15_visit 4 (some .int) :: bw) B.pre
  have hw : ∀ w ∈ bw, w.before _ s = true := fun w h => hts w (List.mem_cons_of_mem _ h)
  have hown : s.vm.findClass RX15 = some m.cls := findClass_of_methodNamed B.named
  have hl := lv_entry ([.ref h0, .int p1, .int p2]) (n := 4) (Nat.le_of_ble_eq_true rfl)
  rw [lg_entry_eq]
  generalize (lg_sl ([.ref h0, .int p1, .int p2]) ++ List.replicate (4 - (lg_sl ([.ref h0, .int p1, .int p2])).length) Slot.unset).toArray = ls at hl ⊢
  have hl : lv_has ls 4 [(0, .ref h0), (1, .int p1), (2, .int p2)] := hl
  refine lv_aload_n hx hb dX15_visit_0 rfl (lv_at hl 0 rfl) ?_
  refine lv_iload_n hx hb dX15_visit_1 rfl (lv_at hl 1 rfl) ?_
  have hPc := hP.sub (ws' := (mW h0 g b0 b1 b2)) [0, 1, 2, 3] rfl
  have hKc := hK.sub (tys' := []) [] rfl
  refine va_csq (va_runV (As := [.int p1]) (rest := []) ⟨hx, hb, hml, hown, hw⟩ (k_X15_known l dC dI h0 g b0 b1 b2 p1) ⟨callB_of 1 hw (gdw (wl_2 (List.mem_of_getElem? (i := 9) rfl))) rfl rfl rfl (hw (Cond.initialized RX15) (wl_1 (List.mem_of_getElem? (i := 21) rfl))) (hw (Cond.methodLink RX15 594 yX15_known) (wl_2 (List.mem_of_getElem? (i := 10) rfl))) (by decide +kernel) ⟨Nat.le_of_ble_eq_true rfl, Nat.le_of_ble_eq_true rfl⟩, (hw (Cond.instanceMethod yX15_known) (wl_2 (List.mem_of_getElem? (i := 11) rfl))), (hw (Cond.selects RX15 yX15_known yX15_known) (wl_2 (List.mem_of_getElem? (i := 12) rfl)))⟩ ⟨pR_blind, va_recv hKc hPc (ci := 14) (q0 := 0) rfl rfl, pR_of hPc hKc⟩ rfl rfl hl.1 rfl (lv_room (Nat.le_of_ble_eq_true rfl)) dX15_visit_2 ⟨Nat.zero_le _, Nat.zero_le _⟩).run (fun r_1 e_2 => ?_)
  subst e_2
  refine W.eq (g2 := F0 m 5 ls [.null]) rfl ?_
  refine lv_astore_nN (lv' := [(3, .null), (0, .ref h0), (1, .int p1), (2, .int p2)]) hx hb dX15_visit_5 rfl hl (by decide) rfl (fun ls hl => ?_)
  refine lv_aload_nN hx hb dX15_visit_6 rfl (lv_at hl 0 rfl) ?_
  refine lv_ifnullN (tgt := 22) hx hb dX15_visit_7 (by decide) ?_
  refine lv_iconst (v := (-1)) hx hb dX15_visit_22 (by decide) ?_
  refine lv_goto (tgt := 32) hx hb dX15_visit_23 (by decide) ?_
  exact W.iret (v := (-1)) hx hb hr (fun t ht hW => ⟨(-1), rfl, rfl, ht⟩) (fun q h => absurd h List.not_mem_nil) dX15_visit_32
set_option maxHeartbeats 4000000 in
set_option maxRecDepth 100000 in
theorem k_X15_memory (l : Launch) (dC : Nat → ClassId) (dI : Nat → Nat → Nat) (h0 : Nat) (g b0 b1 b2 : Nat → Nat) (p1 : Int32) (p2 : Int64) : Met l yX15_memory (Cond.code yX15_memory cX15_memory 6 (some .int) :: bw) ({ frames := 2, cells := 0, slots := 0, locals := 43 }) (pR [.ref h0, .int p1, .long p2] (dC, dI) (mW h0 g b0 b1 b2) []) (vp_Si (fun r => r = (-1))) 0 0 (fun _ => False) := by
  refine Met.ofW (cc := cX15_memory) (maxL := 6) (ret := (some .int)) (by decide) rfl ?_
  intro p e s m args below meth c s₁ B hml hv
  obtain ⟨rfl, hP, hK⟩ := hv
  have hx := B.exec
  have hb := B.bytes
  have hr := B.returns
  have hts := atoms_spec (ws := Cond.code yX15_memory cX15_memory 6 (some .int) :: bw) B.pre
  have hw : ∀ w ∈ bw, w.before _ s = true := fun w h => hts w (List.mem_cons_of_mem _ h)
  have hown : s.vm.findClass RX15 = some m.cls := findClass_of_methodNamed B.named
  have hl := lv_entry ([.ref h0, .int p1, .long p2]) (n := 6) (Nat.le_of_ble_eq_true rfl)
  rw [lg_entry_eq]
  generalize (lg_sl ([.ref h0, .int p1, .long p2]) ++ List.replicate (6 - (lg_sl ([.ref h0, .int p1, .long p2])).length) Slot.unset).toArray = ls at hl ⊢
  have hl : lv_has ls 6 [(0, .ref h0), (1, .int p1), (2, .long p2)] := hl
  refine lv_aload_n hx hb dX15_memory_0 rfl (lv_at hl 0 rfl) ?_
  refine lv_iload_n hx hb dX15_memory_1 rfl (lv_at hl 1 rfl) ?_
  have hPc := hP.sub (ws' := (mW h0 g b0 b1 b2)) [0, 1, 2, 3] rfl
  have hKc := hK.sub (tys' := []) [] rfl
  refine va_csq (va_runV (As := [.int p1]) (rest := []) ⟨hx, hb, hml, hown, hw⟩ (k_X15_known l dC dI h0 g b0 b1 b2 p1) ⟨callB_of 1 hw (gdw (wl_2 (List.mem_of_getElem? (i := 9) rfl))) rfl rfl rfl (hw (Cond.initialized RX15) (wl_1 (List.mem_of_getElem? (i := 21) rfl))) (hw (Cond.methodLink RX15 594 yX15_known) (wl_2 (List.mem_of_getElem? (i := 10) rfl))) (by decide +kernel) ⟨Nat.le_of_ble_eq_true rfl, Nat.le_of_ble_eq_true rfl⟩, (hw (Cond.instanceMethod yX15_known) (wl_2 (List.mem_of_getElem? (i := 11) rfl))), (hw (Cond.selects RX15 yX15_known yX15_known) (wl_2 (List.mem_of_getElem? (i := 12) rfl)))⟩ ⟨pR_blind, va_recv hKc hPc (ci := 14) (q0 := 0) rfl rfl, pR_of hPc hKc⟩ rfl rfl hl.1 rfl (lv_room (Nat.le_of_ble_eq_true rfl)) dX15_memory_2 ⟨Nat.zero_le _, Nat.zero_le _⟩).run (fun r_1 e_2 => ?_)
  subst e_2
  refine W.eq (g2 := F0 m 5 ls [.null]) rfl ?_
  refine lv_astoreN (lv' := [(4, .null), (0, .ref h0), (1, .int p1), (2, .long p2)]) hx hb dX15_memory_5 hl (by decide) rfl (fun ls hl => ?_)
  refine lv_aloadN hx hb dX15_memory_7 (lv_at hl 0 rfl) ?_
  refine lv_ifnonnullN hx hb dX15_memory_9 ?_
  refine lv_iconst (v := (-1)) hx hb dX15_memory_12 (by decide) ?_
  refine lv_goto (tgt := 23) hx hb dX15_memory_13 (by decide) ?_
  refine lv_istore (lv' := [(5, .int ((-1))), (4, .null), (0, .ref h0), (1, .int p1), (2, .long p2)]) hx hb dX15_memory_23 hl (by decide) rfl (fun ls hl => ?_)
  refine lv_iload hx hb dX15_memory_25 (lv_at hl 0 rfl) ?_
  refine lv_if_ge (tgt := 34) hx hb dX15_memory_27 (by decide) (fun c_3 => absurd c_3 (by decide)) (fun c_3 => ?_)
  refine lv_iconst (v := (-1)) hx hb dX15_memory_30 (by decide) ?_
  refine lv_goto (tgt := 46) hx hb dX15_memory_31 (by decide) ?_
  exact W.iret (v := (-1)) hx hb hr (fun t ht hW => ⟨(-1), rfl, rfl, ht⟩) (fun q h => absurd h List.not_mem_nil) dX15_memory_46
set_option maxHeartbeats 4000000 in
set_option maxRecDepth 100000 in
theorem k_X15_keeps (l : Launch) (dC : Nat → ClassId) (dI : Nat → Nat → Nat) (h0 : Nat) (g b0 b1 b2 : Nat → Nat) (p1 : Int64) : Met l yX15_keeps (Cond.code yX15_keeps cX15_keeps 5 (some .int) :: bw) ({ frames := 2, cells := 0, slots := 0, locals := 43 }) (pR [.ref h0, .long p1] (dC, dI) (mW h0 g b0 b1 b2) []) (vp_Si (fun r => r = (-1))) 0 0 (fun _ => False) := by
  refine Met.ofW (cc := cX15_keeps) (maxL := 5) (ret := (some .int)) (by decide) rfl ?_
  intro p e s m args below meth c s₁ B hml hv
  obtain ⟨rfl, hP, hK⟩ := hv
  have hx := B.exec
  have hb := B.bytes
  have hr := B.returns
  have hts := atoms_spec (ws := Cond.code yX15_keeps cX15_keeps 5 (some .int) :: bw) B.pre
  have hw : ∀ w ∈ bw, w.before _ s = true := fun w h => hts w (List.mem_cons_of_mem _ h)
  have hown : s.vm.findClass RX15 = some m.cls := findClass_of_methodNamed B.named
  have hl := lv_entry ([.ref h0, .long p1]) (n := 5) (Nat.le_of_ble_eq_true rfl)
  rw [lg_entry_eq]
  generalize (lg_sl ([.ref h0, .long p1]) ++ List.replicate (5 - (lg_sl ([.ref h0, .long p1])).length) Slot.unset).toArray = ls at hl ⊢
  have hl : lv_has ls 5 [(0, .ref h0), (1, .long p1)] := hl
  refine lv_aload_n hx hb dX15_keeps_0 rfl (lv_at hl 0 rfl) ?_
  refine lv_iconst (v := 1) hx hb dX15_keeps_1 (by decide) ?_
  have hPc := hP.sub (ws' := (mW h0 g b0 b1 b2)) [0, 1, 2, 3] rfl
  have hKc := hK.sub (tys' := []) [] rfl
  refine va_csq (va_runV (As := [.int 1]) (rest := []) ⟨hx, hb, hml, hown, hw⟩ (k_X15_known l dC dI h0 g b0 b1 b2 1) ⟨callB_of 1 hw (gdw (wl_2 (List.mem_of_getElem? (i := 9) rfl))) rfl rfl rfl (hw (Cond.initialized RX15) (wl_1 (List.mem_of_getElem? (i := 21) rfl))) (hw (Cond.methodLink RX15 594 yX15_known) (wl_2 (List.mem_of_getElem? (i := 10) rfl))) (by decide +kernel) ⟨Nat.le_of_ble_eq_true rfl, Nat.le_of_ble_eq_true rfl⟩, (hw (Cond.instanceMethod yX15_known) (wl_2 (List.mem_of_getElem? (i := 11) rfl))), (hw (Cond.selects RX15 yX15_known yX15_known) (wl_2 (List.mem_of_getElem? (i := 12) rfl)))⟩ ⟨pR_blind, va_recv hKc hPc (ci := 14) (q0 := 0) rfl rfl, pR_of hPc hKc⟩ rfl rfl hl.1 rfl (lv_room (Nat.le_of_ble_eq_true rfl)) dX15_keeps_2 ⟨Nat.zero_le _, Nat.zero_le _⟩).run (fun r_1 e_2 => ?_)
  subst e_2
  refine W.eq (g2 := F0 m 5 ls [.null]) rfl ?_
  refine lv_astore_nN (lv' := [(3, .null), (0, .ref h0), (1, .long p1)]) hx hb dX15_keeps_5 rfl hl (by decide) rfl (fun ls hl => ?_)
  refine lv_aload_nN hx hb dX15_keeps_6 rfl (lv_at hl 0 rfl) ?_
  refine lv_ifnullN (tgt := 20) hx hb dX15_keeps_7 (by decide) ?_
  refine lv_iconst (v := (-1)) hx hb dX15_keeps_20 (by decide) ?_
  refine lv_goto (tgt := 31) hx hb dX15_keeps_21 (by decide) ?_
  refine lv_istore (lv' := [(4, .int ((-1))), (3, .null), (0, .ref h0), (1, .long p1)]) hx hb dX15_keeps_31 hl (by decide) rfl (fun ls hl => ?_)
  refine lv_iload hx hb dX15_keeps_33 (lv_at hl 0 rfl) ?_
  refine lv_if_ge (tgt := 42) hx hb dX15_keeps_35 (by decide) (fun c_3 => absurd c_3 (by decide)) (fun c_3 => ?_)
  refine lv_iconst (v := (-1)) hx hb dX15_keeps_38 (by decide) ?_
  refine lv_goto (tgt := 52) hx hb dX15_keeps_39 (by decide) ?_
  exact W.iret (v := (-1)) hx hb hr (fun t ht hW => ⟨(-1), rfl, rfl, ht⟩) (fun q h => absurd h List.not_mem_nil) dX15_keeps_52
set_option maxHeartbeats 4000000 in
set_option maxRecDepth 100000 in
theorem k_X15_newest (l : Launch) (dC : Nat → ClassId) (dI : Nat → Nat → Nat) (h0 : Nat) (g b0 b1 b2 : Nat → Nat) (p1 : Int64) : Met l yX15_newest (Cond.code yX15_newest cX15_newest 4 (some .long) :: bw) ({ frames := 3, cells := 0, slots := 0, locals := 67 }) (pR [.ref h0, .long p1] (dC, dI) (mW h0 g b0 b1 b2) []) (vp_Sl (fun r => r = 0)) 0 0 (fun _ => False) := by
  refine Met.ofW (cc := cX15_newest) (maxL := 4) (ret := (some .long)) (by decide) rfl ?_
  intro p e s m args below meth c s₁ B hml hv
  obtain ⟨rfl, hP, hK⟩ := hv
  have hx := B.exec
  have hb := B.bytes
  have hr := B.returns
  have hts := atoms_spec (ws := Cond.code yX15_newest cX15_newest 4 (some .long) :: bw) B.pre
  have hw : ∀ w ∈ bw, w.before _ s = true := fun w h => hts w (List.mem_cons_of_mem _ h)
  have hown : s.vm.findClass RX15 = some m.cls := findClass_of_methodNamed B.named
  have hl := lv_entry ([.ref h0, .long p1]) (n := 4) (Nat.le_of_ble_eq_true rfl)
  rw [lg_entry_eq]
  generalize (lg_sl ([.ref h0, .long p1]) ++ List.replicate (4 - (lg_sl ([.ref h0, .long p1])).length) Slot.unset).toArray = ls at hl ⊢
  have hl : lv_has ls 4 [(0, .ref h0), (1, .long p1)] := hl
  refine lv_aload_n hx hb dX15_newest_0 rfl (lv_at hl 0 rfl) ?_
  refine lv_lload_n hx hb dX15_newest_1 rfl (lv_at hl 1 rfl) ?_
  have hPc := hP.sub (ws' := (mW h0 g b0 b1 b2)) [0, 1, 2, 3] rfl
  have hKc := hK.sub (tys' := []) [] rfl
  refine vp_callSi (va_runV (As := [.long p1]) (rest := []) ⟨hx, hb, hml, hown, hw⟩ (k_X15_keeps l dC dI h0 g b0 b1 b2 p1) ⟨callB_of 1 hw (gdw (wl_2 (List.mem_of_getElem? (i := 13) rfl))) rfl rfl rfl (hw (Cond.initialized RX15) (wl_1 (List.mem_of_getElem? (i := 21) rfl))) (hw (Cond.methodLink RX15 648 yX15_keeps) (wl_2 (List.mem_of_getElem? (i := 14) rfl))) (by decide +kernel) ⟨Nat.le_of_ble_eq_true rfl, Nat.le_of_ble_eq_true rfl⟩, (hw (Cond.instanceMethod yX15_keeps) (wl_2 (List.mem_of_getElem? (i := 15) rfl))), (hw (Cond.selects RX15 yX15_keeps yX15_keeps) (wl_2 (List.mem_of_getElem? (i := 16) rfl)))⟩ ⟨pR_blind, va_recv hKc hPc (ci := 14) (q0 := 0) rfl rfl, pR_of hPc hKc⟩ rfl rfl hl.1 rfl (lv_room (Nat.le_of_ble_eq_true rfl)) dX15_newest_2 ⟨Nat.zero_le _, Nat.zero_le _⟩).run (fun r_1 e_2 => ?_)
  subst e_2
  refine lv_istore_n (lv' := [(3, .int ((-1))), (0, .ref h0), (1, .long p1)]) hx hb dX15_newest_5 rfl hl (by decide) rfl (fun ls hl => ?_)
  refine lv_iload_n hx hb dX15_newest_6 rfl (lv_at hl 0 rfl) ?_
  refine lv_iconst (v := 1) hx hb dX15_newest_7 (by decide) ?_
  refine lv_icmp_ge (tgt := 13) hx hb dX15_newest_8 (by decide) (fun c_3 => absurd c_3 (by decide)) (fun c_3 => ?_)
  refine lv_lconst (v := 0) hx hb dX15_newest_11 (by decide) ?_
  exact W.lret (v := 0) hx hb hr (fun t ht hW => ⟨0, rfl, rfl, ht⟩) (fun q h => absurd h List.not_mem_nil) dX15_newest_12
set_option maxHeartbeats 4000000 in
set_option maxRecDepth 100000 in
theorem k_X15_trace (l : Launch) (dC : Nat → ClassId) (dI : Nat → Nat → Nat) (h0 : Nat) (g b0 b1 b2 : Nat → Nat) (p1 : Int32) (p2 : Int32) (p3 : Int32) : Met l yX15_trace (Cond.code yX15_trace cX15_trace 5 (some .long) :: bw) ({ frames := 2, cells := 0, slots := 0, locals := 43 }) (pR [.ref h0, .int p1, .int p2, .int p3] (dC, dI) (mW h0 g b0 b1 b2) []) (vp_Sl (fun r => r = 0)) 0 0 (fun _ => False) := by
  refine Met.ofW (cc := cX15_trace) (maxL := 5) (ret := (some .long)) (by decide) rfl ?_
  intro p e s m args below meth c s₁ B hml hv
  obtain ⟨rfl, hP, hK⟩ := hv
  have hx := B.exec
  have hb := B.bytes
  have hr := B.returns
  have hts := atoms_spec (ws := Cond.code yX15_trace cX15_trace 5 (some .long) :: bw) B.pre
  have hw : ∀ w ∈ bw, w.before _ s = true := fun w h => hts w (List.mem_cons_of_mem _ h)
  have hown : s.vm.findClass RX15 = some m.cls := findClass_of_methodNamed B.named
  have hl := lv_entry ([.ref h0, .int p1, .int p2, .int p3]) (n := 5) (Nat.le_of_ble_eq_true rfl)
  rw [lg_entry_eq]
  generalize (lg_sl ([.ref h0, .int p1, .int p2, .int p3]) ++ List.replicate (5 - (lg_sl ([.ref h0, .int p1, .int p2, .int p3])).length) Slot.unset).toArray = ls at hl ⊢
  have hl : lv_has ls 5 [(0, .ref h0), (1, .int p1), (2, .int p2), (3, .int p3)] := hl
  refine lv_aload_n hx hb dX15_trace_0 rfl (lv_at hl 0 rfl) ?_
  refine lv_iload_n hx hb dX15_trace_1 rfl (lv_at hl 1 rfl) ?_
  have hPc := hP.sub (ws' := (mW h0 g b0 b1 b2)) [0, 1, 2, 3] rfl
  have hKc := hK.sub (tys' := []) [] rfl
  refine va_csq (va_runV (As := [.int p1]) (rest := []) ⟨hx, hb, hml, hown, hw⟩ (k_X15_known l dC dI h0 g b0 b1 b2 p1) ⟨callB_of 1 hw (gdw (wl_2 (List.mem_of_getElem? (i := 9) rfl))) rfl rfl rfl (hw (Cond.initialized RX15) (wl_1 (List.mem_of_getElem? (i := 21) rfl))) (hw (Cond.methodLink RX15 594 yX15_known) (wl_2 (List.mem_of_getElem? (i := 10) rfl))) (by decide +kernel) ⟨Nat.le_of_ble_eq_true rfl, Nat.le_of_ble_eq_true rfl⟩, (hw (Cond.instanceMethod yX15_known) (wl_2 (List.mem_of_getElem? (i := 11) rfl))), (hw (Cond.selects RX15 yX15_known yX15_known) (wl_2 (List.mem_of_getElem? (i := 12) rfl)))⟩ ⟨pR_blind, va_recv hKc hPc (ci := 14) (q0 := 0) rfl rfl, pR_of hPc hKc⟩ rfl rfl hl.1 rfl (lv_room (Nat.le_of_ble_eq_true rfl)) dX15_trace_2 ⟨Nat.zero_le _, Nat.zero_le _⟩).run (fun r_1 e_2 => ?_)
  subst e_2
  refine W.eq (g2 := F0 m 5 ls [.null]) rfl ?_
  refine lv_astoreN (lv' := [(4, .null), (0, .ref h0), (1, .int p1), (2, .int p2), (3, .int p3)]) hx hb dX15_trace_5 hl (by decide) rfl (fun ls hl => ?_)
  refine lv_aloadN hx hb dX15_trace_7 (lv_at hl 0 rfl) ?_
  refine lv_ifnullN (tgt := 41) hx hb dX15_trace_9 (by decide) ?_
  refine lv_lconst (v := 0) hx hb dX15_trace_41 (by decide) ?_
  refine lv_goto (tgt := 56) hx hb dX15_trace_42 (by decide) ?_
  exact W.lret (v := 0) hx hb hr (fun t ht hW => ⟨0, rfl, rfl, ht⟩) (fun q h => absurd h List.not_mem_nil) dX15_trace_56
set_option maxHeartbeats 4000000 in
set_option maxRecDepth 100000 in
theorem k_X15_text (l : Launch) (dC : Nat → ClassId) (dI : Nat → Nat → Nat) (h0 : Nat) (g b0 b1 b2 : Nat → Nat) (p1 : Int32) (p2 : Int32) : Met l yX15_text (Cond.code yX15_text cX15_text 4 (some .int) :: bw) ({ frames := 2, cells := 0, slots := 0, locals := 43 }) (pR [.ref h0, .int p1, .int p2] (dC, dI) (mW h0 g b0 b1 b2) []) (vp_Si (fun r => r = (-1))) 0 0 (fun _ => False) := by
  refine Met.ofW (cc := cX15_text) (maxL := 4) (ret := (some .int)) (by decide) rfl ?_
  intro p e s m args below meth c s₁ B hml hv
  obtain ⟨rfl, hP, hK⟩ := hv
  have hx := B.exec
  have hb := B.bytes
  have hr := B.returns
  have hts := atoms_spec (ws := Cond.code yX15_text cX15_text 4 (some .int) :: bw) B.pre
  have hw : ∀ w ∈ bw, w.before _ s = true := fun w h => hts w (List.mem_cons_of_mem _ h)
  have hown : s.vm.findClass RX15 = some m.cls := findClass_of_methodNamed B.named
  have hl := lv_entry ([.ref h0, .int p1, .int p2]) (n := 4) (Nat.le_of_ble_eq_true rfl)
  rw [lg_entry_eq]
  generalize (lg_sl ([.ref h0, .int p1, .int p2]) ++ List.replicate (4 - (lg_sl ([.ref h0, .int p1, .int p2])).length) Slot.unset).toArray = ls at hl ⊢
  have hl : lv_has ls 4 [(0, .ref h0), (1, .int p1), (2, .int p2)] := hl
  refine lv_aload_n hx hb dX15_text_0 rfl (lv_at hl 0 rfl) ?_
  refine lv_iload_n hx hb dX15_text_1 rfl (lv_at hl 1 rfl) ?_
  have hPc := hP.sub (ws' := (mW h0 g b0 b1 b2)) [0, 1, 2, 3] rfl
  have hKc := hK.sub (tys' := []) [] rfl
  refine va_csq (va_runV (As := [.int p1]) (rest := []) ⟨hx, hb, hml, hown, hw⟩ (k_X15_known l dC dI h0 g b0 b1 b2 p1) ⟨callB_of 1 hw (gdw (wl_2 (List.mem_of_getElem? (i := 9) rfl))) rfl rfl rfl (hw (Cond.initialized RX15) (wl_1 (List.mem_of_getElem? (i := 21) rfl))) (hw (Cond.methodLink RX15 594 yX15_known) (wl_2 (List.mem_of_getElem? (i := 10) rfl))) (by decide +kernel) ⟨Nat.le_of_ble_eq_true rfl, Nat.le_of_ble_eq_true rfl⟩, (hw (Cond.instanceMethod yX15_known) (wl_2 (List.mem_of_getElem? (i := 11) rfl))), (hw (Cond.selects RX15 yX15_known yX15_known) (wl_2 (List.mem_of_getElem? (i := 12) rfl)))⟩ ⟨pR_blind, va_recv hKc hPc (ci := 14) (q0 := 0) rfl rfl, pR_of hPc hKc⟩ rfl rfl hl.1 rfl (lv_room (Nat.le_of_ble_eq_true rfl)) dX15_text_2 ⟨Nat.zero_le _, Nat.zero_le _⟩).run (fun r_1 e_2 => ?_)
  subst e_2
  refine W.eq (g2 := F0 m 5 ls [.null]) rfl ?_
  refine lv_astore_nN (lv' := [(3, .null), (0, .ref h0), (1, .int p1), (2, .int p2)]) hx hb dX15_text_5 rfl hl (by decide) rfl (fun ls hl => ?_)
  refine lv_aload_nN hx hb dX15_text_6 rfl (lv_at hl 0 rfl) ?_
  refine lv_ifnullN (tgt := 29) hx hb dX15_text_7 (by decide) ?_
  refine lv_iconst (v := (-1)) hx hb dX15_text_29 (by decide) ?_
  refine lv_goto (tgt := 43) hx hb dX15_text_30 (by decide) ?_
  exact W.iret (v := (-1)) hx hb hr (fun t ht hW => ⟨(-1), rfl, rfl, ht⟩) (fun q h => absurd h List.not_mem_nil) dX15_text_43
set_option maxHeartbeats 4000000 in
set_option maxRecDepth 100000 in
theorem k_X15_strays (l : Launch) (dC : Nat → ClassId) (dI : Nat → Nat → Nat) (h0 : Nat) (g b0 b1 b2 : Nat → Nat) : Met l yX15_strays (Cond.code yX15_strays cX15_strays 1 (some .int) :: bw) ({ frames := 0, cells := 0, slots := 0, locals := 0 }) (pR [.ref h0] (dC, dI) (mW h0 g b0 b1 b2) []) (vp_Si (fun r => r = 0)) 0 0 (fun _ => False) := by
  refine Met.ofW (cc := cX15_strays) (maxL := 1) (ret := (some .int)) (by decide) rfl ?_
  intro p e s m args below meth c s₁ B hml hv
  obtain ⟨rfl, hP, hK⟩ := hv
  have hx := B.exec
  have hb := B.bytes
  have hr := B.returns
  have hts := atoms_spec (ws := Cond.code yX15_strays cX15_strays 1 (some .int) :: bw) B.pre
  have hw : ∀ w ∈ bw, w.before _ s = true := fun w h => hts w (List.mem_cons_of_mem _ h)
  have hown : s.vm.findClass RX15 = some m.cls := findClass_of_methodNamed B.named
  have hl := lv_entry ([.ref h0]) (n := 1) (Nat.le_of_ble_eq_true rfl)
  rw [lg_entry_eq]
  generalize (lg_sl ([.ref h0]) ++ List.replicate (1 - (lg_sl ([.ref h0])).length) Slot.unset).toArray = ls at hl ⊢
  have hl : lv_has ls 1 [(0, .ref h0)] := hl
  refine lv_aload_n hx hb dX15_strays_0 rfl (lv_at hl 0 rfl) ?_
  refine va_get (D := (dC, dI)) (ci := 14) (v := .int 0) (C := RX15) (T := TX15) (N := 64) hx hb hw inlX15 hown hK hP 0 rfl rfl 53 (by decide) (hw (Cond.fieldLink RX15 518 "CodeLayoutModel" "strays" "I") (wl_2 (List.mem_of_getElem? (i := 17) rfl))) (fun _ h9 => h9) rfl dX15_strays_1 ?_
  exact W.iret (v := 0) hx hb hr (fun t ht hW => ⟨0, rfl, rfl, ht⟩) (fun q h => absurd h List.not_mem_nil) dX15_strays_4
