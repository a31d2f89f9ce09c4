theorem tb_1 {w : Cond} (h : w ∈ tables_1_1) : w ∈ lw_tbl := List.mem_append_right _ (show w ∈ tables_1 from (List.mem_append_left _ h))
theorem tb_2 {w : Cond} (h : w ∈ tables_1_2) : w ∈ lw_tbl := List.mem_append_right _ (show w ∈ tables_1 from (List.mem_append_right _ (List.mem_append_left _ h)))
theorem tb_3 {w : Cond} (h : w ∈ tables_1_3) : w ∈ lw_tbl := List.mem_append_right _ (show w ∈ tables_1 from (List.mem_append_right _ (List.mem_append_right _ (List.mem_append_left _ h))))
theorem tb_4 {w : Cond} (h : w ∈ tables_1_4) : w ∈ lw_tbl := List.mem_append_right _ (show w ∈ tables_1 from (List.mem_append_right _ (List.mem_append_right _ (List.mem_append_right _ (List.mem_append_left _ h)))))
theorem tb_5 {w : Cond} (h : w ∈ tables_1_5) : w ∈ lw_tbl := List.mem_append_right _ (show w ∈ tables_1 from (List.mem_append_right _ (List.mem_append_right _ (List.mem_append_right _ (List.mem_append_right _ (List.mem_append_left _ h))))))
theorem tb_6 {w : Cond} (h : w ∈ tables_1_6) : w ∈ lw_tbl := List.mem_append_right _ (show w ∈ tables_1 from (List.mem_append_right _ (List.mem_append_right _ (List.mem_append_right _ (List.mem_append_right _ (List.mem_append_right _ (List.mem_append_left _ h)))))))
theorem tb_7 {w : Cond} (h : w ∈ tables_1_7) : w ∈ lw_tbl := List.mem_append_right _ (show w ∈ tables_1 from (List.mem_append_right _ (List.mem_append_right _ (List.mem_append_right _ (List.mem_append_right _ (List.mem_append_right _ (List.mem_append_right _ (List.mem_append_left _ h))))))))
theorem tb_8 {w : Cond} (h : w ∈ tables_1_8) : w ∈ lw_tbl := List.mem_append_right _ (show w ∈ tables_1 from (List.mem_append_right _ (List.mem_append_right _ (List.mem_append_right _ (List.mem_append_right _ (List.mem_append_right _ (List.mem_append_right _ (List.mem_append_right _ (List.mem_append_left _ h)))))))))
theorem tb_9 {w : Cond} (h : w ∈ tables_1_9) : w ∈ lw_tbl := List.mem_append_right _ (show w ∈ tables_1 from (List.mem_append_right _ (List.mem_append_right _ (List.mem_append_right _ (List.mem_append_right _ (List.mem_append_right _ (List.mem_append_right _ (List.mem_append_right _ (List.mem_append_right _ (List.mem_append_left _ h))))))))))
theorem tb_10 {w : Cond} (h : w ∈ tables_1_10) : w ∈ lw_tbl := List.mem_append_right _ (show w ∈ tables_1 from (List.mem_append_right _ (List.mem_append_right _ (List.mem_append_right _ (List.mem_append_right _ (List.mem_append_right _ (List.mem_append_right _ (List.mem_append_right _ (List.mem_append_right _ (List.mem_append_right _ (List.mem_append_left _ h)))))))))))
theorem tb_11 {w : Cond} (h : w ∈ tables_1_11) : w ∈ lw_tbl := List.mem_append_right _ (show w ∈ tables_1 from (List.mem_append_right _ (List.mem_append_right _ (List.mem_append_right _ (List.mem_append_right _ (List.mem_append_right _ (List.mem_append_right _ (List.mem_append_right _ (List.mem_append_right _ (List.mem_append_right _ (List.mem_append_right _ (List.mem_append_left _ h))))))))))))
theorem tb_12 {w : Cond} (h : w ∈ tables_1_12) : w ∈ lw_tbl := List.mem_append_right _ (show w ∈ tables_1 from (List.mem_append_right _ (List.mem_append_right _ (List.mem_append_right _ (List.mem_append_right _ (List.mem_append_right _ (List.mem_append_right _ (List.mem_append_right _ (List.mem_append_right _ (List.mem_append_right _ (List.mem_append_right _ (List.mem_append_right _ (List.mem_append_left _ h)))))))))))))
theorem tb_13 {w : Cond} (h : w ∈ tables_1_13) : w ∈ lw_tbl := List.mem_append_right _ (show w ∈ tables_1 from (List.mem_append_right _ (List.mem_append_right _ (List.mem_append_right _ (List.mem_append_right _ (List.mem_append_right _ (List.mem_append_right _ (List.mem_append_right _ (List.mem_append_right _ (List.mem_append_right _ (List.mem_append_right _ (List.mem_append_right _ (List.mem_append_right _ (List.mem_append_left _ h))))))))))))))
theorem tb_14 {w : Cond} (h : w ∈ tables_1_14) : w ∈ lw_tbl := List.mem_append_right _ (show w ∈ tables_1 from (List.mem_append_right _ (List.mem_append_right _ (List.mem_append_right _ (List.mem_append_right _ (List.mem_append_right _ (List.mem_append_right _ (List.mem_append_right _ (List.mem_append_right _ (List.mem_append_right _ (List.mem_append_right _ (List.mem_append_right _ (List.mem_append_right _ (List.mem_append_right _ h))))))))))))))
theorem sl_1 {q : MethodName × Nat} (h : q ∈ lw_privs_1) : Cond.selects q.1.cls q.1 q.1 ∈ lw_tbl := List.mem_append_left _ (List.mem_map.mpr ⟨q, (show q ∈ lw_privs from (List.mem_append_left _ h)), rfl⟩)
theorem sl_2 {q : MethodName × Nat} (h : q ∈ lw_privs_2) : Cond.selects q.1.cls q.1 q.1 ∈ lw_tbl := List.mem_append_left _ (List.mem_map.mpr ⟨q, (show q ∈ lw_privs from (List.mem_append_right _ (List.mem_append_left _ h))), rfl⟩)
theorem sl_3 {q : MethodName × Nat} (h : q ∈ lw_privs_3) : Cond.selects q.1.cls q.1 q.1 ∈ lw_tbl := List.mem_append_left _ (List.mem_map.mpr ⟨q, (show q ∈ lw_privs from (List.mem_append_right _ (List.mem_append_right _ (List.mem_append_left _ h)))), rfl⟩)
theorem sl_4 {q : MethodName × Nat} (h : q ∈ lw_privs_4) : Cond.selects q.1.cls q.1 q.1 ∈ lw_tbl := List.mem_append_left _ (List.mem_map.mpr ⟨q, (show q ∈ lw_privs from (List.mem_append_right _ (List.mem_append_right _ (List.mem_append_right _ (List.mem_append_left _ h))))), rfl⟩)
theorem sl_5 {q : MethodName × Nat} (h : q ∈ lw_privs_5) : Cond.selects q.1.cls q.1 q.1 ∈ lw_tbl := List.mem_append_left _ (List.mem_map.mpr ⟨q, (show q ∈ lw_privs from (List.mem_append_right _ (List.mem_append_right _ (List.mem_append_right _ (List.mem_append_right _ (List.mem_append_left _ h)))))), rfl⟩)
theorem sl_6 {q : MethodName × Nat} (h : q ∈ lw_privs_6) : Cond.selects q.1.cls q.1 q.1 ∈ lw_tbl := List.mem_append_left _ (List.mem_map.mpr ⟨q, (show q ∈ lw_privs from (List.mem_append_right _ (List.mem_append_right _ (List.mem_append_right _ (List.mem_append_right _ (List.mem_append_right _ (List.mem_append_left _ h))))))), rfl⟩)
theorem sl_7 {q : MethodName × Nat} (h : q ∈ lw_privs_7) : Cond.selects q.1.cls q.1 q.1 ∈ lw_tbl := List.mem_append_left _ (List.mem_map.mpr ⟨q, (show q ∈ lw_privs from (List.mem_append_right _ (List.mem_append_right _ (List.mem_append_right _ (List.mem_append_right _ (List.mem_append_right _ (List.mem_append_right _ (List.mem_append_left _ h)))))))), rfl⟩)
theorem sl_8 {q : MethodName × Nat} (h : q ∈ lw_privs_8) : Cond.selects q.1.cls q.1 q.1 ∈ lw_tbl := List.mem_append_left _ (List.mem_map.mpr ⟨q, (show q ∈ lw_privs from (List.mem_append_right _ (List.mem_append_right _ (List.mem_append_right _ (List.mem_append_right _ (List.mem_append_right _ (List.mem_append_right _ (List.mem_append_right _ (List.mem_append_left _ h))))))))), rfl⟩)
theorem sl_9 {q : MethodName × Nat} (h : q ∈ lw_privs_9) : Cond.selects q.1.cls q.1 q.1 ∈ lw_tbl := List.mem_append_left _ (List.mem_map.mpr ⟨q, (show q ∈ lw_privs from (List.mem_append_right _ (List.mem_append_right _ (List.mem_append_right _ (List.mem_append_right _ (List.mem_append_right _ (List.mem_append_right _ (List.mem_append_right _ (List.mem_append_right _ (List.mem_append_left _ h)))))))))), rfl⟩)
theorem sl_10 {q : MethodName × Nat} (h : q ∈ lw_privs_10) : Cond.selects q.1.cls q.1 q.1 ∈ lw_tbl := List.mem_append_left _ (List.mem_map.mpr ⟨q, (show q ∈ lw_privs from (List.mem_append_right _ (List.mem_append_right _ (List.mem_append_right _ (List.mem_append_right _ (List.mem_append_right _ (List.mem_append_right _ (List.mem_append_right _ (List.mem_append_right _ (List.mem_append_right _ (List.mem_append_left _ h))))))))))), rfl⟩)
theorem sl_11 {q : MethodName × Nat} (h : q ∈ lw_privs_11) : Cond.selects q.1.cls q.1 q.1 ∈ lw_tbl := List.mem_append_left _ (List.mem_map.mpr ⟨q, (show q ∈ lw_privs from (List.mem_append_right _ (List.mem_append_right _ (List.mem_append_right _ (List.mem_append_right _ (List.mem_append_right _ (List.mem_append_right _ (List.mem_append_right _ (List.mem_append_right _ (List.mem_append_right _ (List.mem_append_right _ (List.mem_append_left _ h)))))))))))), rfl⟩)
theorem sl_12 {q : MethodName × Nat} (h : q ∈ lw_privs_12) : Cond.selects q.1.cls q.1 q.1 ∈ lw_tbl := List.mem_append_left _ (List.mem_map.mpr ⟨q, (show q ∈ lw_privs from (List.mem_append_right _ (List.mem_append_right _ (List.mem_append_right _ (List.mem_append_right _ (List.mem_append_right _ (List.mem_append_right _ (List.mem_append_right _ (List.mem_append_right _ (List.mem_append_right _ (List.mem_append_right _ (List.mem_append_right _ (List.mem_append_left _ h))))))))))))), rfl⟩)
theorem sl_13 {q : MethodName × Nat} (h : q ∈ lw_privs_13) : Cond.selects q.1.cls q.1 q.1 ∈ lw_tbl := List.mem_append_left _ (List.mem_map.mpr ⟨q, (show q ∈ lw_privs from (List.mem_append_right _ (List.mem_append_right _ (List.mem_append_right _ (List.mem_append_right _ (List.mem_append_right _ (List.mem_append_right _ (List.mem_append_right _ (List.mem_append_right _ (List.mem_append_right _ (List.mem_append_right _ (List.mem_append_right _ (List.mem_append_right _ (List.mem_append_left _ h)))))))))))))), rfl⟩)
theorem sl_14 {q : MethodName × Nat} (h : q ∈ lw_privs_14) : Cond.selects q.1.cls q.1 q.1 ∈ lw_tbl := List.mem_append_left _ (List.mem_map.mpr ⟨q, (show q ∈ lw_privs from (List.mem_append_right _ (List.mem_append_right _ (List.mem_append_right _ (List.mem_append_right _ (List.mem_append_right _ (List.mem_append_right _ (List.mem_append_right _ (List.mem_append_right _ (List.mem_append_right _ (List.mem_append_right _ (List.mem_append_right _ (List.mem_append_right _ (List.mem_append_right _ (List.mem_append_left _ h))))))))))))))), rfl⟩)
theorem sl_15 {q : MethodName × Nat} (h : q ∈ lw_privs_15) : Cond.selects q.1.cls q.1 q.1 ∈ lw_tbl := List.mem_append_left _ (List.mem_map.mpr ⟨q, (show q ∈ lw_privs from (List.mem_append_right _ (List.mem_append_right _ (List.mem_append_right _ (List.mem_append_right _ (List.mem_append_right _ (List.mem_append_right _ (List.mem_append_right _ (List.mem_append_right _ (List.mem_append_right _ (List.mem_append_right _ (List.mem_append_right _ (List.mem_append_right _ (List.mem_append_right _ (List.mem_append_right _ h))))))))))))))), rfl⟩)
def bw_1 : List Cond := [Cond.fieldLink RX11 67 "CodeLayout" "program" "LCodeLayout$Program;", Cond.fieldLink RX15 265 "CodeLayoutModel" "isRead" "Z", Cond.fieldLink RX11 19 "CodeLayout" "machines" "[LCodeLayout$Machine;", Cond.fieldLink RX11 13 "CodeLayout" "refusedAt" "I", Cond.constantLong RX11 126 (-14), Cond.fieldLink RX11 76 "CodeLayout" "counts" "LCodeLayout$Counts;", Cond.fieldLink RX11 84 "CodeLayout" "layout" "LCodeLayout$Layout;", Cond.code yX11_latest cX11_latest 2 (some (.object "CodeLayout$Machine")), Cond.initialized RX11, Cond.methodLink RX11 295 yX11_latest, Cond.instanceMethod yX11_latest, Cond.selects RX11 yX11_latest yX11_latest, Cond.code yX11_keeps cX11_keeps 4 (some .int), Cond.methodLink RX11 344 yX11_keeps, Cond.instanceMethod yX11_keeps, Cond.selects RX11 yX11_keeps yX11_keeps, Cond.fieldLink RX11 226 "CodeLayout" "strayed" "I", Cond.fieldLink RX15 175 "CodeLayoutModel" "run2" "LCodeLayoutModel$Run;", Cond.fieldLink RX15 172 "CodeLayoutModel" "run1" "LCodeLayoutModel$Run;", Cond.fieldLink RX15 168 "CodeLayoutModel" "run0" "LCodeLayoutModel$Run;", Cond.code yX15_runOf cX15_runOf 2 (some (.object "CodeLayoutModel$Run")), Cond.initialized RX15, Cond.methodLink RX15 587 yX15_runOf, Cond.instanceMethod yX15_runOf, Cond.selects RX15 yX15_runOf yX15_runOf]
theorem bi_1 : ∀ w ∈ bw_1, w ∈ lw_tbl := List.forall_mem_cons.mpr ⟨tb_1 (List.mem_of_getElem? (i := 35) (by decide +kernel)), List.forall_mem_cons.mpr ⟨tb_10 (List.mem_of_getElem? (i := 36) (by decide +kernel)), List.forall_mem_cons.mpr ⟨tb_1 (List.mem_of_getElem? (i := 42) (by decide +kernel)), List.forall_mem_cons.mpr ⟨tb_1 (List.mem_of_getElem? (i := 34) (by decide +kernel)), List.forall_mem_cons.mpr ⟨tb_4 (List.mem_of_getElem? (i := 108) (by decide +kernel)), List.forall_mem_cons.mpr ⟨tb_1 (List.mem_of_getElem? (i := 36) (by decide +kernel)), List.forall_mem_cons.mpr ⟨tb_1 (List.mem_of_getElem? (i := 38) (by decide +kernel)), List.forall_mem_cons.mpr ⟨tb_8 (List.mem_of_getElem? (i := 180) (by decide +kernel)), List.forall_mem_cons.mpr ⟨tb_1 (List.mem_of_getElem? (i := 1) (by decide +kernel)), List.forall_mem_cons.mpr ⟨tb_8 (List.mem_of_getElem? (i := 177) (by decide +kernel)), List.forall_mem_cons.mpr ⟨tb_8 (List.mem_of_getElem? (i := 179) (by decide +kernel)), List.forall_mem_cons.mpr ⟨(sl_8 (q := (yX11_latest, 12)) (List.mem_of_getElem? (i := 13) (by decide +kernel))), List.forall_mem_cons.mpr ⟨tb_8 (List.mem_of_getElem? (i := 225) (by decide +kernel)), List.forall_mem_cons.mpr ⟨tb_8 (List.mem_of_getElem? (i := 235) (by decide +kernel)), List.forall_mem_cons.mpr ⟨tb_8 (List.mem_of_getElem? (i := 223) (by decide +kernel)), List.forall_mem_cons.mpr ⟨tb_8 (List.mem_of_getElem? (i := 224) (by decide +kernel)), List.forall_mem_cons.mpr ⟨tb_1 (List.mem_of_getElem? (i := 41) (by decide +kernel)), List.forall_mem_cons.mpr ⟨tb_10 (List.mem_of_getElem? (i := 112) (by decide +kernel)), List.forall_mem_cons.mpr ⟨tb_10 (List.mem_of_getElem? (i := 111) (by decide +kernel)), List.forall_mem_cons.mpr ⟨tb_10 (List.mem_of_getElem? (i := 110) (by decide +kernel)), List.forall_mem_cons.mpr ⟨tb_13 (List.mem_of_getElem? (i := 64) (by decide +kernel)), List.forall_mem_cons.mpr ⟨tb_1 (List.mem_of_getElem? (i := 2) (by decide +kernel)), List.forall_mem_cons.mpr ⟨tb_13 (List.mem_of_getElem? (i := 61) (by decide +kernel)), List.forall_mem_cons.mpr ⟨tb_13 (List.mem_of_getElem? (i := 63) (by decide +kernel)), List.forall_mem_cons.mpr ⟨(sl_12 (q := (yX15_runOf, 64)) (List.mem_of_getElem? (i := 8) (by decide +kernel))), fun _ h => absurd h List.not_mem_nil⟩⟩⟩⟩⟩⟩⟩⟩⟩⟩⟩⟩⟩⟩⟩⟩⟩⟩⟩⟩⟩⟩⟩⟩⟩
def bw_2 : List Cond := [Cond.fieldLink RX15 584 "CodeLayoutModel$Run" "isThere" "Z", Cond.fieldLink RX15 32 "CodeLayoutModel" "place" "J", Cond.constantLong RX15 408 (-14), Cond.fieldLink RX15 272 "CodeLayoutModel" "ways" "I", Cond.fieldLink RX15 275 "CodeLayoutModel" "isLaid" "Z", Cond.code yX15_wordAt cX15_wordAt 3 (some .int), Cond.methodLink RX15 423 yX15_wordAt, Cond.instanceMethod yX15_wordAt, Cond.selects RX15 yX15_wordAt yX15_wordAt, Cond.code yX15_known cX15_known 3 (some (.object "CodeLayoutModel$Run")), Cond.methodLink RX15 594 yX15_known, Cond.instanceMethod yX15_known, Cond.selects RX15 yX15_known yX15_known, Cond.code yX15_keeps cX15_keeps 5 (some .int), Cond.methodLink RX15 648 yX15_keeps, Cond.instanceMethod yX15_keeps, Cond.selects RX15 yX15_keeps yX15_keeps, Cond.fieldLink RX15 518 "CodeLayoutModel" "strays" "I", Cond.methodLink RX11 1 objectInit, Cond.instanceMethod objectInit, Cond.code objectInit ⟨#[0xb1]⟩ 1 none, Cond.arrayClass .byte, Cond.fieldLink RX11 7 "CodeLayout" "tray" "[B", Cond.classLink RX11 17 RX6, Cond.methodLink RX12 1 objectInit]
theorem bi_2 : ∀ w ∈ bw_2, w ∈ lw_tbl := List.forall_mem_cons.mpr ⟨tb_9 (List.mem_of_getElem? (i := 177) (by decide +kernel)), List.forall_mem_cons.mpr ⟨tb_10 (List.mem_of_getElem? (i := 48) (by decide +kernel)), List.forall_mem_cons.mpr ⟨tb_12 (List.mem_of_getElem? (i := 52) (by decide +kernel)), List.forall_mem_cons.mpr ⟨tb_10 (List.mem_of_getElem? (i := 75) (by decide +kernel)), List.forall_mem_cons.mpr ⟨tb_10 (List.mem_of_getElem? (i := 100) (by decide +kernel)), List.forall_mem_cons.mpr ⟨tb_12 (List.mem_of_getElem? (i := 78) (by decide +kernel)), List.forall_mem_cons.mpr ⟨tb_12 (List.mem_of_getElem? (i := 75) (by decide +kernel)), List.forall_mem_cons.mpr ⟨tb_12 (List.mem_of_getElem? (i := 77) (by decide +kernel)), List.forall_mem_cons.mpr ⟨(sl_10 (q := (yX15_wordAt, 64)) (List.mem_of_getElem? (i := 13) (by decide +kernel))), List.forall_mem_cons.mpr ⟨tb_14 (List.mem_of_getElem? (i := 55) (by decide +kernel)), List.forall_mem_cons.mpr ⟨tb_14 (List.mem_of_getElem? (i := 52) (by decide +kernel)), List.forall_mem_cons.mpr ⟨tb_14 (List.mem_of_getElem? (i := 54) (by decide +kernel)), List.forall_mem_cons.mpr ⟨(sl_15 (q := (yX15_known, 64)) (List.mem_of_getElem? (i := 4) (by decide +kernel))), List.forall_mem_cons.mpr ⟨tb_14 (List.mem_of_getElem? (i := 84) (by decide +kernel)), List.forall_mem_cons.mpr ⟨tb_14 (List.mem_of_getElem? (i := 90) (by decide +kernel)), List.forall_mem_cons.mpr ⟨tb_14 (List.mem_of_getElem? (i := 82) (by decide +kernel)), List.forall_mem_cons.mpr ⟨tb_14 (List.mem_of_getElem? (i := 83) (by decide +kernel)), List.forall_mem_cons.mpr ⟨tb_10 (List.mem_of_getElem? (i := 101) (by decide +kernel)), List.forall_mem_cons.mpr ⟨tb_1 (List.mem_of_getElem? (i := 26) (by decide +kernel)), List.forall_mem_cons.mpr ⟨tb_1 (List.mem_of_getElem? (i := 27) (by decide +kernel)), List.forall_mem_cons.mpr ⟨tb_1 (List.mem_of_getElem? (i := 28) (by decide +kernel)), List.forall_mem_cons.mpr ⟨tb_1 (List.mem_of_getElem? (i := 68) (by decide +kernel)), List.forall_mem_cons.mpr ⟨tb_1 (List.mem_of_getElem? (i := 31) (by decide +kernel)), List.forall_mem_cons.mpr ⟨tb_1 (List.mem_of_getElem? (i := 29) (by decide +kernel)), List.forall_mem_cons.mpr ⟨tb_9 (List.mem_of_getElem? (i := 30) (by decide +kernel)), fun _ h => absurd h List.not_mem_nil⟩⟩⟩⟩⟩⟩⟩⟩⟩⟩⟩⟩⟩⟩⟩⟩⟩⟩⟩⟩⟩⟩⟩⟩⟩
def bw_3 : List Cond := [Cond.arrayClass .int, Cond.fieldLink RX12 7 "CodeLayoutModel$Heads" "flags" "[I", Cond.fieldLink RX12 13 "CodeLayoutModel$Heads" "offset" "[I", Cond.arrayClass .long, Cond.fieldLink RX12 16 "CodeLayoutModel$Heads" "address" "[J", Cond.fieldLink RX12 20 "CodeLayoutModel$Heads" "length" "[I", Cond.fieldLink RX12 23 "CodeLayoutModel$Heads" "type" "[I", Cond.fieldLink RX12 26 "CodeLayoutModel$Heads" "kind" "[I", Cond.fieldLink RX12 29 "CodeLayoutModel$Heads" "from" "[J", Cond.fieldLink RX12 32 "CodeLayoutModel$Heads" "at" "[J", Cond.fieldLink RX12 35 "CodeLayoutModel$Heads" "bytes" "[J", Cond.methodLink RX13 3 objectInit, Cond.fieldLink RX13 9 "CodeLayoutModel$Run" "x" "[J", Cond.fieldLink RX13 15 "CodeLayoutModel$Run" "mark" "[B", Cond.fieldLink RX13 19 "CodeLayoutModel$Run" "of" "[I", Cond.constant RX13 23 (125536), Cond.fieldLink RX13 24 "CodeLayoutModel$Run" "bytes" "[B", Cond.fieldLink RX13 27 "CodeLayoutModel$Run" "marks" "[B", Cond.fieldLink RX13 30 "CodeLayoutModel$Run" "ofs" "[I", Cond.fieldLink RX13 33 "CodeLayoutModel$Run" "visited" "[I", Cond.fieldLink RX13 36 "CodeLayoutModel$Run" "trace" "[J", Cond.fieldLink RX13 39 "CodeLayoutModel$Run" "text" "[B", Cond.fieldLink RX13 42 "CodeLayoutModel$Run" "m" "LCodeLayoutModel;", Cond.fieldLink RX13 46 "CodeLayoutModel$Run" "which" "I", Cond.methodLink RX14 3 objectInit]
theorem bi_3 : ∀ w ∈ bw_3, w ∈ lw_tbl := List.forall_mem_cons.mpr ⟨tb_1 (List.mem_of_getElem? (i := 152) (by decide +kernel)), List.forall_mem_cons.mpr ⟨tb_9 (List.mem_of_getElem? (i := 44) (by decide +kernel)), List.forall_mem_cons.mpr ⟨tb_9 (List.mem_of_getElem? (i := 46) (by decide +kernel)), List.forall_mem_cons.mpr ⟨tb_1 (List.mem_of_getElem? (i := 233) (by decide +kernel)), List.forall_mem_cons.mpr ⟨tb_9 (List.mem_of_getElem? (i := 48) (by decide +kernel)), List.forall_mem_cons.mpr ⟨tb_9 (List.mem_of_getElem? (i := 50) (by decide +kernel)), List.forall_mem_cons.mpr ⟨tb_9 (List.mem_of_getElem? (i := 52) (by decide +kernel)), List.forall_mem_cons.mpr ⟨tb_9 (List.mem_of_getElem? (i := 53) (by decide +kernel)), List.forall_mem_cons.mpr ⟨tb_9 (List.mem_of_getElem? (i := 54) (by decide +kernel)), List.forall_mem_cons.mpr ⟨tb_9 (List.mem_of_getElem? (i := 57) (by decide +kernel)), List.forall_mem_cons.mpr ⟨tb_9 (List.mem_of_getElem? (i := 60) (by decide +kernel)), List.forall_mem_cons.mpr ⟨tb_9 (List.mem_of_getElem? (i := 172) (by decide +kernel)), List.forall_mem_cons.mpr ⟨tb_9 (List.mem_of_getElem? (i := 178) (by decide +kernel)), List.forall_mem_cons.mpr ⟨tb_9 (List.mem_of_getElem? (i := 180) (by decide +kernel)), List.forall_mem_cons.mpr ⟨tb_9 (List.mem_of_getElem? (i := 182) (by decide +kernel)), List.forall_mem_cons.mpr ⟨tb_9 (List.mem_of_getElem? (i := 173) (by decide +kernel)), List.forall_mem_cons.mpr ⟨tb_9 (List.mem_of_getElem? (i := 192) (by decide +kernel)), List.forall_mem_cons.mpr ⟨tb_9 (List.mem_of_getElem? (i := 194) (by decide +kernel)), List.forall_mem_cons.mpr ⟨tb_9 (List.mem_of_getElem? (i := 196) (by decide +kernel)), List.forall_mem_cons.mpr ⟨tb_9 (List.mem_of_getElem? (i := 198) (by decide +kernel)), List.forall_mem_cons.mpr ⟨tb_9 (List.mem_of_getElem? (i := 212) (by decide +kernel)), List.forall_mem_cons.mpr ⟨tb_9 (List.mem_of_getElem? (i := 214) (by decide +kernel)), List.forall_mem_cons.mpr ⟨tb_9 (List.mem_of_getElem? (i := 174) (by decide +kernel)), List.forall_mem_cons.mpr ⟨tb_9 (List.mem_of_getElem? (i := 175) (by decide +kernel)), List.forall_mem_cons.mpr ⟨tb_9 (List.mem_of_getElem? (i := 112) (by decide +kernel)), fun _ h => absurd h List.not_mem_nil⟩⟩⟩⟩⟩⟩⟩⟩⟩⟩⟩⟩⟩⟩⟩⟩⟩⟩⟩⟩⟩⟩⟩⟩⟩
def bw_4 : List Cond := [Cond.fieldLink RX14 9 "CodeLayoutModel$Written" "order" "[I", Cond.fieldLink RX14 15 "CodeLayoutModel$Written" "at" "[I", Cond.fieldLink RX14 18 "CodeLayoutModel$Written" "how" "[B", Cond.arrayClass .boolean, Cond.fieldLink RX14 22 "CodeLayoutModel$Written" "isLong" "[Z", Cond.fieldLink RX14 26 "CodeLayoutModel$Written" "hasB" "[Z", Cond.fieldLink RX14 29 "CodeLayoutModel$Written" "next" "[I", Cond.fieldLink RX14 32 "CodeLayoutModel$Written" "m" "LCodeLayoutModel;", Cond.methodLink RX15 1 objectInit, Cond.constant RX15 9 (60000), Cond.fieldLink RX15 10 "CodeLayoutModel" "tray" "[B", Cond.fieldLink RX15 14 "CodeLayoutModel" "file" "[B", Cond.fieldLink RX15 17 "CodeLayoutModel" "spare" "[B", Cond.classLink RX15 20 RX12, Cond.instantiable RX12 18, Cond.initialized RX12, Cond.code yX12_init cX12_init 1 none, Cond.instanceMethod yX12_init, Cond.fieldLink RX15 23 "CodeLayoutModel" "heads" "LCodeLayoutModel$Heads;", Cond.fieldLink RX15 27 "CodeLayoutModel" "spareHeads" "LCodeLayoutModel$Heads;", Cond.constantLong RX15 30 (-1), Cond.fieldLink RX15 36 "CodeLayoutModel" "words" "[I", Cond.fieldLink RX15 40 "CodeLayoutModel" "fixOf" "[I", Cond.fieldLink RX15 43 "CodeLayoutModel" "blockOf" "[I", Cond.fieldLink RX15 46 "CodeLayoutModel" "leads" "[Z"]
theorem bi_4 : ∀ w ∈ bw_4, w ∈ lw_tbl := List.forall_mem_cons.mpr ⟨tb_9 (List.mem_of_getElem? (i := 114) (by decide +kernel)), List.forall_mem_cons.mpr ⟨tb_9 (List.mem_of_getElem? (i := 118) (by decide +kernel)), List.forall_mem_cons.mpr ⟨tb_9 (List.mem_of_getElem? (i := 120) (by decide +kernel)), List.forall_mem_cons.mpr ⟨tb_4 (List.mem_of_getElem? (i := 82) (by decide +kernel)), List.forall_mem_cons.mpr ⟨tb_9 (List.mem_of_getElem? (i := 121) (by decide +kernel)), List.forall_mem_cons.mpr ⟨tb_9 (List.mem_of_getElem? (i := 122) (by decide +kernel)), List.forall_mem_cons.mpr ⟨tb_9 (List.mem_of_getElem? (i := 123) (by decide +kernel)), List.forall_mem_cons.mpr ⟨tb_9 (List.mem_of_getElem? (i := 113) (by decide +kernel)), List.forall_mem_cons.mpr ⟨tb_9 (List.mem_of_getElem? (i := 23) (by decide +kernel)), List.forall_mem_cons.mpr ⟨tb_9 (List.mem_of_getElem? (i := 24) (by decide +kernel)), List.forall_mem_cons.mpr ⟨tb_10 (List.mem_of_getElem? (i := 26) (by decide +kernel)), List.forall_mem_cons.mpr ⟨tb_10 (List.mem_of_getElem? (i := 29) (by decide +kernel)), List.forall_mem_cons.mpr ⟨tb_10 (List.mem_of_getElem? (i := 31) (by decide +kernel)), List.forall_mem_cons.mpr ⟨tb_9 (List.mem_of_getElem? (i := 25) (by decide +kernel)), List.forall_mem_cons.mpr ⟨tb_9 (List.mem_of_getElem? (i := 26) (by decide +kernel)), List.forall_mem_cons.mpr ⟨tb_1 (List.mem_of_getElem? (i := 3) (by decide +kernel)), List.forall_mem_cons.mpr ⟨tb_9 (List.mem_of_getElem? (i := 29) (by decide +kernel)), List.forall_mem_cons.mpr ⟨tb_9 (List.mem_of_getElem? (i := 28) (by decide +kernel)), List.forall_mem_cons.mpr ⟨tb_10 (List.mem_of_getElem? (i := 32) (by decide +kernel)), List.forall_mem_cons.mpr ⟨tb_10 (List.mem_of_getElem? (i := 35) (by decide +kernel)), List.forall_mem_cons.mpr ⟨tb_9 (List.mem_of_getElem? (i := 106) (by decide +kernel)), List.forall_mem_cons.mpr ⟨tb_10 (List.mem_of_getElem? (i := 49) (by decide +kernel)), List.forall_mem_cons.mpr ⟨tb_10 (List.mem_of_getElem? (i := 52) (by decide +kernel)), List.forall_mem_cons.mpr ⟨tb_10 (List.mem_of_getElem? (i := 55) (by decide +kernel)), List.forall_mem_cons.mpr ⟨tb_10 (List.mem_of_getElem? (i := 58) (by decide +kernel)), fun _ h => absurd h List.not_mem_nil⟩⟩⟩⟩⟩⟩⟩⟩⟩⟩⟩⟩⟩⟩⟩⟩⟩⟩⟩⟩⟩⟩⟩⟩⟩
def bw_5 : List Cond := [Cond.fieldLink RX15 50 "CodeLayoutModel" "firstWord" "[I", Cond.fieldLink RX15 53 "CodeLayoutModel" "wordsOf" "[I", Cond.fieldLink RX15 56 "CodeLayoutModel" "firstBlock" "[I", Cond.fieldLink RX15 59 "CodeLayoutModel" "begin" "[I", Cond.fieldLink RX15 62 "CodeLayoutModel" "many" "[I", Cond.fieldLink RX15 65 "CodeLayoutModel" "functionOf" "[I", Cond.fieldLink RX15 68 "CodeLayoutModel" "ends" "[I", Cond.fieldLink RX15 71 "CodeLayoutModel" "taken" "[I", Cond.fieldLink RX15 74 "CodeLayoutModel" "isNamed" "[Z", Cond.fieldLink RX15 77 "CodeLayoutModel" "wayFrom" "[I", Cond.fieldLink RX15 80 "CodeLayoutModel" "wayTo" "[I", Cond.fieldLink RX15 83 "CodeLayoutModel" "isCall" "[Z", Cond.fieldLink RX15 86 "CodeLayoutModel" "wayCount" "[J", Cond.fieldLink RX15 90 "CodeLayoutModel" "isHot" "[Z", Cond.fieldLink RX15 93 "CodeLayoutModel" "chain" "[I", Cond.fieldLink RX15 96 "CodeLayoutModel" "behind" "[I", Cond.fieldLink RX15 99 "CodeLayoutModel" "isPlaced" "[Z", Cond.fieldLink RX15 102 "CodeLayoutModel" "row" "[I", Cond.fieldLink RX15 105 "CodeLayoutModel" "plain" "[I", Cond.fieldLink RX15 108 "CodeLayoutModel" "weights" "[J", Cond.fieldLink RX15 111 "CodeLayoutModel" "weightsBefore" "[J", Cond.fieldLink RX15 114 "CodeLayoutModel" "cluster" "[I", Cond.fieldLink RX15 117 "CodeLayoutModel" "clusterPlace" "[I", Cond.fieldLink RX15 120 "CodeLayoutModel" "clusterMany" "[I", Cond.fieldLink RX15 123 "CodeLayoutModel" "clusterHeat" "[J"]
theorem bi_5 : ∀ w ∈ bw_5, w ∈ lw_tbl := List.forall_mem_cons.mpr ⟨tb_10 (List.mem_of_getElem? (i := 59) (by decide +kernel)), List.forall_mem_cons.mpr ⟨tb_10 (List.mem_of_getElem? (i := 60) (by decide +kernel)), List.forall_mem_cons.mpr ⟨tb_10 (List.mem_of_getElem? (i := 61) (by decide +kernel)), List.forall_mem_cons.mpr ⟨tb_10 (List.mem_of_getElem? (i := 62) (by decide +kernel)), List.forall_mem_cons.mpr ⟨tb_10 (List.mem_of_getElem? (i := 65) (by decide +kernel)), List.forall_mem_cons.mpr ⟨tb_10 (List.mem_of_getElem? (i := 68) (by decide +kernel)), List.forall_mem_cons.mpr ⟨tb_10 (List.mem_of_getElem? (i := 69) (by decide +kernel)), List.forall_mem_cons.mpr ⟨tb_10 (List.mem_of_getElem? (i := 71) (by decide +kernel)), List.forall_mem_cons.mpr ⟨tb_10 (List.mem_of_getElem? (i := 73) (by decide +kernel)), List.forall_mem_cons.mpr ⟨tb_10 (List.mem_of_getElem? (i := 76) (by decide +kernel)), List.forall_mem_cons.mpr ⟨tb_10 (List.mem_of_getElem? (i := 77) (by decide +kernel)), List.forall_mem_cons.mpr ⟨tb_10 (List.mem_of_getElem? (i := 78) (by decide +kernel)), List.forall_mem_cons.mpr ⟨tb_10 (List.mem_of_getElem? (i := 79) (by decide +kernel)), List.forall_mem_cons.mpr ⟨tb_10 (List.mem_of_getElem? (i := 80) (by decide +kernel)), List.forall_mem_cons.mpr ⟨tb_10 (List.mem_of_getElem? (i := 81) (by decide +kernel)), List.forall_mem_cons.mpr ⟨tb_10 (List.mem_of_getElem? (i := 82) (by decide +kernel)), List.forall_mem_cons.mpr ⟨tb_10 (List.mem_of_getElem? (i := 83) (by decide +kernel)), List.forall_mem_cons.mpr ⟨tb_10 (List.mem_of_getElem? (i := 84) (by decide +kernel)), List.forall_mem_cons.mpr ⟨tb_10 (List.mem_of_getElem? (i := 85) (by decide +kernel)), List.forall_mem_cons.mpr ⟨tb_10 (List.mem_of_getElem? (i := 86) (by decide +kernel)), List.forall_mem_cons.mpr ⟨tb_10 (List.mem_of_getElem? (i := 87) (by decide +kernel)), List.forall_mem_cons.mpr ⟨tb_10 (List.mem_of_getElem? (i := 88) (by decide +kernel)), List.forall_mem_cons.mpr ⟨tb_10 (List.mem_of_getElem? (i := 89) (by decide +kernel)), List.forall_mem_cons.mpr ⟨tb_10 (List.mem_of_getElem? (i := 90) (by decide +kernel)), List.forall_mem_cons.mpr ⟨tb_10 (List.mem_of_getElem? (i := 91) (by decide +kernel)), fun _ h => absurd h List.not_mem_nil⟩⟩⟩⟩⟩⟩⟩⟩⟩⟩⟩⟩⟩⟩⟩⟩⟩⟩⟩⟩⟩⟩⟩⟩⟩
def bw_6 : List Cond := [Cond.fieldLink RX15 126 "CodeLayoutModel" "clusterSize" "[J", Cond.fieldLink RX15 129 "CodeLayoutModel" "heats" "[J", Cond.fieldLink RX15 132 "CodeLayoutModel" "one" "[I", Cond.fieldLink RX15 135 "CodeLayoutModel" "sums" "[J", Cond.classLink RX15 138 RX14, Cond.instantiable RX14 14, Cond.initialized RX14, Cond.code yX14_init cX14_init 2 none, Cond.methodLink RX15 140 yX14_init, Cond.instanceMethod yX14_init, Cond.fieldLink RX15 143 "CodeLayoutModel" "laid" "LCodeLayoutModel$Written;", Cond.fieldLink RX15 147 "CodeLayoutModel" "whole" "LCodeLayoutModel$Written;", Cond.constant RX15 150 (2400000), Cond.fieldLink RX15 151 "CodeLayoutModel" "out" "[B", Cond.fieldLink RX15 154 "CodeLayoutModel" "done" "[Z", Cond.fieldLink RX15 157 "CodeLayoutModel" "inHot" "[Z", Cond.fieldLink RX15 160 "CodeLayoutModel" "again" "LCodeLayoutModel$Heads;", Cond.classLink RX15 163 RX13, Cond.instantiable RX13 24, Cond.initialized RX13, Cond.code yX13_init cX13_init 3 none, Cond.methodLink RX15 165 yX13_init, Cond.instanceMethod yX13_init]
theorem bi_6 : ∀ w ∈ bw_6, w ∈ lw_tbl := List.forall_mem_cons.mpr ⟨tb_10 (List.mem_of_getElem? (i := 92) (by decide +kernel)), List.forall_mem_cons.mpr ⟨tb_10 (List.mem_of_getElem? (i := 93) (by decide +kernel)), List.forall_mem_cons.mpr ⟨tb_10 (List.mem_of_getElem? (i := 94) (by decide +kernel)), List.forall_mem_cons.mpr ⟨tb_10 (List.mem_of_getElem? (i := 95) (by decide +kernel)), List.forall_mem_cons.mpr ⟨tb_9 (List.mem_of_getElem? (i := 107) (by decide +kernel)), List.forall_mem_cons.mpr ⟨tb_9 (List.mem_of_getElem? (i := 108) (by decide +kernel)), List.forall_mem_cons.mpr ⟨tb_1 (List.mem_of_getElem? (i := 4) (by decide +kernel)), List.forall_mem_cons.mpr ⟨tb_9 (List.mem_of_getElem? (i := 111) (by decide +kernel)), List.forall_mem_cons.mpr ⟨tb_9 (List.mem_of_getElem? (i := 109) (by decide +kernel)), List.forall_mem_cons.mpr ⟨tb_9 (List.mem_of_getElem? (i := 110) (by decide +kernel)), List.forall_mem_cons.mpr ⟨tb_10 (List.mem_of_getElem? (i := 96) (by decide +kernel)), List.forall_mem_cons.mpr ⟨tb_10 (List.mem_of_getElem? (i := 98) (by decide +kernel)), List.forall_mem_cons.mpr ⟨tb_9 (List.mem_of_getElem? (i := 166) (by decide +kernel)), List.forall_mem_cons.mpr ⟨tb_10 (List.mem_of_getElem? (i := 102) (by decide +kernel)), List.forall_mem_cons.mpr ⟨tb_10 (List.mem_of_getElem? (i := 107) (by decide +kernel)), List.forall_mem_cons.mpr ⟨tb_10 (List.mem_of_getElem? (i := 108) (by decide +kernel)), List.forall_mem_cons.mpr ⟨tb_10 (List.mem_of_getElem? (i := 109) (by decide +kernel)), List.forall_mem_cons.mpr ⟨tb_9 (List.mem_of_getElem? (i := 167) (by decide +kernel)), List.forall_mem_cons.mpr ⟨tb_9 (List.mem_of_getElem? (i := 168) (by decide +kernel)), List.forall_mem_cons.mpr ⟨tb_1 (List.mem_of_getElem? (i := 5) (by decide +kernel)), List.forall_mem_cons.mpr ⟨tb_9 (List.mem_of_getElem? (i := 171) (by decide +kernel)), List.forall_mem_cons.mpr ⟨tb_9 (List.mem_of_getElem? (i := 169) (by decide +kernel)), List.forall_mem_cons.mpr ⟨tb_9 (List.mem_of_getElem? (i := 170) (by decide +kernel)), fun _ h => absurd h List.not_mem_nil⟩⟩⟩⟩⟩⟩⟩⟩⟩⟩⟩⟩⟩⟩⟩⟩⟩⟩⟩⟩⟩⟩⟩
theorem ly_X11 : ∀ k, k < 12 → u_lay RX11 TX11 k ∈ lw_tbl := fun k hk => match k, hk with
  | 0, _ => tb_1 (List.mem_of_getElem? (i := 43) (by decide +kernel))
  | 1, _ => tb_1 (List.mem_of_getElem? (i := 45) (by decide +kernel))
  | 2, _ => tb_1 (List.mem_of_getElem? (i := 47) (by decide +kernel))
  | 3, _ => tb_1 (List.mem_of_getElem? (i := 49) (by decide +kernel))
  | 4, _ => tb_1 (List.mem_of_getElem? (i := 51) (by decide +kernel))
  | 5, _ => tb_1 (List.mem_of_getElem? (i := 53) (by decide +kernel))
  | 6, _ => tb_1 (List.mem_of_getElem? (i := 55) (by decide +kernel))
  | 7, _ => tb_1 (List.mem_of_getElem? (i := 57) (by decide +kernel))
  | 8, _ => tb_1 (List.mem_of_getElem? (i := 59) (by decide +kernel))
  | 9, _ => tb_1 (List.mem_of_getElem? (i := 61) (by decide +kernel))
  | 10, _ => tb_1 (List.mem_of_getElem? (i := 63) (by decide +kernel))
  | 11, _ => tb_1 (List.mem_of_getElem? (i := 65) (by decide +kernel))
  | k + 12, hk => absurd hk (by omega)
theorem bx_X11 : ∀ w ∈ wsX110, w ∈ lw_tbl := fun w h => by
  obtain ⟨k, hk, rfl⟩ := List.mem_map.mp h
  exact ly_X11 k (List.mem_range.mp hk)
theorem ly_X15 : ∀ k, k < 64 → u_lay RX15 TX15 k ∈ lw_tbl := fun k hk => match k, hk with
  | 0, _ => tb_10 (List.mem_of_getElem? (i := 113) (by decide +kernel))
  | 1, _ => tb_10 (List.mem_of_getElem? (i := 115) (by decide +kernel))
  | 2, _ => tb_10 (List.mem_of_getElem? (i := 117) (by decide +kernel))
  | 3, _ => tb_10 (List.mem_of_getElem? (i := 119) (by decide +kernel))
  | 4, _ => tb_10 (List.mem_of_getElem? (i := 121) (by decide +kernel))
  | 5, _ => tb_10 (List.mem_of_getElem? (i := 123) (by decide +kernel))
  | 6, _ => tb_10 (List.mem_of_getElem? (i := 125) (by decide +kernel))
  | 7, _ => tb_10 (List.mem_of_getElem? (i := 127) (by decide +kernel))
  | 8, _ => tb_10 (List.mem_of_getElem? (i := 129) (by decide +kernel))
  | 9, _ => tb_10 (List.mem_of_getElem? (i := 131) (by decide +kernel))
  | 10, _ => tb_10 (List.mem_of_getElem? (i := 133) (by decide +kernel))
  | 11, _ => tb_10 (List.mem_of_getElem? (i := 135) (by decide +kernel))
  | 12, _ => tb_10 (List.mem_of_getElem? (i := 137) (by decide +kernel))
  | 13, _ => tb_10 (List.mem_of_getElem? (i := 139) (by decide +kernel))
  | 14, _ => tb_10 (List.mem_of_getElem? (i := 141) (by decide +kernel))
  | 15, _ => tb_10 (List.mem_of_getElem? (i := 143) (by decide +kernel))
  | 16, _ => tb_10 (List.mem_of_getElem? (i := 145) (by decide +kernel))
  | 17, _ => tb_10 (List.mem_of_getElem? (i := 147) (by decide +kernel))
  | 18, _ => tb_10 (List.mem_of_getElem? (i := 149) (by decide +kernel))
  | 19, _ => tb_10 (List.mem_of_getElem? (i := 151) (by decide +kernel))
  | 20, _ => tb_10 (List.mem_of_getElem? (i := 153) (by decide +kernel))
  | 21, _ => tb_10 (List.mem_of_getElem? (i := 155) (by decide +kernel))
  | 22, _ => tb_10 (List.mem_of_getElem? (i := 157) (by decide +kernel))
  | 23, _ => tb_10 (List.mem_of_getElem? (i := 159) (by decide +kernel))
  | 24, _ => tb_10 (List.mem_of_getElem? (i := 161) (by decide +kernel))
  | 25, _ => tb_10 (List.mem_of_getElem? (i := 163) (by decide +kernel))
  | 26, _ => tb_10 (List.mem_of_getElem? (i := 165) (by decide +kernel))
  | 27, _ => tb_10 (List.mem_of_getElem? (i := 167) (by decide +kernel))
  | 28, _ => tb_10 (List.mem_of_getElem? (i := 169) (by decide +kernel))
  | 29, _ => tb_10 (List.mem_of_getElem? (i := 171) (by decide +kernel))
  | 30, _ => tb_10 (List.mem_of_getElem? (i := 173) (by decide +kernel))
  | 31, _ => tb_10 (List.mem_of_getElem? (i := 175) (by decide +kernel))
  | 32, _ => tb_10 (List.mem_of_getElem? (i := 177) (by decide +kernel))
  | 33, _ => tb_10 (List.mem_of_getElem? (i := 179) (by decide +kernel))
  | 34, _ => tb_10 (List.mem_of_getElem? (i := 181) (by decide +kernel))
  | 35, _ => tb_10 (List.mem_of_getElem? (i := 183) (by decide +kernel))
  | 36, _ => tb_10 (List.mem_of_getElem? (i := 185) (by decide +kernel))
  | 37, _ => tb_10 (List.mem_of_getElem? (i := 187) (by decide +kernel))
  | 38, _ => tb_10 (List.mem_of_getElem? (i := 189) (by decide +kernel))
  | 39, _ => tb_10 (List.mem_of_getElem? (i := 191) (by decide +kernel))
  | 40, _ => tb_10 (List.mem_of_getElem? (i := 193) (by decide +kernel))
  | 41, _ => tb_10 (List.mem_of_getElem? (i := 195) (by decide +kernel))
  | 42, _ => tb_10 (List.mem_of_getElem? (i := 197) (by decide +kernel))
  | 43, _ => tb_10 (List.mem_of_getElem? (i := 199) (by decide +kernel))
  | 44, _ => tb_10 (List.mem_of_getElem? (i := 201) (by decide +kernel))
  | 45, _ => tb_10 (List.mem_of_getElem? (i := 203) (by decide +kernel))
  | 46, _ => tb_10 (List.mem_of_getElem? (i := 205) (by decide +kernel))
  | 47, _ => tb_10 (List.mem_of_getElem? (i := 207) (by decide +kernel))
  | 48, _ => tb_10 (List.mem_of_getElem? (i := 209) (by decide +kernel))
  | 49, _ => tb_10 (List.mem_of_getElem? (i := 211) (by decide +kernel))
  | 50, _ => tb_10 (List.mem_of_getElem? (i := 213) (by decide +kernel))
  | 51, _ => tb_10 (List.mem_of_getElem? (i := 215) (by decide +kernel))
  | 52, _ => tb_10 (List.mem_of_getElem? (i := 217) (by decide +kernel))
  | 53, _ => tb_10 (List.mem_of_getElem? (i := 219) (by decide +kernel))
  | 54, _ => tb_10 (List.mem_of_getElem? (i := 221) (by decide +kernel))
  | 55, _ => tb_10 (List.mem_of_getElem? (i := 223) (by decide +kernel))
  | 56, _ => tb_10 (List.mem_of_getElem? (i := 225) (by decide +kernel))
  | 57, _ => tb_10 (List.mem_of_getElem? (i := 227) (by decide +kernel))
  | 58, _ => tb_10 (List.mem_of_getElem? (i := 229) (by decide +kernel))
  | 59, _ => tb_10 (List.mem_of_getElem? (i := 231) (by decide +kernel))
  | 60, _ => tb_10 (List.mem_of_getElem? (i := 233) (by decide +kernel))
  | 61, _ => tb_10 (List.mem_of_getElem? (i := 235) (by decide +kernel))
  | 62, _ => tb_10 (List.mem_of_getElem? (i := 237) (by decide +kernel))
  | 63, _ => tb_10 (List.mem_of_getElem? (i := 239) (by decide +kernel))
  | k + 64, hk => absurd hk (by omega)
theorem bx_X15 : ∀ w ∈ wsX150, w ∈ lw_tbl := fun w h => by
  obtain ⟨k, hk, rfl⟩ := List.mem_map.mp h
  exact ly_X15 k (List.mem_range.mp hk)
theorem ly_X13 : ∀ k, k < 24 → u_lay RX13 TX13 k ∈ lw_tbl := fun k hk => match k, hk with
  | 0, _ => tb_9 (List.mem_of_getElem? (i := 217) (by decide +kernel))
  | 1, _ => tb_9 (List.mem_of_getElem? (i := 219) (by decide +kernel))
  | 2, _ => tb_9 (List.mem_of_getElem? (i := 221) (by decide +kernel))
  | 3, _ => tb_9 (List.mem_of_getElem? (i := 223) (by decide +kernel))
  | 4, _ => tb_9 (List.mem_of_getElem? (i := 225) (by decide +kernel))
  | 5, _ => tb_9 (List.mem_of_getElem? (i := 227) (by decide +kernel))
  | 6, _ => tb_9 (List.mem_of_getElem? (i := 229) (by decide +kernel))
  | 7, _ => tb_9 (List.mem_of_getElem? (i := 231) (by decide +kernel))
  | 8, _ => tb_9 (List.mem_of_getElem? (i := 233) (by decide +kernel))
  | 9, _ => tb_9 (List.mem_of_getElem? (i := 235) (by decide +kernel))
  | 10, _ => tb_9 (List.mem_of_getElem? (i := 237) (by decide +kernel))
  | 11, _ => tb_9 (List.mem_of_getElem? (i := 239) (by decide +kernel))
  | 12, _ => tb_10 (List.mem_of_getElem? (i := 1) (by decide +kernel))
  | 13, _ => tb_10 (List.mem_of_getElem? (i := 3) (by decide +kernel))
  | 14, _ => tb_10 (List.mem_of_getElem? (i := 5) (by decide +kernel))
  | 15, _ => tb_10 (List.mem_of_getElem? (i := 7) (by decide +kernel))
  | 16, _ => tb_10 (List.mem_of_getElem? (i := 9) (by decide +kernel))
  | 17, _ => tb_10 (List.mem_of_getElem? (i := 11) (by decide +kernel))
  | 18, _ => tb_10 (List.mem_of_getElem? (i := 13) (by decide +kernel))
  | 19, _ => tb_10 (List.mem_of_getElem? (i := 15) (by decide +kernel))
  | 20, _ => tb_10 (List.mem_of_getElem? (i := 17) (by decide +kernel))
  | 21, _ => tb_10 (List.mem_of_getElem? (i := 19) (by decide +kernel))
  | 22, _ => tb_10 (List.mem_of_getElem? (i := 21) (by decide +kernel))
  | 23, _ => tb_10 (List.mem_of_getElem? (i := 23) (by decide +kernel))
  | k + 24, hk => absurd hk (by omega)
theorem bx_X13 : ∀ w ∈ wsX130, w ∈ lw_tbl := fun w h => by
  obtain ⟨k, hk, rfl⟩ := List.mem_map.mp h
  exact ly_X13 k (List.mem_range.mp hk)
theorem ly_X12 : ∀ k, k < 18 → u_lay RX12 TX12 k ∈ lw_tbl := fun k hk => match k, hk with
  | 0, _ => tb_9 (List.mem_of_getElem? (i := 69) (by decide +kernel))
  | 1, _ => tb_9 (List.mem_of_getElem? (i := 71) (by decide +kernel))
  | 2, _ => tb_9 (List.mem_of_getElem? (i := 73) (by decide +kernel))
  | 3, _ => tb_9 (List.mem_of_getElem? (i := 75) (by decide +kernel))
  | 4, _ => tb_9 (List.mem_of_getElem? (i := 77) (by decide +kernel))
  | 5, _ => tb_9 (List.mem_of_getElem? (i := 79) (by decide +kernel))
  | 6, _ => tb_9 (List.mem_of_getElem? (i := 81) (by decide +kernel))
  | 7, _ => tb_9 (List.mem_of_getElem? (i := 83) (by decide +kernel))
  | 8, _ => tb_9 (List.mem_of_getElem? (i := 85) (by decide +kernel))
  | 9, _ => tb_9 (List.mem_of_getElem? (i := 87) (by decide +kernel))
  | 10, _ => tb_9 (List.mem_of_getElem? (i := 89) (by decide +kernel))
  | 11, _ => tb_9 (List.mem_of_getElem? (i := 91) (by decide +kernel))
  | 12, _ => tb_9 (List.mem_of_getElem? (i := 93) (by decide +kernel))
  | 13, _ => tb_9 (List.mem_of_getElem? (i := 95) (by decide +kernel))
  | 14, _ => tb_9 (List.mem_of_getElem? (i := 97) (by decide +kernel))
  | 15, _ => tb_9 (List.mem_of_getElem? (i := 99) (by decide +kernel))
  | 16, _ => tb_9 (List.mem_of_getElem? (i := 101) (by decide +kernel))
  | 17, _ => tb_9 (List.mem_of_getElem? (i := 103) (by decide +kernel))
  | k + 18, hk => absurd hk (by omega)
theorem bx_X12 : ∀ w ∈ wsX120, w ∈ lw_tbl := fun w h => by
  obtain ⟨k, hk, rfl⟩ := List.mem_map.mp h
  exact ly_X12 k (List.mem_range.mp hk)
theorem ly_X10 : ∀ k, k < 17 → u_lay RX10 TX10 k ∈ lw_tbl := fun k hk => match k, hk with
  | 0, _ => tb_1 (List.mem_of_getElem? (i := 198) (by decide +kernel))
  | 1, _ => tb_1 (List.mem_of_getElem? (i := 200) (by decide +kernel))
  | 2, _ => tb_1 (List.mem_of_getElem? (i := 202) (by decide +kernel))
  | 3, _ => tb_1 (List.mem_of_getElem? (i := 204) (by decide +kernel))
  | 4, _ => tb_1 (List.mem_of_getElem? (i := 206) (by decide +kernel))
  | 5, _ => tb_1 (List.mem_of_getElem? (i := 208) (by decide +kernel))
  | 6, _ => tb_1 (List.mem_of_getElem? (i := 210) (by decide +kernel))
  | 7, _ => tb_1 (List.mem_of_getElem? (i := 212) (by decide +kernel))
  | 8, _ => tb_1 (List.mem_of_getElem? (i := 214) (by decide +kernel))
  | 9, _ => tb_1 (List.mem_of_getElem? (i := 216) (by decide +kernel))
  | 10, _ => tb_1 (List.mem_of_getElem? (i := 218) (by decide +kernel))
  | 11, _ => tb_1 (List.mem_of_getElem? (i := 220) (by decide +kernel))
  | 12, _ => tb_1 (List.mem_of_getElem? (i := 222) (by decide +kernel))
  | 13, _ => tb_1 (List.mem_of_getElem? (i := 224) (by decide +kernel))
  | 14, _ => tb_1 (List.mem_of_getElem? (i := 226) (by decide +kernel))
  | 15, _ => tb_1 (List.mem_of_getElem? (i := 228) (by decide +kernel))
  | 16, _ => tb_1 (List.mem_of_getElem? (i := 230) (by decide +kernel))
  | k + 17, hk => absurd hk (by omega)
theorem bx_X10 : ∀ w ∈ wsX100, w ∈ lw_tbl := fun w h => by
  obtain ⟨k, hk, rfl⟩ := List.mem_map.mp h
  exact ly_X10 k (List.mem_range.mp hk)
theorem ly_X4 : ∀ k, k < 10 → u_lay RX4 TX4 k ∈ lw_tbl := fun k hk => match k, hk with
  | 0, _ => tb_1 (List.mem_of_getElem? (i := 131) (by decide +kernel))
  | 1, _ => tb_1 (List.mem_of_getElem? (i := 133) (by decide +kernel))
  | 2, _ => tb_1 (List.mem_of_getElem? (i := 135) (by decide +kernel))
  | 3, _ => tb_1 (List.mem_of_getElem? (i := 137) (by decide +kernel))
  | 4, _ => tb_1 (List.mem_of_getElem? (i := 139) (by decide +kernel))
  | 5, _ => tb_1 (List.mem_of_getElem? (i := 141) (by decide +kernel))
  | 6, _ => tb_1 (List.mem_of_getElem? (i := 143) (by decide +kernel))
  | 7, _ => tb_1 (List.mem_of_getElem? (i := 145) (by decide +kernel))
  | 8, _ => tb_1 (List.mem_of_getElem? (i := 147) (by decide +kernel))
  | 9, _ => tb_1 (List.mem_of_getElem? (i := 149) (by decide +kernel))
  | k + 10, hk => absurd hk (by omega)
theorem bx_X4 : ∀ w ∈ wsX40, w ∈ lw_tbl := fun w h => by
  obtain ⟨k, hk, rfl⟩ := List.mem_map.mp h
  exact ly_X4 k (List.mem_range.mp hk)
theorem ly_X14 : ∀ k, k < 14 → u_lay RX14 TX14 k ∈ lw_tbl := fun k hk => match k, hk with
  | 0, _ => tb_9 (List.mem_of_getElem? (i := 137) (by decide +kernel))
  | 1, _ => tb_9 (List.mem_of_getElem? (i := 139) (by decide +kernel))
  | 2, _ => tb_9 (List.mem_of_getElem? (i := 141) (by decide +kernel))
  | 3, _ => tb_9 (List.mem_of_getElem? (i := 143) (by decide +kernel))
  | 4, _ => tb_9 (List.mem_of_getElem? (i := 145) (by decide +kernel))
  | 5, _ => tb_9 (List.mem_of_getElem? (i := 147) (by decide +kernel))
  | 6, _ => tb_9 (List.mem_of_getElem? (i := 149) (by decide +kernel))
  | 7, _ => tb_9 (List.mem_of_getElem? (i := 151) (by decide +kernel))
  | 8, _ => tb_9 (List.mem_of_getElem? (i := 153) (by decide +kernel))
  | 9, _ => tb_9 (List.mem_of_getElem? (i := 155) (by decide +kernel))
  | 10, _ => tb_9 (List.mem_of_getElem? (i := 157) (by decide +kernel))
  | 11, _ => tb_9 (List.mem_of_getElem? (i := 159) (by decide +kernel))
  | 12, _ => tb_9 (List.mem_of_getElem? (i := 161) (by decide +kernel))
  | 13, _ => tb_9 (List.mem_of_getElem? (i := 163) (by decide +kernel))
  | k + 14, hk => absurd hk (by omega)
theorem bx_X14 : ∀ w ∈ wsX140, w ∈ lw_tbl := fun w h => by
  obtain ⟨k, hk, rfl⟩ := List.mem_map.mp h
  exact ly_X14 k (List.mem_range.mp hk)
def bw : List Cond := bw_1 ++ (bw_2 ++ (bw_3 ++ (bw_4 ++ (bw_5 ++ (bw_6 ++ (wsX110 ++ (wsX150 ++ (wsX130 ++ (wsX120 ++ (wsX100 ++ (wsX40 ++ (wsX140))))))))))))
theorem bw_in : ∀ w ∈ bw, w ∈ lw_tbl := List.forall_mem_append.mpr ⟨bi_1, List.forall_mem_append.mpr ⟨bi_2, List.forall_mem_append.mpr ⟨bi_3, List.forall_mem_append.mpr ⟨bi_4, List.forall_mem_append.mpr ⟨bi_5, List.forall_mem_append.mpr ⟨bi_6, List.forall_mem_append.mpr ⟨bx_X11, List.forall_mem_append.mpr ⟨bx_X15, List.forall_mem_append.mpr ⟨bx_X13, List.forall_mem_append.mpr ⟨bx_X12, List.forall_mem_append.mpr ⟨bx_X10, List.forall_mem_append.mpr ⟨bx_X4, bx_X14⟩⟩⟩⟩⟩⟩⟩⟩⟩⟩⟩⟩
theorem wl_1 {w : Cond} (h : w ∈ bw_1) : w ∈ bw := (List.mem_append_left _ h)
theorem wl_2 {w : Cond} (h : w ∈ bw_2) : w ∈ bw := (List.mem_append_right _ (List.mem_append_left _ h))
theorem wl_3 {w : Cond} (h : w ∈ bw_3) : w ∈ bw := (List.mem_append_right _ (List.mem_append_right _ (List.mem_append_left _ h)))
theorem wl_4 {w : Cond} (h : w ∈ bw_4) : w ∈ bw := (List.mem_append_right _ (List.mem_append_right _ (List.mem_append_right _ (List.mem_append_left _ h))))
theorem wl_5 {w : Cond} (h : w ∈ bw_5) : w ∈ bw := (List.mem_append_right _ (List.mem_append_right _ (List.mem_append_right _ (List.mem_append_right _ (List.mem_append_left _ h)))))
theorem wl_6 {w : Cond} (h : w ∈ bw_6) : w ∈ bw := (List.mem_append_right _ (List.mem_append_right _ (List.mem_append_right _ (List.mem_append_right _ (List.mem_append_right _ (List.mem_append_left _ h))))))
theorem inlX11 : ∀ w ∈ wsX110, w ∈ bw := fun w h => (List.mem_append_right _ (List.mem_append_right _ (List.mem_append_right _ (List.mem_append_right _ (List.mem_append_right _ (List.mem_append_right _ (List.mem_append_left _ h)))))))
theorem inlX15 : ∀ w ∈ wsX150, w ∈ bw := fun w h => (List.mem_append_right _ (List.mem_append_right _ (List.mem_append_right _ (List.mem_append_right _ (List.mem_append_right _ (List.mem_append_right _ (List.mem_append_right _ (List.mem_append_left _ h))))))))
theorem inlX13 : ∀ w ∈ wsX130, w ∈ bw := fun w h => (List.mem_append_right _ (List.mem_append_right _ (List.mem_append_right _ (List.mem_append_right _ (List.mem_append_right _ (List.mem_append_right _ (List.mem_append_right _ (List.mem_append_right _ (List.mem_append_left _ h)))))))))
theorem inlX12 : ∀ w ∈ wsX120, w ∈ bw := fun w h => (List.mem_append_right _ (List.mem_append_right _ (List.mem_append_right _ (List.mem_append_right _ (List.mem_append_right _ (List.mem_append_right _ (List.mem_append_right _ (List.mem_append_right _ (List.mem_append_right _ (List.mem_append_left _ h))))))))))
theorem inlX10 : ∀ w ∈ wsX100, w ∈ bw := fun w h => (List.mem_append_right _ (List.mem_append_right _ (List.mem_append_right _ (List.mem_append_right _ (List.mem_append_right _ (List.mem_append_right _ (List.mem_append_right _ (List.mem_append_right _ (List.mem_append_right _ (List.mem_append_right _ (List.mem_append_left _ h)))))))))))
theorem inlX4 : ∀ w ∈ wsX40, w ∈ bw := fun w h => (List.mem_append_right _ (List.mem_append_right _ (List.mem_append_right _ (List.mem_append_right _ (List.mem_append_right _ (List.mem_append_right _ (List.mem_append_right _ (List.mem_append_right _ (List.mem_append_right _ (List.mem_append_right _ (List.mem_append_right _ (List.mem_append_left _ h))))))))))))
theorem inlX14 : ∀ w ∈ wsX140, w ∈ bw := fun w h => (List.mem_append_right _ (List.mem_append_right _ (List.mem_append_right _ (List.mem_append_right _ (List.mem_append_right _ (List.mem_append_right _ (List.mem_append_right _ (List.mem_append_right _ (List.mem_append_right _ (List.mem_append_right _ (List.mem_append_right _ (List.mem_append_right _ h))))))))))))
set_option maxRecDepth 100000 in
theorem wl_good : bw.all goodWord = true := by decide +kernel
theorem gdw {c : Cond} (h : c ∈ bw) : GoodIn bw (c :: bw) := fun w hw => by
  have hm : w ∈ bw := (List.mem_cons.mp hw).elim (fun q => q ▸ h) id
  exact ⟨hm, good_of_word (List.all_eq_true.mp wl_good w hm)⟩
def pR (av : List Value) (D : va_G) (ws : va_W) (tys : List (ClassId × FieldType)) : Array Value → State → Prop := va_Pc av (fun U => va_P D vwCl ws U.heap ∧ va_K D vwCl tys U)
theorem pR_blind {av : List Value} {D : va_G} {ws : va_W} {tys : List (ClassId × FieldType)} : FrameBlind (pR av D ws tys) := fun a U g mk q => by
  obtain ⟨q0, qP, qK⟩ := q
  exact ⟨q0, qP, va_K.moved (u := U) (U := U.calling g mk a) (Vm.Alike.refl U.vm) qK⟩
theorem pR_of {s : State} {H : Heap} {av : List Value} {D : va_G} {ws : va_W} {tys : List (ClassId × FieldType)} (hP : va_P D vwCl ws H) (hK : va_K D vwCl tys s) : ∀ U : State, U.heap = H → s.WarmedH U.vm → pR av D ws tys av.toArray U := fun U hU hW => ⟨rfl, by rw [hU]; exact hP, va_K.moved hW.alike hK⟩
def pM (av : List Value) (D : va_G) (sz : Nat) (ws : va_W) (tys : List (ClassId × FieldType)) : Array Value → State → Prop := va_Pc av (fun U => U.heap.size = sz ∧ va_P D vwCl ws U.heap ∧ va_K D vwCl tys U ∧ va_D (fun _ => True) ws)
theorem pM_blind {av : List Value} {D : va_G} {sz : Nat} {ws : va_W} {tys : List (ClassId × FieldType)} : FrameBlind (pM av D sz ws tys) := fun a U g mk q => by
  obtain ⟨q0, q1, qP, qK, qD⟩ := q
  exact ⟨q0, q1, qP, va_K.moved (u := U) (U := U.calling g mk a) (Vm.Alike.refl U.vm) qK, qD⟩
theorem pM_of {s : State} {H : Heap} {A : Nat → Prop} {av : List Value} {D : va_G} {ws : va_W} {tys : List (ClassId × FieldType)} (hP : va_P D vwCl ws H) (hK : va_K D vwCl tys s) (hD : va_D A ws) : ∀ U : State, U.heap = H → s.WarmedH U.vm → pM av D H.size ws tys av.toArray U := fun U hU hW => ⟨rfl, by rw [hU], by rw [hU]; exact hP, va_K.moved hW.alike hK, hD.weaken (fun _ _ _ _ => trivial)⟩
theorem az_byte (n : Nat) : ∀ cA : ClassId, vp_cell cA (n, .inl (fun _ => 0)) = arrV cA n (fun _ => defaultValue .byte) := fun _ => rfl
theorem az_int (n : Nat) : ∀ cA : ClassId, vp_cell cA (n, .inl (fun _ => 0)) = arrV cA n (fun _ => defaultValue .int) := fun _ => rfl
theorem az_boolean (n : Nat) : ∀ cA : ClassId, vp_cell cA (n, .inl (fun _ => 0)) = arrV cA n (fun _ => defaultValue .boolean) := fun _ => rfl
theorem az_long (n : Nat) : ∀ cA : ClassId, vp_cell cA (n, .inr (.inl (fun _ => 0))) = arrV cA n (fun _ => defaultValue .long) := fun _ => rfl
theorem pnil {D : va_G} {H : Heap} : va_P D vwCl [] H := fun k q h => by simp at h
theorem dnil {A : Nat → Prop} : va_D A [] := ⟨fun i j p q h => by simp at h, fun k q h => by simp at h⟩
theorem bd_3 {x : Int32} (h0 : ¬ x < 0) (h : ¬ 3 ≤ x) : vp_in x 3 := by
  rcases pk_ix x (n := 3) (by decide) with q | q | ⟨j, hj, rfl⟩
  · exact absurd q h0
  · exact absurd q h
  · exact vp_in_nI hj (by decide)
def sp_count (w : Int32) : Int32 := if w < 0 then -14 else if w ≤ 4 then 0 else -14
abbrev xF (a1 a2 : Nat) : List Value := [.ref a1, .int 0, .int 0, .int ((-1)), .null, .null, .null, .null, .null, .null, .int 0, .ref a2]
abbrev mF (g : Nat → Nat) : List Value := [.ref (g 0), .int 0, .int 0, .ref (g 3), .ref (g 4), .ref (g 5), .ref (g 6), .int 0, .int 0, .int 0, .int 0, .int 0, .int 0, .long 0, .long ((-1)), .ref (g 15), .ref (g 16), .ref (g 17), .ref (g 18), .ref (g 19), .ref (g 20), .ref (g 21), .ref (g 22), .ref (g 23), .ref (g 24), .ref (g 25), .ref (g 26), .ref (g 27), .int 0, .int 0, .ref (g 30), .ref (g 31), .ref (g 32), .ref (g 33), .ref (g 34), .ref (g 35), .ref (g 36), .ref (g 37), .ref (g 38), .ref (g 39), .ref (g 40), .ref (g 41), .ref (g 42), .ref (g 43), .ref (g 44), .ref (g 45), .ref (g 46), .ref (g 47), .ref (g 48), .ref (g 49), .ref (g 50), .ref (g 51), .int 0, .int 0, .ref (g 54), .int 0, .int 0, .int 0, .ref (g 58), .ref (g 59), .ref (g 60), .ref (g 61), .ref (g 62), .ref (g 63)]
abbrev rF (o : Nat) (w : Int32) (b : Nat → Nat) : List Value := [.ref o, .int w, .int 0, .ref (b 3), .ref (b 4), .ref (b 5), .int 0, .int 0, .int 0, .int 0, .ref (b 10), .ref (b 11), .ref (b 12), .ref (b 13), .int 0, .int 0, .int 0, .int 0, .int 0, .int 0, .int 0, .ref (b 21), .ref (b 22), .long 0]
abbrev xW (h0 a1 a2 : Nat) (cm : ClassId) : va_W := [(h0, .inr (10, xF a1 a2)), (a2, .inl (cm, 3, .inr (.inr (.inr (.inr (fun _ => none))))))]
abbrev mW (h0 : Nat) (g b0 b1 b2 : Nat → Nat) : va_W := [(h0, .inr (14, mF g)), (g 61, .inr (12, rF h0 0 b0)), (g 62, .inr (12, rF h0 1 b1)), (g 63, .inr (12, rF h0 2 b2))]
def bq (l : List Nat) (i : Nat) : Nat := l.getD i 0
abbrev hF (b : Nat → Nat) : List Value := [.null, .int 0, .int 0, .int 0, .int 0, .long 0, .ref (b 6), .ref (b 7), .ref (b 8), .ref (b 9), .ref (b 10), .ref (b 11), .ref (b 12), .ref (b 13), .ref (b 14), .int 0, .int 0, .long 0]
abbrev xW3 (h0 a1 a2 : Nat) (cb cm : ClassId) : va_W := [(h0, .inr (10, xF a1 a2)), (a1, .inl (cb, 1024, .inl (fun _ => 0))), (a2, .inl (cm, 3, .inr (.inr (.inr (.inr (fun _ => none))))))]
abbrev mW6 (h0 : Nat) (g b0 b1 b2 b6 : Nat → Nat) (cb : ClassId) : va_W := [(h0, .inr (14, mF g)), (g 61, .inr (12, rF h0 0 b0)), (g 62, .inr (12, rF h0 1 b1)), (g 63, .inr (12, rF h0 2 b2)), (g 0, .inl (cb, 60000, .inl (fun _ => 0))), (g 6, .inr (11, hF b6))]
def nst : Cond := Cond.methodLinkNest RX15 22 yX12_init RX15
