/-! one list of words for all methods: what of the tables is good -/
theorem mt_1 {w : Cond} (h : w ∈ tables_1_1) : w ∈ lw_tbl := List.mem_append_right _ (List.mem_append_left _ h)
theorem mt_2 {w : Cond} (h : w ∈ tables_1_2) : w ∈ lw_tbl := List.mem_append_right _ (List.mem_append_right _ (List.mem_append_left _ h))
theorem mt_3 {w : Cond} (h : w ∈ tables_1_3) : w ∈ lw_tbl := List.mem_append_right _ (List.mem_append_right _ (List.mem_append_right _ (List.mem_append_left _ h)))
theorem mt_4 {w : Cond} (h : w ∈ tables_1_4) : w ∈ lw_tbl := List.mem_append_right _ (List.mem_append_right _ (List.mem_append_right _ (List.mem_append_right _ h)))
def WS : List Cond := lw_tbl.filter goodWord
theorem ws_in {w : Cond} (h : w ∈ lw_tbl) (g : goodWord w = true) : w ∈ WS := List.mem_filter.mpr ⟨h, g⟩
theorem ws_of {w : Cond} (h : w ∈ WS) : w ∈ lw_tbl := (List.mem_filter.mp h).1
theorem gd_1 {c w : Cond} (h : w ∈ WS) : w ∈ (c :: WS) ∧ ((w.onTables && w.keeps) = true ∨ ∃ ty, w = .arrayClass ty) := ⟨List.mem_cons_of_mem _ h, good_of_word (List.mem_filter.mp h).2⟩
theorem gd_c {c w c2 : Cond} (f : c2 ∈ WS) (h : w ∈ c2 :: WS) : w ∈ (c :: WS) ∧ ((w.onTables && w.keeps) = true ∨ ∃ ty, w = .arrayClass ty) := (List.mem_cons.mp h).elim (fun e => by rw [e]; exact gd_1 f) gd_1
theorem gI {c c2 : Cond} (f : c2 ∈ WS) : GoodIn (c :: WS) (c2 :: WS) := fun w h => gd_c f h
theorem gV {c c2 : Cond} {own C : String} {k : Nat} {y : MethodName} (a : .methodLink own k y ∈ WS) (b : .instanceMethod y ∈ WS) (d : .selects C y y ∈ WS) (e : .initialized C ∈ WS) (f : c2 ∈ WS) : GoodIn (c :: WS) (wsV own k C y (c2 :: WS)) := by
  intro w hw
  rcases List.mem_append.mp hw with h | h
  · simp only [List.mem_cons, List.not_mem_nil, or_false] at h
    rcases h with rfl | rfl | rfl | rfl
    · exact gd_1 a
    · exact gd_1 b
    · exact gd_1 d
    · exact gd_1 e
  · exact gd_c f h
theorem gS {c c2 : Cond} {own : String} {k : Nat} {y : MethodName} (a : .methodLink own k y ∈ WS) (b : .static y ∈ WS) (e : .initialized own ∈ WS) (f : c2 ∈ WS) : GoodIn (c :: WS) (wsS own k y (c2 :: WS)) := by
  intro w hw
  rcases List.mem_append.mp hw with h | h
  · simp only [List.mem_cons, List.not_mem_nil, or_false] at h
    rcases h with rfl | rfl | rfl
    · exact gd_1 a
    · exact gd_1 b
    · exact gd_1 e
  · exact gd_c f h
theorem gT {c c2 : Cond} {own : String} {k : Nat} {y : MethodName} (a : .methodLink own k y ∈ WS) (b : .static y ∈ WS) (e : .initialized y.cls ∈ WS) (f : c2 ∈ WS) : GoodIn (c :: WS) (va_wsS own k y (c2 :: WS)) := by
  intro w hw
  rcases List.mem_append.mp hw with h | h
  · simp only [List.mem_cons, List.not_mem_nil, or_false] at h
    rcases h with rfl | rfl | rfl
    · exact gd_1 a
    · exact gd_1 b
    · exact gd_1 e
  · exact gd_c f h
theorem fi_X1 (c : Cond) : ∀ w ∈ u_ws RX1 TX1 9, w ∈ c :: WS := fun w h => List.mem_cons_of_mem _ (ws_in ((by decide +kernel : ∀ w ∈ u_ws RX1 TX1 9, w ∈ lw_tbl) w h) ((by decide +kernel : ∀ w ∈ u_ws RX1 TX1 9, goodWord w = true) w h))
theorem fi_X2 (c : Cond) : ∀ w ∈ u_ws RX2 TX2 4, w ∈ c :: WS := fun w h => List.mem_cons_of_mem _ (ws_in ((by decide +kernel : ∀ w ∈ u_ws RX2 TX2 4, w ∈ lw_tbl) w h) ((by decide +kernel : ∀ w ∈ u_ws RX2 TX2 4, goodWord w = true) w h))
theorem fi_X3 (c : Cond) : ∀ w ∈ u_ws RX3 TX3 7, w ∈ c :: WS := fun w h => List.mem_cons_of_mem _ (ws_in ((by decide +kernel : ∀ w ∈ u_ws RX3 TX3 7, w ∈ lw_tbl) w h) ((by decide +kernel : ∀ w ∈ u_ws RX3 TX3 7, goodWord w = true) w h))
theorem fi_X4 (c : Cond) : ∀ w ∈ u_ws RX4 TX4 9, w ∈ c :: WS := fun w h => List.mem_cons_of_mem _ (ws_in ((by decide +kernel : ∀ w ∈ u_ws RX4 TX4 9, w ∈ lw_tbl) w h) ((by decide +kernel : ∀ w ∈ u_ws RX4 TX4 9, goodWord w = true) w h))
theorem fi_X5 (c : Cond) : ∀ w ∈ u_ws RX5 TX5 26, w ∈ c :: WS := fun w h => List.mem_cons_of_mem _ (ws_in ((by decide +kernel : ∀ w ∈ u_ws RX5 TX5 26, w ∈ lw_tbl) w h) ((by decide +kernel : ∀ w ∈ u_ws RX5 TX5 26, goodWord w = true) w h))
abbrev vwCl : List vw_C := [(RX1, TX1, 9), (RX2, TX2, 4), (RX3, TX3, 7), (RX4, TX4, 9), (RX5, TX5, 26)]
theorem wcobj : (.code objectInit ⟨#[0xb1]⟩ 1 none : Cond) ∈ WS := ws_in (mt_1 (List.mem_of_getElem? (i := 23) rfl)) rfl
theorem wcabs : (.code Lib.Math.abs.name Lib.Math.abs.code 1 (some .int) : Cond) ∈ WS := ws_in (mt_2 (List.mem_of_getElem? (i := 239) rfl)) rfl
theorem at_1 : ∀ w ∈ (nx_at).filter goodWord, w ∈ WS := fun w h => ws_in ((by decide +kernel : ∀ w ∈ (nx_at).filter goodWord, w ∈ lw_tbl) w h) (List.mem_filter.mp h).2
theorem bt_1 : ∀ w ∈ (nx_at).filter (fun w => !goodWord w), w ∈ ([.castable "java/util/NoSuchElementException" "java/util/NoSuchElementException", .declares ⟨"java/lang/RuntimeException", "<init>", "(Ljava/lang/String;)V"⟩, .declares ⟨"java/lang/Exception", "<init>", "(Ljava/lang/String;)V"⟩, .declares ⟨"java/lang/Throwable", "<init>", "(Ljava/lang/String;)V"⟩] : List Cond) := by decide +kernel
theorem gt_1 : ∀ w ∈ Cond.classLink RX4 178 "java/util/NoSuchElementException" :: Cond.initialized "java/util/NoSuchElementException" :: nx_at, vx_ot w = true := by decide +kernel
theorem at_2 : ∀ w ∈ (vx_atS RX4 174 "java/lang/IllegalArgumentException" ["java/lang/RuntimeException", "java/lang/Exception"]).filter goodWord, w ∈ WS := fun w h => ws_in ((by decide +kernel : ∀ w ∈ (vx_atS RX4 174 "java/lang/IllegalArgumentException" ["java/lang/RuntimeException", "java/lang/Exception"]).filter goodWord, w ∈ lw_tbl) w h) (List.mem_filter.mp h).2
theorem bt_2 : ∀ w ∈ (vx_atS RX4 174 "java/lang/IllegalArgumentException" ["java/lang/RuntimeException", "java/lang/Exception"]).filter (fun w => !goodWord w), w ∈ ([.castable "java/lang/IllegalArgumentException" "java/lang/IllegalArgumentException", .declares ⟨"java/lang/RuntimeException", "<init>", "(Ljava/lang/String;)V"⟩, .declares ⟨"java/lang/Exception", "<init>", "(Ljava/lang/String;)V"⟩, .declares ⟨"java/lang/Throwable", "<init>", "(Ljava/lang/String;)V"⟩] : List Cond) := by decide +kernel
theorem gt_2 : ∀ w ∈ Cond.classLink RX4 170 "java/lang/IllegalArgumentException" :: Cond.initialized "java/lang/IllegalArgumentException" :: vx_atS RX4 174 "java/lang/IllegalArgumentException" ["java/lang/RuntimeException", "java/lang/Exception"], vx_ot w = true := by decide +kernel
theorem at_3 : ∀ w ∈ (vx_atS RX4 150 "java/lang/IllegalStateException" ["java/lang/RuntimeException", "java/lang/Exception"]).filter goodWord, w ∈ WS := fun w h => ws_in ((by decide +kernel : ∀ w ∈ (vx_atS RX4 150 "java/lang/IllegalStateException" ["java/lang/RuntimeException", "java/lang/Exception"]).filter goodWord, w ∈ lw_tbl) w h) (List.mem_filter.mp h).2
theorem bt_3 : ∀ w ∈ (vx_atS RX4 150 "java/lang/IllegalStateException" ["java/lang/RuntimeException", "java/lang/Exception"]).filter (fun w => !goodWord w), w ∈ ([.castable "java/lang/IllegalStateException" "java/lang/IllegalStateException", .declares ⟨"java/lang/RuntimeException", "<init>", "(Ljava/lang/String;)V"⟩, .declares ⟨"java/lang/Exception", "<init>", "(Ljava/lang/String;)V"⟩, .declares ⟨"java/lang/Throwable", "<init>", "(Ljava/lang/String;)V"⟩] : List Cond) := by decide +kernel
theorem gt_3 : ∀ w ∈ Cond.classLink RX4 146 "java/lang/IllegalStateException" :: Cond.initialized "java/lang/IllegalStateException" :: vx_atS RX4 150 "java/lang/IllegalStateException" ["java/lang/RuntimeException", "java/lang/Exception"], vx_ot w = true := by decide +kernel
theorem at_4 : ∀ w ∈ (vx_atS RX4 256 "java/lang/UnsupportedOperationException" ["java/lang/RuntimeException", "java/lang/Exception"]).filter goodWord, w ∈ WS := fun w h => ws_in ((by decide +kernel : ∀ w ∈ (vx_atS RX4 256 "java/lang/UnsupportedOperationException" ["java/lang/RuntimeException", "java/lang/Exception"]).filter goodWord, w ∈ lw_tbl) w h) (List.mem_filter.mp h).2
theorem bt_4 : ∀ w ∈ (vx_atS RX4 256 "java/lang/UnsupportedOperationException" ["java/lang/RuntimeException", "java/lang/Exception"]).filter (fun w => !goodWord w), w ∈ ([.castable "java/lang/UnsupportedOperationException" "java/lang/UnsupportedOperationException", .declares ⟨"java/lang/RuntimeException", "<init>", "(Ljava/lang/String;)V"⟩, .declares ⟨"java/lang/Exception", "<init>", "(Ljava/lang/String;)V"⟩, .declares ⟨"java/lang/Throwable", "<init>", "(Ljava/lang/String;)V"⟩] : List Cond) := by decide +kernel
theorem gt_4 : ∀ w ∈ Cond.classLink RX4 252 "java/lang/UnsupportedOperationException" :: Cond.initialized "java/lang/UnsupportedOperationException" :: vx_atS RX4 256 "java/lang/UnsupportedOperationException" ["java/lang/RuntimeException", "java/lang/Exception"], vx_ot w = true := by decide +kernel
theorem wd_0 : (.constant RJ6 265 1431655765 : Cond) ∈ WS := ws_in (mt_2 (List.mem_of_getElem? (i := 106) (by decide +kernel))) (by decide +kernel)
theorem wd_1 : (.constant RJ6 266 858993459 : Cond) ∈ WS := ws_in (mt_2 (List.mem_of_getElem? (i := 107) (by decide +kernel))) (by decide +kernel)
theorem wd_2 : (.constant RJ6 267 252645135 : Cond) ∈ WS := ws_in (mt_2 (List.mem_of_getElem? (i := 108) (by decide +kernel))) (by decide +kernel)
theorem wd_3 : (.classLink RX4 170 "java/lang/IllegalArgumentException" : Cond) ∈ WS := ws_in (mt_1 (List.mem_of_getElem? (i := 169) (by decide +kernel))) (by decide +kernel)
theorem wd_4 : (.initialized "java/lang/IllegalArgumentException" : Cond) ∈ WS := ws_in (mt_1 (List.mem_of_getElem? (i := 9) (by decide +kernel))) (by decide +kernel)
theorem wd_5 : (.classLink RX4 146 "java/lang/IllegalStateException" : Cond) ∈ WS := ws_in (mt_2 (List.mem_of_getElem? (i := 87) (by decide +kernel))) (by decide +kernel)
theorem wd_6 : (.initialized "java/lang/IllegalStateException" : Cond) ∈ WS := ws_in (mt_1 (List.mem_of_getElem? (i := 12) (by decide +kernel))) (by decide +kernel)
theorem wd_7 : (.classLink RX4 252 "java/lang/UnsupportedOperationException" : Cond) ∈ WS := ws_in (mt_2 (List.mem_of_getElem? (i := 10) (by decide +kernel))) (by decide +kernel)
theorem wd_8 : (.initialized "java/lang/UnsupportedOperationException" : Cond) ∈ WS := ws_in (mt_1 (List.mem_of_getElem? (i := 10) (by decide +kernel))) (by decide +kernel)
theorem wd_9 : (.classLink RX4 178 "java/util/NoSuchElementException" : Cond) ∈ WS := ws_in (mt_2 (List.mem_of_getElem? (i := 68) (by decide +kernel))) (by decide +kernel)
theorem wd_10 : (.initialized "java/util/NoSuchElementException" : Cond) ∈ WS := ws_in (mt_1 (List.mem_of_getElem? (i := 11) (by decide +kernel))) (by decide +kernel)
theorem wd_11 : (.fieldLink RX4 10 "LotRules" "lots" "LLotRules$Lots;" : Cond) ∈ WS := ws_in (mt_1 (List.mem_of_getElem? (i := 125) (by decide +kernel))) (by decide +kernel)
theorem wd_12 : (.fieldLink RX4 100 "LotRules$Lots" "made" "I" : Cond) ∈ WS := ws_in (mt_1 (List.mem_of_getElem? (i := 46) (by decide +kernel))) (by decide +kernel)
theorem wd_13 : (.fieldLink RX4 19 "LotRules" "units" "LLotRules$Units;" : Cond) ∈ WS := ws_in (mt_1 (List.mem_of_getElem? (i := 126) (by decide +kernel))) (by decide +kernel)
theorem wd_14 : (.fieldLink RX4 229 "LotRules$Units" "made" "I" : Cond) ∈ WS := ws_in (mt_1 (List.mem_of_getElem? (i := 85) (by decide +kernel))) (by decide +kernel)
theorem wd_15 : (.fieldLink RX1 38 "LotRules$Lots" "made" "I" : Cond) ∈ WS := ws_in (mt_1 (List.mem_of_getElem? (i := 45) (by decide +kernel))) (by decide +kernel)
theorem wd_16 : (.fieldLink RX1 9 "LotRules$Lots" "goods" "[I" : Cond) ∈ WS := ws_in (mt_1 (List.mem_of_getElem? (i := 30) (by decide +kernel))) (by decide +kernel)
theorem wd_17 : (.fieldLink RX1 15 "LotRules$Lots" "owners" "[I" : Cond) ∈ WS := ws_in (mt_1 (List.mem_of_getElem? (i := 32) (by decide +kernel))) (by decide +kernel)
theorem wd_18 : (.fieldLink RX1 18 "LotRules$Lots" "lastDays" "[I" : Cond) ∈ WS := ws_in (mt_1 (List.mem_of_getElem? (i := 34) (by decide +kernel))) (by decide +kernel)
theorem wd_19 : (.fieldLink RX1 28 "LotRules$Lots" "reasons" "[I" : Cond) ∈ WS := ws_in (mt_1 (List.mem_of_getElem? (i := 40) (by decide +kernel))) (by decide +kernel)
theorem wd_20 : (.fieldLink RX1 31 "LotRules$Lots" "quarantined" "[Z" : Cond) ∈ WS := ws_in (mt_1 (List.mem_of_getElem? (i := 42) (by decide +kernel))) (by decide +kernel)
theorem wd_21 : (.methodLink RX1 46 Lib.Math.abs.name : Cond) ∈ WS := ws_in (mt_2 (List.mem_of_getElem? (i := 237) (by decide +kernel))) (by decide +kernel)
theorem wd_22 : (.static Lib.Math.abs.name : Cond) ∈ WS := ws_in (mt_2 (List.mem_of_getElem? (i := 238) (by decide +kernel))) (by decide +kernel)
theorem wd_23 : (.initialized "java/lang/Math" : Cond) ∈ WS := ws_in (mt_1 (List.mem_of_getElem? (i := 14) (by decide +kernel))) (by decide +kernel)
theorem wd_24 : (.fieldLink RX1 24 "LotRules$Lots" "open" "[Z" : Cond) ∈ WS := ws_in (mt_1 (List.mem_of_getElem? (i := 38) (by decide +kernel))) (by decide +kernel)
theorem wd_25 : (.methodLink RX1 52 yX1_mayBeTaken : Cond) ∈ WS := ws_in (mt_2 (List.mem_of_getElem? (i := 138) (by decide +kernel))) (by decide +kernel)
theorem wd_26 : (.instanceMethod yX1_mayBeTaken : Cond) ∈ WS := ws_in (mt_2 (List.mem_of_getElem? (i := 139) (by decide +kernel))) (by decide +kernel)
theorem wd_27 : (.selects RX1 yX1_mayBeTaken yX1_mayBeTaken : Cond) ∈ WS := ws_in (mt_2 (List.mem_of_getElem? (i := 140) (by decide +kernel))) (by decide +kernel)
theorem wd_28 : (.initialized RX1 : Cond) ∈ WS := ws_in (mt_1 (List.mem_of_getElem? (i := 2) (by decide +kernel))) (by decide +kernel)
theorem wcX1_mayBeTaken : (.code yX1_mayBeTaken cX1_mayBeTaken 2 (some .boolean) : Cond) ∈ WS := ws_in (mt_2 (List.mem_of_getElem? (i := 141) rfl)) rfl
theorem wd_30 : (.fieldLink RX1 21 "LotRules$Lots" "arrivals" "[I" : Cond) ∈ WS := ws_in (mt_1 (List.mem_of_getElem? (i := 36) (by decide +kernel))) (by decide +kernel)
theorem wd_31 : (.methodLink RX1 63 yX1_arrivedBefore : Cond) ∈ WS := ws_in (mt_2 (List.mem_of_getElem? (i := 151) (by decide +kernel))) (by decide +kernel)
theorem wd_32 : (.instanceMethod yX1_arrivedBefore : Cond) ∈ WS := ws_in (mt_2 (List.mem_of_getElem? (i := 153) (by decide +kernel))) (by decide +kernel)
theorem wd_33 : (.selects RX1 yX1_arrivedBefore yX1_arrivedBefore : Cond) ∈ WS := ws_in (List.mem_append_left _ (List.mem_of_getElem? (i := 3) (by decide +kernel))) (by decide +kernel)
theorem wcX1_arrivedBefore : (.code yX1_arrivedBefore cX1_arrivedBefore 3 (some .boolean) : Cond) ∈ WS := ws_in (mt_2 (List.mem_of_getElem? (i := 154) rfl)) rfl
theorem wd_35 : (.methodLink RX1 56 yX1_mayBeTakenFor : Cond) ∈ WS := ws_in (mt_2 (List.mem_of_getElem? (i := 146) (by decide +kernel))) (by decide +kernel)
theorem wd_36 : (.instanceMethod yX1_mayBeTakenFor : Cond) ∈ WS := ws_in (mt_2 (List.mem_of_getElem? (i := 135) (by decide +kernel))) (by decide +kernel)
theorem wd_37 : (.selects RX1 yX1_mayBeTakenFor yX1_mayBeTakenFor : Cond) ∈ WS := ws_in (mt_2 (List.mem_of_getElem? (i := 136) (by decide +kernel))) (by decide +kernel)
theorem wcX1_mayBeTakenFor : (.code yX1_mayBeTakenFor cX1_mayBeTakenFor 4 (some .boolean) : Cond) ∈ WS := ws_in (mt_2 (List.mem_of_getElem? (i := 137) rfl)) rfl
theorem wd_39 : (.methodLink RX1 60 yX1_comesBefore : Cond) ∈ WS := ws_in (mt_2 (List.mem_of_getElem? (i := 147) (by decide +kernel))) (by decide +kernel)
theorem wd_40 : (.instanceMethod yX1_comesBefore : Cond) ∈ WS := ws_in (mt_2 (List.mem_of_getElem? (i := 149) (by decide +kernel))) (by decide +kernel)
theorem wd_41 : (.selects RX1 yX1_comesBefore yX1_comesBefore : Cond) ∈ WS := ws_in (List.mem_append_left _ (List.mem_of_getElem? (i := 2) (by decide +kernel))) (by decide +kernel)
theorem wcX1_comesBefore : (.code yX1_comesBefore cX1_comesBefore 4 (some .boolean) : Cond) ∈ WS := ws_in (mt_2 (List.mem_of_getElem? (i := 150) rfl)) rfl
theorem wd_43 : (.fieldLink RX3 27 "LotRules$Units" "made" "I" : Cond) ∈ WS := ws_in (mt_1 (List.mem_of_getElem? (i := 84) (by decide +kernel))) (by decide +kernel)
theorem wd_44 : (.fieldLink RX3 18 "LotRules$Units" "customers" "[I" : Cond) ∈ WS := ws_in (mt_1 (List.mem_of_getElem? (i := 79) (by decide +kernel))) (by decide +kernel)
theorem wd_45 : (.fieldLink RX3 9 "LotRules$Units" "lotOf" "[I" : Cond) ∈ WS := ws_in (mt_1 (List.mem_of_getElem? (i := 75) (by decide +kernel))) (by decide +kernel)
theorem wd_46 : (.methodLink RX3 34 yX3_isGone : Cond) ∈ WS := ws_in (mt_3 (List.mem_of_getElem? (i := 65) (by decide +kernel))) (by decide +kernel)
theorem wd_47 : (.instanceMethod yX3_isGone : Cond) ∈ WS := ws_in (mt_2 (List.mem_of_getElem? (i := 226) (by decide +kernel))) (by decide +kernel)
theorem wd_48 : (.selects RX3 yX3_isGone yX3_isGone : Cond) ∈ WS := ws_in (mt_2 (List.mem_of_getElem? (i := 227) (by decide +kernel))) (by decide +kernel)
theorem wd_49 : (.initialized RX3 : Cond) ∈ WS := ws_in (mt_1 (List.mem_of_getElem? (i := 3) (by decide +kernel))) (by decide +kernel)
theorem wcX3_isGone : (.code yX3_isGone cX3_isGone 2 (some .boolean) : Cond) ∈ WS := ws_in (mt_2 (List.mem_of_getElem? (i := 228) rfl)) rfl
theorem wd_51 : (.fieldLink RX3 24 "LotRules$Units" "firstLotOf" "[I" : Cond) ∈ WS := ws_in (mt_1 (List.mem_of_getElem? (i := 83) (by decide +kernel))) (by decide +kernel)
theorem wd_52 : (.fieldLink RX2 21 "LotRules$Rows" "written" "I" : Cond) ∈ WS := ws_in (mt_1 (List.mem_of_getElem? (i := 114) (by decide +kernel))) (by decide +kernel)
theorem wd_53 : (.fieldLink RX2 9 "LotRules$Rows" "lotOf" "[I" : Cond) ∈ WS := ws_in (mt_1 (List.mem_of_getElem? (i := 109) (by decide +kernel))) (by decide +kernel)
theorem wd_54 : (.fieldLink RX1 34 "LotRules$Lots" "kin" "[J" : Cond) ∈ WS := ws_in (mt_1 (List.mem_of_getElem? (i := 44) (by decide +kernel))) (by decide +kernel)
theorem wd_55 : (.fieldLink RX0 22 "LotRules$Calendar" "DAYS_BEFORE_MONTH" "[I" : Cond) ∈ WS := ws_in (mt_3 (List.mem_of_getElem? (i := 82) (by decide +kernel))) (by decide +kernel)
theorem wd_56 : (.methodLink RX0 11 yX0_daysBefore : Cond) ∈ WS := ws_in (mt_3 (List.mem_of_getElem? (i := 79) (by decide +kernel))) (by decide +kernel)
theorem wd_57 : (.static yX0_daysBefore : Cond) ∈ WS := ws_in (mt_3 (List.mem_of_getElem? (i := 80) (by decide +kernel))) (by decide +kernel)
theorem wd_58 : (.initialized RX0 : Cond) ∈ WS := ws_in (mt_1 (List.mem_of_getElem? (i := 15) (by decide +kernel))) (by decide +kernel)
theorem wcX0_daysBefore : (.code yX0_daysBefore cX0_daysBefore 3 (some .int) : Cond) ∈ WS := ws_in (mt_3 (List.mem_of_getElem? (i := 81) rfl)) rfl
theorem wd_60 : (.methodLink RX0 15 yX0_startOfYear : Cond) ∈ WS := ws_in (mt_3 (List.mem_of_getElem? (i := 84) (by decide +kernel))) (by decide +kernel)
theorem wd_61 : (.static yX0_startOfYear : Cond) ∈ WS := ws_in (mt_3 (List.mem_of_getElem? (i := 85) (by decide +kernel))) (by decide +kernel)
theorem wcX0_startOfYear : (.code yX0_startOfYear cX0_startOfYear 1 (some .int) : Cond) ∈ WS := ws_in (mt_3 (List.mem_of_getElem? (i := 86) rfl)) rfl
theorem wd_63 : (.methodLink RX0 19 yX0_fromYearDay : Cond) ∈ WS := ws_in (mt_3 (List.mem_of_getElem? (i := 90) (by decide +kernel))) (by decide +kernel)
theorem wd_64 : (.static yX0_fromYearDay : Cond) ∈ WS := ws_in (mt_3 (List.mem_of_getElem? (i := 77) (by decide +kernel))) (by decide +kernel)
theorem wcX0_fromYearDay : (.code yX0_fromYearDay cX0_fromYearDay 2 (some .int) : Cond) ∈ WS := ws_in (mt_3 (List.mem_of_getElem? (i := 78) rfl)) rfl
theorem wd_66 : (.methodLink RX1 42 yX1_add : Cond) ∈ WS := ws_in (mt_2 (List.mem_of_getElem? (i := 178) (by decide +kernel))) (by decide +kernel)
theorem wd_67 : (.instanceMethod yX1_add : Cond) ∈ WS := ws_in (mt_2 (List.mem_of_getElem? (i := 27) (by decide +kernel))) (by decide +kernel)
theorem wd_68 : (.selects RX1 yX1_add yX1_add : Cond) ∈ WS := ws_in (mt_2 (List.mem_of_getElem? (i := 28) (by decide +kernel))) (by decide +kernel)
theorem wcX1_add : (.code yX1_add cX1_add 5 (some .int) : Cond) ∈ WS := ws_in (mt_2 (List.mem_of_getElem? (i := 29) rfl)) rfl
theorem wd_70 : (.fieldLink RX3 15 "LotRules$Units" "bins" "[I" : Cond) ∈ WS := ws_in (mt_1 (List.mem_of_getElem? (i := 77) (by decide +kernel))) (by decide +kernel)
theorem wd_71 : (.fieldLink RX3 21 "LotRules$Units" "daysOfGoing" "[I" : Cond) ∈ WS := ws_in (mt_1 (List.mem_of_getElem? (i := 81) (by decide +kernel))) (by decide +kernel)
theorem wd_72 : (.fieldLink RX3 31 "LotRules$Units" "gone" "I" : Cond) ∈ WS := ws_in (mt_1 (List.mem_of_getElem? (i := 86) (by decide +kernel))) (by decide +kernel)
theorem wd_73 : (.fieldLink RX2 15 "LotRules$Rows" "kinds" "[I" : Cond) ∈ WS := ws_in (mt_1 (List.mem_of_getElem? (i := 110) (by decide +kernel))) (by decide +kernel)
theorem wd_74 : (.fieldLink RX2 18 "LotRules$Rows" "numbers" "[I" : Cond) ∈ WS := ws_in (mt_1 (List.mem_of_getElem? (i := 112) (by decide +kernel))) (by decide +kernel)
theorem wd_75 : (.methodLink RX4 236 yX1_mayBeTaken : Cond) ∈ WS := ws_in (mt_2 (List.mem_of_getElem? (i := 166) (by decide +kernel))) (by decide +kernel)
theorem wd_76 : (.fieldLink RX4 198 "LotRules$Lots" "arrivals" "[I" : Cond) ∈ WS := ws_in (mt_1 (List.mem_of_getElem? (i := 37) (by decide +kernel))) (by decide +kernel)
theorem wd_77 : (.fieldLink RX4 195 "LotRules$Lots" "lastDays" "[I" : Cond) ∈ WS := ws_in (mt_1 (List.mem_of_getElem? (i := 35) (by decide +kernel))) (by decide +kernel)
theorem wd_78 : (.fieldLink RX4 37 "LotRules" "wantedDays" "[I" : Cond) ∈ WS := ws_in (mt_1 (List.mem_of_getElem? (i := 130) (by decide +kernel))) (by decide +kernel)
theorem wd_79 : (.fieldLink RX4 143 "LotRules$Units" "lotOf" "[I" : Cond) ∈ WS := ws_in (mt_1 (List.mem_of_getElem? (i := 76) (by decide +kernel))) (by decide +kernel)
theorem wd_80 : (.fieldLink RX4 34 "LotRules" "mixtures" "[I" : Cond) ∈ WS := ws_in (mt_1 (List.mem_of_getElem? (i := 129) (by decide +kernel))) (by decide +kernel)
theorem wd_81 : (.fieldLink RX4 192 "LotRules$Lots" "owners" "[I" : Cond) ∈ WS := ws_in (mt_1 (List.mem_of_getElem? (i := 33) (by decide +kernel))) (by decide +kernel)
theorem wd_82 : (.fieldLink RX4 137 "LotRules$Units" "bins" "[I" : Cond) ∈ WS := ws_in (mt_1 (List.mem_of_getElem? (i := 78) (by decide +kernel))) (by decide +kernel)
theorem wd_83 : (.methodLink RX4 239 yX1_lieTooFarApart : Cond) ∈ WS := ws_in (mt_2 (List.mem_of_getElem? (i := 233) (by decide +kernel))) (by decide +kernel)
theorem wd_84 : (.instanceMethod yX1_lieTooFarApart : Cond) ∈ WS := ws_in (mt_2 (List.mem_of_getElem? (i := 234) (by decide +kernel))) (by decide +kernel)
theorem wd_85 : (.selects RX1 yX1_lieTooFarApart yX1_lieTooFarApart : Cond) ∈ WS := ws_in (mt_2 (List.mem_of_getElem? (i := 235) (by decide +kernel))) (by decide +kernel)
theorem wcX1_lieTooFarApart : (.code yX1_lieTooFarApart cX1_lieTooFarApart 4 (some .boolean) : Cond) ∈ WS := ws_in (mt_2 (List.mem_of_getElem? (i := 236) rfl)) rfl
theorem wd_87 : (.fieldLink RX4 26 "LotRules" "rows" "LLotRules$Rows;" : Cond) ∈ WS := ws_in (mt_1 (List.mem_of_getElem? (i := 127) (by decide +kernel))) (by decide +kernel)
theorem wd_88 : (.fieldLink RX4 230 "LotRules$Rows" "written" "I" : Cond) ∈ WS := ws_in (mt_1 (List.mem_of_getElem? (i := 115) (by decide +kernel))) (by decide +kernel)
theorem wd_89 : (.fieldLink RX4 233 "LotRules$Units" "gone" "I" : Cond) ∈ WS := ws_in (mt_1 (List.mem_of_getElem? (i := 87) (by decide +kernel))) (by decide +kernel)
theorem wd_90 : (.methodLink RX4 50 yX4_requireRange : Cond) ∈ WS := ws_in (mt_1 (List.mem_of_getElem? (i := 166) (by decide +kernel))) (by decide +kernel)
theorem wd_91 : (.static yX4_requireRange : Cond) ∈ WS := ws_in (mt_1 (List.mem_of_getElem? (i := 167) (by decide +kernel))) (by decide +kernel)
theorem wd_92 : (.initialized RX4 : Cond) ∈ WS := ws_in (mt_1 (List.mem_of_getElem? (i := 1) (by decide +kernel))) (by decide +kernel)
theorem wcX4_requireRange : (.code yX4_requireRange cX4_requireRange 3 none : Cond) ∈ WS := ws_in (mt_1 (List.mem_of_getElem? (i := 168) rfl)) rfl
theorem wd_94 : (.constant RX4 54 36524 : Cond) ∈ WS := ws_in (mt_1 (List.mem_of_getElem? (i := 238) (by decide +kernel))) (by decide +kernel)
theorem wd_95 : (.methodLink RX4 55 yX1_haveRoom : Cond) ∈ WS := ws_in (mt_1 (List.mem_of_getElem? (i := 239) (by decide +kernel))) (by decide +kernel)
theorem wd_96 : (.instanceMethod yX1_haveRoom : Cond) ∈ WS := ws_in (mt_2 (List.mem_of_getElem? (i := 0) (by decide +kernel))) (by decide +kernel)
theorem wd_97 : (.selects RX1 yX1_haveRoom yX1_haveRoom : Cond) ∈ WS := ws_in (mt_2 (List.mem_of_getElem? (i := 1) (by decide +kernel))) (by decide +kernel)
theorem wcX1_haveRoom : (.code yX1_haveRoom cX1_haveRoom 1 (some .boolean) : Cond) ∈ WS := ws_in (mt_2 (List.mem_of_getElem? (i := 2) rfl)) rfl
theorem wd_99 : (.methodLink RX4 63 yX4_requireRoom : Cond) ∈ WS := ws_in (mt_2 (List.mem_of_getElem? (i := 7) (by decide +kernel))) (by decide +kernel)
theorem wd_100 : (.static yX4_requireRoom : Cond) ∈ WS := ws_in (mt_2 (List.mem_of_getElem? (i := 8) (by decide +kernel))) (by decide +kernel)
theorem wcX4_requireRoom : (.code yX4_requireRoom cX4_requireRoom 1 none : Cond) ∈ WS := ws_in (mt_2 (List.mem_of_getElem? (i := 9) rfl)) rfl
theorem wd_102 : (.methodLink RX4 59 yX2_haveRoomFor : Cond) ∈ WS := ws_in (mt_2 (List.mem_of_getElem? (i := 3) (by decide +kernel))) (by decide +kernel)
theorem wd_103 : (.instanceMethod yX2_haveRoomFor : Cond) ∈ WS := ws_in (mt_2 (List.mem_of_getElem? (i := 4) (by decide +kernel))) (by decide +kernel)
theorem wd_104 : (.selects RX2 yX2_haveRoomFor yX2_haveRoomFor : Cond) ∈ WS := ws_in (mt_2 (List.mem_of_getElem? (i := 5) (by decide +kernel))) (by decide +kernel)
theorem wd_105 : (.initialized RX2 : Cond) ∈ WS := ws_in (mt_1 (List.mem_of_getElem? (i := 4) (by decide +kernel))) (by decide +kernel)
theorem wcX2_haveRoomFor : (.code yX2_haveRoomFor cX2_haveRoomFor 2 (some .boolean) : Cond) ∈ WS := ws_in (mt_2 (List.mem_of_getElem? (i := 6) rfl)) rfl
theorem wd_107 : (.methodLink RX4 67 yX1_add : Cond) ∈ WS := ws_in (mt_2 (List.mem_of_getElem? (i := 26) (by decide +kernel))) (by decide +kernel)
theorem wd_108 : (.methodLink RX4 71 yX2_write : Cond) ∈ WS := ws_in (mt_2 (List.mem_of_getElem? (i := 30) (by decide +kernel))) (by decide +kernel)
theorem wd_109 : (.instanceMethod yX2_write : Cond) ∈ WS := ws_in (mt_2 (List.mem_of_getElem? (i := 31) (by decide +kernel))) (by decide +kernel)
theorem wd_110 : (.selects RX2 yX2_write yX2_write : Cond) ∈ WS := ws_in (mt_2 (List.mem_of_getElem? (i := 32) (by decide +kernel))) (by decide +kernel)
theorem wcX2_write : (.code yX2_write cX2_write 4 none : Cond) ∈ WS := ws_in (mt_2 (List.mem_of_getElem? (i := 33) rfl)) rfl
theorem wd_112 : (.fieldLink RX4 30 "LotRules" "rotations" "[I" : Cond) ∈ WS := ws_in (mt_1 (List.mem_of_getElem? (i := 128) (by decide +kernel))) (by decide +kernel)
theorem wd_113 : (.fieldLink RX4 40 "LotRules" "releasableReasons" "[I" : Cond) ∈ WS := ws_in (mt_1 (List.mem_of_getElem? (i := 131) (by decide +kernel))) (by decide +kernel)
theorem wd_114 : (.methodLink RX4 74 yX4_requireLot : Cond) ∈ WS := ws_in (mt_2 (List.mem_of_getElem? (i := 64) (by decide +kernel))) (by decide +kernel)
theorem wd_115 : (.instanceMethod yX4_requireLot : Cond) ∈ WS := ws_in (mt_2 (List.mem_of_getElem? (i := 66) (by decide +kernel))) (by decide +kernel)
theorem wd_116 : (.selects RX4 yX4_requireLot yX4_requireLot : Cond) ∈ WS := ws_in (List.mem_append_left _ (List.mem_of_getElem? (i := 1) (by decide +kernel))) (by decide +kernel)
theorem wcX4_requireLot : (.code yX4_requireLot cX4_requireLot 2 none : Cond) ∈ WS := ws_in (mt_2 (List.mem_of_getElem? (i := 67) rfl)) rfl
theorem wd_118 : (.fieldLink RX4 78 "LotRules$Lots" "open" "[Z" : Cond) ∈ WS := ws_in (mt_1 (List.mem_of_getElem? (i := 39) (by decide +kernel))) (by decide +kernel)
theorem wd_119 : (.methodLink RX4 85 yX4_requireState : Cond) ∈ WS := ws_in (mt_2 (List.mem_of_getElem? (i := 84) (by decide +kernel))) (by decide +kernel)
theorem wd_120 : (.static yX4_requireState : Cond) ∈ WS := ws_in (mt_2 (List.mem_of_getElem? (i := 85) (by decide +kernel))) (by decide +kernel)
theorem wcX4_requireState : (.code yX4_requireState cX4_requireState 1 none : Cond) ∈ WS := ws_in (mt_2 (List.mem_of_getElem? (i := 86) rfl)) rfl
theorem wd_122 : (.fieldLink RX4 82 "LotRules$Lots" "reasons" "[I" : Cond) ∈ WS := ws_in (mt_1 (List.mem_of_getElem? (i := 41) (by decide +kernel))) (by decide +kernel)
theorem wd_123 : (.methodLink RX4 88 yJ6_bitCount : Cond) ∈ WS := ws_in (mt_2 (List.mem_of_getElem? (i := 103) (by decide +kernel))) (by decide +kernel)
theorem wd_124 : (.static yJ6_bitCount : Cond) ∈ WS := ws_in (mt_2 (List.mem_of_getElem? (i := 104) (by decide +kernel))) (by decide +kernel)
theorem wd_125 : (.initialized RJ6 : Cond) ∈ WS := ws_in (mt_1 (List.mem_of_getElem? (i := 13) (by decide +kernel))) (by decide +kernel)
theorem wcJ6_bitCount : (.code yJ6_bitCount cJ6_bitCount 1 (some .int) : Cond) ∈ WS := ws_in (mt_2 (List.mem_of_getElem? (i := 105) rfl)) rfl
theorem wd_127 : (.fieldLink RX4 94 "LotRules$Lots" "quarantined" "[Z" : Cond) ∈ WS := ws_in (mt_1 (List.mem_of_getElem? (i := 43) (by decide +kernel))) (by decide +kernel)
theorem wd_128 : (.methodLink RX4 97 yX4_requireNotNegative : Cond) ∈ WS := ws_in (mt_2 (List.mem_of_getElem? (i := 130) (by decide +kernel))) (by decide +kernel)
theorem wd_129 : (.static yX4_requireNotNegative : Cond) ∈ WS := ws_in (mt_2 (List.mem_of_getElem? (i := 131) (by decide +kernel))) (by decide +kernel)
theorem wcX4_requireNotNegative : (.code yX4_requireNotNegative cX4_requireNotNegative 1 none : Cond) ∈ WS := ws_in (mt_2 (List.mem_of_getElem? (i := 132) rfl)) rfl
theorem wd_131 : (.methodLink RX4 103 yX1_mayBeTakenFor : Cond) ∈ WS := ws_in (mt_2 (List.mem_of_getElem? (i := 134) (by decide +kernel))) (by decide +kernel)
theorem wd_132 : (.methodLink RX4 107 yX1_rivalsBefore : Cond) ∈ WS := ws_in (mt_2 (List.mem_of_getElem? (i := 142) (by decide +kernel))) (by decide +kernel)
theorem wd_133 : (.instanceMethod yX1_rivalsBefore : Cond) ∈ WS := ws_in (mt_2 (List.mem_of_getElem? (i := 143) (by decide +kernel))) (by decide +kernel)
theorem wd_134 : (.selects RX1 yX1_rivalsBefore yX1_rivalsBefore : Cond) ∈ WS := ws_in (mt_2 (List.mem_of_getElem? (i := 144) (by decide +kernel))) (by decide +kernel)
theorem wcX1_rivalsBefore : (.code yX1_rivalsBefore cX1_rivalsBefore 5 (some .int) : Cond) ∈ WS := ws_in (mt_2 (List.mem_of_getElem? (i := 145) rfl)) rfl
theorem wd_136 : (.methodLink RX4 111 yX4_mayGo : Cond) ∈ WS := ws_in (mt_2 (List.mem_of_getElem? (i := 162) (by decide +kernel))) (by decide +kernel)
theorem wd_137 : (.instanceMethod yX4_mayGo : Cond) ∈ WS := ws_in (mt_2 (List.mem_of_getElem? (i := 164) (by decide +kernel))) (by decide +kernel)
theorem wd_138 : (.selects RX4 yX4_mayGo yX4_mayGo : Cond) ∈ WS := ws_in (List.mem_append_left _ (List.mem_of_getElem? (i := 4) (by decide +kernel))) (by decide +kernel)
theorem wcX4_mayGo : (.code yX4_mayGo cX4_mayGo 4 (some .boolean) : Cond) ∈ WS := ws_in (mt_2 (List.mem_of_getElem? (i := 165) rfl)) rfl
theorem wd_140 : (.methodLink RX4 114 yX1_addPartOf : Cond) ∈ WS := ws_in (mt_2 (List.mem_of_getElem? (i := 174) (by decide +kernel))) (by decide +kernel)
theorem wd_141 : (.instanceMethod yX1_addPartOf : Cond) ∈ WS := ws_in (mt_2 (List.mem_of_getElem? (i := 175) (by decide +kernel))) (by decide +kernel)
theorem wd_142 : (.selects RX1 yX1_addPartOf yX1_addPartOf : Cond) ∈ WS := ws_in (mt_2 (List.mem_of_getElem? (i := 176) (by decide +kernel))) (by decide +kernel)
theorem wcX1_addPartOf : (.code yX1_addPartOf cX1_addPartOf 3 (some .int) : Cond) ∈ WS := ws_in (mt_2 (List.mem_of_getElem? (i := 177) rfl)) rfl
theorem wd_144 : (.methodLink RX4 117 yX1_areAlike : Cond) ∈ WS := ws_in (mt_2 (List.mem_of_getElem? (i := 186) (by decide +kernel))) (by decide +kernel)
theorem wd_145 : (.instanceMethod yX1_areAlike : Cond) ∈ WS := ws_in (mt_2 (List.mem_of_getElem? (i := 187) (by decide +kernel))) (by decide +kernel)
theorem wd_146 : (.selects RX1 yX1_areAlike yX1_areAlike : Cond) ∈ WS := ws_in (mt_2 (List.mem_of_getElem? (i := 188) (by decide +kernel))) (by decide +kernel)
theorem wcX1_areAlike : (.code yX1_areAlike cX1_areAlike 3 (some .boolean) : Cond) ∈ WS := ws_in (mt_2 (List.mem_of_getElem? (i := 189) rfl)) rfl
theorem wd_148 : (.methodLink RX4 121 yX1_closeInto : Cond) ∈ WS := ws_in (mt_2 (List.mem_of_getElem? (i := 190) (by decide +kernel))) (by decide +kernel)
theorem wd_149 : (.instanceMethod yX1_closeInto : Cond) ∈ WS := ws_in (mt_2 (List.mem_of_getElem? (i := 191) (by decide +kernel))) (by decide +kernel)
theorem wd_150 : (.selects RX1 yX1_closeInto yX1_closeInto : Cond) ∈ WS := ws_in (mt_2 (List.mem_of_getElem? (i := 192) (by decide +kernel))) (by decide +kernel)
theorem wcX1_closeInto : (.code yX1_closeInto cX1_closeInto 3 none : Cond) ∈ WS := ws_in (mt_2 (List.mem_of_getElem? (i := 193) rfl)) rfl
theorem wd_152 : (.methodLink RX4 125 yX3_moveAll : Cond) ∈ WS := ws_in (mt_2 (List.mem_of_getElem? (i := 194) (by decide +kernel))) (by decide +kernel)
theorem wd_153 : (.instanceMethod yX3_moveAll : Cond) ∈ WS := ws_in (mt_2 (List.mem_of_getElem? (i := 195) (by decide +kernel))) (by decide +kernel)
theorem wd_154 : (.selects RX3 yX3_moveAll yX3_moveAll : Cond) ∈ WS := ws_in (mt_2 (List.mem_of_getElem? (i := 196) (by decide +kernel))) (by decide +kernel)
theorem wcX3_moveAll : (.code yX3_moveAll cX3_moveAll 4 none : Cond) ∈ WS := ws_in (mt_2 (List.mem_of_getElem? (i := 197) rfl)) rfl
theorem wd_156 : (.methodLink RX4 128 yX3_haveRoom : Cond) ∈ WS := ws_in (mt_2 (List.mem_of_getElem? (i := 205) (by decide +kernel))) (by decide +kernel)
theorem wd_157 : (.instanceMethod yX3_haveRoom : Cond) ∈ WS := ws_in (mt_2 (List.mem_of_getElem? (i := 206) (by decide +kernel))) (by decide +kernel)
theorem wd_158 : (.selects RX3 yX3_haveRoom yX3_haveRoom : Cond) ∈ WS := ws_in (mt_2 (List.mem_of_getElem? (i := 207) (by decide +kernel))) (by decide +kernel)
theorem wcX3_haveRoom : (.code yX3_haveRoom cX3_haveRoom 1 (some .boolean) : Cond) ∈ WS := ws_in (mt_2 (List.mem_of_getElem? (i := 208) rfl)) rfl
theorem wd_160 : (.methodLink RX4 129 yX3_add : Cond) ∈ WS := ws_in (mt_2 (List.mem_of_getElem? (i := 209) (by decide +kernel))) (by decide +kernel)
theorem wd_161 : (.instanceMethod yX3_add : Cond) ∈ WS := ws_in (mt_2 (List.mem_of_getElem? (i := 210) (by decide +kernel))) (by decide +kernel)
theorem wd_162 : (.selects RX3 yX3_add yX3_add : Cond) ∈ WS := ws_in (mt_2 (List.mem_of_getElem? (i := 211) (by decide +kernel))) (by decide +kernel)
theorem wcX3_add : (.code yX3_add cX3_add 2 (some .int) : Cond) ∈ WS := ws_in (mt_2 (List.mem_of_getElem? (i := 212) rfl)) rfl
theorem wd_164 : (.methodLink RX4 131 yX4_requireUnit : Cond) ∈ WS := ws_in (mt_2 (List.mem_of_getElem? (i := 220) (by decide +kernel))) (by decide +kernel)
theorem wd_165 : (.instanceMethod yX4_requireUnit : Cond) ∈ WS := ws_in (mt_2 (List.mem_of_getElem? (i := 222) (by decide +kernel))) (by decide +kernel)
theorem wd_166 : (.selects RX4 yX4_requireUnit yX4_requireUnit : Cond) ∈ WS := ws_in (List.mem_append_left _ (List.mem_of_getElem? (i := 5) (by decide +kernel))) (by decide +kernel)
theorem wcX4_requireUnit : (.code yX4_requireUnit cX4_requireUnit 2 none : Cond) ∈ WS := ws_in (mt_2 (List.mem_of_getElem? (i := 223) rfl)) rfl
theorem wd_168 : (.methodLink RX4 134 yX3_isGone : Cond) ∈ WS := ws_in (mt_2 (List.mem_of_getElem? (i := 225) (by decide +kernel))) (by decide +kernel)
theorem wd_169 : (.methodLink RX4 140 yX4_lotThatHinders : Cond) ∈ WS := ws_in (mt_2 (List.mem_of_getElem? (i := 229) (by decide +kernel))) (by decide +kernel)
theorem wd_170 : (.instanceMethod yX4_lotThatHinders : Cond) ∈ WS := ws_in (mt_2 (List.mem_of_getElem? (i := 231) (by decide +kernel))) (by decide +kernel)
theorem wd_171 : (.selects RX4 yX4_lotThatHinders yX4_lotThatHinders : Cond) ∈ WS := ws_in (List.mem_append_left _ (List.mem_of_getElem? (i := 6) (by decide +kernel))) (by decide +kernel)
theorem wcX4_lotThatHinders : (.code yX4_lotThatHinders cX4_lotThatHinders 6 (some .int) : Cond) ∈ WS := ws_in (mt_2 (List.mem_of_getElem? (i := 232) rfl)) rfl
theorem wd_173 : (.fieldLink RX4 43 "LotRules" "refusedLot" "I" : Cond) ∈ WS := ws_in (mt_1 (List.mem_of_getElem? (i := 132) (by decide +kernel))) (by decide +kernel)
theorem wd_174 : (.fieldLink RX4 47 "LotRules" "hinderingLot" "I" : Cond) ∈ WS := ws_in (mt_1 (List.mem_of_getElem? (i := 133) (by decide +kernel))) (by decide +kernel)
theorem wd_175 : (.methodLink RX4 153 yX3_send : Cond) ∈ WS := ws_in (mt_3 (List.mem_of_getElem? (i := 15) (by decide +kernel))) (by decide +kernel)
theorem wd_176 : (.instanceMethod yX3_send : Cond) ∈ WS := ws_in (mt_3 (List.mem_of_getElem? (i := 16) (by decide +kernel))) (by decide +kernel)
theorem wd_177 : (.selects RX3 yX3_send yX3_send : Cond) ∈ WS := ws_in (mt_3 (List.mem_of_getElem? (i := 17) (by decide +kernel))) (by decide +kernel)
theorem wcX3_send : (.code yX3_send cX3_send 4 none : Cond) ∈ WS := ws_in (mt_3 (List.mem_of_getElem? (i := 18) rfl)) rfl
theorem wd_179 : (.methodLink RX4 156 yX1_familyOf : Cond) ∈ WS := ws_in (mt_3 (List.mem_of_getElem? (i := 26) (by decide +kernel))) (by decide +kernel)
theorem wd_180 : (.instanceMethod yX1_familyOf : Cond) ∈ WS := ws_in (mt_3 (List.mem_of_getElem? (i := 27) (by decide +kernel))) (by decide +kernel)
theorem wd_181 : (.selects RX1 yX1_familyOf yX1_familyOf : Cond) ∈ WS := ws_in (mt_3 (List.mem_of_getElem? (i := 28) (by decide +kernel))) (by decide +kernel)
theorem wcX1_familyOf : (.code yX1_familyOf cX1_familyOf 6 (some .long) : Cond) ∈ WS := ws_in (mt_3 (List.mem_of_getElem? (i := 29) rfl)) rfl
theorem wd_183 : (.methodLink RX4 160 yX3_everOfFamily : Cond) ∈ WS := ws_in (mt_3 (List.mem_of_getElem? (i := 30) (by decide +kernel))) (by decide +kernel)
theorem wd_184 : (.instanceMethod yX3_everOfFamily : Cond) ∈ WS := ws_in (mt_3 (List.mem_of_getElem? (i := 31) (by decide +kernel))) (by decide +kernel)
theorem wd_185 : (.selects RX3 yX3_everOfFamily yX3_everOfFamily : Cond) ∈ WS := ws_in (mt_3 (List.mem_of_getElem? (i := 32) (by decide +kernel))) (by decide +kernel)
theorem wcX3_everOfFamily : (.code yX3_everOfFamily cX3_everOfFamily 6 (some .int) : Cond) ∈ WS := ws_in (mt_3 (List.mem_of_getElem? (i := 33) rfl)) rfl
theorem wd_187 : (.fieldLink RX4 164 "LotRules$Units" "customers" "[I" : Cond) ∈ WS := ws_in (mt_1 (List.mem_of_getElem? (i := 80) (by decide +kernel))) (by decide +kernel)
theorem wd_188 : (.fieldLink RX4 167 "LotRules$Units" "daysOfGoing" "[I" : Cond) ∈ WS := ws_in (mt_1 (List.mem_of_getElem? (i := 82) (by decide +kernel))) (by decide +kernel)
theorem wd_189 : (.methodLink RX4 175 yX2_find : Cond) ∈ WS := ws_in (mt_3 (List.mem_of_getElem? (i := 49) (by decide +kernel))) (by decide +kernel)
theorem wd_190 : (.instanceMethod yX2_find : Cond) ∈ WS := ws_in (mt_3 (List.mem_of_getElem? (i := 50) (by decide +kernel))) (by decide +kernel)
theorem wd_191 : (.selects RX2 yX2_find yX2_find : Cond) ∈ WS := ws_in (mt_3 (List.mem_of_getElem? (i := 51) (by decide +kernel))) (by decide +kernel)
theorem wcX2_find : (.code yX2_find cX2_find 5 (some .int) : Cond) ∈ WS := ws_in (mt_3 (List.mem_of_getElem? (i := 52) rfl)) rfl
theorem wd_193 : (.fieldLink RX4 186 "LotRules$Rows" "numbers" "[I" : Cond) ∈ WS := ws_in (mt_1 (List.mem_of_getElem? (i := 113) (by decide +kernel))) (by decide +kernel)
theorem wd_194 : (.fieldLink RX4 183 "LotRules$Rows" "kinds" "[I" : Cond) ∈ WS := ws_in (mt_1 (List.mem_of_getElem? (i := 111) (by decide +kernel))) (by decide +kernel)
theorem wd_195 : (.fieldLink RX4 189 "LotRules$Lots" "goods" "[I" : Cond) ∈ WS := ws_in (mt_1 (List.mem_of_getElem? (i := 31) (by decide +kernel))) (by decide +kernel)
theorem wd_196 : (.methodLink RX4 201 yX3_leftOf : Cond) ∈ WS := ws_in (mt_3 (List.mem_of_getElem? (i := 61) (by decide +kernel))) (by decide +kernel)
theorem wd_197 : (.instanceMethod yX3_leftOf : Cond) ∈ WS := ws_in (mt_3 (List.mem_of_getElem? (i := 62) (by decide +kernel))) (by decide +kernel)
theorem wd_198 : (.selects RX3 yX3_leftOf yX3_leftOf : Cond) ∈ WS := ws_in (mt_3 (List.mem_of_getElem? (i := 63) (by decide +kernel))) (by decide +kernel)
theorem wcX3_leftOf : (.code yX3_leftOf cX3_leftOf 4 (some .int) : Cond) ∈ WS := ws_in (mt_3 (List.mem_of_getElem? (i := 64) rfl)) rfl
theorem wd_200 : (.constant RX4 207 999999 : Cond) ∈ WS := ws_in (mt_3 (List.mem_of_getElem? (i := 75) (by decide +kernel))) (by decide +kernel)
theorem wd_201 : (.methodLink RX4 213 yX0_fromMonthDay : Cond) ∈ WS := ws_in (mt_3 (List.mem_of_getElem? (i := 87) (by decide +kernel))) (by decide +kernel)
theorem wd_202 : (.static yX0_fromMonthDay : Cond) ∈ WS := ws_in (mt_3 (List.mem_of_getElem? (i := 88) (by decide +kernel))) (by decide +kernel)
theorem wcX0_fromMonthDay : (.code yX0_fromMonthDay cX0_fromMonthDay 4 (some .int) : Cond) ∈ WS := ws_in (mt_3 (List.mem_of_getElem? (i := 89) rfl)) rfl
theorem wd_204 : (.constant RX4 206 99999 : Cond) ∈ WS := ws_in (mt_3 (List.mem_of_getElem? (i := 74) (by decide +kernel))) (by decide +kernel)
theorem wd_205 : (.methodLink RX4 208 yX0_fromYearDay : Cond) ∈ WS := ws_in (mt_3 (List.mem_of_getElem? (i := 76) (by decide +kernel))) (by decide +kernel)
theorem wd_206 : (.methodLink RX4 217 yX0_yearOf : Cond) ∈ WS := ws_in (mt_3 (List.mem_of_getElem? (i := 98) (by decide +kernel))) (by decide +kernel)
theorem wd_207 : (.static yX0_yearOf : Cond) ∈ WS := ws_in (mt_3 (List.mem_of_getElem? (i := 99) (by decide +kernel))) (by decide +kernel)
theorem wcX0_yearOf : (.code yX0_yearOf cX0_yearOf 2 (some .int) : Cond) ∈ WS := ws_in (mt_3 (List.mem_of_getElem? (i := 100) rfl)) rfl
theorem wd_209 : (.methodLink RX4 220 yX0_startOfYear : Cond) ∈ WS := ws_in (mt_3 (List.mem_of_getElem? (i := 101) (by decide +kernel))) (by decide +kernel)
theorem wd_210 : (.methodLink RX4 223 yX0_monthOf : Cond) ∈ WS := ws_in (mt_3 (List.mem_of_getElem? (i := 102) (by decide +kernel))) (by decide +kernel)
theorem wd_211 : (.static yX0_monthOf : Cond) ∈ WS := ws_in (mt_3 (List.mem_of_getElem? (i := 103) (by decide +kernel))) (by decide +kernel)
theorem wcX0_monthOf : (.code yX0_monthOf cX0_monthOf 3 (some .int) : Cond) ∈ WS := ws_in (mt_3 (List.mem_of_getElem? (i := 104) rfl)) rfl
theorem wd_213 : (.methodLink RX4 226 yX0_daysBefore : Cond) ∈ WS := ws_in (mt_3 (List.mem_of_getElem? (i := 105) (by decide +kernel))) (by decide +kernel)
theorem wd_214 : (.methodLink RX1 3 objectInit : Cond) ∈ WS := ws_in (mt_1 (List.mem_of_getElem? (i := 29) (by decide +kernel))) (by decide +kernel)
theorem wd_215 : (.instanceMethod objectInit : Cond) ∈ WS := ws_in (mt_1 (List.mem_of_getElem? (i := 22) (by decide +kernel))) (by decide +kernel)
theorem wd_216 : (.arrayClass .int : Cond) ∈ WS := ws_in (mt_1 (List.mem_of_getElem? (i := 66) (by decide +kernel))) (by decide +kernel)
theorem wd_217 : (.arrayClass .boolean : Cond) ∈ WS := ws_in (mt_1 (List.mem_of_getElem? (i := 67) (by decide +kernel))) (by decide +kernel)
theorem wd_218 : (.arrayClass .long : Cond) ∈ WS := ws_in (mt_1 (List.mem_of_getElem? (i := 68) (by decide +kernel))) (by decide +kernel)
theorem wd_219 : (.methodLink RX3 3 objectInit : Cond) ∈ WS := ws_in (mt_1 (List.mem_of_getElem? (i := 74) (by decide +kernel))) (by decide +kernel)
theorem wd_220 : (.methodLink RX2 3 objectInit : Cond) ∈ WS := ws_in (mt_1 (List.mem_of_getElem? (i := 108) (by decide +kernel))) (by decide +kernel)
theorem wd_221 : (.methodLink RX4 1 objectInit : Cond) ∈ WS := ws_in (mt_1 (List.mem_of_getElem? (i := 21) (by decide +kernel))) (by decide +kernel)
theorem wd_222 : (.classLink RX4 7 RX1 : Cond) ∈ WS := ws_in (mt_1 (List.mem_of_getElem? (i := 24) (by decide +kernel))) (by decide +kernel)
theorem wd_223 : (.instantiable RX1 9 : Cond) ∈ WS := ws_in (mt_1 (List.mem_of_getElem? (i := 25) (by decide +kernel))) (by decide +kernel)
theorem wcX1_init : (.code yX1_init cX1_init 1 none : Cond) ∈ WS := ws_in (mt_1 (List.mem_of_getElem? (i := 28) rfl)) rfl
theorem wd_225 : (.methodLink RX4 9 yX1_init : Cond) ∈ WS := ws_in (mt_1 (List.mem_of_getElem? (i := 26) (by decide +kernel))) (by decide +kernel)
theorem wd_226 : (.instanceMethod yX1_init : Cond) ∈ WS := ws_in (mt_1 (List.mem_of_getElem? (i := 27) (by decide +kernel))) (by decide +kernel)
theorem wd_227 : (.classLink RX4 16 RX3 : Cond) ∈ WS := ws_in (mt_1 (List.mem_of_getElem? (i := 69) (by decide +kernel))) (by decide +kernel)
theorem wd_228 : (.instantiable RX3 7 : Cond) ∈ WS := ws_in (mt_1 (List.mem_of_getElem? (i := 70) (by decide +kernel))) (by decide +kernel)
theorem wcX3_init : (.code yX3_init cX3_init 1 none : Cond) ∈ WS := ws_in (mt_1 (List.mem_of_getElem? (i := 73) rfl)) rfl
theorem wd_230 : (.methodLink RX4 18 yX3_init : Cond) ∈ WS := ws_in (mt_1 (List.mem_of_getElem? (i := 71) (by decide +kernel))) (by decide +kernel)
theorem wd_231 : (.instanceMethod yX3_init : Cond) ∈ WS := ws_in (mt_1 (List.mem_of_getElem? (i := 72) (by decide +kernel))) (by decide +kernel)
theorem wd_232 : (.classLink RX4 23 RX2 : Cond) ∈ WS := ws_in (mt_1 (List.mem_of_getElem? (i := 103) (by decide +kernel))) (by decide +kernel)
theorem wd_233 : (.instantiable RX2 4 : Cond) ∈ WS := ws_in (mt_1 (List.mem_of_getElem? (i := 104) (by decide +kernel))) (by decide +kernel)
theorem wcX2_init : (.code yX2_init cX2_init 1 none : Cond) ∈ WS := ws_in (mt_1 (List.mem_of_getElem? (i := 107) rfl)) rfl
theorem wd_235 : (.methodLink RX4 25 yX2_init : Cond) ∈ WS := ws_in (mt_1 (List.mem_of_getElem? (i := 105) (by decide +kernel))) (by decide +kernel)
theorem wd_236 : (.instanceMethod yX2_init : Cond) ∈ WS := ws_in (mt_1 (List.mem_of_getElem? (i := 106) (by decide +kernel))) (by decide +kernel)
abbrev wsX4_init : List Cond := .code yX4_init cX4_init 2 none :: WS
abbrev wsX1_init : List Cond := .code yX1_init cX1_init 1 none :: WS
abbrev wsX3_init : List Cond := .code yX3_init cX3_init 1 none :: WS
abbrev wsX2_init : List Cond := .code yX2_init cX2_init 1 none :: WS
abbrev wsX4_count : List Cond := .code yX4_count cX4_count 2 (some .int) :: WS
abbrev wsL_lot : List Cond := .codeWith yL_lot cL_lot 7 (some .int) [(0, 14, 17, 13), (0, 14, 21, 15)] :: WS
abbrev wsX4_lot : List Cond := .code yX4_lot cX4_lot 6 (some .int) :: WS
abbrev wsX4_requireRange : List Cond := .code yX4_requireRange cX4_requireRange 3 none :: WS
abbrev wsX1_haveRoom : List Cond := .code yX1_haveRoom cX1_haveRoom 1 (some .boolean) :: WS
abbrev wsX2_haveRoomFor : List Cond := .code yX2_haveRoomFor cX2_haveRoomFor 2 (some .boolean) :: WS
abbrev wsX4_requireRoom : List Cond := .code yX4_requireRoom cX4_requireRoom 1 none :: WS
abbrev wsX1_add : List Cond := .code yX1_add cX1_add 5 (some .int) :: WS
abbrev wsX2_write : List Cond := .code yX2_write cX2_write 4 none :: WS
abbrev wsL_rule : List Cond := .codeWith yL_rule cL_rule 5 (some .int) [(0, 7, 10, 13)] :: WS
abbrev wsX4_rule : List Cond := .code yX4_rule cX4_rule 4 none :: WS
abbrev wsL_wants : List Cond := .codeWith yL_wants cL_wants 4 (some .int) [(0, 6, 9, 13)] :: WS
abbrev wsX4_wants : List Cond := .code yX4_wants cX4_wants 3 none :: WS
abbrev wsL_right : List Cond := .codeWith yL_right cL_right 5 (some .int) [(0, 7, 10, 13)] :: WS
abbrev wsX4_right : List Cond := .code yX4_right cX4_right 4 none :: WS
abbrev wsL_block : List Cond := .codeWith yL_block cL_block 5 (some .int) [(0, 10, 13, 33), (0, 10, 17, 13), (0, 10, 21, 35), (0, 10, 25, 15)] :: WS
abbrev wsX4_block : List Cond := .code yX4_block cX4_block 4 (some .int) :: WS
abbrev wsX4_requireLot : List Cond := .code yX4_requireLot cX4_requireLot 2 none :: WS
abbrev wsX4_requireState : List Cond := .code yX4_requireState cX4_requireState 1 none :: WS
abbrev wsJ6_bitCount : List Cond := .code yJ6_bitCount cJ6_bitCount 1 (some .int) :: WS
abbrev wsL_release : List Cond := .codeWith yL_release cL_release 5 (some .int) [(0, 10, 13, 33), (0, 10, 17, 13), (0, 10, 21, 35), (0, 10, 25, 15)] :: WS
abbrev wsX4_release : List Cond := .code yX4_release cX4_release 4 (some .int) :: WS
abbrev wsL_quarantine : List Cond := .codeWith yL_quarantine cL_quarantine 4 (some .int) [(0, 6, 9, 33), (0, 6, 12, 35), (0, 6, 15, 15)] :: WS
abbrev wsX4_quarantine : List Cond := .code yX4_quarantine cX4_quarantine 3 none :: WS
abbrev wsL_order : List Cond := .codeWith yL_order cL_order 6 (some .int) [(0, 12, 15, 13)] :: WS
abbrev wsX4_order : List Cond := .code yX4_order cX4_order 5 (some .int) :: WS
abbrev wsX4_requireNotNegative : List Cond := .code yX4_requireNotNegative cX4_requireNotNegative 1 none :: WS
abbrev wsX1_mayBeTakenFor : List Cond := .code yX1_mayBeTakenFor cX1_mayBeTakenFor 4 (some .boolean) :: WS
abbrev wsX1_mayBeTaken : List Cond := .code yX1_mayBeTaken cX1_mayBeTaken 2 (some .boolean) :: WS
abbrev wsX1_rivalsBefore : List Cond := .code yX1_rivalsBefore cX1_rivalsBefore 5 (some .int) :: WS
abbrev wsX1_comesBefore : List Cond := .code yX1_comesBefore cX1_comesBefore 4 (some .boolean) :: WS
abbrev wsX1_arrivedBefore : List Cond := .code yX1_arrivedBefore cX1_arrivedBefore 3 (some .boolean) :: WS
abbrev wsL_allowed : List Cond := .codeWith yL_allowed cL_allowed 6 (some .int) [(0, 19, 22, 33), (0, 19, 26, 13)] :: WS
abbrev wsX4_allowed : List Cond := .code yX4_allowed cX4_allowed 4 (some .boolean) :: WS
abbrev wsX4_mayGo : List Cond := .code yX4_mayGo cX4_mayGo 4 (some .boolean) :: WS
abbrev wsL_split : List Cond := .codeWith yL_split cL_split 4 (some .int) [(0, 9, 12, 33), (0, 9, 15, 35), (0, 9, 18, 15)] :: WS
abbrev wsX4_split : List Cond := .code yX4_split cX4_split 3 (some .int) :: WS
abbrev wsX1_addPartOf : List Cond := .code yX1_addPartOf cX1_addPartOf 3 (some .int) :: WS
abbrev wsL_join : List Cond := .codeWith yL_join cL_join 4 (some .int) [(0, 6, 9, 33), (0, 6, 12, 35), (0, 6, 15, 15)] :: WS
abbrev wsX4_join : List Cond := .code yX4_join cX4_join 3 none :: WS
abbrev wsX1_areAlike : List Cond := .code yX1_areAlike cX1_areAlike 3 (some .boolean) :: WS
abbrev wsX1_closeInto : List Cond := .code yX1_closeInto cX1_closeInto 3 none :: WS
abbrev wsX3_moveAll : List Cond := .code yX3_moveAll cX3_moveAll 4 none :: WS
abbrev wsL_unit : List Cond := .codeWith yL_unit cL_unit 4 (some .int) [(0, 9, 12, 33), (0, 9, 15, 35), (0, 9, 18, 15)] :: WS
abbrev wsX4_unit : List Cond := .code yX4_unit cX4_unit 3 (some .int) :: WS
abbrev wsX3_haveRoom : List Cond := .code yX3_haveRoom cX3_haveRoom 1 (some .boolean) :: WS
abbrev wsX3_add : List Cond := .code yX3_add cX3_add 2 (some .int) :: WS
abbrev wsL_put : List Cond := .codeWith yL_put cL_put 4 (some .int) [(0, 6, 9, 33), (0, 6, 12, 13), (0, 6, 15, 35)] :: WS
abbrev wsX4_put : List Cond := .code yX4_put cX4_put 4 none :: WS
abbrev wsX4_requireUnit : List Cond := .code yX4_requireUnit cX4_requireUnit 2 none :: WS
abbrev wsX3_isGone : List Cond := .code yX3_isGone cX3_isGone 2 (some .boolean) :: WS
abbrev wsX4_lotThatHinders : List Cond := .code yX4_lotThatHinders cX4_lotThatHinders 6 (some .int) :: WS
abbrev wsX1_lieTooFarApart : List Cond := .code yX1_lieTooFarApart cX1_lieTooFarApart 4 (some .boolean) :: WS
abbrev wsL_mixed : List Cond := .codeWith yL_mixed cL_mixed 4 (some .int) [(0, 9, 12, 13)] :: WS
abbrev wsX4_mixed : List Cond := .code yX4_mixed cX4_mixed 2 (some .int) :: WS
abbrev wsL_ship : List Cond := .codeWith yL_ship cL_ship 5 (some .int) [(0, 7, 10, 33), (0, 7, 14, 13), (0, 7, 18, 35), (0, 7, 22, 15)] :: WS
abbrev wsX4_ship : List Cond := .code yX4_ship cX4_ship 5 none :: WS
abbrev wsX3_send : List Cond := .code yX3_send cX3_send 4 none :: WS
abbrev wsL_recall : List Cond := .codeWith yL_recall cL_recall 5 (some .int) [(0, 10, 13, 33), (0, 10, 17, 13)] :: WS
abbrev wsX4_recall : List Cond := .code yX4_recall cX4_recall 3 (some .int) :: WS
abbrev wsX1_familyOf : List Cond := .code yX1_familyOf cX1_familyOf 6 (some .long) :: WS
abbrev wsX3_everOfFamily : List Cond := .code yX3_everOfFamily cX3_everOfFamily 6 (some .int) :: WS
abbrev wsL_where : List Cond := .codeWith yL_where cL_where 5 (some .int) [(0, 10, 13, 33), (0, 10, 17, 13)] :: WS
abbrev wsX4_where : List Cond := .code yX4_where cX4_where 3 (some .int) :: WS
abbrev wsL_history : List Cond := .codeWith yL_history cL_history 6 (some .int) [(0, 12, 15, 33), (0, 12, 19, 13)] :: WS
abbrev wsX4_history : List Cond := .code yX4_history cX4_history 5 (some .int) :: WS
abbrev wsX2_find : List Cond := .code yX2_find cX2_find 5 (some .int) :: WS
abbrev wsL_told : List Cond := .codeWith yL_told cL_told 5 (some .int) [(0, 10, 13, 33), (0, 10, 17, 13)] :: WS
abbrev wsX4_told : List Cond := .code yX4_told cX4_told 3 (some .int) :: WS
abbrev wsX3_leftOf : List Cond := .code yX3_leftOf cX3_leftOf 4 (some .int) :: WS
abbrev wsL_day : List Cond := .codeWith yL_day cL_day 5 (some .int) [(0, 10, 13, 13)] :: WS
abbrev wsX4_day : List Cond := .code yX4_day cX4_day 6 (some .int) :: WS
abbrev wsX0_fromYearDay : List Cond := .code yX0_fromYearDay cX0_fromYearDay 2 (some .int) :: WS
abbrev wsX0_daysBefore : List Cond := .code yX0_daysBefore cX0_daysBefore 3 (some .int) :: WS
abbrev wsX0_startOfYear : List Cond := .code yX0_startOfYear cX0_startOfYear 1 (some .int) :: WS
abbrev wsX0_fromMonthDay : List Cond := .code yX0_fromMonthDay cX0_fromMonthDay 4 (some .int) :: WS
abbrev wsL_date : List Cond := .codeWith yL_date cL_date 5 (some .int) [(0, 10, 13, 13)] :: WS
abbrev wsX4_date : List Cond := .code yX4_date cX4_date 7 (some .int) :: WS
abbrev wsX0_yearOf : List Cond := .code yX0_yearOf cX0_yearOf 2 (some .int) :: WS
abbrev wsX0_monthOf : List Cond := .code yX0_monthOf cX0_monthOf 3 (some .int) :: WS
abbrev wsX5_init : List Cond := .code yX5_init cX5_init 1 none :: WS
abbrev wsX5_thrown : List Cond := .code yX5_thrown cX5_thrown 1 (some .int) :: WS
abbrev wsX5_lot : List Cond := .code yX5_lot cX5_lot 6 (some .int) :: WS
abbrev wsX5_in : List Cond := .code yX5_in cX5_in 3 (some .boolean) :: WS
abbrev wsX5_make : List Cond := .code yX5_make cX5_make 6 (some .int) :: WS
abbrev wsX5_row : List Cond := .code yX5_row cX5_row 4 none :: WS
abbrev wsX5_rule : List Cond := .code yX5_rule cX5_rule 4 none :: WS
abbrev wsX5_wants : List Cond := .code yX5_wants cX5_wants 3 none :: WS
abbrev wsX5_right : List Cond := .code yX5_right cX5_right 4 none :: WS
abbrev wsX5_block : List Cond := .code yX5_block cX5_block 3 (some .int) :: WS
abbrev wsX5_isLot : List Cond := .code yX5_isLot cX5_isLot 2 (some .boolean) :: WS
abbrev wsX5_isOpen : List Cond := .code yX5_isOpen cX5_isOpen 2 (some .boolean) :: WS
abbrev wsX5_bits : List Cond := .code yX5_bits cX5_bits 3 (some .int) :: WS
abbrev wsX5_release : List Cond := .code yX5_release cX5_release 4 (some .int) :: WS
abbrev wsX5_quarantine : List Cond := .code yX5_quarantine cX5_quarantine 3 none :: WS
abbrev wsX5_order : List Cond := .code yX5_order cX5_order 7 (some .int) :: WS
abbrev wsX5_mayBeTaken : List Cond := .code yX5_mayBeTaken cX5_mayBeTaken 2 (some .boolean) :: WS
abbrev wsX5_isBefore : List Cond := .code yX5_isBefore cX5_isBefore 4 (some .boolean) :: WS
abbrev wsX5_allowed : List Cond := .code yX5_allowed cX5_allowed 4 (some .boolean) :: WS
abbrev wsX5_isAllowed : List Cond := .code yX5_isAllowed cX5_isAllowed 4 (some .boolean) :: WS
abbrev wsX5_split : List Cond := .code yX5_split cX5_split 3 (some .int) :: WS
abbrev wsX5_join : List Cond := .code yX5_join cX5_join 4 none :: WS
abbrev wsX5_unit : List Cond := .code yX5_unit cX5_unit 2 (some .int) :: WS
abbrev wsX5_put : List Cond := .code yX5_put cX5_put 4 none :: WS
abbrev wsX5_isUnit : List Cond := .code yX5_isUnit cX5_isUnit 2 (some .boolean) :: WS
abbrev wsX5_isGone : List Cond := .code yX5_isGone cX5_isGone 2 (some .boolean) :: WS
abbrev wsX5_mayMix : List Cond := .code yX5_mayMix cX5_mayMix 4 (some .boolean) :: WS
abbrev wsX5_mixed : List Cond := .code yX5_mixed cX5_mixed 2 (some .int) :: WS
abbrev wsX5_ship : List Cond := .code yX5_ship cX5_ship 4 none :: WS
abbrev wsX5_recall : List Cond := .code yX5_recall cX5_recall 7 (some .int) :: WS
abbrev wsX5_findFamily : List Cond := .code yX5_findFamily cX5_findFamily 4 none :: WS
abbrev wsX5_where : List Cond := .code yX5_where cX5_where 3 (some .int) :: WS
abbrev wsX5_history : List Cond := .code yX5_history cX5_history 7 (some .int) :: WS
abbrev wsX5_told : List Cond := .code yX5_told cX5_told 5 (some .int) :: WS
abbrev wsX5_day : List Cond := .code yX5_day cX5_day 4 (some .int) :: WS
abbrev wsX5_dayOf : List Cond := .code yX5_dayOf cX5_dayOf 5 (some .int) :: WS
abbrev wsX5_daysOfMonth : List Cond := .code yX5_daysOfMonth cX5_daysOfMonth 2 (some .int) :: WS
abbrev wsX5_firstOf : List Cond := .code yX5_firstOf cX5_firstOf 3 (some .int) :: WS
abbrev wsX5_daysOfYear : List Cond := .code yX5_daysOfYear cX5_daysOfYear 1 (some .int) :: WS
abbrev wsX5_date : List Cond := .code yX5_date cX5_date 6 (some .int) :: WS
abbrev wsX5_count : List Cond := .code yX5_count cX5_count 4 (some .int) :: WS