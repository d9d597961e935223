set_option maxHeartbeats 4000000 in
set_option maxRecDepth 100000 in
theorem kX4_requireRange (l : Launch) (hl9 : l.stackTraces = false) (dC : Nat → ClassId) (dI : Nat → Nat → Nat) (H0 : Heap) (x0 : Int32) (x1 : Int32) (x2 : Int32) : vy_Met l yX4_requireRange wsX4_requireRange ({ frames := 6, cells := 1, slots := 6, locals := 82 }) (va_Pc [.int x0, .int x1, .int x2] (fun U => U.heap = H0 ∧ zz (fun q => H0.size ≤ q) U U.heap)) (va_Qv (fun _ : Unit => fX4_requireRange x0 x1 x2 = 0) (fun _ t => t.heap = H0) (fun q => H0.size ≤ q)) (vx_X (fun _ : Unit => fX4_requireRange x0 x1 x2 = 2) (fun E _ _ => E = "java/lang/IllegalArgumentException") (fun q => H0.size ≤ q)) 0 0 1 6 (fun q => H0.size ≤ q) := by
  refine vy_ofW (cc := cX4_requireRange) (maxL := 3) (ret := none) (by decide) rfl ?_
  intro p e s m args below meth c s₁ B hml hxt hv
  obtain ⟨rfl, hH, hZ⟩ := hv
  have hx := B.exec
  have hb := B.bytes
  have hr := B.returns
  have hts := atoms_spec (ws := wsX4_requireRange) B.pre
  have hown : s.vm.findClass RX4 = some m.cls := findClass_of_methodNamed B.named
  have hlocks := B.notSynchronized
  subst hH
  have hA : ∀ q : Nat, s.heap.size ≤ q → (fun q => s.heap.size ≤ q) q := fun q h => h
  have hS : va_S (fun q => s.heap.size ≤ q) s.heap s.heap [] := va_S.rf
  have hl := lv_entry ([.int x0, .int x1, .int x2]) (n := 3) (Nat.le_of_ble_eq_true rfl)
  rw [lg_entry_eq]
  generalize (lg_sl ([.int x0, .int x1, .int x2]) ++ List.replicate (3 - (lg_sl ([.int x0, .int x1, .int x2])).length) Slot.unset).toArray = ls at hl ⊢
  have hl : lv_has ls 3 [(0, .int x0), (1, .int x1), (2, .int x2)] := hl
  refine lv_iload_n hx hb dX4_requireRange_0 rfl (lv_at hl 0 rfl) ?_
  refine lv_iload_n hx hb dX4_requireRange_1 rfl (lv_at hl 1 rfl) ?_
  refine lv_icmp_lt (tgt := 10) hx hb dX4_requireRange_2 (by decide) (fun c_1 => ?_) (fun c_1 => ?_)
  · skip
    have t_2 : x0.toInt < x1.toInt := i_lt c_1 rfl rfl
    obtain ⟨sa_3, hsa_3⟩ := zz_st hZ (own := RX4) (k := 246) (tx := "a number outside its range") (by decide +kernel)
    exact vy_thr (vx_throwS (own := RX4) (cls := "java/lang/IllegalArgumentException") (names := ["java/lang/RuntimeException", "java/lang/Exception"]) hx hb hl9 hown (by decide +kernel) (by decide +kernel) (hts _ (List.mem_cons_of_mem _ wd_3)) (hts _ (List.mem_cons_of_mem _ wd_4)) hsa_3 (vx_hat (L := vx_atS RX4 174 "java/lang/IllegalArgumentException" ["java/lang/RuntimeException", "java/lang/Exception"]) (B := [.castable "java/lang/IllegalArgumentException" "java/lang/IllegalArgumentException", .declares ⟨"java/lang/RuntimeException", "<init>", "(Ljava/lang/String;)V"⟩, .declares ⟨"java/lang/Exception", "<init>", "(Ljava/lang/String;)V"⟩, .declares ⟨"java/lang/Throwable", "<init>", "(Ljava/lang/String;)V"⟩]) (fun w hw => hts w (List.mem_cons_of_mem _ (at_2 w hw))) bt_2 (zz_ws hZ (by decide +kernel))) gt_2 (zz_U hZ) (zz_N hZ) hS (hl.1.trans hml.symm) dX4_requireRange_10 dX4_requireRange_13 dX4_requireRange_14 dX4_requireRange_16 dX4_requireRange_19 (fun x hx => (hxt x hx).elim) (Nat.le_of_ble_eq_true rfl) (Nat.le_of_ble_eq_true rfl) (Nat.le_of_ble_eq_true rfl) (Nat.le_of_ble_eq_true rfl) hlocks (fun t ha hsz hk => ⟨(), (by unfold fX4_requireRange; rw [if_pos c_1]), rfl, hsz, fun q h1 _ => hk q h1⟩) hS.2.2 (Nat.le_of_ble_eq_true rfl) (Nat.le_of_ble_eq_true rfl))
  · skip
    have t_4 : x1.toInt ≤ x0.toInt := i_nlt c_1 rfl rfl
    refine lv_iload_n hx hb dX4_requireRange_5 rfl (lv_at hl 0 rfl) ?_
    refine lv_iload_n hx hb dX4_requireRange_6 rfl (lv_at hl 2 rfl) ?_
    refine lv_icmp_le (tgt := 20) hx hb dX4_requireRange_7 (by decide) (fun c_5 => ?_) (fun c_5 => ?_)
    · skip
      have t_6 : x0.toInt ≤ x2.toInt := i_le c_5 rfl rfl
      exact vy_ret (W.vret hx hb hr (fun t ht hW => ⟨⟨(), rfl, (by unfold fX4_requireRange; rw [if_neg c_1, if_pos c_5]), ht⟩, hS.F ht⟩) hS.2.2 dX4_requireRange_20)
    · skip
      have t_7 : x2.toInt < x0.toInt := i_nle c_5 rfl rfl
      obtain ⟨sa_8, hsa_8⟩ := zz_st hZ (own := RX4) (k := 246) (tx := "a number outside its range") (by decide +kernel)
      exact vy_thr (vx_throwS (own := RX4) (cls := "java/lang/IllegalArgumentException") (names := ["java/lang/RuntimeException", "java/lang/Exception"]) hx hb hl9 hown (by decide +kernel) (by decide +kernel) (hts _ (List.mem_cons_of_mem _ wd_3)) (hts _ (List.mem_cons_of_mem _ wd_4)) hsa_8 (vx_hat (L := vx_atS RX4 174 "java/lang/IllegalArgumentException" ["java/lang/RuntimeException", "java/lang/Exception"]) (B := [.castable "java/lang/IllegalArgumentException" "java/lang/IllegalArgumentException", .declares ⟨"java/lang/RuntimeException", "<init>", "(Ljava/lang/String;)V"⟩, .declares ⟨"java/lang/Exception", "<init>", "(Ljava/lang/String;)V"⟩, .declares ⟨"java/lang/Throwable", "<init>", "(Ljava/lang/String;)V"⟩]) (fun w hw => hts w (List.mem_cons_of_mem _ (at_2 w hw))) bt_2 (zz_ws hZ (by decide +kernel))) gt_2 (zz_U hZ) (zz_N hZ) hS (hl.1.trans hml.symm) dX4_requireRange_10 dX4_requireRange_13 dX4_requireRange_14 dX4_requireRange_16 dX4_requireRange_19 (fun x hx => (hxt x hx).elim) (Nat.le_of_ble_eq_true rfl) (Nat.le_of_ble_eq_true rfl) (Nat.le_of_ble_eq_true rfl) (Nat.le_of_ble_eq_true rfl) hlocks (fun t ha hsz hk => ⟨(), (by unfold fX4_requireRange; rw [if_neg c_1, if_neg c_5]), rfl, hsz, fun q h1 _ => hk q h1⟩) hS.2.2 (Nat.le_of_ble_eq_true rfl) (Nat.le_of_ble_eq_true rfl))
set_option maxHeartbeats 4000000 in
set_option maxRecDepth 100000 in
theorem kX4_requireNotNegative (l : Launch) (hl9 : l.stackTraces = false) (dC : Nat → ClassId) (dI : Nat → Nat → Nat) (H0 : Heap) (x0 : Int32) : vy_Met l yX4_requireNotNegative wsX4_requireNotNegative ({ frames := 6, cells := 1, slots := 6, locals := 82 }) (va_Pc [.int x0] (fun U => U.heap = H0 ∧ zz (fun q => H0.size ≤ q) U U.heap)) (va_Qv (fun _ : Unit => fX4_requireNotNegative x0 = 0) (fun _ t => t.heap = H0) (fun q => H0.size ≤ q)) (vx_X (fun _ : Unit => fX4_requireNotNegative x0 = 2) (fun E _ _ => E = "java/lang/IllegalArgumentException") (fun q => H0.size ≤ q)) 0 0 1 6 (fun q => H0.size ≤ q) := by
  refine vy_ofW (cc := cX4_requireNotNegative) (maxL := 1) (ret := none) (by decide) rfl ?_
  intro p e s m args below meth c s₁ B hml hxt hv
  obtain ⟨rfl, hH, hZ⟩ := hv
  have hx := B.exec
  have hb := B.bytes
  have hr := B.returns
  have hts := atoms_spec (ws := wsX4_requireNotNegative) B.pre
  have hown : s.vm.findClass RX4 = some m.cls := findClass_of_methodNamed B.named
  have hlocks := B.notSynchronized
  subst hH
  have hA : ∀ q : Nat, s.heap.size ≤ q → (fun q => s.heap.size ≤ q) q := fun q h => h
  have hS : va_S (fun q => s.heap.size ≤ q) s.heap s.heap [] := va_S.rf
  have hl := lv_entry ([.int x0]) (n := 1) (Nat.le_of_ble_eq_true rfl)
  rw [lg_entry_eq]
  generalize (lg_sl ([.int x0]) ++ List.replicate (1 - (lg_sl ([.int x0])).length) Slot.unset).toArray = ls at hl ⊢
  have hl : lv_has ls 1 [(0, .int x0)] := hl
  refine lv_iload_n hx hb dX4_requireNotNegative_0 rfl (lv_at hl 0 rfl) ?_
  refine lv_if_ge (tgt := 14) hx hb dX4_requireNotNegative_1 (by decide) (fun c_1 => ?_) (fun c_1 => ?_)
  · skip
    have t_2 : 0 ≤ x0.toInt := i_le c_1 (by decide) rfl
    exact vy_ret (W.vret hx hb hr (fun t ht hW => ⟨⟨(), rfl, (by unfold fX4_requireNotNegative; rw [if_pos c_1]), ht⟩, hS.F ht⟩) hS.2.2 dX4_requireNotNegative_14)
  · skip
    have t_3 : x0.toInt < 0 := i_nle c_1 (by decide) rfl
    obtain ⟨sa_4, hsa_4⟩ := zz_st hZ (own := RX4) (k := 248) (tx := "i is below 0") (by decide +kernel)
    exact vy_thr (vx_throwS (own := RX4) (cls := "java/lang/IllegalArgumentException") (names := ["java/lang/RuntimeException", "java/lang/Exception"]) hx hb hl9 hown (by decide +kernel) (by decide +kernel) (hts _ (List.mem_cons_of_mem _ wd_3)) (hts _ (List.mem_cons_of_mem _ wd_4)) hsa_4 (vx_hat (L := vx_atS RX4 174 "java/lang/IllegalArgumentException" ["java/lang/RuntimeException", "java/lang/Exception"]) (B := [.castable "java/lang/IllegalArgumentException" "java/lang/IllegalArgumentException", .declares ⟨"java/lang/RuntimeException", "<init>", "(Ljava/lang/String;)V"⟩, .declares ⟨"java/lang/Exception", "<init>", "(Ljava/lang/String;)V"⟩, .declares ⟨"java/lang/Throwable", "<init>", "(Ljava/lang/String;)V"⟩]) (fun w hw => hts w (List.mem_cons_of_mem _ (at_2 w hw))) bt_2 (zz_ws hZ (by decide +kernel))) gt_2 (zz_U hZ) (zz_N hZ) hS (hl.1.trans hml.symm) dX4_requireNotNegative_4 dX4_requireNotNegative_7 dX4_requireNotNegative_8 dX4_requireNotNegative_10 dX4_requireNotNegative_13 (fun x hx => (hxt x hx).elim) (Nat.le_of_ble_eq_true rfl) (Nat.le_of_ble_eq_true rfl) (Nat.le_of_ble_eq_true rfl) (Nat.le_of_ble_eq_true rfl) hlocks (fun t ha hsz hk => ⟨(), (by unfold fX4_requireNotNegative; rw [if_neg c_1]), rfl, hsz, fun q h1 _ => hk q h1⟩) hS.2.2 (Nat.le_of_ble_eq_true rfl) (Nat.le_of_ble_eq_true rfl))
set_option maxHeartbeats 4000000 in
set_option maxRecDepth 100000 in
theorem kX4_requireState (l : Launch) (hl9 : l.stackTraces = false) (dC : Nat → ClassId) (dI : Nat → Nat → Nat) (H0 : Heap) (x0 : Int32) : vy_Met l yX4_requireState wsX4_requireState ({ frames := 6, cells := 1, slots := 6, locals := 82 }) (va_Pc [.int x0] (fun U => U.heap = H0 ∧ zz (fun q => H0.size ≤ q) U U.heap)) (va_Qv (fun _ : Unit => fX4_requireState x0 = 0) (fun _ t => t.heap = H0) (fun q => H0.size ≤ q)) (vx_X (fun _ : Unit => fX4_requireState x0 = 3) (fun E _ _ => E = "java/lang/IllegalStateException") (fun q => H0.size ≤ q)) 0 0 1 6 (fun q => H0.size ≤ q) := by
  refine vy_ofW (cc := cX4_requireState) (maxL := 1) (ret := none) (by decide) rfl ?_
  intro p e s m args below meth c s₁ B hml hxt hv
  obtain ⟨rfl, hH, hZ⟩ := hv
  have hx := B.exec
  have hb := B.bytes
  have hr := B.returns
  have hts := atoms_spec (ws := wsX4_requireState) B.pre
  have hown : s.vm.findClass RX4 = some m.cls := findClass_of_methodNamed B.named
  have hlocks := B.notSynchronized
  subst hH
  have hA : ∀ q : Nat, s.heap.size ≤ q → (fun q => s.heap.size ≤ q) q := fun q h => h
  have hS : va_S (fun q => s.heap.size ≤ q) s.heap s.heap [] := va_S.rf
  have hl := lv_entry ([.int x0]) (n := 1) (Nat.le_of_ble_eq_true rfl)
  rw [lg_entry_eq]
  generalize (lg_sl ([.int x0]) ++ List.replicate (1 - (lg_sl ([.int x0])).length) Slot.unset).toArray = ls at hl ⊢
  have hl : lv_has ls 1 [(0, .int x0)] := hl
  refine lv_iload_n hx hb dX4_requireState_0 rfl (lv_at hl 0 rfl) ?_
  refine lv_if_ne (tgt := 14) hx hb dX4_requireState_1 (by decide) (fun c_1 => ?_) (fun c_1 => ?_)
  · skip
    have t_2 : x0.toInt ≠ 0 := i_ne c_1 rfl (by decide)
    exact vy_ret (W.vret hx hb hr (fun t ht hW => ⟨⟨(), rfl, (by unfold fX4_requireState; rw [if_neg c_1]), ht⟩, hS.F ht⟩) hS.2.2 dX4_requireState_14)
  · skip
    have t_3 : x0.toInt = 0 := i_eq c_1 rfl (by decide)
    obtain ⟨sa_4, hsa_4⟩ := zz_st hZ (own := RX4) (k := 250) (tx := "not as it is now") (by decide +kernel)
    exact vy_thr (vx_throwS (own := RX4) (cls := "java/lang/IllegalStateException") (names := ["java/lang/RuntimeException", "java/lang/Exception"]) hx hb hl9 hown (by decide +kernel) (by decide +kernel) (hts _ (List.mem_cons_of_mem _ wd_5)) (hts _ (List.mem_cons_of_mem _ wd_6)) hsa_4 (vx_hat (L := vx_atS RX4 150 "java/lang/IllegalStateException" ["java/lang/RuntimeException", "java/lang/Exception"]) (B := [.castable "java/lang/IllegalStateException" "java/lang/IllegalStateException", .declares ⟨"java/lang/RuntimeException", "<init>", "(Ljava/lang/String;)V"⟩, .declares ⟨"java/lang/Exception", "<init>", "(Ljava/lang/String;)V"⟩, .declares ⟨"java/lang/Throwable", "<init>", "(Ljava/lang/String;)V"⟩]) (fun w hw => hts w (List.mem_cons_of_mem _ (at_3 w hw))) bt_3 (zz_ws hZ (by decide +kernel))) gt_3 (zz_U hZ) (zz_N hZ) hS (hl.1.trans hml.symm) dX4_requireState_4 dX4_requireState_7 dX4_requireState_8 dX4_requireState_10 dX4_requireState_13 (fun x hx => (hxt x hx).elim) (Nat.le_of_ble_eq_true rfl) (Nat.le_of_ble_eq_true rfl) (Nat.le_of_ble_eq_true rfl) (Nat.le_of_ble_eq_true rfl) hlocks (fun t ha hsz hk => ⟨(), (by unfold fX4_requireState; rw [if_pos c_1]), rfl, hsz, fun q h1 _ => hk q h1⟩) hS.2.2 (Nat.le_of_ble_eq_true rfl) (Nat.le_of_ble_eq_true rfl))
set_option maxHeartbeats 4000000 in
set_option maxRecDepth 100000 in
theorem kX4_requireRoom (l : Launch) (hl9 : l.stackTraces = false) (dC : Nat → ClassId) (dI : Nat → Nat → Nat) (H0 : Heap) (x0 : Int32) : vy_Met l yX4_requireRoom wsX4_requireRoom ({ frames := 6, cells := 1, slots := 6, locals := 82 }) (va_Pc [.int x0] (fun U => U.heap = H0 ∧ zz (fun q => H0.size ≤ q) U U.heap)) (va_Qv (fun _ : Unit => fX4_requireRoom x0 = 0) (fun _ t => t.heap = H0) (fun q => H0.size ≤ q)) (vx_X (fun _ : Unit => fX4_requireRoom x0 = 4) (fun E _ _ => E = "java/lang/UnsupportedOperationException") (fun q => H0.size ≤ q)) 0 0 1 6 (fun q => H0.size ≤ q) := by
  refine vy_ofW (cc := cX4_requireRoom) (maxL := 1) (ret := none) (by decide) rfl ?_
  intro p e s m args below meth c s₁ B hml hxt hv
  obtain ⟨rfl, hH, hZ⟩ := hv
  have hx := B.exec
  have hb := B.bytes
  have hr := B.returns
  have hts := atoms_spec (ws := wsX4_requireRoom) B.pre
  have hown : s.vm.findClass RX4 = some m.cls := findClass_of_methodNamed B.named
  have hlocks := B.notSynchronized
  subst hH
  have hA : ∀ q : Nat, s.heap.size ≤ q → (fun q => s.heap.size ≤ q) q := fun q h => h
  have hS : va_S (fun q => s.heap.size ≤ q) s.heap s.heap [] := va_S.rf
  have hl := lv_entry ([.int x0]) (n := 1) (Nat.le_of_ble_eq_true rfl)
  rw [lg_entry_eq]
  generalize (lg_sl ([.int x0]) ++ List.replicate (1 - (lg_sl ([.int x0])).length) Slot.unset).toArray = ls at hl ⊢
  have hl : lv_has ls 1 [(0, .int x0)] := hl
  refine lv_iload_n hx hb dX4_requireRoom_0 rfl (lv_at hl 0 rfl) ?_
  refine lv_if_ne (tgt := 14) hx hb dX4_requireRoom_1 (by decide) (fun c_1 => ?_) (fun c_1 => ?_)
  · skip
    have t_2 : x0.toInt ≠ 0 := i_ne c_1 rfl (by decide)
    exact vy_ret (W.vret hx hb hr (fun t ht hW => ⟨⟨(), rfl, (by unfold fX4_requireRoom; rw [if_neg c_1]), ht⟩, hS.F ht⟩) hS.2.2 dX4_requireRoom_14)
  · skip
    have t_3 : x0.toInt = 0 := i_eq c_1 rfl (by decide)
    obtain ⟨sa_4, hsa_4⟩ := zz_st hZ (own := RX4) (k := 254) (tx := "no room") (by decide +kernel)
    exact vy_thr (vx_throwS (own := RX4) (cls := "java/lang/UnsupportedOperationException") (names := ["java/lang/RuntimeException", "java/lang/Exception"]) hx hb hl9 hown (by decide +kernel) (by decide +kernel) (hts _ (List.mem_cons_of_mem _ wd_7)) (hts _ (List.mem_cons_of_mem _ wd_8)) hsa_4 (vx_hat (L := vx_atS RX4 256 "java/lang/UnsupportedOperationException" ["java/lang/RuntimeException", "java/lang/Exception"]) (B := [.castable "java/lang/UnsupportedOperationException" "java/lang/UnsupportedOperationException", .declares ⟨"java/lang/RuntimeException", "<init>", "(Ljava/lang/String;)V"⟩, .declares ⟨"java/lang/Exception", "<init>", "(Ljava/lang/String;)V"⟩, .declares ⟨"java/lang/Throwable", "<init>", "(Ljava/lang/String;)V"⟩]) (fun w hw => hts w (List.mem_cons_of_mem _ (at_4 w hw))) bt_4 (zz_ws hZ (by decide +kernel))) gt_4 (zz_U hZ) (zz_N hZ) hS (hl.1.trans hml.symm) dX4_requireRoom_4 dX4_requireRoom_7 dX4_requireRoom_8 dX4_requireRoom_10 dX4_requireRoom_13 (fun x hx => (hxt x hx).elim) (Nat.le_of_ble_eq_true rfl) (Nat.le_of_ble_eq_true rfl) (Nat.le_of_ble_eq_true rfl) (Nat.le_of_ble_eq_true rfl) hlocks (fun t ha hsz hk => ⟨(), (by unfold fX4_requireRoom; rw [if_pos c_1]), rfl, hsz, fun q h1 _ => hk q h1⟩) hS.2.2 (Nat.le_of_ble_eq_true rfl) (Nat.le_of_ble_eq_true rfl))
set_option maxHeartbeats 4000000 in
set_option maxRecDepth 100000 in
theorem kX4_requireLot (l : Launch) (hl9 : l.stackTraces = false) (dC : Nat → ClassId) (dI : Nat → Nat → Nat) (g : cG) (h : Nat → Nat) (u : cS) (H0 : Heap) (x1 : Int32) : vy_Met l yX4_requireLot wsX4_requireLot ({ frames := 6, cells := 1, slots := 6, locals := 82 }) (va_Pc [.ref (h 0), .int x1] (fun U => U.heap = H0 ∧ va_P (dC, dI) vwCl (cw g h u) U.heap ∧ va_K (dC, dI) vwCl (cTys g) U ∧ zz (fun q => H0.size ≤ q) U U.heap)) (va_Qv (fun _ : Unit => fX4_requireLot u x1 = 0) (fun _ t => t.heap = H0) (fun q => H0.size ≤ q)) (vx_X (fun _ : Unit => fX4_requireLot u x1 = 1) (fun E _ _ => E = "java/util/NoSuchElementException") (fun q => H0.size ≤ q)) 0 0 1 6 (fun q => H0.size ≤ q) := by
  refine vy_ofW (cc := cX4_requireLot) (maxL := 2) (ret := none) (by decide) rfl ?_
  intro p e s m args below meth c s₁ B hml hxt hv
  obtain ⟨rfl, hH, hP, hK, hZ⟩ := hv
  have hx := B.exec
  have hb := B.bytes
  have hr := B.returns
  have hts := atoms_spec (ws := wsX4_requireLot) B.pre
  have hown : s.vm.findClass RX4 = some m.cls := findClass_of_methodNamed B.named
  have hlocks := B.notSynchronized
  subst hH
  have hA : ∀ q : Nat, s.heap.size ≤ q → (fun q => s.heap.size ≤ q) q := fun q h => h
  have hS : va_S (fun q => s.heap.size ≤ q) s.heap s.heap [] := va_S.rf
  have hl := lv_entry ([.ref (h 0), .int x1]) (n := 2) (Nat.le_of_ble_eq_true rfl)
  rw [lg_entry_eq]
  generalize (lg_sl ([.ref (h 0), .int x1]) ++ List.replicate (2 - (lg_sl ([.ref (h 0), .int x1])).length) Slot.unset).toArray = ls at hl ⊢
  have hl : lv_has ls 2 [(0, .ref (h 0)), (1, .int x1)] := hl
  refine lv_iload_n hx hb dX4_requireLot_0 rfl (lv_at hl 1 rfl) ?_
  refine lv_iconst (v := 1) hx hb dX4_requireLot_1 (by decide) ?_
  refine lv_icmp_lt (tgt := 16) hx hb dX4_requireLot_2 (by decide) (fun c_1 => ?_) (fun c_1 => ?_)
  · skip
    have t_2 : x1.toInt < 1 := i_lt c_1 rfl (by decide)
    obtain ⟨sa_3, hsa_3⟩ := zz_st hZ (own := RX4) (k := 242) (tx := "no such lot") (by decide +kernel)
    exact vy_thr (nx_throwS hx hb hl9 hown (hts _ (List.mem_cons_of_mem _ wd_9)) (hts _ (List.mem_cons_of_mem _ wd_10)) hsa_3 (vx_hat (L := nx_at) (B := [.castable "java/util/NoSuchElementException" "java/util/NoSuchElementException", .declares ⟨"java/lang/RuntimeException", "<init>", "(Ljava/lang/String;)V"⟩, .declares ⟨"java/lang/Exception", "<init>", "(Ljava/lang/String;)V"⟩, .declares ⟨"java/lang/Throwable", "<init>", "(Ljava/lang/String;)V"⟩]) (fun w hw => hts w (List.mem_cons_of_mem _ (at_1 w hw))) bt_1 (zz_ws hZ (by decide +kernel))) gt_1 (zz_U hZ) (zz_N hZ) hS (hl.1.trans hml.symm) dX4_requireLot_16 dX4_requireLot_19 dX4_requireLot_20 dX4_requireLot_22 dX4_requireLot_25 (fun x hx => (hxt x hx).elim) (Nat.le_of_ble_eq_true rfl) (Nat.le_of_ble_eq_true rfl) (Nat.le_of_ble_eq_true rfl) (Nat.le_of_ble_eq_true rfl) hlocks (fun t ha hsz hk => ⟨(), (by unfold fX4_requireLot; rw [if_pos c_1]), rfl, hsz, fun q h1 _ => hk q h1⟩) hS.2.2 (Nat.le_of_ble_eq_true rfl) (Nat.le_of_ble_eq_true rfl))
  · skip
    have t_4 : 1 ≤ x1.toInt := i_nlt c_1 rfl (by decide)
    refine lv_iload_n hx hb dX4_requireLot_5 rfl (lv_at hl 1 rfl) ?_
    refine lv_aload_n hx hb dX4_requireLot_6 rfl (lv_at hl 0 rfl) ?_
    refine va_get (D := (dC, dI)) (C := RX4) (T := TX4) (N := 9) (v := .ref (h 1)) hx hb hts (fi_X4 _) hown hK hP 0 (cw_at0 _ _ _) rfl 0 (by decide) (hts _ (List.mem_cons_of_mem _ wd_11)) (fun _ h9 => h9) rfl dX4_requireLot_7 ?_
    refine va_get (D := (dC, dI)) (C := RX1) (T := TX1) (N := 9) (v := .int (k_lmade u)) hx hb hts (fi_X1 _) hown hK hP 1 (cw_at1 _ _ _) rfl 8 (by decide) (hts _ (List.mem_cons_of_mem _ wd_12)) (fun _ h9 => h9) rfl dX4_requireLot_10 ?_
    refine lv_icmp_le (tgt := 26) hx hb dX4_requireLot_13 (by decide) (fun c_5 => ?_) (fun c_5 => ?_)
    · skip
      have t_6 : x1.toInt ≤ (k_lmade u).toInt := i_le c_5 rfl rfl
      exact vy_ret (W.vret hx hb hr (fun t ht hW => ⟨⟨(), rfl, (by unfold fX4_requireLot; rw [if_neg c_1, if_pos c_5]), ht⟩, hS.F ht⟩) hS.2.2 dX4_requireLot_26)
    · skip
      have t_7 : (k_lmade u).toInt < x1.toInt := i_nle c_5 rfl rfl
      obtain ⟨sa_8, hsa_8⟩ := zz_st hZ (own := RX4) (k := 242) (tx := "no such lot") (by decide +kernel)
      exact vy_thr (nx_throwS hx hb hl9 hown (hts _ (List.mem_cons_of_mem _ wd_9)) (hts _ (List.mem_cons_of_mem _ wd_10)) hsa_8 (vx_hat (L := nx_at) (B := [.castable "java/util/NoSuchElementException" "java/util/NoSuchElementException", .declares ⟨"java/lang/RuntimeException", "<init>", "(Ljava/lang/String;)V"⟩, .declares ⟨"java/lang/Exception", "<init>", "(Ljava/lang/String;)V"⟩, .declares ⟨"java/lang/Throwable", "<init>", "(Ljava/lang/String;)V"⟩]) (fun w hw => hts w (List.mem_cons_of_mem _ (at_1 w hw))) bt_1 (zz_ws hZ (by decide +kernel))) gt_1 (zz_U hZ) (zz_N hZ) hS (hl.1.trans hml.symm) dX4_requireLot_16 dX4_requireLot_19 dX4_requireLot_20 dX4_requireLot_22 dX4_requireLot_25 (fun x hx => (hxt x hx).elim) (Nat.le_of_ble_eq_true rfl) (Nat.le_of_ble_eq_true rfl) (Nat.le_of_ble_eq_true rfl) (Nat.le_of_ble_eq_true rfl) hlocks (fun t ha hsz hk => ⟨(), (by unfold fX4_requireLot; rw [if_neg c_1, if_neg c_5]), rfl, hsz, fun q h1 _ => hk q h1⟩) hS.2.2 (Nat.le_of_ble_eq_true rfl) (Nat.le_of_ble_eq_true rfl))
set_option maxHeartbeats 4000000 in
set_option maxRecDepth 100000 in
theorem kX4_requireUnit (l : Launch) (hl9 : l.stackTraces = false) (dC : Nat → ClassId) (dI : Nat → Nat → Nat) (g : cG) (h : Nat → Nat) (u : cS) (H0 : Heap) (x1 : Int32) : vy_Met l yX4_requireUnit wsX4_requireUnit ({ frames := 6, cells := 1, slots := 6, locals := 82 }) (va_Pc [.ref (h 0), .int x1] (fun U => U.heap = H0 ∧ va_P (dC, dI) vwCl (cw g h u) U.heap ∧ va_K (dC, dI) vwCl (cTys g) U ∧ zz (fun q => H0.size ≤ q) U U.heap)) (va_Qv (fun _ : Unit => fX4_requireUnit u x1 = 0) (fun _ t => t.heap = H0) (fun q => H0.size ≤ q)) (vx_X (fun _ : Unit => fX4_requireUnit u x1 = 1) (fun E _ _ => E = "java/util/NoSuchElementException") (fun q => H0.size ≤ q)) 0 0 1 6 (fun q => H0.size ≤ q) := by
  refine vy_ofW (cc := cX4_requireUnit) (maxL := 2) (ret := none) (by decide) rfl ?_
  intro p e s m args below meth c s₁ B hml hxt hv
  obtain ⟨rfl, hH, hP, hK, hZ⟩ := hv
  have hx := B.exec
  have hb := B.bytes
  have hr := B.returns
  have hts := atoms_spec (ws := wsX4_requireUnit) B.pre
  have hown : s.vm.findClass RX4 = some m.cls := findClass_of_methodNamed B.named
  have hlocks := B.notSynchronized
  subst hH
  have hA : ∀ q : Nat, s.heap.size ≤ q → (fun q => s.heap.size ≤ q) q := fun q h => h
  have hS : va_S (fun q => s.heap.size ≤ q) s.heap s.heap [] := va_S.rf
  have hl := lv_entry ([.ref (h 0), .int x1]) (n := 2) (Nat.le_of_ble_eq_true rfl)
  rw [lg_entry_eq]
  generalize (lg_sl ([.ref (h 0), .int x1]) ++ List.replicate (2 - (lg_sl ([.ref (h 0), .int x1])).length) Slot.unset).toArray = ls at hl ⊢
  have hl : lv_has ls 2 [(0, .ref (h 0)), (1, .int x1)] := hl
  refine lv_iload_n hx hb dX4_requireUnit_0 rfl (lv_at hl 1 rfl) ?_
  refine lv_iconst (v := 1) hx hb dX4_requireUnit_1 (by decide) ?_
  refine lv_icmp_lt (tgt := 16) hx hb dX4_requireUnit_2 (by decide) (fun c_1 => ?_) (fun c_1 => ?_)
  · skip
    have t_2 : x1.toInt < 1 := i_lt c_1 rfl (by decide)
    obtain ⟨sa_3, hsa_3⟩ := zz_st hZ (own := RX4) (k := 244) (tx := "no such unit") (by decide +kernel)
    exact vy_thr (nx_throwS hx hb hl9 hown (hts _ (List.mem_cons_of_mem _ wd_9)) (hts _ (List.mem_cons_of_mem _ wd_10)) hsa_3 (vx_hat (L := nx_at) (B := [.castable "java/util/NoSuchElementException" "java/util/NoSuchElementException", .declares ⟨"java/lang/RuntimeException", "<init>", "(Ljava/lang/String;)V"⟩, .declares ⟨"java/lang/Exception", "<init>", "(Ljava/lang/String;)V"⟩, .declares ⟨"java/lang/Throwable", "<init>", "(Ljava/lang/String;)V"⟩]) (fun w hw => hts w (List.mem_cons_of_mem _ (at_1 w hw))) bt_1 (zz_ws hZ (by decide +kernel))) gt_1 (zz_U hZ) (zz_N hZ) hS (hl.1.trans hml.symm) dX4_requireUnit_16 dX4_requireUnit_19 dX4_requireUnit_20 dX4_requireUnit_22 dX4_requireUnit_25 (fun x hx => (hxt x hx).elim) (Nat.le_of_ble_eq_true rfl) (Nat.le_of_ble_eq_true rfl) (Nat.le_of_ble_eq_true rfl) (Nat.le_of_ble_eq_true rfl) hlocks (fun t ha hsz hk => ⟨(), (by unfold fX4_requireUnit; rw [if_pos c_1]), rfl, hsz, fun q h1 _ => hk q h1⟩) hS.2.2 (Nat.le_of_ble_eq_true rfl) (Nat.le_of_ble_eq_true rfl))
  · skip
    have t_4 : 1 ≤ x1.toInt := i_nlt c_1 rfl (by decide)
    refine lv_iload_n hx hb dX4_requireUnit_5 rfl (lv_at hl 1 rfl) ?_
    refine lv_aload_n hx hb dX4_requireUnit_6 rfl (lv_at hl 0 rfl) ?_
    refine va_get (D := (dC, dI)) (C := RX4) (T := TX4) (N := 9) (v := .ref (h 2)) hx hb hts (fi_X4 _) hown hK hP 0 (cw_at0 _ _ _) rfl 1 (by decide) (hts _ (List.mem_cons_of_mem _ wd_13)) (fun _ h9 => h9) rfl dX4_requireUnit_7 ?_
    refine va_get (D := (dC, dI)) (C := RX3) (T := TX3) (N := 7) (v := .int (k_umade u)) hx hb hts (fi_X3 _) hown hK hP 2 (cw_at2 _ _ _) rfl 5 (by decide) (hts _ (List.mem_cons_of_mem _ wd_14)) (fun _ h9 => h9) rfl dX4_requireUnit_10 ?_
    refine lv_icmp_le (tgt := 26) hx hb dX4_requireUnit_13 (by decide) (fun c_5 => ?_) (fun c_5 => ?_)
    · skip
      have t_6 : x1.toInt ≤ (k_umade u).toInt := i_le c_5 rfl rfl
      exact vy_ret (W.vret hx hb hr (fun t ht hW => ⟨⟨(), rfl, (by unfold fX4_requireUnit; rw [if_neg c_1, if_pos c_5]), ht⟩, hS.F ht⟩) hS.2.2 dX4_requireUnit_26)
    · skip
      have t_7 : (k_umade u).toInt < x1.toInt := i_nle c_5 rfl rfl
      obtain ⟨sa_8, hsa_8⟩ := zz_st hZ (own := RX4) (k := 244) (tx := "no such unit") (by decide +kernel)
      exact vy_thr (nx_throwS hx hb hl9 hown (hts _ (List.mem_cons_of_mem _ wd_9)) (hts _ (List.mem_cons_of_mem _ wd_10)) hsa_8 (vx_hat (L := nx_at) (B := [.castable "java/util/NoSuchElementException" "java/util/NoSuchElementException", .declares ⟨"java/lang/RuntimeException", "<init>", "(Ljava/lang/String;)V"⟩, .declares ⟨"java/lang/Exception", "<init>", "(Ljava/lang/String;)V"⟩, .declares ⟨"java/lang/Throwable", "<init>", "(Ljava/lang/String;)V"⟩]) (fun w hw => hts w (List.mem_cons_of_mem _ (at_1 w hw))) bt_1 (zz_ws hZ (by decide +kernel))) gt_1 (zz_U hZ) (zz_N hZ) hS (hl.1.trans hml.symm) dX4_requireUnit_16 dX4_requireUnit_19 dX4_requireUnit_20 dX4_requireUnit_22 dX4_requireUnit_25 (fun x hx => (hxt x hx).elim) (Nat.le_of_ble_eq_true rfl) (Nat.le_of_ble_eq_true rfl) (Nat.le_of_ble_eq_true rfl) (Nat.le_of_ble_eq_true rfl) hlocks (fun t ha hsz hk => ⟨(), (by unfold fX4_requireUnit; rw [if_neg c_1, if_neg c_5]), rfl, hsz, fun q h1 _ => hk q h1⟩) hS.2.2 (Nat.le_of_ble_eq_true rfl) (Nat.le_of_ble_eq_true rfl))