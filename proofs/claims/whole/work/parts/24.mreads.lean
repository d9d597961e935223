set_option maxHeartbeats 4000000 in
set_option maxRecDepth 100000 in
theorem kX5_thrown (l : Launch) (dC : Nat → ClassId) (dI : Nat → Nat → Nat) (g : cG) (h : Nat → Nat) (u : mS) : Met l yX5_thrown wsX5_thrown ({ frames := 0, cells := 0, slots := 0, locals := 0 }) (va_Pc [.ref (h 0)] (fun U => va_P (dC, dI) vwCl (mw g h u) U.heap ∧ va_K (dC, dI) vwCl (cTys g) U)) (vp_Si (fun r => r = fX5_thrown u)) 0 0 (fun _ => False) := by
  refine Met.ofW (cc := cX5_thrown) (maxL := 1) (ret := (some .int)) (by decide) rfl ?_
  intro p e s m args below meth c s₁ B hml hv
  obtain ⟨rfl, hP, hK⟩ := hv
  have hx := B.exec
  have hb := B.bytes
  have hr := B.returns
  have hts := atoms_spec (ws := wsX5_thrown) B.pre
  have hown : s.vm.findClass RX5 = some m.cls := findClass_of_methodNamed B.named
  have hlocks := B.notSynchronized
  have hS : va_S (fun _ => False) s.heap s.heap [] := va_S.rf
  have hl := lv_entry ([.ref (h 0)]) (n := 1) (Nat.le_of_ble_eq_true rfl)
  rw [lg_entry_eq]
  generalize (lg_sl ([.ref (h 0)]) ++ List.replicate (1 - (lg_sl ([.ref (h 0)])).length) Slot.unset).toArray = ls at hl ⊢
  have hl : lv_has ls 1 [(0, .ref (h 0))] := hl
  refine lv_aload_n hx hb dX5_thrown_0 rfl (lv_at hl 0 rfl) ?_
  refine va_get (D := (dC, dI)) (C := RX5) (T := TX5) (N := 26) (v := .int (k_mcode u)) hx hb hts (fi_X5 _) hown hK hP 0 (mw_at0 _ _ _) rfl 0 (by decide) (hts _ (List.mem_cons_of_mem _ wd_237)) (fun _ h9 => h9) rfl dX5_thrown_1 ?_
  exact W.iret (v := k_mcode u) hx hb hr (fun t ht hW => ⟨(k_mcode u), rfl, rfl, ht⟩) (fun _ h => nomatch h) dX5_thrown_4
set_option maxHeartbeats 4000000 in
set_option maxRecDepth 100000 in
theorem kX5_in (l : Launch) (dC : Nat → ClassId) (dI : Nat → Nat → Nat) (x0 : Int32) (x1 : Int32) (x2 : Int32) : Met l yX5_in wsX5_in ({ frames := 0, cells := 0, slots := 0, locals := 0 }) (va_Pc [.int x0, .int x1, .int x2] (fun U => True)) (vp_Si (fun r => r = fX5_in x0 x1 x2)) 0 0 (fun _ => False) := by
  refine Met.ofW (cc := cX5_in) (maxL := 3) (ret := (some .boolean)) (by decide) rfl ?_
  intro p e s m args below meth c s₁ B hml hv
  obtain ⟨rfl, -⟩ := hv
  have hx := B.exec
  have hb := B.bytes
  have hr := B.returns
  have hts := atoms_spec (ws := wsX5_in) B.pre
  have hown : s.vm.findClass RX5 = some m.cls := findClass_of_methodNamed B.named
  have hlocks := B.notSynchronized
  have hS : va_S (fun _ => False) s.heap s.heap [] := va_S.rf
  have hl := lv_entry ([.int x0, .int x1, .int x2]) (n := 3) (Nat.le_of_ble_eq_true rfl)
  rw [lg_entry_eq]
  generalize (lg_sl ([.int x0, .int x1, .int x2]) ++ List.replicate (3 - (lg_sl ([.int x0, .int x1, .int x2])).length) Slot.unset).toArray = ls at hl ⊢
  have hl : lv_has ls 3 [(0, .int x0), (1, .int x1), (2, .int x2)] := hl
  refine lv_iload_n hx hb dX5_in_0 rfl (lv_at hl 0 rfl) ?_
  refine lv_iload_n hx hb dX5_in_1 rfl (lv_at hl 1 rfl) ?_
  refine lv_icmp_lt (tgt := 14) hx hb dX5_in_2 (by decide) (fun c_1 => ?_) (fun c_1 => ?_)
  · skip
    have t_2 : x0.toInt < x1.toInt := i_lt c_1 rfl rfl
    refine lv_iconst (v := 0) hx hb dX5_in_14 (by decide) ?_
    exact W.zret (v := 0) hx hb hr rfl (fun t ht hW => ⟨0, rfl, (by unfold fX5_in; rw [if_pos c_1]), ht⟩) (fun _ h => nomatch h) dX5_in_15
  · skip
    have t_3 : x1.toInt ≤ x0.toInt := i_nlt c_1 rfl rfl
    refine lv_iload_n hx hb dX5_in_5 rfl (lv_at hl 0 rfl) ?_
    refine lv_iload_n hx hb dX5_in_6 rfl (lv_at hl 2 rfl) ?_
    refine lv_icmp_gt (tgt := 14) hx hb dX5_in_7 (by decide) (fun c_4 => ?_) (fun c_4 => ?_)
    · skip
      have t_5 : x2.toInt < x0.toInt := i_lt c_4 rfl rfl
      refine lv_iconst (v := 0) hx hb dX5_in_14 (by decide) ?_
      exact W.zret (v := 0) hx hb hr rfl (fun t ht hW => ⟨0, rfl, (by unfold fX5_in; rw [if_neg c_1, if_pos c_4]), ht⟩) (fun _ h => nomatch h) dX5_in_15
    · skip
      have t_6 : x0.toInt ≤ x2.toInt := i_nlt c_4 rfl rfl
      refine lv_iconst (v := 1) hx hb dX5_in_10 (by decide) ?_
      refine lv_goto (tgt := 15) hx hb dX5_in_11 (by decide) ?_
      exact W.zret (v := 1) hx hb hr rfl (fun t ht hW => ⟨1, rfl, (by unfold fX5_in; rw [if_neg c_1, if_neg c_4]), ht⟩) (fun _ h => nomatch h) dX5_in_15
set_option maxHeartbeats 4000000 in
set_option maxRecDepth 100000 in
theorem kX5_isLot (l : Launch) (dC : Nat → ClassId) (dI : Nat → Nat → Nat) (g : cG) (h : Nat → Nat) (u : mS) (x1 : Int32) : Met l yX5_isLot wsX5_isLot ({ frames := 1, cells := 0, slots := 0, locals := 22 }) (va_Pc [.ref (h 0), .int x1] (fun U => va_P (dC, dI) vwCl (mw g h u) U.heap ∧ va_K (dC, dI) vwCl (cTys g) U)) (vp_Si (fun r => r = fX5_isLot u x1)) 0 0 (fun _ => False) := by
  refine Met.ofW (cc := cX5_isLot) (maxL := 2) (ret := (some .boolean)) (by decide) rfl ?_
  intro p e s m args below meth c s₁ B hml hv
  obtain ⟨rfl, hP, hK⟩ := hv
  have hx := B.exec
  have hb := B.bytes
  have hr := B.returns
  have hts := atoms_spec (ws := wsX5_isLot) B.pre
  have hown : s.vm.findClass RX5 = some m.cls := findClass_of_methodNamed B.named
  have hlocks := B.notSynchronized
  have hS : va_S (fun _ => False) s.heap s.heap [] := va_S.rf
  have hl := lv_entry ([.ref (h 0), .int x1]) (n := 2) (Nat.le_of_ble_eq_true rfl)
  rw [lg_entry_eq]
  generalize (lg_sl ([.ref (h 0), .int x1]) ++ List.replicate (2 - (lg_sl ([.ref (h 0), .int x1])).length) Slot.unset).toArray = ls at hl ⊢
  have hl : lv_has ls 2 [(0, .ref (h 0)), (1, .int x1)] := hl
  refine lv_iload_n hx hb dX5_isLot_0 rfl (lv_at hl 1 rfl) ?_
  refine lv_iconst (v := 1) hx hb dX5_isLot_1 (by decide) ?_
  refine lv_aload_n hx hb dX5_isLot_2 rfl (lv_at hl 0 rfl) ?_
  refine va_get (D := (dC, dI)) (C := RX5) (T := TX5) (N := 26) (v := .int (k_mlots u)) hx hb hts (fi_X5 _) hown hK hP 0 (mw_at0 _ _ _) rfl 1 (by decide) (hts _ (List.mem_cons_of_mem _ wd_238)) (fun _ h9 => h9) rfl dX5_isLot_3 ?_
  refine vp_callSi (W.runS (As := [.int x1, .int 1, .int (k_mlots u)]) (rest := []) ⟨hx, hb, hml, hown, hts⟩ (kX5_in l dC dI x1 1 (k_mlots u)) (cwS 3 hts (gS wd_239 wd_240 wd_241 wcX5_in) rfl rfl rfl (by decide +kernel) ⟨(Nat.le_of_ble_eq_true rfl), (Nat.le_of_ble_eq_true rfl)⟩) ⟨fun a U g mk q => by obtain ⟨q0, qT⟩ := q; exact ⟨q0, qT⟩, fun U hU hW => ⟨rfl, trivial⟩⟩ rfl rfl hl.1 rfl (lv_room (Nat.le_of_ble_eq_true rfl)) dX5_isLot_6 ⟨(Nat.le_of_ble_eq_true rfl), (Nat.le_of_ble_eq_true rfl)⟩) (fun r_1 hw => ?_)
  subst hw
  exact W.zret (v := fX5_in x1 1 (k_mlots u)) hx hb hr (i_nar (fX5_in_01 _ _ _)) (fun t ht hW => ⟨(fX5_in x1 1 (k_mlots u)), rfl, rfl, ht⟩) (fun _ h => nomatch h) dX5_isLot_9
set_option maxHeartbeats 4000000 in
set_option maxRecDepth 100000 in
theorem kX5_isUnit (l : Launch) (dC : Nat → ClassId) (dI : Nat → Nat → Nat) (g : cG) (h : Nat → Nat) (u : mS) (x1 : Int32) : Met l yX5_isUnit wsX5_isUnit ({ frames := 1, cells := 0, slots := 0, locals := 22 }) (va_Pc [.ref (h 0), .int x1] (fun U => va_P (dC, dI) vwCl (mw g h u) U.heap ∧ va_K (dC, dI) vwCl (cTys g) U)) (vp_Si (fun r => r = fX5_isUnit u x1)) 0 0 (fun _ => False) := by
  refine Met.ofW (cc := cX5_isUnit) (maxL := 2) (ret := (some .boolean)) (by decide) rfl ?_
  intro p e s m args below meth c s₁ B hml hv
  obtain ⟨rfl, hP, hK⟩ := hv
  have hx := B.exec
  have hb := B.bytes
  have hr := B.returns
  have hts := atoms_spec (ws := wsX5_isUnit) B.pre
  have hown : s.vm.findClass RX5 = some m.cls := findClass_of_methodNamed B.named
  have hlocks := B.notSynchronized
  have hS : va_S (fun _ => False) s.heap s.heap [] := va_S.rf
  have hl := lv_entry ([.ref (h 0), .int x1]) (n := 2) (Nat.le_of_ble_eq_true rfl)
  rw [lg_entry_eq]
  generalize (lg_sl ([.ref (h 0), .int x1]) ++ List.replicate (2 - (lg_sl ([.ref (h 0), .int x1])).length) Slot.unset).toArray = ls at hl ⊢
  have hl : lv_has ls 2 [(0, .ref (h 0)), (1, .int x1)] := hl
  refine lv_iload_n hx hb dX5_isUnit_0 rfl (lv_at hl 1 rfl) ?_
  refine lv_iconst (v := 1) hx hb dX5_isUnit_1 (by decide) ?_
  refine lv_aload_n hx hb dX5_isUnit_2 rfl (lv_at hl 0 rfl) ?_
  refine va_get (D := (dC, dI)) (C := RX5) (T := TX5) (N := 26) (v := .int (k_munits u)) hx hb hts (fi_X5 _) hown hK hP 0 (mw_at0 _ _ _) rfl 14 (by decide) (hts _ (List.mem_cons_of_mem _ wd_243)) (fun _ h9 => h9) rfl dX5_isUnit_3 ?_
  refine vp_callSi (W.runS (As := [.int x1, .int 1, .int (k_munits u)]) (rest := []) ⟨hx, hb, hml, hown, hts⟩ (kX5_in l dC dI x1 1 (k_munits u)) (cwS 3 hts (gS wd_239 wd_240 wd_241 wcX5_in) rfl rfl rfl (by decide +kernel) ⟨(Nat.le_of_ble_eq_true rfl), (Nat.le_of_ble_eq_true rfl)⟩) ⟨fun a U g mk q => by obtain ⟨q0, qT⟩ := q; exact ⟨q0, qT⟩, fun U hU hW => ⟨rfl, trivial⟩⟩ rfl rfl hl.1 rfl (lv_room (Nat.le_of_ble_eq_true rfl)) dX5_isUnit_6 ⟨(Nat.le_of_ble_eq_true rfl), (Nat.le_of_ble_eq_true rfl)⟩) (fun r_1 hw => ?_)
  subst hw
  exact W.zret (v := fX5_in x1 1 (k_munits u)) hx hb hr (i_nar (fX5_in_01 _ _ _)) (fun t ht hW => ⟨(fX5_in x1 1 (k_munits u)), rfl, rfl, ht⟩) (fun _ h => nomatch h) dX5_isUnit_9
set_option maxHeartbeats 4000000 in
set_option maxRecDepth 100000 in
theorem kX5_isOpen (l : Launch) (dC : Nat → ClassId) (dI : Nat → Nat → Nat) (g : cG) (h : Nat → Nat) (u : mS) (x1 : Int32) (h1 : 0 ≤ x1.toInt ∧ x1.toInt ≤ 40) : Met l yX5_isOpen wsX5_isOpen ({ frames := 0, cells := 0, slots := 0, locals := 0 }) (va_Pc [.ref (h 0), .int x1] (fun U => va_P (dC, dI) vwCl (mw g h u) U.heap ∧ va_K (dC, dI) vwCl (cTys g) U)) (vp_Si (fun r => r = fX5_isOpen u x1)) 0 0 (fun _ => False) := by
  refine Met.ofW (cc := cX5_isOpen) (maxL := 2) (ret := (some .boolean)) (by decide) rfl ?_
  intro p e s m args below meth c s₁ B hml hv
  obtain ⟨rfl, hP, hK⟩ := hv
  have hx := B.exec
  have hb := B.bytes
  have hr := B.returns
  have hts := atoms_spec (ws := wsX5_isOpen) B.pre
  have hown : s.vm.findClass RX5 = some m.cls := findClass_of_methodNamed B.named
  have hlocks := B.notSynchronized
  have hS : va_S (fun _ => False) s.heap s.heap [] := va_S.rf
  have hl := lv_entry ([.ref (h 0), .int x1]) (n := 2) (Nat.le_of_ble_eq_true rfl)
  rw [lg_entry_eq]
  generalize (lg_sl ([.ref (h 0), .int x1]) ++ List.replicate (2 - (lg_sl ([.ref (h 0), .int x1])).length) Slot.unset).toArray = ls at hl ⊢
  have hl : lv_has ls 2 [(0, .ref (h 0)), (1, .int x1)] := hl
  refine lv_aload_n hx hb dX5_isOpen_0 rfl (lv_at hl 0 rfl) ?_
  refine va_get (D := (dC, dI)) (C := RX5) (T := TX5) (N := 26) (v := .ref (h 6)) hx hb hts (fi_X5 _) hown hK hP 0 (mw_at0 _ _ _) rfl 7 (by decide) (hts _ (List.mem_cons_of_mem _ wd_244)) (fun _ h9 => h9) rfl dX5_isOpen_1 ?_
  refine lv_iload_n hx hb dX5_isOpen_4 rfl (lv_at hl 1 rfl) ?_
  refine va_iald (f := k_minto u) hx hb hK hP 6 0 (mw_at6 _ _ _) rfl (vp_in_iff.mpr (by omega)) dX5_isOpen_5 ?_
  refine lv_if_ne (tgt := 13) hx hb dX5_isOpen_6 (by decide) (fun c_1 => ?_) (fun c_1 => ?_)
  · skip
    have t_2 : (k_minto u x1.toNatClampNeg).toInt ≠ 0 := i_ne c_1 rfl (by decide)
    refine lv_iconst (v := 0) hx hb dX5_isOpen_13 (by decide) ?_
    exact W.zret (v := 0) hx hb hr rfl (fun t ht hW => ⟨0, rfl, (by unfold fX5_isOpen; rw [if_neg c_1]), ht⟩) (fun _ h => nomatch h) dX5_isOpen_14
  · skip
    have t_3 : (k_minto u x1.toNatClampNeg).toInt = 0 := i_eq c_1 rfl (by decide)
    refine lv_iconst (v := 1) hx hb dX5_isOpen_9 (by decide) ?_
    refine lv_goto (tgt := 14) hx hb dX5_isOpen_10 (by decide) ?_
    exact W.zret (v := 1) hx hb hr rfl (fun t ht hW => ⟨1, rfl, (by unfold fX5_isOpen; rw [if_pos c_1]), ht⟩) (fun _ h => nomatch h) dX5_isOpen_14
set_option maxHeartbeats 4000000 in
set_option maxRecDepth 100000 in
theorem kX5_isGone (l : Launch) (dC : Nat → ClassId) (dI : Nat → Nat → Nat) (g : cG) (h : Nat → Nat) (u : mS) (x1 : Int32) (h1 : 0 ≤ x1.toInt ∧ x1.toInt ≤ 120) : Met l yX5_isGone wsX5_isGone ({ frames := 0, cells := 0, slots := 0, locals := 0 }) (va_Pc [.ref (h 0), .int x1] (fun U => va_P (dC, dI) vwCl (mw g h u) U.heap ∧ va_K (dC, dI) vwCl (cTys g) U)) (vp_Si (fun r => r = fX5_isGone u x1)) 0 0 (fun _ => False) := by
  refine Met.ofW (cc := cX5_isGone) (maxL := 2) (ret := (some .boolean)) (by decide) rfl ?_
  intro p e s m args below meth c s₁ B hml hv
  obtain ⟨rfl, hP, hK⟩ := hv
  have hx := B.exec
  have hb := B.bytes
  have hr := B.returns
  have hts := atoms_spec (ws := wsX5_isGone) B.pre
  have hown : s.vm.findClass RX5 = some m.cls := findClass_of_methodNamed B.named
  have hlocks := B.notSynchronized
  have hS : va_S (fun _ => False) s.heap s.heap [] := va_S.rf
  have hl := lv_entry ([.ref (h 0), .int x1]) (n := 2) (Nat.le_of_ble_eq_true rfl)
  rw [lg_entry_eq]
  generalize (lg_sl ([.ref (h 0), .int x1]) ++ List.replicate (2 - (lg_sl ([.ref (h 0), .int x1])).length) Slot.unset).toArray = ls at hl ⊢
  have hl : lv_has ls 2 [(0, .ref (h 0)), (1, .int x1)] := hl
  refine lv_aload_n hx hb dX5_isGone_0 rfl (lv_at hl 0 rfl) ?_
  refine va_get (D := (dC, dI)) (C := RX5) (T := TX5) (N := 26) (v := .ref (h 15)) hx hb hts (fi_X5 _) hown hK hP 0 (mw_at0 _ _ _) rfl 17 (by decide) (hts _ (List.mem_cons_of_mem _ wd_245)) (fun _ h9 => h9) rfl dX5_isGone_1 ?_
  refine lv_iload_n hx hb dX5_isGone_4 rfl (lv_at hl 1 rfl) ?_
  refine va_iald (f := k_mcust u) hx hb hK hP 15 0 (mw_at15 _ _ _) rfl (vp_in_iff.mpr (by omega)) dX5_isGone_5 ?_
  refine lv_iconst (v := (-1)) hx hb dX5_isGone_6 (by decide) ?_
  refine lv_icmp_eq (tgt := 14) hx hb dX5_isGone_7 (by decide) (fun c_1 => ?_) (fun c_1 => ?_)
  · skip
    have t_2 : (k_mcust u x1.toNatClampNeg).toInt = -1 := i_eq c_1 rfl (by decide)
    refine lv_iconst (v := 0) hx hb dX5_isGone_14 (by decide) ?_
    exact W.zret (v := 0) hx hb hr rfl (fun t ht hW => ⟨0, rfl, (by unfold fX5_isGone; rw [if_pos c_1]), ht⟩) (fun _ h => nomatch h) dX5_isGone_15
  · skip
    have t_3 : (k_mcust u x1.toNatClampNeg).toInt ≠ -1 := i_ne c_1 rfl (by decide)
    refine lv_iconst (v := 1) hx hb dX5_isGone_10 (by decide) ?_
    refine lv_goto (tgt := 15) hx hb dX5_isGone_11 (by decide) ?_
    exact W.zret (v := 1) hx hb hr rfl (fun t ht hW => ⟨1, rfl, (by unfold fX5_isGone; rw [if_neg c_1]), ht⟩) (fun _ h => nomatch h) dX5_isGone_15
set_option maxHeartbeats 4000000 in
set_option maxRecDepth 100000 in
theorem kX5_bits (l : Launch) (dC : Nat → ClassId) (dI : Nat → Nat → Nat) (x0 : Int32) : Met l yX5_bits wsX5_bits ({ frames := 0, cells := 0, slots := 0, locals := 0 }) (va_Pc [.int x0] (fun U => True)) (vp_Si (fun r => r = fX5_bits x0)) 0 0 (fun _ => False) := by
  refine Met.ofW (cc := cX5_bits) (maxL := 3) (ret := (some .int)) (by decide) rfl ?_
  intro p e s m args below meth c s₁ B hml hv
  obtain ⟨rfl, -⟩ := hv
  have hx := B.exec
  have hb := B.bytes
  have hr := B.returns
  have hts := atoms_spec (ws := wsX5_bits) B.pre
  have hown : s.vm.findClass RX5 = some m.cls := findClass_of_methodNamed B.named
  have hlocks := B.notSynchronized
  have hS : va_S (fun _ => False) s.heap s.heap [] := va_S.rf
  have hl := lv_entry ([.int x0]) (n := 3) (Nat.le_of_ble_eq_true rfl)
  rw [lg_entry_eq]
  generalize (lg_sl ([.int x0]) ++ List.replicate (3 - (lg_sl ([.int x0])).length) Slot.unset).toArray = ls at hl ⊢
  have hl : lv_has ls 3 [(0, .int x0)] := hl
  have z_0 : (0 : Int32).toInt = 0 := by decide
  refine lv_iconst (v := 0) hx hb dX5_bits_0 (by decide) ?_
  refine lv_istore_n (lv' := [(1, .int 0), (0, .int x0)]) hx hb dX5_bits_1 rfl hl (by decide) rfl (fun ls hl => ?_)
  refine lv_iconst (v := 0) hx hb dX5_bits_2 (by decide) ?_
  refine lv_istore_n (lv' := [(2, .int 0), (1, .int 0), (0, .int x0)]) hx hb dX5_bits_3 rfl hl (by decide) rfl (fun ls hl => ?_)
  refine lp_ind (W p l e _ s m _ below meth c _ _ _ _ _) (fun n ls => ∃ (i : Int32) (a : Int32), (10 - i.toInt < (n : Int)) ∧ (0 ≤ i.toInt ∧ i.toInt ≤ 10) ∧ fX5_bits x0 = lpX5_bits x0 n i a ∧ lv_has ls 3 [(2, .int i), (1, .int a), (0, .int x0)]) m 4 (fun ls hI0 => ?_) (fun n ls hI0 ih => ?_) 11 _ ⟨0, 0, (by omega), (by omega), rfl, lv_sub hl [0, 1, 2] rfl⟩
  · skip
    obtain ⟨i, a, hn, hi, he, hl⟩ := hI0
    exact absurd hn (by omega)
  · skip
    obtain ⟨i, a, hn, hi, he, hl⟩ := hI0
    have he_3 := he
    have ih_2 := ih
    refine lv_iload_n hx hb dX5_bits_4 rfl (lv_at hl 0 rfl) ?_
    refine lv_bipush (v := 10) hx hb dX5_bits_5 (by decide) ?_
    refine lv_icmp_ge (tgt := 24) hx hb dX5_bits_7 (by decide) (fun c_4 => ?_) (fun c_4 => ?_)
    · skip
      have t_5 : 10 ≤ i.toInt := i_le c_4 (by decide) rfl
      refine lv_iload_n hx hb dX5_bits_24 rfl (lv_at hl 1 rfl) ?_
      exact W.iret (v := a) hx hb hr (fun t ht hW => ⟨a, rfl, (by rw [he_3, lpX5_bits_eq, if_pos c_4]), ht⟩) (fun _ h => nomatch h) dX5_bits_25
    · skip
      have t_6 : i.toInt < 10 := i_nle c_4 (by decide) rfl
      refine lv_iload_n hx hb dX5_bits_10 rfl (lv_at hl 1 rfl) ?_
      refine lv_iload_n hx hb dX5_bits_11 rfl (lv_at hl 2 rfl) ?_
      refine lv_iload_n hx hb dX5_bits_12 rfl (lv_at hl 0 rfl) ?_
      refine lv_ishr hx hb dX5_bits_13 ?_
      refine lv_iconst (v := 1) hx hb dX5_bits_14 (by decide) ?_
      refine lv_iand hx hb dX5_bits_15 ?_
      refine lv_iadd hx hb dX5_bits_16 ?_
      refine lv_istore_n (lv' := [(1, .int (a + ((x0 >>> (i &&& 31)) &&& 1))), (2, .int i), (0, .int x0)]) hx hb dX5_bits_17 rfl hl (by decide) rfl (fun ls hl => ?_)
      refine lv_iinc (v := i + 1) (lv' := [(2, .int (i + 1)), (1, .int (a + ((x0 >>> (i &&& 31)) &&& 1))), (0, .int x0)]) hx hb dX5_bits_18 hl (k := 1) rfl rfl (by decide) rfl (fun ls hl => ?_)
      refine lv_goto (tgt := 4) hx hb dX5_bits_21 (by decide) ?_
      have hb1 := i_inc (x := i) (by omega)
      exact ih_2 _ ⟨(i + 1), (a + ((x0 >>> (i &&& 31)) &&& 1)), (by omega), (by omega), (by rw [he_3, lpX5_bits_eq, if_neg c_4]), lv_sub hl [0, 1, 2] rfl⟩
set_option maxHeartbeats 4000000 in
set_option maxRecDepth 100000 in
theorem kX5_mayBeTaken (l : Launch) (dC : Nat → ClassId) (dI : Nat → Nat → Nat) (g : cG) (h : Nat → Nat) (u : mS) (x1 : Int32) (h1 : 0 ≤ x1.toInt ∧ x1.toInt ≤ 40) : Met l yX5_mayBeTaken wsX5_mayBeTaken ({ frames := 1, cells := 0, slots := 0, locals := 21 }) (va_Pc [.ref (h 0), .int x1] (fun U => va_P (dC, dI) vwCl (mw g h u) U.heap ∧ va_K (dC, dI) vwCl (cTys g) U)) (vp_Si (fun r => r = fX5_mayBeTaken u x1)) 0 0 (fun _ => False) := by
  refine Met.ofW (cc := cX5_mayBeTaken) (maxL := 2) (ret := (some .boolean)) (by decide) rfl ?_
  intro p e s m args below meth c s₁ B hml hv
  obtain ⟨rfl, hP, hK⟩ := hv
  have hx := B.exec
  have hb := B.bytes
  have hr := B.returns
  have hts := atoms_spec (ws := wsX5_mayBeTaken) B.pre
  have hown : s.vm.findClass RX5 = some m.cls := findClass_of_methodNamed B.named
  have hlocks := B.notSynchronized
  have hS : va_S (fun _ => False) s.heap s.heap [] := va_S.rf
  have hl := lv_entry ([.ref (h 0), .int x1]) (n := 2) (Nat.le_of_ble_eq_true rfl)
  rw [lg_entry_eq]
  generalize (lg_sl ([.ref (h 0), .int x1]) ++ List.replicate (2 - (lg_sl ([.ref (h 0), .int x1])).length) Slot.unset).toArray = ls at hl ⊢
  have hl : lv_has ls 2 [(0, .ref (h 0)), (1, .int x1)] := hl
  refine lv_aload_n hx hb dX5_mayBeTaken_0 rfl (lv_at hl 0 rfl) ?_
  refine lv_iload_n hx hb dX5_mayBeTaken_1 rfl (lv_at hl 1 rfl) ?_
  refine vp_callSi (W.runV (As := [.int x1]) (rest := []) ⟨hx, hb, hml, hown, hts⟩ (kX5_isOpen l dC dI g h u x1 (by omega)) (cwV 1 hts (gV wd_246 wd_247 wd_248 wd_241 wcX5_isOpen) rfl rfl rfl (by decide +kernel) ⟨(Nat.le_of_ble_eq_true rfl), (Nat.le_of_ble_eq_true rfl)⟩) ⟨fun a U g mk q => by obtain ⟨q0, qP, qK⟩ := q; exact ⟨q0, qP, va_K.moved (u := U) (U := U.calling g mk a) (Vm.Alike.refl U.vm) qK⟩, va_recv hK hP (ci := 4) (q0 := 0) rfl (mw_at0 _ _ _), fun U hU hW => ⟨rfl, by rw [hU]; exact hP, va_K.moved hW.alike hK⟩⟩ rfl rfl hl.1 rfl (lv_room (Nat.le_of_ble_eq_true rfl)) dX5_mayBeTaken_2 ⟨(Nat.le_of_ble_eq_true rfl), (Nat.le_of_ble_eq_true rfl)⟩) (fun r_1 hw => ?_)
  subst hw
  refine lv_if_eq (tgt := 30) hx hb dX5_mayBeTaken_5 (by decide) (fun c_2 => ?_) (fun c_2 => ?_)
  · skip
    have t_3 : (fX5_isOpen u x1).toInt = 0 := i_eq c_2 rfl (by decide)
    refine lv_iconst (v := 0) hx hb dX5_mayBeTaken_30 (by decide) ?_
    exact W.zret (v := 0) hx hb hr rfl (fun t ht hW => ⟨0, rfl, (by unfold fX5_mayBeTaken; rw [if_pos c_2]), ht⟩) (fun _ h => nomatch h) dX5_mayBeTaken_31
  · skip
    have t_4 : (fX5_isOpen u x1).toInt ≠ 0 := i_ne c_2 rfl (by decide)
    refine lv_aload_n hx hb dX5_mayBeTaken_8 rfl (lv_at hl 0 rfl) ?_
    refine va_get (D := (dC, dI)) (C := RX5) (T := TX5) (N := 26) (v := .ref (h 7)) hx hb hts (fi_X5 _) hown hK hP 0 (mw_at0 _ _ _) rfl 8 (by decide) (hts _ (List.mem_cons_of_mem _ wd_250)) (fun _ h9 => h9) rfl dX5_mayBeTaken_9 ?_
    refine lv_iload_n hx hb dX5_mayBeTaken_12 rfl (lv_at hl 1 rfl) ?_
    refine va_iald (f := k_mblk u) hx hb hK hP 7 0 (mw_at7 _ _ _) rfl (vp_in_iff.mpr (by omega)) dX5_mayBeTaken_13 ?_
    refine lv_if_ne (tgt := 30) hx hb dX5_mayBeTaken_14 (by decide) (fun c_5 => ?_) (fun c_5 => ?_)
    · skip
      have t_6 : (k_mblk u x1.toNatClampNeg).toInt ≠ 0 := i_ne c_5 rfl (by decide)
      refine lv_iconst (v := 0) hx hb dX5_mayBeTaken_30 (by decide) ?_
      exact W.zret (v := 0) hx hb hr rfl (fun t ht hW => ⟨0, rfl, (by unfold fX5_mayBeTaken; rw [if_neg c_2, if_neg c_5]), ht⟩) (fun _ h => nomatch h) dX5_mayBeTaken_31
    · skip
      have t_7 : (k_mblk u x1.toNatClampNeg).toInt = 0 := i_eq c_5 rfl (by decide)
      refine lv_aload_n hx hb dX5_mayBeTaken_17 rfl (lv_at hl 0 rfl) ?_
      refine va_get (D := (dC, dI)) (C := RX5) (T := TX5) (N := 26) (v := .ref (h 8)) hx hb hts (fi_X5 _) hown hK hP 0 (mw_at0 _ _ _) rfl 9 (by decide) (hts _ (List.mem_cons_of_mem _ wd_251)) (fun _ h9 => h9) rfl dX5_mayBeTaken_18 ?_
      refine lv_iload_n hx hb dX5_mayBeTaken_21 rfl (lv_at hl 1 rfl) ?_
      refine va_zald (f := k_mquiet u) hx hb hK hP 8 1 (mw_at8 _ _ _) rfl (vp_in_iff.mpr (by omega)) dX5_mayBeTaken_22 ?_
      refine lv_if_ne (tgt := 30) hx hb dX5_mayBeTaken_23 (by decide) (fun c_8 => ?_) (fun c_8 => ?_)
      · skip
        have t_9 : (k_mquiet u x1.toNatClampNeg).toInt ≠ 0 := i_ne c_8 rfl (by decide)
        refine lv_iconst (v := 0) hx hb dX5_mayBeTaken_30 (by decide) ?_
        exact W.zret (v := 0) hx hb hr rfl (fun t ht hW => ⟨0, rfl, (by unfold fX5_mayBeTaken; rw [if_neg c_2, if_pos c_5, if_neg c_8]), ht⟩) (fun _ h => nomatch h) dX5_mayBeTaken_31
      · skip
        have t_10 : (k_mquiet u x1.toNatClampNeg).toInt = 0 := i_eq c_8 rfl (by decide)
        refine lv_iconst (v := 1) hx hb dX5_mayBeTaken_26 (by decide) ?_
        refine lv_goto (tgt := 31) hx hb dX5_mayBeTaken_27 (by decide) ?_
        exact W.zret (v := 1) hx hb hr rfl (fun t ht hW => ⟨1, rfl, (by unfold fX5_mayBeTaken; rw [if_neg c_2, if_pos c_5, if_pos c_8]), ht⟩) (fun _ h => nomatch h) dX5_mayBeTaken_31
set_option maxHeartbeats 4000000 in
set_option maxRecDepth 100000 in
theorem kX5_isBefore (l : Launch) (dC : Nat → ClassId) (dI : Nat → Nat → Nat) (g : cG) (h : Nat → Nat) (u : mS) (x1 : Int32) (x2 : Int32) (h1 : 0 ≤ x1.toInt ∧ x1.toInt ≤ 40) (h2 : 0 ≤ x2.toInt ∧ x2.toInt ≤ 40) (hI : mInv u) : Met l yX5_isBefore wsX5_isBefore ({ frames := 0, cells := 0, slots := 0, locals := 0 }) (va_Pc [.ref (h 0), .int x1, .int x2] (fun U => va_P (dC, dI) vwCl (mw g h u) U.heap ∧ va_K (dC, dI) vwCl (cTys g) U)) (vp_Si (fun r => r = fX5_isBefore u x1 x2)) 0 0 (fun _ => False) := by
  refine Met.ofW (cc := cX5_isBefore) (maxL := 4) (ret := (some .boolean)) (by decide) rfl ?_
  intro p e s m args below meth c s₁ B hml hv
  obtain ⟨rfl, hP, hK⟩ := hv
  have hx := B.exec
  have hb := B.bytes
  have hr := B.returns
  have hts := atoms_spec (ws := wsX5_isBefore) B.pre
  have hown : s.vm.findClass RX5 = some m.cls := findClass_of_methodNamed B.named
  have hlocks := B.notSynchronized
  have hS : va_S (fun _ => False) s.heap s.heap [] := va_S.rf
  have hl := lv_entry ([.ref (h 0), .int x1, .int x2]) (n := 4) (Nat.le_of_ble_eq_true rfl)
  rw [lg_entry_eq]
  generalize (lg_sl ([.ref (h 0), .int x1, .int x2]) ++ List.replicate (4 - (lg_sl ([.ref (h 0), .int x1, .int x2])).length) Slot.unset).toArray = ls at hl ⊢
  have hl : lv_has ls 4 [(0, .ref (h 0)), (1, .int x1), (2, .int x2)] := hl
  obtain ⟨hI1, hI2, hI3, hI4, hI5, hI6, hI7⟩ := id hI
  refine lv_aload_n hx hb dX5_isBefore_0 rfl (lv_at hl 0 rfl) ?_
  refine va_get (D := (dC, dI)) (C := RX5) (T := TX5) (N := 26) (v := .ref (h 9)) hx hb hts (fi_X5 _) hown hK hP 0 (mw_at0 _ _ _) rfl 10 (by decide) (hts _ (List.mem_cons_of_mem _ wd_252)) (fun _ h9 => h9) rfl dX5_isBefore_1 ?_
  refine lv_aload_n hx hb dX5_isBefore_4 rfl (lv_at hl 0 rfl) ?_
  refine va_get (D := (dC, dI)) (C := RX5) (T := TX5) (N := 26) (v := .ref (h 2)) hx hb hts (fi_X5 _) hown hK hP 0 (mw_at0 _ _ _) rfl 3 (by decide) (hts _ (List.mem_cons_of_mem _ wd_253)) (fun _ h9 => h9) rfl dX5_isBefore_5 ?_
  refine lv_iload_n hx hb dX5_isBefore_8 rfl (lv_at hl 1 rfl) ?_
  refine va_iald (f := k_mowner u) hx hb hK hP 2 0 (mw_at2 _ _ _) rfl (vp_in_iff.mpr (by omega)) dX5_isBefore_9 ?_
  refine va_iald (f := k_mrot u) hx hb hK hP 9 0 (mw_at9 _ _ _) rfl (vp_in_iff.mpr (i_rg (hI4 _) (by decide))) dX5_isBefore_10 ?_
  refine lv_istore_n (lv' := [(3, .int (k_mrot u (k_mowner u x1.toNatClampNeg).toNatClampNeg)), (0, .ref (h 0)), (1, .int x1), (2, .int x2)]) hx hb dX5_isBefore_11 rfl hl (by decide) rfl (fun ls hl => ?_)
  refine lv_iload_n hx hb dX5_isBefore_12 rfl (lv_at hl 0 rfl) ?_
  refine lv_iconst (v := 2) hx hb dX5_isBefore_13 (by decide) ?_
  refine lv_icmp_ne (tgt := 66) hx hb dX5_isBefore_14 (by decide) (fun c_1 => ?_) (fun c_1 => ?_)
  · skip
    have t_2 : (k_mrot u (k_mowner u x1.toNatClampNeg).toNatClampNeg).toInt ≠ 2 := i_ne c_1 rfl (by decide)
    refine lv_iload_n hx hb dX5_isBefore_66 rfl (lv_at hl 0 rfl) ?_
    refine lv_if_ne (tgt := 106) hx hb dX5_isBefore_67 (by decide) (fun c_3 => ?_) (fun c_3 => ?_)
    · skip
      have t_4 : (k_mrot u (k_mowner u x1.toNatClampNeg).toNatClampNeg).toInt ≠ 0 := i_ne c_3 rfl (by decide)
      refine lv_aload_n hx hb dX5_isBefore_106 rfl (lv_at hl 1 rfl) ?_
      refine va_get (D := (dC, dI)) (C := RX5) (T := TX5) (N := 26) (v := .ref (h 4)) hx hb hts (fi_X5 _) hown hK hP 0 (mw_at0 _ _ _) rfl 5 (by decide) (hts _ (List.mem_cons_of_mem _ wd_254)) (fun _ h9 => h9) rfl dX5_isBefore_107 ?_
      refine lv_iload_n hx hb dX5_isBefore_110 rfl (lv_at hl 2 rfl) ?_
      refine va_iald (f := k_marr u) hx hb hK hP 4 0 (mw_at4 _ _ _) rfl (vp_in_iff.mpr (by omega)) dX5_isBefore_111 ?_
      refine lv_aload_n hx hb dX5_isBefore_112 rfl (lv_at hl 1 rfl) ?_
      refine va_get (D := (dC, dI)) (C := RX5) (T := TX5) (N := 26) (v := .ref (h 4)) hx hb hts (fi_X5 _) hown hK hP 0 (mw_at0 _ _ _) rfl 5 (by decide) (hts _ (List.mem_cons_of_mem _ wd_254)) (fun _ h9 => h9) rfl dX5_isBefore_113 ?_
      refine lv_iload_n hx hb dX5_isBefore_116 rfl (lv_at hl 3 rfl) ?_
      refine va_iald (f := k_marr u) hx hb hK hP 4 0 (mw_at4 _ _ _) rfl (vp_in_iff.mpr (by omega)) dX5_isBefore_117 ?_
      refine lv_icmp_eq (tgt := 144) hx hb dX5_isBefore_118 (by decide) (fun c_5 => ?_) (fun c_5 => ?_)
      · skip
        have t_6 : (k_marr u x1.toNatClampNeg).toInt = (k_marr u x2.toNatClampNeg).toInt := i_eq c_5 rfl rfl
        refine lv_iload_n hx hb dX5_isBefore_144 rfl (lv_at hl 2 rfl) ?_
        refine lv_iload_n hx hb dX5_isBefore_145 rfl (lv_at hl 3 rfl) ?_
        refine lv_icmp_ge (tgt := 153) hx hb dX5_isBefore_146 (by decide) (fun c_7 => ?_) (fun c_7 => ?_)
        · skip
          have t_8 : x2.toInt ≤ x1.toInt := i_le c_7 rfl rfl
          refine lv_iconst (v := 0) hx hb dX5_isBefore_153 (by decide) ?_
          exact W.zret (v := 0) hx hb hr rfl (fun t ht hW => ⟨0, rfl, (by unfold fX5_isBefore; rw [if_neg c_1, if_neg c_3, if_pos c_5, if_pos c_7]), ht⟩) (fun _ h => nomatch h) dX5_isBefore_154
        · skip
          have t_9 : x1.toInt < x2.toInt := i_nle c_7 rfl rfl
          refine lv_iconst (v := 1) hx hb dX5_isBefore_149 (by decide) ?_
          refine lv_goto (tgt := 154) hx hb dX5_isBefore_150 (by decide) ?_
          exact W.zret (v := 1) hx hb hr rfl (fun t ht hW => ⟨1, rfl, (by unfold fX5_isBefore; rw [if_neg c_1, if_neg c_3, if_pos c_5, if_neg c_7]), ht⟩) (fun _ h => nomatch h) dX5_isBefore_154
      · skip
        have t_10 : (k_marr u x1.toNatClampNeg).toInt ≠ (k_marr u x2.toNatClampNeg).toInt := i_ne c_5 rfl rfl
        refine lv_aload_n hx hb dX5_isBefore_121 rfl (lv_at hl 1 rfl) ?_
        refine va_get (D := (dC, dI)) (C := RX5) (T := TX5) (N := 26) (v := .ref (h 4)) hx hb hts (fi_X5 _) hown hK hP 0 (mw_at0 _ _ _) rfl 5 (by decide) (hts _ (List.mem_cons_of_mem _ wd_254)) (fun _ h9 => h9) rfl dX5_isBefore_122 ?_
        refine lv_iload_n hx hb dX5_isBefore_125 rfl (lv_at hl 2 rfl) ?_
        refine va_iald (f := k_marr u) hx hb hK hP 4 0 (mw_at4 _ _ _) rfl (vp_in_iff.mpr (by omega)) dX5_isBefore_126 ?_
        refine lv_aload_n hx hb dX5_isBefore_127 rfl (lv_at hl 1 rfl) ?_
        refine va_get (D := (dC, dI)) (C := RX5) (T := TX5) (N := 26) (v := .ref (h 4)) hx hb hts (fi_X5 _) hown hK hP 0 (mw_at0 _ _ _) rfl 5 (by decide) (hts _ (List.mem_cons_of_mem _ wd_254)) (fun _ h9 => h9) rfl dX5_isBefore_128 ?_
        refine lv_iload_n hx hb dX5_isBefore_131 rfl (lv_at hl 3 rfl) ?_
        refine va_iald (f := k_marr u) hx hb hK hP 4 0 (mw_at4 _ _ _) rfl (vp_in_iff.mpr (by omega)) dX5_isBefore_132 ?_
        refine lv_icmp_ge (tgt := 140) hx hb dX5_isBefore_133 (by decide) (fun c_11 => ?_) (fun c_11 => ?_)
        · skip
          have t_12 : (k_marr u x2.toNatClampNeg).toInt ≤ (k_marr u x1.toNatClampNeg).toInt := i_le c_11 rfl rfl
          refine lv_iconst (v := 0) hx hb dX5_isBefore_140 (by decide) ?_
          refine lv_goto (tgt := 154) hx hb dX5_isBefore_141 (by decide) ?_
          exact W.zret (v := 0) hx hb hr rfl (fun t ht hW => ⟨0, rfl, (by unfold fX5_isBefore; rw [if_neg c_1, if_neg c_3, if_neg c_5, if_pos c_11]), ht⟩) (fun _ h => nomatch h) dX5_isBefore_154
        · skip
          have t_13 : (k_marr u x1.toNatClampNeg).toInt < (k_marr u x2.toNatClampNeg).toInt := i_nle c_11 rfl rfl
          refine lv_iconst (v := 1) hx hb dX5_isBefore_136 (by decide) ?_
          refine lv_goto (tgt := 154) hx hb dX5_isBefore_137 (by decide) ?_
          exact W.zret (v := 1) hx hb hr rfl (fun t ht hW => ⟨1, rfl, (by unfold fX5_isBefore; rw [if_neg c_1, if_neg c_3, if_neg c_5, if_neg c_11]), ht⟩) (fun _ h => nomatch h) dX5_isBefore_154
    · skip
      have t_14 : (k_mrot u (k_mowner u x1.toNatClampNeg).toNatClampNeg).toInt = 0 := i_eq c_3 rfl (by decide)
      refine lv_aload_n hx hb dX5_isBefore_70 rfl (lv_at hl 1 rfl) ?_
      refine va_get (D := (dC, dI)) (C := RX5) (T := TX5) (N := 26) (v := .ref (h 3)) hx hb hts (fi_X5 _) hown hK hP 0 (mw_at0 _ _ _) rfl 4 (by decide) (hts _ (List.mem_cons_of_mem _ wd_255)) (fun _ h9 => h9) rfl dX5_isBefore_71 ?_
      refine lv_iload_n hx hb dX5_isBefore_74 rfl (lv_at hl 2 rfl) ?_
      refine va_iald (f := k_muntil u) hx hb hK hP 3 0 (mw_at3 _ _ _) rfl (vp_in_iff.mpr (by omega)) dX5_isBefore_75 ?_
      refine lv_aload_n hx hb dX5_isBefore_76 rfl (lv_at hl 1 rfl) ?_
      refine va_get (D := (dC, dI)) (C := RX5) (T := TX5) (N := 26) (v := .ref (h 3)) hx hb hts (fi_X5 _) hown hK hP 0 (mw_at0 _ _ _) rfl 4 (by decide) (hts _ (List.mem_cons_of_mem _ wd_255)) (fun _ h9 => h9) rfl dX5_isBefore_77 ?_
      refine lv_iload_n hx hb dX5_isBefore_80 rfl (lv_at hl 3 rfl) ?_
      refine va_iald (f := k_muntil u) hx hb hK hP 3 0 (mw_at3 _ _ _) rfl (vp_in_iff.mpr (by omega)) dX5_isBefore_81 ?_
      refine lv_icmp_eq (tgt := 106) hx hb dX5_isBefore_82 (by decide) (fun c_15 => ?_) (fun c_15 => ?_)
      · skip
        have t_16 : (k_muntil u x1.toNatClampNeg).toInt = (k_muntil u x2.toNatClampNeg).toInt := i_eq c_15 rfl rfl
        refine lv_aload_n hx hb dX5_isBefore_106 rfl (lv_at hl 1 rfl) ?_
        refine va_get (D := (dC, dI)) (C := RX5) (T := TX5) (N := 26) (v := .ref (h 4)) hx hb hts (fi_X5 _) hown hK hP 0 (mw_at0 _ _ _) rfl 5 (by decide) (hts _ (List.mem_cons_of_mem _ wd_254)) (fun _ h9 => h9) rfl dX5_isBefore_107 ?_
        refine lv_iload_n hx hb dX5_isBefore_110 rfl (lv_at hl 2 rfl) ?_
        refine va_iald (f := k_marr u) hx hb hK hP 4 0 (mw_at4 _ _ _) rfl (vp_in_iff.mpr (by omega)) dX5_isBefore_111 ?_
        refine lv_aload_n hx hb dX5_isBefore_112 rfl (lv_at hl 1 rfl) ?_
        refine va_get (D := (dC, dI)) (C := RX5) (T := TX5) (N := 26) (v := .ref (h 4)) hx hb hts (fi_X5 _) hown hK hP 0 (mw_at0 _ _ _) rfl 5 (by decide) (hts _ (List.mem_cons_of_mem _ wd_254)) (fun _ h9 => h9) rfl dX5_isBefore_113 ?_
        refine lv_iload_n hx hb dX5_isBefore_116 rfl (lv_at hl 3 rfl) ?_
        refine va_iald (f := k_marr u) hx hb hK hP 4 0 (mw_at4 _ _ _) rfl (vp_in_iff.mpr (by omega)) dX5_isBefore_117 ?_
        refine lv_icmp_eq (tgt := 144) hx hb dX5_isBefore_118 (by decide) (fun c_17 => ?_) (fun c_17 => ?_)
        · skip
          have t_18 : (k_marr u x1.toNatClampNeg).toInt = (k_marr u x2.toNatClampNeg).toInt := i_eq c_17 rfl rfl
          refine lv_iload_n hx hb dX5_isBefore_144 rfl (lv_at hl 2 rfl) ?_
          refine lv_iload_n hx hb dX5_isBefore_145 rfl (lv_at hl 3 rfl) ?_
          refine lv_icmp_ge (tgt := 153) hx hb dX5_isBefore_146 (by decide) (fun c_19 => ?_) (fun c_19 => ?_)
          · skip
            have t_20 : x2.toInt ≤ x1.toInt := i_le c_19 rfl rfl
            refine lv_iconst (v := 0) hx hb dX5_isBefore_153 (by decide) ?_
            exact W.zret (v := 0) hx hb hr rfl (fun t ht hW => ⟨0, rfl, (by unfold fX5_isBefore; rw [if_neg c_1, if_pos c_3, if_pos c_15, if_pos c_17, if_pos c_19]), ht⟩) (fun _ h => nomatch h) dX5_isBefore_154
          · skip
            have t_21 : x1.toInt < x2.toInt := i_nle c_19 rfl rfl
            refine lv_iconst (v := 1) hx hb dX5_isBefore_149 (by decide) ?_
            refine lv_goto (tgt := 154) hx hb dX5_isBefore_150 (by decide) ?_
            exact W.zret (v := 1) hx hb hr rfl (fun t ht hW => ⟨1, rfl, (by unfold fX5_isBefore; rw [if_neg c_1, if_pos c_3, if_pos c_15, if_pos c_17, if_neg c_19]), ht⟩) (fun _ h => nomatch h) dX5_isBefore_154
        · skip
          have t_22 : (k_marr u x1.toNatClampNeg).toInt ≠ (k_marr u x2.toNatClampNeg).toInt := i_ne c_17 rfl rfl
          refine lv_aload_n hx hb dX5_isBefore_121 rfl (lv_at hl 1 rfl) ?_
          refine va_get (D := (dC, dI)) (C := RX5) (T := TX5) (N := 26) (v := .ref (h 4)) hx hb hts (fi_X5 _) hown hK hP 0 (mw_at0 _ _ _) rfl 5 (by decide) (hts _ (List.mem_cons_of_mem _ wd_254)) (fun _ h9 => h9) rfl dX5_isBefore_122 ?_
          refine lv_iload_n hx hb dX5_isBefore_125 rfl (lv_at hl 2 rfl) ?_
          refine va_iald (f := k_marr u) hx hb hK hP 4 0 (mw_at4 _ _ _) rfl (vp_in_iff.mpr (by omega)) dX5_isBefore_126 ?_
          refine lv_aload_n hx hb dX5_isBefore_127 rfl (lv_at hl 1 rfl) ?_
          refine va_get (D := (dC, dI)) (C := RX5) (T := TX5) (N := 26) (v := .ref (h 4)) hx hb hts (fi_X5 _) hown hK hP 0 (mw_at0 _ _ _) rfl 5 (by decide) (hts _ (List.mem_cons_of_mem _ wd_254)) (fun _ h9 => h9) rfl dX5_isBefore_128 ?_
          refine lv_iload_n hx hb dX5_isBefore_131 rfl (lv_at hl 3 rfl) ?_
          refine va_iald (f := k_marr u) hx hb hK hP 4 0 (mw_at4 _ _ _) rfl (vp_in_iff.mpr (by omega)) dX5_isBefore_132 ?_
          refine lv_icmp_ge (tgt := 140) hx hb dX5_isBefore_133 (by decide) (fun c_23 => ?_) (fun c_23 => ?_)
          · skip
            have t_24 : (k_marr u x2.toNatClampNeg).toInt ≤ (k_marr u x1.toNatClampNeg).toInt := i_le c_23 rfl rfl
            refine lv_iconst (v := 0) hx hb dX5_isBefore_140 (by decide) ?_
            refine lv_goto (tgt := 154) hx hb dX5_isBefore_141 (by decide) ?_
            exact W.zret (v := 0) hx hb hr rfl (fun t ht hW => ⟨0, rfl, (by unfold fX5_isBefore; rw [if_neg c_1, if_pos c_3, if_pos c_15, if_neg c_17, if_pos c_23]), ht⟩) (fun _ h => nomatch h) dX5_isBefore_154
          · skip
            have t_25 : (k_marr u x1.toNatClampNeg).toInt < (k_marr u x2.toNatClampNeg).toInt := i_nle c_23 rfl rfl
            refine lv_iconst (v := 1) hx hb dX5_isBefore_136 (by decide) ?_
            refine lv_goto (tgt := 154) hx hb dX5_isBefore_137 (by decide) ?_
            exact W.zret (v := 1) hx hb hr rfl (fun t ht hW => ⟨1, rfl, (by unfold fX5_isBefore; rw [if_neg c_1, if_pos c_3, if_pos c_15, if_neg c_17, if_neg c_23]), ht⟩) (fun _ h => nomatch h) dX5_isBefore_154
      · skip
        have t_26 : (k_muntil u x1.toNatClampNeg).toInt ≠ (k_muntil u x2.toNatClampNeg).toInt := i_ne c_15 rfl rfl
        refine lv_aload_n hx hb dX5_isBefore_85 rfl (lv_at hl 1 rfl) ?_
        refine va_get (D := (dC, dI)) (C := RX5) (T := TX5) (N := 26) (v := .ref (h 3)) hx hb hts (fi_X5 _) hown hK hP 0 (mw_at0 _ _ _) rfl 4 (by decide) (hts _ (List.mem_cons_of_mem _ wd_255)) (fun _ h9 => h9) rfl dX5_isBefore_86 ?_
        refine lv_iload_n hx hb dX5_isBefore_89 rfl (lv_at hl 2 rfl) ?_
        refine va_iald (f := k_muntil u) hx hb hK hP 3 0 (mw_at3 _ _ _) rfl (vp_in_iff.mpr (by omega)) dX5_isBefore_90 ?_
        refine lv_aload_n hx hb dX5_isBefore_91 rfl (lv_at hl 1 rfl) ?_
        refine va_get (D := (dC, dI)) (C := RX5) (T := TX5) (N := 26) (v := .ref (h 3)) hx hb hts (fi_X5 _) hown hK hP 0 (mw_at0 _ _ _) rfl 4 (by decide) (hts _ (List.mem_cons_of_mem _ wd_255)) (fun _ h9 => h9) rfl dX5_isBefore_92 ?_
        refine lv_iload_n hx hb dX5_isBefore_95 rfl (lv_at hl 3 rfl) ?_
        refine va_iald (f := k_muntil u) hx hb hK hP 3 0 (mw_at3 _ _ _) rfl (vp_in_iff.mpr (by omega)) dX5_isBefore_96 ?_
        refine lv_icmp_ge (tgt := 104) hx hb dX5_isBefore_97 (by decide) (fun c_27 => ?_) (fun c_27 => ?_)
        · skip
          have t_28 : (k_muntil u x2.toNatClampNeg).toInt ≤ (k_muntil u x1.toNatClampNeg).toInt := i_le c_27 rfl rfl
          refine lv_iconst (v := 0) hx hb dX5_isBefore_104 (by decide) ?_
          exact W.zret (v := 0) hx hb hr rfl (fun t ht hW => ⟨0, rfl, (by unfold fX5_isBefore; rw [if_neg c_1, if_pos c_3, if_neg c_15, if_pos c_27]), ht⟩) (fun _ h => nomatch h) dX5_isBefore_105
        · skip
          have t_29 : (k_muntil u x1.toNatClampNeg).toInt < (k_muntil u x2.toNatClampNeg).toInt := i_nle c_27 rfl rfl
          refine lv_iconst (v := 1) hx hb dX5_isBefore_100 (by decide) ?_
          refine lv_goto (tgt := 105) hx hb dX5_isBefore_101 (by decide) ?_
          exact W.zret (v := 1) hx hb hr rfl (fun t ht hW => ⟨1, rfl, (by unfold fX5_isBefore; rw [if_neg c_1, if_pos c_3, if_neg c_15, if_neg c_27]), ht⟩) (fun _ h => nomatch h) dX5_isBefore_105
  · skip
    have t_30 : (k_mrot u (k_mowner u x1.toNatClampNeg).toNatClampNeg).toInt = 2 := i_eq c_1 rfl (by decide)
    refine lv_aload_n hx hb dX5_isBefore_17 rfl (lv_at hl 1 rfl) ?_
    refine va_get (D := (dC, dI)) (C := RX5) (T := TX5) (N := 26) (v := .ref (h 4)) hx hb hts (fi_X5 _) hown hK hP 0 (mw_at0 _ _ _) rfl 5 (by decide) (hts _ (List.mem_cons_of_mem _ wd_254)) (fun _ h9 => h9) rfl dX5_isBefore_18 ?_
    refine lv_iload_n hx hb dX5_isBefore_21 rfl (lv_at hl 2 rfl) ?_
    refine va_iald (f := k_marr u) hx hb hK hP 4 0 (mw_at4 _ _ _) rfl (vp_in_iff.mpr (by omega)) dX5_isBefore_22 ?_
    refine lv_aload_n hx hb dX5_isBefore_23 rfl (lv_at hl 1 rfl) ?_
    refine va_get (D := (dC, dI)) (C := RX5) (T := TX5) (N := 26) (v := .ref (h 4)) hx hb hts (fi_X5 _) hown hK hP 0 (mw_at0 _ _ _) rfl 5 (by decide) (hts _ (List.mem_cons_of_mem _ wd_254)) (fun _ h9 => h9) rfl dX5_isBefore_24 ?_
    refine lv_iload_n hx hb dX5_isBefore_27 rfl (lv_at hl 3 rfl) ?_
    refine va_iald (f := k_marr u) hx hb hK hP 4 0 (mw_at4 _ _ _) rfl (vp_in_iff.mpr (by omega)) dX5_isBefore_28 ?_
    refine lv_icmp_eq (tgt := 55) hx hb dX5_isBefore_29 (by decide) (fun c_31 => ?_) (fun c_31 => ?_)
    · skip
      have t_32 : (k_marr u x1.toNatClampNeg).toInt = (k_marr u x2.toNatClampNeg).toInt := i_eq c_31 rfl rfl
      refine lv_iload_n hx hb dX5_isBefore_55 rfl (lv_at hl 2 rfl) ?_
      refine lv_iload_n hx hb dX5_isBefore_56 rfl (lv_at hl 3 rfl) ?_
      refine lv_icmp_le (tgt := 64) hx hb dX5_isBefore_57 (by decide) (fun c_33 => ?_) (fun c_33 => ?_)
      · skip
        have t_34 : x1.toInt ≤ x2.toInt := i_le c_33 rfl rfl
        refine lv_iconst (v := 0) hx hb dX5_isBefore_64 (by decide) ?_
        exact W.zret (v := 0) hx hb hr rfl (fun t ht hW => ⟨0, rfl, (by unfold fX5_isBefore; rw [if_pos c_1, if_pos c_31, if_pos c_33]), ht⟩) (fun _ h => nomatch h) dX5_isBefore_65
      · skip
        have t_35 : x2.toInt < x1.toInt := i_nle c_33 rfl rfl
        refine lv_iconst (v := 1) hx hb dX5_isBefore_60 (by decide) ?_
        refine lv_goto (tgt := 65) hx hb dX5_isBefore_61 (by decide) ?_
        exact W.zret (v := 1) hx hb hr rfl (fun t ht hW => ⟨1, rfl, (by unfold fX5_isBefore; rw [if_pos c_1, if_pos c_31, if_neg c_33]), ht⟩) (fun _ h => nomatch h) dX5_isBefore_65
    · skip
      have t_36 : (k_marr u x1.toNatClampNeg).toInt ≠ (k_marr u x2.toNatClampNeg).toInt := i_ne c_31 rfl rfl
      refine lv_aload_n hx hb dX5_isBefore_32 rfl (lv_at hl 1 rfl) ?_
      refine va_get (D := (dC, dI)) (C := RX5) (T := TX5) (N := 26) (v := .ref (h 4)) hx hb hts (fi_X5 _) hown hK hP 0 (mw_at0 _ _ _) rfl 5 (by decide) (hts _ (List.mem_cons_of_mem _ wd_254)) (fun _ h9 => h9) rfl dX5_isBefore_33 ?_
      refine lv_iload_n hx hb dX5_isBefore_36 rfl (lv_at hl 2 rfl) ?_
      refine va_iald (f := k_marr u) hx hb hK hP 4 0 (mw_at4 _ _ _) rfl (vp_in_iff.mpr (by omega)) dX5_isBefore_37 ?_
      refine lv_aload_n hx hb dX5_isBefore_38 rfl (lv_at hl 1 rfl) ?_
      refine va_get (D := (dC, dI)) (C := RX5) (T := TX5) (N := 26) (v := .ref (h 4)) hx hb hts (fi_X5 _) hown hK hP 0 (mw_at0 _ _ _) rfl 5 (by decide) (hts _ (List.mem_cons_of_mem _ wd_254)) (fun _ h9 => h9) rfl dX5_isBefore_39 ?_
      refine lv_iload_n hx hb dX5_isBefore_42 rfl (lv_at hl 3 rfl) ?_
      refine va_iald (f := k_marr u) hx hb hK hP 4 0 (mw_at4 _ _ _) rfl (vp_in_iff.mpr (by omega)) dX5_isBefore_43 ?_
      refine lv_icmp_le (tgt := 51) hx hb dX5_isBefore_44 (by decide) (fun c_37 => ?_) (fun c_37 => ?_)
      · skip
        have t_38 : (k_marr u x1.toNatClampNeg).toInt ≤ (k_marr u x2.toNatClampNeg).toInt := i_le c_37 rfl rfl
        refine lv_iconst (v := 0) hx hb dX5_isBefore_51 (by decide) ?_
        refine lv_goto (tgt := 65) hx hb dX5_isBefore_52 (by decide) ?_
        exact W.zret (v := 0) hx hb hr rfl (fun t ht hW => ⟨0, rfl, (by unfold fX5_isBefore; rw [if_pos c_1, if_neg c_31, if_pos c_37]), ht⟩) (fun _ h => nomatch h) dX5_isBefore_65
      · skip
        have t_39 : (k_marr u x2.toNatClampNeg).toInt < (k_marr u x1.toNatClampNeg).toInt := i_nle c_37 rfl rfl
        refine lv_iconst (v := 1) hx hb dX5_isBefore_47 (by decide) ?_
        refine lv_goto (tgt := 65) hx hb dX5_isBefore_48 (by decide) ?_
        exact W.zret (v := 1) hx hb hr rfl (fun t ht hW => ⟨1, rfl, (by unfold fX5_isBefore; rw [if_pos c_1, if_neg c_31, if_neg c_37]), ht⟩) (fun _ h => nomatch h) dX5_isBefore_65
set_option maxHeartbeats 4000000 in
set_option maxRecDepth 100000 in
theorem kX5_isAllowed (l : Launch) (dC : Nat → ClassId) (dI : Nat → Nat → Nat) (g : cG) (h : Nat → Nat) (u : mS) (x1 : Int32) (x2 : Int32) (x3 : Int32) (h1 : 0 ≤ x1.toInt ∧ x1.toInt ≤ 40) (h2 : 0 ≤ x2.toInt ∧ x2.toInt ≤ 7) : Met l yX5_isAllowed wsX5_isAllowed ({ frames := 2, cells := 0, slots := 0, locals := 42 }) (va_Pc [.ref (h 0), .int x1, .int x2, .int x3] (fun U => va_P (dC, dI) vwCl (mw g h u) U.heap ∧ va_K (dC, dI) vwCl (cTys g) U)) (vp_Si (fun r => r = fX5_isAllowed u x1 x2 x3)) 0 0 (fun _ => False) := by
  refine Met.ofW (cc := cX5_isAllowed) (maxL := 4) (ret := (some .boolean)) (by decide) rfl ?_
  intro p e s m args below meth c s₁ B hml hv
  obtain ⟨rfl, hP, hK⟩ := hv
  have hx := B.exec
  have hb := B.bytes
  have hr := B.returns
  have hts := atoms_spec (ws := wsX5_isAllowed) B.pre
  have hown : s.vm.findClass RX5 = some m.cls := findClass_of_methodNamed B.named
  have hlocks := B.notSynchronized
  have hS : va_S (fun _ => False) s.heap s.heap [] := va_S.rf
  have hl := lv_entry ([.ref (h 0), .int x1, .int x2, .int x3]) (n := 4) (Nat.le_of_ble_eq_true rfl)
  rw [lg_entry_eq]
  generalize (lg_sl ([.ref (h 0), .int x1, .int x2, .int x3]) ++ List.replicate (4 - (lg_sl ([.ref (h 0), .int x1, .int x2, .int x3])).length) Slot.unset).toArray = ls at hl ⊢
  have hl : lv_has ls 4 [(0, .ref (h 0)), (1, .int x1), (2, .int x2), (3, .int x3)] := hl
  refine lv_aload_n hx hb dX5_isAllowed_0 rfl (lv_at hl 0 rfl) ?_
  refine lv_iload_n hx hb dX5_isAllowed_1 rfl (lv_at hl 1 rfl) ?_
  refine vp_callSi (W.runV (As := [.int x1]) (rest := []) ⟨hx, hb, hml, hown, hts⟩ (kX5_mayBeTaken l dC dI g h u x1 (by omega)) (cwV 1 hts (gV wd_256 wd_257 wd_258 wd_241 wcX5_mayBeTaken) rfl rfl rfl (by decide +kernel) ⟨(Nat.le_of_ble_eq_true rfl), (Nat.le_of_ble_eq_true rfl)⟩) ⟨fun a U g mk q => by obtain ⟨q0, qP, qK⟩ := q; exact ⟨q0, qP, va_K.moved (u := U) (U := U.calling g mk a) (Vm.Alike.refl U.vm) qK⟩, va_recv hK hP (ci := 4) (q0 := 0) rfl (mw_at0 _ _ _), fun U hU hW => ⟨rfl, by rw [hU]; exact hP, va_K.moved hW.alike hK⟩⟩ rfl rfl hl.1 rfl (lv_room (Nat.le_of_ble_eq_true rfl)) dX5_isAllowed_2 ⟨(Nat.le_of_ble_eq_true rfl), (Nat.le_of_ble_eq_true rfl)⟩) (fun r_1 hw => ?_)
  subst hw
  refine lv_if_eq (tgt := 51) hx hb dX5_isAllowed_5 (by decide) (fun c_2 => ?_) (fun c_2 => ?_)
  · skip
    have t_3 : (fX5_mayBeTaken u x1).toInt = 0 := i_eq c_2 rfl (by decide)
    refine lv_iconst (v := 0) hx hb dX5_isAllowed_51 (by decide) ?_
    exact W.zret (v := 0) hx hb hr rfl (fun t ht hW => ⟨0, rfl, (by unfold fX5_isAllowed; rw [if_pos c_2]), ht⟩) (fun _ h => nomatch h) dX5_isAllowed_52
  · skip
    have t_4 : (fX5_mayBeTaken u x1).toInt ≠ 0 := i_ne c_2 rfl (by decide)
    refine lv_iload_n hx hb dX5_isAllowed_8 rfl (lv_at hl 3 rfl) ?_
    refine lv_aload_n hx hb dX5_isAllowed_9 rfl (lv_at hl 0 rfl) ?_
    refine va_get (D := (dC, dI)) (C := RX5) (T := TX5) (N := 26) (v := .ref (h 4)) hx hb hts (fi_X5 _) hown hK hP 0 (mw_at0 _ _ _) rfl 5 (by decide) (hts _ (List.mem_cons_of_mem _ wd_254)) (fun _ h9 => h9) rfl dX5_isAllowed_10 ?_
    refine lv_iload_n hx hb dX5_isAllowed_13 rfl (lv_at hl 1 rfl) ?_
    refine va_iald (f := k_marr u) hx hb hK hP 4 0 (mw_at4 _ _ _) rfl (vp_in_iff.mpr (by omega)) dX5_isAllowed_14 ?_
    refine lv_icmp_lt (tgt := 51) hx hb dX5_isAllowed_15 (by decide) (fun c_5 => ?_) (fun c_5 => ?_)
    · skip
      have t_6 : x3.toInt < (k_marr u x1.toNatClampNeg).toInt := i_lt c_5 rfl rfl
      refine lv_iconst (v := 0) hx hb dX5_isAllowed_51 (by decide) ?_
      exact W.zret (v := 0) hx hb hr rfl (fun t ht hW => ⟨0, rfl, (by unfold fX5_isAllowed; rw [if_neg c_2, if_pos c_5]), ht⟩) (fun _ h => nomatch h) dX5_isAllowed_52
    · skip
      have t_7 : (k_marr u x1.toNatClampNeg).toInt ≤ x3.toInt := i_nlt c_5 rfl rfl
      refine lv_iload_n hx hb dX5_isAllowed_18 rfl (lv_at hl 3 rfl) ?_
      refine lv_aload_n hx hb dX5_isAllowed_19 rfl (lv_at hl 0 rfl) ?_
      refine va_get (D := (dC, dI)) (C := RX5) (T := TX5) (N := 26) (v := .ref (h 3)) hx hb hts (fi_X5 _) hown hK hP 0 (mw_at0 _ _ _) rfl 4 (by decide) (hts _ (List.mem_cons_of_mem _ wd_255)) (fun _ h9 => h9) rfl dX5_isAllowed_20 ?_
      refine lv_iload_n hx hb dX5_isAllowed_23 rfl (lv_at hl 1 rfl) ?_
      refine va_iald (f := k_muntil u) hx hb hK hP 3 0 (mw_at3 _ _ _) rfl (vp_in_iff.mpr (by omega)) dX5_isAllowed_24 ?_
      refine lv_icmp_gt (tgt := 51) hx hb dX5_isAllowed_25 (by decide) (fun c_8 => ?_) (fun c_8 => ?_)
      · skip
        have t_9 : (k_muntil u x1.toNatClampNeg).toInt < x3.toInt := i_lt c_8 rfl rfl
        refine lv_iconst (v := 0) hx hb dX5_isAllowed_51 (by decide) ?_
        exact W.zret (v := 0) hx hb hr rfl (fun t ht hW => ⟨0, rfl, (by unfold fX5_isAllowed; rw [if_neg c_2, if_neg c_5, if_pos c_8]), ht⟩) (fun _ h => nomatch h) dX5_isAllowed_52
      · skip
        have t_10 : x3.toInt ≤ (k_muntil u x1.toNatClampNeg).toInt := i_nlt c_8 rfl rfl
        refine lv_aload_n hx hb dX5_isAllowed_28 rfl (lv_at hl 0 rfl) ?_
        refine va_get (D := (dC, dI)) (C := RX5) (T := TX5) (N := 26) (v := .ref (h 3)) hx hb hts (fi_X5 _) hown hK hP 0 (mw_at0 _ _ _) rfl 4 (by decide) (hts _ (List.mem_cons_of_mem _ wd_255)) (fun _ h9 => h9) rfl dX5_isAllowed_29 ?_
        refine lv_iload_n hx hb dX5_isAllowed_32 rfl (lv_at hl 1 rfl) ?_
        refine va_iald (f := k_muntil u) hx hb hK hP 3 0 (mw_at3 _ _ _) rfl (vp_in_iff.mpr (by omega)) dX5_isAllowed_33 ?_
        refine lv_iload_n hx hb dX5_isAllowed_34 rfl (lv_at hl 3 rfl) ?_
        refine lv_isub hx hb dX5_isAllowed_35 ?_
        refine lv_iconst (v := 1) hx hb dX5_isAllowed_36 (by decide) ?_
        refine lv_iadd hx hb dX5_isAllowed_37 ?_
        refine lv_aload_n hx hb dX5_isAllowed_38 rfl (lv_at hl 0 rfl) ?_
        refine va_get (D := (dC, dI)) (C := RX5) (T := TX5) (N := 26) (v := .ref (h 11)) hx hb hts (fi_X5 _) hown hK hP 0 (mw_at0 _ _ _) rfl 12 (by decide) (hts _ (List.mem_cons_of_mem _ wd_260)) (fun _ h9 => h9) rfl dX5_isAllowed_39 ?_
        refine lv_iload_n hx hb dX5_isAllowed_42 rfl (lv_at hl 2 rfl) ?_
        refine va_iald (f := k_mwant u) hx hb hK hP 11 0 (mw_at11 _ _ _) rfl (vp_in_iff.mpr (by omega)) dX5_isAllowed_43 ?_
        refine lv_icmp_lt (tgt := 51) hx hb dX5_isAllowed_44 (by decide) (fun c_11 => ?_) (fun c_11 => ?_)
        · skip
          have t_12 : (((k_muntil u x1.toNatClampNeg) - x3) + 1).toInt < (k_mwant u x2.toNatClampNeg).toInt := i_lt c_11 rfl rfl
          refine lv_iconst (v := 0) hx hb dX5_isAllowed_51 (by decide) ?_
          exact W.zret (v := 0) hx hb hr rfl (fun t ht hW => ⟨0, rfl, (by unfold fX5_isAllowed; rw [if_neg c_2, if_neg c_5, if_neg c_8, if_pos c_11]), ht⟩) (fun _ h => nomatch h) dX5_isAllowed_52
        · skip
          have t_13 : (k_mwant u x2.toNatClampNeg).toInt ≤ (((k_muntil u x1.toNatClampNeg) - x3) + 1).toInt := i_nlt c_11 rfl rfl
          refine lv_iconst (v := 1) hx hb dX5_isAllowed_47 (by decide) ?_
          refine lv_goto (tgt := 52) hx hb dX5_isAllowed_48 (by decide) ?_
          exact W.zret (v := 1) hx hb hr rfl (fun t ht hW => ⟨1, rfl, (by unfold fX5_isAllowed; rw [if_neg c_2, if_neg c_5, if_neg c_8, if_neg c_11]), ht⟩) (fun _ h => nomatch h) dX5_isAllowed_52
set_option maxHeartbeats 4000000 in
set_option maxRecDepth 100000 in
theorem kX5_mayMix (l : Launch) (dC : Nat → ClassId) (dI : Nat → Nat → Nat) (g : cG) (h : Nat → Nat) (u : mS) (x1 : Int32) (x2 : Int32) (h1 : 0 ≤ x1.toInt ∧ x1.toInt ≤ 40) (h2 : 0 ≤ x2.toInt ∧ x2.toInt ≤ 40) (hI : mInv u) : Met l yX5_mayMix wsX5_mayMix ({ frames := 0, cells := 0, slots := 0, locals := 0 }) (va_Pc [.ref (h 0), .int x1, .int x2] (fun U => va_P (dC, dI) vwCl (mw g h u) U.heap ∧ va_K (dC, dI) vwCl (cTys g) U)) (vp_Si (fun r => r = fX5_mayMix u x1 x2)) 0 0 (fun _ => False) := by
  refine Met.ofW (cc := cX5_mayMix) (maxL := 4) (ret := (some .boolean)) (by decide) rfl ?_
  intro p e s m args below meth c s₁ B hml hv
  obtain ⟨rfl, hP, hK⟩ := hv
  have hx := B.exec
  have hb := B.bytes
  have hr := B.returns
  have hts := atoms_spec (ws := wsX5_mayMix) B.pre
  have hown : s.vm.findClass RX5 = some m.cls := findClass_of_methodNamed B.named
  have hlocks := B.notSynchronized
  have hS : va_S (fun _ => False) s.heap s.heap [] := va_S.rf
  have hl := lv_entry ([.ref (h 0), .int x1, .int x2]) (n := 4) (Nat.le_of_ble_eq_true rfl)
  rw [lg_entry_eq]
  generalize (lg_sl ([.ref (h 0), .int x1, .int x2]) ++ List.replicate (4 - (lg_sl ([.ref (h 0), .int x1, .int x2])).length) Slot.unset).toArray = ls at hl ⊢
  have hl : lv_has ls 4 [(0, .ref (h 0)), (1, .int x1), (2, .int x2)] := hl
  obtain ⟨hI1, hI2, hI3, hI4, hI5, hI6, hI7⟩ := id hI
  refine lv_aload_n hx hb dX5_mayMix_0 rfl (lv_at hl 0 rfl) ?_
  refine va_get (D := (dC, dI)) (C := RX5) (T := TX5) (N := 26) (v := .ref (h 1)) hx hb hts (fi_X5 _) hown hK hP 0 (mw_at0 _ _ _) rfl 2 (by decide) (hts _ (List.mem_cons_of_mem _ wd_261)) (fun _ h9 => h9) rfl dX5_mayMix_1 ?_
  refine lv_iload_n hx hb dX5_mayMix_4 rfl (lv_at hl 1 rfl) ?_
  refine va_iald (f := k_mgood u) hx hb hK hP 1 0 (mw_at1 _ _ _) rfl (vp_in_iff.mpr (by omega)) dX5_mayMix_5 ?_
  refine lv_aload_n hx hb dX5_mayMix_6 rfl (lv_at hl 0 rfl) ?_
  refine va_get (D := (dC, dI)) (C := RX5) (T := TX5) (N := 26) (v := .ref (h 1)) hx hb hts (fi_X5 _) hown hK hP 0 (mw_at0 _ _ _) rfl 2 (by decide) (hts _ (List.mem_cons_of_mem _ wd_261)) (fun _ h9 => h9) rfl dX5_mayMix_7 ?_
  refine lv_iload_n hx hb dX5_mayMix_10 rfl (lv_at hl 2 rfl) ?_
  refine va_iald (f := k_mgood u) hx hb hK hP 1 0 (mw_at1 _ _ _) rfl (vp_in_iff.mpr (by omega)) dX5_mayMix_11 ?_
  refine lv_icmp_ne (tgt := 30) hx hb dX5_mayMix_12 (by decide) (fun c_1 => ?_) (fun c_1 => ?_)
  · skip
    have t_2 : (k_mgood u x1.toNatClampNeg).toInt ≠ (k_mgood u x2.toNatClampNeg).toInt := i_ne c_1 rfl rfl
    refine lv_iconst (v := 1) hx hb dX5_mayMix_30 (by decide) ?_
    exact W.zret (v := 1) hx hb hr rfl (fun t ht hW => ⟨1, rfl, (by unfold fX5_mayMix; rw [if_neg c_1]), ht⟩) (fun _ h => nomatch h) dX5_mayMix_31
  · skip
    have t_3 : (k_mgood u x1.toNatClampNeg).toInt = (k_mgood u x2.toNatClampNeg).toInt := i_eq c_1 rfl rfl
    refine lv_aload_n hx hb dX5_mayMix_15 rfl (lv_at hl 0 rfl) ?_
    refine va_get (D := (dC, dI)) (C := RX5) (T := TX5) (N := 26) (v := .ref (h 2)) hx hb hts (fi_X5 _) hown hK hP 0 (mw_at0 _ _ _) rfl 3 (by decide) (hts _ (List.mem_cons_of_mem _ wd_253)) (fun _ h9 => h9) rfl dX5_mayMix_16 ?_
    refine lv_iload_n hx hb dX5_mayMix_19 rfl (lv_at hl 1 rfl) ?_
    refine va_iald (f := k_mowner u) hx hb hK hP 2 0 (mw_at2 _ _ _) rfl (vp_in_iff.mpr (by omega)) dX5_mayMix_20 ?_
    refine lv_aload_n hx hb dX5_mayMix_21 rfl (lv_at hl 0 rfl) ?_
    refine va_get (D := (dC, dI)) (C := RX5) (T := TX5) (N := 26) (v := .ref (h 2)) hx hb hts (fi_X5 _) hown hK hP 0 (mw_at0 _ _ _) rfl 3 (by decide) (hts _ (List.mem_cons_of_mem _ wd_253)) (fun _ h9 => h9) rfl dX5_mayMix_22 ?_
    refine lv_iload_n hx hb dX5_mayMix_25 rfl (lv_at hl 2 rfl) ?_
    refine va_iald (f := k_mowner u) hx hb hK hP 2 0 (mw_at2 _ _ _) rfl (vp_in_iff.mpr (by omega)) dX5_mayMix_26 ?_
    refine lv_icmp_eq (tgt := 32) hx hb dX5_mayMix_27 (by decide) (fun c_4 => ?_) (fun c_4 => ?_)
    · skip
      have t_5 : (k_mowner u x1.toNatClampNeg).toInt = (k_mowner u x2.toNatClampNeg).toInt := i_eq c_4 rfl rfl
      refine lv_aload_n hx hb dX5_mayMix_32 rfl (lv_at hl 0 rfl) ?_
      refine va_get (D := (dC, dI)) (C := RX5) (T := TX5) (N := 26) (v := .ref (h 3)) hx hb hts (fi_X5 _) hown hK hP 0 (mw_at0 _ _ _) rfl 4 (by decide) (hts _ (List.mem_cons_of_mem _ wd_255)) (fun _ h9 => h9) rfl dX5_mayMix_33 ?_
      refine lv_iload_n hx hb dX5_mayMix_36 rfl (lv_at hl 1 rfl) ?_
      refine va_iald (f := k_muntil u) hx hb hK hP 3 0 (mw_at3 _ _ _) rfl (vp_in_iff.mpr (by omega)) dX5_mayMix_37 ?_
      refine lv_aload_n hx hb dX5_mayMix_38 rfl (lv_at hl 0 rfl) ?_
      refine va_get (D := (dC, dI)) (C := RX5) (T := TX5) (N := 26) (v := .ref (h 3)) hx hb hts (fi_X5 _) hown hK hP 0 (mw_at0 _ _ _) rfl 4 (by decide) (hts _ (List.mem_cons_of_mem _ wd_255)) (fun _ h9 => h9) rfl dX5_mayMix_39 ?_
      refine lv_iload_n hx hb dX5_mayMix_42 rfl (lv_at hl 2 rfl) ?_
      refine va_iald (f := k_muntil u) hx hb hK hP 3 0 (mw_at3 _ _ _) rfl (vp_in_iff.mpr (by omega)) dX5_mayMix_43 ?_
      refine lv_icmp_le (tgt := 63) hx hb dX5_mayMix_44 (by decide) (fun c_6 => ?_) (fun c_6 => ?_)
      · skip
        have t_7 : (k_muntil u x1.toNatClampNeg).toInt ≤ (k_muntil u x2.toNatClampNeg).toInt := i_le c_6 rfl rfl
        refine lv_aload_n hx hb dX5_mayMix_63 rfl (lv_at hl 0 rfl) ?_
        refine va_get (D := (dC, dI)) (C := RX5) (T := TX5) (N := 26) (v := .ref (h 3)) hx hb hts (fi_X5 _) hown hK hP 0 (mw_at0 _ _ _) rfl 4 (by decide) (hts _ (List.mem_cons_of_mem _ wd_255)) (fun _ h9 => h9) rfl dX5_mayMix_64 ?_
        refine lv_iload_n hx hb dX5_mayMix_67 rfl (lv_at hl 2 rfl) ?_
        refine va_iald (f := k_muntil u) hx hb hK hP 3 0 (mw_at3 _ _ _) rfl (vp_in_iff.mpr (by omega)) dX5_mayMix_68 ?_
        refine lv_aload_n hx hb dX5_mayMix_69 rfl (lv_at hl 0 rfl) ?_
        refine va_get (D := (dC, dI)) (C := RX5) (T := TX5) (N := 26) (v := .ref (h 3)) hx hb hts (fi_X5 _) hown hK hP 0 (mw_at0 _ _ _) rfl 4 (by decide) (hts _ (List.mem_cons_of_mem _ wd_255)) (fun _ h9 => h9) rfl dX5_mayMix_70 ?_
        refine lv_iload_n hx hb dX5_mayMix_73 rfl (lv_at hl 1 rfl) ?_
        refine va_iald (f := k_muntil u) hx hb hK hP 3 0 (mw_at3 _ _ _) rfl (vp_in_iff.mpr (by omega)) dX5_mayMix_74 ?_
        refine lv_isub hx hb dX5_mayMix_75 ?_
        refine lv_istore_n (lv' := [(3, .int ((k_muntil u x2.toNatClampNeg) - (k_muntil u x1.toNatClampNeg))), (0, .ref (h 0)), (1, .int x1), (2, .int x2)]) hx hb dX5_mayMix_76 rfl hl (by decide) rfl (fun ls hl => ?_)
        refine lv_iload_n hx hb dX5_mayMix_77 rfl (lv_at hl 0 rfl) ?_
        refine lv_aload_n hx hb dX5_mayMix_78 rfl (lv_at hl 1 rfl) ?_
        refine va_get (D := (dC, dI)) (C := RX5) (T := TX5) (N := 26) (v := .ref (h 10)) hx hb hts (fi_X5 _) hown hK hP 0 (mw_at0 _ _ _) rfl 11 (by decide) (hts _ (List.mem_cons_of_mem _ wd_262)) (fun _ h9 => h9) rfl dX5_mayMix_79 ?_
        refine lv_aload_n hx hb dX5_mayMix_82 rfl (lv_at hl 1 rfl) ?_
        refine va_get (D := (dC, dI)) (C := RX5) (T := TX5) (N := 26) (v := .ref (h 2)) hx hb hts (fi_X5 _) hown hK hP 0 (mw_at0 _ _ _) rfl 3 (by decide) (hts _ (List.mem_cons_of_mem _ wd_253)) (fun _ h9 => h9) rfl dX5_mayMix_83 ?_
        refine lv_iload_n hx hb dX5_mayMix_86 rfl (lv_at hl 2 rfl) ?_
        refine va_iald (f := k_mowner u) hx hb hK hP 2 0 (mw_at2 _ _ _) rfl (vp_in_iff.mpr (by omega)) dX5_mayMix_87 ?_
        refine va_iald (f := k_mmix u) hx hb hK hP 10 0 (mw_at10 _ _ _) rfl (vp_in_iff.mpr (i_rg (hI4 _) (by decide))) dX5_mayMix_88 ?_
        refine lv_icmp_gt (tgt := 96) hx hb dX5_mayMix_89 (by decide) (fun c_8 => ?_) (fun c_8 => ?_)
        · skip
          have t_9 : (k_mmix u (k_mowner u x1.toNatClampNeg).toNatClampNeg).toInt < ((k_muntil u x2.toNatClampNeg) - (k_muntil u x1.toNatClampNeg)).toInt := i_lt c_8 rfl rfl
          refine lv_iconst (v := 0) hx hb dX5_mayMix_96 (by decide) ?_
          exact W.zret (v := 0) hx hb hr rfl (fun t ht hW => ⟨0, rfl, (by unfold fX5_mayMix; rw [if_pos c_1, if_pos c_4, if_pos c_6, if_pos c_8]), ht⟩) (fun _ h => nomatch h) dX5_mayMix_97
        · skip
          have t_10 : ((k_muntil u x2.toNatClampNeg) - (k_muntil u x1.toNatClampNeg)).toInt ≤ (k_mmix u (k_mowner u x1.toNatClampNeg).toNatClampNeg).toInt := i_nlt c_8 rfl rfl
          refine lv_iconst (v := 1) hx hb dX5_mayMix_92 (by decide) ?_
          refine lv_goto (tgt := 97) hx hb dX5_mayMix_93 (by decide) ?_
          exact W.zret (v := 1) hx hb hr rfl (fun t ht hW => ⟨1, rfl, (by unfold fX5_mayMix; rw [if_pos c_1, if_pos c_4, if_pos c_6, if_neg c_8]), ht⟩) (fun _ h => nomatch h) dX5_mayMix_97
      · skip
        have t_11 : (k_muntil u x2.toNatClampNeg).toInt < (k_muntil u x1.toNatClampNeg).toInt := i_nle c_6 rfl rfl
        refine lv_aload_n hx hb dX5_mayMix_47 rfl (lv_at hl 0 rfl) ?_
        refine va_get (D := (dC, dI)) (C := RX5) (T := TX5) (N := 26) (v := .ref (h 3)) hx hb hts (fi_X5 _) hown hK hP 0 (mw_at0 _ _ _) rfl 4 (by decide) (hts _ (List.mem_cons_of_mem _ wd_255)) (fun _ h9 => h9) rfl dX5_mayMix_48 ?_
        refine lv_iload_n hx hb dX5_mayMix_51 rfl (lv_at hl 1 rfl) ?_
        refine va_iald (f := k_muntil u) hx hb hK hP 3 0 (mw_at3 _ _ _) rfl (vp_in_iff.mpr (by omega)) dX5_mayMix_52 ?_
        refine lv_aload_n hx hb dX5_mayMix_53 rfl (lv_at hl 0 rfl) ?_
        refine va_get (D := (dC, dI)) (C := RX5) (T := TX5) (N := 26) (v := .ref (h 3)) hx hb hts (fi_X5 _) hown hK hP 0 (mw_at0 _ _ _) rfl 4 (by decide) (hts _ (List.mem_cons_of_mem _ wd_255)) (fun _ h9 => h9) rfl dX5_mayMix_54 ?_
        refine lv_iload_n hx hb dX5_mayMix_57 rfl (lv_at hl 2 rfl) ?_
        refine va_iald (f := k_muntil u) hx hb hK hP 3 0 (mw_at3 _ _ _) rfl (vp_in_iff.mpr (by omega)) dX5_mayMix_58 ?_
        refine lv_isub hx hb dX5_mayMix_59 ?_
        refine lv_goto (tgt := 76) hx hb dX5_mayMix_60 (by decide) ?_
        refine lv_istore_n (lv' := [(3, .int ((k_muntil u x1.toNatClampNeg) - (k_muntil u x2.toNatClampNeg))), (0, .ref (h 0)), (1, .int x1), (2, .int x2)]) hx hb dX5_mayMix_76 rfl hl (by decide) rfl (fun ls hl => ?_)
        refine lv_iload_n hx hb dX5_mayMix_77 rfl (lv_at hl 0 rfl) ?_
        refine lv_aload_n hx hb dX5_mayMix_78 rfl (lv_at hl 1 rfl) ?_
        refine va_get (D := (dC, dI)) (C := RX5) (T := TX5) (N := 26) (v := .ref (h 10)) hx hb hts (fi_X5 _) hown hK hP 0 (mw_at0 _ _ _) rfl 11 (by decide) (hts _ (List.mem_cons_of_mem _ wd_262)) (fun _ h9 => h9) rfl dX5_mayMix_79 ?_
        refine lv_aload_n hx hb dX5_mayMix_82 rfl (lv_at hl 1 rfl) ?_
        refine va_get (D := (dC, dI)) (C := RX5) (T := TX5) (N := 26) (v := .ref (h 2)) hx hb hts (fi_X5 _) hown hK hP 0 (mw_at0 _ _ _) rfl 3 (by decide) (hts _ (List.mem_cons_of_mem _ wd_253)) (fun _ h9 => h9) rfl dX5_mayMix_83 ?_
        refine lv_iload_n hx hb dX5_mayMix_86 rfl (lv_at hl 2 rfl) ?_
        refine va_iald (f := k_mowner u) hx hb hK hP 2 0 (mw_at2 _ _ _) rfl (vp_in_iff.mpr (by omega)) dX5_mayMix_87 ?_
        refine va_iald (f := k_mmix u) hx hb hK hP 10 0 (mw_at10 _ _ _) rfl (vp_in_iff.mpr (i_rg (hI4 _) (by decide))) dX5_mayMix_88 ?_
        refine lv_icmp_gt (tgt := 96) hx hb dX5_mayMix_89 (by decide) (fun c_12 => ?_) (fun c_12 => ?_)
        · skip
          have t_13 : (k_mmix u (k_mowner u x1.toNatClampNeg).toNatClampNeg).toInt < ((k_muntil u x1.toNatClampNeg) - (k_muntil u x2.toNatClampNeg)).toInt := i_lt c_12 rfl rfl
          refine lv_iconst (v := 0) hx hb dX5_mayMix_96 (by decide) ?_
          exact W.zret (v := 0) hx hb hr rfl (fun t ht hW => ⟨0, rfl, (by unfold fX5_mayMix; rw [if_pos c_1, if_pos c_4, if_neg c_6, if_pos c_12]), ht⟩) (fun _ h => nomatch h) dX5_mayMix_97
        · skip
          have t_14 : ((k_muntil u x1.toNatClampNeg) - (k_muntil u x2.toNatClampNeg)).toInt ≤ (k_mmix u (k_mowner u x1.toNatClampNeg).toNatClampNeg).toInt := i_nlt c_12 rfl rfl
          refine lv_iconst (v := 1) hx hb dX5_mayMix_92 (by decide) ?_
          refine lv_goto (tgt := 97) hx hb dX5_mayMix_93 (by decide) ?_
          exact W.zret (v := 1) hx hb hr rfl (fun t ht hW => ⟨1, rfl, (by unfold fX5_mayMix; rw [if_pos c_1, if_pos c_4, if_neg c_6, if_neg c_12]), ht⟩) (fun _ h => nomatch h) dX5_mayMix_97
    · skip
      have t_15 : (k_mowner u x1.toNatClampNeg).toInt ≠ (k_mowner u x2.toNatClampNeg).toInt := i_ne c_4 rfl rfl
      refine lv_iconst (v := 1) hx hb dX5_mayMix_30 (by decide) ?_
      exact W.zret (v := 1) hx hb hr rfl (fun t ht hW => ⟨1, rfl, (by unfold fX5_mayMix; rw [if_pos c_1, if_neg c_4]), ht⟩) (fun _ h => nomatch h) dX5_mayMix_31
set_option maxHeartbeats 4000000 in
set_option maxRecDepth 100000 in
theorem kX5_daysOfYear (l : Launch) (dC : Nat → ClassId) (dI : Nat → Nat → Nat) (x0 : Int32) : Met l yX5_daysOfYear wsX5_daysOfYear ({ frames := 0, cells := 0, slots := 0, locals := 0 }) (va_Pc [.int x0] (fun U => True)) (vp_Si (fun r => r = fX5_daysOfYear x0)) 0 0 (fun _ => False) := by
  refine Met.ofW (cc := cX5_daysOfYear) (maxL := 1) (ret := (some .int)) (by decide) rfl ?_
  intro p e s m args below meth c s₁ B hml hv
  obtain ⟨rfl, -⟩ := hv
  have hx := B.exec
  have hb := B.bytes
  have hr := B.returns
  have hts := atoms_spec (ws := wsX5_daysOfYear) B.pre
  have hown : s.vm.findClass RX5 = some m.cls := findClass_of_methodNamed B.named
  have hlocks := B.notSynchronized
  have hS : va_S (fun _ => False) s.heap s.heap [] := va_S.rf
  have hl := lv_entry ([.int x0]) (n := 1) (Nat.le_of_ble_eq_true rfl)
  rw [lg_entry_eq]
  generalize (lg_sl ([.int x0]) ++ List.replicate (1 - (lg_sl ([.int x0])).length) Slot.unset).toArray = ls at hl ⊢
  have hl : lv_has ls 1 [(0, .int x0)] := hl
  refine lv_iload_n hx hb dX5_daysOfYear_0 rfl (lv_at hl 0 rfl) ?_
  refine lv_iconst (v := 4) hx hb dX5_daysOfYear_1 (by decide) ?_
  refine lv_irem hx hb dX5_daysOfYear_2 (by decide) ?_
  refine lv_if_ne (tgt := 12) hx hb dX5_daysOfYear_3 (by decide) (fun c_1 => ?_) (fun c_1 => ?_)
  · skip
    have t_2 : (x0 - x0 / 4 * 4).toInt ≠ 0 := i_ne c_1 rfl (by decide)
    refine lv_sipush (v := 365) hx hb dX5_daysOfYear_12 (by decide) ?_
    exact W.iret (v := 365) hx hb hr (fun t ht hW => ⟨365, rfl, (by unfold fX5_daysOfYear; rw [if_neg c_1]), ht⟩) (fun _ h => nomatch h) dX5_daysOfYear_15
  · skip
    have t_3 : (x0 - x0 / 4 * 4).toInt = 0 := i_eq c_1 rfl (by decide)
    refine lv_sipush (v := 366) hx hb dX5_daysOfYear_6 (by decide) ?_
    refine lv_goto (tgt := 15) hx hb dX5_daysOfYear_9 (by decide) ?_
    exact W.iret (v := 366) hx hb hr (fun t ht hW => ⟨366, rfl, (by unfold fX5_daysOfYear; rw [if_pos c_1]), ht⟩) (fun _ h => nomatch h) dX5_daysOfYear_15
set_option maxHeartbeats 4000000 in
set_option maxRecDepth 100000 in
theorem kX5_daysOfMonth (l : Launch) (dC : Nat → ClassId) (dI : Nat → Nat → Nat) (x0 : Int32) (x1 : Int32) : Met l yX5_daysOfMonth wsX5_daysOfMonth ({ frames := 0, cells := 0, slots := 0, locals := 0 }) (va_Pc [.int x0, .int x1] (fun U => True)) (vp_Si (fun r => r = fX5_daysOfMonth x0 x1)) 0 0 (fun _ => False) := by
  refine Met.ofW (cc := cX5_daysOfMonth) (maxL := 2) (ret := (some .int)) (by decide) rfl ?_
  intro p e s m args below meth c s₁ B hml hv
  obtain ⟨rfl, -⟩ := hv
  have hx := B.exec
  have hb := B.bytes
  have hr := B.returns
  have hts := atoms_spec (ws := wsX5_daysOfMonth) B.pre
  have hown : s.vm.findClass RX5 = some m.cls := findClass_of_methodNamed B.named
  have hlocks := B.notSynchronized
  have hS : va_S (fun _ => False) s.heap s.heap [] := va_S.rf
  have hl := lv_entry ([.int x0, .int x1]) (n := 2) (Nat.le_of_ble_eq_true rfl)
  rw [lg_entry_eq]
  generalize (lg_sl ([.int x0, .int x1]) ++ List.replicate (2 - (lg_sl ([.int x0, .int x1])).length) Slot.unset).toArray = ls at hl ⊢
  have hl : lv_has ls 2 [(0, .int x0), (1, .int x1)] := hl
  refine lv_iload_n hx hb dX5_daysOfMonth_0 rfl (lv_at hl 0 rfl) ?_
  refine lv_iconst (v := 2) hx hb dX5_daysOfMonth_1 (by decide) ?_
  refine lv_icmp_ne (tgt := 19) hx hb dX5_daysOfMonth_2 (by decide) (fun c_1 => ?_) (fun c_1 => ?_)
  · skip
    have t_2 : x0.toInt ≠ 2 := i_ne c_1 rfl (by decide)
    refine lv_iload_n hx hb dX5_daysOfMonth_19 rfl (lv_at hl 0 rfl) ?_
    refine lv_iconst (v := 4) hx hb dX5_daysOfMonth_20 (by decide) ?_
    refine lv_icmp_eq (tgt := 42) hx hb dX5_daysOfMonth_21 (by decide) (fun c_3 => ?_) (fun c_3 => ?_)
    · skip
      have t_4 : x0.toInt = 4 := i_eq c_3 rfl (by decide)
      refine lv_bipush (v := 30) hx hb dX5_daysOfMonth_42 (by decide) ?_
      refine lv_goto (tgt := 49) hx hb dX5_daysOfMonth_44 (by decide) ?_
      exact W.iret (v := 30) hx hb hr (fun t ht hW => ⟨30, rfl, (by unfold fX5_daysOfMonth; rw [if_neg c_1, if_pos c_3]), ht⟩) (fun _ h => nomatch h) dX5_daysOfMonth_49
    · skip
      have t_5 : x0.toInt ≠ 4 := i_ne c_3 rfl (by decide)
      refine lv_iload_n hx hb dX5_daysOfMonth_24 rfl (lv_at hl 0 rfl) ?_
      refine lv_bipush (v := 6) hx hb dX5_daysOfMonth_25 (by decide) ?_
      refine lv_icmp_eq (tgt := 42) hx hb dX5_daysOfMonth_27 (by decide) (fun c_6 => ?_) (fun c_6 => ?_)
      · skip
        have t_7 : x0.toInt = 6 := i_eq c_6 rfl (by decide)
        refine lv_bipush (v := 30) hx hb dX5_daysOfMonth_42 (by decide) ?_
        refine lv_goto (tgt := 49) hx hb dX5_daysOfMonth_44 (by decide) ?_
        exact W.iret (v := 30) hx hb hr (fun t ht hW => ⟨30, rfl, (by unfold fX5_daysOfMonth; rw [if_neg c_1, if_neg c_3, if_pos c_6]), ht⟩) (fun _ h => nomatch h) dX5_daysOfMonth_49
      · skip
        have t_8 : x0.toInt ≠ 6 := i_ne c_6 rfl (by decide)
        refine lv_iload_n hx hb dX5_daysOfMonth_30 rfl (lv_at hl 0 rfl) ?_
        refine lv_bipush (v := 9) hx hb dX5_daysOfMonth_31 (by decide) ?_
        refine lv_icmp_eq (tgt := 42) hx hb dX5_daysOfMonth_33 (by decide) (fun c_9 => ?_) (fun c_9 => ?_)
        · skip
          have t_10 : x0.toInt = 9 := i_eq c_9 rfl (by decide)
          refine lv_bipush (v := 30) hx hb dX5_daysOfMonth_42 (by decide) ?_
          refine lv_goto (tgt := 49) hx hb dX5_daysOfMonth_44 (by decide) ?_
          exact W.iret (v := 30) hx hb hr (fun t ht hW => ⟨30, rfl, (by unfold fX5_daysOfMonth; rw [if_neg c_1, if_neg c_3, if_neg c_6, if_pos c_9]), ht⟩) (fun _ h => nomatch h) dX5_daysOfMonth_49
        · skip
          have t_11 : x0.toInt ≠ 9 := i_ne c_9 rfl (by decide)
          refine lv_iload_n hx hb dX5_daysOfMonth_36 rfl (lv_at hl 0 rfl) ?_
          refine lv_bipush (v := 11) hx hb dX5_daysOfMonth_37 (by decide) ?_
          refine lv_icmp_ne (tgt := 47) hx hb dX5_daysOfMonth_39 (by decide) (fun c_12 => ?_) (fun c_12 => ?_)
          · skip
            have t_13 : x0.toInt ≠ 11 := i_ne c_12 rfl (by decide)
            refine lv_bipush (v := 31) hx hb dX5_daysOfMonth_47 (by decide) ?_
            exact W.iret (v := 31) hx hb hr (fun t ht hW => ⟨31, rfl, (by unfold fX5_daysOfMonth; rw [if_neg c_1, if_neg c_3, if_neg c_6, if_neg c_9, if_neg c_12]), ht⟩) (fun _ h => nomatch h) dX5_daysOfMonth_49
          · skip
            have t_14 : x0.toInt = 11 := i_eq c_12 rfl (by decide)
            refine lv_bipush (v := 30) hx hb dX5_daysOfMonth_42 (by decide) ?_
            refine lv_goto (tgt := 49) hx hb dX5_daysOfMonth_44 (by decide) ?_
            exact W.iret (v := 30) hx hb hr (fun t ht hW => ⟨30, rfl, (by unfold fX5_daysOfMonth; rw [if_neg c_1, if_neg c_3, if_neg c_6, if_neg c_9, if_pos c_12]), ht⟩) (fun _ h => nomatch h) dX5_daysOfMonth_49
  · skip
    have t_15 : x0.toInt = 2 := i_eq c_1 rfl (by decide)
    refine lv_iload_n hx hb dX5_daysOfMonth_5 rfl (lv_at hl 1 rfl) ?_
    refine lv_iconst (v := 4) hx hb dX5_daysOfMonth_6 (by decide) ?_
    refine lv_irem hx hb dX5_daysOfMonth_7 (by decide) ?_
    refine lv_if_ne (tgt := 16) hx hb dX5_daysOfMonth_8 (by decide) (fun c_16 => ?_) (fun c_16 => ?_)
    · skip
      have t_17 : (x1 - x1 / 4 * 4).toInt ≠ 0 := i_ne c_16 rfl (by decide)
      refine lv_bipush (v := 28) hx hb dX5_daysOfMonth_16 (by decide) ?_
      exact W.iret (v := 28) hx hb hr (fun t ht hW => ⟨28, rfl, (by unfold fX5_daysOfMonth; rw [if_pos c_1, if_neg c_16]), ht⟩) (fun _ h => nomatch h) dX5_daysOfMonth_18
    · skip
      have t_18 : (x1 - x1 / 4 * 4).toInt = 0 := i_eq c_16 rfl (by decide)
      refine lv_bipush (v := 29) hx hb dX5_daysOfMonth_11 (by decide) ?_
      refine lv_goto (tgt := 18) hx hb dX5_daysOfMonth_13 (by decide) ?_
      exact W.iret (v := 29) hx hb hr (fun t ht hW => ⟨29, rfl, (by unfold fX5_daysOfMonth; rw [if_pos c_1, if_pos c_16]), ht⟩) (fun _ h => nomatch h) dX5_daysOfMonth_18
set_option maxHeartbeats 4000000 in
set_option maxRecDepth 100000 in
theorem kX5_firstOf (l : Launch) (dC : Nat → ClassId) (dI : Nat → Nat → Nat) (x0 : Int32) (h0 : 0 ≤ x0.toInt ∧ x0.toInt ≤ 100) : Met l yX5_firstOf wsX5_firstOf ({ frames := 1, cells := 0, slots := 0, locals := 20 }) (va_Pc [.int x0] (fun U => True)) (vp_Si (fun r => r = fX5_firstOf x0)) 0 0 (fun _ => False) := by
  refine Met.ofW (cc := cX5_firstOf) (maxL := 3) (ret := (some .int)) (by decide) rfl ?_
  intro p e s m args below meth c s₁ B hml hv
  obtain ⟨rfl, -⟩ := hv
  have hx := B.exec
  have hb := B.bytes
  have hr := B.returns
  have hts := atoms_spec (ws := wsX5_firstOf) B.pre
  have hown : s.vm.findClass RX5 = some m.cls := findClass_of_methodNamed B.named
  have hlocks := B.notSynchronized
  have hS : va_S (fun _ => False) s.heap s.heap [] := va_S.rf
  have hl := lv_entry ([.int x0]) (n := 3) (Nat.le_of_ble_eq_true rfl)
  rw [lg_entry_eq]
  generalize (lg_sl ([.int x0]) ++ List.replicate (3 - (lg_sl ([.int x0])).length) Slot.unset).toArray = ls at hl ⊢
  have hl : lv_has ls 3 [(0, .int x0)] := hl
  have z_0 : (0 : Int32).toInt = 0 := by decide
  refine lv_iconst (v := 0) hx hb dX5_firstOf_0 (by decide) ?_
  refine lv_istore_n (lv' := [(1, .int 0), (0, .int x0)]) hx hb dX5_firstOf_1 rfl hl (by decide) rfl (fun ls hl => ?_)
  refine lv_iconst (v := 0) hx hb dX5_firstOf_2 (by decide) ?_
  refine lv_istore_n (lv' := [(2, .int 0), (1, .int 0), (0, .int x0)]) hx hb dX5_firstOf_3 rfl hl (by decide) rfl (fun ls hl => ?_)
  refine lp_ind (W p l e _ s m _ below meth c _ _ _ _ _) (fun n ls => ∃ (i : Int32) (a : Int32), (x0.toInt - i.toInt < (n : Int)) ∧ (0 ≤ i.toInt ∧ i.toInt ≤ x0.toInt) ∧ fX5_firstOf x0 = lpX5_firstOf x0 n i a ∧ lv_has ls 3 [(2, .int i), (1, .int a), (0, .int x0)]) m 4 (fun ls hI0 => ?_) (fun n ls hI0 ih => ?_) 101 _ ⟨0, 0, (by omega), (by omega), rfl, lv_sub hl [0, 1, 2] rfl⟩
  · skip
    obtain ⟨i, a, hn, hi, he, hl⟩ := hI0
    exact absurd hn (by omega)
  · skip
    obtain ⟨i, a, hn, hi, he, hl⟩ := hI0
    have he_3 := he
    have ih_2 := ih
    refine lv_iload_n hx hb dX5_firstOf_4 rfl (lv_at hl 0 rfl) ?_
    refine lv_iload_n hx hb dX5_firstOf_5 rfl (lv_at hl 2 rfl) ?_
    refine lv_icmp_ge (tgt := 22) hx hb dX5_firstOf_6 (by decide) (fun c_4 => ?_) (fun c_4 => ?_)
    · skip
      have t_5 : x0.toInt ≤ i.toInt := i_le c_4 rfl rfl
      refine lv_iload_n hx hb dX5_firstOf_22 rfl (lv_at hl 1 rfl) ?_
      exact W.iret (v := a) hx hb hr (fun t ht hW => ⟨a, rfl, (by rw [he_3, lpX5_firstOf_eq, if_pos c_4]), ht⟩) (fun _ h => nomatch h) dX5_firstOf_23
    · skip
      have t_6 : i.toInt < x0.toInt := i_nle c_4 rfl rfl
      refine lv_iload_n hx hb dX5_firstOf_9 rfl (lv_at hl 1 rfl) ?_
      refine lv_iload_n hx hb dX5_firstOf_10 rfl (lv_at hl 0 rfl) ?_
      refine vp_callSi (W.runS (As := [.int i]) (rest := [.int a]) ⟨hx, hb, hml, hown, hts⟩ (kX5_daysOfYear l dC dI i) (cwS 1 hts (gS wd_263 wd_264 wd_241 wcX5_daysOfYear) rfl rfl rfl (by decide +kernel) ⟨(Nat.le_of_ble_eq_true rfl), (Nat.le_of_ble_eq_true rfl)⟩) ⟨fun a U g mk q => by obtain ⟨q0, qT⟩ := q; exact ⟨q0, qT⟩, fun U hU hW => ⟨rfl, trivial⟩⟩ rfl rfl hl.1 rfl (lv_room (Nat.le_of_ble_eq_true rfl)) dX5_firstOf_11 ⟨(Nat.le_of_ble_eq_true rfl), (Nat.le_of_ble_eq_true rfl)⟩) (fun r_7 hw => ?_)
      subst hw
      refine lv_iadd hx hb dX5_firstOf_14 ?_
      refine lv_istore_n (lv' := [(1, .int (a + (fX5_daysOfYear i))), (2, .int i), (0, .int x0)]) hx hb dX5_firstOf_15 rfl hl (by decide) rfl (fun ls hl => ?_)
      refine lv_iinc (v := i + 1) (lv' := [(2, .int (i + 1)), (1, .int (a + (fX5_daysOfYear i))), (0, .int x0)]) hx hb dX5_firstOf_16 hl (k := 1) rfl rfl (by decide) rfl (fun ls hl => ?_)
      refine lv_goto (tgt := 4) hx hb dX5_firstOf_19 (by decide) ?_
      have hb1 := i_inc (x := i) (by omega)
      exact ih_2 _ ⟨(i + 1), (a + (fX5_daysOfYear i)), (by omega), (by omega), (by rw [he_3, lpX5_firstOf_eq, if_neg c_4]), lv_sub hl [0, 1, 2] rfl⟩
set_option maxHeartbeats 4000000 in
set_option maxRecDepth 100000 in
theorem kX5_dayOf (l : Launch) (dC : Nat → ClassId) (dI : Nat → Nat → Nat) (x0 : Int32) (x1 : Int32) (x2 : Int32) (h0 : 0 ≤ x0.toInt ∧ x0.toInt ≤ 100) : Met l yX5_dayOf wsX5_dayOf ({ frames := 2, cells := 0, slots := 0, locals := 42 }) (va_Pc [.int x0, .int x1, .int x2] (fun U => True)) (vp_Si (fun r => r = fX5_dayOf x0 x1 x2)) 0 0 (fun _ => False) := by
  refine Met.ofW (cc := cX5_dayOf) (maxL := 5) (ret := (some .int)) (by decide) rfl ?_
  intro p e s m args below meth c s₁ B hml hv
  obtain ⟨rfl, -⟩ := hv
  have hx := B.exec
  have hb := B.bytes
  have hr := B.returns
  have hts := atoms_spec (ws := wsX5_dayOf) B.pre
  have hown : s.vm.findClass RX5 = some m.cls := findClass_of_methodNamed B.named
  have hlocks := B.notSynchronized
  have hS : va_S (fun _ => False) s.heap s.heap [] := va_S.rf
  have hl := lv_entry ([.int x0, .int x1, .int x2]) (n := 5) (Nat.le_of_ble_eq_true rfl)
  rw [lg_entry_eq]
  generalize (lg_sl ([.int x0, .int x1, .int x2]) ++ List.replicate (5 - (lg_sl ([.int x0, .int x1, .int x2])).length) Slot.unset).toArray = ls at hl ⊢
  have hl : lv_has ls 5 [(0, .int x0), (1, .int x1), (2, .int x2)] := hl
  have z_0 : (0 : Int32).toInt = 0 := by decide
  have z_1 : (1 : Int32).toInt = 1 := by decide
  have z_2 : (12 : Int32).toInt = 12 := by decide
  refine lv_iload_n hx hb dX5_dayOf_0 rfl (lv_at hl 1 rfl) ?_
  refine lv_iconst (v := 1) hx hb dX5_dayOf_1 (by decide) ?_
  refine lv_bipush (v := 12) hx hb dX5_dayOf_2 (by decide) ?_
  refine vp_callSi (W.runS (As := [.int x1, .int 1, .int 12]) (rest := []) ⟨hx, hb, hml, hown, hts⟩ (kX5_in l dC dI x1 1 12) (cwS 3 hts (gS wd_239 wd_240 wd_241 wcX5_in) rfl rfl rfl (by decide +kernel) ⟨(Nat.le_of_ble_eq_true rfl), (Nat.le_of_ble_eq_true rfl)⟩) ⟨fun a U g mk q => by obtain ⟨q0, qT⟩ := q; exact ⟨q0, qT⟩, fun U hU hW => ⟨rfl, trivial⟩⟩ rfl rfl hl.1 rfl (lv_room (Nat.le_of_ble_eq_true rfl)) dX5_dayOf_4 ⟨(Nat.le_of_ble_eq_true rfl), (Nat.le_of_ble_eq_true rfl)⟩) (fun r_1 hw => ?_)
  subst hw
  refine lv_if_ne (tgt := 12) hx hb dX5_dayOf_7 (by decide) (fun c_2 => ?_) (fun c_2 => ?_)
  · skip
    have t_3 : (fX5_in x1 1 12).toInt ≠ 0 := i_ne c_2 rfl (by decide)
    have t_4 := in_lo c_2
    have t_5 := in_hi c_2
    refine lv_iload_n hx hb dX5_dayOf_12 rfl (lv_at hl 2 rfl) ?_
    refine lv_iconst (v := 1) hx hb dX5_dayOf_13 (by decide) ?_
    refine lv_iload_n hx hb dX5_dayOf_14 rfl (lv_at hl 1 rfl) ?_
    refine lv_iload_n hx hb dX5_dayOf_15 rfl (lv_at hl 0 rfl) ?_
    refine vp_callSi (W.runS (As := [.int x1, .int x0]) (rest := [.int 1, .int x2]) ⟨hx, hb, hml, hown, hts⟩ (kX5_daysOfMonth l dC dI x1 x0) (cwS 2 hts (gS wd_266 wd_267 wd_241 wcX5_daysOfMonth) rfl rfl rfl (by decide +kernel) ⟨(Nat.le_of_ble_eq_true rfl), (Nat.le_of_ble_eq_true rfl)⟩) ⟨fun a U g mk q => by obtain ⟨q0, qT⟩ := q; exact ⟨q0, qT⟩, fun U hU hW => ⟨rfl, trivial⟩⟩ rfl rfl hl.1 rfl (lv_room (Nat.le_of_ble_eq_true rfl)) dX5_dayOf_16 ⟨(Nat.le_of_ble_eq_true rfl), (Nat.le_of_ble_eq_true rfl)⟩) (fun r_6 hw => ?_)
    subst hw
    refine vp_callSi (W.runS (As := [.int x2, .int 1, .int (fX5_daysOfMonth x1 x0)]) (rest := []) ⟨hx, hb, hml, hown, hts⟩ (kX5_in l dC dI x2 1 (fX5_daysOfMonth x1 x0)) (cwS 3 hts (gS wd_239 wd_240 wd_241 wcX5_in) rfl rfl rfl (by decide +kernel) ⟨(Nat.le_of_ble_eq_true rfl), (Nat.le_of_ble_eq_true rfl)⟩) ⟨fun a U g mk q => by obtain ⟨q0, qT⟩ := q; exact ⟨q0, qT⟩, fun U hU hW => ⟨rfl, trivial⟩⟩ rfl rfl hl.1 rfl (lv_room (Nat.le_of_ble_eq_true rfl)) dX5_dayOf_19 ⟨(Nat.le_of_ble_eq_true rfl), (Nat.le_of_ble_eq_true rfl)⟩) (fun r_7 hw => ?_)
    subst hw
    refine lv_if_ne (tgt := 27) hx hb dX5_dayOf_22 (by decide) (fun c_8 => ?_) (fun c_8 => ?_)
    · skip
      have t_9 : (fX5_in x2 1 (fX5_daysOfMonth x1 x0)).toInt ≠ 0 := i_ne c_8 rfl (by decide)
      have t_10 := in_lo c_8
      have t_11 := in_hi c_8
      refine lv_iload_n hx hb dX5_dayOf_27 rfl (lv_at hl 0 rfl) ?_
      refine vp_callSi (W.runS (As := [.int x0]) (rest := []) ⟨hx, hb, hml, hown, hts⟩ (kX5_firstOf l dC dI x0 (by omega)) (cwS 1 hts (gS wd_269 wd_270 wd_241 wcX5_firstOf) rfl rfl rfl (by decide +kernel) ⟨(Nat.le_of_ble_eq_true rfl), (Nat.le_of_ble_eq_true rfl)⟩) ⟨fun a U g mk q => by obtain ⟨q0, qT⟩ := q; exact ⟨q0, qT⟩, fun U hU hW => ⟨rfl, trivial⟩⟩ rfl rfl hl.1 rfl (lv_room (Nat.le_of_ble_eq_true rfl)) dX5_dayOf_28 ⟨(Nat.le_of_ble_eq_true rfl), (Nat.le_of_ble_eq_true rfl)⟩) (fun r_12 hw => ?_)
      subst hw
      refine lv_iload_n hx hb dX5_dayOf_31 rfl (lv_at hl 2 rfl) ?_
      refine lv_iadd hx hb dX5_dayOf_32 ?_
      refine lv_iconst (v := 1) hx hb dX5_dayOf_33 (by decide) ?_
      refine lv_isub hx hb dX5_dayOf_34 ?_
      refine lv_istore_n (lv' := [(3, .int (((fX5_firstOf x0) + x2) - 1)), (0, .int x0), (1, .int x1), (2, .int x2)]) hx hb dX5_dayOf_35 rfl hl (by decide) rfl (fun ls hl => ?_)
      refine lv_iconst (v := 1) hx hb dX5_dayOf_36 (by decide) ?_
      refine lv_istore (lv' := [(4, .int 1), (3, .int (((fX5_firstOf x0) + x2) - 1)), (0, .int x0), (1, .int x1), (2, .int x2)]) hx hb dX5_dayOf_37 hl (by decide) rfl (fun ls hl => ?_)
      refine lp_ind (W p l e _ s m _ below meth c _ _ _ _ _) (fun n ls => ∃ (i : Int32) (a : Int32), (x1.toInt - i.toInt < (n : Int)) ∧ (1 ≤ i.toInt ∧ i.toInt ≤ x1.toInt ∧ x1.toInt ≤ 12) ∧ fX5_dayOf x0 x1 x2 = lpX5_dayOf x0 x1 x2 n i a ∧ lv_has ls 5 [(4, .int i), (3, .int a), (0, .int x0), (1, .int x1), (2, .int x2)]) m 39 (fun ls hI0 => ?_) (fun n ls hI0 ih => ?_) 12 _ ⟨1, (((fX5_firstOf x0) + x2) - 1), (by omega), (by omega), (by unfold fX5_dayOf; rw [if_neg c_2, if_neg c_8]), lv_sub hl [0, 1, 2, 3, 4] rfl⟩
      · skip
        obtain ⟨i, a, hn, hi, he, hl⟩ := hI0
        exact absurd hn (by omega)
      · skip
        obtain ⟨i, a, hn, hi, he, hl⟩ := hI0
        have he_15 := he
        have ih_14 := ih
        refine lv_iload hx hb dX5_dayOf_39 (lv_at hl 0 rfl) ?_
        refine lv_iload_n hx hb dX5_dayOf_41 rfl (lv_at hl 3 rfl) ?_
        refine lv_icmp_ge (tgt := 60) hx hb dX5_dayOf_42 (by decide) (fun c_16 => ?_) (fun c_16 => ?_)
        · skip
          have t_17 : x1.toInt ≤ i.toInt := i_le c_16 rfl rfl
          refine lv_iload_n hx hb dX5_dayOf_60 rfl (lv_at hl 1 rfl) ?_
          exact W.iret (v := a) hx hb hr (fun t ht hW => ⟨a, rfl, (by rw [he_15, lpX5_dayOf_eq, if_pos c_16]), ht⟩) (fun _ h => nomatch h) dX5_dayOf_61
        · skip
          have t_18 : i.toInt < x1.toInt := i_nle c_16 rfl rfl
          refine lv_iload_n hx hb dX5_dayOf_45 rfl (lv_at hl 1 rfl) ?_
          refine lv_iload hx hb dX5_dayOf_46 (lv_at hl 0 rfl) ?_
          refine lv_iload_n hx hb dX5_dayOf_48 rfl (lv_at hl 2 rfl) ?_
          refine vp_callSi (W.runS (As := [.int i, .int x0]) (rest := [.int a]) ⟨hx, hb, hml, hown, hts⟩ (kX5_daysOfMonth l dC dI i x0) (cwS 2 hts (gS wd_266 wd_267 wd_241 wcX5_daysOfMonth) rfl rfl rfl (by decide +kernel) ⟨(Nat.le_of_ble_eq_true rfl), (Nat.le_of_ble_eq_true rfl)⟩) ⟨fun a U g mk q => by obtain ⟨q0, qT⟩ := q; exact ⟨q0, qT⟩, fun U hU hW => ⟨rfl, trivial⟩⟩ rfl rfl hl.1 rfl (lv_room (Nat.le_of_ble_eq_true rfl)) dX5_dayOf_49 ⟨(Nat.le_of_ble_eq_true rfl), (Nat.le_of_ble_eq_true rfl)⟩) (fun r_19 hw => ?_)
          subst hw
          refine lv_iadd hx hb dX5_dayOf_52 ?_
          refine lv_istore_n (lv' := [(3, .int (a + (fX5_daysOfMonth i x0))), (4, .int i), (0, .int x0), (1, .int x1), (2, .int x2)]) hx hb dX5_dayOf_53 rfl hl (by decide) rfl (fun ls hl => ?_)
          refine lv_iinc (v := i + 1) (lv' := [(4, .int (i + 1)), (3, .int (a + (fX5_daysOfMonth i x0))), (0, .int x0), (1, .int x1), (2, .int x2)]) hx hb dX5_dayOf_54 hl (k := 1) rfl rfl (by decide) rfl (fun ls hl => ?_)
          refine lv_goto (tgt := 39) hx hb dX5_dayOf_57 (by decide) ?_
          have hb1 := i_inc (x := i) (by omega)
          exact ih_14 _ ⟨(i + 1), (a + (fX5_daysOfMonth i x0)), (by omega), (by omega), (by rw [he_15, lpX5_dayOf_eq, if_neg c_16]), lv_sub hl [0, 1, 2, 3, 4] rfl⟩
    · skip
      have t_20 : (fX5_in x2 1 (fX5_daysOfMonth x1 x0)).toInt = 0 := i_eq c_8 rfl (by decide)
      refine lv_iconst (v := (-1)) hx hb dX5_dayOf_25 (by decide) ?_
      exact W.iret (v := (-1)) hx hb hr (fun t ht hW => ⟨(-1), rfl, (by unfold fX5_dayOf; rw [if_neg c_2, if_pos c_8]), ht⟩) (fun _ h => nomatch h) dX5_dayOf_26
  · skip
    have t_21 : (fX5_in x1 1 12).toInt = 0 := i_eq c_2 rfl (by decide)
    refine lv_iconst (v := (-1)) hx hb dX5_dayOf_10 (by decide) ?_
    exact W.iret (v := (-1)) hx hb hr (fun t ht hW => ⟨(-1), rfl, (by unfold fX5_dayOf; rw [if_pos c_2]), ht⟩) (fun _ h => nomatch h) dX5_dayOf_11