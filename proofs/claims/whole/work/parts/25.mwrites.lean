set_option maxHeartbeats 4000000 in
set_option maxRecDepth 100000 in
theorem kX5_row (l : Launch) (dC : Nat → ClassId) (dI : Nat → Nat → Nat) (g : cG) (h : Nat → Nat) (u : mS) (sz : Nat) (x1 : Int32) (x2 : Int32) (x3 : Int32) (hr : 0 ≤ (k_mrows u).toInt ∧ (k_mrows u).toInt < 400) : Met l yX5_row wsX5_row ({ frames := 0, cells := 0, slots := 0, locals := 0 }) (va_Pc [.ref (h 0), .int x1, .int x2, .int x3] (fun U => U.heap.size = sz ∧ va_P (dC, dI) vwCl (mw g h u) U.heap ∧ va_K (dC, dI) vwCl (cTys g) U ∧ va_D (fun _ => True) (mw g h u))) (va_Qv (fun u2 => u2 = fX5_row u x1 x2 x3) (fun (u2 : mS) (t : State) => va_P (dC, dI) vwCl (mw g h u2) t.heap ∧ va_D (va_A (mw g h u) sz) (mw g h u2)) (va_A (mw g h u) sz)) 0 0 (va_A (mw g h u) sz) := by
  refine Met.ofW (cc := cX5_row) (maxL := 4) (ret := none) (by decide) rfl ?_
  intro p e s m args below meth c s₁ B hml hv
  obtain ⟨rfl, hsz, hP, hK, hD0⟩ := hv
  have hx := B.exec
  have hb := B.bytes
  have hr := B.returns
  have hts := atoms_spec (ws := wsX5_row) B.pre
  have hown : s.vm.findClass RX5 = some m.cls := findClass_of_methodNamed B.named
  have hlocks := B.notSynchronized
  subst hsz
  have hD := hD0.self (sz := s.heap.size)
  generalize hAe : va_A (mw g h u) s.heap.size = A at hD ⊢
  have hA : ∀ q : Nat, s.heap.size ≤ q → A q := fun q h => by rw [← hAe]; exact Or.inr h
  have hS : va_S A s.heap s.heap [] := va_S.rf
  have hl := lv_entry ([.ref (h 0), .int x1, .int x2, .int x3]) (n := 4) (Nat.le_of_ble_eq_true rfl)
  rw [lg_entry_eq]
  generalize (lg_sl ([.ref (h 0), .int x1, .int x2, .int x3]) ++ List.replicate (4 - (lg_sl ([.ref (h 0), .int x1, .int x2, .int x3])).length) Slot.unset).toArray = ls at hl ⊢
  have hl : lv_has ls 4 [(0, .ref (h 0)), (1, .int x1), (2, .int x2), (3, .int x3)] := hl
  have hm2 := i_inc (x := k_mrows u) (by omega)
  refine lv_aload_n hx hb dX5_row_0 rfl (lv_at hl 0 rfl) ?_
  refine va_get (D := (dC, dI)) (C := RX5) (T := TX5) (N := 26) (v := .ref (h 18)) hx hb hts (fi_X5 _) hown hK hP 0 (mw_at0 _ _ _) rfl 21 (by decide) (hts _ (List.mem_cons_of_mem _ wd_272)) (fun _ h9 => h9) rfl dX5_row_1 ?_
  refine lv_aload_n hx hb dX5_row_4 rfl (lv_at hl 0 rfl) ?_
  refine va_get (D := (dC, dI)) (C := RX5) (T := TX5) (N := 26) (v := .int (k_mrows u)) hx hb hts (fi_X5 _) hown hK hP 0 (mw_at0 _ _ _) rfl 20 (by decide) (hts _ (List.mem_cons_of_mem _ wd_273)) (fun _ h9 => h9) rfl dX5_row_5 ?_
  refine lv_iload_n hx hb dX5_row_8 rfl (lv_at hl 1 rfl) ?_
  refine va_iast (f := k_mrl u) hx hb hK hP hD hS 18 0 (mw_at18 _ _ _) rfl (vp_in_iff.mpr (by omega)) dX5_row_9 (fun H locs hP hD hS => ?_)
  have hP : va_P (dC, dI) vwCl (mw g h (s_mrl u (upd (k_mrl u) (k_mrows u).toNatClampNeg x1))) H := hP
  have hD : va_D A (mw g h (s_mrl u (upd (k_mrl u) (k_mrows u).toNatClampNeg x1))) := hD
  refine lv_aload_n hx hb dX5_row_10 rfl (lv_at hl 0 rfl) ?_
  refine va_get (D := (dC, dI)) (C := RX5) (T := TX5) (N := 26) (v := .ref (h 19)) hx hb hts (fi_X5 _) hown hK hP 0 (mw_at0 _ _ _) rfl 22 (by decide) (hts _ (List.mem_cons_of_mem _ wd_274)) (fun _ h9 => h9) rfl dX5_row_11 ?_
  refine lv_aload_n hx hb dX5_row_14 rfl (lv_at hl 0 rfl) ?_
  refine va_get (D := (dC, dI)) (C := RX5) (T := TX5) (N := 26) (v := .int (k_mrows u)) hx hb hts (fi_X5 _) hown hK hP 0 (mw_at0 _ _ _) rfl 20 (by decide) (hts _ (List.mem_cons_of_mem _ wd_273)) (fun _ h9 => h9) rfl dX5_row_15 ?_
  refine lv_iload_n hx hb dX5_row_18 rfl (lv_at hl 2 rfl) ?_
  refine va_iast (f := k_mrk u) hx hb hK hP hD hS 19 0 (mw_at19 _ _ _) rfl (vp_in_iff.mpr (by omega)) dX5_row_19 (fun H locs hP hD hS => ?_)
  have hP : va_P (dC, dI) vwCl (mw g h (s_mrk (s_mrl u (upd (k_mrl u) (k_mrows u).toNatClampNeg x1)) (upd (k_mrk u) (k_mrows u).toNatClampNeg x2))) H := hP
  have hD : va_D A (mw g h (s_mrk (s_mrl u (upd (k_mrl u) (k_mrows u).toNatClampNeg x1)) (upd (k_mrk u) (k_mrows u).toNatClampNeg x2))) := hD
  refine lv_aload_n hx hb dX5_row_20 rfl (lv_at hl 0 rfl) ?_
  refine va_get (D := (dC, dI)) (C := RX5) (T := TX5) (N := 26) (v := .ref (h 20)) hx hb hts (fi_X5 _) hown hK hP 0 (mw_at0 _ _ _) rfl 23 (by decide) (hts _ (List.mem_cons_of_mem _ wd_275)) (fun _ h9 => h9) rfl dX5_row_21 ?_
  refine lv_aload_n hx hb dX5_row_24 rfl (lv_at hl 0 rfl) ?_
  refine va_get (D := (dC, dI)) (C := RX5) (T := TX5) (N := 26) (v := .int (k_mrows u)) hx hb hts (fi_X5 _) hown hK hP 0 (mw_at0 _ _ _) rfl 20 (by decide) (hts _ (List.mem_cons_of_mem _ wd_273)) (fun _ h9 => h9) rfl dX5_row_25 ?_
  refine lv_iload_n hx hb dX5_row_28 rfl (lv_at hl 3 rfl) ?_
  refine va_iast (f := k_mrn u) hx hb hK hP hD hS 20 0 (mw_at20 _ _ _) rfl (vp_in_iff.mpr (by omega)) dX5_row_29 (fun H locs hP hD hS => ?_)
  have hP : va_P (dC, dI) vwCl (mw g h (s_mrn (s_mrk (s_mrl u (upd (k_mrl u) (k_mrows u).toNatClampNeg x1)) (upd (k_mrk u) (k_mrows u).toNatClampNeg x2)) (upd (k_mrn u) (k_mrows u).toNatClampNeg x3))) H := hP
  have hD : va_D A (mw g h (s_mrn (s_mrk (s_mrl u (upd (k_mrl u) (k_mrows u).toNatClampNeg x1)) (upd (k_mrk u) (k_mrows u).toNatClampNeg x2)) (upd (k_mrn u) (k_mrows u).toNatClampNeg x3))) := hD
  refine lv_aload_n hx hb dX5_row_30 rfl (lv_at hl 0 rfl) ?_
  refine lv_dup hx hb dX5_row_31 rfl ?_
  refine va_get (D := (dC, dI)) (C := RX5) (T := TX5) (N := 26) (v := .int (k_mrows u)) hx hb hts (fi_X5 _) hown hK hP 0 (mw_at0 _ _ _) rfl 20 (by decide) (hts _ (List.mem_cons_of_mem _ wd_273)) (fun _ h9 => h9) rfl dX5_row_32 ?_
  refine lv_iconst (v := 1) hx hb dX5_row_35 (by decide) ?_
  refine lv_iadd hx hb dX5_row_36 ?_
  refine va_put (D := (dC, dI)) (C := RX5) (T := TX5) (N := 26) (v := .int ((k_mrows u) + 1)) (ty := .int) hx hb hts (fi_X5 _) tyX5 tyX5_ok nmX5 hown hK hP hD hS 0 (mw_at0 _ _ _) rfl 20 (by decide) (hts _ (List.mem_cons_of_mem _ wd_273)) (fun _ h9 => h9) rfl (by decide +kernel) rfl rfl (Nat.le_of_ble_eq_true rfl) dX5_row_37 (fun H locs hP hD hS => ?_)
  have hP : va_P (dC, dI) vwCl (mw g h (s_mrows (s_mrn (s_mrk (s_mrl u (upd (k_mrl u) (k_mrows u).toNatClampNeg x1)) (upd (k_mrk u) (k_mrows u).toNatClampNeg x2)) (upd (k_mrn u) (k_mrows u).toNatClampNeg x3)) ((k_mrows u) + 1))) H := hP
  have hD : va_D A (mw g h (s_mrows (s_mrn (s_mrk (s_mrl u (upd (k_mrl u) (k_mrows u).toNatClampNeg x1)) (upd (k_mrk u) (k_mrows u).toNatClampNeg x2)) (upd (k_mrn u) (k_mrows u).toNatClampNeg x3)) ((k_mrows u) + 1))) := hD
  exact W.vret hx hb hr (fun t ht hW => ⟨⟨(s_mrows (s_mrn (s_mrk (s_mrl u (upd (k_mrl u) (k_mrows u).toNatClampNeg x1)) (upd (k_mrk u) (k_mrows u).toNatClampNeg x2)) (upd (k_mrn u) (k_mrows u).toNatClampNeg x3)) ((k_mrows u) + 1)), rfl, rfl, by rw [ht]; exact hP, hD⟩, hS.F ht⟩) hS.2.2 dX5_row_40
set_option maxHeartbeats 4000000 in
set_option maxRecDepth 100000 in
theorem kX5_make (l : Launch) (dC : Nat → ClassId) (dI : Nat → Nat → Nat) (g : cG) (h : Nat → Nat) (u : mS) (sz : Nat) (x1 : Int32) (x2 : Int32) (x3 : Int32) (x4 : Int32) (x5 : Int32) (hr : 0 ≤ (k_mlots u).toInt ∧ (k_mlots u).toInt < 40) : Met l yX5_make wsX5_make ({ frames := 0, cells := 0, slots := 0, locals := 0 }) (va_Pc [.ref (h 0), .int x1, .int x2, .int x3, .int x4, .int x5] (fun U => U.heap.size = sz ∧ va_P (dC, dI) vwCl (mw g h u) U.heap ∧ va_K (dC, dI) vwCl (cTys g) U ∧ va_D (fun _ => True) (mw g h u))) (va_Qi (fun (r : Int32) u2 => (r, u2) = fX5_make u x1 x2 x3 x4 x5) (fun (u2 : mS) (t : State) => va_P (dC, dI) vwCl (mw g h u2) t.heap ∧ va_D (va_A (mw g h u) sz) (mw g h u2)) (va_A (mw g h u) sz)) 0 0 (va_A (mw g h u) sz) := by
  refine Met.ofW (cc := cX5_make) (maxL := 6) (ret := (some .int)) (by decide) rfl ?_
  intro p e s m args below meth c s₁ B hml hv
  obtain ⟨rfl, hsz, hP, hK, hD0⟩ := hv
  have hx := B.exec
  have hb := B.bytes
  have hr := B.returns
  have hts := atoms_spec (ws := wsX5_make) B.pre
  have hown : s.vm.findClass RX5 = some m.cls := findClass_of_methodNamed B.named
  have hlocks := B.notSynchronized
  subst hsz
  have hD := hD0.self (sz := s.heap.size)
  generalize hAe : va_A (mw g h u) s.heap.size = A at hD ⊢
  have hA : ∀ q : Nat, s.heap.size ≤ q → A q := fun q h => by rw [← hAe]; exact Or.inr h
  have hS : va_S A s.heap s.heap [] := va_S.rf
  have hl := lv_entry ([.ref (h 0), .int x1, .int x2, .int x3, .int x4, .int x5]) (n := 6) (Nat.le_of_ble_eq_true rfl)
  rw [lg_entry_eq]
  generalize (lg_sl ([.ref (h 0), .int x1, .int x2, .int x3, .int x4, .int x5]) ++ List.replicate (6 - (lg_sl ([.ref (h 0), .int x1, .int x2, .int x3, .int x4, .int x5])).length) Slot.unset).toArray = ls at hl ⊢
  have hl : lv_has ls 6 [(0, .ref (h 0)), (1, .int x1), (2, .int x2), (3, .int x3), (4, .int x4), (5, .int x5)] := hl
  have hm1 := i_inc (x := k_mlots u) (by omega)
  refine lv_aload_n hx hb dX5_make_0 rfl (lv_at hl 0 rfl) ?_
  refine lv_dup hx hb dX5_make_1 rfl ?_
  refine va_get (D := (dC, dI)) (C := RX5) (T := TX5) (N := 26) (v := .int (k_mlots u)) hx hb hts (fi_X5 _) hown hK hP 0 (mw_at0 _ _ _) rfl 1 (by decide) (hts _ (List.mem_cons_of_mem _ wd_238)) (fun _ h9 => h9) rfl dX5_make_2 ?_
  refine lv_iconst (v := 1) hx hb dX5_make_5 (by decide) ?_
  refine lv_iadd hx hb dX5_make_6 ?_
  refine va_put (D := (dC, dI)) (C := RX5) (T := TX5) (N := 26) (v := .int ((k_mlots u) + 1)) (ty := .int) hx hb hts (fi_X5 _) tyX5 tyX5_ok nmX5 hown hK hP hD hS 0 (mw_at0 _ _ _) rfl 1 (by decide) (hts _ (List.mem_cons_of_mem _ wd_238)) (fun _ h9 => h9) rfl (by decide +kernel) rfl rfl (Nat.le_of_ble_eq_true rfl) dX5_make_7 (fun H locs hP hD hS => ?_)
  have hP : va_P (dC, dI) vwCl (mw g h (s_mlots u ((k_mlots u) + 1))) H := hP
  have hD : va_D A (mw g h (s_mlots u ((k_mlots u) + 1))) := hD
  refine lv_aload_n hx hb dX5_make_10 rfl (lv_at hl 0 rfl) ?_
  refine va_get (D := (dC, dI)) (C := RX5) (T := TX5) (N := 26) (v := .ref (h 1)) hx hb hts (fi_X5 _) hown hK hP 0 (mw_at0 _ _ _) rfl 2 (by decide) (hts _ (List.mem_cons_of_mem _ wd_261)) (fun _ h9 => h9) rfl dX5_make_11 ?_
  refine lv_aload_n hx hb dX5_make_14 rfl (lv_at hl 0 rfl) ?_
  refine va_get (D := (dC, dI)) (C := RX5) (T := TX5) (N := 26) (v := .int ((k_mlots u) + 1)) hx hb hts (fi_X5 _) hown hK hP 0 (mw_at0 _ _ _) rfl 1 (by decide) (hts _ (List.mem_cons_of_mem _ wd_238)) (fun _ h9 => h9) rfl dX5_make_15 ?_
  refine lv_iload_n hx hb dX5_make_18 rfl (lv_at hl 1 rfl) ?_
  refine va_iast (f := k_mgood u) hx hb hK hP hD hS 1 0 (mw_at1 _ _ _) rfl (vp_in_iff.mpr (by omega)) dX5_make_19 (fun H locs hP hD hS => ?_)
  have hP : va_P (dC, dI) vwCl (mw g h (s_mgood (s_mlots u ((k_mlots u) + 1)) (upd (k_mgood u) ((k_mlots u) + 1).toNatClampNeg x1))) H := hP
  have hD : va_D A (mw g h (s_mgood (s_mlots u ((k_mlots u) + 1)) (upd (k_mgood u) ((k_mlots u) + 1).toNatClampNeg x1))) := hD
  refine lv_aload_n hx hb dX5_make_20 rfl (lv_at hl 0 rfl) ?_
  refine va_get (D := (dC, dI)) (C := RX5) (T := TX5) (N := 26) (v := .ref (h 2)) hx hb hts (fi_X5 _) hown hK hP 0 (mw_at0 _ _ _) rfl 3 (by decide) (hts _ (List.mem_cons_of_mem _ wd_253)) (fun _ h9 => h9) rfl dX5_make_21 ?_
  refine lv_aload_n hx hb dX5_make_24 rfl (lv_at hl 0 rfl) ?_
  refine va_get (D := (dC, dI)) (C := RX5) (T := TX5) (N := 26) (v := .int ((k_mlots u) + 1)) hx hb hts (fi_X5 _) hown hK hP 0 (mw_at0 _ _ _) rfl 1 (by decide) (hts _ (List.mem_cons_of_mem _ wd_238)) (fun _ h9 => h9) rfl dX5_make_25 ?_
  refine lv_iload_n hx hb dX5_make_28 rfl (lv_at hl 2 rfl) ?_
  refine va_iast (f := k_mowner u) hx hb hK hP hD hS 2 0 (mw_at2 _ _ _) rfl (vp_in_iff.mpr (by omega)) dX5_make_29 (fun H locs hP hD hS => ?_)
  have hP : va_P (dC, dI) vwCl (mw g h (s_mowner (s_mgood (s_mlots u ((k_mlots u) + 1)) (upd (k_mgood u) ((k_mlots u) + 1).toNatClampNeg x1)) (upd (k_mowner u) ((k_mlots u) + 1).toNatClampNeg x2))) H := hP
  have hD : va_D A (mw g h (s_mowner (s_mgood (s_mlots u ((k_mlots u) + 1)) (upd (k_mgood u) ((k_mlots u) + 1).toNatClampNeg x1)) (upd (k_mowner u) ((k_mlots u) + 1).toNatClampNeg x2))) := hD
  refine lv_aload_n hx hb dX5_make_30 rfl (lv_at hl 0 rfl) ?_
  refine va_get (D := (dC, dI)) (C := RX5) (T := TX5) (N := 26) (v := .ref (h 3)) hx hb hts (fi_X5 _) hown hK hP 0 (mw_at0 _ _ _) rfl 4 (by decide) (hts _ (List.mem_cons_of_mem _ wd_255)) (fun _ h9 => h9) rfl dX5_make_31 ?_
  refine lv_aload_n hx hb dX5_make_34 rfl (lv_at hl 0 rfl) ?_
  refine va_get (D := (dC, dI)) (C := RX5) (T := TX5) (N := 26) (v := .int ((k_mlots u) + 1)) hx hb hts (fi_X5 _) hown hK hP 0 (mw_at0 _ _ _) rfl 1 (by decide) (hts _ (List.mem_cons_of_mem _ wd_238)) (fun _ h9 => h9) rfl dX5_make_35 ?_
  refine lv_iload_n hx hb dX5_make_38 rfl (lv_at hl 3 rfl) ?_
  refine va_iast (f := k_muntil u) hx hb hK hP hD hS 3 0 (mw_at3 _ _ _) rfl (vp_in_iff.mpr (by omega)) dX5_make_39 (fun H locs hP hD hS => ?_)
  have hP : va_P (dC, dI) vwCl (mw g h (s_muntil (s_mowner (s_mgood (s_mlots u ((k_mlots u) + 1)) (upd (k_mgood u) ((k_mlots u) + 1).toNatClampNeg x1)) (upd (k_mowner u) ((k_mlots u) + 1).toNatClampNeg x2)) (upd (k_muntil u) ((k_mlots u) + 1).toNatClampNeg x3))) H := hP
  have hD : va_D A (mw g h (s_muntil (s_mowner (s_mgood (s_mlots u ((k_mlots u) + 1)) (upd (k_mgood u) ((k_mlots u) + 1).toNatClampNeg x1)) (upd (k_mowner u) ((k_mlots u) + 1).toNatClampNeg x2)) (upd (k_muntil u) ((k_mlots u) + 1).toNatClampNeg x3))) := hD
  refine lv_aload_n hx hb dX5_make_40 rfl (lv_at hl 0 rfl) ?_
  refine va_get (D := (dC, dI)) (C := RX5) (T := TX5) (N := 26) (v := .ref (h 4)) hx hb hts (fi_X5 _) hown hK hP 0 (mw_at0 _ _ _) rfl 5 (by decide) (hts _ (List.mem_cons_of_mem _ wd_254)) (fun _ h9 => h9) rfl dX5_make_41 ?_
  refine lv_aload_n hx hb dX5_make_44 rfl (lv_at hl 0 rfl) ?_
  refine va_get (D := (dC, dI)) (C := RX5) (T := TX5) (N := 26) (v := .int ((k_mlots u) + 1)) hx hb hts (fi_X5 _) hown hK hP 0 (mw_at0 _ _ _) rfl 1 (by decide) (hts _ (List.mem_cons_of_mem _ wd_238)) (fun _ h9 => h9) rfl dX5_make_45 ?_
  refine lv_iload hx hb dX5_make_48 (lv_at hl 4 rfl) ?_
  refine va_iast (f := k_marr u) hx hb hK hP hD hS 4 0 (mw_at4 _ _ _) rfl (vp_in_iff.mpr (by omega)) dX5_make_50 (fun H locs hP hD hS => ?_)
  have hP : va_P (dC, dI) vwCl (mw g h (s_marr (s_muntil (s_mowner (s_mgood (s_mlots u ((k_mlots u) + 1)) (upd (k_mgood u) ((k_mlots u) + 1).toNatClampNeg x1)) (upd (k_mowner u) ((k_mlots u) + 1).toNatClampNeg x2)) (upd (k_muntil u) ((k_mlots u) + 1).toNatClampNeg x3)) (upd (k_marr u) ((k_mlots u) + 1).toNatClampNeg x4))) H := hP
  have hD : va_D A (mw g h (s_marr (s_muntil (s_mowner (s_mgood (s_mlots u ((k_mlots u) + 1)) (upd (k_mgood u) ((k_mlots u) + 1).toNatClampNeg x1)) (upd (k_mowner u) ((k_mlots u) + 1).toNatClampNeg x2)) (upd (k_muntil u) ((k_mlots u) + 1).toNatClampNeg x3)) (upd (k_marr u) ((k_mlots u) + 1).toNatClampNeg x4))) := hD
  refine lv_aload_n hx hb dX5_make_51 rfl (lv_at hl 0 rfl) ?_
  refine va_get (D := (dC, dI)) (C := RX5) (T := TX5) (N := 26) (v := .ref (h 5)) hx hb hts (fi_X5 _) hown hK hP 0 (mw_at0 _ _ _) rfl 6 (by decide) (hts _ (List.mem_cons_of_mem _ wd_276)) (fun _ h9 => h9) rfl dX5_make_52 ?_
  refine lv_aload_n hx hb dX5_make_55 rfl (lv_at hl 0 rfl) ?_
  refine va_get (D := (dC, dI)) (C := RX5) (T := TX5) (N := 26) (v := .int ((k_mlots u) + 1)) hx hb hts (fi_X5 _) hown hK hP 0 (mw_at0 _ _ _) rfl 1 (by decide) (hts _ (List.mem_cons_of_mem _ wd_238)) (fun _ h9 => h9) rfl dX5_make_56 ?_
  refine lv_iload hx hb dX5_make_59 (lv_at hl 5 rfl) ?_
  refine va_iast (f := k_mfrom u) hx hb hK hP hD hS 5 0 (mw_at5 _ _ _) rfl (vp_in_iff.mpr (by omega)) dX5_make_61 (fun H locs hP hD hS => ?_)
  have hP : va_P (dC, dI) vwCl (mw g h (s_mfrom (s_marr (s_muntil (s_mowner (s_mgood (s_mlots u ((k_mlots u) + 1)) (upd (k_mgood u) ((k_mlots u) + 1).toNatClampNeg x1)) (upd (k_mowner u) ((k_mlots u) + 1).toNatClampNeg x2)) (upd (k_muntil u) ((k_mlots u) + 1).toNatClampNeg x3)) (upd (k_marr u) ((k_mlots u) + 1).toNatClampNeg x4)) (upd (k_mfrom u) ((k_mlots u) + 1).toNatClampNeg x5))) H := hP
  have hD : va_D A (mw g h (s_mfrom (s_marr (s_muntil (s_mowner (s_mgood (s_mlots u ((k_mlots u) + 1)) (upd (k_mgood u) ((k_mlots u) + 1).toNatClampNeg x1)) (upd (k_mowner u) ((k_mlots u) + 1).toNatClampNeg x2)) (upd (k_muntil u) ((k_mlots u) + 1).toNatClampNeg x3)) (upd (k_marr u) ((k_mlots u) + 1).toNatClampNeg x4)) (upd (k_mfrom u) ((k_mlots u) + 1).toNatClampNeg x5))) := hD
  refine lv_aload_n hx hb dX5_make_62 rfl (lv_at hl 0 rfl) ?_
  refine va_get (D := (dC, dI)) (C := RX5) (T := TX5) (N := 26) (v := .int ((k_mlots u) + 1)) hx hb hts (fi_X5 _) hown hK hP 0 (mw_at0 _ _ _) rfl 1 (by decide) (hts _ (List.mem_cons_of_mem _ wd_238)) (fun _ h9 => h9) rfl dX5_make_63 ?_
  exact W.iret (v := (k_mlots u) + 1) hx hb hr (fun t ht hW => ⟨⟨((k_mlots u) + 1), (s_mfrom (s_marr (s_muntil (s_mowner (s_mgood (s_mlots u ((k_mlots u) + 1)) (upd (k_mgood u) ((k_mlots u) + 1).toNatClampNeg x1)) (upd (k_mowner u) ((k_mlots u) + 1).toNatClampNeg x2)) (upd (k_muntil u) ((k_mlots u) + 1).toNatClampNeg x3)) (upd (k_marr u) ((k_mlots u) + 1).toNatClampNeg x4)) (upd (k_mfrom u) ((k_mlots u) + 1).toNatClampNeg x5)), rfl, rfl, by rw [ht]; exact hP, hD⟩, hS.F ht⟩) hS.2.2 dX5_make_66
set_option maxHeartbeats 4000000 in
set_option maxRecDepth 100000 in
theorem kX5_findFamily (l : Launch) (dC : Nat → ClassId) (dI : Nat → Nat → Nat) (g : cG) (h : Nat → Nat) (u : mS) (sz : Nat) (x1 : Int32) (hI : mInv u) : Met l yX5_findFamily wsX5_findFamily ({ frames := 0, cells := 0, slots := 0, locals := 0 }) (va_Pc [.ref (h 0), .int x1] (fun U => U.heap.size = sz ∧ va_P (dC, dI) vwCl (mw g h u) U.heap ∧ va_K (dC, dI) vwCl (cTys g) U ∧ va_D (fun _ => True) (mw g h u))) (va_Qv (fun u2 => u2 = fX5_findFamily u x1) (fun (u2 : mS) (t : State) => va_P (dC, dI) vwCl (mw g h u2) t.heap ∧ va_D (va_A (mw g h u) sz) (mw g h u2)) (va_A (mw g h u) sz)) 0 0 (va_A (mw g h u) sz) := by
  refine Met.ofW (cc := cX5_findFamily) (maxL := 4) (ret := none) (by decide) rfl ?_
  intro p e s m args below meth c s₁ B hml hv
  obtain ⟨rfl, hsz, hP, hK, hD0⟩ := hv
  have hx := B.exec
  have hb := B.bytes
  have hr := B.returns
  have hts := atoms_spec (ws := wsX5_findFamily) B.pre
  have hown : s.vm.findClass RX5 = some m.cls := findClass_of_methodNamed B.named
  have hlocks := B.notSynchronized
  subst hsz
  have hD := hD0.self (sz := s.heap.size)
  generalize hAe : va_A (mw g h u) s.heap.size = A at hD ⊢
  have hA : ∀ q : Nat, s.heap.size ≤ q → A q := fun q h => by rw [← hAe]; exact Or.inr h
  have hS : va_S A s.heap s.heap [] := va_S.rf
  have hl := lv_entry ([.ref (h 0), .int x1]) (n := 4) (Nat.le_of_ble_eq_true rfl)
  rw [lg_entry_eq]
  generalize (lg_sl ([.ref (h 0), .int x1]) ++ List.replicate (4 - (lg_sl ([.ref (h 0), .int x1])).length) Slot.unset).toArray = ls at hl ⊢
  have hl : lv_has ls 4 [(0, .ref (h 0)), (1, .int x1)] := hl
  obtain ⟨hI1, hI2, hI3, hI4, hI5, hI6, hI7⟩ := id hI
  have z_0 : (1 : Int32).toInt = 1 := by decide
  have z_1 : (0 : Int32).toInt = 0 := by decide
  refine lv_iconst (v := 1) hx hb dX5_findFamily_0 (by decide) ?_
  refine lv_istore_n (lv' := [(2, .int 1), (0, .ref (h 0)), (1, .int x1)]) hx hb dX5_findFamily_1 rfl hl (by decide) rfl (fun ls hl => ?_)
  refine lp_indH (fun H locs => W p l e _ s m _ below meth c H locs _ _ _) (fun n H locs ls => ∃ (i : Int32) (v : mS), ((k_mlots v).toInt - i.toInt + 1 < (n : Int)) ∧ (1 ≤ i.toInt ∧ i.toInt ≤ 41 ∧ i.toInt ≤ (k_mlots v).toInt + 1) ∧ (mInv v) ∧ fX5_findFamily u x1 = laX5_findFamily x1 n i v ∧ va_P (dC, dI) vwCl (mw g h v) H ∧ va_D A (mw g h v) ∧ va_S A s.heap H locs ∧ lv_has ls 4 [(2, .int i), (0, .ref (h 0)), (1, .int x1)]) m 2 (fun H locs ls hI0 => ?_) (fun n H locs ls hI0 ih => ?_) 41 _ _ _ ⟨1, u, (by omega), (by omega), hI, rfl, hP, hD, hS, lv_sub hl [0, 1, 2] rfl⟩
  · skip
    obtain ⟨i, v, hn, hi, hv, he, hP, hD, hS, hl⟩ := hI0
    exact absurd hn (by omega)
  · skip
    obtain ⟨i, v, hn, hi, hv, he, hP, hD, hS, hl⟩ := hI0
    have he_3 := he
    have ih_2 := ih
    obtain ⟨hI1v, hI2v, hI3v, hI4v, hI5v, hI6v, hI7v⟩ := id hv
    refine lv_iload_n hx hb dX5_findFamily_2 rfl (lv_at hl 0 rfl) ?_
    refine lv_aload_n hx hb dX5_findFamily_3 rfl (lv_at hl 1 rfl) ?_
    refine va_get (D := (dC, dI)) (C := RX5) (T := TX5) (N := 26) (v := .int (k_mlots v)) hx hb hts (fi_X5 _) hown hK hP 0 (mw_at0 _ _ _) rfl 1 (by decide) (hts _ (List.mem_cons_of_mem _ wd_238)) (fun _ h9 => h9) rfl dX5_findFamily_4 ?_
    refine lv_icmp_gt (tgt := 32) hx hb dX5_findFamily_7 (by decide) (fun c_4 => ?_) (fun c_4 => ?_)
    · skip
      have t_5 : (k_mlots v).toInt < i.toInt := i_lt c_4 rfl rfl
      refine lv_iconst (v := 1) hx hb dX5_findFamily_32 (by decide) ?_
      refine lv_istore_n (lv' := [(2, .int 1), (0, .ref (h 0)), (1, .int x1)]) hx hb dX5_findFamily_33 rfl hl (by decide) rfl (fun ls hl => ?_)
      refine lp_indH (fun H locs => W p l e _ s m _ below meth c H locs _ _ _) (fun n1 H locs ls => ∃ (mo : Int32) (v : mS), ((mo = 0 → 1 ≤ n1) ∧ (¬ mo = 0 → mcnt v + 2 ≤ n1)) ∧ (mInv v) ∧ fX5_findFamily u x1 = lbX5_findFamily n1 mo v ∧ va_P (dC, dI) vwCl (mw g h v) H ∧ va_D A (mw g h v) ∧ va_S A s.heap H locs ∧ lv_has ls 4 [(2, .int mo), (0, .ref (h 0)), (1, .int x1)]) m 34 (fun H locs ls hI0 => ?_) (fun n1 H locs ls hI0 ih => ?_) 43 _ _ _ ⟨1, v, ⟨fun h9 => absurd h9 (by decide), fun _ => by have := mcnt_le v; omega⟩, hv, (by rw [he_3, laX5_findFamily_eq, if_pos c_4]), hP, hD, hS, lv_sub hl [0, 1, 2] rfl⟩
      · skip
        obtain ⟨mo, v, hn, hv, he, hP, hD, hS, hl⟩ := hI0
        rcases (Decidable.em (mo = 0)) with q | q
        · exact absurd (hn.1 q) (by omega)
        · exact absurd (hn.2 q) (by omega)
      · skip
        obtain ⟨mo, v, hn, hv, he, hP, hD, hS, hl⟩ := hI0
        have he_8 := he
        have ih_7 := ih
        obtain ⟨hI1v, hI2v, hI3v, hI4v, hI5v, hI6v, hI7v⟩ := id hv
        refine lv_iload_n hx hb dX5_findFamily_34 rfl (lv_at hl 0 rfl) ?_
        refine lv_if_eq (tgt := 126) hx hb dX5_findFamily_35 (by decide) (fun c_9 => ?_) (fun c_9 => ?_)
        · skip
          have t_10 : mo.toInt = 0 := i_eq c_9 rfl (by decide)
          exact W.vret hx hb hr (fun t ht hW => ⟨⟨v, rfl, (by rw [he_8, lbX5_findFamily_eq, if_pos c_9]), by rw [ht]; exact hP, hD⟩, hS.F ht⟩) hS.2.2 dX5_findFamily_126
        · skip
          have t_11 : mo.toInt ≠ 0 := i_ne c_9 rfl (by decide)
          refine lv_iconst (v := 0) hx hb dX5_findFamily_38 (by decide) ?_
          refine lv_istore_n (lv' := [(2, .int 0), (0, .ref (h 0)), (1, .int x1)]) hx hb dX5_findFamily_39 rfl hl (by decide) rfl (fun ls hl => ?_)
          refine lv_iconst (v := 1) hx hb dX5_findFamily_40 (by decide) ?_
          refine lv_istore_n (lv' := [(3, .int 1), (2, .int 0), (0, .ref (h 0)), (1, .int x1)]) hx hb dX5_findFamily_41 rfl hl (by decide) rfl (fun ls hl => ?_)
          refine lp_indH (fun H locs => W p l e _ s m _ below meth c H locs _ _ _) (fun n2 H locs ls => ∃ (k : Int32) (mo : Int32) (v : mS), ((k_mlots v).toInt - k.toInt + 1 < (n2 : Int)) ∧ (1 ≤ k.toInt ∧ k.toInt ≤ 41 ∧ k.toInt ≤ (k_mlots v).toInt + 1) ∧ ((mo = 0 → 1 ≤ n1) ∧ (¬ mo = 0 → mcnt v + 2 ≤ n1)) ∧ (mcnt v + 1 ≤ n1) ∧ (mInv v) ∧ fX5_findFamily u x1 = lbX5_findFamily n1 (lcX5_findFamily n2 k mo v).1 (lcX5_findFamily n2 k mo v).2 ∧ va_P (dC, dI) vwCl (mw g h v) H ∧ va_D A (mw g h v) ∧ va_S A s.heap H locs ∧ lv_has ls 4 [(3, .int k), (2, .int mo), (0, .ref (h 0)), (1, .int x1)]) m 42 (fun H locs ls hI0 => ?_) (fun n2 H locs ls hI0 ih => ?_) 41 _ _ _ ⟨1, 0, v, (by omega), (by omega), ⟨fun _ => by have := hn.2 (by assumption); omega, fun h9 => absurd rfl h9⟩, (by have := hn.2 (by assumption); omega), hv, (by rw [he_8, lbX5_findFamily_eq, if_neg c_9]), hP, hD, hS, lv_sub hl [0, 1, 2, 3] rfl⟩
          · skip
            obtain ⟨k, mo, v, hn2, hk, hc, hd, hv, he, hP, hD, hS, hl⟩ := hI0
            exact absurd hn2 (by omega)
          · skip
            obtain ⟨k, mo, v, hn2, hk, hc, hd, hv, he, hP, hD, hS, hl⟩ := hI0
            have he_14 := he
            have ih_13 := ih
            obtain ⟨hI1v, hI2v, hI3v, hI4v, hI5v, hI6v, hI7v⟩ := id hv
            refine lv_iload_n hx hb dX5_findFamily_42 rfl (lv_at hl 0 rfl) ?_
            refine lv_aload_n hx hb dX5_findFamily_43 rfl (lv_at hl 2 rfl) ?_
            refine va_get (D := (dC, dI)) (C := RX5) (T := TX5) (N := 26) (v := .int (k_mlots v)) hx hb hts (fi_X5 _) hown hK hP 0 (mw_at0 _ _ _) rfl 1 (by decide) (hts _ (List.mem_cons_of_mem _ wd_238)) (fun _ h9 => h9) rfl dX5_findFamily_44 ?_
            refine lv_icmp_gt (tgt := 123) hx hb dX5_findFamily_47 (by decide) (fun c_15 => ?_) (fun c_15 => ?_)
            · skip
              have t_16 : (k_mlots v).toInt < k.toInt := i_lt c_15 rfl rfl
              have he_17 : fX5_findFamily u x1 = lbX5_findFamily n1 mo v := (by rw [he_14, lcX5_findFamily_eq, if_pos c_15])
              refine lv_goto (tgt := 34) hx hb dX5_findFamily_123 (by decide) ?_
              exact ih_7 _ _ _ ⟨mo, v, ⟨fun h9 => hc.1 h9, fun h9 => hc.2 h9⟩, hv, (by rw [he_17]), hP, hD, hS, lv_sub hl [1, 2, 3] rfl⟩
            · skip
              have t_18 : k.toInt ≤ (k_mlots v).toInt := i_nlt c_15 rfl rfl
              refine lv_aload_n hx hb dX5_findFamily_50 rfl (lv_at hl 2 rfl) ?_
              refine va_get (D := (dC, dI)) (C := RX5) (T := TX5) (N := 26) (v := .ref (h 22)) hx hb hts (fi_X5 _) hown hK hP 0 (mw_at0 _ _ _) rfl 25 (by decide) (hts _ (List.mem_cons_of_mem _ wd_277)) (fun _ h9 => h9) rfl dX5_findFamily_51 ?_
              refine lv_iload_n hx hb dX5_findFamily_54 rfl (lv_at hl 0 rfl) ?_
              refine va_zald (f := k_mfam v) hx hb hK hP 22 1 (mw_at22 _ _ _) rfl (vp_in_iff.mpr (by omega)) dX5_findFamily_55 ?_
              refine lv_if_ne (tgt := 117) hx hb dX5_findFamily_56 (by decide) (fun c_19 => ?_) (fun c_19 => ?_)
              · skip
                have t_20 : (k_mfam v k.toNatClampNeg).toInt ≠ 0 := i_ne c_19 rfl (by decide)
                refine lv_iinc (v := k + 1) (lv' := [(3, .int (k + 1)), (2, .int mo), (0, .ref (h 0)), (1, .int x1)]) hx hb dX5_findFamily_117 hl (k := 0) rfl rfl (by decide) rfl (fun ls hl => ?_)
                refine lv_goto (tgt := 42) hx hb dX5_findFamily_120 (by decide) ?_
                have hb1 := i_inc (x := k) (by omega)
                exact ih_13 _ _ _ ⟨(k + 1), mo, v, (by have e9 : k_mlots v = k_mlots v := rfl; rw [e9]; omega), (by have e9 : k_mlots v = k_mlots v := rfl; rw [e9]; omega), hc, hd, hv, (by rw [he_14, lcX5_findFamily_eq, if_neg c_15, if_neg c_19]), hP, hD, hS, lv_sub hl [0, 1, 2, 3] rfl⟩
              · skip
                have t_21 : (k_mfam v k.toNatClampNeg).toInt = 0 := i_eq c_19 rfl (by decide)
                refine lv_aload_n hx hb dX5_findFamily_59 rfl (lv_at hl 2 rfl) ?_
                refine va_get (D := (dC, dI)) (C := RX5) (T := TX5) (N := 26) (v := .ref (h 5)) hx hb hts (fi_X5 _) hown hK hP 0 (mw_at0 _ _ _) rfl 6 (by decide) (hts _ (List.mem_cons_of_mem _ wd_276)) (fun _ h9 => h9) rfl dX5_findFamily_60 ?_
                refine lv_iload_n hx hb dX5_findFamily_63 rfl (lv_at hl 0 rfl) ?_
                refine va_iald (f := k_mfrom v) hx hb hK hP 5 0 (mw_at5 _ _ _) rfl (vp_in_iff.mpr (by omega)) dX5_findFamily_64 ?_
                refine lv_if_le (tgt := 82) hx hb dX5_findFamily_65 (by decide) (fun c_22 => ?_) (fun c_22 => ?_)
                · skip
                  have t_23 : (k_mfrom v k.toNatClampNeg).toInt ≤ 0 := i_le c_22 rfl (by decide)
                  refine lv_aload_n hx hb dX5_findFamily_82 rfl (lv_at hl 2 rfl) ?_
                  refine va_get (D := (dC, dI)) (C := RX5) (T := TX5) (N := 26) (v := .ref (h 6)) hx hb hts (fi_X5 _) hown hK hP 0 (mw_at0 _ _ _) rfl 7 (by decide) (hts _ (List.mem_cons_of_mem _ wd_244)) (fun _ h9 => h9) rfl dX5_findFamily_83 ?_
                  refine lv_iload_n hx hb dX5_findFamily_86 rfl (lv_at hl 0 rfl) ?_
                  refine va_iald (f := k_minto v) hx hb hK hP 6 0 (mw_at6 _ _ _) rfl (vp_in_iff.mpr (by omega)) dX5_findFamily_87 ?_
                  refine lv_if_le (tgt := 117) hx hb dX5_findFamily_88 (by decide) (fun c_24 => ?_) (fun c_24 => ?_)
                  · skip
                    have t_25 : (k_minto v k.toNatClampNeg).toInt ≤ 0 := i_le c_24 rfl (by decide)
                    refine lv_iinc (v := k + 1) (lv' := [(3, .int (k + 1)), (2, .int mo), (0, .ref (h 0)), (1, .int x1)]) hx hb dX5_findFamily_117 hl (k := 0) rfl rfl (by decide) rfl (fun ls hl => ?_)
                    refine lv_goto (tgt := 42) hx hb dX5_findFamily_120 (by decide) ?_
                    have hb1 := i_inc (x := k) (by omega)
                    exact ih_13 _ _ _ ⟨(k + 1), mo, v, (by have e9 : k_mlots v = k_mlots v := rfl; rw [e9]; omega), (by have e9 : k_mlots v = k_mlots v := rfl; rw [e9]; omega), hc, hd, hv, (by rw [he_14, lcX5_findFamily_eq, if_neg c_15, if_pos c_19, if_pos c_22, if_pos c_24]), hP, hD, hS, lv_sub hl [0, 1, 2, 3] rfl⟩
                  · skip
                    have t_26 : 0 < (k_minto v k.toNatClampNeg).toInt := i_nle c_24 rfl (by decide)
                    refine lv_aload_n hx hb dX5_findFamily_91 rfl (lv_at hl 2 rfl) ?_
                    refine va_get (D := (dC, dI)) (C := RX5) (T := TX5) (N := 26) (v := .ref (h 22)) hx hb hts (fi_X5 _) hown hK hP 0 (mw_at0 _ _ _) rfl 25 (by decide) (hts _ (List.mem_cons_of_mem _ wd_277)) (fun _ h9 => h9) rfl dX5_findFamily_92 ?_
                    refine lv_aload_n hx hb dX5_findFamily_95 rfl (lv_at hl 2 rfl) ?_
                    refine va_get (D := (dC, dI)) (C := RX5) (T := TX5) (N := 26) (v := .ref (h 6)) hx hb hts (fi_X5 _) hown hK hP 0 (mw_at0 _ _ _) rfl 7 (by decide) (hts _ (List.mem_cons_of_mem _ wd_244)) (fun _ h9 => h9) rfl dX5_findFamily_96 ?_
                    refine lv_iload_n hx hb dX5_findFamily_99 rfl (lv_at hl 0 rfl) ?_
                    refine va_iald (f := k_minto v) hx hb hK hP 6 0 (mw_at6 _ _ _) rfl (vp_in_iff.mpr (by omega)) dX5_findFamily_100 ?_
                    refine va_zald (f := k_mfam v) hx hb hK hP 22 1 (mw_at22 _ _ _) rfl (vp_in_iff.mpr (i_rgl (hI7v _) (by decide))) dX5_findFamily_101 ?_
                    refine lv_if_ne (tgt := 108) hx hb dX5_findFamily_102 (by decide) (fun c_27 => ?_) (fun c_27 => ?_)
                    · skip
                      have t_28 : (k_mfam v (k_minto v k.toNatClampNeg).toNatClampNeg).toInt ≠ 0 := i_ne c_27 rfl (by decide)
                      refine lv_aload_n hx hb dX5_findFamily_108 rfl (lv_at hl 2 rfl) ?_
                      refine va_get (D := (dC, dI)) (C := RX5) (T := TX5) (N := 26) (v := .ref (h 22)) hx hb hts (fi_X5 _) hown hK hP 0 (mw_at0 _ _ _) rfl 25 (by decide) (hts _ (List.mem_cons_of_mem _ wd_277)) (fun _ h9 => h9) rfl dX5_findFamily_109 ?_
                      refine lv_iload_n hx hb dX5_findFamily_112 rfl (lv_at hl 0 rfl) ?_
                      refine lv_iconst (v := 1) hx hb dX5_findFamily_113 (by decide) ?_
                      refine va_zast (f := k_mfam v) hx hb hK hP hD hS 22 1 (mw_at22 _ _ _) rfl (vp_in_iff.mpr (by omega)) dX5_findFamily_114 (fun H locs hP hD hS => ?_)
                      have hP : va_P (dC, dI) vwCl (mw g h (s_mfam v (upd (k_mfam v) k.toNatClampNeg (vp_nar .boolean 1)))) H := hP
                      have hD : va_D A (mw g h (s_mfam v (upd (k_mfam v) k.toNatClampNeg (vp_nar .boolean 1)))) := hD
                      refine lv_iconst (v := 1) hx hb dX5_findFamily_115 (by decide) ?_
                      refine lv_istore_n (lv' := [(2, .int 1), (3, .int k), (0, .ref (h 0)), (1, .int x1)]) hx hb dX5_findFamily_116 rfl hl (by decide) rfl (fun ls hl => ?_)
                      refine lv_iinc (v := k + 1) (lv' := [(3, .int (k + 1)), (2, .int 1), (0, .ref (h 0)), (1, .int x1)]) hx hb dX5_findFamily_117 hl (k := 1) rfl rfl (by decide) rfl (fun ls hl => ?_)
                      refine lv_goto (tgt := 42) hx hb dX5_findFamily_120 (by decide) ?_
                      have hb1 := i_inc (x := k) (by omega)
                      exact ih_13 _ _ _ ⟨(k + 1), 1, (s_mfam v (upd (k_mfam v) k.toNatClampNeg (vp_nar .boolean 1))), (by have e9 : k_mlots (s_mfam v (upd (k_mfam v) k.toNatClampNeg (vp_nar .boolean 1))) = k_mlots v := rfl; rw [e9]; omega), (by have e9 : k_mlots (s_mfam v (upd (k_mfam v) k.toNatClampNeg (vp_nar .boolean 1))) = k_mlots v := rfl; rw [e9]; omega), ⟨fun h9 => absurd h9 (by decide), fun _ => by have h8 := mcnt_set (x := k) hv (by assumption) (by omega) (by omega); omega⟩, (by have h8 := mcnt_set (x := k) hv (by assumption) (by omega) (by omega); omega), hv, (by rw [he_14, lcX5_findFamily_eq, if_neg c_15, if_pos c_19, if_pos c_22, if_neg c_24, if_neg c_27]), hP, hD, hS, lv_sub hl [0, 1, 2, 3] rfl⟩
                    · skip
                      have t_29 : (k_mfam v (k_minto v k.toNatClampNeg).toNatClampNeg).toInt = 0 := i_eq c_27 rfl (by decide)
                      refine lv_goto (tgt := 117) hx hb dX5_findFamily_105 (by decide) ?_
                      refine lv_iinc (v := k + 1) (lv' := [(3, .int (k + 1)), (2, .int mo), (0, .ref (h 0)), (1, .int x1)]) hx hb dX5_findFamily_117 hl (k := 0) rfl rfl (by decide) rfl (fun ls hl => ?_)
                      refine lv_goto (tgt := 42) hx hb dX5_findFamily_120 (by decide) ?_
                      have hb1 := i_inc (x := k) (by omega)
                      exact ih_13 _ _ _ ⟨(k + 1), mo, v, (by have e9 : k_mlots v = k_mlots v := rfl; rw [e9]; omega), (by have e9 : k_mlots v = k_mlots v := rfl; rw [e9]; omega), hc, hd, hv, (by rw [he_14, lcX5_findFamily_eq, if_neg c_15, if_pos c_19, if_pos c_22, if_neg c_24, if_pos c_27]), hP, hD, hS, lv_sub hl [0, 1, 2, 3] rfl⟩
                · skip
                  have t_30 : 0 < (k_mfrom v k.toNatClampNeg).toInt := i_nle c_22 rfl (by decide)
                  refine lv_aload_n hx hb dX5_findFamily_68 rfl (lv_at hl 2 rfl) ?_
                  refine va_get (D := (dC, dI)) (C := RX5) (T := TX5) (N := 26) (v := .ref (h 22)) hx hb hts (fi_X5 _) hown hK hP 0 (mw_at0 _ _ _) rfl 25 (by decide) (hts _ (List.mem_cons_of_mem _ wd_277)) (fun _ h9 => h9) rfl dX5_findFamily_69 ?_
                  refine lv_aload_n hx hb dX5_findFamily_72 rfl (lv_at hl 2 rfl) ?_
                  refine va_get (D := (dC, dI)) (C := RX5) (T := TX5) (N := 26) (v := .ref (h 5)) hx hb hts (fi_X5 _) hown hK hP 0 (mw_at0 _ _ _) rfl 6 (by decide) (hts _ (List.mem_cons_of_mem _ wd_276)) (fun _ h9 => h9) rfl dX5_findFamily_73 ?_
                  refine lv_iload_n hx hb dX5_findFamily_76 rfl (lv_at hl 0 rfl) ?_
                  refine va_iald (f := k_mfrom v) hx hb hK hP 5 0 (mw_at5 _ _ _) rfl (vp_in_iff.mpr (by omega)) dX5_findFamily_77 ?_
                  refine va_zald (f := k_mfam v) hx hb hK hP 22 1 (mw_at22 _ _ _) rfl (vp_in_iff.mpr (i_rgl (hI6v _) (by decide))) dX5_findFamily_78 ?_
                  refine lv_if_ne (tgt := 108) hx hb dX5_findFamily_79 (by decide) (fun c_31 => ?_) (fun c_31 => ?_)
                  · skip
                    have t_32 : (k_mfam v (k_mfrom v k.toNatClampNeg).toNatClampNeg).toInt ≠ 0 := i_ne c_31 rfl (by decide)
                    refine lv_aload_n hx hb dX5_findFamily_108 rfl (lv_at hl 2 rfl) ?_
                    refine va_get (D := (dC, dI)) (C := RX5) (T := TX5) (N := 26) (v := .ref (h 22)) hx hb hts (fi_X5 _) hown hK hP 0 (mw_at0 _ _ _) rfl 25 (by decide) (hts _ (List.mem_cons_of_mem _ wd_277)) (fun _ h9 => h9) rfl dX5_findFamily_109 ?_
                    refine lv_iload_n hx hb dX5_findFamily_112 rfl (lv_at hl 0 rfl) ?_
                    refine lv_iconst (v := 1) hx hb dX5_findFamily_113 (by decide) ?_
                    refine va_zast (f := k_mfam v) hx hb hK hP hD hS 22 1 (mw_at22 _ _ _) rfl (vp_in_iff.mpr (by omega)) dX5_findFamily_114 (fun H locs hP hD hS => ?_)
                    have hP : va_P (dC, dI) vwCl (mw g h (s_mfam v (upd (k_mfam v) k.toNatClampNeg (vp_nar .boolean 1)))) H := hP
                    have hD : va_D A (mw g h (s_mfam v (upd (k_mfam v) k.toNatClampNeg (vp_nar .boolean 1)))) := hD
                    refine lv_iconst (v := 1) hx hb dX5_findFamily_115 (by decide) ?_
                    refine lv_istore_n (lv' := [(2, .int 1), (3, .int k), (0, .ref (h 0)), (1, .int x1)]) hx hb dX5_findFamily_116 rfl hl (by decide) rfl (fun ls hl => ?_)
                    refine lv_iinc (v := k + 1) (lv' := [(3, .int (k + 1)), (2, .int 1), (0, .ref (h 0)), (1, .int x1)]) hx hb dX5_findFamily_117 hl (k := 1) rfl rfl (by decide) rfl (fun ls hl => ?_)
                    refine lv_goto (tgt := 42) hx hb dX5_findFamily_120 (by decide) ?_
                    have hb1 := i_inc (x := k) (by omega)
                    exact ih_13 _ _ _ ⟨(k + 1), 1, (s_mfam v (upd (k_mfam v) k.toNatClampNeg (vp_nar .boolean 1))), (by have e9 : k_mlots (s_mfam v (upd (k_mfam v) k.toNatClampNeg (vp_nar .boolean 1))) = k_mlots v := rfl; rw [e9]; omega), (by have e9 : k_mlots (s_mfam v (upd (k_mfam v) k.toNatClampNeg (vp_nar .boolean 1))) = k_mlots v := rfl; rw [e9]; omega), ⟨fun h9 => absurd h9 (by decide), fun _ => by have h8 := mcnt_set (x := k) hv (by assumption) (by omega) (by omega); omega⟩, (by have h8 := mcnt_set (x := k) hv (by assumption) (by omega) (by omega); omega), hv, (by rw [he_14, lcX5_findFamily_eq, if_neg c_15, if_pos c_19, if_neg c_22, if_neg c_31]), hP, hD, hS, lv_sub hl [0, 1, 2, 3] rfl⟩
                  · skip
                    have t_33 : (k_mfam v (k_mfrom v k.toNatClampNeg).toNatClampNeg).toInt = 0 := i_eq c_31 rfl (by decide)
                    refine lv_aload_n hx hb dX5_findFamily_82 rfl (lv_at hl 2 rfl) ?_
                    refine va_get (D := (dC, dI)) (C := RX5) (T := TX5) (N := 26) (v := .ref (h 6)) hx hb hts (fi_X5 _) hown hK hP 0 (mw_at0 _ _ _) rfl 7 (by decide) (hts _ (List.mem_cons_of_mem _ wd_244)) (fun _ h9 => h9) rfl dX5_findFamily_83 ?_
                    refine lv_iload_n hx hb dX5_findFamily_86 rfl (lv_at hl 0 rfl) ?_
                    refine va_iald (f := k_minto v) hx hb hK hP 6 0 (mw_at6 _ _ _) rfl (vp_in_iff.mpr (by omega)) dX5_findFamily_87 ?_
                    refine lv_if_le (tgt := 117) hx hb dX5_findFamily_88 (by decide) (fun c_34 => ?_) (fun c_34 => ?_)
                    · skip
                      have t_35 : (k_minto v k.toNatClampNeg).toInt ≤ 0 := i_le c_34 rfl (by decide)
                      refine lv_iinc (v := k + 1) (lv' := [(3, .int (k + 1)), (2, .int mo), (0, .ref (h 0)), (1, .int x1)]) hx hb dX5_findFamily_117 hl (k := 0) rfl rfl (by decide) rfl (fun ls hl => ?_)
                      refine lv_goto (tgt := 42) hx hb dX5_findFamily_120 (by decide) ?_
                      have hb1 := i_inc (x := k) (by omega)
                      exact ih_13 _ _ _ ⟨(k + 1), mo, v, (by have e9 : k_mlots v = k_mlots v := rfl; rw [e9]; omega), (by have e9 : k_mlots v = k_mlots v := rfl; rw [e9]; omega), hc, hd, hv, (by rw [he_14, lcX5_findFamily_eq, if_neg c_15, if_pos c_19, if_neg c_22, if_pos c_31, if_pos c_34]), hP, hD, hS, lv_sub hl [0, 1, 2, 3] rfl⟩
                    · skip
                      have t_36 : 0 < (k_minto v k.toNatClampNeg).toInt := i_nle c_34 rfl (by decide)
                      refine lv_aload_n hx hb dX5_findFamily_91 rfl (lv_at hl 2 rfl) ?_
                      refine va_get (D := (dC, dI)) (C := RX5) (T := TX5) (N := 26) (v := .ref (h 22)) hx hb hts (fi_X5 _) hown hK hP 0 (mw_at0 _ _ _) rfl 25 (by decide) (hts _ (List.mem_cons_of_mem _ wd_277)) (fun _ h9 => h9) rfl dX5_findFamily_92 ?_
                      refine lv_aload_n hx hb dX5_findFamily_95 rfl (lv_at hl 2 rfl) ?_
                      refine va_get (D := (dC, dI)) (C := RX5) (T := TX5) (N := 26) (v := .ref (h 6)) hx hb hts (fi_X5 _) hown hK hP 0 (mw_at0 _ _ _) rfl 7 (by decide) (hts _ (List.mem_cons_of_mem _ wd_244)) (fun _ h9 => h9) rfl dX5_findFamily_96 ?_
                      refine lv_iload_n hx hb dX5_findFamily_99 rfl (lv_at hl 0 rfl) ?_
                      refine va_iald (f := k_minto v) hx hb hK hP 6 0 (mw_at6 _ _ _) rfl (vp_in_iff.mpr (by omega)) dX5_findFamily_100 ?_
                      refine va_zald (f := k_mfam v) hx hb hK hP 22 1 (mw_at22 _ _ _) rfl (vp_in_iff.mpr (i_rgl (hI7v _) (by decide))) dX5_findFamily_101 ?_
                      refine lv_if_ne (tgt := 108) hx hb dX5_findFamily_102 (by decide) (fun c_37 => ?_) (fun c_37 => ?_)
                      · skip
                        have t_38 : (k_mfam v (k_minto v k.toNatClampNeg).toNatClampNeg).toInt ≠ 0 := i_ne c_37 rfl (by decide)
                        refine lv_aload_n hx hb dX5_findFamily_108 rfl (lv_at hl 2 rfl) ?_
                        refine va_get (D := (dC, dI)) (C := RX5) (T := TX5) (N := 26) (v := .ref (h 22)) hx hb hts (fi_X5 _) hown hK hP 0 (mw_at0 _ _ _) rfl 25 (by decide) (hts _ (List.mem_cons_of_mem _ wd_277)) (fun _ h9 => h9) rfl dX5_findFamily_109 ?_
                        refine lv_iload_n hx hb dX5_findFamily_112 rfl (lv_at hl 0 rfl) ?_
                        refine lv_iconst (v := 1) hx hb dX5_findFamily_113 (by decide) ?_
                        refine va_zast (f := k_mfam v) hx hb hK hP hD hS 22 1 (mw_at22 _ _ _) rfl (vp_in_iff.mpr (by omega)) dX5_findFamily_114 (fun H locs hP hD hS => ?_)
                        have hP : va_P (dC, dI) vwCl (mw g h (s_mfam v (upd (k_mfam v) k.toNatClampNeg (vp_nar .boolean 1)))) H := hP
                        have hD : va_D A (mw g h (s_mfam v (upd (k_mfam v) k.toNatClampNeg (vp_nar .boolean 1)))) := hD
                        refine lv_iconst (v := 1) hx hb dX5_findFamily_115 (by decide) ?_
                        refine lv_istore_n (lv' := [(2, .int 1), (3, .int k), (0, .ref (h 0)), (1, .int x1)]) hx hb dX5_findFamily_116 rfl hl (by decide) rfl (fun ls hl => ?_)
                        refine lv_iinc (v := k + 1) (lv' := [(3, .int (k + 1)), (2, .int 1), (0, .ref (h 0)), (1, .int x1)]) hx hb dX5_findFamily_117 hl (k := 1) rfl rfl (by decide) rfl (fun ls hl => ?_)
                        refine lv_goto (tgt := 42) hx hb dX5_findFamily_120 (by decide) ?_
                        have hb1 := i_inc (x := k) (by omega)
                        exact ih_13 _ _ _ ⟨(k + 1), 1, (s_mfam v (upd (k_mfam v) k.toNatClampNeg (vp_nar .boolean 1))), (by have e9 : k_mlots (s_mfam v (upd (k_mfam v) k.toNatClampNeg (vp_nar .boolean 1))) = k_mlots v := rfl; rw [e9]; omega), (by have e9 : k_mlots (s_mfam v (upd (k_mfam v) k.toNatClampNeg (vp_nar .boolean 1))) = k_mlots v := rfl; rw [e9]; omega), ⟨fun h9 => absurd h9 (by decide), fun _ => by have h8 := mcnt_set (x := k) hv (by assumption) (by omega) (by omega); omega⟩, (by have h8 := mcnt_set (x := k) hv (by assumption) (by omega) (by omega); omega), hv, (by rw [he_14, lcX5_findFamily_eq, if_neg c_15, if_pos c_19, if_neg c_22, if_pos c_31, if_neg c_34, if_neg c_37]), hP, hD, hS, lv_sub hl [0, 1, 2, 3] rfl⟩
                      · skip
                        have t_39 : (k_mfam v (k_minto v k.toNatClampNeg).toNatClampNeg).toInt = 0 := i_eq c_37 rfl (by decide)
                        refine lv_goto (tgt := 117) hx hb dX5_findFamily_105 (by decide) ?_
                        refine lv_iinc (v := k + 1) (lv' := [(3, .int (k + 1)), (2, .int mo), (0, .ref (h 0)), (1, .int x1)]) hx hb dX5_findFamily_117 hl (k := 0) rfl rfl (by decide) rfl (fun ls hl => ?_)
                        refine lv_goto (tgt := 42) hx hb dX5_findFamily_120 (by decide) ?_
                        have hb1 := i_inc (x := k) (by omega)
                        exact ih_13 _ _ _ ⟨(k + 1), mo, v, (by have e9 : k_mlots v = k_mlots v := rfl; rw [e9]; omega), (by have e9 : k_mlots v = k_mlots v := rfl; rw [e9]; omega), hc, hd, hv, (by rw [he_14, lcX5_findFamily_eq, if_neg c_15, if_pos c_19, if_neg c_22, if_pos c_31, if_neg c_34, if_pos c_37]), hP, hD, hS, lv_sub hl [0, 1, 2, 3] rfl⟩
    · skip
      have t_40 : i.toInt ≤ (k_mlots v).toInt := i_nlt c_4 rfl rfl
      refine lv_aload_n hx hb dX5_findFamily_10 rfl (lv_at hl 1 rfl) ?_
      refine va_get (D := (dC, dI)) (C := RX5) (T := TX5) (N := 26) (v := .ref (h 22)) hx hb hts (fi_X5 _) hown hK hP 0 (mw_at0 _ _ _) rfl 25 (by decide) (hts _ (List.mem_cons_of_mem _ wd_277)) (fun _ h9 => h9) rfl dX5_findFamily_11 ?_
      refine lv_iload_n hx hb dX5_findFamily_14 rfl (lv_at hl 0 rfl) ?_
      refine lv_iload_n hx hb dX5_findFamily_15 rfl (lv_at hl 0 rfl) ?_
      refine lv_iload_n hx hb dX5_findFamily_16 rfl (lv_at hl 2 rfl) ?_
      refine lv_icmp_ne (tgt := 24) hx hb dX5_findFamily_17 (by decide) (fun c_41 => ?_) (fun c_41 => ?_)
      · skip
        have t_42 : i.toInt ≠ x1.toInt := i_ne c_41 rfl rfl
        refine lv_iconst (v := 0) hx hb dX5_findFamily_24 (by decide) ?_
        refine va_zast (f := k_mfam v) hx hb hK hP hD hS 22 1 (mw_at22 _ _ _) rfl (vp_in_iff.mpr (by omega)) dX5_findFamily_25 (fun H locs hP hD hS => ?_)
        have hP : va_P (dC, dI) vwCl (mw g h (s_mfam v (upd (k_mfam v) i.toNatClampNeg (vp_nar .boolean 0)))) H := hP
        have hD : va_D A (mw g h (s_mfam v (upd (k_mfam v) i.toNatClampNeg (vp_nar .boolean 0)))) := hD
        refine lv_iinc (v := i + 1) (lv' := [(2, .int (i + 1)), (0, .ref (h 0)), (1, .int x1)]) hx hb dX5_findFamily_26 hl (k := 0) rfl rfl (by decide) rfl (fun ls hl => ?_)
        refine lv_goto (tgt := 2) hx hb dX5_findFamily_29 (by decide) ?_
        have hb1 := i_inc (x := i) (by omega)
        exact ih_2 _ _ _ ⟨(i + 1), (s_mfam v (upd (k_mfam v) i.toNatClampNeg (vp_nar .boolean 0))), (by have e9 : k_mlots (s_mfam v (upd (k_mfam v) i.toNatClampNeg (vp_nar .boolean 0))) = k_mlots v := rfl; rw [e9]; omega), (by have e9 : k_mlots (s_mfam v (upd (k_mfam v) i.toNatClampNeg (vp_nar .boolean 0))) = k_mlots v := rfl; rw [e9]; omega), hv, (by rw [he_3, laX5_findFamily_eq, if_neg c_4, if_neg c_41]), hP, hD, hS, lv_sub hl [0, 1, 2] rfl⟩
      · skip
        have t_43 : i.toInt = x1.toInt := i_eq c_41 rfl rfl
        refine lv_iconst (v := 1) hx hb dX5_findFamily_20 (by decide) ?_
        refine lv_goto (tgt := 25) hx hb dX5_findFamily_21 (by decide) ?_
        refine va_zast (f := k_mfam v) hx hb hK hP hD hS 22 1 (mw_at22 _ _ _) rfl (vp_in_iff.mpr (by omega)) dX5_findFamily_25 (fun H locs hP hD hS => ?_)
        have hP : va_P (dC, dI) vwCl (mw g h (s_mfam v (upd (k_mfam v) i.toNatClampNeg (vp_nar .boolean 1)))) H := hP
        have hD : va_D A (mw g h (s_mfam v (upd (k_mfam v) i.toNatClampNeg (vp_nar .boolean 1)))) := hD
        refine lv_iinc (v := i + 1) (lv' := [(2, .int (i + 1)), (0, .ref (h 0)), (1, .int x1)]) hx hb dX5_findFamily_26 hl (k := 0) rfl rfl (by decide) rfl (fun ls hl => ?_)
        refine lv_goto (tgt := 2) hx hb dX5_findFamily_29 (by decide) ?_
        have hb1 := i_inc (x := i) (by omega)
        exact ih_2 _ _ _ ⟨(i + 1), (s_mfam v (upd (k_mfam v) i.toNatClampNeg (vp_nar .boolean 1))), (by have e9 : k_mlots (s_mfam v (upd (k_mfam v) i.toNatClampNeg (vp_nar .boolean 1))) = k_mlots v := rfl; rw [e9]; omega), (by have e9 : k_mlots (s_mfam v (upd (k_mfam v) i.toNatClampNeg (vp_nar .boolean 1))) = k_mlots v := rfl; rw [e9]; omega), hv, (by rw [he_3, laX5_findFamily_eq, if_neg c_4, if_pos c_41]), hP, hD, hS, lv_sub hl [0, 1, 2] rfl⟩