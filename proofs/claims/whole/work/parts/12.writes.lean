set_option maxHeartbeats 4000000 in
set_option maxRecDepth 100000 in
theorem kX1_add (l : Launch) (dC : Nat → ClassId) (dI : Nat → Nat → Nat) (g : cG) (h : Nat → Nat) (u : cS) (sz : Nat) (x1 : Int32) (x2 : Int32) (x3 : Int32) (x4 : Int32) (hr : 0 ≤ (k_lmade u).toInt ∧ (k_lmade u).toInt < 40) : Met l yX1_add wsX1_add ({ frames := 0, cells := 0, slots := 0, locals := 0 }) (va_Pc [.ref (h 1), .int x1, .int x2, .int x3, .int x4] (fun U => U.heap.size = sz ∧ va_P (dC, dI) vwCl (cw g h u) U.heap ∧ va_K (dC, dI) vwCl (cTys g) U ∧ va_D (fun _ => True) (cw g h u))) (va_Qi (fun (r : Int32) u2 => (r, u2) = fX1_add u x1 x2 x3 x4) (fun (u2 : cS) (t : State) => va_P (dC, dI) vwCl (cw g h u2) t.heap ∧ va_D (va_A (cw g h u) sz) (cw g h u2)) (va_A (cw g h u) sz)) 0 0 (va_A (cw g h u) sz) := by
  refine Met.ofW (cc := cX1_add) (maxL := 5) (ret := (some .int)) (by decide) rfl ?_
  intro p e s m args below meth c s₁ B hml hv
  obtain ⟨rfl, hsz, hP, hK, hD0⟩ := hv
  have hx := B.exec
  have hb := B.bytes
  have hr := B.returns
  have hts := atoms_spec (ws := wsX1_add) B.pre
  have hown : s.vm.findClass RX1 = some m.cls := findClass_of_methodNamed B.named
  have hlocks := B.notSynchronized
  subst hsz
  have hD := hD0.self (sz := s.heap.size)
  generalize hAe : va_A (cw g h u) s.heap.size = A at hD ⊢
  have hA : ∀ q : Nat, s.heap.size ≤ q → A q := fun q h => by rw [← hAe]; exact Or.inr h
  have hS : va_S A s.heap s.heap [] := va_S.rf
  have hl := lv_entry ([.ref (h 1), .int x1, .int x2, .int x3, .int x4]) (n := 5) (Nat.le_of_ble_eq_true rfl)
  rw [lg_entry_eq]
  generalize (lg_sl ([.ref (h 1), .int x1, .int x2, .int x3, .int x4]) ++ List.replicate (5 - (lg_sl ([.ref (h 1), .int x1, .int x2, .int x3, .int x4])).length) Slot.unset).toArray = ls at hl ⊢
  have hl : lv_has ls 5 [(0, .ref (h 1)), (1, .int x1), (2, .int x2), (3, .int x3), (4, .int x4)] := hl
  have hm1 := i_inc (x := k_lmade u) (by omega)
  refine lv_aload_n hx hb dX1_add_0 rfl (lv_at hl 0 rfl) ?_
  refine lv_dup hx hb dX1_add_1 rfl ?_
  refine va_get (D := (dC, dI)) (C := RX1) (T := TX1) (N := 9) (v := .int (k_lmade u)) hx hb hts (fi_X1 _) hown hK hP 1 (cw_at1 _ _ _) rfl 8 (by decide) (hts _ (List.mem_cons_of_mem _ wd_15)) (fun _ h9 => h9) rfl dX1_add_2 ?_
  refine lv_iconst (v := 1) hx hb dX1_add_5 (by decide) ?_
  refine lv_iadd hx hb dX1_add_6 ?_
  refine va_put (D := (dC, dI)) (C := RX1) (T := TX1) (N := 9) (v := .int ((k_lmade u) + 1)) (ty := .int) hx hb hts (fi_X1 _) tyX1 tyX1_ok nmX1 hown hK hP hD hS 1 (cw_at1 _ _ _) rfl 8 (by decide) (hts _ (List.mem_cons_of_mem _ wd_15)) (fun _ h9 => h9) rfl (by decide +kernel) rfl rfl (Nat.le_of_ble_eq_true rfl) dX1_add_7 (fun H locs hP hD hS => ?_)
  have hP : va_P (dC, dI) vwCl (cw g h (s_lmade u ((k_lmade u) + 1))) H := hP
  have hD : va_D A (cw g h (s_lmade u ((k_lmade u) + 1))) := hD
  refine lv_aload_n hx hb dX1_add_10 rfl (lv_at hl 0 rfl) ?_
  refine va_get (D := (dC, dI)) (C := RX1) (T := TX1) (N := 9) (v := .ref (h 8)) hx hb hts (fi_X1 _) hown hK hP 1 (cw_at1 _ _ _) rfl 0 (by decide) (hts _ (List.mem_cons_of_mem _ wd_16)) (fun _ h9 => h9) rfl dX1_add_11 ?_
  refine lv_aload_n hx hb dX1_add_14 rfl (lv_at hl 0 rfl) ?_
  refine va_get (D := (dC, dI)) (C := RX1) (T := TX1) (N := 9) (v := .int ((k_lmade u) + 1)) hx hb hts (fi_X1 _) hown hK hP 1 (cw_at1 _ _ _) rfl 8 (by decide) (hts _ (List.mem_cons_of_mem _ wd_15)) (fun _ h9 => h9) rfl dX1_add_15 ?_
  refine lv_iload_n hx hb dX1_add_18 rfl (lv_at hl 1 rfl) ?_
  refine va_iast (f := k_goods u) hx hb hK hP hD hS 8 0 (cw_at8 _ _ _) rfl (vp_in_iff.mpr (by omega)) dX1_add_19 (fun H locs hP hD hS => ?_)
  have hP : va_P (dC, dI) vwCl (cw g h (s_goods (s_lmade u ((k_lmade u) + 1)) (upd (k_goods u) ((k_lmade u) + 1).toNatClampNeg x1))) H := hP
  have hD : va_D A (cw g h (s_goods (s_lmade u ((k_lmade u) + 1)) (upd (k_goods u) ((k_lmade u) + 1).toNatClampNeg x1))) := hD
  refine lv_aload_n hx hb dX1_add_20 rfl (lv_at hl 0 rfl) ?_
  refine va_get (D := (dC, dI)) (C := RX1) (T := TX1) (N := 9) (v := .ref (h 9)) hx hb hts (fi_X1 _) hown hK hP 1 (cw_at1 _ _ _) rfl 1 (by decide) (hts _ (List.mem_cons_of_mem _ wd_17)) (fun _ h9 => h9) rfl dX1_add_21 ?_
  refine lv_aload_n hx hb dX1_add_24 rfl (lv_at hl 0 rfl) ?_
  refine va_get (D := (dC, dI)) (C := RX1) (T := TX1) (N := 9) (v := .int ((k_lmade u) + 1)) hx hb hts (fi_X1 _) hown hK hP 1 (cw_at1 _ _ _) rfl 8 (by decide) (hts _ (List.mem_cons_of_mem _ wd_15)) (fun _ h9 => h9) rfl dX1_add_25 ?_
  refine lv_iload_n hx hb dX1_add_28 rfl (lv_at hl 2 rfl) ?_
  refine va_iast (f := k_owners u) hx hb hK hP hD hS 9 0 (cw_at9 _ _ _) rfl (vp_in_iff.mpr (by omega)) dX1_add_29 (fun H locs hP hD hS => ?_)
  have hP : va_P (dC, dI) vwCl (cw g h (s_owners (s_goods (s_lmade u ((k_lmade u) + 1)) (upd (k_goods u) ((k_lmade u) + 1).toNatClampNeg x1)) (upd (k_owners u) ((k_lmade u) + 1).toNatClampNeg x2))) H := hP
  have hD : va_D A (cw g h (s_owners (s_goods (s_lmade u ((k_lmade u) + 1)) (upd (k_goods u) ((k_lmade u) + 1).toNatClampNeg x1)) (upd (k_owners u) ((k_lmade u) + 1).toNatClampNeg x2))) := hD
  refine lv_aload_n hx hb dX1_add_30 rfl (lv_at hl 0 rfl) ?_
  refine va_get (D := (dC, dI)) (C := RX1) (T := TX1) (N := 9) (v := .ref (h 10)) hx hb hts (fi_X1 _) hown hK hP 1 (cw_at1 _ _ _) rfl 2 (by decide) (hts _ (List.mem_cons_of_mem _ wd_18)) (fun _ h9 => h9) rfl dX1_add_31 ?_
  refine lv_aload_n hx hb dX1_add_34 rfl (lv_at hl 0 rfl) ?_
  refine va_get (D := (dC, dI)) (C := RX1) (T := TX1) (N := 9) (v := .int ((k_lmade u) + 1)) hx hb hts (fi_X1 _) hown hK hP 1 (cw_at1 _ _ _) rfl 8 (by decide) (hts _ (List.mem_cons_of_mem _ wd_15)) (fun _ h9 => h9) rfl dX1_add_35 ?_
  refine lv_iload_n hx hb dX1_add_38 rfl (lv_at hl 3 rfl) ?_
  refine va_iast (f := k_last u) hx hb hK hP hD hS 10 0 (cw_at10 _ _ _) rfl (vp_in_iff.mpr (by omega)) dX1_add_39 (fun H locs hP hD hS => ?_)
  have hP : va_P (dC, dI) vwCl (cw g h (s_last (s_owners (s_goods (s_lmade u ((k_lmade u) + 1)) (upd (k_goods u) ((k_lmade u) + 1).toNatClampNeg x1)) (upd (k_owners u) ((k_lmade u) + 1).toNatClampNeg x2)) (upd (k_last u) ((k_lmade u) + 1).toNatClampNeg x3))) H := hP
  have hD : va_D A (cw g h (s_last (s_owners (s_goods (s_lmade u ((k_lmade u) + 1)) (upd (k_goods u) ((k_lmade u) + 1).toNatClampNeg x1)) (upd (k_owners u) ((k_lmade u) + 1).toNatClampNeg x2)) (upd (k_last u) ((k_lmade u) + 1).toNatClampNeg x3))) := hD
  refine lv_aload_n hx hb dX1_add_40 rfl (lv_at hl 0 rfl) ?_
  refine va_get (D := (dC, dI)) (C := RX1) (T := TX1) (N := 9) (v := .ref (h 11)) hx hb hts (fi_X1 _) hown hK hP 1 (cw_at1 _ _ _) rfl 3 (by decide) (hts _ (List.mem_cons_of_mem _ wd_30)) (fun _ h9 => h9) rfl dX1_add_41 ?_
  refine lv_aload_n hx hb dX1_add_44 rfl (lv_at hl 0 rfl) ?_
  refine va_get (D := (dC, dI)) (C := RX1) (T := TX1) (N := 9) (v := .int ((k_lmade u) + 1)) hx hb hts (fi_X1 _) hown hK hP 1 (cw_at1 _ _ _) rfl 8 (by decide) (hts _ (List.mem_cons_of_mem _ wd_15)) (fun _ h9 => h9) rfl dX1_add_45 ?_
  refine lv_iload hx hb dX1_add_48 (lv_at hl 4 rfl) ?_
  refine va_iast (f := k_arr u) hx hb hK hP hD hS 11 0 (cw_at11 _ _ _) rfl (vp_in_iff.mpr (by omega)) dX1_add_50 (fun H locs hP hD hS => ?_)
  have hP : va_P (dC, dI) vwCl (cw g h (s_arr (s_last (s_owners (s_goods (s_lmade u ((k_lmade u) + 1)) (upd (k_goods u) ((k_lmade u) + 1).toNatClampNeg x1)) (upd (k_owners u) ((k_lmade u) + 1).toNatClampNeg x2)) (upd (k_last u) ((k_lmade u) + 1).toNatClampNeg x3)) (upd (k_arr u) ((k_lmade u) + 1).toNatClampNeg x4))) H := hP
  have hD : va_D A (cw g h (s_arr (s_last (s_owners (s_goods (s_lmade u ((k_lmade u) + 1)) (upd (k_goods u) ((k_lmade u) + 1).toNatClampNeg x1)) (upd (k_owners u) ((k_lmade u) + 1).toNatClampNeg x2)) (upd (k_last u) ((k_lmade u) + 1).toNatClampNeg x3)) (upd (k_arr u) ((k_lmade u) + 1).toNatClampNeg x4))) := hD
  refine lv_aload_n hx hb dX1_add_51 rfl (lv_at hl 0 rfl) ?_
  refine va_get (D := (dC, dI)) (C := RX1) (T := TX1) (N := 9) (v := .ref (h 12)) hx hb hts (fi_X1 _) hown hK hP 1 (cw_at1 _ _ _) rfl 4 (by decide) (hts _ (List.mem_cons_of_mem _ wd_24)) (fun _ h9 => h9) rfl dX1_add_52 ?_
  refine lv_aload_n hx hb dX1_add_55 rfl (lv_at hl 0 rfl) ?_
  refine va_get (D := (dC, dI)) (C := RX1) (T := TX1) (N := 9) (v := .int ((k_lmade u) + 1)) hx hb hts (fi_X1 _) hown hK hP 1 (cw_at1 _ _ _) rfl 8 (by decide) (hts _ (List.mem_cons_of_mem _ wd_15)) (fun _ h9 => h9) rfl dX1_add_56 ?_
  refine lv_iconst (v := 1) hx hb dX1_add_59 (by decide) ?_
  refine va_zast (f := k_open u) hx hb hK hP hD hS 12 1 (cw_at12 _ _ _) rfl (vp_in_iff.mpr (by omega)) dX1_add_60 (fun H locs hP hD hS => ?_)
  have hP : va_P (dC, dI) vwCl (cw g h (s_open (s_arr (s_last (s_owners (s_goods (s_lmade u ((k_lmade u) + 1)) (upd (k_goods u) ((k_lmade u) + 1).toNatClampNeg x1)) (upd (k_owners u) ((k_lmade u) + 1).toNatClampNeg x2)) (upd (k_last u) ((k_lmade u) + 1).toNatClampNeg x3)) (upd (k_arr u) ((k_lmade u) + 1).toNatClampNeg x4)) (upd (k_open u) ((k_lmade u) + 1).toNatClampNeg (vp_nar .boolean 1)))) H := hP
  have hD : va_D A (cw g h (s_open (s_arr (s_last (s_owners (s_goods (s_lmade u ((k_lmade u) + 1)) (upd (k_goods u) ((k_lmade u) + 1).toNatClampNeg x1)) (upd (k_owners u) ((k_lmade u) + 1).toNatClampNeg x2)) (upd (k_last u) ((k_lmade u) + 1).toNatClampNeg x3)) (upd (k_arr u) ((k_lmade u) + 1).toNatClampNeg x4)) (upd (k_open u) ((k_lmade u) + 1).toNatClampNeg (vp_nar .boolean 1)))) := hD
  refine lv_aload_n hx hb dX1_add_61 rfl (lv_at hl 0 rfl) ?_
  refine va_get (D := (dC, dI)) (C := RX1) (T := TX1) (N := 9) (v := .int ((k_lmade u) + 1)) hx hb hts (fi_X1 _) hown hK hP 1 (cw_at1 _ _ _) rfl 8 (by decide) (hts _ (List.mem_cons_of_mem _ wd_15)) (fun _ h9 => h9) rfl dX1_add_62 ?_
  exact W.iret (v := (k_lmade u) + 1) hx hb hr (fun t ht hW => ⟨⟨((k_lmade u) + 1), (s_open (s_arr (s_last (s_owners (s_goods (s_lmade u ((k_lmade u) + 1)) (upd (k_goods u) ((k_lmade u) + 1).toNatClampNeg x1)) (upd (k_owners u) ((k_lmade u) + 1).toNatClampNeg x2)) (upd (k_last u) ((k_lmade u) + 1).toNatClampNeg x3)) (upd (k_arr u) ((k_lmade u) + 1).toNatClampNeg x4)) (upd (k_open u) ((k_lmade u) + 1).toNatClampNeg (vp_nar .boolean 1))), rfl, rfl, by rw [ht]; exact hP, hD⟩, hS.F ht⟩) hS.2.2 dX1_add_65
set_option maxHeartbeats 4000000 in
set_option maxRecDepth 100000 in
theorem kX1_addPartOf (l : Launch) (dC : Nat → ClassId) (dI : Nat → Nat → Nat) (g : cG) (h : Nat → Nat) (u : cS) (sz : Nat) (x1 : Int32) (h1 : 0 ≤ x1.toInt ∧ x1.toInt ≤ 40) (hr : 0 ≤ (k_lmade u).toInt ∧ (k_lmade u).toInt < 40) : Met l yX1_addPartOf wsX1_addPartOf ({ frames := 1, cells := 0, slots := 0, locals := 24 }) (va_Pc [.ref (h 1), .int x1] (fun U => U.heap.size = sz ∧ va_P (dC, dI) vwCl (cw g h u) U.heap ∧ va_K (dC, dI) vwCl (cTys g) U ∧ va_D (fun _ => True) (cw g h u))) (va_Qi (fun (r : Int32) u2 => (r, u2) = fX1_addPartOf u x1) (fun (u2 : cS) (t : State) => va_P (dC, dI) vwCl (cw g h u2) t.heap ∧ va_D (va_A (cw g h u) sz) (cw g h u2)) (va_A (cw g h u) sz)) 0 0 (va_A (cw g h u) sz) := by
  refine Met.ofW (cc := cX1_addPartOf) (maxL := 3) (ret := (some .int)) (by decide) rfl ?_
  intro p e s m args below meth c s₁ B hml hv
  obtain ⟨rfl, hsz, hP, hK, hD0⟩ := hv
  have hx := B.exec
  have hb := B.bytes
  have hr := B.returns
  have hts := atoms_spec (ws := wsX1_addPartOf) B.pre
  have hown : s.vm.findClass RX1 = some m.cls := findClass_of_methodNamed B.named
  have hlocks := B.notSynchronized
  subst hsz
  have hD := hD0.self (sz := s.heap.size)
  generalize hAe : va_A (cw g h u) s.heap.size = A at hD ⊢
  have hA : ∀ q : Nat, s.heap.size ≤ q → A q := fun q h => by rw [← hAe]; exact Or.inr h
  have hS : va_S A s.heap s.heap [] := va_S.rf
  have hl := lv_entry ([.ref (h 1), .int x1]) (n := 3) (Nat.le_of_ble_eq_true rfl)
  rw [lg_entry_eq]
  generalize (lg_sl ([.ref (h 1), .int x1]) ++ List.replicate (3 - (lg_sl ([.ref (h 1), .int x1])).length) Slot.unset).toArray = ls at hl ⊢
  have hl : lv_has ls 3 [(0, .ref (h 1)), (1, .int x1)] := hl
  have hm1 := i_inc (x := k_lmade u) (by omega)
  refine lv_aload_n hx hb dX1_addPartOf_0 rfl (lv_at hl 0 rfl) ?_
  refine lv_aload_n hx hb dX1_addPartOf_1 rfl (lv_at hl 0 rfl) ?_
  refine va_get (D := (dC, dI)) (C := RX1) (T := TX1) (N := 9) (v := .ref (h 8)) hx hb hts (fi_X1 _) hown hK hP 1 (cw_at1 _ _ _) rfl 0 (by decide) (hts _ (List.mem_cons_of_mem _ wd_16)) (fun _ h9 => h9) rfl dX1_addPartOf_2 ?_
  refine lv_iload_n hx hb dX1_addPartOf_5 rfl (lv_at hl 1 rfl) ?_
  refine va_iald (f := k_goods u) hx hb hK hP 8 0 (cw_at8 _ _ _) rfl (vp_in_iff.mpr (by omega)) dX1_addPartOf_6 ?_
  refine lv_aload_n hx hb dX1_addPartOf_7 rfl (lv_at hl 0 rfl) ?_
  refine va_get (D := (dC, dI)) (C := RX1) (T := TX1) (N := 9) (v := .ref (h 9)) hx hb hts (fi_X1 _) hown hK hP 1 (cw_at1 _ _ _) rfl 1 (by decide) (hts _ (List.mem_cons_of_mem _ wd_17)) (fun _ h9 => h9) rfl dX1_addPartOf_8 ?_
  refine lv_iload_n hx hb dX1_addPartOf_11 rfl (lv_at hl 1 rfl) ?_
  refine va_iald (f := k_owners u) hx hb hK hP 9 0 (cw_at9 _ _ _) rfl (vp_in_iff.mpr (by omega)) dX1_addPartOf_12 ?_
  refine lv_aload_n hx hb dX1_addPartOf_13 rfl (lv_at hl 0 rfl) ?_
  refine va_get (D := (dC, dI)) (C := RX1) (T := TX1) (N := 9) (v := .ref (h 10)) hx hb hts (fi_X1 _) hown hK hP 1 (cw_at1 _ _ _) rfl 2 (by decide) (hts _ (List.mem_cons_of_mem _ wd_18)) (fun _ h9 => h9) rfl dX1_addPartOf_14 ?_
  refine lv_iload_n hx hb dX1_addPartOf_17 rfl (lv_at hl 1 rfl) ?_
  refine va_iald (f := k_last u) hx hb hK hP 10 0 (cw_at10 _ _ _) rfl (vp_in_iff.mpr (by omega)) dX1_addPartOf_18 ?_
  refine lv_aload_n hx hb dX1_addPartOf_19 rfl (lv_at hl 0 rfl) ?_
  refine va_get (D := (dC, dI)) (C := RX1) (T := TX1) (N := 9) (v := .ref (h 11)) hx hb hts (fi_X1 _) hown hK hP 1 (cw_at1 _ _ _) rfl 3 (by decide) (hts _ (List.mem_cons_of_mem _ wd_30)) (fun _ h9 => h9) rfl dX1_addPartOf_20 ?_
  refine lv_iload_n hx hb dX1_addPartOf_23 rfl (lv_at hl 1 rfl) ?_
  refine va_iald (f := k_arr u) hx hb hK hP 11 0 (cw_at11 _ _ _) rfl (vp_in_iff.mpr (by omega)) dX1_addPartOf_24 ?_
  have hFc := va_free (wc := cw g h u) hD hS hA [0, 1, 2, 3, 4, 5, 6, 7, 8, 9, 10, 11, 12, 13, 14, 15, 16, 17, 18, 19, 20, 21, 22, 23] rfl
  refine va_calli (va_runV (As := [.int (k_goods u x1.toNatClampNeg), .int (k_owners u x1.toNatClampNeg), .int (k_last u x1.toNatClampNeg), .int (k_arr u x1.toNatClampNeg)]) (rest := []) ⟨hx, hb, hml, hown, hts⟩ (kX1_add l dC dI g h u _ (k_goods u x1.toNatClampNeg) (k_owners u x1.toNatClampNeg) (k_last u x1.toNatClampNeg) (k_arr u x1.toNatClampNeg) (by omega)) (cwV 4 hts (gV wd_66 wd_67 wd_68 wd_28 wcX1_add) rfl rfl rfl (by decide +kernel) ⟨(Nat.le_of_ble_eq_true rfl), (Nat.le_of_ble_eq_true rfl)⟩) ⟨fun a U g mk q => by obtain ⟨q0, q1, qP, qK, qD⟩ := q; exact ⟨q0, q1, qP, va_K.moved (u := U) (U := U.calling g mk a) (Vm.Alike.refl U.vm) qK, qD⟩, va_recv hK hP (ci := 0) (q0 := 1) rfl (cw_at1 _ _ _), fun U hU hW => ⟨rfl, by rw [hU], by rw [hU]; exact hP, va_K.moved hW.alike hK, hD.weaken (fun _ _ _ _ => trivial)⟩⟩ rfl rfl hl.1 rfl (lv_room (Nat.le_of_ble_eq_true rfl)) dX1_addPartOf_25 ⟨(Nat.le_of_ble_eq_true rfl), (Nat.le_of_ble_eq_true rfl)⟩) hS (fun q _ h => hFc q h) hFc (fun r_2 u_1 t H locs ht hvm hw hB hz1 hk1 hS => ?_)
  obtain ⟨hP, hD⟩ := hB
  rw [ht] at hP
  have hD := hD.weaken (fun _ _ _ h => hFc _ h)
  have e_3 : r_2 = (fX1_add u (k_goods u x1.toNatClampNeg) (k_owners u x1.toNatClampNeg) (k_last u x1.toNatClampNeg) (k_arr u x1.toNatClampNeg)).1 := congrArg Prod.fst hw
  have e_4 : u_1 = (fX1_add u (k_goods u x1.toNatClampNeg) (k_owners u x1.toNatClampNeg) (k_last u x1.toNatClampNeg) (k_arr u x1.toNatClampNeg)).2 := congrArg Prod.snd hw
  clear hw
  refine lv_istore_n (lv' := [(2, .int r_2), (0, .ref (h 1)), (1, .int x1)]) hx hb dX1_addPartOf_28 rfl hl (by decide) rfl (fun ls hl => ?_)
  refine lv_aload_n hx hb dX1_addPartOf_29 rfl (lv_at hl 1 rfl) ?_
  refine va_get (D := (dC, dI)) (C := RX1) (T := TX1) (N := 9) (v := .ref (h 13)) hx hb hts (fi_X1 _) hown hK hP 1 (cw_at1 _ _ _) rfl 5 (by decide) (hts _ (List.mem_cons_of_mem _ wd_19)) (fun _ h9 => h9) rfl dX1_addPartOf_30 ?_
  refine lv_iload_n hx hb dX1_addPartOf_33 rfl (lv_at hl 0 rfl) ?_
  refine lv_aload_n hx hb dX1_addPartOf_34 rfl (lv_at hl 1 rfl) ?_
  refine va_get (D := (dC, dI)) (C := RX1) (T := TX1) (N := 9) (v := .ref (h 13)) hx hb hts (fi_X1 _) hown hK hP 1 (cw_at1 _ _ _) rfl 5 (by decide) (hts _ (List.mem_cons_of_mem _ wd_19)) (fun _ h9 => h9) rfl dX1_addPartOf_35 ?_
  refine lv_iload_n hx hb dX1_addPartOf_38 rfl (lv_at hl 2 rfl) ?_
  refine va_iald (f := k_reas u_1) hx hb hK hP 13 0 (cw_at13 _ _ _) rfl (vp_in_iff.mpr (by omega)) dX1_addPartOf_39 ?_
  refine va_iast (f := k_reas u_1) hx hb hK hP hD hS 13 0 (cw_at13 _ _ _) rfl (vp_in_iff.mpr (by subst e_4; subst e_3; show 0 ≤ (k_lmade u + 1).toInt ∧ (k_lmade u + 1).toInt < ((41 : Nat) : Int); omega)) dX1_addPartOf_40 (fun H locs hP hD hS => ?_)
  have hP : va_P (dC, dI) vwCl (cw g h (s_reas u_1 (upd (k_reas u_1) r_2.toNatClampNeg (k_reas u_1 x1.toNatClampNeg)))) H := hP
  have hD : va_D A (cw g h (s_reas u_1 (upd (k_reas u_1) r_2.toNatClampNeg (k_reas u_1 x1.toNatClampNeg)))) := hD
  refine lv_aload_n hx hb dX1_addPartOf_41 rfl (lv_at hl 1 rfl) ?_
  refine va_get (D := (dC, dI)) (C := RX1) (T := TX1) (N := 9) (v := .ref (h 14)) hx hb hts (fi_X1 _) hown hK hP 1 (cw_at1 _ _ _) rfl 6 (by decide) (hts _ (List.mem_cons_of_mem _ wd_20)) (fun _ h9 => h9) rfl dX1_addPartOf_42 ?_
  refine lv_iload_n hx hb dX1_addPartOf_45 rfl (lv_at hl 0 rfl) ?_
  refine lv_aload_n hx hb dX1_addPartOf_46 rfl (lv_at hl 1 rfl) ?_
  refine va_get (D := (dC, dI)) (C := RX1) (T := TX1) (N := 9) (v := .ref (h 14)) hx hb hts (fi_X1 _) hown hK hP 1 (cw_at1 _ _ _) rfl 6 (by decide) (hts _ (List.mem_cons_of_mem _ wd_20)) (fun _ h9 => h9) rfl dX1_addPartOf_47 ?_
  refine lv_iload_n hx hb dX1_addPartOf_50 rfl (lv_at hl 2 rfl) ?_
  refine va_zald (f := k_quar u_1) hx hb hK hP 14 1 (cw_at14 _ _ _) rfl (vp_in_iff.mpr (by omega)) dX1_addPartOf_51 ?_
  refine va_zast (f := k_quar u_1) hx hb hK hP hD hS 14 1 (cw_at14 _ _ _) rfl (vp_in_iff.mpr (by subst e_4; subst e_3; show 0 ≤ (k_lmade u + 1).toInt ∧ (k_lmade u + 1).toInt < ((41 : Nat) : Int); omega)) dX1_addPartOf_52 (fun H locs hP hD hS => ?_)
  have hP : va_P (dC, dI) vwCl (cw g h (s_quar (s_reas u_1 (upd (k_reas u_1) r_2.toNatClampNeg (k_reas u_1 x1.toNatClampNeg))) (upd (k_quar u_1) r_2.toNatClampNeg (vp_nar .boolean (k_quar u_1 x1.toNatClampNeg))))) H := hP
  have hD : va_D A (cw g h (s_quar (s_reas u_1 (upd (k_reas u_1) r_2.toNatClampNeg (k_reas u_1 x1.toNatClampNeg))) (upd (k_quar u_1) r_2.toNatClampNeg (vp_nar .boolean (k_quar u_1 x1.toNatClampNeg))))) := hD
  refine lv_aload_n hx hb dX1_addPartOf_53 rfl (lv_at hl 1 rfl) ?_
  refine va_get (D := (dC, dI)) (C := RX1) (T := TX1) (N := 9) (v := .ref (h 15)) hx hb hts (fi_X1 _) hown hK hP 1 (cw_at1 _ _ _) rfl 7 (by decide) (hts _ (List.mem_cons_of_mem _ wd_54)) (fun _ h9 => h9) rfl dX1_addPartOf_54 ?_
  refine lv_iload_n hx hb dX1_addPartOf_57 rfl (lv_at hl 2 rfl) ?_
  refine lv_dup2_11 hx hb dX1_addPartOf_58 rfl rfl ?_
  refine va_lald (f := k_kin u_1) hx hb hK hP 15 2 (cw_at15 _ _ _) rfl (vp_in_iff.mpr (by omega)) dX1_addPartOf_59 ?_
  refine lv_lconst (v := 1) hx hb dX1_addPartOf_60 (by decide) ?_
  refine lv_iload_n hx hb dX1_addPartOf_61 rfl (lv_at hl 0 rfl) ?_
  refine lv_lshl (v := (1 : Int64) <<< (r_2.toInt64 &&& 63)) hx hb dX1_addPartOf_62 rfl ?_
  refine lv_lor hx hb dX1_addPartOf_63 ?_
  refine va_last (f := k_kin u_1) hx hb hK hP hD hS 15 2 (cw_at15 _ _ _) rfl (vp_in_iff.mpr (by omega)) dX1_addPartOf_64 (fun H locs hP hD hS => ?_)
  have hP : va_P (dC, dI) vwCl (cw g h (s_kin (s_quar (s_reas u_1 (upd (k_reas u_1) r_2.toNatClampNeg (k_reas u_1 x1.toNatClampNeg))) (upd (k_quar u_1) r_2.toNatClampNeg (vp_nar .boolean (k_quar u_1 x1.toNatClampNeg)))) (vp_updL (k_kin u_1) x1.toNatClampNeg ((k_kin u_1 x1.toNatClampNeg) ||| ((1 : Int64) <<< (r_2.toInt64 &&& 63)))))) H := hP
  have hD : va_D A (cw g h (s_kin (s_quar (s_reas u_1 (upd (k_reas u_1) r_2.toNatClampNeg (k_reas u_1 x1.toNatClampNeg))) (upd (k_quar u_1) r_2.toNatClampNeg (vp_nar .boolean (k_quar u_1 x1.toNatClampNeg)))) (vp_updL (k_kin u_1) x1.toNatClampNeg ((k_kin u_1 x1.toNatClampNeg) ||| ((1 : Int64) <<< (r_2.toInt64 &&& 63)))))) := hD
  refine lv_iload_n hx hb dX1_addPartOf_65 rfl (lv_at hl 0 rfl) ?_
  exact W.iret (v := r_2) hx hb hr (fun t ht hW => ⟨⟨r_2, (s_kin (s_quar (s_reas u_1 (upd (k_reas u_1) r_2.toNatClampNeg (k_reas u_1 x1.toNatClampNeg))) (upd (k_quar u_1) r_2.toNatClampNeg (vp_nar .boolean (k_quar u_1 x1.toNatClampNeg)))) (vp_updL (k_kin u_1) x1.toNatClampNeg ((k_kin u_1 x1.toNatClampNeg) ||| ((1 : Int64) <<< (r_2.toInt64 &&& 63))))), rfl, (by subst e_4; subst e_3; rfl), by rw [ht]; exact hP, hD⟩, hS.F ht⟩) hS.2.2 dX1_addPartOf_66
set_option maxHeartbeats 4000000 in
set_option maxRecDepth 100000 in
theorem kX1_closeInto (l : Launch) (dC : Nat → ClassId) (dI : Nat → Nat → Nat) (g : cG) (h : Nat → Nat) (u : cS) (sz : Nat) (x1 : Int32) (x2 : Int32) (h1 : 0 ≤ x1.toInt ∧ x1.toInt ≤ 40) (h2 : 0 ≤ x2.toInt ∧ x2.toInt ≤ 40) : Met l yX1_closeInto wsX1_closeInto ({ frames := 0, cells := 0, slots := 0, locals := 0 }) (va_Pc [.ref (h 1), .int x1, .int x2] (fun U => U.heap.size = sz ∧ va_P (dC, dI) vwCl (cw g h u) U.heap ∧ va_K (dC, dI) vwCl (cTys g) U ∧ va_D (fun _ => True) (cw g h u))) (va_Qv (fun u2 => u2 = fX1_closeInto u x1 x2) (fun (u2 : cS) (t : State) => va_P (dC, dI) vwCl (cw g h u2) t.heap ∧ va_D (va_A (cw g h u) sz) (cw g h u2)) (va_A (cw g h u) sz)) 0 0 (va_A (cw g h u) sz) := by
  refine Met.ofW (cc := cX1_closeInto) (maxL := 3) (ret := none) (by decide) rfl ?_
  intro p e s m args below meth c s₁ B hml hv
  obtain ⟨rfl, hsz, hP, hK, hD0⟩ := hv
  have hx := B.exec
  have hb := B.bytes
  have hr := B.returns
  have hts := atoms_spec (ws := wsX1_closeInto) B.pre
  have hown : s.vm.findClass RX1 = some m.cls := findClass_of_methodNamed B.named
  have hlocks := B.notSynchronized
  subst hsz
  have hD := hD0.self (sz := s.heap.size)
  generalize hAe : va_A (cw g h u) s.heap.size = A at hD ⊢
  have hA : ∀ q : Nat, s.heap.size ≤ q → A q := fun q h => by rw [← hAe]; exact Or.inr h
  have hS : va_S A s.heap s.heap [] := va_S.rf
  have hl := lv_entry ([.ref (h 1), .int x1, .int x2]) (n := 3) (Nat.le_of_ble_eq_true rfl)
  rw [lg_entry_eq]
  generalize (lg_sl ([.ref (h 1), .int x1, .int x2]) ++ List.replicate (3 - (lg_sl ([.ref (h 1), .int x1, .int x2])).length) Slot.unset).toArray = ls at hl ⊢
  have hl : lv_has ls 3 [(0, .ref (h 1)), (1, .int x1), (2, .int x2)] := hl
  refine lv_aload_n hx hb dX1_closeInto_0 rfl (lv_at hl 0 rfl) ?_
  refine va_get (D := (dC, dI)) (C := RX1) (T := TX1) (N := 9) (v := .ref (h 12)) hx hb hts (fi_X1 _) hown hK hP 1 (cw_at1 _ _ _) rfl 4 (by decide) (hts _ (List.mem_cons_of_mem _ wd_24)) (fun _ h9 => h9) rfl dX1_closeInto_1 ?_
  refine lv_iload_n hx hb dX1_closeInto_4 rfl (lv_at hl 2 rfl) ?_
  refine lv_iconst (v := 0) hx hb dX1_closeInto_5 (by decide) ?_
  refine va_zast (f := k_open u) hx hb hK hP hD hS 12 1 (cw_at12 _ _ _) rfl (vp_in_iff.mpr (by omega)) dX1_closeInto_6 (fun H locs hP hD hS => ?_)
  have hP : va_P (dC, dI) vwCl (cw g h (s_open u (upd (k_open u) x2.toNatClampNeg (vp_nar .boolean 0)))) H := hP
  have hD : va_D A (cw g h (s_open u (upd (k_open u) x2.toNatClampNeg (vp_nar .boolean 0)))) := hD
  refine lv_aload_n hx hb dX1_closeInto_7 rfl (lv_at hl 0 rfl) ?_
  refine va_get (D := (dC, dI)) (C := RX1) (T := TX1) (N := 9) (v := .ref (h 15)) hx hb hts (fi_X1 _) hown hK hP 1 (cw_at1 _ _ _) rfl 7 (by decide) (hts _ (List.mem_cons_of_mem _ wd_54)) (fun _ h9 => h9) rfl dX1_closeInto_8 ?_
  refine lv_iload_n hx hb dX1_closeInto_11 rfl (lv_at hl 1 rfl) ?_
  refine lv_dup2_11 hx hb dX1_closeInto_12 rfl rfl ?_
  refine va_lald (f := k_kin u) hx hb hK hP 15 2 (cw_at15 _ _ _) rfl (vp_in_iff.mpr (by omega)) dX1_closeInto_13 ?_
  refine lv_lconst (v := 1) hx hb dX1_closeInto_14 (by decide) ?_
  refine lv_iload_n hx hb dX1_closeInto_15 rfl (lv_at hl 2 rfl) ?_
  refine lv_lshl (v := (1 : Int64) <<< (x2.toInt64 &&& 63)) hx hb dX1_closeInto_16 rfl ?_
  refine lv_lor hx hb dX1_closeInto_17 ?_
  refine va_last (f := k_kin u) hx hb hK hP hD hS 15 2 (cw_at15 _ _ _) rfl (vp_in_iff.mpr (by omega)) dX1_closeInto_18 (fun H locs hP hD hS => ?_)
  have hP : va_P (dC, dI) vwCl (cw g h (s_kin (s_open u (upd (k_open u) x2.toNatClampNeg (vp_nar .boolean 0))) (vp_updL (k_kin u) x1.toNatClampNeg ((k_kin u x1.toNatClampNeg) ||| ((1 : Int64) <<< (x2.toInt64 &&& 63)))))) H := hP
  have hD : va_D A (cw g h (s_kin (s_open u (upd (k_open u) x2.toNatClampNeg (vp_nar .boolean 0))) (vp_updL (k_kin u) x1.toNatClampNeg ((k_kin u x1.toNatClampNeg) ||| ((1 : Int64) <<< (x2.toInt64 &&& 63)))))) := hD
  exact W.vret hx hb hr (fun t ht hW => ⟨⟨(s_kin (s_open u (upd (k_open u) x2.toNatClampNeg (vp_nar .boolean 0))) (vp_updL (k_kin u) x1.toNatClampNeg ((k_kin u x1.toNatClampNeg) ||| ((1 : Int64) <<< (x2.toInt64 &&& 63))))), rfl, rfl, by rw [ht]; exact hP, hD⟩, hS.F ht⟩) hS.2.2 dX1_closeInto_19
set_option maxHeartbeats 4000000 in
set_option maxRecDepth 100000 in
theorem kX3_add (l : Launch) (dC : Nat → ClassId) (dI : Nat → Nat → Nat) (g : cG) (h : Nat → Nat) (u : cS) (sz : Nat) (x1 : Int32) (hr : 0 ≤ (k_umade u).toInt ∧ (k_umade u).toInt < 120) : Met l yX3_add wsX3_add ({ frames := 0, cells := 0, slots := 0, locals := 0 }) (va_Pc [.ref (h 2), .int x1] (fun U => U.heap.size = sz ∧ va_P (dC, dI) vwCl (cw g h u) U.heap ∧ va_K (dC, dI) vwCl (cTys g) U ∧ va_D (fun _ => True) (cw g h u))) (va_Qi (fun (r : Int32) u2 => (r, u2) = fX3_add u x1) (fun (u2 : cS) (t : State) => va_P (dC, dI) vwCl (cw g h u2) t.heap ∧ va_D (va_A (cw g h u) sz) (cw g h u2)) (va_A (cw g h u) sz)) 0 0 (va_A (cw g h u) sz) := by
  refine Met.ofW (cc := cX3_add) (maxL := 2) (ret := (some .int)) (by decide) rfl ?_
  intro p e s m args below meth c s₁ B hml hv
  obtain ⟨rfl, hsz, hP, hK, hD0⟩ := hv
  have hx := B.exec
  have hb := B.bytes
  have hr := B.returns
  have hts := atoms_spec (ws := wsX3_add) B.pre
  have hown : s.vm.findClass RX3 = some m.cls := findClass_of_methodNamed B.named
  have hlocks := B.notSynchronized
  subst hsz
  have hD := hD0.self (sz := s.heap.size)
  generalize hAe : va_A (cw g h u) s.heap.size = A at hD ⊢
  have hA : ∀ q : Nat, s.heap.size ≤ q → A q := fun q h => by rw [← hAe]; exact Or.inr h
  have hS : va_S A s.heap s.heap [] := va_S.rf
  have hl := lv_entry ([.ref (h 2), .int x1]) (n := 2) (Nat.le_of_ble_eq_true rfl)
  rw [lg_entry_eq]
  generalize (lg_sl ([.ref (h 2), .int x1]) ++ List.replicate (2 - (lg_sl ([.ref (h 2), .int x1])).length) Slot.unset).toArray = ls at hl ⊢
  have hl : lv_has ls 2 [(0, .ref (h 2)), (1, .int x1)] := hl
  have hm1 := i_inc (x := k_umade u) (by omega)
  refine lv_aload_n hx hb dX3_add_0 rfl (lv_at hl 0 rfl) ?_
  refine lv_dup hx hb dX3_add_1 rfl ?_
  refine va_get (D := (dC, dI)) (C := RX3) (T := TX3) (N := 7) (v := .int (k_umade u)) hx hb hts (fi_X3 _) hown hK hP 2 (cw_at2 _ _ _) rfl 5 (by decide) (hts _ (List.mem_cons_of_mem _ wd_43)) (fun _ h9 => h9) rfl dX3_add_2 ?_
  refine lv_iconst (v := 1) hx hb dX3_add_5 (by decide) ?_
  refine lv_iadd hx hb dX3_add_6 ?_
  refine va_put (D := (dC, dI)) (C := RX3) (T := TX3) (N := 7) (v := .int ((k_umade u) + 1)) (ty := .int) hx hb hts (fi_X3 _) tyX3 tyX3_ok nmX3 hown hK hP hD hS 2 (cw_at2 _ _ _) rfl 5 (by decide) (hts _ (List.mem_cons_of_mem _ wd_43)) (fun _ h9 => h9) rfl (by decide +kernel) rfl rfl (Nat.le_of_ble_eq_true rfl) dX3_add_7 (fun H locs hP hD hS => ?_)
  have hP : va_P (dC, dI) vwCl (cw g h (s_umade u ((k_umade u) + 1))) H := hP
  have hD : va_D A (cw g h (s_umade u ((k_umade u) + 1))) := hD
  refine lv_aload_n hx hb dX3_add_10 rfl (lv_at hl 0 rfl) ?_
  refine va_get (D := (dC, dI)) (C := RX3) (T := TX3) (N := 7) (v := .ref (h 16)) hx hb hts (fi_X3 _) hown hK hP 2 (cw_at2 _ _ _) rfl 0 (by decide) (hts _ (List.mem_cons_of_mem _ wd_45)) (fun _ h9 => h9) rfl dX3_add_11 ?_
  refine lv_aload_n hx hb dX3_add_14 rfl (lv_at hl 0 rfl) ?_
  refine va_get (D := (dC, dI)) (C := RX3) (T := TX3) (N := 7) (v := .int ((k_umade u) + 1)) hx hb hts (fi_X3 _) hown hK hP 2 (cw_at2 _ _ _) rfl 5 (by decide) (hts _ (List.mem_cons_of_mem _ wd_43)) (fun _ h9 => h9) rfl dX3_add_15 ?_
  refine lv_iload_n hx hb dX3_add_18 rfl (lv_at hl 1 rfl) ?_
  refine va_iast (f := k_ulot u) hx hb hK hP hD hS 16 0 (cw_at16 _ _ _) rfl (vp_in_iff.mpr (by omega)) dX3_add_19 (fun H locs hP hD hS => ?_)
  have hP : va_P (dC, dI) vwCl (cw g h (s_ulot (s_umade u ((k_umade u) + 1)) (upd (k_ulot u) ((k_umade u) + 1).toNatClampNeg x1))) H := hP
  have hD : va_D A (cw g h (s_ulot (s_umade u ((k_umade u) + 1)) (upd (k_ulot u) ((k_umade u) + 1).toNatClampNeg x1))) := hD
  refine lv_aload_n hx hb dX3_add_20 rfl (lv_at hl 0 rfl) ?_
  refine va_get (D := (dC, dI)) (C := RX3) (T := TX3) (N := 7) (v := .ref (h 17)) hx hb hts (fi_X3 _) hown hK hP 2 (cw_at2 _ _ _) rfl 1 (by decide) (hts _ (List.mem_cons_of_mem _ wd_70)) (fun _ h9 => h9) rfl dX3_add_21 ?_
  refine lv_aload_n hx hb dX3_add_24 rfl (lv_at hl 0 rfl) ?_
  refine va_get (D := (dC, dI)) (C := RX3) (T := TX3) (N := 7) (v := .int ((k_umade u) + 1)) hx hb hts (fi_X3 _) hown hK hP 2 (cw_at2 _ _ _) rfl 5 (by decide) (hts _ (List.mem_cons_of_mem _ wd_43)) (fun _ h9 => h9) rfl dX3_add_25 ?_
  refine lv_iconst (v := (-1)) hx hb dX3_add_28 (by decide) ?_
  refine va_iast (f := k_ubin u) hx hb hK hP hD hS 17 0 (cw_at17 _ _ _) rfl (vp_in_iff.mpr (by omega)) dX3_add_29 (fun H locs hP hD hS => ?_)
  have hP : va_P (dC, dI) vwCl (cw g h (s_ubin (s_ulot (s_umade u ((k_umade u) + 1)) (upd (k_ulot u) ((k_umade u) + 1).toNatClampNeg x1)) (upd (k_ubin u) ((k_umade u) + 1).toNatClampNeg (-1)))) H := hP
  have hD : va_D A (cw g h (s_ubin (s_ulot (s_umade u ((k_umade u) + 1)) (upd (k_ulot u) ((k_umade u) + 1).toNatClampNeg x1)) (upd (k_ubin u) ((k_umade u) + 1).toNatClampNeg (-1)))) := hD
  refine lv_aload_n hx hb dX3_add_30 rfl (lv_at hl 0 rfl) ?_
  refine va_get (D := (dC, dI)) (C := RX3) (T := TX3) (N := 7) (v := .ref (h 18)) hx hb hts (fi_X3 _) hown hK hP 2 (cw_at2 _ _ _) rfl 2 (by decide) (hts _ (List.mem_cons_of_mem _ wd_44)) (fun _ h9 => h9) rfl dX3_add_31 ?_
  refine lv_aload_n hx hb dX3_add_34 rfl (lv_at hl 0 rfl) ?_
  refine va_get (D := (dC, dI)) (C := RX3) (T := TX3) (N := 7) (v := .int ((k_umade u) + 1)) hx hb hts (fi_X3 _) hown hK hP 2 (cw_at2 _ _ _) rfl 5 (by decide) (hts _ (List.mem_cons_of_mem _ wd_43)) (fun _ h9 => h9) rfl dX3_add_35 ?_
  refine lv_iconst (v := (-1)) hx hb dX3_add_38 (by decide) ?_
  refine va_iast (f := k_ucust u) hx hb hK hP hD hS 18 0 (cw_at18 _ _ _) rfl (vp_in_iff.mpr (by omega)) dX3_add_39 (fun H locs hP hD hS => ?_)
  have hP : va_P (dC, dI) vwCl (cw g h (s_ucust (s_ubin (s_ulot (s_umade u ((k_umade u) + 1)) (upd (k_ulot u) ((k_umade u) + 1).toNatClampNeg x1)) (upd (k_ubin u) ((k_umade u) + 1).toNatClampNeg (-1))) (upd (k_ucust u) ((k_umade u) + 1).toNatClampNeg (-1)))) H := hP
  have hD : va_D A (cw g h (s_ucust (s_ubin (s_ulot (s_umade u ((k_umade u) + 1)) (upd (k_ulot u) ((k_umade u) + 1).toNatClampNeg x1)) (upd (k_ubin u) ((k_umade u) + 1).toNatClampNeg (-1))) (upd (k_ucust u) ((k_umade u) + 1).toNatClampNeg (-1)))) := hD
  refine lv_aload_n hx hb dX3_add_40 rfl (lv_at hl 0 rfl) ?_
  refine va_get (D := (dC, dI)) (C := RX3) (T := TX3) (N := 7) (v := .ref (h 19)) hx hb hts (fi_X3 _) hown hK hP 2 (cw_at2 _ _ _) rfl 3 (by decide) (hts _ (List.mem_cons_of_mem _ wd_71)) (fun _ h9 => h9) rfl dX3_add_41 ?_
  refine lv_aload_n hx hb dX3_add_44 rfl (lv_at hl 0 rfl) ?_
  refine va_get (D := (dC, dI)) (C := RX3) (T := TX3) (N := 7) (v := .int ((k_umade u) + 1)) hx hb hts (fi_X3 _) hown hK hP 2 (cw_at2 _ _ _) rfl 5 (by decide) (hts _ (List.mem_cons_of_mem _ wd_43)) (fun _ h9 => h9) rfl dX3_add_45 ?_
  refine lv_iconst (v := (-1)) hx hb dX3_add_48 (by decide) ?_
  refine va_iast (f := k_uday u) hx hb hK hP hD hS 19 0 (cw_at19 _ _ _) rfl (vp_in_iff.mpr (by omega)) dX3_add_49 (fun H locs hP hD hS => ?_)
  have hP : va_P (dC, dI) vwCl (cw g h (s_uday (s_ucust (s_ubin (s_ulot (s_umade u ((k_umade u) + 1)) (upd (k_ulot u) ((k_umade u) + 1).toNatClampNeg x1)) (upd (k_ubin u) ((k_umade u) + 1).toNatClampNeg (-1))) (upd (k_ucust u) ((k_umade u) + 1).toNatClampNeg (-1))) (upd (k_uday u) ((k_umade u) + 1).toNatClampNeg (-1)))) H := hP
  have hD : va_D A (cw g h (s_uday (s_ucust (s_ubin (s_ulot (s_umade u ((k_umade u) + 1)) (upd (k_ulot u) ((k_umade u) + 1).toNatClampNeg x1)) (upd (k_ubin u) ((k_umade u) + 1).toNatClampNeg (-1))) (upd (k_ucust u) ((k_umade u) + 1).toNatClampNeg (-1))) (upd (k_uday u) ((k_umade u) + 1).toNatClampNeg (-1)))) := hD
  refine lv_aload_n hx hb dX3_add_50 rfl (lv_at hl 0 rfl) ?_
  refine va_get (D := (dC, dI)) (C := RX3) (T := TX3) (N := 7) (v := .ref (h 20)) hx hb hts (fi_X3 _) hown hK hP 2 (cw_at2 _ _ _) rfl 4 (by decide) (hts _ (List.mem_cons_of_mem _ wd_51)) (fun _ h9 => h9) rfl dX3_add_51 ?_
  refine lv_aload_n hx hb dX3_add_54 rfl (lv_at hl 0 rfl) ?_
  refine va_get (D := (dC, dI)) (C := RX3) (T := TX3) (N := 7) (v := .int ((k_umade u) + 1)) hx hb hts (fi_X3 _) hown hK hP 2 (cw_at2 _ _ _) rfl 5 (by decide) (hts _ (List.mem_cons_of_mem _ wd_43)) (fun _ h9 => h9) rfl dX3_add_55 ?_
  refine lv_iload_n hx hb dX3_add_58 rfl (lv_at hl 1 rfl) ?_
  refine va_iast (f := k_ufirst u) hx hb hK hP hD hS 20 0 (cw_at20 _ _ _) rfl (vp_in_iff.mpr (by omega)) dX3_add_59 (fun H locs hP hD hS => ?_)
  have hP : va_P (dC, dI) vwCl (cw g h (s_ufirst (s_uday (s_ucust (s_ubin (s_ulot (s_umade u ((k_umade u) + 1)) (upd (k_ulot u) ((k_umade u) + 1).toNatClampNeg x1)) (upd (k_ubin u) ((k_umade u) + 1).toNatClampNeg (-1))) (upd (k_ucust u) ((k_umade u) + 1).toNatClampNeg (-1))) (upd (k_uday u) ((k_umade u) + 1).toNatClampNeg (-1))) (upd (k_ufirst u) ((k_umade u) + 1).toNatClampNeg x1))) H := hP
  have hD : va_D A (cw g h (s_ufirst (s_uday (s_ucust (s_ubin (s_ulot (s_umade u ((k_umade u) + 1)) (upd (k_ulot u) ((k_umade u) + 1).toNatClampNeg x1)) (upd (k_ubin u) ((k_umade u) + 1).toNatClampNeg (-1))) (upd (k_ucust u) ((k_umade u) + 1).toNatClampNeg (-1))) (upd (k_uday u) ((k_umade u) + 1).toNatClampNeg (-1))) (upd (k_ufirst u) ((k_umade u) + 1).toNatClampNeg x1))) := hD
  refine lv_aload_n hx hb dX3_add_60 rfl (lv_at hl 0 rfl) ?_
  refine va_get (D := (dC, dI)) (C := RX3) (T := TX3) (N := 7) (v := .int ((k_umade u) + 1)) hx hb hts (fi_X3 _) hown hK hP 2 (cw_at2 _ _ _) rfl 5 (by decide) (hts _ (List.mem_cons_of_mem _ wd_43)) (fun _ h9 => h9) rfl dX3_add_61 ?_
  exact W.iret (v := (k_umade u) + 1) hx hb hr (fun t ht hW => ⟨⟨((k_umade u) + 1), (s_ufirst (s_uday (s_ucust (s_ubin (s_ulot (s_umade u ((k_umade u) + 1)) (upd (k_ulot u) ((k_umade u) + 1).toNatClampNeg x1)) (upd (k_ubin u) ((k_umade u) + 1).toNatClampNeg (-1))) (upd (k_ucust u) ((k_umade u) + 1).toNatClampNeg (-1))) (upd (k_uday u) ((k_umade u) + 1).toNatClampNeg (-1))) (upd (k_ufirst u) ((k_umade u) + 1).toNatClampNeg x1)), rfl, rfl, by rw [ht]; exact hP, hD⟩, hS.F ht⟩) hS.2.2 dX3_add_64
set_option maxHeartbeats 4000000 in
set_option maxRecDepth 100000 in
theorem kX3_send (l : Launch) (dC : Nat → ClassId) (dI : Nat → Nat → Nat) (g : cG) (h : Nat → Nat) (u : cS) (sz : Nat) (x1 : Int32) (x2 : Int32) (x3 : Int32) (h1 : 0 ≤ x1.toInt ∧ x1.toInt ≤ 120) : Met l yX3_send wsX3_send ({ frames := 0, cells := 0, slots := 0, locals := 0 }) (va_Pc [.ref (h 2), .int x1, .int x2, .int x3] (fun U => U.heap.size = sz ∧ va_P (dC, dI) vwCl (cw g h u) U.heap ∧ va_K (dC, dI) vwCl (cTys g) U ∧ va_D (fun _ => True) (cw g h u))) (va_Qv (fun u2 => u2 = fX3_send u x1 x2 x3) (fun (u2 : cS) (t : State) => va_P (dC, dI) vwCl (cw g h u2) t.heap ∧ va_D (va_A (cw g h u) sz) (cw g h u2)) (va_A (cw g h u) sz)) 0 0 (va_A (cw g h u) sz) := by
  refine Met.ofW (cc := cX3_send) (maxL := 4) (ret := none) (by decide) rfl ?_
  intro p e s m args below meth c s₁ B hml hv
  obtain ⟨rfl, hsz, hP, hK, hD0⟩ := hv
  have hx := B.exec
  have hb := B.bytes
  have hr := B.returns
  have hts := atoms_spec (ws := wsX3_send) B.pre
  have hown : s.vm.findClass RX3 = some m.cls := findClass_of_methodNamed B.named
  have hlocks := B.notSynchronized
  subst hsz
  have hD := hD0.self (sz := s.heap.size)
  generalize hAe : va_A (cw g h u) s.heap.size = A at hD ⊢
  have hA : ∀ q : Nat, s.heap.size ≤ q → A q := fun q h => by rw [← hAe]; exact Or.inr h
  have hS : va_S A s.heap s.heap [] := va_S.rf
  have hl := lv_entry ([.ref (h 2), .int x1, .int x2, .int x3]) (n := 4) (Nat.le_of_ble_eq_true rfl)
  rw [lg_entry_eq]
  generalize (lg_sl ([.ref (h 2), .int x1, .int x2, .int x3]) ++ List.replicate (4 - (lg_sl ([.ref (h 2), .int x1, .int x2, .int x3])).length) Slot.unset).toArray = ls at hl ⊢
  have hl : lv_has ls 4 [(0, .ref (h 2)), (1, .int x1), (2, .int x2), (3, .int x3)] := hl
  refine lv_aload_n hx hb dX3_send_0 rfl (lv_at hl 0 rfl) ?_
  refine va_get (D := (dC, dI)) (C := RX3) (T := TX3) (N := 7) (v := .ref (h 17)) hx hb hts (fi_X3 _) hown hK hP 2 (cw_at2 _ _ _) rfl 1 (by decide) (hts _ (List.mem_cons_of_mem _ wd_70)) (fun _ h9 => h9) rfl dX3_send_1 ?_
  refine lv_iload_n hx hb dX3_send_4 rfl (lv_at hl 1 rfl) ?_
  refine lv_iconst (v := (-1)) hx hb dX3_send_5 (by decide) ?_
  refine va_iast (f := k_ubin u) hx hb hK hP hD hS 17 0 (cw_at17 _ _ _) rfl (vp_in_iff.mpr (by omega)) dX3_send_6 (fun H locs hP hD hS => ?_)
  have hP : va_P (dC, dI) vwCl (cw g h (s_ubin u (upd (k_ubin u) x1.toNatClampNeg (-1)))) H := hP
  have hD : va_D A (cw g h (s_ubin u (upd (k_ubin u) x1.toNatClampNeg (-1)))) := hD
  refine lv_aload_n hx hb dX3_send_7 rfl (lv_at hl 0 rfl) ?_
  refine va_get (D := (dC, dI)) (C := RX3) (T := TX3) (N := 7) (v := .ref (h 18)) hx hb hts (fi_X3 _) hown hK hP 2 (cw_at2 _ _ _) rfl 2 (by decide) (hts _ (List.mem_cons_of_mem _ wd_44)) (fun _ h9 => h9) rfl dX3_send_8 ?_
  refine lv_iload_n hx hb dX3_send_11 rfl (lv_at hl 1 rfl) ?_
  refine lv_iload_n hx hb dX3_send_12 rfl (lv_at hl 2 rfl) ?_
  refine va_iast (f := k_ucust u) hx hb hK hP hD hS 18 0 (cw_at18 _ _ _) rfl (vp_in_iff.mpr (by omega)) dX3_send_13 (fun H locs hP hD hS => ?_)
  have hP : va_P (dC, dI) vwCl (cw g h (s_ucust (s_ubin u (upd (k_ubin u) x1.toNatClampNeg (-1))) (upd (k_ucust u) x1.toNatClampNeg x2))) H := hP
  have hD : va_D A (cw g h (s_ucust (s_ubin u (upd (k_ubin u) x1.toNatClampNeg (-1))) (upd (k_ucust u) x1.toNatClampNeg x2))) := hD
  refine lv_aload_n hx hb dX3_send_14 rfl (lv_at hl 0 rfl) ?_
  refine va_get (D := (dC, dI)) (C := RX3) (T := TX3) (N := 7) (v := .ref (h 19)) hx hb hts (fi_X3 _) hown hK hP 2 (cw_at2 _ _ _) rfl 3 (by decide) (hts _ (List.mem_cons_of_mem _ wd_71)) (fun _ h9 => h9) rfl dX3_send_15 ?_
  refine lv_iload_n hx hb dX3_send_18 rfl (lv_at hl 1 rfl) ?_
  refine lv_iload_n hx hb dX3_send_19 rfl (lv_at hl 3 rfl) ?_
  refine va_iast (f := k_uday u) hx hb hK hP hD hS 19 0 (cw_at19 _ _ _) rfl (vp_in_iff.mpr (by omega)) dX3_send_20 (fun H locs hP hD hS => ?_)
  have hP : va_P (dC, dI) vwCl (cw g h (s_uday (s_ucust (s_ubin u (upd (k_ubin u) x1.toNatClampNeg (-1))) (upd (k_ucust u) x1.toNatClampNeg x2)) (upd (k_uday u) x1.toNatClampNeg x3))) H := hP
  have hD : va_D A (cw g h (s_uday (s_ucust (s_ubin u (upd (k_ubin u) x1.toNatClampNeg (-1))) (upd (k_ucust u) x1.toNatClampNeg x2)) (upd (k_uday u) x1.toNatClampNeg x3))) := hD
  refine lv_aload_n hx hb dX3_send_21 rfl (lv_at hl 0 rfl) ?_
  refine lv_dup hx hb dX3_send_22 rfl ?_
  refine va_get (D := (dC, dI)) (C := RX3) (T := TX3) (N := 7) (v := .int (k_ugone u)) hx hb hts (fi_X3 _) hown hK hP 2 (cw_at2 _ _ _) rfl 6 (by decide) (hts _ (List.mem_cons_of_mem _ wd_72)) (fun _ h9 => h9) rfl dX3_send_23 ?_
  refine lv_iconst (v := 1) hx hb dX3_send_26 (by decide) ?_
  refine lv_iadd hx hb dX3_send_27 ?_
  refine va_put (D := (dC, dI)) (C := RX3) (T := TX3) (N := 7) (v := .int ((k_ugone u) + 1)) (ty := .int) hx hb hts (fi_X3 _) tyX3 tyX3_ok nmX3 hown hK hP hD hS 2 (cw_at2 _ _ _) rfl 6 (by decide) (hts _ (List.mem_cons_of_mem _ wd_72)) (fun _ h9 => h9) rfl (by decide +kernel) rfl rfl (Nat.le_of_ble_eq_true rfl) dX3_send_28 (fun H locs hP hD hS => ?_)
  have hP : va_P (dC, dI) vwCl (cw g h (s_ugone (s_uday (s_ucust (s_ubin u (upd (k_ubin u) x1.toNatClampNeg (-1))) (upd (k_ucust u) x1.toNatClampNeg x2)) (upd (k_uday u) x1.toNatClampNeg x3)) ((k_ugone u) + 1))) H := hP
  have hD : va_D A (cw g h (s_ugone (s_uday (s_ucust (s_ubin u (upd (k_ubin u) x1.toNatClampNeg (-1))) (upd (k_ucust u) x1.toNatClampNeg x2)) (upd (k_uday u) x1.toNatClampNeg x3)) ((k_ugone u) + 1))) := hD
  exact W.vret hx hb hr (fun t ht hW => ⟨⟨(s_ugone (s_uday (s_ucust (s_ubin u (upd (k_ubin u) x1.toNatClampNeg (-1))) (upd (k_ucust u) x1.toNatClampNeg x2)) (upd (k_uday u) x1.toNatClampNeg x3)) ((k_ugone u) + 1)), rfl, rfl, by rw [ht]; exact hP, hD⟩, hS.F ht⟩) hS.2.2 dX3_send_31
set_option maxHeartbeats 4000000 in
set_option maxRecDepth 100000 in
theorem kX3_moveAll (l : Launch) (dC : Nat → ClassId) (dI : Nat → Nat → Nat) (g : cG) (h : Nat → Nat) (u : cS) (sz : Nat) (x1 : Int32) (x2 : Int32) (hr : 0 ≤ (k_umade u).toInt ∧ (k_umade u).toInt ≤ 120) : Met l yX3_moveAll wsX3_moveAll ({ frames := 0, cells := 0, slots := 0, locals := 0 }) (va_Pc [.ref (h 2), .int x1, .int x2] (fun U => U.heap.size = sz ∧ va_P (dC, dI) vwCl (cw g h u) U.heap ∧ va_K (dC, dI) vwCl (cTys g) U ∧ va_D (fun _ => True) (cw g h u))) (va_Qv (fun u2 => u2 = fX3_moveAll u x1 x2) (fun (u2 : cS) (t : State) => va_P (dC, dI) vwCl (cw g h u2) t.heap ∧ va_D (va_A (cw g h u) sz) (cw g h u2)) (va_A (cw g h u) sz)) 0 0 (va_A (cw g h u) sz) := by
  refine Met.ofW (cc := cX3_moveAll) (maxL := 4) (ret := none) (by decide) rfl ?_
  intro p e s m args below meth c s₁ B hml hv
  obtain ⟨rfl, hsz, hP, hK, hD0⟩ := hv
  have hx := B.exec
  have hb := B.bytes
  have hr := B.returns
  have hts := atoms_spec (ws := wsX3_moveAll) B.pre
  have hown : s.vm.findClass RX3 = some m.cls := findClass_of_methodNamed B.named
  have hlocks := B.notSynchronized
  subst hsz
  have hD := hD0.self (sz := s.heap.size)
  generalize hAe : va_A (cw g h u) s.heap.size = A at hD ⊢
  have hA : ∀ q : Nat, s.heap.size ≤ q → A q := fun q h => by rw [← hAe]; exact Or.inr h
  have hS : va_S A s.heap s.heap [] := va_S.rf
  have hl := lv_entry ([.ref (h 2), .int x1, .int x2]) (n := 4) (Nat.le_of_ble_eq_true rfl)
  rw [lg_entry_eq]
  generalize (lg_sl ([.ref (h 2), .int x1, .int x2]) ++ List.replicate (4 - (lg_sl ([.ref (h 2), .int x1, .int x2])).length) Slot.unset).toArray = ls at hl ⊢
  have hl : lv_has ls 4 [(0, .ref (h 2)), (1, .int x1), (2, .int x2)] := hl
  have z_0 : (1 : Int32).toInt = 1 := by decide
  refine lv_iconst (v := 1) hx hb dX3_moveAll_0 (by decide) ?_
  refine lv_istore_n (lv' := [(3, .int 1), (0, .ref (h 2)), (1, .int x1), (2, .int x2)]) hx hb dX3_moveAll_1 rfl hl (by decide) rfl (fun ls hl => ?_)
  refine lp_indH (fun H locs => W p l e _ s m _ below meth c H locs _ _ _) (fun n H locs ls => ∃ (i : Int32) (v : cS), ((k_umade v).toInt - i.toInt + 1 < (n : Int)) ∧ (1 ≤ i.toInt ∧ i.toInt ≤ 121 ∧ i.toInt ≤ (k_umade v).toInt + 1) ∧ (0 ≤ (k_umade v).toInt ∧ (k_umade v).toInt ≤ 120) ∧ fX3_moveAll u x1 x2 = lpX3_moveAll x1 x2 n i v ∧ va_P (dC, dI) vwCl (cw g h v) H ∧ va_D A (cw g h v) ∧ va_S A s.heap H locs ∧ lv_has ls 4 [(3, .int i), (0, .ref (h 2)), (1, .int x1), (2, .int x2)]) m 2 (fun H locs ls hI0 => ?_) (fun n H locs ls hI0 ih => ?_) 121 _ _ _ ⟨1, u, (by omega), (by omega), (by omega), rfl, hP, hD, hS, lv_sub hl [0, 1, 2, 3] rfl⟩
  · skip
    obtain ⟨i, v, hn, hi, hv, he, hP, hD, hS, hl⟩ := hI0
    exact absurd hn (by omega)
  · skip
    obtain ⟨i, v, hn, hi, hv, he, hP, hD, hS, hl⟩ := hI0
    have he_3 := he
    have ih_2 := ih
    refine lv_iload_n hx hb dX3_moveAll_2 rfl (lv_at hl 0 rfl) ?_
    refine lv_aload_n hx hb dX3_moveAll_3 rfl (lv_at hl 1 rfl) ?_
    refine va_get (D := (dC, dI)) (C := RX3) (T := TX3) (N := 7) (v := .int (k_umade v)) hx hb hts (fi_X3 _) hown hK hP 2 (cw_at2 _ _ _) rfl 5 (by decide) (hts _ (List.mem_cons_of_mem _ wd_43)) (fun _ h9 => h9) rfl dX3_moveAll_4 ?_
    refine lv_icmp_gt (tgt := 33) hx hb dX3_moveAll_7 (by decide) (fun c_4 => ?_) (fun c_4 => ?_)
    · skip
      have t_5 : (k_umade v).toInt < i.toInt := i_lt c_4 rfl rfl
      exact W.vret hx hb hr (fun t ht hW => ⟨⟨v, rfl, (by rw [he_3, lpX3_moveAll_eq, if_pos c_4]), by rw [ht]; exact hP, hD⟩, hS.F ht⟩) hS.2.2 dX3_moveAll_33
    · skip
      have t_6 : i.toInt ≤ (k_umade v).toInt := i_nlt c_4 rfl rfl
      refine lv_aload_n hx hb dX3_moveAll_10 rfl (lv_at hl 1 rfl) ?_
      refine va_get (D := (dC, dI)) (C := RX3) (T := TX3) (N := 7) (v := .ref (h 16)) hx hb hts (fi_X3 _) hown hK hP 2 (cw_at2 _ _ _) rfl 0 (by decide) (hts _ (List.mem_cons_of_mem _ wd_45)) (fun _ h9 => h9) rfl dX3_moveAll_11 ?_
      refine lv_iload_n hx hb dX3_moveAll_14 rfl (lv_at hl 0 rfl) ?_
      refine va_iald (f := k_ulot v) hx hb hK hP 16 0 (cw_at16 _ _ _) rfl (vp_in_iff.mpr (by omega)) dX3_moveAll_15 ?_
      refine lv_iload_n hx hb dX3_moveAll_16 rfl (lv_at hl 2 rfl) ?_
      refine lv_icmp_ne (tgt := 27) hx hb dX3_moveAll_17 (by decide) (fun c_7 => ?_) (fun c_7 => ?_)
      · skip
        have t_8 : (k_ulot v i.toNatClampNeg).toInt ≠ x1.toInt := i_ne c_7 rfl rfl
        refine lv_iinc (v := i + 1) (lv' := [(3, .int (i + 1)), (0, .ref (h 2)), (1, .int x1), (2, .int x2)]) hx hb dX3_moveAll_27 hl (k := 0) rfl rfl (by decide) rfl (fun ls hl => ?_)
        refine lv_goto (tgt := 2) hx hb dX3_moveAll_30 (by decide) ?_
        have hb1 := i_inc (x := i) (by omega)
        exact ih_2 _ _ _ ⟨(i + 1), v, (by have e9 : k_umade v = k_umade v := rfl; rw [e9]; omega), (by have e9 : k_umade v = k_umade v := rfl; rw [e9]; omega), (by have e9 : k_umade v = k_umade v := rfl; rw [e9]; omega), (by rw [he_3, lpX3_moveAll_eq, if_neg c_4, if_neg c_7]), hP, hD, hS, lv_sub hl [0, 1, 2, 3] rfl⟩
      · skip
        have t_9 : (k_ulot v i.toNatClampNeg).toInt = x1.toInt := i_eq c_7 rfl rfl
        refine lv_aload_n hx hb dX3_moveAll_20 rfl (lv_at hl 1 rfl) ?_
        refine va_get (D := (dC, dI)) (C := RX3) (T := TX3) (N := 7) (v := .ref (h 16)) hx hb hts (fi_X3 _) hown hK hP 2 (cw_at2 _ _ _) rfl 0 (by decide) (hts _ (List.mem_cons_of_mem _ wd_45)) (fun _ h9 => h9) rfl dX3_moveAll_21 ?_
        refine lv_iload_n hx hb dX3_moveAll_24 rfl (lv_at hl 0 rfl) ?_
        refine lv_iload_n hx hb dX3_moveAll_25 rfl (lv_at hl 3 rfl) ?_
        refine va_iast (f := k_ulot v) hx hb hK hP hD hS 16 0 (cw_at16 _ _ _) rfl (vp_in_iff.mpr (by omega)) dX3_moveAll_26 (fun H locs hP hD hS => ?_)
        have hP : va_P (dC, dI) vwCl (cw g h (s_ulot v (upd (k_ulot v) i.toNatClampNeg x2))) H := hP
        have hD : va_D A (cw g h (s_ulot v (upd (k_ulot v) i.toNatClampNeg x2))) := hD
        refine lv_iinc (v := i + 1) (lv' := [(3, .int (i + 1)), (0, .ref (h 2)), (1, .int x1), (2, .int x2)]) hx hb dX3_moveAll_27 hl (k := 0) rfl rfl (by decide) rfl (fun ls hl => ?_)
        refine lv_goto (tgt := 2) hx hb dX3_moveAll_30 (by decide) ?_
        have hb1 := i_inc (x := i) (by omega)
        exact ih_2 _ _ _ ⟨(i + 1), (s_ulot v (upd (k_ulot v) i.toNatClampNeg x2)), (by have e9 : k_umade (s_ulot v (upd (k_ulot v) i.toNatClampNeg x2)) = k_umade v := rfl; rw [e9]; omega), (by have e9 : k_umade (s_ulot v (upd (k_ulot v) i.toNatClampNeg x2)) = k_umade v := rfl; rw [e9]; omega), (by have e9 : k_umade (s_ulot v (upd (k_ulot v) i.toNatClampNeg x2)) = k_umade v := rfl; rw [e9]; omega), (by rw [he_3, lpX3_moveAll_eq, if_neg c_4, if_pos c_7]), hP, hD, hS, lv_sub hl [0, 1, 2, 3] rfl⟩
set_option maxHeartbeats 4000000 in
set_option maxRecDepth 100000 in
theorem kX2_write (l : Launch) (dC : Nat → ClassId) (dI : Nat → Nat → Nat) (g : cG) (h : Nat → Nat) (u : cS) (sz : Nat) (x1 : Int32) (x2 : Int32) (x3 : Int32) (hr : 0 ≤ (k_rwrit u).toInt ∧ (k_rwrit u).toInt < 400) : Met l yX2_write wsX2_write ({ frames := 0, cells := 0, slots := 0, locals := 0 }) (va_Pc [.ref (h 3), .int x1, .int x2, .int x3] (fun U => U.heap.size = sz ∧ va_P (dC, dI) vwCl (cw g h u) U.heap ∧ va_K (dC, dI) vwCl (cTys g) U ∧ va_D (fun _ => True) (cw g h u))) (va_Qv (fun u2 => u2 = fX2_write u x1 x2 x3) (fun (u2 : cS) (t : State) => va_P (dC, dI) vwCl (cw g h u2) t.heap ∧ va_D (va_A (cw g h u) sz) (cw g h u2)) (va_A (cw g h u) sz)) 0 0 (va_A (cw g h u) sz) := by
  refine Met.ofW (cc := cX2_write) (maxL := 4) (ret := none) (by decide) rfl ?_
  intro p e s m args below meth c s₁ B hml hv
  obtain ⟨rfl, hsz, hP, hK, hD0⟩ := hv
  have hx := B.exec
  have hb := B.bytes
  have hr := B.returns
  have hts := atoms_spec (ws := wsX2_write) B.pre
  have hown : s.vm.findClass RX2 = some m.cls := findClass_of_methodNamed B.named
  have hlocks := B.notSynchronized
  subst hsz
  have hD := hD0.self (sz := s.heap.size)
  generalize hAe : va_A (cw g h u) s.heap.size = A at hD ⊢
  have hA : ∀ q : Nat, s.heap.size ≤ q → A q := fun q h => by rw [← hAe]; exact Or.inr h
  have hS : va_S A s.heap s.heap [] := va_S.rf
  have hl := lv_entry ([.ref (h 3), .int x1, .int x2, .int x3]) (n := 4) (Nat.le_of_ble_eq_true rfl)
  rw [lg_entry_eq]
  generalize (lg_sl ([.ref (h 3), .int x1, .int x2, .int x3]) ++ List.replicate (4 - (lg_sl ([.ref (h 3), .int x1, .int x2, .int x3])).length) Slot.unset).toArray = ls at hl ⊢
  have hl : lv_has ls 4 [(0, .ref (h 3)), (1, .int x1), (2, .int x2), (3, .int x3)] := hl
  have hm2 := i_inc (x := k_rwrit u) (by omega)
  refine lv_aload_n hx hb dX2_write_0 rfl (lv_at hl 0 rfl) ?_
  refine va_get (D := (dC, dI)) (C := RX2) (T := TX2) (N := 4) (v := .ref (h 21)) hx hb hts (fi_X2 _) hown hK hP 3 (cw_at3 _ _ _) rfl 0 (by decide) (hts _ (List.mem_cons_of_mem _ wd_53)) (fun _ h9 => h9) rfl dX2_write_1 ?_
  refine lv_aload_n hx hb dX2_write_4 rfl (lv_at hl 0 rfl) ?_
  refine va_get (D := (dC, dI)) (C := RX2) (T := TX2) (N := 4) (v := .int (k_rwrit u)) hx hb hts (fi_X2 _) hown hK hP 3 (cw_at3 _ _ _) rfl 3 (by decide) (hts _ (List.mem_cons_of_mem _ wd_52)) (fun _ h9 => h9) rfl dX2_write_5 ?_
  refine lv_iload_n hx hb dX2_write_8 rfl (lv_at hl 1 rfl) ?_
  refine va_iast (f := k_rlot u) hx hb hK hP hD hS 21 0 (cw_at21 _ _ _) rfl (vp_in_iff.mpr (by omega)) dX2_write_9 (fun H locs hP hD hS => ?_)
  have hP : va_P (dC, dI) vwCl (cw g h (s_rlot u (upd (k_rlot u) (k_rwrit u).toNatClampNeg x1))) H := hP
  have hD : va_D A (cw g h (s_rlot u (upd (k_rlot u) (k_rwrit u).toNatClampNeg x1))) := hD
  refine lv_aload_n hx hb dX2_write_10 rfl (lv_at hl 0 rfl) ?_
  refine va_get (D := (dC, dI)) (C := RX2) (T := TX2) (N := 4) (v := .ref (h 22)) hx hb hts (fi_X2 _) hown hK hP 3 (cw_at3 _ _ _) rfl 1 (by decide) (hts _ (List.mem_cons_of_mem _ wd_73)) (fun _ h9 => h9) rfl dX2_write_11 ?_
  refine lv_aload_n hx hb dX2_write_14 rfl (lv_at hl 0 rfl) ?_
  refine va_get (D := (dC, dI)) (C := RX2) (T := TX2) (N := 4) (v := .int (k_rwrit u)) hx hb hts (fi_X2 _) hown hK hP 3 (cw_at3 _ _ _) rfl 3 (by decide) (hts _ (List.mem_cons_of_mem _ wd_52)) (fun _ h9 => h9) rfl dX2_write_15 ?_
  refine lv_iload_n hx hb dX2_write_18 rfl (lv_at hl 2 rfl) ?_
  refine va_iast (f := k_rkind u) hx hb hK hP hD hS 22 0 (cw_at22 _ _ _) rfl (vp_in_iff.mpr (by omega)) dX2_write_19 (fun H locs hP hD hS => ?_)
  have hP : va_P (dC, dI) vwCl (cw g h (s_rkind (s_rlot u (upd (k_rlot u) (k_rwrit u).toNatClampNeg x1)) (upd (k_rkind u) (k_rwrit u).toNatClampNeg x2))) H := hP
  have hD : va_D A (cw g h (s_rkind (s_rlot u (upd (k_rlot u) (k_rwrit u).toNatClampNeg x1)) (upd (k_rkind u) (k_rwrit u).toNatClampNeg x2))) := hD
  refine lv_aload_n hx hb dX2_write_20 rfl (lv_at hl 0 rfl) ?_
  refine va_get (D := (dC, dI)) (C := RX2) (T := TX2) (N := 4) (v := .ref (h 23)) hx hb hts (fi_X2 _) hown hK hP 3 (cw_at3 _ _ _) rfl 2 (by decide) (hts _ (List.mem_cons_of_mem _ wd_74)) (fun _ h9 => h9) rfl dX2_write_21 ?_
  refine lv_aload_n hx hb dX2_write_24 rfl (lv_at hl 0 rfl) ?_
  refine va_get (D := (dC, dI)) (C := RX2) (T := TX2) (N := 4) (v := .int (k_rwrit u)) hx hb hts (fi_X2 _) hown hK hP 3 (cw_at3 _ _ _) rfl 3 (by decide) (hts _ (List.mem_cons_of_mem _ wd_52)) (fun _ h9 => h9) rfl dX2_write_25 ?_
  refine lv_iload_n hx hb dX2_write_28 rfl (lv_at hl 3 rfl) ?_
  refine va_iast (f := k_rnum u) hx hb hK hP hD hS 23 0 (cw_at23 _ _ _) rfl (vp_in_iff.mpr (by omega)) dX2_write_29 (fun H locs hP hD hS => ?_)
  have hP : va_P (dC, dI) vwCl (cw g h (s_rnum (s_rkind (s_rlot u (upd (k_rlot u) (k_rwrit u).toNatClampNeg x1)) (upd (k_rkind u) (k_rwrit u).toNatClampNeg x2)) (upd (k_rnum u) (k_rwrit u).toNatClampNeg x3))) H := hP
  have hD : va_D A (cw g h (s_rnum (s_rkind (s_rlot u (upd (k_rlot u) (k_rwrit u).toNatClampNeg x1)) (upd (k_rkind u) (k_rwrit u).toNatClampNeg x2)) (upd (k_rnum u) (k_rwrit u).toNatClampNeg x3))) := hD
  refine lv_aload_n hx hb dX2_write_30 rfl (lv_at hl 0 rfl) ?_
  refine lv_dup hx hb dX2_write_31 rfl ?_
  refine va_get (D := (dC, dI)) (C := RX2) (T := TX2) (N := 4) (v := .int (k_rwrit u)) hx hb hts (fi_X2 _) hown hK hP 3 (cw_at3 _ _ _) rfl 3 (by decide) (hts _ (List.mem_cons_of_mem _ wd_52)) (fun _ h9 => h9) rfl dX2_write_32 ?_
  refine lv_iconst (v := 1) hx hb dX2_write_35 (by decide) ?_
  refine lv_iadd hx hb dX2_write_36 ?_
  refine va_put (D := (dC, dI)) (C := RX2) (T := TX2) (N := 4) (v := .int ((k_rwrit u) + 1)) (ty := .int) hx hb hts (fi_X2 _) tyX2 tyX2_ok nmX2 hown hK hP hD hS 3 (cw_at3 _ _ _) rfl 3 (by decide) (hts _ (List.mem_cons_of_mem _ wd_52)) (fun _ h9 => h9) rfl (by decide +kernel) rfl rfl (Nat.le_of_ble_eq_true rfl) dX2_write_37 (fun H locs hP hD hS => ?_)
  have hP : va_P (dC, dI) vwCl (cw g h (s_rwrit (s_rnum (s_rkind (s_rlot u (upd (k_rlot u) (k_rwrit u).toNatClampNeg x1)) (upd (k_rkind u) (k_rwrit u).toNatClampNeg x2)) (upd (k_rnum u) (k_rwrit u).toNatClampNeg x3)) ((k_rwrit u) + 1))) H := hP
  have hD : va_D A (cw g h (s_rwrit (s_rnum (s_rkind (s_rlot u (upd (k_rlot u) (k_rwrit u).toNatClampNeg x1)) (upd (k_rkind u) (k_rwrit u).toNatClampNeg x2)) (upd (k_rnum u) (k_rwrit u).toNatClampNeg x3)) ((k_rwrit u) + 1))) := hD
  exact W.vret hx hb hr (fun t ht hW => ⟨⟨(s_rwrit (s_rnum (s_rkind (s_rlot u (upd (k_rlot u) (k_rwrit u).toNatClampNeg x1)) (upd (k_rkind u) (k_rwrit u).toNatClampNeg x2)) (upd (k_rnum u) (k_rwrit u).toNatClampNeg x3)) ((k_rwrit u) + 1)), rfl, rfl, by rw [ht]; exact hP, hD⟩, hS.F ht⟩) hS.2.2 dX2_write_40