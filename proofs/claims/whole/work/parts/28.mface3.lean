set_option maxHeartbeats 4000000 in
set_option maxRecDepth 100000 in
theorem kX5_where (l : Launch) (dC : Nat → ClassId) (dI : Nat → Nat → Nat) (g : cG) (h : Nat → Nat) (u : mS) (sz : Nat) (x1 : Int32) (x2 : Int32) (hI : mInv u) : Met l yX5_where wsX5_where ({ frames := 2, cells := 0, slots := 0, locals := 43 }) (va_Pc [.ref (h 0), .int x1, .int x2] (fun U => U.heap.size = sz ∧ va_P (dC, dI) vwCl (mw g h u) U.heap ∧ va_K (dC, dI) vwCl (cTys g) U ∧ va_D (fun _ => True) (mw g h u))) (va_Qi (fun (r : Int32) u2 => (r, u2) = fX5_where u x1 x2) (fun (u2 : mS) (t : State) => va_P (dC, dI) vwCl (mw g h u2) t.heap ∧ va_D (va_A (mw g h u) sz) (mw g h u2)) (va_A (mw g h u) sz)) 0 0 (va_A (mw g h u) sz) := by
  refine Met.ofW (cc := cX5_where) (maxL := 3) (ret := (some .int)) (by decide) rfl ?_
  intro p e s m args below meth c s₁ B hml hv
  obtain ⟨rfl, hsz, hP, hK, hD0⟩ := hv
  have hx := B.exec
  have hb := B.bytes
  have hr := B.returns
  have hts := atoms_spec (ws := wsX5_where) B.pre
  have hown : s.vm.findClass RX5 = some m.cls := findClass_of_methodNamed B.named
  have hlocks := B.notSynchronized
  subst hsz
  have hD := hD0.self (sz := s.heap.size)
  generalize hAe : va_A (mw g h u) s.heap.size = A at hD ⊢
  have hA : ∀ q : Nat, s.heap.size ≤ q → A q := fun q h => by rw [← hAe]; exact Or.inr h
  have hS : va_S A s.heap s.heap [] := va_S.rf
  have hl := lv_entry ([.ref (h 0), .int x1, .int x2]) (n := 3) (Nat.le_of_ble_eq_true rfl)
  rw [lg_entry_eq]
  generalize (lg_sl ([.ref (h 0), .int x1, .int x2]) ++ List.replicate (3 - (lg_sl ([.ref (h 0), .int x1, .int x2])).length) Slot.unset).toArray = ls at hl ⊢
  have hl : lv_has ls 3 [(0, .ref (h 0)), (1, .int x1), (2, .int x2)] := hl
  obtain ⟨hI1, hI2, hI3, hI4, hI5, hI6, hI7⟩ := id hI
  have z_0 : (0 : Int32).toInt = 0 := by decide
  have z_1 : (3 : Int32).toInt = 3 := by decide
  refine lv_aload_n hx hb dX5_where_0 rfl (lv_at hl 0 rfl) ?_
  refine lv_aload_n hx hb dX5_where_1 rfl (lv_at hl 0 rfl) ?_
  refine lv_iload_n hx hb dX5_where_2 rfl (lv_at hl 1 rfl) ?_
  refine vp_callSi (W.runV (As := [.int x1]) (rest := [.ref (h 0)]) ⟨hx, hb, hml, hown, hts⟩ (kX5_isUnit l dC dI g h u x1) (cwV 1 hts (gV wd_304 wd_305 wd_306 wd_241 wcX5_isUnit) rfl rfl rfl (by decide +kernel) ⟨(Nat.le_of_ble_eq_true rfl), (Nat.le_of_ble_eq_true rfl)⟩) ⟨fun a U g mk q => by obtain ⟨q0, qP, qK⟩ := q; exact ⟨q0, qP, va_K.moved (u := U) (U := U.calling g mk a) (Vm.Alike.refl U.vm) qK⟩, va_recv hK hP (ci := 4) (q0 := 0) rfl (mw_at0 _ _ _), fun U hU hW => ⟨rfl, by rw [hU]; exact hP, va_K.moved hW.alike hK⟩⟩ rfl rfl hl.1 rfl (lv_room (Nat.le_of_ble_eq_true rfl)) dX5_where_3 ⟨(Nat.le_of_ble_eq_true rfl), (Nat.le_of_ble_eq_true rfl)⟩) (fun r_1 hw => ?_)
  subst hw
  refine lv_if_ne (tgt := 13) hx hb dX5_where_6 (by decide) (fun c_2 => ?_) (fun c_2 => ?_)
  · skip
    have t_3 : (fX5_isUnit u x1).toInt ≠ 0 := i_ne c_2 rfl (by decide)
    have t_4 := iu_lo c_2
    have t_5 := iu_hi c_2
    refine lv_iload_n hx hb dX5_where_13 rfl (lv_at hl 2 rfl) ?_
    refine lv_iconst (v := 0) hx hb dX5_where_14 (by decide) ?_
    refine lv_iconst (v := 3) hx hb dX5_where_15 (by decide) ?_
    refine vp_callSi (W.runS (As := [.int x2, .int 0, .int 3]) (rest := [.ref (h 0)]) ⟨hx, hb, hml, hown, hts⟩ (kX5_in l dC dI x2 0 3) (cwS 3 hts (gS wd_239 wd_240 wd_241 wcX5_in) rfl rfl rfl (by decide +kernel) ⟨(Nat.le_of_ble_eq_true rfl), (Nat.le_of_ble_eq_true rfl)⟩) ⟨fun a U g mk q => by obtain ⟨q0, qT⟩ := q; exact ⟨q0, qT⟩, fun U hU hW => ⟨rfl, trivial⟩⟩ rfl rfl hl.1 rfl (lv_room (Nat.le_of_ble_eq_true rfl)) dX5_where_16 ⟨(Nat.le_of_ble_eq_true rfl), (Nat.le_of_ble_eq_true rfl)⟩) (fun r_6 hw => ?_)
    subst hw
    refine lv_if_ne (tgt := 26) hx hb dX5_where_19 (by decide) (fun c_7 => ?_) (fun c_7 => ?_)
    · skip
      have t_8 : (fX5_in x2 0 3).toInt ≠ 0 := i_ne c_7 rfl (by decide)
      have t_9 := in_lo c_7
      have t_10 := in_hi c_7
      refine lv_iconst (v := 0) hx hb dX5_where_26 (by decide) ?_
      refine va_put (D := (dC, dI)) (C := RX5) (T := TX5) (N := 26) (v := .int 0) (ty := .int) hx hb hts (fi_X5 _) tyX5 tyX5_ok nmX5 hown hK hP hD hS 0 (mw_at0 _ _ _) rfl 0 (by decide) (hts _ (List.mem_cons_of_mem _ wd_237)) (fun _ h9 => h9) rfl (by decide +kernel) rfl rfl (Nat.le_of_ble_eq_true rfl) dX5_where_27 (fun H locs hP hD hS => ?_)
      have hP : va_P (dC, dI) vwCl (mw g h (s_mcode u 0)) H := hP
      have hD : va_D A (mw g h (s_mcode u 0)) := hD
      refine lv_aload_n hx hb dX5_where_30 rfl (lv_at hl 0 rfl) ?_
      refine va_get (D := (dC, dI)) (C := RX5) (T := TX5) (N := 26) (v := .int 0) hx hb hts (fi_X5 _) hown hK hP 0 (mw_at0 _ _ _) rfl 0 (by decide) (hts _ (List.mem_cons_of_mem _ wd_237)) (fun _ h9 => h9) rfl dX5_where_31 ?_
      refine lv_if_le (tgt := 39) hx hb dX5_where_34 (by decide) (fun c_11 => ?_) (fun c_11 => ?_)
      · skip
        refine lv_iload_n hx hb dX5_where_39 rfl (lv_at hl 2 rfl) ?_
        refine lv_if_ne (tgt := 52) hx hb dX5_where_40 (by decide) (fun c_12 => ?_) (fun c_12 => ?_)
        · skip
          have t_13 : x2.toInt ≠ 0 := i_ne c_12 rfl (by decide)
          refine lv_iload_n hx hb dX5_where_52 rfl (lv_at hl 2 rfl) ?_
          refine lv_iconst (v := 1) hx hb dX5_where_53 (by decide) ?_
          refine lv_icmp_ne (tgt := 66) hx hb dX5_where_54 (by decide) (fun c_14 => ?_) (fun c_14 => ?_)
          · skip
            have t_15 : x2.toInt ≠ 1 := i_ne c_14 rfl (by decide)
            refine lv_iload_n hx hb dX5_where_66 rfl (lv_at hl 2 rfl) ?_
            refine lv_iconst (v := 2) hx hb dX5_where_67 (by decide) ?_
            refine lv_icmp_ne (tgt := 80) hx hb dX5_where_68 (by decide) (fun c_16 => ?_) (fun c_16 => ?_)
            · skip
              have t_17 : x2.toInt ≠ 2 := i_ne c_16 rfl (by decide)
              refine lv_aload_n hx hb dX5_where_80 rfl (lv_at hl 0 rfl) ?_
              refine va_get (D := (dC, dI)) (C := RX5) (T := TX5) (N := 26) (v := .ref (h 16)) hx hb hts (fi_X5 _) hown hK hP 0 (mw_at0 _ _ _) rfl 18 (by decide) (hts _ (List.mem_cons_of_mem _ wd_301)) (fun _ h9 => h9) rfl dX5_where_81 ?_
              refine lv_iload_n hx hb dX5_where_84 rfl (lv_at hl 1 rfl) ?_
              refine va_iald (f := k_mwhen u) hx hb hK hP 16 0 (mw_at16 _ _ _) rfl (vp_in_iff.mpr (by omega)) dX5_where_85 ?_
              exact W.iret (v := k_mwhen u x1.toNatClampNeg) hx hb hr (fun t ht hW => ⟨⟨(k_mwhen u x1.toNatClampNeg), (s_mcode u 0), rfl, (by unfold fX5_where; rw [if_neg c_2, if_neg c_7, if_neg c_12, if_neg c_14, if_neg c_16]), by rw [ht]; exact hP, hD⟩, hS.F ht⟩) hS.2.2 dX5_where_86
            · skip
              have t_18 : x2.toInt = 2 := i_eq c_16 rfl (by decide)
              refine lv_aload_n hx hb dX5_where_71 rfl (lv_at hl 0 rfl) ?_
              refine va_get (D := (dC, dI)) (C := RX5) (T := TX5) (N := 26) (v := .ref (h 15)) hx hb hts (fi_X5 _) hown hK hP 0 (mw_at0 _ _ _) rfl 17 (by decide) (hts _ (List.mem_cons_of_mem _ wd_245)) (fun _ h9 => h9) rfl dX5_where_72 ?_
              refine lv_iload_n hx hb dX5_where_75 rfl (lv_at hl 1 rfl) ?_
              refine va_iald (f := k_mcust u) hx hb hK hP 15 0 (mw_at15 _ _ _) rfl (vp_in_iff.mpr (by omega)) dX5_where_76 ?_
              refine lv_goto (tgt := 86) hx hb dX5_where_77 (by decide) ?_
              exact W.iret (v := k_mcust u x1.toNatClampNeg) hx hb hr (fun t ht hW => ⟨⟨(k_mcust u x1.toNatClampNeg), (s_mcode u 0), rfl, (by unfold fX5_where; rw [if_neg c_2, if_neg c_7, if_neg c_12, if_neg c_14, if_pos c_16]), by rw [ht]; exact hP, hD⟩, hS.F ht⟩) hS.2.2 dX5_where_86
          · skip
            have t_19 : x2.toInt = 1 := i_eq c_14 rfl (by decide)
            refine lv_aload_n hx hb dX5_where_57 rfl (lv_at hl 0 rfl) ?_
            refine va_get (D := (dC, dI)) (C := RX5) (T := TX5) (N := 26) (v := .ref (h 14)) hx hb hts (fi_X5 _) hown hK hP 0 (mw_at0 _ _ _) rfl 16 (by decide) (hts _ (List.mem_cons_of_mem _ wd_300)) (fun _ h9 => h9) rfl dX5_where_58 ?_
            refine lv_iload_n hx hb dX5_where_61 rfl (lv_at hl 1 rfl) ?_
            refine va_iald (f := k_mbin u) hx hb hK hP 14 0 (mw_at14 _ _ _) rfl (vp_in_iff.mpr (by omega)) dX5_where_62 ?_
            refine lv_goto (tgt := 86) hx hb dX5_where_63 (by decide) ?_
            exact W.iret (v := k_mbin u x1.toNatClampNeg) hx hb hr (fun t ht hW => ⟨⟨(k_mbin u x1.toNatClampNeg), (s_mcode u 0), rfl, (by unfold fX5_where; rw [if_neg c_2, if_neg c_7, if_neg c_12, if_pos c_14]), by rw [ht]; exact hP, hD⟩, hS.F ht⟩) hS.2.2 dX5_where_86
        · skip
          have t_20 : x2.toInt = 0 := i_eq c_12 rfl (by decide)
          refine lv_aload_n hx hb dX5_where_43 rfl (lv_at hl 0 rfl) ?_
          refine va_get (D := (dC, dI)) (C := RX5) (T := TX5) (N := 26) (v := .ref (h 13)) hx hb hts (fi_X5 _) hown hK hP 0 (mw_at0 _ _ _) rfl 15 (by decide) (hts _ (List.mem_cons_of_mem _ wd_299)) (fun _ h9 => h9) rfl dX5_where_44 ?_
          refine lv_iload_n hx hb dX5_where_47 rfl (lv_at hl 1 rfl) ?_
          refine va_iald (f := k_mlotOf u) hx hb hK hP 13 0 (mw_at13 _ _ _) rfl (vp_in_iff.mpr (by omega)) dX5_where_48 ?_
          refine lv_goto (tgt := 86) hx hb dX5_where_49 (by decide) ?_
          exact W.iret (v := k_mlotOf u x1.toNatClampNeg) hx hb hr (fun t ht hW => ⟨⟨(k_mlotOf u x1.toNatClampNeg), (s_mcode u 0), rfl, (by unfold fX5_where; rw [if_neg c_2, if_neg c_7, if_pos c_12]), by rw [ht]; exact hP, hD⟩, hS.F ht⟩) hS.2.2 dX5_where_86
      · skip
        exact absurd (by decide) c_11
    · skip
      have t_21 : (fX5_in x2 0 3).toInt = 0 := i_eq c_7 rfl (by decide)
      refine lv_iconst (v := 2) hx hb dX5_where_22 (by decide) ?_
      refine lv_goto (tgt := 27) hx hb dX5_where_23 (by decide) ?_
      refine va_put (D := (dC, dI)) (C := RX5) (T := TX5) (N := 26) (v := .int 2) (ty := .int) hx hb hts (fi_X5 _) tyX5 tyX5_ok nmX5 hown hK hP hD hS 0 (mw_at0 _ _ _) rfl 0 (by decide) (hts _ (List.mem_cons_of_mem _ wd_237)) (fun _ h9 => h9) rfl (by decide +kernel) rfl rfl (Nat.le_of_ble_eq_true rfl) dX5_where_27 (fun H locs hP hD hS => ?_)
      have hP : va_P (dC, dI) vwCl (mw g h (s_mcode u 2)) H := hP
      have hD : va_D A (mw g h (s_mcode u 2)) := hD
      refine lv_aload_n hx hb dX5_where_30 rfl (lv_at hl 0 rfl) ?_
      refine va_get (D := (dC, dI)) (C := RX5) (T := TX5) (N := 26) (v := .int 2) hx hb hts (fi_X5 _) hown hK hP 0 (mw_at0 _ _ _) rfl 0 (by decide) (hts _ (List.mem_cons_of_mem _ wd_237)) (fun _ h9 => h9) rfl dX5_where_31 ?_
      refine lv_if_le (tgt := 39) hx hb dX5_where_34 (by decide) (fun c_22 => ?_) (fun c_22 => ?_)
      · skip
        exact absurd c_22 (by decide)
      · skip
        refine lv_iconst (v := 0) hx hb dX5_where_37 (by decide) ?_
        exact W.iret (v := 0) hx hb hr (fun t ht hW => ⟨⟨0, (s_mcode u 2), rfl, (by unfold fX5_where; rw [if_neg c_2, if_pos c_7]), by rw [ht]; exact hP, hD⟩, hS.F ht⟩) hS.2.2 dX5_where_38
  · skip
    have t_23 : (fX5_isUnit u x1).toInt = 0 := i_eq c_2 rfl (by decide)
    refine lv_iconst (v := 1) hx hb dX5_where_9 (by decide) ?_
    refine lv_goto (tgt := 27) hx hb dX5_where_10 (by decide) ?_
    refine va_put (D := (dC, dI)) (C := RX5) (T := TX5) (N := 26) (v := .int 1) (ty := .int) hx hb hts (fi_X5 _) tyX5 tyX5_ok nmX5 hown hK hP hD hS 0 (mw_at0 _ _ _) rfl 0 (by decide) (hts _ (List.mem_cons_of_mem _ wd_237)) (fun _ h9 => h9) rfl (by decide +kernel) rfl rfl (Nat.le_of_ble_eq_true rfl) dX5_where_27 (fun H locs hP hD hS => ?_)
    have hP : va_P (dC, dI) vwCl (mw g h (s_mcode u 1)) H := hP
    have hD : va_D A (mw g h (s_mcode u 1)) := hD
    refine lv_aload_n hx hb dX5_where_30 rfl (lv_at hl 0 rfl) ?_
    refine va_get (D := (dC, dI)) (C := RX5) (T := TX5) (N := 26) (v := .int 1) hx hb hts (fi_X5 _) hown hK hP 0 (mw_at0 _ _ _) rfl 0 (by decide) (hts _ (List.mem_cons_of_mem _ wd_237)) (fun _ h9 => h9) rfl dX5_where_31 ?_
    refine lv_if_le (tgt := 39) hx hb dX5_where_34 (by decide) (fun c_24 => ?_) (fun c_24 => ?_)
    · skip
      exact absurd c_24 (by decide)
    · skip
      refine lv_iconst (v := 0) hx hb dX5_where_37 (by decide) ?_
      exact W.iret (v := 0) hx hb hr (fun t ht hW => ⟨⟨0, (s_mcode u 1), rfl, (by unfold fX5_where; rw [if_pos c_2]), by rw [ht]; exact hP, hD⟩, hS.F ht⟩) hS.2.2 dX5_where_38
set_option maxHeartbeats 4000000 in
set_option maxRecDepth 100000 in
theorem kX5_order (l : Launch) (dC : Nat → ClassId) (dI : Nat → Nat → Nat) (g : cG) (h : Nat → Nat) (u : mS) (sz : Nat) (x1 : Int32) (x2 : Int32) (x3 : Int32) (hI : mInv u) : Met l yX5_order wsX5_order ({ frames := 2, cells := 0, slots := 0, locals := 42 }) (va_Pc [.ref (h 0), .int x1, .int x2, .int x3] (fun U => U.heap.size = sz ∧ va_P (dC, dI) vwCl (mw g h u) U.heap ∧ va_K (dC, dI) vwCl (cTys g) U ∧ va_D (fun _ => True) (mw g h u))) (va_Qi (fun (r : Int32) u2 => (r, u2) = fX5_order u x1 x2 x3) (fun (u2 : mS) (t : State) => va_P (dC, dI) vwCl (mw g h u2) t.heap ∧ va_D (va_A (mw g h u) sz) (mw g h u2)) (va_A (mw g h u) sz)) 0 0 (va_A (mw g h u) sz) := by
  refine Met.ofW (cc := cX5_order) (maxL := 7) (ret := (some .int)) (by decide) rfl ?_
  intro p e s m args below meth c s₁ B hml hv
  obtain ⟨rfl, hsz, hP, hK, hD0⟩ := hv
  have hx := B.exec
  have hb := B.bytes
  have hr := B.returns
  have hts := atoms_spec (ws := wsX5_order) B.pre
  have hown : s.vm.findClass RX5 = some m.cls := findClass_of_methodNamed B.named
  have hlocks := B.notSynchronized
  subst hsz
  have hD := hD0.self (sz := s.heap.size)
  generalize hAe : va_A (mw g h u) s.heap.size = A at hD ⊢
  have hA : ∀ q : Nat, s.heap.size ≤ q → A q := fun q h => by rw [← hAe]; exact Or.inr h
  have hS : va_S A s.heap s.heap [] := va_S.rf
  have hl := lv_entry ([.ref (h 0), .int x1, .int x2, .int x3]) (n := 7) (Nat.le_of_ble_eq_true rfl)
  rw [lg_entry_eq]
  generalize (lg_sl ([.ref (h 0), .int x1, .int x2, .int x3]) ++ List.replicate (7 - (lg_sl ([.ref (h 0), .int x1, .int x2, .int x3])).length) Slot.unset).toArray = ls at hl ⊢
  have hl : lv_has ls 7 [(0, .ref (h 0)), (1, .int x1), (2, .int x2), (3, .int x3)] := hl
  obtain ⟨hI1, hI2, hI3, hI4, hI5, hI6, hI7⟩ := id hI
  have z_0 : (9 : Int32).toInt = 9 := by decide
  have z_1 : (0 : Int32).toInt = 0 := by decide
  have z_2 : (7 : Int32).toInt = 7 := by decide
  have z_3 : (1 : Int32).toInt = 1 := by decide
  refine lv_aload_n hx hb dX5_order_0 rfl (lv_at hl 0 rfl) ?_
  refine lv_iload_n hx hb dX5_order_1 rfl (lv_at hl 1 rfl) ?_
  refine lv_iconst (v := 0) hx hb dX5_order_2 (by decide) ?_
  refine lv_bipush (v := 9) hx hb dX5_order_3 (by decide) ?_
  refine vp_callSi (W.runS (As := [.int x1, .int 0, .int 9]) (rest := [.ref (h 0)]) ⟨hx, hb, hml, hown, hts⟩ (kX5_in l dC dI x1 0 9) (cwS 3 hts (gS wd_239 wd_240 wd_241 wcX5_in) rfl rfl rfl (by decide +kernel) ⟨(Nat.le_of_ble_eq_true rfl), (Nat.le_of_ble_eq_true rfl)⟩) ⟨fun a U g mk q => by obtain ⟨q0, qT⟩ := q; exact ⟨q0, qT⟩, fun U hU hW => ⟨rfl, trivial⟩⟩ rfl rfl hl.1 rfl (lv_room (Nat.le_of_ble_eq_true rfl)) dX5_order_5 ⟨(Nat.le_of_ble_eq_true rfl), (Nat.le_of_ble_eq_true rfl)⟩) (fun r_1 hw => ?_)
  subst hw
  refine lv_if_eq (tgt := 25) hx hb dX5_order_8 (by decide) (fun c_2 => ?_) (fun c_2 => ?_)
  · skip
    have t_3 : (fX5_in x1 0 9).toInt = 0 := i_eq c_2 rfl (by decide)
    refine lv_iconst (v := 1) hx hb dX5_order_25 (by decide) ?_
    refine lv_goto (tgt := 30) hx hb dX5_order_26 (by decide) ?_
    refine va_put (D := (dC, dI)) (C := RX5) (T := TX5) (N := 26) (v := .int 1) (ty := .int) hx hb hts (fi_X5 _) tyX5 tyX5_ok nmX5 hown hK hP hD hS 0 (mw_at0 _ _ _) rfl 0 (by decide) (hts _ (List.mem_cons_of_mem _ wd_237)) (fun _ h9 => h9) rfl (by decide +kernel) rfl rfl (Nat.le_of_ble_eq_true rfl) dX5_order_30 (fun H locs hP hD hS => ?_)
    have hP : va_P (dC, dI) vwCl (mw g h (s_mcode u 1)) H := hP
    have hD : va_D A (mw g h (s_mcode u 1)) := hD
    refine lv_aload_n hx hb dX5_order_33 rfl (lv_at hl 0 rfl) ?_
    refine va_get (D := (dC, dI)) (C := RX5) (T := TX5) (N := 26) (v := .int 1) hx hb hts (fi_X5 _) hown hK hP 0 (mw_at0 _ _ _) rfl 0 (by decide) (hts _ (List.mem_cons_of_mem _ wd_237)) (fun _ h9 => h9) rfl dX5_order_34 ?_
    refine lv_if_le (tgt := 42) hx hb dX5_order_37 (by decide) (fun c_4 => ?_) (fun c_4 => ?_)
    · skip
      exact absurd c_4 (by decide)
    · skip
      refine lv_iconst (v := 0) hx hb dX5_order_40 (by decide) ?_
      exact W.iret (v := 0) hx hb hr (fun t ht hW => ⟨⟨0, (s_mcode u 1), rfl, (by unfold fX5_order; rw [if_pos c_2]), by rw [ht]; exact hP, hD⟩, hS.F ht⟩) hS.2.2 dX5_order_41
  · skip
    have t_5 : (fX5_in x1 0 9).toInt ≠ 0 := i_ne c_2 rfl (by decide)
    have t_6 := in_lo c_2
    have t_7 := in_hi c_2
    refine lv_iload_n hx hb dX5_order_11 rfl (lv_at hl 2 rfl) ?_
    refine lv_iconst (v := 0) hx hb dX5_order_12 (by decide) ?_
    refine lv_bipush (v := 7) hx hb dX5_order_13 (by decide) ?_
    refine vp_callSi (W.runS (As := [.int x2, .int 0, .int 7]) (rest := [.ref (h 0)]) ⟨hx, hb, hml, hown, hts⟩ (kX5_in l dC dI x2 0 7) (cwS 3 hts (gS wd_239 wd_240 wd_241 wcX5_in) rfl rfl rfl (by decide +kernel) ⟨(Nat.le_of_ble_eq_true rfl), (Nat.le_of_ble_eq_true rfl)⟩) ⟨fun a U g mk q => by obtain ⟨q0, qT⟩ := q; exact ⟨q0, qT⟩, fun U hU hW => ⟨rfl, trivial⟩⟩ rfl rfl hl.1 rfl (lv_room (Nat.le_of_ble_eq_true rfl)) dX5_order_15 ⟨(Nat.le_of_ble_eq_true rfl), (Nat.le_of_ble_eq_true rfl)⟩) (fun r_8 hw => ?_)
    subst hw
    refine lv_if_eq (tgt := 25) hx hb dX5_order_18 (by decide) (fun c_9 => ?_) (fun c_9 => ?_)
    · skip
      have t_10 : (fX5_in x2 0 7).toInt = 0 := i_eq c_9 rfl (by decide)
      refine lv_iconst (v := 1) hx hb dX5_order_25 (by decide) ?_
      refine lv_goto (tgt := 30) hx hb dX5_order_26 (by decide) ?_
      refine va_put (D := (dC, dI)) (C := RX5) (T := TX5) (N := 26) (v := .int 1) (ty := .int) hx hb hts (fi_X5 _) tyX5 tyX5_ok nmX5 hown hK hP hD hS 0 (mw_at0 _ _ _) rfl 0 (by decide) (hts _ (List.mem_cons_of_mem _ wd_237)) (fun _ h9 => h9) rfl (by decide +kernel) rfl rfl (Nat.le_of_ble_eq_true rfl) dX5_order_30 (fun H locs hP hD hS => ?_)
      have hP : va_P (dC, dI) vwCl (mw g h (s_mcode u 1)) H := hP
      have hD : va_D A (mw g h (s_mcode u 1)) := hD
      refine lv_aload_n hx hb dX5_order_33 rfl (lv_at hl 0 rfl) ?_
      refine va_get (D := (dC, dI)) (C := RX5) (T := TX5) (N := 26) (v := .int 1) hx hb hts (fi_X5 _) hown hK hP 0 (mw_at0 _ _ _) rfl 0 (by decide) (hts _ (List.mem_cons_of_mem _ wd_237)) (fun _ h9 => h9) rfl dX5_order_34 ?_
      refine lv_if_le (tgt := 42) hx hb dX5_order_37 (by decide) (fun c_11 => ?_) (fun c_11 => ?_)
      · skip
        exact absurd c_11 (by decide)
      · skip
        refine lv_iconst (v := 0) hx hb dX5_order_40 (by decide) ?_
        exact W.iret (v := 0) hx hb hr (fun t ht hW => ⟨⟨0, (s_mcode u 1), rfl, (by unfold fX5_order; rw [if_neg c_2, if_pos c_9]), by rw [ht]; exact hP, hD⟩, hS.F ht⟩) hS.2.2 dX5_order_41
    · skip
      have t_12 : (fX5_in x2 0 7).toInt ≠ 0 := i_ne c_9 rfl (by decide)
      have t_13 := in_lo c_9
      have t_14 := in_hi c_9
      refine lv_iload_n hx hb dX5_order_21 rfl (lv_at hl 3 rfl) ?_
      refine lv_if_ge (tgt := 29) hx hb dX5_order_22 (by decide) (fun c_15 => ?_) (fun c_15 => ?_)
      · skip
        have t_16 : 0 ≤ x3.toInt := i_le c_15 (by decide) rfl
        refine lv_iconst (v := 0) hx hb dX5_order_29 (by decide) ?_
        refine va_put (D := (dC, dI)) (C := RX5) (T := TX5) (N := 26) (v := .int 0) (ty := .int) hx hb hts (fi_X5 _) tyX5 tyX5_ok nmX5 hown hK hP hD hS 0 (mw_at0 _ _ _) rfl 0 (by decide) (hts _ (List.mem_cons_of_mem _ wd_237)) (fun _ h9 => h9) rfl (by decide +kernel) rfl rfl (Nat.le_of_ble_eq_true rfl) dX5_order_30 (fun H locs hP hD hS => ?_)
        have hP : va_P (dC, dI) vwCl (mw g h (s_mcode u 0)) H := hP
        have hD : va_D A (mw g h (s_mcode u 0)) := hD
        refine lv_aload_n hx hb dX5_order_33 rfl (lv_at hl 0 rfl) ?_
        refine va_get (D := (dC, dI)) (C := RX5) (T := TX5) (N := 26) (v := .int 0) hx hb hts (fi_X5 _) hown hK hP 0 (mw_at0 _ _ _) rfl 0 (by decide) (hts _ (List.mem_cons_of_mem _ wd_237)) (fun _ h9 => h9) rfl dX5_order_34 ?_
        refine lv_if_le (tgt := 42) hx hb dX5_order_37 (by decide) (fun c_17 => ?_) (fun c_17 => ?_)
        · skip
          refine lv_iconst (v := 1) hx hb dX5_order_42 (by decide) ?_
          refine lv_istore (lv' := [(4, .int 1), (0, .ref (h 0)), (1, .int x1), (2, .int x2), (3, .int x3)]) hx hb dX5_order_43 hl (by decide) rfl (fun ls hl => ?_)
          refine lp_ind (W p l e _ s m _ below meth c _ _ _ _ _) (fun n ls => ∃ (i : Int32), ((k_mlots u).toInt - i.toInt + 1 < (n : Int)) ∧ (1 ≤ i.toInt ∧ i.toInt ≤ 41 ∧ i.toInt ≤ (k_mlots u).toInt + 1) ∧ fX5_order u x1 x2 x3 = loX5_order u x1 x2 x3 n i ∧ lv_has ls 7 [(4, .int i), (0, .ref (h 0)), (1, .int x1), (2, .int x2), (3, .int x3)]) m 45 (fun ls hI0 => ?_) (fun n ls hI0 ih => ?_) 41 _ ⟨1, (by omega), (by omega), (by unfold fX5_order; rw [if_neg c_2, if_neg c_9, if_pos c_15]), lv_sub hl [0, 1, 2, 3, 4] rfl⟩
          · skip
            obtain ⟨i, hn, hi, he, hl⟩ := hI0
            exact absurd hn (by omega)
          · skip
            obtain ⟨i, hn, hi, he, hl⟩ := hI0
            have he_20 := he
            have ih_19 := ih
            refine lv_iload hx hb dX5_order_45 (lv_at hl 0 rfl) ?_
            refine lv_aload_n hx hb dX5_order_47 rfl (lv_at hl 1 rfl) ?_
            refine va_get (D := (dC, dI)) (C := RX5) (T := TX5) (N := 26) (v := .int (k_mlots u)) hx hb hts (fi_X5 _) hown hK hP 0 (mw_at0 _ _ _) rfl 1 (by decide) (hts _ (List.mem_cons_of_mem _ wd_238)) (fun _ h9 => h9) rfl dX5_order_48 ?_
            refine lv_icmp_gt (tgt := 183) hx hb dX5_order_51 (by decide) (fun c_21 => ?_) (fun c_21 => ?_)
            · skip
              have t_22 : (k_mlots u).toInt < i.toInt := i_lt c_21 rfl rfl
              refine lv_iconst (v := (-1)) hx hb dX5_order_183 (by decide) ?_
              exact W.iret (v := (-1)) hx hb hr (fun t ht hW => ⟨⟨(-1), (s_mcode u 0), rfl, (by rw [he_20, loX5_order_eq, if_pos c_21]), by rw [ht]; exact hP, hD⟩, hS.F ht⟩) hS.2.2 dX5_order_184
            · skip
              have t_23 : i.toInt ≤ (k_mlots u).toInt := i_nlt c_21 rfl rfl
              refine lv_aload_n hx hb dX5_order_54 rfl (lv_at hl 1 rfl) ?_
              refine va_get (D := (dC, dI)) (C := RX5) (T := TX5) (N := 26) (v := .ref (h 1)) hx hb hts (fi_X5 _) hown hK hP 0 (mw_at0 _ _ _) rfl 2 (by decide) (hts _ (List.mem_cons_of_mem _ wd_261)) (fun _ h9 => h9) rfl dX5_order_55 ?_
              refine lv_iload hx hb dX5_order_58 (lv_at hl 0 rfl) ?_
              refine va_iald (f := k_mgood u) hx hb hK hP 1 0 (mw_at1 _ _ _) rfl (vp_in_iff.mpr (by omega)) dX5_order_60 ?_
              refine lv_iload_n hx hb dX5_order_61 rfl (lv_at hl 2 rfl) ?_
              refine lv_icmp_ne (tgt := 177) hx hb dX5_order_62 (by decide) (fun c_24 => ?_) (fun c_24 => ?_)
              · skip
                have t_25 : (k_mgood u i.toNatClampNeg).toInt ≠ x1.toInt := i_ne c_24 rfl rfl
                refine lv_iinc (v := i + 1) (lv' := [(4, .int (i + 1)), (0, .ref (h 0)), (1, .int x1), (2, .int x2), (3, .int x3)]) hx hb dX5_order_177 hl (k := 0) rfl rfl (by decide) rfl (fun ls hl => ?_)
                refine lv_goto (tgt := 45) hx hb dX5_order_180 (by decide) ?_
                have hb1 := i_inc (x := i) (by omega)
                exact ih_19 _ ⟨(i + 1), (by omega), (by omega), (by rw [he_20, loX5_order_eq, if_neg c_21, if_neg c_24]), lv_sub hl [0, 1, 2, 3, 4] rfl⟩
              · skip
                have t_26 : (k_mgood u i.toNatClampNeg).toInt = x1.toInt := i_eq c_24 rfl rfl
                refine lv_aload_n hx hb dX5_order_65 rfl (lv_at hl 1 rfl) ?_
                refine va_get (D := (dC, dI)) (C := RX5) (T := TX5) (N := 26) (v := .ref (h 2)) hx hb hts (fi_X5 _) hown hK hP 0 (mw_at0 _ _ _) rfl 3 (by decide) (hts _ (List.mem_cons_of_mem _ wd_253)) (fun _ h9 => h9) rfl dX5_order_66 ?_
                refine lv_iload hx hb dX5_order_69 (lv_at hl 0 rfl) ?_
                refine va_iald (f := k_mowner u) hx hb hK hP 2 0 (mw_at2 _ _ _) rfl (vp_in_iff.mpr (by omega)) dX5_order_71 ?_
                refine lv_iload_n hx hb dX5_order_72 rfl (lv_at hl 3 rfl) ?_
                refine lv_icmp_ne (tgt := 177) hx hb dX5_order_73 (by decide) (fun c_27 => ?_) (fun c_27 => ?_)
                · skip
                  have t_28 : (k_mowner u i.toNatClampNeg).toInt ≠ x2.toInt := i_ne c_27 rfl rfl
                  refine lv_iinc (v := i + 1) (lv' := [(4, .int (i + 1)), (0, .ref (h 0)), (1, .int x1), (2, .int x2), (3, .int x3)]) hx hb dX5_order_177 hl (k := 0) rfl rfl (by decide) rfl (fun ls hl => ?_)
                  refine lv_goto (tgt := 45) hx hb dX5_order_180 (by decide) ?_
                  have hb1 := i_inc (x := i) (by omega)
                  exact ih_19 _ ⟨(i + 1), (by omega), (by omega), (by rw [he_20, loX5_order_eq, if_neg c_21, if_pos c_24, if_neg c_27]), lv_sub hl [0, 1, 2, 3, 4] rfl⟩
                · skip
                  have t_29 : (k_mowner u i.toNatClampNeg).toInt = x2.toInt := i_eq c_27 rfl rfl
                  refine lv_aload_n hx hb dX5_order_76 rfl (lv_at hl 1 rfl) ?_
                  refine lv_iload hx hb dX5_order_77 (lv_at hl 0 rfl) ?_
                  refine vp_callSi (W.runV (As := [.int i]) (rest := []) ⟨hx, hb, hml, hown, hts⟩ (kX5_mayBeTaken l dC dI g h (s_mcode u 0) i (by omega)) (cwV 1 hts (gV wd_256 wd_257 wd_258 wd_241 wcX5_mayBeTaken) rfl rfl rfl (by decide +kernel) ⟨(Nat.le_of_ble_eq_true rfl), (Nat.le_of_ble_eq_true rfl)⟩) ⟨fun a U g mk q => by obtain ⟨q0, qP, qK⟩ := q; exact ⟨q0, qP, va_K.moved (u := U) (U := U.calling g mk a) (Vm.Alike.refl U.vm) qK⟩, va_recv hK hP (ci := 4) (q0 := 0) rfl (mw_at0 _ _ _), fun U hU hW => ⟨rfl, by rw [hU]; exact hP, va_K.moved hW.alike hK⟩⟩ rfl rfl hl.1 rfl (lv_room (Nat.le_of_ble_eq_true rfl)) dX5_order_79 ⟨(Nat.le_of_ble_eq_true rfl), (Nat.le_of_ble_eq_true rfl)⟩) (fun r_30 hw => ?_)
                  subst hw
                  refine lv_if_ne (tgt := 88) hx hb dX5_order_82 (by decide) (fun c_31 => ?_) (fun c_31 => ?_)
                  · skip
                    have t_32 : (fX5_mayBeTaken (s_mcode u 0) i).toInt ≠ 0 := i_ne c_31 rfl (by decide)
                    refine lv_iconst (v := 0) hx hb dX5_order_88 (by decide) ?_
                    refine lv_istore (lv' := [(5, .int 0), (4, .int i), (0, .ref (h 0)), (1, .int x1), (2, .int x2), (3, .int x3)]) hx hb dX5_order_89 hl (by decide) rfl (fun ls hl => ?_)
                    refine lv_iconst (v := 1) hx hb dX5_order_91 (by decide) ?_
                    refine lv_istore (lv' := [(6, .int 1), (5, .int 0), (4, .int i), (0, .ref (h 0)), (1, .int x1), (2, .int x2), (3, .int x3)]) hx hb dX5_order_92 hl (by decide) rfl (fun ls hl => ?_)
                    refine lp_ind (W p l e _ s m _ below meth c _ _ _ _ _) (fun n2 ls => ∃ (k : Int32) (b : Int32), ((k_mlots u).toInt - k.toInt + 1 < (n2 : Int)) ∧ (1 ≤ k.toInt ∧ k.toInt ≤ 41 ∧ k.toInt ≤ (k_mlots u).toInt + 1) ∧ fX5_order u x1 x2 x3 = (if liX5_order u x1 x2 i n2 k b = x3 then (i, s_mcode u 0) else loX5_order u x1 x2 x3 n (i + 1)) ∧ lv_has ls 7 [(6, .int k), (5, .int b), (0, .ref (h 0)), (1, .int x1), (2, .int x2), (3, .int x3), (4, .int i)]) m 94 (fun ls hI0 => ?_) (fun n2 ls hI0 ih => ?_) 41 _ ⟨1, 0, (by omega), (by omega), (by rw [he_20, loX5_order_eq, if_neg c_21, if_pos c_24, if_pos c_27, if_neg c_31]), lv_sub hl [0, 1, 3, 4, 5, 6, 2] rfl⟩
                    · skip
                      obtain ⟨k, b, hn2, hk, he, hl⟩ := hI0
                      exact absurd hn2 (by omega)
                    · skip
                      obtain ⟨k, b, hn2, hk, he, hl⟩ := hI0
                      have he_35 := he
                      have ih_34 := ih
                      refine lv_iload hx hb dX5_order_94 (lv_at hl 0 rfl) ?_
                      refine lv_aload_n hx hb dX5_order_96 rfl (lv_at hl 2 rfl) ?_
                      refine va_get (D := (dC, dI)) (C := RX5) (T := TX5) (N := 26) (v := .int (k_mlots u)) hx hb hts (fi_X5 _) hown hK hP 0 (mw_at0 _ _ _) rfl 1 (by decide) (hts _ (List.mem_cons_of_mem _ wd_238)) (fun _ h9 => h9) rfl dX5_order_97 ?_
                      refine lv_icmp_gt (tgt := 168) hx hb dX5_order_100 (by decide) (fun c_36 => ?_) (fun c_36 => ?_)
                      · skip
                        have t_37 : (k_mlots u).toInt < k.toInt := i_lt c_36 rfl rfl
                        have he_38 : fX5_order u x1 x2 x3 = (if b = x3 then (i, s_mcode u 0) else loX5_order u x1 x2 x3 n (i + 1)) := (by rw [he_35, liX5_order_eq, if_pos c_36])
                        refine lv_iload hx hb dX5_order_168 (lv_at hl 1 rfl) ?_
                        refine lv_iload_n hx hb dX5_order_170 rfl (lv_at hl 5 rfl) ?_
                        refine lv_icmp_ne (tgt := 177) hx hb dX5_order_171 (by decide) (fun c_39 => ?_) (fun c_39 => ?_)
                        · skip
                          have t_40 : b.toInt ≠ x3.toInt := i_ne c_39 rfl rfl
                          refine lv_iinc (v := i + 1) (lv' := [(4, .int (i + 1)), (6, .int k), (5, .int b), (0, .ref (h 0)), (1, .int x1), (2, .int x2), (3, .int x3)]) hx hb dX5_order_177 hl (k := 6) rfl rfl (by decide) rfl (fun ls hl => ?_)
                          refine lv_goto (tgt := 45) hx hb dX5_order_180 (by decide) ?_
                          have hb1 := i_inc (x := i) (by omega)
                          exact ih_19 _ ⟨(i + 1), (by omega), (by omega), (by rw [he_38, if_neg c_39]), lv_sub hl [0, 3, 4, 5, 6] rfl⟩
                        · skip
                          have t_41 : b.toInt = x3.toInt := i_eq c_39 rfl rfl
                          refine lv_iload hx hb dX5_order_174 (lv_at hl 6 rfl) ?_
                          exact W.iret (v := i) hx hb hr (fun t ht hW => ⟨⟨i, (s_mcode u 0), rfl, (by rw [he_38, if_pos c_39]), by rw [ht]; exact hP, hD⟩, hS.F ht⟩) hS.2.2 dX5_order_176
                      · skip
                        have t_42 : k.toInt ≤ (k_mlots u).toInt := i_nlt c_36 rfl rfl
                        refine lv_iload hx hb dX5_order_103 (lv_at hl 1 rfl) ?_
                        refine lv_iload hx hb dX5_order_105 (lv_at hl 0 rfl) ?_
                        refine lv_iload hx hb dX5_order_107 (lv_at hl 6 rfl) ?_
                        refine lv_icmp_eq (tgt := 158) hx hb dX5_order_109 (by decide) (fun c_43 => ?_) (fun c_43 => ?_)
                        · skip
                          have t_44 : k.toInt = i.toInt := i_eq c_43 rfl rfl
                          refine lv_iconst (v := 0) hx hb dX5_order_158 (by decide) ?_
                          refine lv_iadd hx hb dX5_order_159 ?_
                          refine lv_istore (lv' := [(5, .int (b + 0)), (6, .int k), (0, .ref (h 0)), (1, .int x1), (2, .int x2), (3, .int x3), (4, .int i)]) hx hb dX5_order_160 hl (by decide) rfl (fun ls hl => ?_)
                          refine lv_iinc (v := k + 1) (lv' := [(6, .int (k + 1)), (5, .int (b + 0)), (0, .ref (h 0)), (1, .int x1), (2, .int x2), (3, .int x3), (4, .int i)]) hx hb dX5_order_162 hl (k := 1) rfl rfl (by decide) rfl (fun ls hl => ?_)
                          refine lv_goto (tgt := 94) hx hb dX5_order_165 (by decide) ?_
                          have hb2 := i_inc (x := k) (by omega)
                          exact ih_34 _ ⟨(k + 1), (b + 0), (by omega), (by omega), (by rw [he_35, liX5_order_eq, if_neg c_36, if_pos c_43]), lv_sub hl [0, 1, 2, 3, 4, 5, 6] rfl⟩
                        · skip
                          have t_45 : k.toInt ≠ i.toInt := i_ne c_43 rfl rfl
                          refine lv_aload_n hx hb dX5_order_112 rfl (lv_at hl 2 rfl) ?_
                          refine va_get (D := (dC, dI)) (C := RX5) (T := TX5) (N := 26) (v := .ref (h 1)) hx hb hts (fi_X5 _) hown hK hP 0 (mw_at0 _ _ _) rfl 2 (by decide) (hts _ (List.mem_cons_of_mem _ wd_261)) (fun _ h9 => h9) rfl dX5_order_113 ?_
                          refine lv_iload hx hb dX5_order_116 (lv_at hl 0 rfl) ?_
                          refine va_iald (f := k_mgood u) hx hb hK hP 1 0 (mw_at1 _ _ _) rfl (vp_in_iff.mpr (by omega)) dX5_order_118 ?_
                          refine lv_iload_n hx hb dX5_order_119 rfl (lv_at hl 3 rfl) ?_
                          refine lv_icmp_ne (tgt := 158) hx hb dX5_order_120 (by decide) (fun c_46 => ?_) (fun c_46 => ?_)
                          · skip
                            have t_47 : (k_mgood u k.toNatClampNeg).toInt ≠ x1.toInt := i_ne c_46 rfl rfl
                            refine lv_iconst (v := 0) hx hb dX5_order_158 (by decide) ?_
                            refine lv_iadd hx hb dX5_order_159 ?_
                            refine lv_istore (lv' := [(5, .int (b + 0)), (6, .int k), (0, .ref (h 0)), (1, .int x1), (2, .int x2), (3, .int x3), (4, .int i)]) hx hb dX5_order_160 hl (by decide) rfl (fun ls hl => ?_)
                            refine lv_iinc (v := k + 1) (lv' := [(6, .int (k + 1)), (5, .int (b + 0)), (0, .ref (h 0)), (1, .int x1), (2, .int x2), (3, .int x3), (4, .int i)]) hx hb dX5_order_162 hl (k := 1) rfl rfl (by decide) rfl (fun ls hl => ?_)
                            refine lv_goto (tgt := 94) hx hb dX5_order_165 (by decide) ?_
                            have hb2 := i_inc (x := k) (by omega)
                            exact ih_34 _ ⟨(k + 1), (b + 0), (by omega), (by omega), (by rw [he_35, liX5_order_eq, if_neg c_36, if_neg c_43, if_neg c_46]), lv_sub hl [0, 1, 2, 3, 4, 5, 6] rfl⟩
                          · skip
                            have t_48 : (k_mgood u k.toNatClampNeg).toInt = x1.toInt := i_eq c_46 rfl rfl
                            refine lv_aload_n hx hb dX5_order_123 rfl (lv_at hl 2 rfl) ?_
                            refine va_get (D := (dC, dI)) (C := RX5) (T := TX5) (N := 26) (v := .ref (h 2)) hx hb hts (fi_X5 _) hown hK hP 0 (mw_at0 _ _ _) rfl 3 (by decide) (hts _ (List.mem_cons_of_mem _ wd_253)) (fun _ h9 => h9) rfl dX5_order_124 ?_
                            refine lv_iload hx hb dX5_order_127 (lv_at hl 0 rfl) ?_
                            refine va_iald (f := k_mowner u) hx hb hK hP 2 0 (mw_at2 _ _ _) rfl (vp_in_iff.mpr (by omega)) dX5_order_129 ?_
                            refine lv_iload_n hx hb dX5_order_130 rfl (lv_at hl 4 rfl) ?_
                            refine lv_icmp_ne (tgt := 158) hx hb dX5_order_131 (by decide) (fun c_49 => ?_) (fun c_49 => ?_)
                            · skip
                              have t_50 : (k_mowner u k.toNatClampNeg).toInt ≠ x2.toInt := i_ne c_49 rfl rfl
                              refine lv_iconst (v := 0) hx hb dX5_order_158 (by decide) ?_
                              refine lv_iadd hx hb dX5_order_159 ?_
                              refine lv_istore (lv' := [(5, .int (b + 0)), (6, .int k), (0, .ref (h 0)), (1, .int x1), (2, .int x2), (3, .int x3), (4, .int i)]) hx hb dX5_order_160 hl (by decide) rfl (fun ls hl => ?_)
                              refine lv_iinc (v := k + 1) (lv' := [(6, .int (k + 1)), (5, .int (b + 0)), (0, .ref (h 0)), (1, .int x1), (2, .int x2), (3, .int x3), (4, .int i)]) hx hb dX5_order_162 hl (k := 1) rfl rfl (by decide) rfl (fun ls hl => ?_)
                              refine lv_goto (tgt := 94) hx hb dX5_order_165 (by decide) ?_
                              have hb2 := i_inc (x := k) (by omega)
                              exact ih_34 _ ⟨(k + 1), (b + 0), (by omega), (by omega), (by rw [he_35, liX5_order_eq, if_neg c_36, if_neg c_43, if_pos c_46, if_neg c_49]), lv_sub hl [0, 1, 2, 3, 4, 5, 6] rfl⟩
                            · skip
                              have t_51 : (k_mowner u k.toNatClampNeg).toInt = x2.toInt := i_eq c_49 rfl rfl
                              refine lv_aload_n hx hb dX5_order_134 rfl (lv_at hl 2 rfl) ?_
                              refine lv_iload hx hb dX5_order_135 (lv_at hl 0 rfl) ?_
                              refine vp_callSi (W.runV (As := [.int k]) (rest := [.int b]) ⟨hx, hb, hml, hown, hts⟩ (kX5_mayBeTaken l dC dI g h (s_mcode u 0) k (by omega)) (cwV 1 hts (gV wd_256 wd_257 wd_258 wd_241 wcX5_mayBeTaken) rfl rfl rfl (by decide +kernel) ⟨(Nat.le_of_ble_eq_true rfl), (Nat.le_of_ble_eq_true rfl)⟩) ⟨fun a U g mk q => by obtain ⟨q0, qP, qK⟩ := q; exact ⟨q0, qP, va_K.moved (u := U) (U := U.calling g mk a) (Vm.Alike.refl U.vm) qK⟩, va_recv hK hP (ci := 4) (q0 := 0) rfl (mw_at0 _ _ _), fun U hU hW => ⟨rfl, by rw [hU]; exact hP, va_K.moved hW.alike hK⟩⟩ rfl rfl hl.1 rfl (lv_room (Nat.le_of_ble_eq_true rfl)) dX5_order_137 ⟨(Nat.le_of_ble_eq_true rfl), (Nat.le_of_ble_eq_true rfl)⟩) (fun r_52 hw => ?_)
                              subst hw
                              refine lv_if_eq (tgt := 158) hx hb dX5_order_140 (by decide) (fun c_53 => ?_) (fun c_53 => ?_)
                              · skip
                                have t_54 : (fX5_mayBeTaken (s_mcode u 0) k).toInt = 0 := i_eq c_53 rfl (by decide)
                                refine lv_iconst (v := 0) hx hb dX5_order_158 (by decide) ?_
                                refine lv_iadd hx hb dX5_order_159 ?_
                                refine lv_istore (lv' := [(5, .int (b + 0)), (6, .int k), (0, .ref (h 0)), (1, .int x1), (2, .int x2), (3, .int x3), (4, .int i)]) hx hb dX5_order_160 hl (by decide) rfl (fun ls hl => ?_)
                                refine lv_iinc (v := k + 1) (lv' := [(6, .int (k + 1)), (5, .int (b + 0)), (0, .ref (h 0)), (1, .int x1), (2, .int x2), (3, .int x3), (4, .int i)]) hx hb dX5_order_162 hl (k := 1) rfl rfl (by decide) rfl (fun ls hl => ?_)
                                refine lv_goto (tgt := 94) hx hb dX5_order_165 (by decide) ?_
                                have hb2 := i_inc (x := k) (by omega)
                                exact ih_34 _ ⟨(k + 1), (b + 0), (by omega), (by omega), (by rw [he_35, liX5_order_eq, if_neg c_36, if_neg c_43, if_pos c_46, if_pos c_49, if_pos c_53]), lv_sub hl [0, 1, 2, 3, 4, 5, 6] rfl⟩
                              · skip
                                have t_55 : (fX5_mayBeTaken (s_mcode u 0) k).toInt ≠ 0 := i_ne c_53 rfl (by decide)
                                refine lv_aload_n hx hb dX5_order_143 rfl (lv_at hl 2 rfl) ?_
                                refine lv_iload hx hb dX5_order_144 (lv_at hl 0 rfl) ?_
                                refine lv_iload hx hb dX5_order_146 (lv_at hl 6 rfl) ?_
                                refine vp_callSi (W.runV (As := [.int k, .int i]) (rest := [.int b]) ⟨hx, hb, hml, hown, hts⟩ (kX5_isBefore l dC dI g h (s_mcode u 0) k i (by omega) (by omega) hI) (cwV 2 hts (gV wd_312 wd_313 wd_314 wd_241 wcX5_isBefore) rfl rfl rfl (by decide +kernel) ⟨(Nat.le_of_ble_eq_true rfl), (Nat.le_of_ble_eq_true rfl)⟩) ⟨fun a U g mk q => by obtain ⟨q0, qP, qK⟩ := q; exact ⟨q0, qP, va_K.moved (u := U) (U := U.calling g mk a) (Vm.Alike.refl U.vm) qK⟩, va_recv hK hP (ci := 4) (q0 := 0) rfl (mw_at0 _ _ _), fun U hU hW => ⟨rfl, by rw [hU]; exact hP, va_K.moved hW.alike hK⟩⟩ rfl rfl hl.1 rfl (lv_room (Nat.le_of_ble_eq_true rfl)) dX5_order_148 ⟨(Nat.le_of_ble_eq_true rfl), (Nat.le_of_ble_eq_true rfl)⟩) (fun r_56 hw => ?_)
                                subst hw
                                refine lv_if_eq (tgt := 158) hx hb dX5_order_151 (by decide) (fun c_57 => ?_) (fun c_57 => ?_)
                                · skip
                                  have t_58 : (fX5_isBefore (s_mcode u 0) k i).toInt = 0 := i_eq c_57 rfl (by decide)
                                  refine lv_iconst (v := 0) hx hb dX5_order_158 (by decide) ?_
                                  refine lv_iadd hx hb dX5_order_159 ?_
                                  refine lv_istore (lv' := [(5, .int (b + 0)), (6, .int k), (0, .ref (h 0)), (1, .int x1), (2, .int x2), (3, .int x3), (4, .int i)]) hx hb dX5_order_160 hl (by decide) rfl (fun ls hl => ?_)
                                  refine lv_iinc (v := k + 1) (lv' := [(6, .int (k + 1)), (5, .int (b + 0)), (0, .ref (h 0)), (1, .int x1), (2, .int x2), (3, .int x3), (4, .int i)]) hx hb dX5_order_162 hl (k := 1) rfl rfl (by decide) rfl (fun ls hl => ?_)
                                  refine lv_goto (tgt := 94) hx hb dX5_order_165 (by decide) ?_
                                  have hb2 := i_inc (x := k) (by omega)
                                  exact ih_34 _ ⟨(k + 1), (b + 0), (by omega), (by omega), (by rw [he_35, liX5_order_eq, if_neg c_36, if_neg c_43, if_pos c_46, if_pos c_49, if_neg c_53, if_pos c_57]), lv_sub hl [0, 1, 2, 3, 4, 5, 6] rfl⟩
                                · skip
                                  have t_59 : (fX5_isBefore (s_mcode u 0) k i).toInt ≠ 0 := i_ne c_57 rfl (by decide)
                                  refine lv_iconst (v := 1) hx hb dX5_order_154 (by decide) ?_
                                  refine lv_goto (tgt := 159) hx hb dX5_order_155 (by decide) ?_
                                  refine lv_iadd hx hb dX5_order_159 ?_
                                  refine lv_istore (lv' := [(5, .int (b + 1)), (6, .int k), (0, .ref (h 0)), (1, .int x1), (2, .int x2), (3, .int x3), (4, .int i)]) hx hb dX5_order_160 hl (by decide) rfl (fun ls hl => ?_)
                                  refine lv_iinc (v := k + 1) (lv' := [(6, .int (k + 1)), (5, .int (b + 1)), (0, .ref (h 0)), (1, .int x1), (2, .int x2), (3, .int x3), (4, .int i)]) hx hb dX5_order_162 hl (k := 1) rfl rfl (by decide) rfl (fun ls hl => ?_)
                                  refine lv_goto (tgt := 94) hx hb dX5_order_165 (by decide) ?_
                                  have hb2 := i_inc (x := k) (by omega)
                                  exact ih_34 _ ⟨(k + 1), (b + 1), (by omega), (by omega), (by rw [he_35, liX5_order_eq, if_neg c_36, if_neg c_43, if_pos c_46, if_pos c_49, if_neg c_53, if_neg c_57]), lv_sub hl [0, 1, 2, 3, 4, 5, 6] rfl⟩
                  · skip
                    have t_60 : (fX5_mayBeTaken (s_mcode u 0) i).toInt = 0 := i_eq c_31 rfl (by decide)
                    refine lv_goto (tgt := 177) hx hb dX5_order_85 (by decide) ?_
                    refine lv_iinc (v := i + 1) (lv' := [(4, .int (i + 1)), (0, .ref (h 0)), (1, .int x1), (2, .int x2), (3, .int x3)]) hx hb dX5_order_177 hl (k := 0) rfl rfl (by decide) rfl (fun ls hl => ?_)
                    refine lv_goto (tgt := 45) hx hb dX5_order_180 (by decide) ?_
                    have hb1 := i_inc (x := i) (by omega)
                    exact ih_19 _ ⟨(i + 1), (by omega), (by omega), (by rw [he_20, loX5_order_eq, if_neg c_21, if_pos c_24, if_pos c_27, if_pos c_31]), lv_sub hl [0, 1, 2, 3, 4] rfl⟩
        · skip
          exact absurd (by decide) c_17
      · skip
        have t_61 : x3.toInt < 0 := i_nle c_15 (by decide) rfl
        refine lv_iconst (v := 1) hx hb dX5_order_25 (by decide) ?_
        refine lv_goto (tgt := 30) hx hb dX5_order_26 (by decide) ?_
        refine va_put (D := (dC, dI)) (C := RX5) (T := TX5) (N := 26) (v := .int 1) (ty := .int) hx hb hts (fi_X5 _) tyX5 tyX5_ok nmX5 hown hK hP hD hS 0 (mw_at0 _ _ _) rfl 0 (by decide) (hts _ (List.mem_cons_of_mem _ wd_237)) (fun _ h9 => h9) rfl (by decide +kernel) rfl rfl (Nat.le_of_ble_eq_true rfl) dX5_order_30 (fun H locs hP hD hS => ?_)
        have hP : va_P (dC, dI) vwCl (mw g h (s_mcode u 1)) H := hP
        have hD : va_D A (mw g h (s_mcode u 1)) := hD
        refine lv_aload_n hx hb dX5_order_33 rfl (lv_at hl 0 rfl) ?_
        refine va_get (D := (dC, dI)) (C := RX5) (T := TX5) (N := 26) (v := .int 1) hx hb hts (fi_X5 _) hown hK hP 0 (mw_at0 _ _ _) rfl 0 (by decide) (hts _ (List.mem_cons_of_mem _ wd_237)) (fun _ h9 => h9) rfl dX5_order_34 ?_
        refine lv_if_le (tgt := 42) hx hb dX5_order_37 (by decide) (fun c_62 => ?_) (fun c_62 => ?_)
        · skip
          exact absurd c_62 (by decide)
        · skip
          refine lv_iconst (v := 0) hx hb dX5_order_40 (by decide) ?_
          exact W.iret (v := 0) hx hb hr (fun t ht hW => ⟨⟨0, (s_mcode u 1), rfl, (by unfold fX5_order; rw [if_neg c_2, if_neg c_9, if_neg c_15]), by rw [ht]; exact hP, hD⟩, hS.F ht⟩) hS.2.2 dX5_order_41
set_option maxHeartbeats 4000000 in
set_option maxRecDepth 100000 in
theorem kX5_join (l : Launch) (dC : Nat → ClassId) (dI : Nat → Nat → Nat) (g : cG) (h : Nat → Nat) (u : mS) (sz : Nat) (x1 : Int32) (x2 : Int32) (hI : mInv u) : Met l yX5_join wsX5_join ({ frames := 2, cells := 0, slots := 0, locals := 43 }) (va_Pc [.ref (h 0), .int x1, .int x2] (fun U => U.heap.size = sz ∧ va_P (dC, dI) vwCl (mw g h u) U.heap ∧ va_K (dC, dI) vwCl (cTys g) U ∧ va_D (fun _ => True) (mw g h u))) (va_Qv (fun u2 => u2 = fX5_join u x1 x2) (fun (u2 : mS) (t : State) => va_P (dC, dI) vwCl (mw g h u2) t.heap ∧ va_D (va_A (mw g h u) sz) (mw g h u2)) (va_A (mw g h u) sz)) 0 0 (va_A (mw g h u) sz) := by
  refine Met.ofW (cc := cX5_join) (maxL := 4) (ret := none) (by decide) rfl ?_
  intro p e s m args below meth c s₁ B hml hv
  obtain ⟨rfl, hsz, hP, hK, hD0⟩ := hv
  have hx := B.exec
  have hb := B.bytes
  have hr := B.returns
  have hts := atoms_spec (ws := wsX5_join) B.pre
  have hown : s.vm.findClass RX5 = some m.cls := findClass_of_methodNamed B.named
  have hlocks := B.notSynchronized
  subst hsz
  have hD := hD0.self (sz := s.heap.size)
  generalize hAe : va_A (mw g h u) s.heap.size = A at hD ⊢
  have hA : ∀ q : Nat, s.heap.size ≤ q → A q := fun q h => by rw [← hAe]; exact Or.inr h
  have hS : va_S A s.heap s.heap [] := va_S.rf
  have hl := lv_entry ([.ref (h 0), .int x1, .int x2]) (n := 4) (Nat.le_of_ble_eq_true rfl)
  rw [lg_entry_eq]
  generalize (lg_sl ([.ref (h 0), .int x1, .int x2]) ++ List.replicate (4 - (lg_sl ([.ref (h 0), .int x1, .int x2])).length) Slot.unset).toArray = ls at hl ⊢
  have hl : lv_has ls 4 [(0, .ref (h 0)), (1, .int x1), (2, .int x2)] := hl
  obtain ⟨hI1, hI2, hI3, hI4, hI5, hI6, hI7⟩ := id hI
  have z_0 : (0 : Int32).toInt = 0 := by decide
  have z_1 : (1 : Int32).toInt = 1 := by decide
  refine lv_aload_n hx hb dX5_join_0 rfl (lv_at hl 0 rfl) ?_
  refine lv_aload_n hx hb dX5_join_1 rfl (lv_at hl 0 rfl) ?_
  refine lv_iload_n hx hb dX5_join_2 rfl (lv_at hl 1 rfl) ?_
  refine vp_callSi (W.runV (As := [.int x1]) (rest := [.ref (h 0)]) ⟨hx, hb, hml, hown, hts⟩ (kX5_isLot l dC dI g h u x1) (cwV 1 hts (gV wd_288 wd_289 wd_290 wd_241 wcX5_isLot) rfl rfl rfl (by decide +kernel) ⟨(Nat.le_of_ble_eq_true rfl), (Nat.le_of_ble_eq_true rfl)⟩) ⟨fun a U g mk q => by obtain ⟨q0, qP, qK⟩ := q; exact ⟨q0, qP, va_K.moved (u := U) (U := U.calling g mk a) (Vm.Alike.refl U.vm) qK⟩, va_recv hK hP (ci := 4) (q0 := 0) rfl (mw_at0 _ _ _), fun U hU hW => ⟨rfl, by rw [hU]; exact hP, va_K.moved hW.alike hK⟩⟩ rfl rfl hl.1 rfl (lv_room (Nat.le_of_ble_eq_true rfl)) dX5_join_3 ⟨(Nat.le_of_ble_eq_true rfl), (Nat.le_of_ble_eq_true rfl)⟩) (fun r_1 hw => ?_)
  subst hw
  refine lv_if_eq (tgt := 17) hx hb dX5_join_6 (by decide) (fun c_2 => ?_) (fun c_2 => ?_)
  · skip
    have t_3 : (fX5_isLot u x1).toInt = 0 := i_eq c_2 rfl (by decide)
    refine lv_iconst (v := 1) hx hb dX5_join_17 (by decide) ?_
    refine lv_goto (tgt := 22) hx hb dX5_join_18 (by decide) ?_
    refine va_put (D := (dC, dI)) (C := RX5) (T := TX5) (N := 26) (v := .int 1) (ty := .int) hx hb hts (fi_X5 _) tyX5 tyX5_ok nmX5 hown hK hP hD hS 0 (mw_at0 _ _ _) rfl 0 (by decide) (hts _ (List.mem_cons_of_mem _ wd_237)) (fun _ h9 => h9) rfl (by decide +kernel) rfl rfl (Nat.le_of_ble_eq_true rfl) dX5_join_22 (fun H locs hP hD hS => ?_)
    have hP : va_P (dC, dI) vwCl (mw g h (s_mcode u 1)) H := hP
    have hD : va_D A (mw g h (s_mcode u 1)) := hD
    refine lv_aload_n hx hb dX5_join_25 rfl (lv_at hl 0 rfl) ?_
    refine va_get (D := (dC, dI)) (C := RX5) (T := TX5) (N := 26) (v := .int 1) hx hb hts (fi_X5 _) hown hK hP 0 (mw_at0 _ _ _) rfl 0 (by decide) (hts _ (List.mem_cons_of_mem _ wd_237)) (fun _ h9 => h9) rfl dX5_join_26 ?_
    refine lv_if_ne (tgt := 151) hx hb dX5_join_29 (by decide) (fun c_4 => ?_) (fun c_4 => ?_)
    · skip
      refine lv_aload_n hx hb dX5_join_151 rfl (lv_at hl 0 rfl) ?_
      refine va_get (D := (dC, dI)) (C := RX5) (T := TX5) (N := 26) (v := .int 1) hx hb hts (fi_X5 _) hown hK hP 0 (mw_at0 _ _ _) rfl 0 (by decide) (hts _ (List.mem_cons_of_mem _ wd_237)) (fun _ h9 => h9) rfl dX5_join_152 ?_
      refine lv_if_le (tgt := 159) hx hb dX5_join_155 (by decide) (fun c_5 => ?_) (fun c_5 => ?_)
      · skip
        exact absurd c_5 (by decide)
      · skip
        exact W.vret hx hb hr (fun t ht hW => ⟨⟨(s_mcode u 1), rfl, (by unfold fX5_join; rw [if_pos c_2]), by rw [ht]; exact hP, hD⟩, hS.F ht⟩) hS.2.2 dX5_join_158
    · skip
      exact absurd c_4 (by decide)
  · skip
    have t_6 : (fX5_isLot u x1).toInt ≠ 0 := i_ne c_2 rfl (by decide)
    have t_7 := il_lo c_2
    have t_8 := il_hi c_2
    refine lv_aload_n hx hb dX5_join_9 rfl (lv_at hl 0 rfl) ?_
    refine lv_iload_n hx hb dX5_join_10 rfl (lv_at hl 2 rfl) ?_
    refine vp_callSi (W.runV (As := [.int x2]) (rest := [.ref (h 0)]) ⟨hx, hb, hml, hown, hts⟩ (kX5_isLot l dC dI g h u x2) (cwV 1 hts (gV wd_288 wd_289 wd_290 wd_241 wcX5_isLot) rfl rfl rfl (by decide +kernel) ⟨(Nat.le_of_ble_eq_true rfl), (Nat.le_of_ble_eq_true rfl)⟩) ⟨fun a U g mk q => by obtain ⟨q0, qP, qK⟩ := q; exact ⟨q0, qP, va_K.moved (u := U) (U := U.calling g mk a) (Vm.Alike.refl U.vm) qK⟩, va_recv hK hP (ci := 4) (q0 := 0) rfl (mw_at0 _ _ _), fun U hU hW => ⟨rfl, by rw [hU]; exact hP, va_K.moved hW.alike hK⟩⟩ rfl rfl hl.1 rfl (lv_room (Nat.le_of_ble_eq_true rfl)) dX5_join_11 ⟨(Nat.le_of_ble_eq_true rfl), (Nat.le_of_ble_eq_true rfl)⟩) (fun r_9 hw => ?_)
    subst hw
    refine lv_if_ne (tgt := 21) hx hb dX5_join_14 (by decide) (fun c_10 => ?_) (fun c_10 => ?_)
    · skip
      have t_11 : (fX5_isLot u x2).toInt ≠ 0 := i_ne c_10 rfl (by decide)
      have t_12 := il_lo c_10
      have t_13 := il_hi c_10
      refine lv_iconst (v := 0) hx hb dX5_join_21 (by decide) ?_
      refine va_put (D := (dC, dI)) (C := RX5) (T := TX5) (N := 26) (v := .int 0) (ty := .int) hx hb hts (fi_X5 _) tyX5 tyX5_ok nmX5 hown hK hP hD hS 0 (mw_at0 _ _ _) rfl 0 (by decide) (hts _ (List.mem_cons_of_mem _ wd_237)) (fun _ h9 => h9) rfl (by decide +kernel) rfl rfl (Nat.le_of_ble_eq_true rfl) dX5_join_22 (fun H locs hP hD hS => ?_)
      have hP : va_P (dC, dI) vwCl (mw g h (s_mcode u 0)) H := hP
      have hD : va_D A (mw g h (s_mcode u 0)) := hD
      refine lv_aload_n hx hb dX5_join_25 rfl (lv_at hl 0 rfl) ?_
      refine va_get (D := (dC, dI)) (C := RX5) (T := TX5) (N := 26) (v := .int 0) hx hb hts (fi_X5 _) hown hK hP 0 (mw_at0 _ _ _) rfl 0 (by decide) (hts _ (List.mem_cons_of_mem _ wd_237)) (fun _ h9 => h9) rfl dX5_join_26 ?_
      refine lv_if_ne (tgt := 151) hx hb dX5_join_29 (by decide) (fun c_14 => ?_) (fun c_14 => ?_)
      · skip
        exact absurd (by decide) c_14
      · skip
        refine lv_aload_n hx hb dX5_join_32 rfl (lv_at hl 0 rfl) ?_
        refine lv_aload_n hx hb dX5_join_33 rfl (lv_at hl 0 rfl) ?_
        refine lv_iload_n hx hb dX5_join_34 rfl (lv_at hl 1 rfl) ?_
        refine vp_callSi (W.runV (As := [.int x1]) (rest := [.ref (h 0)]) ⟨hx, hb, hml, hown, hts⟩ (kX5_isOpen l dC dI g h (s_mcode u 0) x1 (by omega)) (cwV 1 hts (gV wd_246 wd_247 wd_248 wd_241 wcX5_isOpen) rfl rfl rfl (by decide +kernel) ⟨(Nat.le_of_ble_eq_true rfl), (Nat.le_of_ble_eq_true rfl)⟩) ⟨fun a U g mk q => by obtain ⟨q0, qP, qK⟩ := q; exact ⟨q0, qP, va_K.moved (u := U) (U := U.calling g mk a) (Vm.Alike.refl U.vm) qK⟩, va_recv hK hP (ci := 4) (q0 := 0) rfl (mw_at0 _ _ _), fun U hU hW => ⟨rfl, by rw [hU]; exact hP, va_K.moved hW.alike hK⟩⟩ rfl rfl hl.1 rfl (lv_room (Nat.le_of_ble_eq_true rfl)) dX5_join_35 ⟨(Nat.le_of_ble_eq_true rfl), (Nat.le_of_ble_eq_true rfl)⟩) (fun r_15 hw => ?_)
        subst hw
        refine lv_if_eq (tgt := 129) hx hb dX5_join_38 (by decide) (fun c_16 => ?_) (fun c_16 => ?_)
        · skip
          have t_17 : (fX5_isOpen (s_mcode u 0) x1).toInt = 0 := i_eq c_16 rfl (by decide)
          refine lv_iconst (v := 2) hx hb dX5_join_129 (by decide) ?_
          refine lv_goto (tgt := 148) hx hb dX5_join_130 (by decide) ?_
          refine va_put (D := (dC, dI)) (C := RX5) (T := TX5) (N := 26) (v := .int 2) (ty := .int) hx hb hts (fi_X5 _) tyX5 tyX5_ok nmX5 hown hK hP hD hS 0 (mw_at0 _ _ _) rfl 0 (by decide) (hts _ (List.mem_cons_of_mem _ wd_237)) (fun _ h9 => h9) rfl (by decide +kernel) rfl rfl (Nat.le_of_ble_eq_true rfl) dX5_join_148 (fun H locs hP hD hS => ?_)
          have hP : va_P (dC, dI) vwCl (mw g h (s_mcode u 2)) H := hP
          have hD : va_D A (mw g h (s_mcode u 2)) := hD
          refine lv_aload_n hx hb dX5_join_151 rfl (lv_at hl 0 rfl) ?_
          refine va_get (D := (dC, dI)) (C := RX5) (T := TX5) (N := 26) (v := .int 2) hx hb hts (fi_X5 _) hown hK hP 0 (mw_at0 _ _ _) rfl 0 (by decide) (hts _ (List.mem_cons_of_mem _ wd_237)) (fun _ h9 => h9) rfl dX5_join_152 ?_
          refine lv_if_le (tgt := 159) hx hb dX5_join_155 (by decide) (fun c_18 => ?_) (fun c_18 => ?_)
          · skip
            exact absurd c_18 (by decide)
          · skip
            exact W.vret hx hb hr (fun t ht hW => ⟨⟨(s_mcode u 2), rfl, (by unfold fX5_join; rw [if_neg c_2, if_neg c_10, if_pos c_16]), by rw [ht]; exact hP, hD⟩, hS.F ht⟩) hS.2.2 dX5_join_158
        · skip
          have t_19 : (fX5_isOpen (s_mcode u 0) x1).toInt ≠ 0 := i_ne c_16 rfl (by decide)
          refine lv_aload_n hx hb dX5_join_41 rfl (lv_at hl 0 rfl) ?_
          refine lv_iload_n hx hb dX5_join_42 rfl (lv_at hl 2 rfl) ?_
          refine vp_callSi (W.runV (As := [.int x2]) (rest := [.ref (h 0)]) ⟨hx, hb, hml, hown, hts⟩ (kX5_isOpen l dC dI g h (s_mcode u 0) x2 (by omega)) (cwV 1 hts (gV wd_246 wd_247 wd_248 wd_241 wcX5_isOpen) rfl rfl rfl (by decide +kernel) ⟨(Nat.le_of_ble_eq_true rfl), (Nat.le_of_ble_eq_true rfl)⟩) ⟨fun a U g mk q => by obtain ⟨q0, qP, qK⟩ := q; exact ⟨q0, qP, va_K.moved (u := U) (U := U.calling g mk a) (Vm.Alike.refl U.vm) qK⟩, va_recv hK hP (ci := 4) (q0 := 0) rfl (mw_at0 _ _ _), fun U hU hW => ⟨rfl, by rw [hU]; exact hP, va_K.moved hW.alike hK⟩⟩ rfl rfl hl.1 rfl (lv_room (Nat.le_of_ble_eq_true rfl)) dX5_join_43 ⟨(Nat.le_of_ble_eq_true rfl), (Nat.le_of_ble_eq_true rfl)⟩) (fun r_20 hw => ?_)
          subst hw
          refine lv_if_eq (tgt := 129) hx hb dX5_join_46 (by decide) (fun c_21 => ?_) (fun c_21 => ?_)
          · skip
            have t_22 : (fX5_isOpen (s_mcode u 0) x2).toInt = 0 := i_eq c_21 rfl (by decide)
            refine lv_iconst (v := 2) hx hb dX5_join_129 (by decide) ?_
            refine lv_goto (tgt := 148) hx hb dX5_join_130 (by decide) ?_
            refine va_put (D := (dC, dI)) (C := RX5) (T := TX5) (N := 26) (v := .int 2) (ty := .int) hx hb hts (fi_X5 _) tyX5 tyX5_ok nmX5 hown hK hP hD hS 0 (mw_at0 _ _ _) rfl 0 (by decide) (hts _ (List.mem_cons_of_mem _ wd_237)) (fun _ h9 => h9) rfl (by decide +kernel) rfl rfl (Nat.le_of_ble_eq_true rfl) dX5_join_148 (fun H locs hP hD hS => ?_)
            have hP : va_P (dC, dI) vwCl (mw g h (s_mcode u 2)) H := hP
            have hD : va_D A (mw g h (s_mcode u 2)) := hD
            refine lv_aload_n hx hb dX5_join_151 rfl (lv_at hl 0 rfl) ?_
            refine va_get (D := (dC, dI)) (C := RX5) (T := TX5) (N := 26) (v := .int 2) hx hb hts (fi_X5 _) hown hK hP 0 (mw_at0 _ _ _) rfl 0 (by decide) (hts _ (List.mem_cons_of_mem _ wd_237)) (fun _ h9 => h9) rfl dX5_join_152 ?_
            refine lv_if_le (tgt := 159) hx hb dX5_join_155 (by decide) (fun c_23 => ?_) (fun c_23 => ?_)
            · skip
              exact absurd c_23 (by decide)
            · skip
              exact W.vret hx hb hr (fun t ht hW => ⟨⟨(s_mcode u 2), rfl, (by unfold fX5_join; rw [if_neg c_2, if_neg c_10, if_neg c_16, if_pos c_21]), by rw [ht]; exact hP, hD⟩, hS.F ht⟩) hS.2.2 dX5_join_158
          · skip
            have t_24 : (fX5_isOpen (s_mcode u 0) x2).toInt ≠ 0 := i_ne c_21 rfl (by decide)
            refine lv_iload_n hx hb dX5_join_49 rfl (lv_at hl 1 rfl) ?_
            refine lv_iload_n hx hb dX5_join_50 rfl (lv_at hl 2 rfl) ?_
            refine lv_icmp_eq (tgt := 129) hx hb dX5_join_51 (by decide) (fun c_25 => ?_) (fun c_25 => ?_)
            · skip
              have t_26 : x1.toInt = x2.toInt := i_eq c_25 rfl rfl
              refine lv_iconst (v := 2) hx hb dX5_join_129 (by decide) ?_
              refine lv_goto (tgt := 148) hx hb dX5_join_130 (by decide) ?_
              refine va_put (D := (dC, dI)) (C := RX5) (T := TX5) (N := 26) (v := .int 2) (ty := .int) hx hb hts (fi_X5 _) tyX5 tyX5_ok nmX5 hown hK hP hD hS 0 (mw_at0 _ _ _) rfl 0 (by decide) (hts _ (List.mem_cons_of_mem _ wd_237)) (fun _ h9 => h9) rfl (by decide +kernel) rfl rfl (Nat.le_of_ble_eq_true rfl) dX5_join_148 (fun H locs hP hD hS => ?_)
              have hP : va_P (dC, dI) vwCl (mw g h (s_mcode u 2)) H := hP
              have hD : va_D A (mw g h (s_mcode u 2)) := hD
              refine lv_aload_n hx hb dX5_join_151 rfl (lv_at hl 0 rfl) ?_
              refine va_get (D := (dC, dI)) (C := RX5) (T := TX5) (N := 26) (v := .int 2) hx hb hts (fi_X5 _) hown hK hP 0 (mw_at0 _ _ _) rfl 0 (by decide) (hts _ (List.mem_cons_of_mem _ wd_237)) (fun _ h9 => h9) rfl dX5_join_152 ?_
              refine lv_if_le (tgt := 159) hx hb dX5_join_155 (by decide) (fun c_27 => ?_) (fun c_27 => ?_)
              · skip
                exact absurd c_27 (by decide)
              · skip
                exact W.vret hx hb hr (fun t ht hW => ⟨⟨(s_mcode u 2), rfl, (by unfold fX5_join; rw [if_neg c_2, if_neg c_10, if_neg c_16, if_neg c_21, if_pos c_25]), by rw [ht]; exact hP, hD⟩, hS.F ht⟩) hS.2.2 dX5_join_158
            · skip
              have t_28 : x1.toInt ≠ x2.toInt := i_ne c_25 rfl rfl
              refine lv_aload_n hx hb dX5_join_54 rfl (lv_at hl 0 rfl) ?_
              refine va_get (D := (dC, dI)) (C := RX5) (T := TX5) (N := 26) (v := .ref (h 1)) hx hb hts (fi_X5 _) hown hK hP 0 (mw_at0 _ _ _) rfl 2 (by decide) (hts _ (List.mem_cons_of_mem _ wd_261)) (fun _ h9 => h9) rfl dX5_join_55 ?_
              refine lv_iload_n hx hb dX5_join_58 rfl (lv_at hl 1 rfl) ?_
              refine va_iald (f := k_mgood u) hx hb hK hP 1 0 (mw_at1 _ _ _) rfl (vp_in_iff.mpr (by omega)) dX5_join_59 ?_
              refine lv_aload_n hx hb dX5_join_60 rfl (lv_at hl 0 rfl) ?_
              refine va_get (D := (dC, dI)) (C := RX5) (T := TX5) (N := 26) (v := .ref (h 1)) hx hb hts (fi_X5 _) hown hK hP 0 (mw_at0 _ _ _) rfl 2 (by decide) (hts _ (List.mem_cons_of_mem _ wd_261)) (fun _ h9 => h9) rfl dX5_join_61 ?_
              refine lv_iload_n hx hb dX5_join_64 rfl (lv_at hl 2 rfl) ?_
              refine va_iald (f := k_mgood u) hx hb hK hP 1 0 (mw_at1 _ _ _) rfl (vp_in_iff.mpr (by omega)) dX5_join_65 ?_
              refine lv_icmp_ne (tgt := 129) hx hb dX5_join_66 (by decide) (fun c_29 => ?_) (fun c_29 => ?_)
              · skip
                have t_30 : (k_mgood u x1.toNatClampNeg).toInt ≠ (k_mgood u x2.toNatClampNeg).toInt := i_ne c_29 rfl rfl
                refine lv_iconst (v := 2) hx hb dX5_join_129 (by decide) ?_
                refine lv_goto (tgt := 148) hx hb dX5_join_130 (by decide) ?_
                refine va_put (D := (dC, dI)) (C := RX5) (T := TX5) (N := 26) (v := .int 2) (ty := .int) hx hb hts (fi_X5 _) tyX5 tyX5_ok nmX5 hown hK hP hD hS 0 (mw_at0 _ _ _) rfl 0 (by decide) (hts _ (List.mem_cons_of_mem _ wd_237)) (fun _ h9 => h9) rfl (by decide +kernel) rfl rfl (Nat.le_of_ble_eq_true rfl) dX5_join_148 (fun H locs hP hD hS => ?_)
                have hP : va_P (dC, dI) vwCl (mw g h (s_mcode u 2)) H := hP
                have hD : va_D A (mw g h (s_mcode u 2)) := hD
                refine lv_aload_n hx hb dX5_join_151 rfl (lv_at hl 0 rfl) ?_
                refine va_get (D := (dC, dI)) (C := RX5) (T := TX5) (N := 26) (v := .int 2) hx hb hts (fi_X5 _) hown hK hP 0 (mw_at0 _ _ _) rfl 0 (by decide) (hts _ (List.mem_cons_of_mem _ wd_237)) (fun _ h9 => h9) rfl dX5_join_152 ?_
                refine lv_if_le (tgt := 159) hx hb dX5_join_155 (by decide) (fun c_31 => ?_) (fun c_31 => ?_)
                · skip
                  exact absurd c_31 (by decide)
                · skip
                  exact W.vret hx hb hr (fun t ht hW => ⟨⟨(s_mcode u 2), rfl, (by unfold fX5_join; rw [if_neg c_2, if_neg c_10, if_neg c_16, if_neg c_21, if_neg c_25, if_neg c_29]), by rw [ht]; exact hP, hD⟩, hS.F ht⟩) hS.2.2 dX5_join_158
              · skip
                have t_32 : (k_mgood u x1.toNatClampNeg).toInt = (k_mgood u x2.toNatClampNeg).toInt := i_eq c_29 rfl rfl
                refine lv_aload_n hx hb dX5_join_69 rfl (lv_at hl 0 rfl) ?_
                refine va_get (D := (dC, dI)) (C := RX5) (T := TX5) (N := 26) (v := .ref (h 2)) hx hb hts (fi_X5 _) hown hK hP 0 (mw_at0 _ _ _) rfl 3 (by decide) (hts _ (List.mem_cons_of_mem _ wd_253)) (fun _ h9 => h9) rfl dX5_join_70 ?_
                refine lv_iload_n hx hb dX5_join_73 rfl (lv_at hl 1 rfl) ?_
                refine va_iald (f := k_mowner u) hx hb hK hP 2 0 (mw_at2 _ _ _) rfl (vp_in_iff.mpr (by omega)) dX5_join_74 ?_
                refine lv_aload_n hx hb dX5_join_75 rfl (lv_at hl 0 rfl) ?_
                refine va_get (D := (dC, dI)) (C := RX5) (T := TX5) (N := 26) (v := .ref (h 2)) hx hb hts (fi_X5 _) hown hK hP 0 (mw_at0 _ _ _) rfl 3 (by decide) (hts _ (List.mem_cons_of_mem _ wd_253)) (fun _ h9 => h9) rfl dX5_join_76 ?_
                refine lv_iload_n hx hb dX5_join_79 rfl (lv_at hl 2 rfl) ?_
                refine va_iald (f := k_mowner u) hx hb hK hP 2 0 (mw_at2 _ _ _) rfl (vp_in_iff.mpr (by omega)) dX5_join_80 ?_
                refine lv_icmp_ne (tgt := 129) hx hb dX5_join_81 (by decide) (fun c_33 => ?_) (fun c_33 => ?_)
                · skip
                  have t_34 : (k_mowner u x1.toNatClampNeg).toInt ≠ (k_mowner u x2.toNatClampNeg).toInt := i_ne c_33 rfl rfl
                  refine lv_iconst (v := 2) hx hb dX5_join_129 (by decide) ?_
                  refine lv_goto (tgt := 148) hx hb dX5_join_130 (by decide) ?_
                  refine va_put (D := (dC, dI)) (C := RX5) (T := TX5) (N := 26) (v := .int 2) (ty := .int) hx hb hts (fi_X5 _) tyX5 tyX5_ok nmX5 hown hK hP hD hS 0 (mw_at0 _ _ _) rfl 0 (by decide) (hts _ (List.mem_cons_of_mem _ wd_237)) (fun _ h9 => h9) rfl (by decide +kernel) rfl rfl (Nat.le_of_ble_eq_true rfl) dX5_join_148 (fun H locs hP hD hS => ?_)
                  have hP : va_P (dC, dI) vwCl (mw g h (s_mcode u 2)) H := hP
                  have hD : va_D A (mw g h (s_mcode u 2)) := hD
                  refine lv_aload_n hx hb dX5_join_151 rfl (lv_at hl 0 rfl) ?_
                  refine va_get (D := (dC, dI)) (C := RX5) (T := TX5) (N := 26) (v := .int 2) hx hb hts (fi_X5 _) hown hK hP 0 (mw_at0 _ _ _) rfl 0 (by decide) (hts _ (List.mem_cons_of_mem _ wd_237)) (fun _ h9 => h9) rfl dX5_join_152 ?_
                  refine lv_if_le (tgt := 159) hx hb dX5_join_155 (by decide) (fun c_35 => ?_) (fun c_35 => ?_)
                  · skip
                    exact absurd c_35 (by decide)
                  · skip
                    exact W.vret hx hb hr (fun t ht hW => ⟨⟨(s_mcode u 2), rfl, (by unfold fX5_join; rw [if_neg c_2, if_neg c_10, if_neg c_16, if_neg c_21, if_neg c_25, if_pos c_29, if_neg c_33]), by rw [ht]; exact hP, hD⟩, hS.F ht⟩) hS.2.2 dX5_join_158
                · skip
                  have t_36 : (k_mowner u x1.toNatClampNeg).toInt = (k_mowner u x2.toNatClampNeg).toInt := i_eq c_33 rfl rfl
                  refine lv_aload_n hx hb dX5_join_84 rfl (lv_at hl 0 rfl) ?_
                  refine va_get (D := (dC, dI)) (C := RX5) (T := TX5) (N := 26) (v := .ref (h 3)) hx hb hts (fi_X5 _) hown hK hP 0 (mw_at0 _ _ _) rfl 4 (by decide) (hts _ (List.mem_cons_of_mem _ wd_255)) (fun _ h9 => h9) rfl dX5_join_85 ?_
                  refine lv_iload_n hx hb dX5_join_88 rfl (lv_at hl 1 rfl) ?_
                  refine va_iald (f := k_muntil u) hx hb hK hP 3 0 (mw_at3 _ _ _) rfl (vp_in_iff.mpr (by omega)) dX5_join_89 ?_
                  refine lv_aload_n hx hb dX5_join_90 rfl (lv_at hl 0 rfl) ?_
                  refine va_get (D := (dC, dI)) (C := RX5) (T := TX5) (N := 26) (v := .ref (h 3)) hx hb hts (fi_X5 _) hown hK hP 0 (mw_at0 _ _ _) rfl 4 (by decide) (hts _ (List.mem_cons_of_mem _ wd_255)) (fun _ h9 => h9) rfl dX5_join_91 ?_
                  refine lv_iload_n hx hb dX5_join_94 rfl (lv_at hl 2 rfl) ?_
                  refine va_iald (f := k_muntil u) hx hb hK hP 3 0 (mw_at3 _ _ _) rfl (vp_in_iff.mpr (by omega)) dX5_join_95 ?_
                  refine lv_icmp_ne (tgt := 129) hx hb dX5_join_96 (by decide) (fun c_37 => ?_) (fun c_37 => ?_)
                  · skip
                    have t_38 : (k_muntil u x1.toNatClampNeg).toInt ≠ (k_muntil u x2.toNatClampNeg).toInt := i_ne c_37 rfl rfl
                    refine lv_iconst (v := 2) hx hb dX5_join_129 (by decide) ?_
                    refine lv_goto (tgt := 148) hx hb dX5_join_130 (by decide) ?_
                    refine va_put (D := (dC, dI)) (C := RX5) (T := TX5) (N := 26) (v := .int 2) (ty := .int) hx hb hts (fi_X5 _) tyX5 tyX5_ok nmX5 hown hK hP hD hS 0 (mw_at0 _ _ _) rfl 0 (by decide) (hts _ (List.mem_cons_of_mem _ wd_237)) (fun _ h9 => h9) rfl (by decide +kernel) rfl rfl (Nat.le_of_ble_eq_true rfl) dX5_join_148 (fun H locs hP hD hS => ?_)
                    have hP : va_P (dC, dI) vwCl (mw g h (s_mcode u 2)) H := hP
                    have hD : va_D A (mw g h (s_mcode u 2)) := hD
                    refine lv_aload_n hx hb dX5_join_151 rfl (lv_at hl 0 rfl) ?_
                    refine va_get (D := (dC, dI)) (C := RX5) (T := TX5) (N := 26) (v := .int 2) hx hb hts (fi_X5 _) hown hK hP 0 (mw_at0 _ _ _) rfl 0 (by decide) (hts _ (List.mem_cons_of_mem _ wd_237)) (fun _ h9 => h9) rfl dX5_join_152 ?_
                    refine lv_if_le (tgt := 159) hx hb dX5_join_155 (by decide) (fun c_39 => ?_) (fun c_39 => ?_)
                    · skip
                      exact absurd c_39 (by decide)
                    · skip
                      exact W.vret hx hb hr (fun t ht hW => ⟨⟨(s_mcode u 2), rfl, (by unfold fX5_join; rw [if_neg c_2, if_neg c_10, if_neg c_16, if_neg c_21, if_neg c_25, if_pos c_29, if_pos c_33, if_neg c_37]), by rw [ht]; exact hP, hD⟩, hS.F ht⟩) hS.2.2 dX5_join_158
                  · skip
                    have t_40 : (k_muntil u x1.toNatClampNeg).toInt = (k_muntil u x2.toNatClampNeg).toInt := i_eq c_37 rfl rfl
                    refine lv_aload_n hx hb dX5_join_99 rfl (lv_at hl 0 rfl) ?_
                    refine va_get (D := (dC, dI)) (C := RX5) (T := TX5) (N := 26) (v := .ref (h 7)) hx hb hts (fi_X5 _) hown hK hP 0 (mw_at0 _ _ _) rfl 8 (by decide) (hts _ (List.mem_cons_of_mem _ wd_250)) (fun _ h9 => h9) rfl dX5_join_100 ?_
                    refine lv_iload_n hx hb dX5_join_103 rfl (lv_at hl 1 rfl) ?_
                    refine va_iald (f := k_mblk u) hx hb hK hP 7 0 (mw_at7 _ _ _) rfl (vp_in_iff.mpr (by omega)) dX5_join_104 ?_
                    refine lv_aload_n hx hb dX5_join_105 rfl (lv_at hl 0 rfl) ?_
                    refine va_get (D := (dC, dI)) (C := RX5) (T := TX5) (N := 26) (v := .ref (h 7)) hx hb hts (fi_X5 _) hown hK hP 0 (mw_at0 _ _ _) rfl 8 (by decide) (hts _ (List.mem_cons_of_mem _ wd_250)) (fun _ h9 => h9) rfl dX5_join_106 ?_
                    refine lv_iload_n hx hb dX5_join_109 rfl (lv_at hl 2 rfl) ?_
                    refine va_iald (f := k_mblk u) hx hb hK hP 7 0 (mw_at7 _ _ _) rfl (vp_in_iff.mpr (by omega)) dX5_join_110 ?_
                    refine lv_icmp_ne (tgt := 129) hx hb dX5_join_111 (by decide) (fun c_41 => ?_) (fun c_41 => ?_)
                    · skip
                      have t_42 : (k_mblk u x1.toNatClampNeg).toInt ≠ (k_mblk u x2.toNatClampNeg).toInt := i_ne c_41 rfl rfl
                      refine lv_iconst (v := 2) hx hb dX5_join_129 (by decide) ?_
                      refine lv_goto (tgt := 148) hx hb dX5_join_130 (by decide) ?_
                      refine va_put (D := (dC, dI)) (C := RX5) (T := TX5) (N := 26) (v := .int 2) (ty := .int) hx hb hts (fi_X5 _) tyX5 tyX5_ok nmX5 hown hK hP hD hS 0 (mw_at0 _ _ _) rfl 0 (by decide) (hts _ (List.mem_cons_of_mem _ wd_237)) (fun _ h9 => h9) rfl (by decide +kernel) rfl rfl (Nat.le_of_ble_eq_true rfl) dX5_join_148 (fun H locs hP hD hS => ?_)
                      have hP : va_P (dC, dI) vwCl (mw g h (s_mcode u 2)) H := hP
                      have hD : va_D A (mw g h (s_mcode u 2)) := hD
                      refine lv_aload_n hx hb dX5_join_151 rfl (lv_at hl 0 rfl) ?_
                      refine va_get (D := (dC, dI)) (C := RX5) (T := TX5) (N := 26) (v := .int 2) hx hb hts (fi_X5 _) hown hK hP 0 (mw_at0 _ _ _) rfl 0 (by decide) (hts _ (List.mem_cons_of_mem _ wd_237)) (fun _ h9 => h9) rfl dX5_join_152 ?_
                      refine lv_if_le (tgt := 159) hx hb dX5_join_155 (by decide) (fun c_43 => ?_) (fun c_43 => ?_)
                      · skip
                        exact absurd c_43 (by decide)
                      · skip
                        exact W.vret hx hb hr (fun t ht hW => ⟨⟨(s_mcode u 2), rfl, (by unfold fX5_join; rw [if_neg c_2, if_neg c_10, if_neg c_16, if_neg c_21, if_neg c_25, if_pos c_29, if_pos c_33, if_pos c_37, if_neg c_41]), by rw [ht]; exact hP, hD⟩, hS.F ht⟩) hS.2.2 dX5_join_158
                    · skip
                      have t_44 : (k_mblk u x1.toNatClampNeg).toInt = (k_mblk u x2.toNatClampNeg).toInt := i_eq c_41 rfl rfl
                      refine lv_aload_n hx hb dX5_join_114 rfl (lv_at hl 0 rfl) ?_
                      refine va_get (D := (dC, dI)) (C := RX5) (T := TX5) (N := 26) (v := .ref (h 8)) hx hb hts (fi_X5 _) hown hK hP 0 (mw_at0 _ _ _) rfl 9 (by decide) (hts _ (List.mem_cons_of_mem _ wd_251)) (fun _ h9 => h9) rfl dX5_join_115 ?_
                      refine lv_iload_n hx hb dX5_join_118 rfl (lv_at hl 1 rfl) ?_
                      refine va_zald (f := k_mquiet u) hx hb hK hP 8 1 (mw_at8 _ _ _) rfl (vp_in_iff.mpr (by omega)) dX5_join_119 ?_
                      refine lv_aload_n hx hb dX5_join_120 rfl (lv_at hl 0 rfl) ?_
                      refine va_get (D := (dC, dI)) (C := RX5) (T := TX5) (N := 26) (v := .ref (h 8)) hx hb hts (fi_X5 _) hown hK hP 0 (mw_at0 _ _ _) rfl 9 (by decide) (hts _ (List.mem_cons_of_mem _ wd_251)) (fun _ h9 => h9) rfl dX5_join_121 ?_
                      refine lv_iload_n hx hb dX5_join_124 rfl (lv_at hl 2 rfl) ?_
                      refine va_zald (f := k_mquiet u) hx hb hK hP 8 1 (mw_at8 _ _ _) rfl (vp_in_iff.mpr (by omega)) dX5_join_125 ?_
                      refine lv_icmp_eq (tgt := 133) hx hb dX5_join_126 (by decide) (fun c_45 => ?_) (fun c_45 => ?_)
                      · skip
                        have t_46 : (k_mquiet u x1.toNatClampNeg).toInt = (k_mquiet u x2.toNatClampNeg).toInt := i_eq c_45 rfl rfl
                        refine lv_aload_n hx hb dX5_join_133 rfl (lv_at hl 0 rfl) ?_
                        refine va_get (D := (dC, dI)) (C := RX5) (T := TX5) (N := 26) (v := .int (k_mrows u)) hx hb hts (fi_X5 _) hown hK hP 0 (mw_at0 _ _ _) rfl 20 (by decide) (hts _ (List.mem_cons_of_mem _ wd_273)) (fun _ h9 => h9) rfl dX5_join_134 ?_
                        refine lv_sipush (v := 398) hx hb dX5_join_137 (by decide) ?_
                        refine lv_icmp_le (tgt := 147) hx hb dX5_join_140 (by decide) (fun c_47 => ?_) (fun c_47 => ?_)
                        · skip
                          have t_48 : (k_mrows u).toInt ≤ 398 := i_le c_47 rfl (by decide)
                          refine lv_iconst (v := 0) hx hb dX5_join_147 (by decide) ?_
                          refine va_put (D := (dC, dI)) (C := RX5) (T := TX5) (N := 26) (v := .int 0) (ty := .int) hx hb hts (fi_X5 _) tyX5 tyX5_ok nmX5 hown hK hP hD hS 0 (mw_at0 _ _ _) rfl 0 (by decide) (hts _ (List.mem_cons_of_mem _ wd_237)) (fun _ h9 => h9) rfl (by decide +kernel) rfl rfl (Nat.le_of_ble_eq_true rfl) dX5_join_148 (fun H locs hP hD hS => ?_)
                          have hP : va_P (dC, dI) vwCl (mw g h (s_mcode u 0)) H := hP
                          have hD : va_D A (mw g h (s_mcode u 0)) := hD
                          refine lv_aload_n hx hb dX5_join_151 rfl (lv_at hl 0 rfl) ?_
                          refine va_get (D := (dC, dI)) (C := RX5) (T := TX5) (N := 26) (v := .int 0) hx hb hts (fi_X5 _) hown hK hP 0 (mw_at0 _ _ _) rfl 0 (by decide) (hts _ (List.mem_cons_of_mem _ wd_237)) (fun _ h9 => h9) rfl dX5_join_152 ?_
                          refine lv_if_le (tgt := 159) hx hb dX5_join_155 (by decide) (fun c_49 => ?_) (fun c_49 => ?_)
                          · skip
                            refine lv_aload_n hx hb dX5_join_159 rfl (lv_at hl 0 rfl) ?_
                            refine va_get (D := (dC, dI)) (C := RX5) (T := TX5) (N := 26) (v := .ref (h 6)) hx hb hts (fi_X5 _) hown hK hP 0 (mw_at0 _ _ _) rfl 7 (by decide) (hts _ (List.mem_cons_of_mem _ wd_244)) (fun _ h9 => h9) rfl dX5_join_160 ?_
                            refine lv_iload_n hx hb dX5_join_163 rfl (lv_at hl 2 rfl) ?_
                            refine lv_iload_n hx hb dX5_join_164 rfl (lv_at hl 1 rfl) ?_
                            refine va_iast (f := k_minto u) hx hb hK hP hD hS 6 0 (mw_at6 _ _ _) rfl (vp_in_iff.mpr (by omega)) dX5_join_165 (fun H locs hP hD hS => ?_)
                            have hP : va_P (dC, dI) vwCl (mw g h (s_minto (s_mcode u 0) (upd (k_minto u) x2.toNatClampNeg x1))) H := hP
                            have hD : va_D A (mw g h (s_minto (s_mcode u 0) (upd (k_minto u) x2.toNatClampNeg x1))) := hD
                            refine lv_iconst (v := 1) hx hb dX5_join_166 (by decide) ?_
                            refine lv_istore_n (lv' := [(3, .int 1), (0, .ref (h 0)), (1, .int x1), (2, .int x2)]) hx hb dX5_join_167 rfl hl (by decide) rfl (fun ls hl => ?_)
                            refine lp_indH (fun H locs => W p l e _ s m _ below meth c H locs _ _ _) (fun n H locs ls => ∃ (i : Int32) (v : mS), ((k_munits v).toInt - i.toInt + 1 < (n : Int)) ∧ (1 ≤ i.toInt ∧ i.toInt ≤ 121 ∧ i.toInt ≤ (k_munits v).toInt + 1) ∧ (0 ≤ (k_munits v).toInt ∧ (k_munits v).toInt ≤ 120) ∧ (k_mrows v = k_mrows u) ∧ fX5_join u x1 x2 = lpX5_join x1 x2 n i v ∧ va_P (dC, dI) vwCl (mw g h v) H ∧ va_D A (mw g h v) ∧ va_S A s.heap H locs ∧ lv_has ls 4 [(3, .int i), (0, .ref (h 0)), (1, .int x1), (2, .int x2)]) m 168 (fun H locs ls hI0 => ?_) (fun n H locs ls hI0 ih => ?_) 121 _ _ _ ⟨1, (s_minto (s_mcode u 0) (upd (k_minto u) x2.toNatClampNeg x1)), (by have e9 : k_munits (s_minto (s_mcode u 0) (upd (k_minto u) x2.toNatClampNeg x1)) = k_munits u := rfl; rw [e9]; omega), (by have e9 : k_munits (s_minto (s_mcode u 0) (upd (k_minto u) x2.toNatClampNeg x1)) = k_munits u := rfl; rw [e9]; omega), (by have e9 : k_munits (s_minto (s_mcode u 0) (upd (k_minto u) x2.toNatClampNeg x1)) = k_munits u := rfl; rw [e9]; omega), rfl, (by unfold fX5_join; rw [if_neg c_2, if_neg c_10, if_neg c_16, if_neg c_21, if_neg c_25, if_pos c_29, if_pos c_33, if_pos c_37, if_pos c_41, if_pos c_45, if_pos c_47]), hP, hD, hS, lv_sub hl [0, 1, 2, 3] rfl⟩
                            · skip
                              obtain ⟨i, v, hn, hi, hv, hrw, he, hP, hD, hS, hl⟩ := hI0
                              exact absurd hn (by omega)
                            · skip
                              obtain ⟨i, v, hn, hi, hv, hrw, he, hP, hD, hS, hl⟩ := hI0
                              have he_52 := he
                              have ih_51 := ih
                              refine lv_iload_n hx hb dX5_join_168 rfl (lv_at hl 0 rfl) ?_
                              refine lv_aload_n hx hb dX5_join_169 rfl (lv_at hl 1 rfl) ?_
                              refine va_get (D := (dC, dI)) (C := RX5) (T := TX5) (N := 26) (v := .int (k_munits v)) hx hb hts (fi_X5 _) hown hK hP 0 (mw_at0 _ _ _) rfl 14 (by decide) (hts _ (List.mem_cons_of_mem _ wd_243)) (fun _ h9 => h9) rfl dX5_join_170 ?_
                              refine lv_icmp_gt (tgt := 214) hx hb dX5_join_173 (by decide) (fun c_53 => ?_) (fun c_53 => ?_)
                              · skip
                                have t_54 : (k_munits v).toInt < i.toInt := i_lt c_53 rfl rfl
                                refine lv_aload_n hx hb dX5_join_214 rfl (lv_at hl 1 rfl) ?_
                                refine lv_iload_n hx hb dX5_join_215 rfl (lv_at hl 2 rfl) ?_
                                refine lv_iconst (v := 4) hx hb dX5_join_216 (by decide) ?_
                                refine lv_iload_n hx hb dX5_join_217 rfl (lv_at hl 3 rfl) ?_
                                have hFc := va_free (wc := mw g h v) hD hS hA [0, 1, 2, 3, 4, 5, 6, 7, 8, 9, 10, 11, 12, 13, 14, 15, 16, 17, 18, 19, 20, 21, 22] rfl
                                refine va_callv (va_runV (As := [.int x1, .int 4, .int x2]) (rest := []) ⟨hx, hb, hml, hown, hts⟩ (kX5_row l dC dI g h v _ x1 4 x2 (by show 0 ≤ (k_mrows v).toInt ∧ (k_mrows v).toInt < 400; rw [hrw]; omega)) (cwV 3 hts (gV wd_283 wd_284 wd_285 wd_241 wcX5_row) rfl rfl rfl (by decide +kernel) ⟨(Nat.le_of_ble_eq_true rfl), (Nat.le_of_ble_eq_true rfl)⟩) ⟨fun a U g mk q => by obtain ⟨q0, q1, qP, qK, qD⟩ := q; exact ⟨q0, q1, qP, va_K.moved (u := U) (U := U.calling g mk a) (Vm.Alike.refl U.vm) qK, qD⟩, va_recv hK hP (ci := 4) (q0 := 0) rfl (mw_at0 _ _ _), fun U hU hW => ⟨rfl, by rw [hU], by rw [hU]; exact hP, va_K.moved hW.alike hK, hD.weaken (fun _ _ _ _ => trivial)⟩⟩ rfl rfl hl.1 rfl (lv_room (Nat.le_of_ble_eq_true rfl)) dX5_join_218 ⟨(Nat.le_of_ble_eq_true rfl), (Nat.le_of_ble_eq_true rfl)⟩) hS (fun q _ h => hFc q h) hFc (fun u_55 t H locs ht hvm hw hB hz1 hk1 hS => ?_)
                                obtain ⟨hP, hD⟩ := hB
                                rw [ht] at hP
                                have hD := hD.weaken (fun _ _ _ h => hFc _ h)
                                have e_57 : u_55 = fX5_row v x1 4 x2 := hw
                                clear hw
                                refine lv_aload_n hx hb dX5_join_221 rfl (lv_at hl 1 rfl) ?_
                                refine lv_iload_n hx hb dX5_join_222 rfl (lv_at hl 3 rfl) ?_
                                refine lv_iconst (v := 5) hx hb dX5_join_223 (by decide) ?_
                                refine lv_iload_n hx hb dX5_join_224 rfl (lv_at hl 2 rfl) ?_
                                have hFc := va_free (wc := mw g h u_55) hD hS hA [0, 1, 2, 3, 4, 5, 6, 7, 8, 9, 10, 11, 12, 13, 14, 15, 16, 17, 18, 19, 20, 21, 22] rfl
                                refine va_callv (va_runV (As := [.int x2, .int 5, .int x1]) (rest := []) ⟨hx, hb, hml, hown, hts⟩ (kX5_row l dC dI g h u_55 _ x2 5 x1 (by subst e_57; have hm2 := i_inc (x := k_mrows u) (by omega); show 0 ≤ (k_mrows v + 1).toInt ∧ (k_mrows v + 1).toInt < 400; rw [hrw]; omega)) (cwV 3 hts (gV wd_283 wd_284 wd_285 wd_241 wcX5_row) rfl rfl rfl (by decide +kernel) ⟨(Nat.le_of_ble_eq_true rfl), (Nat.le_of_ble_eq_true rfl)⟩) ⟨fun a U g mk q => by obtain ⟨q0, q1, qP, qK, qD⟩ := q; exact ⟨q0, q1, qP, va_K.moved (u := U) (U := U.calling g mk a) (Vm.Alike.refl U.vm) qK, qD⟩, va_recv hK hP (ci := 4) (q0 := 0) rfl (mw_at0 _ _ _), fun U hU hW => ⟨rfl, by rw [hU], by rw [hU]; exact hP, va_K.moved hW.alike hK, hD.weaken (fun _ _ _ _ => trivial)⟩⟩ rfl rfl hl.1 rfl (lv_room (Nat.le_of_ble_eq_true rfl)) dX5_join_225 ⟨(Nat.le_of_ble_eq_true rfl), (Nat.le_of_ble_eq_true rfl)⟩) hS (fun q _ h => hFc q h) hFc (fun u_58 t H locs ht hvm hw hB hz1 hk1 hS => ?_)
                                obtain ⟨hP, hD⟩ := hB
                                rw [ht] at hP
                                have hD := hD.weaken (fun _ _ _ h => hFc _ h)
                                have e_60 : u_58 = fX5_row u_55 x2 5 x1 := hw
                                clear hw
                                exact W.vret hx hb hr (fun t ht hW => ⟨⟨u_58, rfl, (by subst e_60; subst e_57; rw [he_52, lpX5_join_eq, if_pos c_53]), by rw [ht]; exact hP, hD⟩, hS.F ht⟩) hS.2.2 dX5_join_228
                              · skip
                                have t_61 : i.toInt ≤ (k_munits v).toInt := i_nlt c_53 rfl rfl
                                refine lv_aload_n hx hb dX5_join_176 rfl (lv_at hl 1 rfl) ?_
                                refine va_get (D := (dC, dI)) (C := RX5) (T := TX5) (N := 26) (v := .ref (h 13)) hx hb hts (fi_X5 _) hown hK hP 0 (mw_at0 _ _ _) rfl 15 (by decide) (hts _ (List.mem_cons_of_mem _ wd_299)) (fun _ h9 => h9) rfl dX5_join_177 ?_
                                refine lv_iload_n hx hb dX5_join_180 rfl (lv_at hl 0 rfl) ?_
                                refine va_iald (f := k_mlotOf v) hx hb hK hP 13 0 (mw_at13 _ _ _) rfl (vp_in_iff.mpr (by omega)) dX5_join_181 ?_
                                refine lv_iload_n hx hb dX5_join_182 rfl (lv_at hl 3 rfl) ?_
                                refine lv_icmp_eq (tgt := 189) hx hb dX5_join_183 (by decide) (fun c_62 => ?_) (fun c_62 => ?_)
                                · skip
                                  have t_63 : (k_mlotOf v i.toNatClampNeg).toInt = x2.toInt := i_eq c_62 rfl rfl
                                  refine lv_aload_n hx hb dX5_join_189 rfl (lv_at hl 1 rfl) ?_
                                  refine va_get (D := (dC, dI)) (C := RX5) (T := TX5) (N := 26) (v := .ref (h 13)) hx hb hts (fi_X5 _) hown hK hP 0 (mw_at0 _ _ _) rfl 15 (by decide) (hts _ (List.mem_cons_of_mem _ wd_299)) (fun _ h9 => h9) rfl dX5_join_190 ?_
                                  refine lv_iload_n hx hb dX5_join_193 rfl (lv_at hl 0 rfl) ?_
                                  refine lv_iload_n hx hb dX5_join_194 rfl (lv_at hl 2 rfl) ?_
                                  refine va_iast (f := k_mlotOf v) hx hb hK hP hD hS 13 0 (mw_at13 _ _ _) rfl (vp_in_iff.mpr (by omega)) dX5_join_195 (fun H locs hP hD hS => ?_)
                                  have hP : va_P (dC, dI) vwCl (mw g h (s_mlotOf v (upd (k_mlotOf v) i.toNatClampNeg x1))) H := hP
                                  have hD : va_D A (mw g h (s_mlotOf v (upd (k_mlotOf v) i.toNatClampNeg x1))) := hD
                                  refine lv_aload_n hx hb dX5_join_196 rfl (lv_at hl 1 rfl) ?_
                                  refine va_get (D := (dC, dI)) (C := RX5) (T := TX5) (N := 26) (v := .ref (h 17)) hx hb hts (fi_X5 _) hown hK hP 0 (mw_at0 _ _ _) rfl 19 (by decide) (hts _ (List.mem_cons_of_mem _ wd_302)) (fun _ h9 => h9) rfl dX5_join_197 ?_
                                  refine lv_bipush (v := 41) hx hb dX5_join_200 (by decide) ?_
                                  refine lv_iload_n hx hb dX5_join_202 rfl (lv_at hl 0 rfl) ?_
                                  refine lv_imul hx hb dX5_join_203 ?_
                                  refine lv_iload_n hx hb dX5_join_204 rfl (lv_at hl 2 rfl) ?_
                                  refine lv_iadd hx hb dX5_join_205 ?_
                                  refine lv_iconst (v := 1) hx hb dX5_join_206 (by decide) ?_
                                  refine va_zast (f := k_mwas v) hx hb hK hP hD hS 17 1 (mw_at17 _ _ _) rfl (was_in (by omega) (by omega)) dX5_join_207 (fun H locs hP hD hS => ?_)
                                  have hP : va_P (dC, dI) vwCl (mw g h (s_mwas (s_mlotOf v (upd (k_mlotOf v) i.toNatClampNeg x1)) (upd (k_mwas v) ((41 * i) + x1).toNatClampNeg (vp_nar .boolean 1)))) H := hP
                                  have hD : va_D A (mw g h (s_mwas (s_mlotOf v (upd (k_mlotOf v) i.toNatClampNeg x1)) (upd (k_mwas v) ((41 * i) + x1).toNatClampNeg (vp_nar .boolean 1)))) := hD
                                  refine lv_iinc (v := i + 1) (lv' := [(3, .int (i + 1)), (0, .ref (h 0)), (1, .int x1), (2, .int x2)]) hx hb dX5_join_208 hl (k := 0) rfl rfl (by decide) rfl (fun ls hl => ?_)
                                  refine lv_goto (tgt := 168) hx hb dX5_join_211 (by decide) ?_
                                  have hb1 := i_inc (x := i) (by omega)
                                  exact ih_51 _ _ _ ⟨(i + 1), (s_mwas (s_mlotOf v (upd (k_mlotOf v) i.toNatClampNeg x1)) (upd (k_mwas v) ((41 * i) + x1).toNatClampNeg (vp_nar .boolean 1))), (by have e9 : k_munits (s_mwas (s_mlotOf v (upd (k_mlotOf v) i.toNatClampNeg x1)) (upd (k_mwas v) ((41 * i) + x1).toNatClampNeg (vp_nar .boolean 1))) = k_munits v := rfl; rw [e9]; omega), (by have e9 : k_munits (s_mwas (s_mlotOf v (upd (k_mlotOf v) i.toNatClampNeg x1)) (upd (k_mwas v) ((41 * i) + x1).toNatClampNeg (vp_nar .boolean 1))) = k_munits v := rfl; rw [e9]; omega), (by have e9 : k_munits (s_mwas (s_mlotOf v (upd (k_mlotOf v) i.toNatClampNeg x1)) (upd (k_mwas v) ((41 * i) + x1).toNatClampNeg (vp_nar .boolean 1))) = k_munits v := rfl; rw [e9]; omega), hrw, (by rw [he_52, lpX5_join_eq, if_neg c_53, if_pos c_62]), hP, hD, hS, lv_sub hl [0, 1, 2, 3] rfl⟩
                                · skip
                                  have t_64 : (k_mlotOf v i.toNatClampNeg).toInt ≠ x2.toInt := i_ne c_62 rfl rfl
                                  refine lv_goto (tgt := 208) hx hb dX5_join_186 (by decide) ?_
                                  refine lv_iinc (v := i + 1) (lv' := [(3, .int (i + 1)), (0, .ref (h 0)), (1, .int x1), (2, .int x2)]) hx hb dX5_join_208 hl (k := 0) rfl rfl (by decide) rfl (fun ls hl => ?_)
                                  refine lv_goto (tgt := 168) hx hb dX5_join_211 (by decide) ?_
                                  have hb1 := i_inc (x := i) (by omega)
                                  exact ih_51 _ _ _ ⟨(i + 1), v, (by have e9 : k_munits v = k_munits v := rfl; rw [e9]; omega), (by have e9 : k_munits v = k_munits v := rfl; rw [e9]; omega), (by have e9 : k_munits v = k_munits v := rfl; rw [e9]; omega), hrw, (by rw [he_52, lpX5_join_eq, if_neg c_53, if_neg c_62]), hP, hD, hS, lv_sub hl [0, 1, 2, 3] rfl⟩
                          · skip
                            exact absurd (by decide) c_49
                        · skip
                          have t_65 : 398 < (k_mrows u).toInt := i_nle c_47 rfl (by decide)
                          refine lv_iconst (v := 3) hx hb dX5_join_143 (by decide) ?_
                          refine lv_goto (tgt := 148) hx hb dX5_join_144 (by decide) ?_
                          refine va_put (D := (dC, dI)) (C := RX5) (T := TX5) (N := 26) (v := .int 3) (ty := .int) hx hb hts (fi_X5 _) tyX5 tyX5_ok nmX5 hown hK hP hD hS 0 (mw_at0 _ _ _) rfl 0 (by decide) (hts _ (List.mem_cons_of_mem _ wd_237)) (fun _ h9 => h9) rfl (by decide +kernel) rfl rfl (Nat.le_of_ble_eq_true rfl) dX5_join_148 (fun H locs hP hD hS => ?_)
                          have hP : va_P (dC, dI) vwCl (mw g h (s_mcode u 3)) H := hP
                          have hD : va_D A (mw g h (s_mcode u 3)) := hD
                          refine lv_aload_n hx hb dX5_join_151 rfl (lv_at hl 0 rfl) ?_
                          refine va_get (D := (dC, dI)) (C := RX5) (T := TX5) (N := 26) (v := .int 3) hx hb hts (fi_X5 _) hown hK hP 0 (mw_at0 _ _ _) rfl 0 (by decide) (hts _ (List.mem_cons_of_mem _ wd_237)) (fun _ h9 => h9) rfl dX5_join_152 ?_
                          refine lv_if_le (tgt := 159) hx hb dX5_join_155 (by decide) (fun c_66 => ?_) (fun c_66 => ?_)
                          · skip
                            exact absurd c_66 (by decide)
                          · skip
                            exact W.vret hx hb hr (fun t ht hW => ⟨⟨(s_mcode u 3), rfl, (by unfold fX5_join; rw [if_neg c_2, if_neg c_10, if_neg c_16, if_neg c_21, if_neg c_25, if_pos c_29, if_pos c_33, if_pos c_37, if_pos c_41, if_pos c_45, if_neg c_47]), by rw [ht]; exact hP, hD⟩, hS.F ht⟩) hS.2.2 dX5_join_158
                      · skip
                        have t_67 : (k_mquiet u x1.toNatClampNeg).toInt ≠ (k_mquiet u x2.toNatClampNeg).toInt := i_ne c_45 rfl rfl
                        refine lv_iconst (v := 2) hx hb dX5_join_129 (by decide) ?_
                        refine lv_goto (tgt := 148) hx hb dX5_join_130 (by decide) ?_
                        refine va_put (D := (dC, dI)) (C := RX5) (T := TX5) (N := 26) (v := .int 2) (ty := .int) hx hb hts (fi_X5 _) tyX5 tyX5_ok nmX5 hown hK hP hD hS 0 (mw_at0 _ _ _) rfl 0 (by decide) (hts _ (List.mem_cons_of_mem _ wd_237)) (fun _ h9 => h9) rfl (by decide +kernel) rfl rfl (Nat.le_of_ble_eq_true rfl) dX5_join_148 (fun H locs hP hD hS => ?_)
                        have hP : va_P (dC, dI) vwCl (mw g h (s_mcode u 2)) H := hP
                        have hD : va_D A (mw g h (s_mcode u 2)) := hD
                        refine lv_aload_n hx hb dX5_join_151 rfl (lv_at hl 0 rfl) ?_
                        refine va_get (D := (dC, dI)) (C := RX5) (T := TX5) (N := 26) (v := .int 2) hx hb hts (fi_X5 _) hown hK hP 0 (mw_at0 _ _ _) rfl 0 (by decide) (hts _ (List.mem_cons_of_mem _ wd_237)) (fun _ h9 => h9) rfl dX5_join_152 ?_
                        refine lv_if_le (tgt := 159) hx hb dX5_join_155 (by decide) (fun c_68 => ?_) (fun c_68 => ?_)
                        · skip
                          exact absurd c_68 (by decide)
                        · skip
                          exact W.vret hx hb hr (fun t ht hW => ⟨⟨(s_mcode u 2), rfl, (by unfold fX5_join; rw [if_neg c_2, if_neg c_10, if_neg c_16, if_neg c_21, if_neg c_25, if_pos c_29, if_pos c_33, if_pos c_37, if_pos c_41, if_neg c_45]), by rw [ht]; exact hP, hD⟩, hS.F ht⟩) hS.2.2 dX5_join_158
    · skip
      have t_69 : (fX5_isLot u x2).toInt = 0 := i_eq c_10 rfl (by decide)
      refine lv_iconst (v := 1) hx hb dX5_join_17 (by decide) ?_
      refine lv_goto (tgt := 22) hx hb dX5_join_18 (by decide) ?_
      refine va_put (D := (dC, dI)) (C := RX5) (T := TX5) (N := 26) (v := .int 1) (ty := .int) hx hb hts (fi_X5 _) tyX5 tyX5_ok nmX5 hown hK hP hD hS 0 (mw_at0 _ _ _) rfl 0 (by decide) (hts _ (List.mem_cons_of_mem _ wd_237)) (fun _ h9 => h9) rfl (by decide +kernel) rfl rfl (Nat.le_of_ble_eq_true rfl) dX5_join_22 (fun H locs hP hD hS => ?_)
      have hP : va_P (dC, dI) vwCl (mw g h (s_mcode u 1)) H := hP
      have hD : va_D A (mw g h (s_mcode u 1)) := hD
      refine lv_aload_n hx hb dX5_join_25 rfl (lv_at hl 0 rfl) ?_
      refine va_get (D := (dC, dI)) (C := RX5) (T := TX5) (N := 26) (v := .int 1) hx hb hts (fi_X5 _) hown hK hP 0 (mw_at0 _ _ _) rfl 0 (by decide) (hts _ (List.mem_cons_of_mem _ wd_237)) (fun _ h9 => h9) rfl dX5_join_26 ?_
      refine lv_if_ne (tgt := 151) hx hb dX5_join_29 (by decide) (fun c_70 => ?_) (fun c_70 => ?_)
      · skip
        refine lv_aload_n hx hb dX5_join_151 rfl (lv_at hl 0 rfl) ?_
        refine va_get (D := (dC, dI)) (C := RX5) (T := TX5) (N := 26) (v := .int 1) hx hb hts (fi_X5 _) hown hK hP 0 (mw_at0 _ _ _) rfl 0 (by decide) (hts _ (List.mem_cons_of_mem _ wd_237)) (fun _ h9 => h9) rfl dX5_join_152 ?_
        refine lv_if_le (tgt := 159) hx hb dX5_join_155 (by decide) (fun c_71 => ?_) (fun c_71 => ?_)
        · skip
          exact absurd c_71 (by decide)
        · skip
          exact W.vret hx hb hr (fun t ht hW => ⟨⟨(s_mcode u 1), rfl, (by unfold fX5_join; rw [if_neg c_2, if_pos c_10]), by rw [ht]; exact hP, hD⟩, hS.F ht⟩) hS.2.2 dX5_join_158
      · skip
        exact absurd c_70 (by decide)
set_option maxHeartbeats 4000000 in
set_option maxRecDepth 100000 in
theorem kX5_put (l : Launch) (dC : Nat → ClassId) (dI : Nat → Nat → Nat) (g : cG) (h : Nat → Nat) (u : mS) (sz : Nat) (x1 : Int32) (x2 : Int32) (hI : mInv u) : Met l yX5_put wsX5_put ({ frames := 2, cells := 0, slots := 0, locals := 43 }) (va_Pc [.ref (h 0), .int x1, .int x2] (fun U => U.heap.size = sz ∧ va_P (dC, dI) vwCl (mw g h u) U.heap ∧ va_K (dC, dI) vwCl (cTys g) U ∧ va_D (fun _ => True) (mw g h u))) (va_Qv (fun u2 => u2 = fX5_put u x1 x2) (fun (u2 : mS) (t : State) => va_P (dC, dI) vwCl (mw g h u2) t.heap ∧ va_D (va_A (mw g h u) sz) (mw g h u2)) (va_A (mw g h u) sz)) 0 0 (va_A (mw g h u) sz) := by
  refine Met.ofW (cc := cX5_put) (maxL := 4) (ret := none) (by decide) rfl ?_
  intro p e s m args below meth c s₁ B hml hv
  obtain ⟨rfl, hsz, hP, hK, hD0⟩ := hv
  have hx := B.exec
  have hb := B.bytes
  have hr := B.returns
  have hts := atoms_spec (ws := wsX5_put) B.pre
  have hown : s.vm.findClass RX5 = some m.cls := findClass_of_methodNamed B.named
  have hlocks := B.notSynchronized
  subst hsz
  have hD := hD0.self (sz := s.heap.size)
  generalize hAe : va_A (mw g h u) s.heap.size = A at hD ⊢
  have hA : ∀ q : Nat, s.heap.size ≤ q → A q := fun q h => by rw [← hAe]; exact Or.inr h
  have hS : va_S A s.heap s.heap [] := va_S.rf
  have hl := lv_entry ([.ref (h 0), .int x1, .int x2]) (n := 4) (Nat.le_of_ble_eq_true rfl)
  rw [lg_entry_eq]
  generalize (lg_sl ([.ref (h 0), .int x1, .int x2]) ++ List.replicate (4 - (lg_sl ([.ref (h 0), .int x1, .int x2])).length) Slot.unset).toArray = ls at hl ⊢
  have hl : lv_has ls 4 [(0, .ref (h 0)), (1, .int x1), (2, .int x2)] := hl
  obtain ⟨hI1, hI2, hI3, hI4, hI5, hI6, hI7⟩ := id hI
  have z_0 : (0 : Int32).toInt = 0 := by decide
  have z_1 : (19 : Int32).toInt = 19 := by decide
  have z_2 : (1 : Int32).toInt = 1 := by decide
  refine lv_aload_n hx hb dX5_put_0 rfl (lv_at hl 0 rfl) ?_
  refine lv_aload_n hx hb dX5_put_1 rfl (lv_at hl 0 rfl) ?_
  refine lv_iload_n hx hb dX5_put_2 rfl (lv_at hl 1 rfl) ?_
  refine vp_callSi (W.runV (As := [.int x1]) (rest := [.ref (h 0)]) ⟨hx, hb, hml, hown, hts⟩ (kX5_isUnit l dC dI g h u x1) (cwV 1 hts (gV wd_304 wd_305 wd_306 wd_241 wcX5_isUnit) rfl rfl rfl (by decide +kernel) ⟨(Nat.le_of_ble_eq_true rfl), (Nat.le_of_ble_eq_true rfl)⟩) ⟨fun a U g mk q => by obtain ⟨q0, qP, qK⟩ := q; exact ⟨q0, qP, va_K.moved (u := U) (U := U.calling g mk a) (Vm.Alike.refl U.vm) qK⟩, va_recv hK hP (ci := 4) (q0 := 0) rfl (mw_at0 _ _ _), fun U hU hW => ⟨rfl, by rw [hU]; exact hP, va_K.moved hW.alike hK⟩⟩ rfl rfl hl.1 rfl (lv_room (Nat.le_of_ble_eq_true rfl)) dX5_put_3 ⟨(Nat.le_of_ble_eq_true rfl), (Nat.le_of_ble_eq_true rfl)⟩) (fun r_1 hw => ?_)
  subst hw
  refine lv_if_ne (tgt := 13) hx hb dX5_put_6 (by decide) (fun c_2 => ?_) (fun c_2 => ?_)
  · skip
    have t_3 : (fX5_isUnit u x1).toInt ≠ 0 := i_ne c_2 rfl (by decide)
    have t_4 := iu_lo c_2
    have t_5 := iu_hi c_2
    refine lv_iload_n hx hb dX5_put_13 rfl (lv_at hl 2 rfl) ?_
    refine lv_iconst (v := 0) hx hb dX5_put_14 (by decide) ?_
    refine lv_bipush (v := 19) hx hb dX5_put_15 (by decide) ?_
    refine vp_callSi (W.runS (As := [.int x2, .int 0, .int 19]) (rest := [.ref (h 0)]) ⟨hx, hb, hml, hown, hts⟩ (kX5_in l dC dI x2 0 19) (cwS 3 hts (gS wd_239 wd_240 wd_241 wcX5_in) rfl rfl rfl (by decide +kernel) ⟨(Nat.le_of_ble_eq_true rfl), (Nat.le_of_ble_eq_true rfl)⟩) ⟨fun a U g mk q => by obtain ⟨q0, qT⟩ := q; exact ⟨q0, qT⟩, fun U hU hW => ⟨rfl, trivial⟩⟩ rfl rfl hl.1 rfl (lv_room (Nat.le_of_ble_eq_true rfl)) dX5_put_17 ⟨(Nat.le_of_ble_eq_true rfl), (Nat.le_of_ble_eq_true rfl)⟩) (fun r_6 hw => ?_)
    subst hw
    refine lv_if_ne (tgt := 27) hx hb dX5_put_20 (by decide) (fun c_7 => ?_) (fun c_7 => ?_)
    · skip
      have t_8 : (fX5_in x2 0 19).toInt ≠ 0 := i_ne c_7 rfl (by decide)
      have t_9 := in_lo c_7
      have t_10 := in_hi c_7
      refine lv_iconst (v := 0) hx hb dX5_put_27 (by decide) ?_
      refine va_put (D := (dC, dI)) (C := RX5) (T := TX5) (N := 26) (v := .int 0) (ty := .int) hx hb hts (fi_X5 _) tyX5 tyX5_ok nmX5 hown hK hP hD hS 0 (mw_at0 _ _ _) rfl 0 (by decide) (hts _ (List.mem_cons_of_mem _ wd_237)) (fun _ h9 => h9) rfl (by decide +kernel) rfl rfl (Nat.le_of_ble_eq_true rfl) dX5_put_28 (fun H locs hP hD hS => ?_)
      have hP : va_P (dC, dI) vwCl (mw g h (s_mcode u 0)) H := hP
      have hD : va_D A (mw g h (s_mcode u 0)) := hD
      refine lv_aload_n hx hb dX5_put_31 rfl (lv_at hl 0 rfl) ?_
      refine va_get (D := (dC, dI)) (C := RX5) (T := TX5) (N := 26) (v := .int 0) hx hb hts (fi_X5 _) hown hK hP 0 (mw_at0 _ _ _) rfl 0 (by decide) (hts _ (List.mem_cons_of_mem _ wd_237)) (fun _ h9 => h9) rfl dX5_put_32 ?_
      refine lv_if_ne (tgt := 65) hx hb dX5_put_35 (by decide) (fun c_11 => ?_) (fun c_11 => ?_)
      · skip
        exact absurd (by decide) c_11
      · skip
        refine lv_aload_n hx hb dX5_put_38 rfl (lv_at hl 0 rfl) ?_
        refine lv_aload_n hx hb dX5_put_39 rfl (lv_at hl 0 rfl) ?_
        refine lv_iload_n hx hb dX5_put_40 rfl (lv_at hl 1 rfl) ?_
        refine vp_callSi (W.runV (As := [.int x1]) (rest := [.ref (h 0)]) ⟨hx, hb, hml, hown, hts⟩ (kX5_isGone l dC dI g h (s_mcode u 0) x1 (by omega)) (cwV 1 hts (gV wd_308 wd_309 wd_310 wd_241 wcX5_isGone) rfl rfl rfl (by decide +kernel) ⟨(Nat.le_of_ble_eq_true rfl), (Nat.le_of_ble_eq_true rfl)⟩) ⟨fun a U g mk q => by obtain ⟨q0, qP, qK⟩ := q; exact ⟨q0, qP, va_K.moved (u := U) (U := U.calling g mk a) (Vm.Alike.refl U.vm) qK⟩, va_recv hK hP (ci := 4) (q0 := 0) rfl (mw_at0 _ _ _), fun U hU hW => ⟨rfl, by rw [hU]; exact hP, va_K.moved hW.alike hK⟩⟩ rfl rfl hl.1 rfl (lv_room (Nat.le_of_ble_eq_true rfl)) dX5_put_41 ⟨(Nat.le_of_ble_eq_true rfl), (Nat.le_of_ble_eq_true rfl)⟩) (fun r_12 hw => ?_)
        subst hw
        refine lv_if_ne (tgt := 57) hx hb dX5_put_44 (by decide) (fun c_13 => ?_) (fun c_13 => ?_)
        · skip
          have t_14 : (fX5_isGone (s_mcode u 0) x1).toInt ≠ 0 := i_ne c_13 rfl (by decide)
          refine lv_iconst (v := 3) hx hb dX5_put_57 (by decide) ?_
          refine lv_goto (tgt := 62) hx hb dX5_put_58 (by decide) ?_
          refine va_put (D := (dC, dI)) (C := RX5) (T := TX5) (N := 26) (v := .int 3) (ty := .int) hx hb hts (fi_X5 _) tyX5 tyX5_ok nmX5 hown hK hP hD hS 0 (mw_at0 _ _ _) rfl 0 (by decide) (hts _ (List.mem_cons_of_mem _ wd_237)) (fun _ h9 => h9) rfl (by decide +kernel) rfl rfl (Nat.le_of_ble_eq_true rfl) dX5_put_62 (fun H locs hP hD hS => ?_)
          have hP : va_P (dC, dI) vwCl (mw g h (s_mcode u 3)) H := hP
          have hD : va_D A (mw g h (s_mcode u 3)) := hD
          refine lv_iconst (v := 1) hx hb dX5_put_65 (by decide) ?_
          refine lv_istore_n (lv' := [(3, .int 1), (0, .ref (h 0)), (1, .int x1), (2, .int x2)]) hx hb dX5_put_66 rfl hl (by decide) rfl (fun ls hl => ?_)
          refine lp_indH (fun H locs => W p l e _ s m _ below meth c H locs _ _ _) (fun n H locs ls => ∃ (i : Int32) (v : mS), ((k_munits v).toInt - i.toInt + 1 < (n : Int)) ∧ (1 ≤ i.toInt ∧ i.toInt ≤ 121 ∧ i.toInt ≤ (k_munits v).toInt + 1) ∧ (k_mcode v = 0 → 1 ≤ x1.toInt ∧ x1.toInt ≤ 120) ∧ (mInv v) ∧ fX5_put u x1 x2 = lpX5_put x1 x2 n i v ∧ va_P (dC, dI) vwCl (mw g h v) H ∧ va_D A (mw g h v) ∧ va_S A s.heap H locs ∧ lv_has ls 4 [(3, .int i), (0, .ref (h 0)), (1, .int x1), (2, .int x2)]) m 67 (fun H locs ls hI0 => ?_) (fun n H locs ls hI0 ih => ?_) 121 _ _ _ ⟨1, (s_mcode u 3), (by have e9 : k_munits (s_mcode u 3) = k_munits u := rfl; rw [e9]; omega), (by have e9 : k_munits (s_mcode u 3) = k_munits u := rfl; rw [e9]; omega), (fun h9 => absurd (show (3 : Int32) = 0 from h9) (by decide)), hI, (by unfold fX5_put; rw [if_neg c_2, if_neg c_7, if_neg c_13]), hP, hD, hS, lv_sub hl [0, 1, 2, 3] rfl⟩
          · skip
            obtain ⟨i, v, hn, hi, hx, hv, he, hP, hD, hS, hl⟩ := hI0
            exact absurd hn (by omega)
          · skip
            obtain ⟨i, v, hn, hi, hx, hv, he, hP, hD, hS, hl⟩ := hI0
            have he_17 := he
            have ih_16 := ih
            obtain ⟨hI1v, hI2v, hI3v, hI4v, hI5v, hI6v, hI7v⟩ := id hv
            refine lv_iload_n hx hb dX5_put_67 rfl (lv_at hl 0 rfl) ?_
            refine lv_aload_n hx hb dX5_put_68 rfl (lv_at hl 1 rfl) ?_
            refine va_get (D := (dC, dI)) (C := RX5) (T := TX5) (N := 26) (v := .int (k_munits v)) hx hb hts (fi_X5 _) hown hK hP 0 (mw_at0 _ _ _) rfl 14 (by decide) (hts _ (List.mem_cons_of_mem _ wd_243)) (fun _ h9 => h9) rfl dX5_put_69 ?_
            refine lv_icmp_gt (tgt := 149) hx hb dX5_put_72 (by decide) (fun c_18 => ?_) (fun c_18 => ?_)
            · skip
              have t_19 : (k_munits v).toInt < i.toInt := i_lt c_18 rfl rfl
              refine lv_aload_n hx hb dX5_put_149 rfl (lv_at hl 1 rfl) ?_
              refine va_get (D := (dC, dI)) (C := RX5) (T := TX5) (N := 26) (v := .int (k_mcode v)) hx hb hts (fi_X5 _) hown hK hP 0 (mw_at0 _ _ _) rfl 0 (by decide) (hts _ (List.mem_cons_of_mem _ wd_237)) (fun _ h9 => h9) rfl dX5_put_150 ?_
              refine lv_if_ne (tgt := 163) hx hb dX5_put_153 (by decide) (fun c_20 => ?_) (fun c_20 => ?_)
              · skip
                have t_21 : (k_mcode v).toInt ≠ 0 := i_ne c_20 rfl (by decide)
                exact W.vret hx hb hr (fun t ht hW => ⟨⟨v, rfl, (by rw [he_17, lpX5_put_eq, if_pos c_18, if_neg c_20]), by rw [ht]; exact hP, hD⟩, hS.F ht⟩) hS.2.2 dX5_put_163
              · skip
                have t_22 : (k_mcode v).toInt = 0 := i_eq c_20 rfl (by decide)
                have t_23 := hx c_20
                refine lv_aload_n hx hb dX5_put_156 rfl (lv_at hl 1 rfl) ?_
                refine va_get (D := (dC, dI)) (C := RX5) (T := TX5) (N := 26) (v := .ref (h 14)) hx hb hts (fi_X5 _) hown hK hP 0 (mw_at0 _ _ _) rfl 16 (by decide) (hts _ (List.mem_cons_of_mem _ wd_300)) (fun _ h9 => h9) rfl dX5_put_157 ?_
                refine lv_iload_n hx hb dX5_put_160 rfl (lv_at hl 2 rfl) ?_
                refine lv_iload_n hx hb dX5_put_161 rfl (lv_at hl 3 rfl) ?_
                refine va_iast (f := k_mbin v) hx hb hK hP hD hS 14 0 (mw_at14 _ _ _) rfl (vp_in_iff.mpr (by omega)) dX5_put_162 (fun H locs hP hD hS => ?_)
                have hP : va_P (dC, dI) vwCl (mw g h (s_mbin v (upd (k_mbin v) x1.toNatClampNeg x2))) H := hP
                have hD : va_D A (mw g h (s_mbin v (upd (k_mbin v) x1.toNatClampNeg x2))) := hD
                exact W.vret hx hb hr (fun t ht hW => ⟨⟨(s_mbin v (upd (k_mbin v) x1.toNatClampNeg x2)), rfl, (by rw [he_17, lpX5_put_eq, if_pos c_18, if_pos c_20]), by rw [ht]; exact hP, hD⟩, hS.F ht⟩) hS.2.2 dX5_put_163
            · skip
              have t_24 : i.toInt ≤ (k_munits v).toInt := i_nlt c_18 rfl rfl
              refine lv_aload_n hx hb dX5_put_75 rfl (lv_at hl 1 rfl) ?_
              refine va_get (D := (dC, dI)) (C := RX5) (T := TX5) (N := 26) (v := .int (k_mcode v)) hx hb hts (fi_X5 _) hown hK hP 0 (mw_at0 _ _ _) rfl 0 (by decide) (hts _ (List.mem_cons_of_mem _ wd_237)) (fun _ h9 => h9) rfl dX5_put_76 ?_
              refine lv_if_ne (tgt := 149) hx hb dX5_put_79 (by decide) (fun c_25 => ?_) (fun c_25 => ?_)
              · skip
                have t_26 : (k_mcode v).toInt ≠ 0 := i_ne c_25 rfl (by decide)
                refine lv_aload_n hx hb dX5_put_149 rfl (lv_at hl 1 rfl) ?_
                refine va_get (D := (dC, dI)) (C := RX5) (T := TX5) (N := 26) (v := .int (k_mcode v)) hx hb hts (fi_X5 _) hown hK hP 0 (mw_at0 _ _ _) rfl 0 (by decide) (hts _ (List.mem_cons_of_mem _ wd_237)) (fun _ h9 => h9) rfl dX5_put_150 ?_
                refine lv_if_ne (tgt := 163) hx hb dX5_put_153 (by decide) (fun c_27 => ?_) (fun c_27 => ?_)
                · skip
                  exact W.vret hx hb hr (fun t ht hW => ⟨⟨v, rfl, (by rw [he_17, lpX5_put_eq, if_neg c_18, if_neg c_25]), by rw [ht]; exact hP, hD⟩, hS.F ht⟩) hS.2.2 dX5_put_163
                · skip
                  exact absurd c_27 c_25
              · skip
                have t_28 : (k_mcode v).toInt = 0 := i_eq c_25 rfl (by decide)
                have t_29 := hx c_25
                refine lv_aload_n hx hb dX5_put_82 rfl (lv_at hl 1 rfl) ?_
                refine va_get (D := (dC, dI)) (C := RX5) (T := TX5) (N := 26) (v := .ref (h 14)) hx hb hts (fi_X5 _) hown hK hP 0 (mw_at0 _ _ _) rfl 16 (by decide) (hts _ (List.mem_cons_of_mem _ wd_300)) (fun _ h9 => h9) rfl dX5_put_83 ?_
                refine lv_iload_n hx hb dX5_put_86 rfl (lv_at hl 0 rfl) ?_
                refine va_iald (f := k_mbin v) hx hb hK hP 14 0 (mw_at14 _ _ _) rfl (vp_in_iff.mpr (by omega)) dX5_put_87 ?_
                refine lv_iload_n hx hb dX5_put_88 rfl (lv_at hl 3 rfl) ?_
                refine lv_icmp_ne (tgt := 143) hx hb dX5_put_89 (by decide) (fun c_30 => ?_) (fun c_30 => ?_)
                · skip
                  have t_31 : (k_mbin v i.toNatClampNeg).toInt ≠ x2.toInt := i_ne c_30 rfl rfl
                  refine lv_iinc (v := i + 1) (lv' := [(3, .int (i + 1)), (0, .ref (h 0)), (1, .int x1), (2, .int x2)]) hx hb dX5_put_143 hl (k := 0) rfl rfl (by decide) rfl (fun ls hl => ?_)
                  refine lv_goto (tgt := 67) hx hb dX5_put_146 (by decide) ?_
                  have hb1 := i_inc (x := i) (by omega)
                  exact ih_16 _ _ _ ⟨(i + 1), v, (by have e9 : k_munits v = k_munits v := rfl; rw [e9]; omega), (by have e9 : k_munits v = k_munits v := rfl; rw [e9]; omega), hx, hv, (by rw [he_17, lpX5_put_eq, if_neg c_18, if_pos c_25, if_neg c_30]), hP, hD, hS, lv_sub hl [0, 1, 2, 3] rfl⟩
                · skip
                  have t_32 : (k_mbin v i.toNatClampNeg).toInt = x2.toInt := i_eq c_30 rfl rfl
                  refine lv_aload_n hx hb dX5_put_92 rfl (lv_at hl 1 rfl) ?_
                  refine lv_aload_n hx hb dX5_put_93 rfl (lv_at hl 1 rfl) ?_
                  refine va_get (D := (dC, dI)) (C := RX5) (T := TX5) (N := 26) (v := .ref (h 13)) hx hb hts (fi_X5 _) hown hK hP 0 (mw_at0 _ _ _) rfl 15 (by decide) (hts _ (List.mem_cons_of_mem _ wd_299)) (fun _ h9 => h9) rfl dX5_put_94 ?_
                  refine lv_iload_n hx hb dX5_put_97 rfl (lv_at hl 2 rfl) ?_
                  refine va_iald (f := k_mlotOf v) hx hb hK hP 13 0 (mw_at13 _ _ _) rfl (vp_in_iff.mpr (by omega)) dX5_put_98 ?_
                  refine lv_aload_n hx hb dX5_put_99 rfl (lv_at hl 1 rfl) ?_
                  refine va_get (D := (dC, dI)) (C := RX5) (T := TX5) (N := 26) (v := .ref (h 13)) hx hb hts (fi_X5 _) hown hK hP 0 (mw_at0 _ _ _) rfl 15 (by decide) (hts _ (List.mem_cons_of_mem _ wd_299)) (fun _ h9 => h9) rfl dX5_put_100 ?_
                  refine lv_iload_n hx hb dX5_put_103 rfl (lv_at hl 0 rfl) ?_
                  refine va_iald (f := k_mlotOf v) hx hb hK hP 13 0 (mw_at13 _ _ _) rfl (vp_in_iff.mpr (by omega)) dX5_put_104 ?_
                  refine vp_callSi (W.runV (As := [.int (k_mlotOf v x1.toNatClampNeg), .int (k_mlotOf v i.toNatClampNeg)]) (rest := []) ⟨hx, hb, hml, hown, hts⟩ (kX5_mayMix l dC dI g h v (k_mlotOf v x1.toNatClampNeg) (k_mlotOf v i.toNatClampNeg) (hI5v _) (hI5v _) hv) (cwV 2 hts (gV wd_316 wd_317 wd_318 wd_241 wcX5_mayMix) rfl rfl rfl (by decide +kernel) ⟨(Nat.le_of_ble_eq_true rfl), (Nat.le_of_ble_eq_true rfl)⟩) ⟨fun a U g mk q => by obtain ⟨q0, qP, qK⟩ := q; exact ⟨q0, qP, va_K.moved (u := U) (U := U.calling g mk a) (Vm.Alike.refl U.vm) qK⟩, va_recv hK hP (ci := 4) (q0 := 0) rfl (mw_at0 _ _ _), fun U hU hW => ⟨rfl, by rw [hU]; exact hP, va_K.moved hW.alike hK⟩⟩ rfl rfl hl.1 rfl (lv_room (Nat.le_of_ble_eq_true rfl)) dX5_put_105 ⟨(Nat.le_of_ble_eq_true rfl), (Nat.le_of_ble_eq_true rfl)⟩) (fun r_33 hw => ?_)
                  subst hw
                  refine lv_if_eq (tgt := 114) hx hb dX5_put_108 (by decide) (fun c_34 => ?_) (fun c_34 => ?_)
                  · skip
                    have t_35 : (fX5_mayMix v (k_mlotOf v x1.toNatClampNeg) (k_mlotOf v i.toNatClampNeg)).toInt = 0 := i_eq c_34 rfl (by decide)
                    refine lv_aload_n hx hb dX5_put_114 rfl (lv_at hl 1 rfl) ?_
                    refine va_get (D := (dC, dI)) (C := RX5) (T := TX5) (N := 26) (v := .ref (h 21)) hx hb hts (fi_X5 _) hown hK hP 0 (mw_at0 _ _ _) rfl 24 (by decide) (hts _ (List.mem_cons_of_mem _ wd_303)) (fun _ h9 => h9) rfl dX5_put_115 ?_
                    refine lv_iconst (v := 0) hx hb dX5_put_118 (by decide) ?_
                    refine lv_aload_n hx hb dX5_put_119 rfl (lv_at hl 1 rfl) ?_
                    refine va_get (D := (dC, dI)) (C := RX5) (T := TX5) (N := 26) (v := .ref (h 13)) hx hb hts (fi_X5 _) hown hK hP 0 (mw_at0 _ _ _) rfl 15 (by decide) (hts _ (List.mem_cons_of_mem _ wd_299)) (fun _ h9 => h9) rfl dX5_put_120 ?_
                    refine lv_iload_n hx hb dX5_put_123 rfl (lv_at hl 2 rfl) ?_
                    refine va_iald (f := k_mlotOf v) hx hb hK hP 13 0 (mw_at13 _ _ _) rfl (vp_in_iff.mpr (by omega)) dX5_put_124 ?_
                    refine va_iast (f := k_mmixed v) hx hb hK hP hD hS 21 0 (mw_at21 _ _ _) rfl (vp_in_iff.mpr (by decide)) dX5_put_125 (fun H locs hP hD hS => ?_)
                    have hP : va_P (dC, dI) vwCl (mw g h (s_mmixed v (upd (k_mmixed v) (0 : Int32).toNatClampNeg (k_mlotOf v x1.toNatClampNeg)))) H := hP
                    have hD : va_D A (mw g h (s_mmixed v (upd (k_mmixed v) (0 : Int32).toNatClampNeg (k_mlotOf v x1.toNatClampNeg)))) := hD
                    refine lv_aload_n hx hb dX5_put_126 rfl (lv_at hl 1 rfl) ?_
                    refine va_get (D := (dC, dI)) (C := RX5) (T := TX5) (N := 26) (v := .ref (h 21)) hx hb hts (fi_X5 _) hown hK hP 0 (mw_at0 _ _ _) rfl 24 (by decide) (hts _ (List.mem_cons_of_mem _ wd_303)) (fun _ h9 => h9) rfl dX5_put_127 ?_
                    refine lv_iconst (v := 1) hx hb dX5_put_130 (by decide) ?_
                    refine lv_aload_n hx hb dX5_put_131 rfl (lv_at hl 1 rfl) ?_
                    refine va_get (D := (dC, dI)) (C := RX5) (T := TX5) (N := 26) (v := .ref (h 13)) hx hb hts (fi_X5 _) hown hK hP 0 (mw_at0 _ _ _) rfl 15 (by decide) (hts _ (List.mem_cons_of_mem _ wd_299)) (fun _ h9 => h9) rfl dX5_put_132 ?_
                    refine lv_iload_n hx hb dX5_put_135 rfl (lv_at hl 0 rfl) ?_
                    refine va_iald (f := k_mlotOf v) hx hb hK hP 13 0 (mw_at13 _ _ _) rfl (vp_in_iff.mpr (by omega)) dX5_put_136 ?_
                    refine va_iast (f := upd (k_mmixed v) (0 : Int32).toNatClampNeg (k_mlotOf v x1.toNatClampNeg)) hx hb hK hP hD hS 21 0 (mw_at21 _ _ _) rfl (vp_in_iff.mpr (by decide)) dX5_put_137 (fun H locs hP hD hS => ?_)
                    have hP : va_P (dC, dI) vwCl (mw g h (s_mmixed v (upd (upd (k_mmixed v) (0 : Int32).toNatClampNeg (k_mlotOf v x1.toNatClampNeg)) (1 : Int32).toNatClampNeg (k_mlotOf v i.toNatClampNeg)))) H := hP
                    have hD : va_D A (mw g h (s_mmixed v (upd (upd (k_mmixed v) (0 : Int32).toNatClampNeg (k_mlotOf v x1.toNatClampNeg)) (1 : Int32).toNatClampNeg (k_mlotOf v i.toNatClampNeg)))) := hD
                    refine lv_aload_n hx hb dX5_put_138 rfl (lv_at hl 1 rfl) ?_
                    refine lv_iconst (v := 3) hx hb dX5_put_139 (by decide) ?_
                    refine va_put (D := (dC, dI)) (C := RX5) (T := TX5) (N := 26) (v := .int 3) (ty := .int) hx hb hts (fi_X5 _) tyX5 tyX5_ok nmX5 hown hK hP hD hS 0 (mw_at0 _ _ _) rfl 0 (by decide) (hts _ (List.mem_cons_of_mem _ wd_237)) (fun _ h9 => h9) rfl (by decide +kernel) rfl rfl (Nat.le_of_ble_eq_true rfl) dX5_put_140 (fun H locs hP hD hS => ?_)
                    have hP : va_P (dC, dI) vwCl (mw g h (s_mcode (s_mmixed v (upd (upd (k_mmixed v) (0 : Int32).toNatClampNeg (k_mlotOf v x1.toNatClampNeg)) (1 : Int32).toNatClampNeg (k_mlotOf v i.toNatClampNeg))) 3)) H := hP
                    have hD : va_D A (mw g h (s_mcode (s_mmixed v (upd (upd (k_mmixed v) (0 : Int32).toNatClampNeg (k_mlotOf v x1.toNatClampNeg)) (1 : Int32).toNatClampNeg (k_mlotOf v i.toNatClampNeg))) 3)) := hD
                    refine lv_iinc (v := i + 1) (lv' := [(3, .int (i + 1)), (0, .ref (h 0)), (1, .int x1), (2, .int x2)]) hx hb dX5_put_143 hl (k := 0) rfl rfl (by decide) rfl (fun ls hl => ?_)
                    refine lv_goto (tgt := 67) hx hb dX5_put_146 (by decide) ?_
                    have hb1 := i_inc (x := i) (by omega)
                    exact ih_16 _ _ _ ⟨(i + 1), (s_mcode (s_mmixed v (upd (upd (k_mmixed v) (0 : Int32).toNatClampNeg (k_mlotOf v x1.toNatClampNeg)) (1 : Int32).toNatClampNeg (k_mlotOf v i.toNatClampNeg))) 3), (by have e9 : k_munits (s_mcode (s_mmixed v (upd (upd (k_mmixed v) (0 : Int32).toNatClampNeg (k_mlotOf v x1.toNatClampNeg)) (1 : Int32).toNatClampNeg (k_mlotOf v i.toNatClampNeg))) 3) = k_munits v := rfl; rw [e9]; omega), (by have e9 : k_munits (s_mcode (s_mmixed v (upd (upd (k_mmixed v) (0 : Int32).toNatClampNeg (k_mlotOf v x1.toNatClampNeg)) (1 : Int32).toNatClampNeg (k_mlotOf v i.toNatClampNeg))) 3) = k_munits v := rfl; rw [e9]; omega), (fun h9 => absurd (show (3 : Int32) = 0 from h9) (by decide)), hv, (by rw [he_17, lpX5_put_eq, if_neg c_18, if_pos c_25, if_pos c_30, if_pos c_34]), hP, hD, hS, lv_sub hl [0, 1, 2, 3] rfl⟩
                  · skip
                    have t_36 : (fX5_mayMix v (k_mlotOf v x1.toNatClampNeg) (k_mlotOf v i.toNatClampNeg)).toInt ≠ 0 := i_ne c_34 rfl (by decide)
                    refine lv_goto (tgt := 143) hx hb dX5_put_111 (by decide) ?_
                    refine lv_iinc (v := i + 1) (lv' := [(3, .int (i + 1)), (0, .ref (h 0)), (1, .int x1), (2, .int x2)]) hx hb dX5_put_143 hl (k := 0) rfl rfl (by decide) rfl (fun ls hl => ?_)
                    refine lv_goto (tgt := 67) hx hb dX5_put_146 (by decide) ?_
                    have hb1 := i_inc (x := i) (by omega)
                    exact ih_16 _ _ _ ⟨(i + 1), v, (by have e9 : k_munits v = k_munits v := rfl; rw [e9]; omega), (by have e9 : k_munits v = k_munits v := rfl; rw [e9]; omega), hx, hv, (by rw [he_17, lpX5_put_eq, if_neg c_18, if_pos c_25, if_pos c_30, if_neg c_34]), hP, hD, hS, lv_sub hl [0, 1, 2, 3] rfl⟩
        · skip
          have t_37 : (fX5_isGone (s_mcode u 0) x1).toInt = 0 := i_eq c_13 rfl (by decide)
          refine lv_aload_n hx hb dX5_put_47 rfl (lv_at hl 0 rfl) ?_
          refine va_get (D := (dC, dI)) (C := RX5) (T := TX5) (N := 26) (v := .ref (h 14)) hx hb hts (fi_X5 _) hown hK hP 0 (mw_at0 _ _ _) rfl 16 (by decide) (hts _ (List.mem_cons_of_mem _ wd_300)) (fun _ h9 => h9) rfl dX5_put_48 ?_
          refine lv_iload_n hx hb dX5_put_51 rfl (lv_at hl 1 rfl) ?_
          refine va_iald (f := k_mbin u) hx hb hK hP 14 0 (mw_at14 _ _ _) rfl (vp_in_iff.mpr (by omega)) dX5_put_52 ?_
          refine lv_iload_n hx hb dX5_put_53 rfl (lv_at hl 2 rfl) ?_
          refine lv_icmp_ne (tgt := 61) hx hb dX5_put_54 (by decide) (fun c_38 => ?_) (fun c_38 => ?_)
          · skip
            have t_39 : (k_mbin u x1.toNatClampNeg).toInt ≠ x2.toInt := i_ne c_38 rfl rfl
            refine lv_iconst (v := 0) hx hb dX5_put_61 (by decide) ?_
            refine va_put (D := (dC, dI)) (C := RX5) (T := TX5) (N := 26) (v := .int 0) (ty := .int) hx hb hts (fi_X5 _) tyX5 tyX5_ok nmX5 hown hK hP hD hS 0 (mw_at0 _ _ _) rfl 0 (by decide) (hts _ (List.mem_cons_of_mem _ wd_237)) (fun _ h9 => h9) rfl (by decide +kernel) rfl rfl (Nat.le_of_ble_eq_true rfl) dX5_put_62 (fun H locs hP hD hS => ?_)
            have hP : va_P (dC, dI) vwCl (mw g h (s_mcode u 0)) H := hP
            have hD : va_D A (mw g h (s_mcode u 0)) := hD
            refine lv_iconst (v := 1) hx hb dX5_put_65 (by decide) ?_
            refine lv_istore_n (lv' := [(3, .int 1), (0, .ref (h 0)), (1, .int x1), (2, .int x2)]) hx hb dX5_put_66 rfl hl (by decide) rfl (fun ls hl => ?_)
            refine lp_indH (fun H locs => W p l e _ s m _ below meth c H locs _ _ _) (fun n H locs ls => ∃ (i : Int32) (v : mS), ((k_munits v).toInt - i.toInt + 1 < (n : Int)) ∧ (1 ≤ i.toInt ∧ i.toInt ≤ 121 ∧ i.toInt ≤ (k_munits v).toInt + 1) ∧ (k_mcode v = 0 → 1 ≤ x1.toInt ∧ x1.toInt ≤ 120) ∧ (mInv v) ∧ fX5_put u x1 x2 = lpX5_put x1 x2 n i v ∧ va_P (dC, dI) vwCl (mw g h v) H ∧ va_D A (mw g h v) ∧ va_S A s.heap H locs ∧ lv_has ls 4 [(3, .int i), (0, .ref (h 0)), (1, .int x1), (2, .int x2)]) m 67 (fun H locs ls hI0 => ?_) (fun n H locs ls hI0 ih => ?_) 121 _ _ _ ⟨1, (s_mcode u 0), (by have e9 : k_munits (s_mcode u 0) = k_munits u := rfl; rw [e9]; omega), (by have e9 : k_munits (s_mcode u 0) = k_munits u := rfl; rw [e9]; omega), (fun _ => ⟨by omega, by omega⟩), hI, (by unfold fX5_put; rw [if_neg c_2, if_neg c_7, if_pos c_13, if_neg c_38]), hP, hD, hS, lv_sub hl [0, 1, 2, 3] rfl⟩
            · skip
              obtain ⟨i, v, hn, hi, hx, hv, he, hP, hD, hS, hl⟩ := hI0
              exact absurd hn (by omega)
            · skip
              obtain ⟨i, v, hn, hi, hx, hv, he, hP, hD, hS, hl⟩ := hI0
              have he_42 := he
              have ih_41 := ih
              obtain ⟨hI1v, hI2v, hI3v, hI4v, hI5v, hI6v, hI7v⟩ := id hv
              refine lv_iload_n hx hb dX5_put_67 rfl (lv_at hl 0 rfl) ?_
              refine lv_aload_n hx hb dX5_put_68 rfl (lv_at hl 1 rfl) ?_
              refine va_get (D := (dC, dI)) (C := RX5) (T := TX5) (N := 26) (v := .int (k_munits v)) hx hb hts (fi_X5 _) hown hK hP 0 (mw_at0 _ _ _) rfl 14 (by decide) (hts _ (List.mem_cons_of_mem _ wd_243)) (fun _ h9 => h9) rfl dX5_put_69 ?_
              refine lv_icmp_gt (tgt := 149) hx hb dX5_put_72 (by decide) (fun c_43 => ?_) (fun c_43 => ?_)
              · skip
                have t_44 : (k_munits v).toInt < i.toInt := i_lt c_43 rfl rfl
                refine lv_aload_n hx hb dX5_put_149 rfl (lv_at hl 1 rfl) ?_
                refine va_get (D := (dC, dI)) (C := RX5) (T := TX5) (N := 26) (v := .int (k_mcode v)) hx hb hts (fi_X5 _) hown hK hP 0 (mw_at0 _ _ _) rfl 0 (by decide) (hts _ (List.mem_cons_of_mem _ wd_237)) (fun _ h9 => h9) rfl dX5_put_150 ?_
                refine lv_if_ne (tgt := 163) hx hb dX5_put_153 (by decide) (fun c_45 => ?_) (fun c_45 => ?_)
                · skip
                  have t_46 : (k_mcode v).toInt ≠ 0 := i_ne c_45 rfl (by decide)
                  exact W.vret hx hb hr (fun t ht hW => ⟨⟨v, rfl, (by rw [he_42, lpX5_put_eq, if_pos c_43, if_neg c_45]), by rw [ht]; exact hP, hD⟩, hS.F ht⟩) hS.2.2 dX5_put_163
                · skip
                  have t_47 : (k_mcode v).toInt = 0 := i_eq c_45 rfl (by decide)
                  have t_48 := hx c_45
                  refine lv_aload_n hx hb dX5_put_156 rfl (lv_at hl 1 rfl) ?_
                  refine va_get (D := (dC, dI)) (C := RX5) (T := TX5) (N := 26) (v := .ref (h 14)) hx hb hts (fi_X5 _) hown hK hP 0 (mw_at0 _ _ _) rfl 16 (by decide) (hts _ (List.mem_cons_of_mem _ wd_300)) (fun _ h9 => h9) rfl dX5_put_157 ?_
                  refine lv_iload_n hx hb dX5_put_160 rfl (lv_at hl 2 rfl) ?_
                  refine lv_iload_n hx hb dX5_put_161 rfl (lv_at hl 3 rfl) ?_
                  refine va_iast (f := k_mbin v) hx hb hK hP hD hS 14 0 (mw_at14 _ _ _) rfl (vp_in_iff.mpr (by omega)) dX5_put_162 (fun H locs hP hD hS => ?_)
                  have hP : va_P (dC, dI) vwCl (mw g h (s_mbin v (upd (k_mbin v) x1.toNatClampNeg x2))) H := hP
                  have hD : va_D A (mw g h (s_mbin v (upd (k_mbin v) x1.toNatClampNeg x2))) := hD
                  exact W.vret hx hb hr (fun t ht hW => ⟨⟨(s_mbin v (upd (k_mbin v) x1.toNatClampNeg x2)), rfl, (by rw [he_42, lpX5_put_eq, if_pos c_43, if_pos c_45]), by rw [ht]; exact hP, hD⟩, hS.F ht⟩) hS.2.2 dX5_put_163
              · skip
                have t_49 : i.toInt ≤ (k_munits v).toInt := i_nlt c_43 rfl rfl
                refine lv_aload_n hx hb dX5_put_75 rfl (lv_at hl 1 rfl) ?_
                refine va_get (D := (dC, dI)) (C := RX5) (T := TX5) (N := 26) (v := .int (k_mcode v)) hx hb hts (fi_X5 _) hown hK hP 0 (mw_at0 _ _ _) rfl 0 (by decide) (hts _ (List.mem_cons_of_mem _ wd_237)) (fun _ h9 => h9) rfl dX5_put_76 ?_
                refine lv_if_ne (tgt := 149) hx hb dX5_put_79 (by decide) (fun c_50 => ?_) (fun c_50 => ?_)
                · skip
                  have t_51 : (k_mcode v).toInt ≠ 0 := i_ne c_50 rfl (by decide)
                  refine lv_aload_n hx hb dX5_put_149 rfl (lv_at hl 1 rfl) ?_
                  refine va_get (D := (dC, dI)) (C := RX5) (T := TX5) (N := 26) (v := .int (k_mcode v)) hx hb hts (fi_X5 _) hown hK hP 0 (mw_at0 _ _ _) rfl 0 (by decide) (hts _ (List.mem_cons_of_mem _ wd_237)) (fun _ h9 => h9) rfl dX5_put_150 ?_
                  refine lv_if_ne (tgt := 163) hx hb dX5_put_153 (by decide) (fun c_52 => ?_) (fun c_52 => ?_)
                  · skip
                    exact W.vret hx hb hr (fun t ht hW => ⟨⟨v, rfl, (by rw [he_42, lpX5_put_eq, if_neg c_43, if_neg c_50]), by rw [ht]; exact hP, hD⟩, hS.F ht⟩) hS.2.2 dX5_put_163
                  · skip
                    exact absurd c_52 c_50
                · skip
                  have t_53 : (k_mcode v).toInt = 0 := i_eq c_50 rfl (by decide)
                  have t_54 := hx c_50
                  refine lv_aload_n hx hb dX5_put_82 rfl (lv_at hl 1 rfl) ?_
                  refine va_get (D := (dC, dI)) (C := RX5) (T := TX5) (N := 26) (v := .ref (h 14)) hx hb hts (fi_X5 _) hown hK hP 0 (mw_at0 _ _ _) rfl 16 (by decide) (hts _ (List.mem_cons_of_mem _ wd_300)) (fun _ h9 => h9) rfl dX5_put_83 ?_
                  refine lv_iload_n hx hb dX5_put_86 rfl (lv_at hl 0 rfl) ?_
                  refine va_iald (f := k_mbin v) hx hb hK hP 14 0 (mw_at14 _ _ _) rfl (vp_in_iff.mpr (by omega)) dX5_put_87 ?_
                  refine lv_iload_n hx hb dX5_put_88 rfl (lv_at hl 3 rfl) ?_
                  refine lv_icmp_ne (tgt := 143) hx hb dX5_put_89 (by decide) (fun c_55 => ?_) (fun c_55 => ?_)
                  · skip
                    have t_56 : (k_mbin v i.toNatClampNeg).toInt ≠ x2.toInt := i_ne c_55 rfl rfl
                    refine lv_iinc (v := i + 1) (lv' := [(3, .int (i + 1)), (0, .ref (h 0)), (1, .int x1), (2, .int x2)]) hx hb dX5_put_143 hl (k := 0) rfl rfl (by decide) rfl (fun ls hl => ?_)
                    refine lv_goto (tgt := 67) hx hb dX5_put_146 (by decide) ?_
                    have hb1 := i_inc (x := i) (by omega)
                    exact ih_41 _ _ _ ⟨(i + 1), v, (by have e9 : k_munits v = k_munits v := rfl; rw [e9]; omega), (by have e9 : k_munits v = k_munits v := rfl; rw [e9]; omega), hx, hv, (by rw [he_42, lpX5_put_eq, if_neg c_43, if_pos c_50, if_neg c_55]), hP, hD, hS, lv_sub hl [0, 1, 2, 3] rfl⟩
                  · skip
                    have t_57 : (k_mbin v i.toNatClampNeg).toInt = x2.toInt := i_eq c_55 rfl rfl
                    refine lv_aload_n hx hb dX5_put_92 rfl (lv_at hl 1 rfl) ?_
                    refine lv_aload_n hx hb dX5_put_93 rfl (lv_at hl 1 rfl) ?_
                    refine va_get (D := (dC, dI)) (C := RX5) (T := TX5) (N := 26) (v := .ref (h 13)) hx hb hts (fi_X5 _) hown hK hP 0 (mw_at0 _ _ _) rfl 15 (by decide) (hts _ (List.mem_cons_of_mem _ wd_299)) (fun _ h9 => h9) rfl dX5_put_94 ?_
                    refine lv_iload_n hx hb dX5_put_97 rfl (lv_at hl 2 rfl) ?_
                    refine va_iald (f := k_mlotOf v) hx hb hK hP 13 0 (mw_at13 _ _ _) rfl (vp_in_iff.mpr (by omega)) dX5_put_98 ?_
                    refine lv_aload_n hx hb dX5_put_99 rfl (lv_at hl 1 rfl) ?_
                    refine va_get (D := (dC, dI)) (C := RX5) (T := TX5) (N := 26) (v := .ref (h 13)) hx hb hts (fi_X5 _) hown hK hP 0 (mw_at0 _ _ _) rfl 15 (by decide) (hts _ (List.mem_cons_of_mem _ wd_299)) (fun _ h9 => h9) rfl dX5_put_100 ?_
                    refine lv_iload_n hx hb dX5_put_103 rfl (lv_at hl 0 rfl) ?_
                    refine va_iald (f := k_mlotOf v) hx hb hK hP 13 0 (mw_at13 _ _ _) rfl (vp_in_iff.mpr (by omega)) dX5_put_104 ?_
                    refine vp_callSi (W.runV (As := [.int (k_mlotOf v x1.toNatClampNeg), .int (k_mlotOf v i.toNatClampNeg)]) (rest := []) ⟨hx, hb, hml, hown, hts⟩ (kX5_mayMix l dC dI g h v (k_mlotOf v x1.toNatClampNeg) (k_mlotOf v i.toNatClampNeg) (hI5v _) (hI5v _) hv) (cwV 2 hts (gV wd_316 wd_317 wd_318 wd_241 wcX5_mayMix) rfl rfl rfl (by decide +kernel) ⟨(Nat.le_of_ble_eq_true rfl), (Nat.le_of_ble_eq_true rfl)⟩) ⟨fun a U g mk q => by obtain ⟨q0, qP, qK⟩ := q; exact ⟨q0, qP, va_K.moved (u := U) (U := U.calling g mk a) (Vm.Alike.refl U.vm) qK⟩, va_recv hK hP (ci := 4) (q0 := 0) rfl (mw_at0 _ _ _), fun U hU hW => ⟨rfl, by rw [hU]; exact hP, va_K.moved hW.alike hK⟩⟩ rfl rfl hl.1 rfl (lv_room (Nat.le_of_ble_eq_true rfl)) dX5_put_105 ⟨(Nat.le_of_ble_eq_true rfl), (Nat.le_of_ble_eq_true rfl)⟩) (fun r_58 hw => ?_)
                    subst hw
                    refine lv_if_eq (tgt := 114) hx hb dX5_put_108 (by decide) (fun c_59 => ?_) (fun c_59 => ?_)
                    · skip
                      have t_60 : (fX5_mayMix v (k_mlotOf v x1.toNatClampNeg) (k_mlotOf v i.toNatClampNeg)).toInt = 0 := i_eq c_59 rfl (by decide)
                      refine lv_aload_n hx hb dX5_put_114 rfl (lv_at hl 1 rfl) ?_
                      refine va_get (D := (dC, dI)) (C := RX5) (T := TX5) (N := 26) (v := .ref (h 21)) hx hb hts (fi_X5 _) hown hK hP 0 (mw_at0 _ _ _) rfl 24 (by decide) (hts _ (List.mem_cons_of_mem _ wd_303)) (fun _ h9 => h9) rfl dX5_put_115 ?_
                      refine lv_iconst (v := 0) hx hb dX5_put_118 (by decide) ?_
                      refine lv_aload_n hx hb dX5_put_119 rfl (lv_at hl 1 rfl) ?_
                      refine va_get (D := (dC, dI)) (C := RX5) (T := TX5) (N := 26) (v := .ref (h 13)) hx hb hts (fi_X5 _) hown hK hP 0 (mw_at0 _ _ _) rfl 15 (by decide) (hts _ (List.mem_cons_of_mem _ wd_299)) (fun _ h9 => h9) rfl dX5_put_120 ?_
                      refine lv_iload_n hx hb dX5_put_123 rfl (lv_at hl 2 rfl) ?_
                      refine va_iald (f := k_mlotOf v) hx hb hK hP 13 0 (mw_at13 _ _ _) rfl (vp_in_iff.mpr (by omega)) dX5_put_124 ?_
                      refine va_iast (f := k_mmixed v) hx hb hK hP hD hS 21 0 (mw_at21 _ _ _) rfl (vp_in_iff.mpr (by decide)) dX5_put_125 (fun H locs hP hD hS => ?_)
                      have hP : va_P (dC, dI) vwCl (mw g h (s_mmixed v (upd (k_mmixed v) (0 : Int32).toNatClampNeg (k_mlotOf v x1.toNatClampNeg)))) H := hP
                      have hD : va_D A (mw g h (s_mmixed v (upd (k_mmixed v) (0 : Int32).toNatClampNeg (k_mlotOf v x1.toNatClampNeg)))) := hD
                      refine lv_aload_n hx hb dX5_put_126 rfl (lv_at hl 1 rfl) ?_
                      refine va_get (D := (dC, dI)) (C := RX5) (T := TX5) (N := 26) (v := .ref (h 21)) hx hb hts (fi_X5 _) hown hK hP 0 (mw_at0 _ _ _) rfl 24 (by decide) (hts _ (List.mem_cons_of_mem _ wd_303)) (fun _ h9 => h9) rfl dX5_put_127 ?_
                      refine lv_iconst (v := 1) hx hb dX5_put_130 (by decide) ?_
                      refine lv_aload_n hx hb dX5_put_131 rfl (lv_at hl 1 rfl) ?_
                      refine va_get (D := (dC, dI)) (C := RX5) (T := TX5) (N := 26) (v := .ref (h 13)) hx hb hts (fi_X5 _) hown hK hP 0 (mw_at0 _ _ _) rfl 15 (by decide) (hts _ (List.mem_cons_of_mem _ wd_299)) (fun _ h9 => h9) rfl dX5_put_132 ?_
                      refine lv_iload_n hx hb dX5_put_135 rfl (lv_at hl 0 rfl) ?_
                      refine va_iald (f := k_mlotOf v) hx hb hK hP 13 0 (mw_at13 _ _ _) rfl (vp_in_iff.mpr (by omega)) dX5_put_136 ?_
                      refine va_iast (f := upd (k_mmixed v) (0 : Int32).toNatClampNeg (k_mlotOf v x1.toNatClampNeg)) hx hb hK hP hD hS 21 0 (mw_at21 _ _ _) rfl (vp_in_iff.mpr (by decide)) dX5_put_137 (fun H locs hP hD hS => ?_)
                      have hP : va_P (dC, dI) vwCl (mw g h (s_mmixed v (upd (upd (k_mmixed v) (0 : Int32).toNatClampNeg (k_mlotOf v x1.toNatClampNeg)) (1 : Int32).toNatClampNeg (k_mlotOf v i.toNatClampNeg)))) H := hP
                      have hD : va_D A (mw g h (s_mmixed v (upd (upd (k_mmixed v) (0 : Int32).toNatClampNeg (k_mlotOf v x1.toNatClampNeg)) (1 : Int32).toNatClampNeg (k_mlotOf v i.toNatClampNeg)))) := hD
                      refine lv_aload_n hx hb dX5_put_138 rfl (lv_at hl 1 rfl) ?_
                      refine lv_iconst (v := 3) hx hb dX5_put_139 (by decide) ?_
                      refine va_put (D := (dC, dI)) (C := RX5) (T := TX5) (N := 26) (v := .int 3) (ty := .int) hx hb hts (fi_X5 _) tyX5 tyX5_ok nmX5 hown hK hP hD hS 0 (mw_at0 _ _ _) rfl 0 (by decide) (hts _ (List.mem_cons_of_mem _ wd_237)) (fun _ h9 => h9) rfl (by decide +kernel) rfl rfl (Nat.le_of_ble_eq_true rfl) dX5_put_140 (fun H locs hP hD hS => ?_)
                      have hP : va_P (dC, dI) vwCl (mw g h (s_mcode (s_mmixed v (upd (upd (k_mmixed v) (0 : Int32).toNatClampNeg (k_mlotOf v x1.toNatClampNeg)) (1 : Int32).toNatClampNeg (k_mlotOf v i.toNatClampNeg))) 3)) H := hP
                      have hD : va_D A (mw g h (s_mcode (s_mmixed v (upd (upd (k_mmixed v) (0 : Int32).toNatClampNeg (k_mlotOf v x1.toNatClampNeg)) (1 : Int32).toNatClampNeg (k_mlotOf v i.toNatClampNeg))) 3)) := hD
                      refine lv_iinc (v := i + 1) (lv' := [(3, .int (i + 1)), (0, .ref (h 0)), (1, .int x1), (2, .int x2)]) hx hb dX5_put_143 hl (k := 0) rfl rfl (by decide) rfl (fun ls hl => ?_)
                      refine lv_goto (tgt := 67) hx hb dX5_put_146 (by decide) ?_
                      have hb1 := i_inc (x := i) (by omega)
                      exact ih_41 _ _ _ ⟨(i + 1), (s_mcode (s_mmixed v (upd (upd (k_mmixed v) (0 : Int32).toNatClampNeg (k_mlotOf v x1.toNatClampNeg)) (1 : Int32).toNatClampNeg (k_mlotOf v i.toNatClampNeg))) 3), (by have e9 : k_munits (s_mcode (s_mmixed v (upd (upd (k_mmixed v) (0 : Int32).toNatClampNeg (k_mlotOf v x1.toNatClampNeg)) (1 : Int32).toNatClampNeg (k_mlotOf v i.toNatClampNeg))) 3) = k_munits v := rfl; rw [e9]; omega), (by have e9 : k_munits (s_mcode (s_mmixed v (upd (upd (k_mmixed v) (0 : Int32).toNatClampNeg (k_mlotOf v x1.toNatClampNeg)) (1 : Int32).toNatClampNeg (k_mlotOf v i.toNatClampNeg))) 3) = k_munits v := rfl; rw [e9]; omega), (fun h9 => absurd (show (3 : Int32) = 0 from h9) (by decide)), hv, (by rw [he_42, lpX5_put_eq, if_neg c_43, if_pos c_50, if_pos c_55, if_pos c_59]), hP, hD, hS, lv_sub hl [0, 1, 2, 3] rfl⟩
                    · skip
                      have t_61 : (fX5_mayMix v (k_mlotOf v x1.toNatClampNeg) (k_mlotOf v i.toNatClampNeg)).toInt ≠ 0 := i_ne c_59 rfl (by decide)
                      refine lv_goto (tgt := 143) hx hb dX5_put_111 (by decide) ?_
                      refine lv_iinc (v := i + 1) (lv' := [(3, .int (i + 1)), (0, .ref (h 0)), (1, .int x1), (2, .int x2)]) hx hb dX5_put_143 hl (k := 0) rfl rfl (by decide) rfl (fun ls hl => ?_)
                      refine lv_goto (tgt := 67) hx hb dX5_put_146 (by decide) ?_
                      have hb1 := i_inc (x := i) (by omega)
                      exact ih_41 _ _ _ ⟨(i + 1), v, (by have e9 : k_munits v = k_munits v := rfl; rw [e9]; omega), (by have e9 : k_munits v = k_munits v := rfl; rw [e9]; omega), hx, hv, (by rw [he_42, lpX5_put_eq, if_neg c_43, if_pos c_50, if_pos c_55, if_neg c_59]), hP, hD, hS, lv_sub hl [0, 1, 2, 3] rfl⟩
          · skip
            have t_62 : (k_mbin u x1.toNatClampNeg).toInt = x2.toInt := i_eq c_38 rfl rfl
            refine lv_iconst (v := 3) hx hb dX5_put_57 (by decide) ?_
            refine lv_goto (tgt := 62) hx hb dX5_put_58 (by decide) ?_
            refine va_put (D := (dC, dI)) (C := RX5) (T := TX5) (N := 26) (v := .int 3) (ty := .int) hx hb hts (fi_X5 _) tyX5 tyX5_ok nmX5 hown hK hP hD hS 0 (mw_at0 _ _ _) rfl 0 (by decide) (hts _ (List.mem_cons_of_mem _ wd_237)) (fun _ h9 => h9) rfl (by decide +kernel) rfl rfl (Nat.le_of_ble_eq_true rfl) dX5_put_62 (fun H locs hP hD hS => ?_)
            have hP : va_P (dC, dI) vwCl (mw g h (s_mcode u 3)) H := hP
            have hD : va_D A (mw g h (s_mcode u 3)) := hD
            refine lv_iconst (v := 1) hx hb dX5_put_65 (by decide) ?_
            refine lv_istore_n (lv' := [(3, .int 1), (0, .ref (h 0)), (1, .int x1), (2, .int x2)]) hx hb dX5_put_66 rfl hl (by decide) rfl (fun ls hl => ?_)
            refine lp_indH (fun H locs => W p l e _ s m _ below meth c H locs _ _ _) (fun n H locs ls => ∃ (i : Int32) (v : mS), ((k_munits v).toInt - i.toInt + 1 < (n : Int)) ∧ (1 ≤ i.toInt ∧ i.toInt ≤ 121 ∧ i.toInt ≤ (k_munits v).toInt + 1) ∧ (k_mcode v = 0 → 1 ≤ x1.toInt ∧ x1.toInt ≤ 120) ∧ (mInv v) ∧ fX5_put u x1 x2 = lpX5_put x1 x2 n i v ∧ va_P (dC, dI) vwCl (mw g h v) H ∧ va_D A (mw g h v) ∧ va_S A s.heap H locs ∧ lv_has ls 4 [(3, .int i), (0, .ref (h 0)), (1, .int x1), (2, .int x2)]) m 67 (fun H locs ls hI0 => ?_) (fun n H locs ls hI0 ih => ?_) 121 _ _ _ ⟨1, (s_mcode u 3), (by have e9 : k_munits (s_mcode u 3) = k_munits u := rfl; rw [e9]; omega), (by have e9 : k_munits (s_mcode u 3) = k_munits u := rfl; rw [e9]; omega), (fun h9 => absurd (show (3 : Int32) = 0 from h9) (by decide)), hI, (by unfold fX5_put; rw [if_neg c_2, if_neg c_7, if_pos c_13, if_pos c_38]), hP, hD, hS, lv_sub hl [0, 1, 2, 3] rfl⟩
            · skip
              obtain ⟨i, v, hn, hi, hx, hv, he, hP, hD, hS, hl⟩ := hI0
              exact absurd hn (by omega)
            · skip
              obtain ⟨i, v, hn, hi, hx, hv, he, hP, hD, hS, hl⟩ := hI0
              have he_65 := he
              have ih_64 := ih
              obtain ⟨hI1v, hI2v, hI3v, hI4v, hI5v, hI6v, hI7v⟩ := id hv
              refine lv_iload_n hx hb dX5_put_67 rfl (lv_at hl 0 rfl) ?_
              refine lv_aload_n hx hb dX5_put_68 rfl (lv_at hl 1 rfl) ?_
              refine va_get (D := (dC, dI)) (C := RX5) (T := TX5) (N := 26) (v := .int (k_munits v)) hx hb hts (fi_X5 _) hown hK hP 0 (mw_at0 _ _ _) rfl 14 (by decide) (hts _ (List.mem_cons_of_mem _ wd_243)) (fun _ h9 => h9) rfl dX5_put_69 ?_
              refine lv_icmp_gt (tgt := 149) hx hb dX5_put_72 (by decide) (fun c_66 => ?_) (fun c_66 => ?_)
              · skip
                have t_67 : (k_munits v).toInt < i.toInt := i_lt c_66 rfl rfl
                refine lv_aload_n hx hb dX5_put_149 rfl (lv_at hl 1 rfl) ?_
                refine va_get (D := (dC, dI)) (C := RX5) (T := TX5) (N := 26) (v := .int (k_mcode v)) hx hb hts (fi_X5 _) hown hK hP 0 (mw_at0 _ _ _) rfl 0 (by decide) (hts _ (List.mem_cons_of_mem _ wd_237)) (fun _ h9 => h9) rfl dX5_put_150 ?_
                refine lv_if_ne (tgt := 163) hx hb dX5_put_153 (by decide) (fun c_68 => ?_) (fun c_68 => ?_)
                · skip
                  have t_69 : (k_mcode v).toInt ≠ 0 := i_ne c_68 rfl (by decide)
                  exact W.vret hx hb hr (fun t ht hW => ⟨⟨v, rfl, (by rw [he_65, lpX5_put_eq, if_pos c_66, if_neg c_68]), by rw [ht]; exact hP, hD⟩, hS.F ht⟩) hS.2.2 dX5_put_163
                · skip
                  have t_70 : (k_mcode v).toInt = 0 := i_eq c_68 rfl (by decide)
                  have t_71 := hx c_68
                  refine lv_aload_n hx hb dX5_put_156 rfl (lv_at hl 1 rfl) ?_
                  refine va_get (D := (dC, dI)) (C := RX5) (T := TX5) (N := 26) (v := .ref (h 14)) hx hb hts (fi_X5 _) hown hK hP 0 (mw_at0 _ _ _) rfl 16 (by decide) (hts _ (List.mem_cons_of_mem _ wd_300)) (fun _ h9 => h9) rfl dX5_put_157 ?_
                  refine lv_iload_n hx hb dX5_put_160 rfl (lv_at hl 2 rfl) ?_
                  refine lv_iload_n hx hb dX5_put_161 rfl (lv_at hl 3 rfl) ?_
                  refine va_iast (f := k_mbin v) hx hb hK hP hD hS 14 0 (mw_at14 _ _ _) rfl (vp_in_iff.mpr (by omega)) dX5_put_162 (fun H locs hP hD hS => ?_)
                  have hP : va_P (dC, dI) vwCl (mw g h (s_mbin v (upd (k_mbin v) x1.toNatClampNeg x2))) H := hP
                  have hD : va_D A (mw g h (s_mbin v (upd (k_mbin v) x1.toNatClampNeg x2))) := hD
                  exact W.vret hx hb hr (fun t ht hW => ⟨⟨(s_mbin v (upd (k_mbin v) x1.toNatClampNeg x2)), rfl, (by rw [he_65, lpX5_put_eq, if_pos c_66, if_pos c_68]), by rw [ht]; exact hP, hD⟩, hS.F ht⟩) hS.2.2 dX5_put_163
              · skip
                have t_72 : i.toInt ≤ (k_munits v).toInt := i_nlt c_66 rfl rfl
                refine lv_aload_n hx hb dX5_put_75 rfl (lv_at hl 1 rfl) ?_
                refine va_get (D := (dC, dI)) (C := RX5) (T := TX5) (N := 26) (v := .int (k_mcode v)) hx hb hts (fi_X5 _) hown hK hP 0 (mw_at0 _ _ _) rfl 0 (by decide) (hts _ (List.mem_cons_of_mem _ wd_237)) (fun _ h9 => h9) rfl dX5_put_76 ?_
                refine lv_if_ne (tgt := 149) hx hb dX5_put_79 (by decide) (fun c_73 => ?_) (fun c_73 => ?_)
                · skip
                  have t_74 : (k_mcode v).toInt ≠ 0 := i_ne c_73 rfl (by decide)
                  refine lv_aload_n hx hb dX5_put_149 rfl (lv_at hl 1 rfl) ?_
                  refine va_get (D := (dC, dI)) (C := RX5) (T := TX5) (N := 26) (v := .int (k_mcode v)) hx hb hts (fi_X5 _) hown hK hP 0 (mw_at0 _ _ _) rfl 0 (by decide) (hts _ (List.mem_cons_of_mem _ wd_237)) (fun _ h9 => h9) rfl dX5_put_150 ?_
                  refine lv_if_ne (tgt := 163) hx hb dX5_put_153 (by decide) (fun c_75 => ?_) (fun c_75 => ?_)
                  · skip
                    exact W.vret hx hb hr (fun t ht hW => ⟨⟨v, rfl, (by rw [he_65, lpX5_put_eq, if_neg c_66, if_neg c_73]), by rw [ht]; exact hP, hD⟩, hS.F ht⟩) hS.2.2 dX5_put_163
                  · skip
                    exact absurd c_75 c_73
                · skip
                  have t_76 : (k_mcode v).toInt = 0 := i_eq c_73 rfl (by decide)
                  have t_77 := hx c_73
                  refine lv_aload_n hx hb dX5_put_82 rfl (lv_at hl 1 rfl) ?_
                  refine va_get (D := (dC, dI)) (C := RX5) (T := TX5) (N := 26) (v := .ref (h 14)) hx hb hts (fi_X5 _) hown hK hP 0 (mw_at0 _ _ _) rfl 16 (by decide) (hts _ (List.mem_cons_of_mem _ wd_300)) (fun _ h9 => h9) rfl dX5_put_83 ?_
                  refine lv_iload_n hx hb dX5_put_86 rfl (lv_at hl 0 rfl) ?_
                  refine va_iald (f := k_mbin v) hx hb hK hP 14 0 (mw_at14 _ _ _) rfl (vp_in_iff.mpr (by omega)) dX5_put_87 ?_
                  refine lv_iload_n hx hb dX5_put_88 rfl (lv_at hl 3 rfl) ?_
                  refine lv_icmp_ne (tgt := 143) hx hb dX5_put_89 (by decide) (fun c_78 => ?_) (fun c_78 => ?_)
                  · skip
                    have t_79 : (k_mbin v i.toNatClampNeg).toInt ≠ x2.toInt := i_ne c_78 rfl rfl
                    refine lv_iinc (v := i + 1) (lv' := [(3, .int (i + 1)), (0, .ref (h 0)), (1, .int x1), (2, .int x2)]) hx hb dX5_put_143 hl (k := 0) rfl rfl (by decide) rfl (fun ls hl => ?_)
                    refine lv_goto (tgt := 67) hx hb dX5_put_146 (by decide) ?_
                    have hb1 := i_inc (x := i) (by omega)
                    exact ih_64 _ _ _ ⟨(i + 1), v, (by have e9 : k_munits v = k_munits v := rfl; rw [e9]; omega), (by have e9 : k_munits v = k_munits v := rfl; rw [e9]; omega), hx, hv, (by rw [he_65, lpX5_put_eq, if_neg c_66, if_pos c_73, if_neg c_78]), hP, hD, hS, lv_sub hl [0, 1, 2, 3] rfl⟩
                  · skip
                    have t_80 : (k_mbin v i.toNatClampNeg).toInt = x2.toInt := i_eq c_78 rfl rfl
                    refine lv_aload_n hx hb dX5_put_92 rfl (lv_at hl 1 rfl) ?_
                    refine lv_aload_n hx hb dX5_put_93 rfl (lv_at hl 1 rfl) ?_
                    refine va_get (D := (dC, dI)) (C := RX5) (T := TX5) (N := 26) (v := .ref (h 13)) hx hb hts (fi_X5 _) hown hK hP 0 (mw_at0 _ _ _) rfl 15 (by decide) (hts _ (List.mem_cons_of_mem _ wd_299)) (fun _ h9 => h9) rfl dX5_put_94 ?_
                    refine lv_iload_n hx hb dX5_put_97 rfl (lv_at hl 2 rfl) ?_
                    refine va_iald (f := k_mlotOf v) hx hb hK hP 13 0 (mw_at13 _ _ _) rfl (vp_in_iff.mpr (by omega)) dX5_put_98 ?_
                    refine lv_aload_n hx hb dX5_put_99 rfl (lv_at hl 1 rfl) ?_
                    refine va_get (D := (dC, dI)) (C := RX5) (T := TX5) (N := 26) (v := .ref (h 13)) hx hb hts (fi_X5 _) hown hK hP 0 (mw_at0 _ _ _) rfl 15 (by decide) (hts _ (List.mem_cons_of_mem _ wd_299)) (fun _ h9 => h9) rfl dX5_put_100 ?_
                    refine lv_iload_n hx hb dX5_put_103 rfl (lv_at hl 0 rfl) ?_
                    refine va_iald (f := k_mlotOf v) hx hb hK hP 13 0 (mw_at13 _ _ _) rfl (vp_in_iff.mpr (by omega)) dX5_put_104 ?_
                    refine vp_callSi (W.runV (As := [.int (k_mlotOf v x1.toNatClampNeg), .int (k_mlotOf v i.toNatClampNeg)]) (rest := []) ⟨hx, hb, hml, hown, hts⟩ (kX5_mayMix l dC dI g h v (k_mlotOf v x1.toNatClampNeg) (k_mlotOf v i.toNatClampNeg) (hI5v _) (hI5v _) hv) (cwV 2 hts (gV wd_316 wd_317 wd_318 wd_241 wcX5_mayMix) rfl rfl rfl (by decide +kernel) ⟨(Nat.le_of_ble_eq_true rfl), (Nat.le_of_ble_eq_true rfl)⟩) ⟨fun a U g mk q => by obtain ⟨q0, qP, qK⟩ := q; exact ⟨q0, qP, va_K.moved (u := U) (U := U.calling g mk a) (Vm.Alike.refl U.vm) qK⟩, va_recv hK hP (ci := 4) (q0 := 0) rfl (mw_at0 _ _ _), fun U hU hW => ⟨rfl, by rw [hU]; exact hP, va_K.moved hW.alike hK⟩⟩ rfl rfl hl.1 rfl (lv_room (Nat.le_of_ble_eq_true rfl)) dX5_put_105 ⟨(Nat.le_of_ble_eq_true rfl), (Nat.le_of_ble_eq_true rfl)⟩) (fun r_81 hw => ?_)
                    subst hw
                    refine lv_if_eq (tgt := 114) hx hb dX5_put_108 (by decide) (fun c_82 => ?_) (fun c_82 => ?_)
                    · skip
                      have t_83 : (fX5_mayMix v (k_mlotOf v x1.toNatClampNeg) (k_mlotOf v i.toNatClampNeg)).toInt = 0 := i_eq c_82 rfl (by decide)
                      refine lv_aload_n hx hb dX5_put_114 rfl (lv_at hl 1 rfl) ?_
                      refine va_get (D := (dC, dI)) (C := RX5) (T := TX5) (N := 26) (v := .ref (h 21)) hx hb hts (fi_X5 _) hown hK hP 0 (mw_at0 _ _ _) rfl 24 (by decide) (hts _ (List.mem_cons_of_mem _ wd_303)) (fun _ h9 => h9) rfl dX5_put_115 ?_
                      refine lv_iconst (v := 0) hx hb dX5_put_118 (by decide) ?_
                      refine lv_aload_n hx hb dX5_put_119 rfl (lv_at hl 1 rfl) ?_
                      refine va_get (D := (dC, dI)) (C := RX5) (T := TX5) (N := 26) (v := .ref (h 13)) hx hb hts (fi_X5 _) hown hK hP 0 (mw_at0 _ _ _) rfl 15 (by decide) (hts _ (List.mem_cons_of_mem _ wd_299)) (fun _ h9 => h9) rfl dX5_put_120 ?_
                      refine lv_iload_n hx hb dX5_put_123 rfl (lv_at hl 2 rfl) ?_
                      refine va_iald (f := k_mlotOf v) hx hb hK hP 13 0 (mw_at13 _ _ _) rfl (vp_in_iff.mpr (by omega)) dX5_put_124 ?_
                      refine va_iast (f := k_mmixed v) hx hb hK hP hD hS 21 0 (mw_at21 _ _ _) rfl (vp_in_iff.mpr (by decide)) dX5_put_125 (fun H locs hP hD hS => ?_)
                      have hP : va_P (dC, dI) vwCl (mw g h (s_mmixed v (upd (k_mmixed v) (0 : Int32).toNatClampNeg (k_mlotOf v x1.toNatClampNeg)))) H := hP
                      have hD : va_D A (mw g h (s_mmixed v (upd (k_mmixed v) (0 : Int32).toNatClampNeg (k_mlotOf v x1.toNatClampNeg)))) := hD
                      refine lv_aload_n hx hb dX5_put_126 rfl (lv_at hl 1 rfl) ?_
                      refine va_get (D := (dC, dI)) (C := RX5) (T := TX5) (N := 26) (v := .ref (h 21)) hx hb hts (fi_X5 _) hown hK hP 0 (mw_at0 _ _ _) rfl 24 (by decide) (hts _ (List.mem_cons_of_mem _ wd_303)) (fun _ h9 => h9) rfl dX5_put_127 ?_
                      refine lv_iconst (v := 1) hx hb dX5_put_130 (by decide) ?_
                      refine lv_aload_n hx hb dX5_put_131 rfl (lv_at hl 1 rfl) ?_
                      refine va_get (D := (dC, dI)) (C := RX5) (T := TX5) (N := 26) (v := .ref (h 13)) hx hb hts (fi_X5 _) hown hK hP 0 (mw_at0 _ _ _) rfl 15 (by decide) (hts _ (List.mem_cons_of_mem _ wd_299)) (fun _ h9 => h9) rfl dX5_put_132 ?_
                      refine lv_iload_n hx hb dX5_put_135 rfl (lv_at hl 0 rfl) ?_
                      refine va_iald (f := k_mlotOf v) hx hb hK hP 13 0 (mw_at13 _ _ _) rfl (vp_in_iff.mpr (by omega)) dX5_put_136 ?_
                      refine va_iast (f := upd (k_mmixed v) (0 : Int32).toNatClampNeg (k_mlotOf v x1.toNatClampNeg)) hx hb hK hP hD hS 21 0 (mw_at21 _ _ _) rfl (vp_in_iff.mpr (by decide)) dX5_put_137 (fun H locs hP hD hS => ?_)
                      have hP : va_P (dC, dI) vwCl (mw g h (s_mmixed v (upd (upd (k_mmixed v) (0 : Int32).toNatClampNeg (k_mlotOf v x1.toNatClampNeg)) (1 : Int32).toNatClampNeg (k_mlotOf v i.toNatClampNeg)))) H := hP
                      have hD : va_D A (mw g h (s_mmixed v (upd (upd (k_mmixed v) (0 : Int32).toNatClampNeg (k_mlotOf v x1.toNatClampNeg)) (1 : Int32).toNatClampNeg (k_mlotOf v i.toNatClampNeg)))) := hD
                      refine lv_aload_n hx hb dX5_put_138 rfl (lv_at hl 1 rfl) ?_
                      refine lv_iconst (v := 3) hx hb dX5_put_139 (by decide) ?_
                      refine va_put (D := (dC, dI)) (C := RX5) (T := TX5) (N := 26) (v := .int 3) (ty := .int) hx hb hts (fi_X5 _) tyX5 tyX5_ok nmX5 hown hK hP hD hS 0 (mw_at0 _ _ _) rfl 0 (by decide) (hts _ (List.mem_cons_of_mem _ wd_237)) (fun _ h9 => h9) rfl (by decide +kernel) rfl rfl (Nat.le_of_ble_eq_true rfl) dX5_put_140 (fun H locs hP hD hS => ?_)
                      have hP : va_P (dC, dI) vwCl (mw g h (s_mcode (s_mmixed v (upd (upd (k_mmixed v) (0 : Int32).toNatClampNeg (k_mlotOf v x1.toNatClampNeg)) (1 : Int32).toNatClampNeg (k_mlotOf v i.toNatClampNeg))) 3)) H := hP
                      have hD : va_D A (mw g h (s_mcode (s_mmixed v (upd (upd (k_mmixed v) (0 : Int32).toNatClampNeg (k_mlotOf v x1.toNatClampNeg)) (1 : Int32).toNatClampNeg (k_mlotOf v i.toNatClampNeg))) 3)) := hD
                      refine lv_iinc (v := i + 1) (lv' := [(3, .int (i + 1)), (0, .ref (h 0)), (1, .int x1), (2, .int x2)]) hx hb dX5_put_143 hl (k := 0) rfl rfl (by decide) rfl (fun ls hl => ?_)
                      refine lv_goto (tgt := 67) hx hb dX5_put_146 (by decide) ?_
                      have hb1 := i_inc (x := i) (by omega)
                      exact ih_64 _ _ _ ⟨(i + 1), (s_mcode (s_mmixed v (upd (upd (k_mmixed v) (0 : Int32).toNatClampNeg (k_mlotOf v x1.toNatClampNeg)) (1 : Int32).toNatClampNeg (k_mlotOf v i.toNatClampNeg))) 3), (by have e9 : k_munits (s_mcode (s_mmixed v (upd (upd (k_mmixed v) (0 : Int32).toNatClampNeg (k_mlotOf v x1.toNatClampNeg)) (1 : Int32).toNatClampNeg (k_mlotOf v i.toNatClampNeg))) 3) = k_munits v := rfl; rw [e9]; omega), (by have e9 : k_munits (s_mcode (s_mmixed v (upd (upd (k_mmixed v) (0 : Int32).toNatClampNeg (k_mlotOf v x1.toNatClampNeg)) (1 : Int32).toNatClampNeg (k_mlotOf v i.toNatClampNeg))) 3) = k_munits v := rfl; rw [e9]; omega), (fun h9 => absurd (show (3 : Int32) = 0 from h9) (by decide)), hv, (by rw [he_65, lpX5_put_eq, if_neg c_66, if_pos c_73, if_pos c_78, if_pos c_82]), hP, hD, hS, lv_sub hl [0, 1, 2, 3] rfl⟩
                    · skip
                      have t_84 : (fX5_mayMix v (k_mlotOf v x1.toNatClampNeg) (k_mlotOf v i.toNatClampNeg)).toInt ≠ 0 := i_ne c_82 rfl (by decide)
                      refine lv_goto (tgt := 143) hx hb dX5_put_111 (by decide) ?_
                      refine lv_iinc (v := i + 1) (lv' := [(3, .int (i + 1)), (0, .ref (h 0)), (1, .int x1), (2, .int x2)]) hx hb dX5_put_143 hl (k := 0) rfl rfl (by decide) rfl (fun ls hl => ?_)
                      refine lv_goto (tgt := 67) hx hb dX5_put_146 (by decide) ?_
                      have hb1 := i_inc (x := i) (by omega)
                      exact ih_64 _ _ _ ⟨(i + 1), v, (by have e9 : k_munits v = k_munits v := rfl; rw [e9]; omega), (by have e9 : k_munits v = k_munits v := rfl; rw [e9]; omega), hx, hv, (by rw [he_65, lpX5_put_eq, if_neg c_66, if_pos c_73, if_pos c_78, if_neg c_82]), hP, hD, hS, lv_sub hl [0, 1, 2, 3] rfl⟩
    · skip
      have t_85 : (fX5_in x2 0 19).toInt = 0 := i_eq c_7 rfl (by decide)
      refine lv_iconst (v := 2) hx hb dX5_put_23 (by decide) ?_
      refine lv_goto (tgt := 28) hx hb dX5_put_24 (by decide) ?_
      refine va_put (D := (dC, dI)) (C := RX5) (T := TX5) (N := 26) (v := .int 2) (ty := .int) hx hb hts (fi_X5 _) tyX5 tyX5_ok nmX5 hown hK hP hD hS 0 (mw_at0 _ _ _) rfl 0 (by decide) (hts _ (List.mem_cons_of_mem _ wd_237)) (fun _ h9 => h9) rfl (by decide +kernel) rfl rfl (Nat.le_of_ble_eq_true rfl) dX5_put_28 (fun H locs hP hD hS => ?_)
      have hP : va_P (dC, dI) vwCl (mw g h (s_mcode u 2)) H := hP
      have hD : va_D A (mw g h (s_mcode u 2)) := hD
      refine lv_aload_n hx hb dX5_put_31 rfl (lv_at hl 0 rfl) ?_
      refine va_get (D := (dC, dI)) (C := RX5) (T := TX5) (N := 26) (v := .int 2) hx hb hts (fi_X5 _) hown hK hP 0 (mw_at0 _ _ _) rfl 0 (by decide) (hts _ (List.mem_cons_of_mem _ wd_237)) (fun _ h9 => h9) rfl dX5_put_32 ?_
      refine lv_if_ne (tgt := 65) hx hb dX5_put_35 (by decide) (fun c_86 => ?_) (fun c_86 => ?_)
      · skip
        refine lv_iconst (v := 1) hx hb dX5_put_65 (by decide) ?_
        refine lv_istore_n (lv' := [(3, .int 1), (0, .ref (h 0)), (1, .int x1), (2, .int x2)]) hx hb dX5_put_66 rfl hl (by decide) rfl (fun ls hl => ?_)
        refine lp_indH (fun H locs => W p l e _ s m _ below meth c H locs _ _ _) (fun n H locs ls => ∃ (i : Int32) (v : mS), ((k_munits v).toInt - i.toInt + 1 < (n : Int)) ∧ (1 ≤ i.toInt ∧ i.toInt ≤ 121 ∧ i.toInt ≤ (k_munits v).toInt + 1) ∧ (k_mcode v = 0 → 1 ≤ x1.toInt ∧ x1.toInt ≤ 120) ∧ (mInv v) ∧ fX5_put u x1 x2 = lpX5_put x1 x2 n i v ∧ va_P (dC, dI) vwCl (mw g h v) H ∧ va_D A (mw g h v) ∧ va_S A s.heap H locs ∧ lv_has ls 4 [(3, .int i), (0, .ref (h 0)), (1, .int x1), (2, .int x2)]) m 67 (fun H locs ls hI0 => ?_) (fun n H locs ls hI0 ih => ?_) 121 _ _ _ ⟨1, (s_mcode u 2), (by have e9 : k_munits (s_mcode u 2) = k_munits u := rfl; rw [e9]; omega), (by have e9 : k_munits (s_mcode u 2) = k_munits u := rfl; rw [e9]; omega), (fun h9 => absurd (show (2 : Int32) = 0 from h9) (by decide)), hI, (by unfold fX5_put; rw [if_neg c_2, if_pos c_7]), hP, hD, hS, lv_sub hl [0, 1, 2, 3] rfl⟩
        · skip
          obtain ⟨i, v, hn, hi, hx, hv, he, hP, hD, hS, hl⟩ := hI0
          exact absurd hn (by omega)
        · skip
          obtain ⟨i, v, hn, hi, hx, hv, he, hP, hD, hS, hl⟩ := hI0
          have he_89 := he
          have ih_88 := ih
          obtain ⟨hI1v, hI2v, hI3v, hI4v, hI5v, hI6v, hI7v⟩ := id hv
          refine lv_iload_n hx hb dX5_put_67 rfl (lv_at hl 0 rfl) ?_
          refine lv_aload_n hx hb dX5_put_68 rfl (lv_at hl 1 rfl) ?_
          refine va_get (D := (dC, dI)) (C := RX5) (T := TX5) (N := 26) (v := .int (k_munits v)) hx hb hts (fi_X5 _) hown hK hP 0 (mw_at0 _ _ _) rfl 14 (by decide) (hts _ (List.mem_cons_of_mem _ wd_243)) (fun _ h9 => h9) rfl dX5_put_69 ?_
          refine lv_icmp_gt (tgt := 149) hx hb dX5_put_72 (by decide) (fun c_90 => ?_) (fun c_90 => ?_)
          · skip
            have t_91 : (k_munits v).toInt < i.toInt := i_lt c_90 rfl rfl
            refine lv_aload_n hx hb dX5_put_149 rfl (lv_at hl 1 rfl) ?_
            refine va_get (D := (dC, dI)) (C := RX5) (T := TX5) (N := 26) (v := .int (k_mcode v)) hx hb hts (fi_X5 _) hown hK hP 0 (mw_at0 _ _ _) rfl 0 (by decide) (hts _ (List.mem_cons_of_mem _ wd_237)) (fun _ h9 => h9) rfl dX5_put_150 ?_
            refine lv_if_ne (tgt := 163) hx hb dX5_put_153 (by decide) (fun c_92 => ?_) (fun c_92 => ?_)
            · skip
              have t_93 : (k_mcode v).toInt ≠ 0 := i_ne c_92 rfl (by decide)
              exact W.vret hx hb hr (fun t ht hW => ⟨⟨v, rfl, (by rw [he_89, lpX5_put_eq, if_pos c_90, if_neg c_92]), by rw [ht]; exact hP, hD⟩, hS.F ht⟩) hS.2.2 dX5_put_163
            · skip
              have t_94 : (k_mcode v).toInt = 0 := i_eq c_92 rfl (by decide)
              have t_95 := hx c_92
              refine lv_aload_n hx hb dX5_put_156 rfl (lv_at hl 1 rfl) ?_
              refine va_get (D := (dC, dI)) (C := RX5) (T := TX5) (N := 26) (v := .ref (h 14)) hx hb hts (fi_X5 _) hown hK hP 0 (mw_at0 _ _ _) rfl 16 (by decide) (hts _ (List.mem_cons_of_mem _ wd_300)) (fun _ h9 => h9) rfl dX5_put_157 ?_
              refine lv_iload_n hx hb dX5_put_160 rfl (lv_at hl 2 rfl) ?_
              refine lv_iload_n hx hb dX5_put_161 rfl (lv_at hl 3 rfl) ?_
              refine va_iast (f := k_mbin v) hx hb hK hP hD hS 14 0 (mw_at14 _ _ _) rfl (vp_in_iff.mpr (by omega)) dX5_put_162 (fun H locs hP hD hS => ?_)
              have hP : va_P (dC, dI) vwCl (mw g h (s_mbin v (upd (k_mbin v) x1.toNatClampNeg x2))) H := hP
              have hD : va_D A (mw g h (s_mbin v (upd (k_mbin v) x1.toNatClampNeg x2))) := hD
              exact W.vret hx hb hr (fun t ht hW => ⟨⟨(s_mbin v (upd (k_mbin v) x1.toNatClampNeg x2)), rfl, (by rw [he_89, lpX5_put_eq, if_pos c_90, if_pos c_92]), by rw [ht]; exact hP, hD⟩, hS.F ht⟩) hS.2.2 dX5_put_163
          · skip
            have t_96 : i.toInt ≤ (k_munits v).toInt := i_nlt c_90 rfl rfl
            refine lv_aload_n hx hb dX5_put_75 rfl (lv_at hl 1 rfl) ?_
            refine va_get (D := (dC, dI)) (C := RX5) (T := TX5) (N := 26) (v := .int (k_mcode v)) hx hb hts (fi_X5 _) hown hK hP 0 (mw_at0 _ _ _) rfl 0 (by decide) (hts _ (List.mem_cons_of_mem _ wd_237)) (fun _ h9 => h9) rfl dX5_put_76 ?_
            refine lv_if_ne (tgt := 149) hx hb dX5_put_79 (by decide) (fun c_97 => ?_) (fun c_97 => ?_)
            · skip
              have t_98 : (k_mcode v).toInt ≠ 0 := i_ne c_97 rfl (by decide)
              refine lv_aload_n hx hb dX5_put_149 rfl (lv_at hl 1 rfl) ?_
              refine va_get (D := (dC, dI)) (C := RX5) (T := TX5) (N := 26) (v := .int (k_mcode v)) hx hb hts (fi_X5 _) hown hK hP 0 (mw_at0 _ _ _) rfl 0 (by decide) (hts _ (List.mem_cons_of_mem _ wd_237)) (fun _ h9 => h9) rfl dX5_put_150 ?_
              refine lv_if_ne (tgt := 163) hx hb dX5_put_153 (by decide) (fun c_99 => ?_) (fun c_99 => ?_)
              · skip
                exact W.vret hx hb hr (fun t ht hW => ⟨⟨v, rfl, (by rw [he_89, lpX5_put_eq, if_neg c_90, if_neg c_97]), by rw [ht]; exact hP, hD⟩, hS.F ht⟩) hS.2.2 dX5_put_163
              · skip
                exact absurd c_99 c_97
            · skip
              have t_100 : (k_mcode v).toInt = 0 := i_eq c_97 rfl (by decide)
              have t_101 := hx c_97
              refine lv_aload_n hx hb dX5_put_82 rfl (lv_at hl 1 rfl) ?_
              refine va_get (D := (dC, dI)) (C := RX5) (T := TX5) (N := 26) (v := .ref (h 14)) hx hb hts (fi_X5 _) hown hK hP 0 (mw_at0 _ _ _) rfl 16 (by decide) (hts _ (List.mem_cons_of_mem _ wd_300)) (fun _ h9 => h9) rfl dX5_put_83 ?_
              refine lv_iload_n hx hb dX5_put_86 rfl (lv_at hl 0 rfl) ?_
              refine va_iald (f := k_mbin v) hx hb hK hP 14 0 (mw_at14 _ _ _) rfl (vp_in_iff.mpr (by omega)) dX5_put_87 ?_
              refine lv_iload_n hx hb dX5_put_88 rfl (lv_at hl 3 rfl) ?_
              refine lv_icmp_ne (tgt := 143) hx hb dX5_put_89 (by decide) (fun c_102 => ?_) (fun c_102 => ?_)
              · skip
                have t_103 : (k_mbin v i.toNatClampNeg).toInt ≠ x2.toInt := i_ne c_102 rfl rfl
                refine lv_iinc (v := i + 1) (lv' := [(3, .int (i + 1)), (0, .ref (h 0)), (1, .int x1), (2, .int x2)]) hx hb dX5_put_143 hl (k := 0) rfl rfl (by decide) rfl (fun ls hl => ?_)
                refine lv_goto (tgt := 67) hx hb dX5_put_146 (by decide) ?_
                have hb1 := i_inc (x := i) (by omega)
                exact ih_88 _ _ _ ⟨(i + 1), v, (by have e9 : k_munits v = k_munits v := rfl; rw [e9]; omega), (by have e9 : k_munits v = k_munits v := rfl; rw [e9]; omega), hx, hv, (by rw [he_89, lpX5_put_eq, if_neg c_90, if_pos c_97, if_neg c_102]), hP, hD, hS, lv_sub hl [0, 1, 2, 3] rfl⟩
              · skip
                have t_104 : (k_mbin v i.toNatClampNeg).toInt = x2.toInt := i_eq c_102 rfl rfl
                refine lv_aload_n hx hb dX5_put_92 rfl (lv_at hl 1 rfl) ?_
                refine lv_aload_n hx hb dX5_put_93 rfl (lv_at hl 1 rfl) ?_
                refine va_get (D := (dC, dI)) (C := RX5) (T := TX5) (N := 26) (v := .ref (h 13)) hx hb hts (fi_X5 _) hown hK hP 0 (mw_at0 _ _ _) rfl 15 (by decide) (hts _ (List.mem_cons_of_mem _ wd_299)) (fun _ h9 => h9) rfl dX5_put_94 ?_
                refine lv_iload_n hx hb dX5_put_97 rfl (lv_at hl 2 rfl) ?_
                refine va_iald (f := k_mlotOf v) hx hb hK hP 13 0 (mw_at13 _ _ _) rfl (vp_in_iff.mpr (by omega)) dX5_put_98 ?_
                refine lv_aload_n hx hb dX5_put_99 rfl (lv_at hl 1 rfl) ?_
                refine va_get (D := (dC, dI)) (C := RX5) (T := TX5) (N := 26) (v := .ref (h 13)) hx hb hts (fi_X5 _) hown hK hP 0 (mw_at0 _ _ _) rfl 15 (by decide) (hts _ (List.mem_cons_of_mem _ wd_299)) (fun _ h9 => h9) rfl dX5_put_100 ?_
                refine lv_iload_n hx hb dX5_put_103 rfl (lv_at hl 0 rfl) ?_
                refine va_iald (f := k_mlotOf v) hx hb hK hP 13 0 (mw_at13 _ _ _) rfl (vp_in_iff.mpr (by omega)) dX5_put_104 ?_
                refine vp_callSi (W.runV (As := [.int (k_mlotOf v x1.toNatClampNeg), .int (k_mlotOf v i.toNatClampNeg)]) (rest := []) ⟨hx, hb, hml, hown, hts⟩ (kX5_mayMix l dC dI g h v (k_mlotOf v x1.toNatClampNeg) (k_mlotOf v i.toNatClampNeg) (hI5v _) (hI5v _) hv) (cwV 2 hts (gV wd_316 wd_317 wd_318 wd_241 wcX5_mayMix) rfl rfl rfl (by decide +kernel) ⟨(Nat.le_of_ble_eq_true rfl), (Nat.le_of_ble_eq_true rfl)⟩) ⟨fun a U g mk q => by obtain ⟨q0, qP, qK⟩ := q; exact ⟨q0, qP, va_K.moved (u := U) (U := U.calling g mk a) (Vm.Alike.refl U.vm) qK⟩, va_recv hK hP (ci := 4) (q0 := 0) rfl (mw_at0 _ _ _), fun U hU hW => ⟨rfl, by rw [hU]; exact hP, va_K.moved hW.alike hK⟩⟩ rfl rfl hl.1 rfl (lv_room (Nat.le_of_ble_eq_true rfl)) dX5_put_105 ⟨(Nat.le_of_ble_eq_true rfl), (Nat.le_of_ble_eq_true rfl)⟩) (fun r_105 hw => ?_)
                subst hw
                refine lv_if_eq (tgt := 114) hx hb dX5_put_108 (by decide) (fun c_106 => ?_) (fun c_106 => ?_)
                · skip
                  have t_107 : (fX5_mayMix v (k_mlotOf v x1.toNatClampNeg) (k_mlotOf v i.toNatClampNeg)).toInt = 0 := i_eq c_106 rfl (by decide)
                  refine lv_aload_n hx hb dX5_put_114 rfl (lv_at hl 1 rfl) ?_
                  refine va_get (D := (dC, dI)) (C := RX5) (T := TX5) (N := 26) (v := .ref (h 21)) hx hb hts (fi_X5 _) hown hK hP 0 (mw_at0 _ _ _) rfl 24 (by decide) (hts _ (List.mem_cons_of_mem _ wd_303)) (fun _ h9 => h9) rfl dX5_put_115 ?_
                  refine lv_iconst (v := 0) hx hb dX5_put_118 (by decide) ?_
                  refine lv_aload_n hx hb dX5_put_119 rfl (lv_at hl 1 rfl) ?_
                  refine va_get (D := (dC, dI)) (C := RX5) (T := TX5) (N := 26) (v := .ref (h 13)) hx hb hts (fi_X5 _) hown hK hP 0 (mw_at0 _ _ _) rfl 15 (by decide) (hts _ (List.mem_cons_of_mem _ wd_299)) (fun _ h9 => h9) rfl dX5_put_120 ?_
                  refine lv_iload_n hx hb dX5_put_123 rfl (lv_at hl 2 rfl) ?_
                  refine va_iald (f := k_mlotOf v) hx hb hK hP 13 0 (mw_at13 _ _ _) rfl (vp_in_iff.mpr (by omega)) dX5_put_124 ?_
                  refine va_iast (f := k_mmixed v) hx hb hK hP hD hS 21 0 (mw_at21 _ _ _) rfl (vp_in_iff.mpr (by decide)) dX5_put_125 (fun H locs hP hD hS => ?_)
                  have hP : va_P (dC, dI) vwCl (mw g h (s_mmixed v (upd (k_mmixed v) (0 : Int32).toNatClampNeg (k_mlotOf v x1.toNatClampNeg)))) H := hP
                  have hD : va_D A (mw g h (s_mmixed v (upd (k_mmixed v) (0 : Int32).toNatClampNeg (k_mlotOf v x1.toNatClampNeg)))) := hD
                  refine lv_aload_n hx hb dX5_put_126 rfl (lv_at hl 1 rfl) ?_
                  refine va_get (D := (dC, dI)) (C := RX5) (T := TX5) (N := 26) (v := .ref (h 21)) hx hb hts (fi_X5 _) hown hK hP 0 (mw_at0 _ _ _) rfl 24 (by decide) (hts _ (List.mem_cons_of_mem _ wd_303)) (fun _ h9 => h9) rfl dX5_put_127 ?_
                  refine lv_iconst (v := 1) hx hb dX5_put_130 (by decide) ?_
                  refine lv_aload_n hx hb dX5_put_131 rfl (lv_at hl 1 rfl) ?_
                  refine va_get (D := (dC, dI)) (C := RX5) (T := TX5) (N := 26) (v := .ref (h 13)) hx hb hts (fi_X5 _) hown hK hP 0 (mw_at0 _ _ _) rfl 15 (by decide) (hts _ (List.mem_cons_of_mem _ wd_299)) (fun _ h9 => h9) rfl dX5_put_132 ?_
                  refine lv_iload_n hx hb dX5_put_135 rfl (lv_at hl 0 rfl) ?_
                  refine va_iald (f := k_mlotOf v) hx hb hK hP 13 0 (mw_at13 _ _ _) rfl (vp_in_iff.mpr (by omega)) dX5_put_136 ?_
                  refine va_iast (f := upd (k_mmixed v) (0 : Int32).toNatClampNeg (k_mlotOf v x1.toNatClampNeg)) hx hb hK hP hD hS 21 0 (mw_at21 _ _ _) rfl (vp_in_iff.mpr (by decide)) dX5_put_137 (fun H locs hP hD hS => ?_)
                  have hP : va_P (dC, dI) vwCl (mw g h (s_mmixed v (upd (upd (k_mmixed v) (0 : Int32).toNatClampNeg (k_mlotOf v x1.toNatClampNeg)) (1 : Int32).toNatClampNeg (k_mlotOf v i.toNatClampNeg)))) H := hP
                  have hD : va_D A (mw g h (s_mmixed v (upd (upd (k_mmixed v) (0 : Int32).toNatClampNeg (k_mlotOf v x1.toNatClampNeg)) (1 : Int32).toNatClampNeg (k_mlotOf v i.toNatClampNeg)))) := hD
                  refine lv_aload_n hx hb dX5_put_138 rfl (lv_at hl 1 rfl) ?_
                  refine lv_iconst (v := 3) hx hb dX5_put_139 (by decide) ?_
                  refine va_put (D := (dC, dI)) (C := RX5) (T := TX5) (N := 26) (v := .int 3) (ty := .int) hx hb hts (fi_X5 _) tyX5 tyX5_ok nmX5 hown hK hP hD hS 0 (mw_at0 _ _ _) rfl 0 (by decide) (hts _ (List.mem_cons_of_mem _ wd_237)) (fun _ h9 => h9) rfl (by decide +kernel) rfl rfl (Nat.le_of_ble_eq_true rfl) dX5_put_140 (fun H locs hP hD hS => ?_)
                  have hP : va_P (dC, dI) vwCl (mw g h (s_mcode (s_mmixed v (upd (upd (k_mmixed v) (0 : Int32).toNatClampNeg (k_mlotOf v x1.toNatClampNeg)) (1 : Int32).toNatClampNeg (k_mlotOf v i.toNatClampNeg))) 3)) H := hP
                  have hD : va_D A (mw g h (s_mcode (s_mmixed v (upd (upd (k_mmixed v) (0 : Int32).toNatClampNeg (k_mlotOf v x1.toNatClampNeg)) (1 : Int32).toNatClampNeg (k_mlotOf v i.toNatClampNeg))) 3)) := hD
                  refine lv_iinc (v := i + 1) (lv' := [(3, .int (i + 1)), (0, .ref (h 0)), (1, .int x1), (2, .int x2)]) hx hb dX5_put_143 hl (k := 0) rfl rfl (by decide) rfl (fun ls hl => ?_)
                  refine lv_goto (tgt := 67) hx hb dX5_put_146 (by decide) ?_
                  have hb1 := i_inc (x := i) (by omega)
                  exact ih_88 _ _ _ ⟨(i + 1), (s_mcode (s_mmixed v (upd (upd (k_mmixed v) (0 : Int32).toNatClampNeg (k_mlotOf v x1.toNatClampNeg)) (1 : Int32).toNatClampNeg (k_mlotOf v i.toNatClampNeg))) 3), (by have e9 : k_munits (s_mcode (s_mmixed v (upd (upd (k_mmixed v) (0 : Int32).toNatClampNeg (k_mlotOf v x1.toNatClampNeg)) (1 : Int32).toNatClampNeg (k_mlotOf v i.toNatClampNeg))) 3) = k_munits v := rfl; rw [e9]; omega), (by have e9 : k_munits (s_mcode (s_mmixed v (upd (upd (k_mmixed v) (0 : Int32).toNatClampNeg (k_mlotOf v x1.toNatClampNeg)) (1 : Int32).toNatClampNeg (k_mlotOf v i.toNatClampNeg))) 3) = k_munits v := rfl; rw [e9]; omega), (fun h9 => absurd (show (3 : Int32) = 0 from h9) (by decide)), hv, (by rw [he_89, lpX5_put_eq, if_neg c_90, if_pos c_97, if_pos c_102, if_pos c_106]), hP, hD, hS, lv_sub hl [0, 1, 2, 3] rfl⟩
                · skip
                  have t_108 : (fX5_mayMix v (k_mlotOf v x1.toNatClampNeg) (k_mlotOf v i.toNatClampNeg)).toInt ≠ 0 := i_ne c_106 rfl (by decide)
                  refine lv_goto (tgt := 143) hx hb dX5_put_111 (by decide) ?_
                  refine lv_iinc (v := i + 1) (lv' := [(3, .int (i + 1)), (0, .ref (h 0)), (1, .int x1), (2, .int x2)]) hx hb dX5_put_143 hl (k := 0) rfl rfl (by decide) rfl (fun ls hl => ?_)
                  refine lv_goto (tgt := 67) hx hb dX5_put_146 (by decide) ?_
                  have hb1 := i_inc (x := i) (by omega)
                  exact ih_88 _ _ _ ⟨(i + 1), v, (by have e9 : k_munits v = k_munits v := rfl; rw [e9]; omega), (by have e9 : k_munits v = k_munits v := rfl; rw [e9]; omega), hx, hv, (by rw [he_89, lpX5_put_eq, if_neg c_90, if_pos c_97, if_pos c_102, if_neg c_106]), hP, hD, hS, lv_sub hl [0, 1, 2, 3] rfl⟩
      · skip
        exact absurd c_86 (by decide)
  · skip
    have t_109 : (fX5_isUnit u x1).toInt = 0 := i_eq c_2 rfl (by decide)
    refine lv_iconst (v := 1) hx hb dX5_put_9 (by decide) ?_
    refine lv_goto (tgt := 28) hx hb dX5_put_10 (by decide) ?_
    refine va_put (D := (dC, dI)) (C := RX5) (T := TX5) (N := 26) (v := .int 1) (ty := .int) hx hb hts (fi_X5 _) tyX5 tyX5_ok nmX5 hown hK hP hD hS 0 (mw_at0 _ _ _) rfl 0 (by decide) (hts _ (List.mem_cons_of_mem _ wd_237)) (fun _ h9 => h9) rfl (by decide +kernel) rfl rfl (Nat.le_of_ble_eq_true rfl) dX5_put_28 (fun H locs hP hD hS => ?_)
    have hP : va_P (dC, dI) vwCl (mw g h (s_mcode u 1)) H := hP
    have hD : va_D A (mw g h (s_mcode u 1)) := hD
    refine lv_aload_n hx hb dX5_put_31 rfl (lv_at hl 0 rfl) ?_
    refine va_get (D := (dC, dI)) (C := RX5) (T := TX5) (N := 26) (v := .int 1) hx hb hts (fi_X5 _) hown hK hP 0 (mw_at0 _ _ _) rfl 0 (by decide) (hts _ (List.mem_cons_of_mem _ wd_237)) (fun _ h9 => h9) rfl dX5_put_32 ?_
    refine lv_if_ne (tgt := 65) hx hb dX5_put_35 (by decide) (fun c_110 => ?_) (fun c_110 => ?_)
    · skip
      refine lv_iconst (v := 1) hx hb dX5_put_65 (by decide) ?_
      refine lv_istore_n (lv' := [(3, .int 1), (0, .ref (h 0)), (1, .int x1), (2, .int x2)]) hx hb dX5_put_66 rfl hl (by decide) rfl (fun ls hl => ?_)
      refine lp_indH (fun H locs => W p l e _ s m _ below meth c H locs _ _ _) (fun n H locs ls => ∃ (i : Int32) (v : mS), ((k_munits v).toInt - i.toInt + 1 < (n : Int)) ∧ (1 ≤ i.toInt ∧ i.toInt ≤ 121 ∧ i.toInt ≤ (k_munits v).toInt + 1) ∧ (k_mcode v = 0 → 1 ≤ x1.toInt ∧ x1.toInt ≤ 120) ∧ (mInv v) ∧ fX5_put u x1 x2 = lpX5_put x1 x2 n i v ∧ va_P (dC, dI) vwCl (mw g h v) H ∧ va_D A (mw g h v) ∧ va_S A s.heap H locs ∧ lv_has ls 4 [(3, .int i), (0, .ref (h 0)), (1, .int x1), (2, .int x2)]) m 67 (fun H locs ls hI0 => ?_) (fun n H locs ls hI0 ih => ?_) 121 _ _ _ ⟨1, (s_mcode u 1), (by have e9 : k_munits (s_mcode u 1) = k_munits u := rfl; rw [e9]; omega), (by have e9 : k_munits (s_mcode u 1) = k_munits u := rfl; rw [e9]; omega), (fun h9 => absurd (show (1 : Int32) = 0 from h9) (by decide)), hI, (by unfold fX5_put; rw [if_pos c_2]), hP, hD, hS, lv_sub hl [0, 1, 2, 3] rfl⟩
      · skip
        obtain ⟨i, v, hn, hi, hx, hv, he, hP, hD, hS, hl⟩ := hI0
        exact absurd hn (by omega)
      · skip
        obtain ⟨i, v, hn, hi, hx, hv, he, hP, hD, hS, hl⟩ := hI0
        have he_113 := he
        have ih_112 := ih
        obtain ⟨hI1v, hI2v, hI3v, hI4v, hI5v, hI6v, hI7v⟩ := id hv
        refine lv_iload_n hx hb dX5_put_67 rfl (lv_at hl 0 rfl) ?_
        refine lv_aload_n hx hb dX5_put_68 rfl (lv_at hl 1 rfl) ?_
        refine va_get (D := (dC, dI)) (C := RX5) (T := TX5) (N := 26) (v := .int (k_munits v)) hx hb hts (fi_X5 _) hown hK hP 0 (mw_at0 _ _ _) rfl 14 (by decide) (hts _ (List.mem_cons_of_mem _ wd_243)) (fun _ h9 => h9) rfl dX5_put_69 ?_
        refine lv_icmp_gt (tgt := 149) hx hb dX5_put_72 (by decide) (fun c_114 => ?_) (fun c_114 => ?_)
        · skip
          have t_115 : (k_munits v).toInt < i.toInt := i_lt c_114 rfl rfl
          refine lv_aload_n hx hb dX5_put_149 rfl (lv_at hl 1 rfl) ?_
          refine va_get (D := (dC, dI)) (C := RX5) (T := TX5) (N := 26) (v := .int (k_mcode v)) hx hb hts (fi_X5 _) hown hK hP 0 (mw_at0 _ _ _) rfl 0 (by decide) (hts _ (List.mem_cons_of_mem _ wd_237)) (fun _ h9 => h9) rfl dX5_put_150 ?_
          refine lv_if_ne (tgt := 163) hx hb dX5_put_153 (by decide) (fun c_116 => ?_) (fun c_116 => ?_)
          · skip
            have t_117 : (k_mcode v).toInt ≠ 0 := i_ne c_116 rfl (by decide)
            exact W.vret hx hb hr (fun t ht hW => ⟨⟨v, rfl, (by rw [he_113, lpX5_put_eq, if_pos c_114, if_neg c_116]), by rw [ht]; exact hP, hD⟩, hS.F ht⟩) hS.2.2 dX5_put_163
          · skip
            have t_118 : (k_mcode v).toInt = 0 := i_eq c_116 rfl (by decide)
            have t_119 := hx c_116
            refine lv_aload_n hx hb dX5_put_156 rfl (lv_at hl 1 rfl) ?_
            refine va_get (D := (dC, dI)) (C := RX5) (T := TX5) (N := 26) (v := .ref (h 14)) hx hb hts (fi_X5 _) hown hK hP 0 (mw_at0 _ _ _) rfl 16 (by decide) (hts _ (List.mem_cons_of_mem _ wd_300)) (fun _ h9 => h9) rfl dX5_put_157 ?_
            refine lv_iload_n hx hb dX5_put_160 rfl (lv_at hl 2 rfl) ?_
            refine lv_iload_n hx hb dX5_put_161 rfl (lv_at hl 3 rfl) ?_
            refine va_iast (f := k_mbin v) hx hb hK hP hD hS 14 0 (mw_at14 _ _ _) rfl (vp_in_iff.mpr (by omega)) dX5_put_162 (fun H locs hP hD hS => ?_)
            have hP : va_P (dC, dI) vwCl (mw g h (s_mbin v (upd (k_mbin v) x1.toNatClampNeg x2))) H := hP
            have hD : va_D A (mw g h (s_mbin v (upd (k_mbin v) x1.toNatClampNeg x2))) := hD
            exact W.vret hx hb hr (fun t ht hW => ⟨⟨(s_mbin v (upd (k_mbin v) x1.toNatClampNeg x2)), rfl, (by rw [he_113, lpX5_put_eq, if_pos c_114, if_pos c_116]), by rw [ht]; exact hP, hD⟩, hS.F ht⟩) hS.2.2 dX5_put_163
        · skip
          have t_120 : i.toInt ≤ (k_munits v).toInt := i_nlt c_114 rfl rfl
          refine lv_aload_n hx hb dX5_put_75 rfl (lv_at hl 1 rfl) ?_
          refine va_get (D := (dC, dI)) (C := RX5) (T := TX5) (N := 26) (v := .int (k_mcode v)) hx hb hts (fi_X5 _) hown hK hP 0 (mw_at0 _ _ _) rfl 0 (by decide) (hts _ (List.mem_cons_of_mem _ wd_237)) (fun _ h9 => h9) rfl dX5_put_76 ?_
          refine lv_if_ne (tgt := 149) hx hb dX5_put_79 (by decide) (fun c_121 => ?_) (fun c_121 => ?_)
          · skip
            have t_122 : (k_mcode v).toInt ≠ 0 := i_ne c_121 rfl (by decide)
            refine lv_aload_n hx hb dX5_put_149 rfl (lv_at hl 1 rfl) ?_
            refine va_get (D := (dC, dI)) (C := RX5) (T := TX5) (N := 26) (v := .int (k_mcode v)) hx hb hts (fi_X5 _) hown hK hP 0 (mw_at0 _ _ _) rfl 0 (by decide) (hts _ (List.mem_cons_of_mem _ wd_237)) (fun _ h9 => h9) rfl dX5_put_150 ?_
            refine lv_if_ne (tgt := 163) hx hb dX5_put_153 (by decide) (fun c_123 => ?_) (fun c_123 => ?_)
            · skip
              exact W.vret hx hb hr (fun t ht hW => ⟨⟨v, rfl, (by rw [he_113, lpX5_put_eq, if_neg c_114, if_neg c_121]), by rw [ht]; exact hP, hD⟩, hS.F ht⟩) hS.2.2 dX5_put_163
            · skip
              exact absurd c_123 c_121
          · skip
            have t_124 : (k_mcode v).toInt = 0 := i_eq c_121 rfl (by decide)
            have t_125 := hx c_121
            refine lv_aload_n hx hb dX5_put_82 rfl (lv_at hl 1 rfl) ?_
            refine va_get (D := (dC, dI)) (C := RX5) (T := TX5) (N := 26) (v := .ref (h 14)) hx hb hts (fi_X5 _) hown hK hP 0 (mw_at0 _ _ _) rfl 16 (by decide) (hts _ (List.mem_cons_of_mem _ wd_300)) (fun _ h9 => h9) rfl dX5_put_83 ?_
            refine lv_iload_n hx hb dX5_put_86 rfl (lv_at hl 0 rfl) ?_
            refine va_iald (f := k_mbin v) hx hb hK hP 14 0 (mw_at14 _ _ _) rfl (vp_in_iff.mpr (by omega)) dX5_put_87 ?_
            refine lv_iload_n hx hb dX5_put_88 rfl (lv_at hl 3 rfl) ?_
            refine lv_icmp_ne (tgt := 143) hx hb dX5_put_89 (by decide) (fun c_126 => ?_) (fun c_126 => ?_)
            · skip
              have t_127 : (k_mbin v i.toNatClampNeg).toInt ≠ x2.toInt := i_ne c_126 rfl rfl
              refine lv_iinc (v := i + 1) (lv' := [(3, .int (i + 1)), (0, .ref (h 0)), (1, .int x1), (2, .int x2)]) hx hb dX5_put_143 hl (k := 0) rfl rfl (by decide) rfl (fun ls hl => ?_)
              refine lv_goto (tgt := 67) hx hb dX5_put_146 (by decide) ?_
              have hb1 := i_inc (x := i) (by omega)
              exact ih_112 _ _ _ ⟨(i + 1), v, (by have e9 : k_munits v = k_munits v := rfl; rw [e9]; omega), (by have e9 : k_munits v = k_munits v := rfl; rw [e9]; omega), hx, hv, (by rw [he_113, lpX5_put_eq, if_neg c_114, if_pos c_121, if_neg c_126]), hP, hD, hS, lv_sub hl [0, 1, 2, 3] rfl⟩
            · skip
              have t_128 : (k_mbin v i.toNatClampNeg).toInt = x2.toInt := i_eq c_126 rfl rfl
              refine lv_aload_n hx hb dX5_put_92 rfl (lv_at hl 1 rfl) ?_
              refine lv_aload_n hx hb dX5_put_93 rfl (lv_at hl 1 rfl) ?_
              refine va_get (D := (dC, dI)) (C := RX5) (T := TX5) (N := 26) (v := .ref (h 13)) hx hb hts (fi_X5 _) hown hK hP 0 (mw_at0 _ _ _) rfl 15 (by decide) (hts _ (List.mem_cons_of_mem _ wd_299)) (fun _ h9 => h9) rfl dX5_put_94 ?_
              refine lv_iload_n hx hb dX5_put_97 rfl (lv_at hl 2 rfl) ?_
              refine va_iald (f := k_mlotOf v) hx hb hK hP 13 0 (mw_at13 _ _ _) rfl (vp_in_iff.mpr (by omega)) dX5_put_98 ?_
              refine lv_aload_n hx hb dX5_put_99 rfl (lv_at hl 1 rfl) ?_
              refine va_get (D := (dC, dI)) (C := RX5) (T := TX5) (N := 26) (v := .ref (h 13)) hx hb hts (fi_X5 _) hown hK hP 0 (mw_at0 _ _ _) rfl 15 (by decide) (hts _ (List.mem_cons_of_mem _ wd_299)) (fun _ h9 => h9) rfl dX5_put_100 ?_
              refine lv_iload_n hx hb dX5_put_103 rfl (lv_at hl 0 rfl) ?_
              refine va_iald (f := k_mlotOf v) hx hb hK hP 13 0 (mw_at13 _ _ _) rfl (vp_in_iff.mpr (by omega)) dX5_put_104 ?_
              refine vp_callSi (W.runV (As := [.int (k_mlotOf v x1.toNatClampNeg), .int (k_mlotOf v i.toNatClampNeg)]) (rest := []) ⟨hx, hb, hml, hown, hts⟩ (kX5_mayMix l dC dI g h v (k_mlotOf v x1.toNatClampNeg) (k_mlotOf v i.toNatClampNeg) (hI5v _) (hI5v _) hv) (cwV 2 hts (gV wd_316 wd_317 wd_318 wd_241 wcX5_mayMix) rfl rfl rfl (by decide +kernel) ⟨(Nat.le_of_ble_eq_true rfl), (Nat.le_of_ble_eq_true rfl)⟩) ⟨fun a U g mk q => by obtain ⟨q0, qP, qK⟩ := q; exact ⟨q0, qP, va_K.moved (u := U) (U := U.calling g mk a) (Vm.Alike.refl U.vm) qK⟩, va_recv hK hP (ci := 4) (q0 := 0) rfl (mw_at0 _ _ _), fun U hU hW => ⟨rfl, by rw [hU]; exact hP, va_K.moved hW.alike hK⟩⟩ rfl rfl hl.1 rfl (lv_room (Nat.le_of_ble_eq_true rfl)) dX5_put_105 ⟨(Nat.le_of_ble_eq_true rfl), (Nat.le_of_ble_eq_true rfl)⟩) (fun r_129 hw => ?_)
              subst hw
              refine lv_if_eq (tgt := 114) hx hb dX5_put_108 (by decide) (fun c_130 => ?_) (fun c_130 => ?_)
              · skip
                have t_131 : (fX5_mayMix v (k_mlotOf v x1.toNatClampNeg) (k_mlotOf v i.toNatClampNeg)).toInt = 0 := i_eq c_130 rfl (by decide)
                refine lv_aload_n hx hb dX5_put_114 rfl (lv_at hl 1 rfl) ?_
                refine va_get (D := (dC, dI)) (C := RX5) (T := TX5) (N := 26) (v := .ref (h 21)) hx hb hts (fi_X5 _) hown hK hP 0 (mw_at0 _ _ _) rfl 24 (by decide) (hts _ (List.mem_cons_of_mem _ wd_303)) (fun _ h9 => h9) rfl dX5_put_115 ?_
                refine lv_iconst (v := 0) hx hb dX5_put_118 (by decide) ?_
                refine lv_aload_n hx hb dX5_put_119 rfl (lv_at hl 1 rfl) ?_
                refine va_get (D := (dC, dI)) (C := RX5) (T := TX5) (N := 26) (v := .ref (h 13)) hx hb hts (fi_X5 _) hown hK hP 0 (mw_at0 _ _ _) rfl 15 (by decide) (hts _ (List.mem_cons_of_mem _ wd_299)) (fun _ h9 => h9) rfl dX5_put_120 ?_
                refine lv_iload_n hx hb dX5_put_123 rfl (lv_at hl 2 rfl) ?_
                refine va_iald (f := k_mlotOf v) hx hb hK hP 13 0 (mw_at13 _ _ _) rfl (vp_in_iff.mpr (by omega)) dX5_put_124 ?_
                refine va_iast (f := k_mmixed v) hx hb hK hP hD hS 21 0 (mw_at21 _ _ _) rfl (vp_in_iff.mpr (by decide)) dX5_put_125 (fun H locs hP hD hS => ?_)
                have hP : va_P (dC, dI) vwCl (mw g h (s_mmixed v (upd (k_mmixed v) (0 : Int32).toNatClampNeg (k_mlotOf v x1.toNatClampNeg)))) H := hP
                have hD : va_D A (mw g h (s_mmixed v (upd (k_mmixed v) (0 : Int32).toNatClampNeg (k_mlotOf v x1.toNatClampNeg)))) := hD
                refine lv_aload_n hx hb dX5_put_126 rfl (lv_at hl 1 rfl) ?_
                refine va_get (D := (dC, dI)) (C := RX5) (T := TX5) (N := 26) (v := .ref (h 21)) hx hb hts (fi_X5 _) hown hK hP 0 (mw_at0 _ _ _) rfl 24 (by decide) (hts _ (List.mem_cons_of_mem _ wd_303)) (fun _ h9 => h9) rfl dX5_put_127 ?_
                refine lv_iconst (v := 1) hx hb dX5_put_130 (by decide) ?_
                refine lv_aload_n hx hb dX5_put_131 rfl (lv_at hl 1 rfl) ?_
                refine va_get (D := (dC, dI)) (C := RX5) (T := TX5) (N := 26) (v := .ref (h 13)) hx hb hts (fi_X5 _) hown hK hP 0 (mw_at0 _ _ _) rfl 15 (by decide) (hts _ (List.mem_cons_of_mem _ wd_299)) (fun _ h9 => h9) rfl dX5_put_132 ?_
                refine lv_iload_n hx hb dX5_put_135 rfl (lv_at hl 0 rfl) ?_
                refine va_iald (f := k_mlotOf v) hx hb hK hP 13 0 (mw_at13 _ _ _) rfl (vp_in_iff.mpr (by omega)) dX5_put_136 ?_
                refine va_iast (f := upd (k_mmixed v) (0 : Int32).toNatClampNeg (k_mlotOf v x1.toNatClampNeg)) hx hb hK hP hD hS 21 0 (mw_at21 _ _ _) rfl (vp_in_iff.mpr (by decide)) dX5_put_137 (fun H locs hP hD hS => ?_)
                have hP : va_P (dC, dI) vwCl (mw g h (s_mmixed v (upd (upd (k_mmixed v) (0 : Int32).toNatClampNeg (k_mlotOf v x1.toNatClampNeg)) (1 : Int32).toNatClampNeg (k_mlotOf v i.toNatClampNeg)))) H := hP
                have hD : va_D A (mw g h (s_mmixed v (upd (upd (k_mmixed v) (0 : Int32).toNatClampNeg (k_mlotOf v x1.toNatClampNeg)) (1 : Int32).toNatClampNeg (k_mlotOf v i.toNatClampNeg)))) := hD
                refine lv_aload_n hx hb dX5_put_138 rfl (lv_at hl 1 rfl) ?_
                refine lv_iconst (v := 3) hx hb dX5_put_139 (by decide) ?_
                refine va_put (D := (dC, dI)) (C := RX5) (T := TX5) (N := 26) (v := .int 3) (ty := .int) hx hb hts (fi_X5 _) tyX5 tyX5_ok nmX5 hown hK hP hD hS 0 (mw_at0 _ _ _) rfl 0 (by decide) (hts _ (List.mem_cons_of_mem _ wd_237)) (fun _ h9 => h9) rfl (by decide +kernel) rfl rfl (Nat.le_of_ble_eq_true rfl) dX5_put_140 (fun H locs hP hD hS => ?_)
                have hP : va_P (dC, dI) vwCl (mw g h (s_mcode (s_mmixed v (upd (upd (k_mmixed v) (0 : Int32).toNatClampNeg (k_mlotOf v x1.toNatClampNeg)) (1 : Int32).toNatClampNeg (k_mlotOf v i.toNatClampNeg))) 3)) H := hP
                have hD : va_D A (mw g h (s_mcode (s_mmixed v (upd (upd (k_mmixed v) (0 : Int32).toNatClampNeg (k_mlotOf v x1.toNatClampNeg)) (1 : Int32).toNatClampNeg (k_mlotOf v i.toNatClampNeg))) 3)) := hD
                refine lv_iinc (v := i + 1) (lv' := [(3, .int (i + 1)), (0, .ref (h 0)), (1, .int x1), (2, .int x2)]) hx hb dX5_put_143 hl (k := 0) rfl rfl (by decide) rfl (fun ls hl => ?_)
                refine lv_goto (tgt := 67) hx hb dX5_put_146 (by decide) ?_
                have hb1 := i_inc (x := i) (by omega)
                exact ih_112 _ _ _ ⟨(i + 1), (s_mcode (s_mmixed v (upd (upd (k_mmixed v) (0 : Int32).toNatClampNeg (k_mlotOf v x1.toNatClampNeg)) (1 : Int32).toNatClampNeg (k_mlotOf v i.toNatClampNeg))) 3), (by have e9 : k_munits (s_mcode (s_mmixed v (upd (upd (k_mmixed v) (0 : Int32).toNatClampNeg (k_mlotOf v x1.toNatClampNeg)) (1 : Int32).toNatClampNeg (k_mlotOf v i.toNatClampNeg))) 3) = k_munits v := rfl; rw [e9]; omega), (by have e9 : k_munits (s_mcode (s_mmixed v (upd (upd (k_mmixed v) (0 : Int32).toNatClampNeg (k_mlotOf v x1.toNatClampNeg)) (1 : Int32).toNatClampNeg (k_mlotOf v i.toNatClampNeg))) 3) = k_munits v := rfl; rw [e9]; omega), (fun h9 => absurd (show (3 : Int32) = 0 from h9) (by decide)), hv, (by rw [he_113, lpX5_put_eq, if_neg c_114, if_pos c_121, if_pos c_126, if_pos c_130]), hP, hD, hS, lv_sub hl [0, 1, 2, 3] rfl⟩
              · skip
                have t_132 : (fX5_mayMix v (k_mlotOf v x1.toNatClampNeg) (k_mlotOf v i.toNatClampNeg)).toInt ≠ 0 := i_ne c_130 rfl (by decide)
                refine lv_goto (tgt := 143) hx hb dX5_put_111 (by decide) ?_
                refine lv_iinc (v := i + 1) (lv' := [(3, .int (i + 1)), (0, .ref (h 0)), (1, .int x1), (2, .int x2)]) hx hb dX5_put_143 hl (k := 0) rfl rfl (by decide) rfl (fun ls hl => ?_)
                refine lv_goto (tgt := 67) hx hb dX5_put_146 (by decide) ?_
                have hb1 := i_inc (x := i) (by omega)
                exact ih_112 _ _ _ ⟨(i + 1), v, (by have e9 : k_munits v = k_munits v := rfl; rw [e9]; omega), (by have e9 : k_munits v = k_munits v := rfl; rw [e9]; omega), hx, hv, (by rw [he_113, lpX5_put_eq, if_neg c_114, if_pos c_121, if_pos c_126, if_neg c_130]), hP, hD, hS, lv_sub hl [0, 1, 2, 3] rfl⟩
    · skip
      exact absurd c_110 (by decide)
set_option maxHeartbeats 4000000 in
set_option maxRecDepth 100000 in
theorem kX5_recall (l : Launch) (dC : Nat → ClassId) (dI : Nat → Nat → Nat) (g : cG) (h : Nat → Nat) (u : mS) (sz : Nat) (x1 : Int32) (x2 : Int32) (hI : mInv u) : Met l yX5_recall wsX5_recall ({ frames := 2, cells := 0, slots := 0, locals := 43 }) (va_Pc [.ref (h 0), .int x1, .int x2] (fun U => U.heap.size = sz ∧ va_P (dC, dI) vwCl (mw g h u) U.heap ∧ va_K (dC, dI) vwCl (cTys g) U ∧ va_D (fun _ => True) (mw g h u))) (va_Qi (fun (r : Int32) u2 => (r, u2) = fX5_recall u x1 x2) (fun (u2 : mS) (t : State) => va_P (dC, dI) vwCl (mw g h u2) t.heap ∧ va_D (va_A (mw g h u) sz) (mw g h u2)) (va_A (mw g h u) sz)) 0 0 (va_A (mw g h u) sz) := by
  refine Met.ofW (cc := cX5_recall) (maxL := 7) (ret := (some .int)) (by decide) rfl ?_
  intro p e s m args below meth c s₁ B hml hv
  obtain ⟨rfl, hsz, hP, hK, hD0⟩ := hv
  have hx := B.exec
  have hb := B.bytes
  have hr := B.returns
  have hts := atoms_spec (ws := wsX5_recall) B.pre
  have hown : s.vm.findClass RX5 = some m.cls := findClass_of_methodNamed B.named
  have hlocks := B.notSynchronized
  subst hsz
  have hD := hD0.self (sz := s.heap.size)
  generalize hAe : va_A (mw g h u) s.heap.size = A at hD ⊢
  have hA : ∀ q : Nat, s.heap.size ≤ q → A q := fun q h => by rw [← hAe]; exact Or.inr h
  have hS : va_S A s.heap s.heap [] := va_S.rf
  have hl := lv_entry ([.ref (h 0), .int x1, .int x2]) (n := 7) (Nat.le_of_ble_eq_true rfl)
  rw [lg_entry_eq]
  generalize (lg_sl ([.ref (h 0), .int x1, .int x2]) ++ List.replicate (7 - (lg_sl ([.ref (h 0), .int x1, .int x2])).length) Slot.unset).toArray = ls at hl ⊢
  have hl : lv_has ls 7 [(0, .ref (h 0)), (1, .int x1), (2, .int x2)] := hl
  obtain ⟨hI1, hI2, hI3, hI4, hI5, hI6, hI7⟩ := id hI
  have z_0 : (0 : Int32).toInt = 0 := by decide
  have z_1 : (1 : Int32).toInt = 1 := by decide
  refine lv_aload_n hx hb dX5_recall_0 rfl (lv_at hl 0 rfl) ?_
  refine lv_aload_n hx hb dX5_recall_1 rfl (lv_at hl 0 rfl) ?_
  refine lv_iload_n hx hb dX5_recall_2 rfl (lv_at hl 1 rfl) ?_
  refine vp_callSi (W.runV (As := [.int x1]) (rest := [.ref (h 0)]) ⟨hx, hb, hml, hown, hts⟩ (kX5_isLot l dC dI g h u x1) (cwV 1 hts (gV wd_288 wd_289 wd_290 wd_241 wcX5_isLot) rfl rfl rfl (by decide +kernel) ⟨(Nat.le_of_ble_eq_true rfl), (Nat.le_of_ble_eq_true rfl)⟩) ⟨fun a U g mk q => by obtain ⟨q0, qP, qK⟩ := q; exact ⟨q0, qP, va_K.moved (u := U) (U := U.calling g mk a) (Vm.Alike.refl U.vm) qK⟩, va_recv hK hP (ci := 4) (q0 := 0) rfl (mw_at0 _ _ _), fun U hU hW => ⟨rfl, by rw [hU]; exact hP, va_K.moved hW.alike hK⟩⟩ rfl rfl hl.1 rfl (lv_room (Nat.le_of_ble_eq_true rfl)) dX5_recall_3 ⟨(Nat.le_of_ble_eq_true rfl), (Nat.le_of_ble_eq_true rfl)⟩) (fun r_1 hw => ?_)
  subst hw
  refine lv_if_ne (tgt := 13) hx hb dX5_recall_6 (by decide) (fun c_2 => ?_) (fun c_2 => ?_)
  · skip
    have t_3 : (fX5_isLot u x1).toInt ≠ 0 := i_ne c_2 rfl (by decide)
    have t_4 := il_lo c_2
    have t_5 := il_hi c_2
    refine lv_iload_n hx hb dX5_recall_13 rfl (lv_at hl 2 rfl) ?_
    refine lv_if_ge (tgt := 21) hx hb dX5_recall_14 (by decide) (fun c_6 => ?_) (fun c_6 => ?_)
    · skip
      have t_7 : 0 ≤ x2.toInt := i_le c_6 (by decide) rfl
      refine lv_iconst (v := 0) hx hb dX5_recall_21 (by decide) ?_
      refine va_put (D := (dC, dI)) (C := RX5) (T := TX5) (N := 26) (v := .int 0) (ty := .int) hx hb hts (fi_X5 _) tyX5 tyX5_ok nmX5 hown hK hP hD hS 0 (mw_at0 _ _ _) rfl 0 (by decide) (hts _ (List.mem_cons_of_mem _ wd_237)) (fun _ h9 => h9) rfl (by decide +kernel) rfl rfl (Nat.le_of_ble_eq_true rfl) dX5_recall_22 (fun H locs hP hD hS => ?_)
      have hP : va_P (dC, dI) vwCl (mw g h (s_mcode u 0)) H := hP
      have hD : va_D A (mw g h (s_mcode u 0)) := hD
      refine lv_aload_n hx hb dX5_recall_25 rfl (lv_at hl 0 rfl) ?_
      refine va_get (D := (dC, dI)) (C := RX5) (T := TX5) (N := 26) (v := .int 0) hx hb hts (fi_X5 _) hown hK hP 0 (mw_at0 _ _ _) rfl 0 (by decide) (hts _ (List.mem_cons_of_mem _ wd_237)) (fun _ h9 => h9) rfl dX5_recall_26 ?_
      refine lv_if_le (tgt := 34) hx hb dX5_recall_29 (by decide) (fun c_8 => ?_) (fun c_8 => ?_)
      · skip
        refine lv_aload_n hx hb dX5_recall_34 rfl (lv_at hl 0 rfl) ?_
        refine lv_iload_n hx hb dX5_recall_35 rfl (lv_at hl 1 rfl) ?_
        have hFc := va_free (wc := mw g h (s_mcode u 0)) hD hS hA [0, 1, 2, 3, 4, 5, 6, 7, 8, 9, 10, 11, 12, 13, 14, 15, 16, 17, 18, 19, 20, 21, 22] rfl
        refine va_callv (va_runV (As := [.int x1]) (rest := []) ⟨hx, hb, hml, hown, hts⟩ (kX5_findFamily l dC dI g h (s_mcode u 0) _ x1 hI) (cwV 1 hts (gV wd_320 wd_321 wd_322 wd_241 wcX5_findFamily) rfl rfl rfl (by decide +kernel) ⟨(Nat.le_of_ble_eq_true rfl), (Nat.le_of_ble_eq_true rfl)⟩) ⟨fun a U g mk q => by obtain ⟨q0, q1, qP, qK, qD⟩ := q; exact ⟨q0, q1, qP, va_K.moved (u := U) (U := U.calling g mk a) (Vm.Alike.refl U.vm) qK, qD⟩, va_recv hK hP (ci := 4) (q0 := 0) rfl (mw_at0 _ _ _), fun U hU hW => ⟨rfl, by rw [hU], by rw [hU]; exact hP, va_K.moved hW.alike hK, hD.weaken (fun _ _ _ _ => trivial)⟩⟩ rfl rfl hl.1 rfl (lv_room (Nat.le_of_ble_eq_true rfl)) dX5_recall_36 ⟨(Nat.le_of_ble_eq_true rfl), (Nat.le_of_ble_eq_true rfl)⟩) hS (fun q _ h => hFc q h) hFc (fun w1 t H locs ht hvm hw hB hz1 hk1 hS => ?_)
        obtain ⟨hP, hD⟩ := hB
        rw [ht] at hP
        have hD := hD.weaken (fun _ _ _ h => hFc _ h)
        have e_10 : w1 = fX5_findFamily (s_mcode u 0) x1 := hw
        clear hw
        have hJ : mInv w1 := by rw [e_10]; exact ff_inv hI _
        obtain ⟨hI1w1, hI2w1, hI3w1, hI4w1, hI5w1, hI6w1, hI7w1⟩ := id hJ
        refine lv_iload_n hx hb dX5_recall_39 rfl (lv_at hl 2 rfl) ?_
        refine lv_istore_n (lv' := [(3, .int x2), (0, .ref (h 0)), (1, .int x1), (2, .int x2)]) hx hb dX5_recall_40 rfl hl (by decide) rfl (fun ls hl => ?_)
        refine lv_iconst (v := 1) hx hb dX5_recall_41 (by decide) ?_
        refine lv_istore (lv' := [(4, .int 1), (3, .int x2), (0, .ref (h 0)), (1, .int x1), (2, .int x2)]) hx hb dX5_recall_42 hl (by decide) rfl (fun ls hl => ?_)
        refine lp_ind (W p l e _ s m _ below meth c _ _ _ _ _) (fun n ls => ∃ (i : Int32) (a : Int32), ((k_munits w1).toInt - i.toInt + 1 < (n : Int)) ∧ (1 ≤ i.toInt ∧ i.toInt ≤ 121 ∧ i.toInt ≤ (k_munits w1).toInt + 1) ∧ fX5_recall u x1 x2 = loX5_recall w1 n i a ∧ lv_has ls 7 [(4, .int i), (3, .int a), (0, .ref (h 0)), (1, .int x1), (2, .int x2)]) m 44 (fun ls hI0 => ?_) (fun n ls hI0 ih => ?_) 121 _ ⟨1, x2, (by omega), (by omega), (by subst e_10; unfold fX5_recall; rw [if_neg c_2, if_pos c_6]), lv_sub hl [0, 1, 2, 3, 4] rfl⟩
        · skip
          obtain ⟨i, a, hn, hi, he, hl⟩ := hI0
          exact absurd hn (by omega)
        · skip
          obtain ⟨i, a, hn, hi, he, hl⟩ := hI0
          have he_13 := he
          have ih_12 := ih
          refine lv_iload hx hb dX5_recall_44 (lv_at hl 0 rfl) ?_
          refine lv_aload_n hx hb dX5_recall_46 rfl (lv_at hl 2 rfl) ?_
          refine va_get (D := (dC, dI)) (C := RX5) (T := TX5) (N := 26) (v := .int (k_munits w1)) hx hb hts (fi_X5 _) hown hK hP 0 (mw_at0 _ _ _) rfl 14 (by decide) (hts _ (List.mem_cons_of_mem _ wd_243)) (fun _ h9 => h9) rfl dX5_recall_47 ?_
          refine lv_icmp_gt (tgt := 136) hx hb dX5_recall_50 (by decide) (fun c_14 => ?_) (fun c_14 => ?_)
          · skip
            have t_15 : (k_munits w1).toInt < i.toInt := i_lt c_14 rfl rfl
            refine lv_iconst (v := (-1)) hx hb dX5_recall_136 (by decide) ?_
            exact W.iret (v := (-1)) hx hb hr (fun t ht hW => ⟨⟨(-1), w1, rfl, (by rw [he_13, loX5_recall_eq, if_pos c_14]), by rw [ht]; exact hP, hD⟩, hS.F ht⟩) hS.2.2 dX5_recall_137
          · skip
            have t_16 : i.toInt ≤ (k_munits w1).toInt := i_nlt c_14 rfl rfl
            refine lv_iconst (v := 0) hx hb dX5_recall_53 (by decide) ?_
            refine lv_istore (lv' := [(5, .int 0), (4, .int i), (3, .int a), (0, .ref (h 0)), (1, .int x1), (2, .int x2)]) hx hb dX5_recall_54 hl (by decide) rfl (fun ls hl => ?_)
            refine lv_iconst (v := 1) hx hb dX5_recall_56 (by decide) ?_
            refine lv_istore (lv' := [(6, .int 1), (5, .int 0), (4, .int i), (3, .int a), (0, .ref (h 0)), (1, .int x1), (2, .int x2)]) hx hb dX5_recall_57 hl (by decide) rfl (fun ls hl => ?_)
            refine lp_ind (W p l e _ s m _ below meth c _ _ _ _ _) (fun n2 ls => ∃ (k : Int32) (b : Int32), ((k_mlots w1).toInt - k.toInt + 1 < (n2 : Int)) ∧ (1 ≤ k.toInt ∧ k.toInt ≤ 41 ∧ k.toInt ≤ (k_mlots w1).toInt + 1) ∧ fX5_recall u x1 x2 = (if liX5_recall w1 i n2 k b = 0 then loX5_recall w1 n (i + 1) a else if a = 0 then (i, w1) else loX5_recall w1 n (i + 1) (a + (-1))) ∧ lv_has ls 7 [(6, .int k), (5, .int b), (0, .ref (h 0)), (1, .int x1), (2, .int x2), (3, .int a), (4, .int i)]) m 59 (fun ls hI0 => ?_) (fun n2 ls hI0 ih => ?_) 41 _ ⟨1, 0, (by omega), (by omega), (by rw [he_13, loX5_recall_eq, if_neg c_14]), lv_sub hl [0, 1, 4, 5, 6, 3, 2] rfl⟩
            · skip
              obtain ⟨k, b, hn2, hk, he, hl⟩ := hI0
              exact absurd hn2 (by omega)
            · skip
              obtain ⟨k, b, hn2, hk, he, hl⟩ := hI0
              have he_19 := he
              have ih_18 := ih
              refine lv_iload hx hb dX5_recall_59 (lv_at hl 0 rfl) ?_
              refine lv_aload_n hx hb dX5_recall_61 rfl (lv_at hl 2 rfl) ?_
              refine va_get (D := (dC, dI)) (C := RX5) (T := TX5) (N := 26) (v := .int (k_mlots w1)) hx hb hts (fi_X5 _) hown hK hP 0 (mw_at0 _ _ _) rfl 1 (by decide) (hts _ (List.mem_cons_of_mem _ wd_238)) (fun _ h9 => h9) rfl dX5_recall_62 ?_
              refine lv_icmp_gt (tgt := 112) hx hb dX5_recall_65 (by decide) (fun c_20 => ?_) (fun c_20 => ?_)
              · skip
                have t_21 : (k_mlots w1).toInt < k.toInt := i_lt c_20 rfl rfl
                have he_22 : fX5_recall u x1 x2 = (if b = 0 then loX5_recall w1 n (i + 1) a else if a = 0 then (i, w1) else loX5_recall w1 n (i + 1) (a + (-1))) := (by rw [he_19, liX5_recall_eq, if_pos c_20])
                refine lv_iload hx hb dX5_recall_112 (lv_at hl 1 rfl) ?_
                refine lv_if_ne (tgt := 120) hx hb dX5_recall_114 (by decide) (fun c_23 => ?_) (fun c_23 => ?_)
                · skip
                  have t_24 : b.toInt ≠ 0 := i_ne c_23 rfl (by decide)
                  refine lv_iload_n hx hb dX5_recall_120 rfl (lv_at hl 5 rfl) ?_
                  refine lv_if_ne (tgt := 127) hx hb dX5_recall_121 (by decide) (fun c_25 => ?_) (fun c_25 => ?_)
                  · skip
                    have t_26 : a.toInt ≠ 0 := i_ne c_25 rfl (by decide)
                    refine lv_iinc (v := a + (-1)) (lv' := [(3, .int (a + (-1))), (6, .int k), (5, .int b), (0, .ref (h 0)), (1, .int x1), (2, .int x2), (4, .int i)]) hx hb dX5_recall_127 hl (k := 5) rfl rfl (by decide) rfl (fun ls hl => ?_)
                    refine lv_iinc (v := i + 1) (lv' := [(4, .int (i + 1)), (3, .int (a + (-1))), (6, .int k), (5, .int b), (0, .ref (h 0)), (1, .int x1), (2, .int x2)]) hx hb dX5_recall_130 hl (k := 6) rfl rfl (by decide) rfl (fun ls hl => ?_)
                    refine lv_goto (tgt := 44) hx hb dX5_recall_133 (by decide) ?_
                    have hb1 := i_inc (x := i) (by omega)
                    exact ih_12 _ ⟨(i + 1), (a + (-1)), (by omega), (by omega), (by rw [he_22, if_neg c_23, if_neg c_25]), lv_sub hl [0, 1, 4, 5, 6] rfl⟩
                  · skip
                    have t_27 : a.toInt = 0 := i_eq c_25 rfl (by decide)
                    refine lv_iload hx hb dX5_recall_124 (lv_at hl 6 rfl) ?_
                    exact W.iret (v := i) hx hb hr (fun t ht hW => ⟨⟨i, w1, rfl, (by rw [he_22, if_neg c_23, if_pos c_25]), by rw [ht]; exact hP, hD⟩, hS.F ht⟩) hS.2.2 dX5_recall_126
                · skip
                  have t_28 : b.toInt = 0 := i_eq c_23 rfl (by decide)
                  refine lv_goto (tgt := 130) hx hb dX5_recall_117 (by decide) ?_
                  refine lv_iinc (v := i + 1) (lv' := [(4, .int (i + 1)), (6, .int k), (5, .int b), (0, .ref (h 0)), (1, .int x1), (2, .int x2), (3, .int a)]) hx hb dX5_recall_130 hl (k := 6) rfl rfl (by decide) rfl (fun ls hl => ?_)
                  refine lv_goto (tgt := 44) hx hb dX5_recall_133 (by decide) ?_
                  have hb1 := i_inc (x := i) (by omega)
                  exact ih_12 _ ⟨(i + 1), a, (by omega), (by omega), (by rw [he_22, if_pos c_23]), lv_sub hl [0, 6, 3, 4, 5] rfl⟩
              · skip
                have t_29 : k.toInt ≤ (k_mlots w1).toInt := i_nlt c_20 rfl rfl
                refine lv_iload hx hb dX5_recall_68 (lv_at hl 1 rfl) ?_
                refine lv_if_ne (tgt := 99) hx hb dX5_recall_70 (by decide) (fun c_30 => ?_) (fun c_30 => ?_)
                · skip
                  have t_31 : b.toInt ≠ 0 := i_ne c_30 rfl (by decide)
                  refine lv_iconst (v := 1) hx hb dX5_recall_99 (by decide) ?_
                  refine lv_goto (tgt := 104) hx hb dX5_recall_100 (by decide) ?_
                  refine lv_istore (lv' := [(5, .int 1), (6, .int k), (0, .ref (h 0)), (1, .int x1), (2, .int x2), (3, .int a), (4, .int i)]) hx hb dX5_recall_104 hl (by decide) rfl (fun ls hl => ?_)
                  refine lv_iinc (v := k + 1) (lv' := [(6, .int (k + 1)), (5, .int 1), (0, .ref (h 0)), (1, .int x1), (2, .int x2), (3, .int a), (4, .int i)]) hx hb dX5_recall_106 hl (k := 1) rfl rfl (by decide) rfl (fun ls hl => ?_)
                  refine lv_goto (tgt := 59) hx hb dX5_recall_109 (by decide) ?_
                  have hb2 := i_inc (x := k) (by omega)
                  exact ih_18 _ ⟨(k + 1), 1, (by omega), (by omega), (by rw [he_19, liX5_recall_eq, if_neg c_20, if_neg c_30]), lv_sub hl [0, 1, 2, 3, 4, 5, 6] rfl⟩
                · skip
                  have t_32 : b.toInt = 0 := i_eq c_30 rfl (by decide)
                  refine lv_aload_n hx hb dX5_recall_73 rfl (lv_at hl 2 rfl) ?_
                  refine va_get (D := (dC, dI)) (C := RX5) (T := TX5) (N := 26) (v := .ref (h 22)) hx hb hts (fi_X5 _) hown hK hP 0 (mw_at0 _ _ _) rfl 25 (by decide) (hts _ (List.mem_cons_of_mem _ wd_277)) (fun _ h9 => h9) rfl dX5_recall_74 ?_
                  refine lv_iload hx hb dX5_recall_77 (lv_at hl 0 rfl) ?_
                  refine va_zald (f := k_mfam w1) hx hb hK hP 22 1 (mw_at22 _ _ _) rfl (vp_in_iff.mpr (by omega)) dX5_recall_79 ?_
                  refine lv_if_eq (tgt := 103) hx hb dX5_recall_80 (by decide) (fun c_33 => ?_) (fun c_33 => ?_)
                  · skip
                    have t_34 : (k_mfam w1 k.toNatClampNeg).toInt = 0 := i_eq c_33 rfl (by decide)
                    refine lv_iconst (v := 0) hx hb dX5_recall_103 (by decide) ?_
                    refine lv_istore (lv' := [(5, .int 0), (6, .int k), (0, .ref (h 0)), (1, .int x1), (2, .int x2), (3, .int a), (4, .int i)]) hx hb dX5_recall_104 hl (by decide) rfl (fun ls hl => ?_)
                    refine lv_iinc (v := k + 1) (lv' := [(6, .int (k + 1)), (5, .int 0), (0, .ref (h 0)), (1, .int x1), (2, .int x2), (3, .int a), (4, .int i)]) hx hb dX5_recall_106 hl (k := 1) rfl rfl (by decide) rfl (fun ls hl => ?_)
                    refine lv_goto (tgt := 59) hx hb dX5_recall_109 (by decide) ?_
                    have hb2 := i_inc (x := k) (by omega)
                    exact ih_18 _ ⟨(k + 1), 0, (by omega), (by omega), (by rw [he_19, liX5_recall_eq, if_neg c_20, if_pos c_30, if_pos c_33]), lv_sub hl [0, 1, 2, 3, 4, 5, 6] rfl⟩
                  · skip
                    have t_35 : (k_mfam w1 k.toNatClampNeg).toInt ≠ 0 := i_ne c_33 rfl (by decide)
                    refine lv_aload_n hx hb dX5_recall_83 rfl (lv_at hl 2 rfl) ?_
                    refine va_get (D := (dC, dI)) (C := RX5) (T := TX5) (N := 26) (v := .ref (h 17)) hx hb hts (fi_X5 _) hown hK hP 0 (mw_at0 _ _ _) rfl 19 (by decide) (hts _ (List.mem_cons_of_mem _ wd_302)) (fun _ h9 => h9) rfl dX5_recall_84 ?_
                    refine lv_bipush (v := 41) hx hb dX5_recall_87 (by decide) ?_
                    refine lv_iload hx hb dX5_recall_89 (lv_at hl 6 rfl) ?_
                    refine lv_imul hx hb dX5_recall_91 ?_
                    refine lv_iload hx hb dX5_recall_92 (lv_at hl 0 rfl) ?_
                    refine lv_iadd hx hb dX5_recall_94 ?_
                    refine va_zald (f := k_mwas w1) hx hb hK hP 17 1 (mw_at17 _ _ _) rfl (was_in (by omega) (by omega)) dX5_recall_95 ?_
                    refine lv_if_eq (tgt := 103) hx hb dX5_recall_96 (by decide) (fun c_36 => ?_) (fun c_36 => ?_)
                    · skip
                      have t_37 : (k_mwas w1 ((41 * i) + k).toNatClampNeg).toInt = 0 := i_eq c_36 rfl (by decide)
                      refine lv_iconst (v := 0) hx hb dX5_recall_103 (by decide) ?_
                      refine lv_istore (lv' := [(5, .int 0), (6, .int k), (0, .ref (h 0)), (1, .int x1), (2, .int x2), (3, .int a), (4, .int i)]) hx hb dX5_recall_104 hl (by decide) rfl (fun ls hl => ?_)
                      refine lv_iinc (v := k + 1) (lv' := [(6, .int (k + 1)), (5, .int 0), (0, .ref (h 0)), (1, .int x1), (2, .int x2), (3, .int a), (4, .int i)]) hx hb dX5_recall_106 hl (k := 1) rfl rfl (by decide) rfl (fun ls hl => ?_)
                      refine lv_goto (tgt := 59) hx hb dX5_recall_109 (by decide) ?_
                      have hb2 := i_inc (x := k) (by omega)
                      exact ih_18 _ ⟨(k + 1), 0, (by omega), (by omega), (by rw [he_19, liX5_recall_eq, if_neg c_20, if_pos c_30, if_neg c_33, if_pos c_36]), lv_sub hl [0, 1, 2, 3, 4, 5, 6] rfl⟩
                    · skip
                      have t_38 : (k_mwas w1 ((41 * i) + k).toNatClampNeg).toInt ≠ 0 := i_ne c_36 rfl (by decide)
                      refine lv_iconst (v := 1) hx hb dX5_recall_99 (by decide) ?_
                      refine lv_goto (tgt := 104) hx hb dX5_recall_100 (by decide) ?_
                      refine lv_istore (lv' := [(5, .int 1), (6, .int k), (0, .ref (h 0)), (1, .int x1), (2, .int x2), (3, .int a), (4, .int i)]) hx hb dX5_recall_104 hl (by decide) rfl (fun ls hl => ?_)
                      refine lv_iinc (v := k + 1) (lv' := [(6, .int (k + 1)), (5, .int 1), (0, .ref (h 0)), (1, .int x1), (2, .int x2), (3, .int a), (4, .int i)]) hx hb dX5_recall_106 hl (k := 1) rfl rfl (by decide) rfl (fun ls hl => ?_)
                      refine lv_goto (tgt := 59) hx hb dX5_recall_109 (by decide) ?_
                      have hb2 := i_inc (x := k) (by omega)
                      exact ih_18 _ ⟨(k + 1), 1, (by omega), (by omega), (by rw [he_19, liX5_recall_eq, if_neg c_20, if_pos c_30, if_neg c_33, if_neg c_36]), lv_sub hl [0, 1, 2, 3, 4, 5, 6] rfl⟩
      · skip
        exact absurd (by decide) c_8
    · skip
      have t_39 : x2.toInt < 0 := i_nle c_6 (by decide) rfl
      refine lv_iconst (v := 2) hx hb dX5_recall_17 (by decide) ?_
      refine lv_goto (tgt := 22) hx hb dX5_recall_18 (by decide) ?_
      refine va_put (D := (dC, dI)) (C := RX5) (T := TX5) (N := 26) (v := .int 2) (ty := .int) hx hb hts (fi_X5 _) tyX5 tyX5_ok nmX5 hown hK hP hD hS 0 (mw_at0 _ _ _) rfl 0 (by decide) (hts _ (List.mem_cons_of_mem _ wd_237)) (fun _ h9 => h9) rfl (by decide +kernel) rfl rfl (Nat.le_of_ble_eq_true rfl) dX5_recall_22 (fun H locs hP hD hS => ?_)
      have hP : va_P (dC, dI) vwCl (mw g h (s_mcode u 2)) H := hP
      have hD : va_D A (mw g h (s_mcode u 2)) := hD
      refine lv_aload_n hx hb dX5_recall_25 rfl (lv_at hl 0 rfl) ?_
      refine va_get (D := (dC, dI)) (C := RX5) (T := TX5) (N := 26) (v := .int 2) hx hb hts (fi_X5 _) hown hK hP 0 (mw_at0 _ _ _) rfl 0 (by decide) (hts _ (List.mem_cons_of_mem _ wd_237)) (fun _ h9 => h9) rfl dX5_recall_26 ?_
      refine lv_if_le (tgt := 34) hx hb dX5_recall_29 (by decide) (fun c_40 => ?_) (fun c_40 => ?_)
      · skip
        exact absurd c_40 (by decide)
      · skip
        refine lv_iconst (v := 0) hx hb dX5_recall_32 (by decide) ?_
        exact W.iret (v := 0) hx hb hr (fun t ht hW => ⟨⟨0, (s_mcode u 2), rfl, (by unfold fX5_recall; rw [if_neg c_2, if_neg c_6]), by rw [ht]; exact hP, hD⟩, hS.F ht⟩) hS.2.2 dX5_recall_33
  · skip
    have t_41 : (fX5_isLot u x1).toInt = 0 := i_eq c_2 rfl (by decide)
    refine lv_iconst (v := 1) hx hb dX5_recall_9 (by decide) ?_
    refine lv_goto (tgt := 22) hx hb dX5_recall_10 (by decide) ?_
    refine va_put (D := (dC, dI)) (C := RX5) (T := TX5) (N := 26) (v := .int 1) (ty := .int) hx hb hts (fi_X5 _) tyX5 tyX5_ok nmX5 hown hK hP hD hS 0 (mw_at0 _ _ _) rfl 0 (by decide) (hts _ (List.mem_cons_of_mem _ wd_237)) (fun _ h9 => h9) rfl (by decide +kernel) rfl rfl (Nat.le_of_ble_eq_true rfl) dX5_recall_22 (fun H locs hP hD hS => ?_)
    have hP : va_P (dC, dI) vwCl (mw g h (s_mcode u 1)) H := hP
    have hD : va_D A (mw g h (s_mcode u 1)) := hD
    refine lv_aload_n hx hb dX5_recall_25 rfl (lv_at hl 0 rfl) ?_
    refine va_get (D := (dC, dI)) (C := RX5) (T := TX5) (N := 26) (v := .int 1) hx hb hts (fi_X5 _) hown hK hP 0 (mw_at0 _ _ _) rfl 0 (by decide) (hts _ (List.mem_cons_of_mem _ wd_237)) (fun _ h9 => h9) rfl dX5_recall_26 ?_
    refine lv_if_le (tgt := 34) hx hb dX5_recall_29 (by decide) (fun c_42 => ?_) (fun c_42 => ?_)
    · skip
      exact absurd c_42 (by decide)
    · skip
      refine lv_iconst (v := 0) hx hb dX5_recall_32 (by decide) ?_
      exact W.iret (v := 0) hx hb hr (fun t ht hW => ⟨⟨0, (s_mcode u 1), rfl, (by unfold fX5_recall; rw [if_pos c_2]), by rw [ht]; exact hP, hD⟩, hS.F ht⟩) hS.2.2 dX5_recall_33
set_option maxHeartbeats 4000000 in
set_option maxRecDepth 100000 in
theorem kX5_history (l : Launch) (dC : Nat → ClassId) (dI : Nat → Nat → Nat) (g : cG) (h : Nat → Nat) (u : mS) (sz : Nat) (x1 : Int32) (x2 : Int32) (x3 : Int32) (hI : mInv u) : Met l yX5_history wsX5_history ({ frames := 2, cells := 0, slots := 0, locals := 43 }) (va_Pc [.ref (h 0), .int x1, .int x2, .int x3] (fun U => U.heap.size = sz ∧ va_P (dC, dI) vwCl (mw g h u) U.heap ∧ va_K (dC, dI) vwCl (cTys g) U ∧ va_D (fun _ => True) (mw g h u))) (va_Qi (fun (r : Int32) u2 => (r, u2) = fX5_history u x1 x2 x3) (fun (u2 : mS) (t : State) => va_P (dC, dI) vwCl (mw g h u2) t.heap ∧ va_D (va_A (mw g h u) sz) (mw g h u2)) (va_A (mw g h u) sz)) 0 0 (va_A (mw g h u) sz) := by
  refine Met.ofW (cc := cX5_history) (maxL := 7) (ret := (some .int)) (by decide) rfl ?_
  intro p e s m args below meth c s₁ B hml hv
  obtain ⟨rfl, hsz, hP, hK, hD0⟩ := hv
  have hx := B.exec
  have hb := B.bytes
  have hr := B.returns
  have hts := atoms_spec (ws := wsX5_history) B.pre
  have hown : s.vm.findClass RX5 = some m.cls := findClass_of_methodNamed B.named
  have hlocks := B.notSynchronized
  subst hsz
  have hD := hD0.self (sz := s.heap.size)
  generalize hAe : va_A (mw g h u) s.heap.size = A at hD ⊢
  have hA : ∀ q : Nat, s.heap.size ≤ q → A q := fun q h => by rw [← hAe]; exact Or.inr h
  have hS : va_S A s.heap s.heap [] := va_S.rf
  have hl := lv_entry ([.ref (h 0), .int x1, .int x2, .int x3]) (n := 7) (Nat.le_of_ble_eq_true rfl)
  rw [lg_entry_eq]
  generalize (lg_sl ([.ref (h 0), .int x1, .int x2, .int x3]) ++ List.replicate (7 - (lg_sl ([.ref (h 0), .int x1, .int x2, .int x3])).length) Slot.unset).toArray = ls at hl ⊢
  have hl : lv_has ls 7 [(0, .ref (h 0)), (1, .int x1), (2, .int x2), (3, .int x3)] := hl
  obtain ⟨hI1, hI2, hI3, hI4, hI5, hI6, hI7⟩ := id hI
  have z_0 : (0 : Int32).toInt = 0 := by decide
  have z_1 : ((-1) : Int32).toInt = -1 := by decide
  have z_2 : (1 : Int32).toInt = 1 := by decide
  refine lv_iconst (v := (-1)) hx hb dX5_history_0 (by decide) ?_
  refine lv_istore (lv' := [(4, .int (-1)), (0, .ref (h 0)), (1, .int x1), (2, .int x2), (3, .int x3)]) hx hb dX5_history_1 hl (by decide) rfl (fun ls hl => ?_)
  refine lv_iload_n hx hb dX5_history_3 rfl (lv_at hl 3 rfl) ?_
  refine lv_istore (lv' := [(5, .int x2), (4, .int (-1)), (0, .ref (h 0)), (1, .int x1), (2, .int x2), (3, .int x3)]) hx hb dX5_history_4 hl (by decide) rfl (fun ls hl => ?_)
  refine lv_iconst (v := 0) hx hb dX5_history_6 (by decide) ?_
  refine lv_istore (lv' := [(6, .int 0), (5, .int x2), (4, .int (-1)), (0, .ref (h 0)), (1, .int x1), (2, .int x2), (3, .int x3)]) hx hb dX5_history_7 hl (by decide) rfl (fun ls hl => ?_)
  refine lp_ind (W p l e _ s m _ below meth c _ _ _ _ _) (fun n ls => ∃ (i : Int32) (b : Int32) (a : Int32), ((k_mrows u).toInt - i.toInt < (n : Int)) ∧ (0 ≤ i.toInt ∧ i.toInt ≤ 400 ∧ i.toInt ≤ (k_mrows u).toInt) ∧ (-1 ≤ b.toInt ∧ b.toInt < 400) ∧ fX5_history u x1 x2 x3 = lpX5_history u x1 x2 x3 n i b a ∧ lv_has ls 7 [(6, .int i), (4, .int b), (5, .int a), (0, .ref (h 0)), (1, .int x1), (2, .int x2), (3, .int x3)]) m 9 (fun ls hI0 => ?_) (fun n ls hI0 ih => ?_) 401 _ ⟨0, (-1), x2, (by omega), (by omega), (by omega), rfl, lv_sub hl [0, 2, 1, 3, 4, 5, 6] rfl⟩
  · skip
    obtain ⟨i, b, a, hn, hi, hf, he, hl⟩ := hI0
    exact absurd hn (by omega)
  · skip
    obtain ⟨i, b, a, hn, hi, hf, he, hl⟩ := hI0
    have he_3 := he
    have ih_2 := ih
    refine lv_iload hx hb dX5_history_9 (lv_at hl 0 rfl) ?_
    refine lv_aload_n hx hb dX5_history_11 rfl (lv_at hl 3 rfl) ?_
    refine va_get (D := (dC, dI)) (C := RX5) (T := TX5) (N := 26) (v := .int (k_mrows u)) hx hb hts (fi_X5 _) hown hK hP 0 (mw_at0 _ _ _) rfl 20 (by decide) (hts _ (List.mem_cons_of_mem _ wd_273)) (fun _ h9 => h9) rfl dX5_history_12 ?_
    refine lv_icmp_ge (tgt := 62) hx hb dX5_history_15 (by decide) (fun c_4 => ?_) (fun c_4 => ?_)
    · skip
      have t_5 : (k_mrows u).toInt ≤ i.toInt := i_le c_4 rfl rfl
      refine lv_aload_n hx hb dX5_history_62 rfl (lv_at hl 3 rfl) ?_
      refine lv_iload hx hb dX5_history_63 (lv_at hl 1 rfl) ?_
      refine lv_iconst (v := (-1)) hx hb dX5_history_65 (by decide) ?_
      refine lv_icmp_ne (tgt := 73) hx hb dX5_history_66 (by decide) (fun c_6 => ?_) (fun c_6 => ?_)
      · skip
        have t_7 : b.toInt ≠ -1 := i_ne c_6 rfl (by decide)
        refine lv_iload_n hx hb dX5_history_73 rfl (lv_at hl 6 rfl) ?_
        refine lv_iconst (v := 0) hx hb dX5_history_74 (by decide) ?_
        refine lv_iconst (v := 1) hx hb dX5_history_75 (by decide) ?_
        refine vp_callSi (W.runS (As := [.int x3, .int 0, .int 1]) (rest := [.ref (h 0)]) ⟨hx, hb, hml, hown, hts⟩ (kX5_in l dC dI x3 0 1) (cwS 3 hts (gS wd_239 wd_240 wd_241 wcX5_in) rfl rfl rfl (by decide +kernel) ⟨(Nat.le_of_ble_eq_true rfl), (Nat.le_of_ble_eq_true rfl)⟩) ⟨fun a U g mk q => by obtain ⟨q0, qT⟩ := q; exact ⟨q0, qT⟩, fun U hU hW => ⟨rfl, trivial⟩⟩ rfl rfl hl.1 rfl (lv_room (Nat.le_of_ble_eq_true rfl)) dX5_history_76 ⟨(Nat.le_of_ble_eq_true rfl), (Nat.le_of_ble_eq_true rfl)⟩) (fun r_8 hw => ?_)
        subst hw
        refine lv_if_ne (tgt := 86) hx hb dX5_history_79 (by decide) (fun c_9 => ?_) (fun c_9 => ?_)
        · skip
          have t_10 : (fX5_in x3 0 1).toInt ≠ 0 := i_ne c_9 rfl (by decide)
          have t_11 := in_lo c_9
          have t_12 := in_hi c_9
          refine lv_iconst (v := 0) hx hb dX5_history_86 (by decide) ?_
          refine va_put (D := (dC, dI)) (C := RX5) (T := TX5) (N := 26) (v := .int 0) (ty := .int) hx hb hts (fi_X5 _) tyX5 tyX5_ok nmX5 hown hK hP hD hS 0 (mw_at0 _ _ _) rfl 0 (by decide) (hts _ (List.mem_cons_of_mem _ wd_237)) (fun _ h9 => h9) rfl (by decide +kernel) rfl rfl (Nat.le_of_ble_eq_true rfl) dX5_history_87 (fun H locs hP hD hS => ?_)
          have hP : va_P (dC, dI) vwCl (mw g h (s_mcode u 0)) H := hP
          have hD : va_D A (mw g h (s_mcode u 0)) := hD
          refine lv_aload_n hx hb dX5_history_90 rfl (lv_at hl 3 rfl) ?_
          refine va_get (D := (dC, dI)) (C := RX5) (T := TX5) (N := 26) (v := .int 0) hx hb hts (fi_X5 _) hown hK hP 0 (mw_at0 _ _ _) rfl 0 (by decide) (hts _ (List.mem_cons_of_mem _ wd_237)) (fun _ h9 => h9) rfl dX5_history_91 ?_
          refine lv_if_le (tgt := 99) hx hb dX5_history_94 (by decide) (fun c_13 => ?_) (fun c_13 => ?_)
          · skip
            refine lv_iload_n hx hb dX5_history_99 rfl (lv_at hl 6 rfl) ?_
            refine lv_if_ne (tgt := 113) hx hb dX5_history_100 (by decide) (fun c_14 => ?_) (fun c_14 => ?_)
            · skip
              have t_15 : x3.toInt ≠ 0 := i_ne c_14 rfl (by decide)
              refine lv_aload_n hx hb dX5_history_113 rfl (lv_at hl 3 rfl) ?_
              refine va_get (D := (dC, dI)) (C := RX5) (T := TX5) (N := 26) (v := .ref (h 20)) hx hb hts (fi_X5 _) hown hK hP 0 (mw_at0 _ _ _) rfl 23 (by decide) (hts _ (List.mem_cons_of_mem _ wd_275)) (fun _ h9 => h9) rfl dX5_history_114 ?_
              refine lv_iload hx hb dX5_history_117 (lv_at hl 1 rfl) ?_
              refine va_iald (f := k_mrn u) hx hb hK hP 20 0 (mw_at20 _ _ _) rfl (vp_in_iff.mpr (by omega)) dX5_history_119 ?_
              exact W.iret (v := k_mrn u b.toNatClampNeg) hx hb hr (fun t ht hW => ⟨⟨(k_mrn u b.toNatClampNeg), (s_mcode u 0), rfl, (by rw [he_3, lpX5_history_eq, if_pos c_4, if_neg c_6, if_neg c_9, if_neg c_14]), by rw [ht]; exact hP, hD⟩, hS.F ht⟩) hS.2.2 dX5_history_120
            · skip
              have t_16 : x3.toInt = 0 := i_eq c_14 rfl (by decide)
              refine lv_aload_n hx hb dX5_history_103 rfl (lv_at hl 3 rfl) ?_
              refine va_get (D := (dC, dI)) (C := RX5) (T := TX5) (N := 26) (v := .ref (h 19)) hx hb hts (fi_X5 _) hown hK hP 0 (mw_at0 _ _ _) rfl 22 (by decide) (hts _ (List.mem_cons_of_mem _ wd_274)) (fun _ h9 => h9) rfl dX5_history_104 ?_
              refine lv_iload hx hb dX5_history_107 (lv_at hl 1 rfl) ?_
              refine va_iald (f := k_mrk u) hx hb hK hP 19 0 (mw_at19 _ _ _) rfl (vp_in_iff.mpr (by omega)) dX5_history_109 ?_
              refine lv_goto (tgt := 120) hx hb dX5_history_110 (by decide) ?_
              exact W.iret (v := k_mrk u b.toNatClampNeg) hx hb hr (fun t ht hW => ⟨⟨(k_mrk u b.toNatClampNeg), (s_mcode u 0), rfl, (by rw [he_3, lpX5_history_eq, if_pos c_4, if_neg c_6, if_neg c_9, if_pos c_14]), by rw [ht]; exact hP, hD⟩, hS.F ht⟩) hS.2.2 dX5_history_120
          · skip
            exact absurd (by decide) c_13
        · skip
          have t_17 : (fX5_in x3 0 1).toInt = 0 := i_eq c_9 rfl (by decide)
          refine lv_iconst (v := 2) hx hb dX5_history_82 (by decide) ?_
          refine lv_goto (tgt := 87) hx hb dX5_history_83 (by decide) ?_
          refine va_put (D := (dC, dI)) (C := RX5) (T := TX5) (N := 26) (v := .int 2) (ty := .int) hx hb hts (fi_X5 _) tyX5 tyX5_ok nmX5 hown hK hP hD hS 0 (mw_at0 _ _ _) rfl 0 (by decide) (hts _ (List.mem_cons_of_mem _ wd_237)) (fun _ h9 => h9) rfl (by decide +kernel) rfl rfl (Nat.le_of_ble_eq_true rfl) dX5_history_87 (fun H locs hP hD hS => ?_)
          have hP : va_P (dC, dI) vwCl (mw g h (s_mcode u 2)) H := hP
          have hD : va_D A (mw g h (s_mcode u 2)) := hD
          refine lv_aload_n hx hb dX5_history_90 rfl (lv_at hl 3 rfl) ?_
          refine va_get (D := (dC, dI)) (C := RX5) (T := TX5) (N := 26) (v := .int 2) hx hb hts (fi_X5 _) hown hK hP 0 (mw_at0 _ _ _) rfl 0 (by decide) (hts _ (List.mem_cons_of_mem _ wd_237)) (fun _ h9 => h9) rfl dX5_history_91 ?_
          refine lv_if_le (tgt := 99) hx hb dX5_history_94 (by decide) (fun c_18 => ?_) (fun c_18 => ?_)
          · skip
            exact absurd c_18 (by decide)
          · skip
            refine lv_iconst (v := 0) hx hb dX5_history_97 (by decide) ?_
            exact W.iret (v := 0) hx hb hr (fun t ht hW => ⟨⟨0, (s_mcode u 2), rfl, (by rw [he_3, lpX5_history_eq, if_pos c_4, if_neg c_6, if_pos c_9]), by rw [ht]; exact hP, hD⟩, hS.F ht⟩) hS.2.2 dX5_history_98
      · skip
        have t_19 : b.toInt = -1 := i_eq c_6 rfl (by decide)
        refine lv_iconst (v := 1) hx hb dX5_history_69 (by decide) ?_
        refine lv_goto (tgt := 87) hx hb dX5_history_70 (by decide) ?_
        refine va_put (D := (dC, dI)) (C := RX5) (T := TX5) (N := 26) (v := .int 1) (ty := .int) hx hb hts (fi_X5 _) tyX5 tyX5_ok nmX5 hown hK hP hD hS 0 (mw_at0 _ _ _) rfl 0 (by decide) (hts _ (List.mem_cons_of_mem _ wd_237)) (fun _ h9 => h9) rfl (by decide +kernel) rfl rfl (Nat.le_of_ble_eq_true rfl) dX5_history_87 (fun H locs hP hD hS => ?_)
        have hP : va_P (dC, dI) vwCl (mw g h (s_mcode u 1)) H := hP
        have hD : va_D A (mw g h (s_mcode u 1)) := hD
        refine lv_aload_n hx hb dX5_history_90 rfl (lv_at hl 3 rfl) ?_
        refine va_get (D := (dC, dI)) (C := RX5) (T := TX5) (N := 26) (v := .int 1) hx hb hts (fi_X5 _) hown hK hP 0 (mw_at0 _ _ _) rfl 0 (by decide) (hts _ (List.mem_cons_of_mem _ wd_237)) (fun _ h9 => h9) rfl dX5_history_91 ?_
        refine lv_if_le (tgt := 99) hx hb dX5_history_94 (by decide) (fun c_20 => ?_) (fun c_20 => ?_)
        · skip
          exact absurd c_20 (by decide)
        · skip
          refine lv_iconst (v := 0) hx hb dX5_history_97 (by decide) ?_
          exact W.iret (v := 0) hx hb hr (fun t ht hW => ⟨⟨0, (s_mcode u 1), rfl, (by rw [he_3, lpX5_history_eq, if_pos c_4, if_pos c_6]), by rw [ht]; exact hP, hD⟩, hS.F ht⟩) hS.2.2 dX5_history_98
    · skip
      have t_21 : i.toInt < (k_mrows u).toInt := i_nle c_4 rfl rfl
      refine lv_aload_n hx hb dX5_history_18 rfl (lv_at hl 3 rfl) ?_
      refine lv_iload_n hx hb dX5_history_19 rfl (lv_at hl 4 rfl) ?_
      refine vp_callSi (W.runV (As := [.int x1]) (rest := []) ⟨hx, hb, hml, hown, hts⟩ (kX5_isLot l dC dI g h u x1) (cwV 1 hts (gV wd_288 wd_289 wd_290 wd_241 wcX5_isLot) rfl rfl rfl (by decide +kernel) ⟨(Nat.le_of_ble_eq_true rfl), (Nat.le_of_ble_eq_true rfl)⟩) ⟨fun a U g mk q => by obtain ⟨q0, qP, qK⟩ := q; exact ⟨q0, qP, va_K.moved (u := U) (U := U.calling g mk a) (Vm.Alike.refl U.vm) qK⟩, va_recv hK hP (ci := 4) (q0 := 0) rfl (mw_at0 _ _ _), fun U hU hW => ⟨rfl, by rw [hU]; exact hP, va_K.moved hW.alike hK⟩⟩ rfl rfl hl.1 rfl (lv_room (Nat.le_of_ble_eq_true rfl)) dX5_history_20 ⟨(Nat.le_of_ble_eq_true rfl), (Nat.le_of_ble_eq_true rfl)⟩) (fun r_22 hw => ?_)
      subst hw
      refine lv_if_eq (tgt := 62) hx hb dX5_history_23 (by decide) (fun c_23 => ?_) (fun c_23 => ?_)
      · skip
        have t_24 : (fX5_isLot u x1).toInt = 0 := i_eq c_23 rfl (by decide)
        refine lv_aload_n hx hb dX5_history_62 rfl (lv_at hl 3 rfl) ?_
        refine lv_iload hx hb dX5_history_63 (lv_at hl 1 rfl) ?_
        refine lv_iconst (v := (-1)) hx hb dX5_history_65 (by decide) ?_
        refine lv_icmp_ne (tgt := 73) hx hb dX5_history_66 (by decide) (fun c_25 => ?_) (fun c_25 => ?_)
        · skip
          have t_26 : b.toInt ≠ -1 := i_ne c_25 rfl (by decide)
          refine lv_iload_n hx hb dX5_history_73 rfl (lv_at hl 6 rfl) ?_
          refine lv_iconst (v := 0) hx hb dX5_history_74 (by decide) ?_
          refine lv_iconst (v := 1) hx hb dX5_history_75 (by decide) ?_
          refine vp_callSi (W.runS (As := [.int x3, .int 0, .int 1]) (rest := [.ref (h 0)]) ⟨hx, hb, hml, hown, hts⟩ (kX5_in l dC dI x3 0 1) (cwS 3 hts (gS wd_239 wd_240 wd_241 wcX5_in) rfl rfl rfl (by decide +kernel) ⟨(Nat.le_of_ble_eq_true rfl), (Nat.le_of_ble_eq_true rfl)⟩) ⟨fun a U g mk q => by obtain ⟨q0, qT⟩ := q; exact ⟨q0, qT⟩, fun U hU hW => ⟨rfl, trivial⟩⟩ rfl rfl hl.1 rfl (lv_room (Nat.le_of_ble_eq_true rfl)) dX5_history_76 ⟨(Nat.le_of_ble_eq_true rfl), (Nat.le_of_ble_eq_true rfl)⟩) (fun r_27 hw => ?_)
          subst hw
          refine lv_if_ne (tgt := 86) hx hb dX5_history_79 (by decide) (fun c_28 => ?_) (fun c_28 => ?_)
          · skip
            have t_29 : (fX5_in x3 0 1).toInt ≠ 0 := i_ne c_28 rfl (by decide)
            have t_30 := in_lo c_28
            have t_31 := in_hi c_28
            refine lv_iconst (v := 0) hx hb dX5_history_86 (by decide) ?_
            refine va_put (D := (dC, dI)) (C := RX5) (T := TX5) (N := 26) (v := .int 0) (ty := .int) hx hb hts (fi_X5 _) tyX5 tyX5_ok nmX5 hown hK hP hD hS 0 (mw_at0 _ _ _) rfl 0 (by decide) (hts _ (List.mem_cons_of_mem _ wd_237)) (fun _ h9 => h9) rfl (by decide +kernel) rfl rfl (Nat.le_of_ble_eq_true rfl) dX5_history_87 (fun H locs hP hD hS => ?_)
            have hP : va_P (dC, dI) vwCl (mw g h (s_mcode u 0)) H := hP
            have hD : va_D A (mw g h (s_mcode u 0)) := hD
            refine lv_aload_n hx hb dX5_history_90 rfl (lv_at hl 3 rfl) ?_
            refine va_get (D := (dC, dI)) (C := RX5) (T := TX5) (N := 26) (v := .int 0) hx hb hts (fi_X5 _) hown hK hP 0 (mw_at0 _ _ _) rfl 0 (by decide) (hts _ (List.mem_cons_of_mem _ wd_237)) (fun _ h9 => h9) rfl dX5_history_91 ?_
            refine lv_if_le (tgt := 99) hx hb dX5_history_94 (by decide) (fun c_32 => ?_) (fun c_32 => ?_)
            · skip
              refine lv_iload_n hx hb dX5_history_99 rfl (lv_at hl 6 rfl) ?_
              refine lv_if_ne (tgt := 113) hx hb dX5_history_100 (by decide) (fun c_33 => ?_) (fun c_33 => ?_)
              · skip
                have t_34 : x3.toInt ≠ 0 := i_ne c_33 rfl (by decide)
                refine lv_aload_n hx hb dX5_history_113 rfl (lv_at hl 3 rfl) ?_
                refine va_get (D := (dC, dI)) (C := RX5) (T := TX5) (N := 26) (v := .ref (h 20)) hx hb hts (fi_X5 _) hown hK hP 0 (mw_at0 _ _ _) rfl 23 (by decide) (hts _ (List.mem_cons_of_mem _ wd_275)) (fun _ h9 => h9) rfl dX5_history_114 ?_
                refine lv_iload hx hb dX5_history_117 (lv_at hl 1 rfl) ?_
                refine va_iald (f := k_mrn u) hx hb hK hP 20 0 (mw_at20 _ _ _) rfl (vp_in_iff.mpr (by omega)) dX5_history_119 ?_
                exact W.iret (v := k_mrn u b.toNatClampNeg) hx hb hr (fun t ht hW => ⟨⟨(k_mrn u b.toNatClampNeg), (s_mcode u 0), rfl, (by rw [he_3, lpX5_history_eq, if_neg c_4, if_pos c_23, if_neg c_25, if_neg c_28, if_neg c_33]), by rw [ht]; exact hP, hD⟩, hS.F ht⟩) hS.2.2 dX5_history_120
              · skip
                have t_35 : x3.toInt = 0 := i_eq c_33 rfl (by decide)
                refine lv_aload_n hx hb dX5_history_103 rfl (lv_at hl 3 rfl) ?_
                refine va_get (D := (dC, dI)) (C := RX5) (T := TX5) (N := 26) (v := .ref (h 19)) hx hb hts (fi_X5 _) hown hK hP 0 (mw_at0 _ _ _) rfl 22 (by decide) (hts _ (List.mem_cons_of_mem _ wd_274)) (fun _ h9 => h9) rfl dX5_history_104 ?_
                refine lv_iload hx hb dX5_history_107 (lv_at hl 1 rfl) ?_
                refine va_iald (f := k_mrk u) hx hb hK hP 19 0 (mw_at19 _ _ _) rfl (vp_in_iff.mpr (by omega)) dX5_history_109 ?_
                refine lv_goto (tgt := 120) hx hb dX5_history_110 (by decide) ?_
                exact W.iret (v := k_mrk u b.toNatClampNeg) hx hb hr (fun t ht hW => ⟨⟨(k_mrk u b.toNatClampNeg), (s_mcode u 0), rfl, (by rw [he_3, lpX5_history_eq, if_neg c_4, if_pos c_23, if_neg c_25, if_neg c_28, if_pos c_33]), by rw [ht]; exact hP, hD⟩, hS.F ht⟩) hS.2.2 dX5_history_120
            · skip
              exact absurd (by decide) c_32
          · skip
            have t_36 : (fX5_in x3 0 1).toInt = 0 := i_eq c_28 rfl (by decide)
            refine lv_iconst (v := 2) hx hb dX5_history_82 (by decide) ?_
            refine lv_goto (tgt := 87) hx hb dX5_history_83 (by decide) ?_
            refine va_put (D := (dC, dI)) (C := RX5) (T := TX5) (N := 26) (v := .int 2) (ty := .int) hx hb hts (fi_X5 _) tyX5 tyX5_ok nmX5 hown hK hP hD hS 0 (mw_at0 _ _ _) rfl 0 (by decide) (hts _ (List.mem_cons_of_mem _ wd_237)) (fun _ h9 => h9) rfl (by decide +kernel) rfl rfl (Nat.le_of_ble_eq_true rfl) dX5_history_87 (fun H locs hP hD hS => ?_)
            have hP : va_P (dC, dI) vwCl (mw g h (s_mcode u 2)) H := hP
            have hD : va_D A (mw g h (s_mcode u 2)) := hD
            refine lv_aload_n hx hb dX5_history_90 rfl (lv_at hl 3 rfl) ?_
            refine va_get (D := (dC, dI)) (C := RX5) (T := TX5) (N := 26) (v := .int 2) hx hb hts (fi_X5 _) hown hK hP 0 (mw_at0 _ _ _) rfl 0 (by decide) (hts _ (List.mem_cons_of_mem _ wd_237)) (fun _ h9 => h9) rfl dX5_history_91 ?_
            refine lv_if_le (tgt := 99) hx hb dX5_history_94 (by decide) (fun c_37 => ?_) (fun c_37 => ?_)
            · skip
              exact absurd c_37 (by decide)
            · skip
              refine lv_iconst (v := 0) hx hb dX5_history_97 (by decide) ?_
              exact W.iret (v := 0) hx hb hr (fun t ht hW => ⟨⟨0, (s_mcode u 2), rfl, (by rw [he_3, lpX5_history_eq, if_neg c_4, if_pos c_23, if_neg c_25, if_pos c_28]), by rw [ht]; exact hP, hD⟩, hS.F ht⟩) hS.2.2 dX5_history_98
        · skip
          have t_38 : b.toInt = -1 := i_eq c_25 rfl (by decide)
          refine lv_iconst (v := 1) hx hb dX5_history_69 (by decide) ?_
          refine lv_goto (tgt := 87) hx hb dX5_history_70 (by decide) ?_
          refine va_put (D := (dC, dI)) (C := RX5) (T := TX5) (N := 26) (v := .int 1) (ty := .int) hx hb hts (fi_X5 _) tyX5 tyX5_ok nmX5 hown hK hP hD hS 0 (mw_at0 _ _ _) rfl 0 (by decide) (hts _ (List.mem_cons_of_mem _ wd_237)) (fun _ h9 => h9) rfl (by decide +kernel) rfl rfl (Nat.le_of_ble_eq_true rfl) dX5_history_87 (fun H locs hP hD hS => ?_)
          have hP : va_P (dC, dI) vwCl (mw g h (s_mcode u 1)) H := hP
          have hD : va_D A (mw g h (s_mcode u 1)) := hD
          refine lv_aload_n hx hb dX5_history_90 rfl (lv_at hl 3 rfl) ?_
          refine va_get (D := (dC, dI)) (C := RX5) (T := TX5) (N := 26) (v := .int 1) hx hb hts (fi_X5 _) hown hK hP 0 (mw_at0 _ _ _) rfl 0 (by decide) (hts _ (List.mem_cons_of_mem _ wd_237)) (fun _ h9 => h9) rfl dX5_history_91 ?_
          refine lv_if_le (tgt := 99) hx hb dX5_history_94 (by decide) (fun c_39 => ?_) (fun c_39 => ?_)
          · skip
            exact absurd c_39 (by decide)
          · skip
            refine lv_iconst (v := 0) hx hb dX5_history_97 (by decide) ?_
            exact W.iret (v := 0) hx hb hr (fun t ht hW => ⟨⟨0, (s_mcode u 1), rfl, (by rw [he_3, lpX5_history_eq, if_neg c_4, if_pos c_23, if_pos c_25]), by rw [ht]; exact hP, hD⟩, hS.F ht⟩) hS.2.2 dX5_history_98
      · skip
        have t_40 : (fX5_isLot u x1).toInt ≠ 0 := i_ne c_23 rfl (by decide)
        have t_41 := il_lo c_23
        have t_42 := il_hi c_23
        refine lv_iload_n hx hb dX5_history_26 rfl (lv_at hl 5 rfl) ?_
        refine lv_if_lt (tgt := 62) hx hb dX5_history_27 (by decide) (fun c_43 => ?_) (fun c_43 => ?_)
        · skip
          have t_44 : x2.toInt < 0 := i_lt c_43 rfl (by decide)
          refine lv_aload_n hx hb dX5_history_62 rfl (lv_at hl 3 rfl) ?_
          refine lv_iload hx hb dX5_history_63 (lv_at hl 1 rfl) ?_
          refine lv_iconst (v := (-1)) hx hb dX5_history_65 (by decide) ?_
          refine lv_icmp_ne (tgt := 73) hx hb dX5_history_66 (by decide) (fun c_45 => ?_) (fun c_45 => ?_)
          · skip
            have t_46 : b.toInt ≠ -1 := i_ne c_45 rfl (by decide)
            refine lv_iload_n hx hb dX5_history_73 rfl (lv_at hl 6 rfl) ?_
            refine lv_iconst (v := 0) hx hb dX5_history_74 (by decide) ?_
            refine lv_iconst (v := 1) hx hb dX5_history_75 (by decide) ?_
            refine vp_callSi (W.runS (As := [.int x3, .int 0, .int 1]) (rest := [.ref (h 0)]) ⟨hx, hb, hml, hown, hts⟩ (kX5_in l dC dI x3 0 1) (cwS 3 hts (gS wd_239 wd_240 wd_241 wcX5_in) rfl rfl rfl (by decide +kernel) ⟨(Nat.le_of_ble_eq_true rfl), (Nat.le_of_ble_eq_true rfl)⟩) ⟨fun a U g mk q => by obtain ⟨q0, qT⟩ := q; exact ⟨q0, qT⟩, fun U hU hW => ⟨rfl, trivial⟩⟩ rfl rfl hl.1 rfl (lv_room (Nat.le_of_ble_eq_true rfl)) dX5_history_76 ⟨(Nat.le_of_ble_eq_true rfl), (Nat.le_of_ble_eq_true rfl)⟩) (fun r_47 hw => ?_)
            subst hw
            refine lv_if_ne (tgt := 86) hx hb dX5_history_79 (by decide) (fun c_48 => ?_) (fun c_48 => ?_)
            · skip
              have t_49 : (fX5_in x3 0 1).toInt ≠ 0 := i_ne c_48 rfl (by decide)
              have t_50 := in_lo c_48
              have t_51 := in_hi c_48
              refine lv_iconst (v := 0) hx hb dX5_history_86 (by decide) ?_
              refine va_put (D := (dC, dI)) (C := RX5) (T := TX5) (N := 26) (v := .int 0) (ty := .int) hx hb hts (fi_X5 _) tyX5 tyX5_ok nmX5 hown hK hP hD hS 0 (mw_at0 _ _ _) rfl 0 (by decide) (hts _ (List.mem_cons_of_mem _ wd_237)) (fun _ h9 => h9) rfl (by decide +kernel) rfl rfl (Nat.le_of_ble_eq_true rfl) dX5_history_87 (fun H locs hP hD hS => ?_)
              have hP : va_P (dC, dI) vwCl (mw g h (s_mcode u 0)) H := hP
              have hD : va_D A (mw g h (s_mcode u 0)) := hD
              refine lv_aload_n hx hb dX5_history_90 rfl (lv_at hl 3 rfl) ?_
              refine va_get (D := (dC, dI)) (C := RX5) (T := TX5) (N := 26) (v := .int 0) hx hb hts (fi_X5 _) hown hK hP 0 (mw_at0 _ _ _) rfl 0 (by decide) (hts _ (List.mem_cons_of_mem _ wd_237)) (fun _ h9 => h9) rfl dX5_history_91 ?_
              refine lv_if_le (tgt := 99) hx hb dX5_history_94 (by decide) (fun c_52 => ?_) (fun c_52 => ?_)
              · skip
                refine lv_iload_n hx hb dX5_history_99 rfl (lv_at hl 6 rfl) ?_
                refine lv_if_ne (tgt := 113) hx hb dX5_history_100 (by decide) (fun c_53 => ?_) (fun c_53 => ?_)
                · skip
                  have t_54 : x3.toInt ≠ 0 := i_ne c_53 rfl (by decide)
                  refine lv_aload_n hx hb dX5_history_113 rfl (lv_at hl 3 rfl) ?_
                  refine va_get (D := (dC, dI)) (C := RX5) (T := TX5) (N := 26) (v := .ref (h 20)) hx hb hts (fi_X5 _) hown hK hP 0 (mw_at0 _ _ _) rfl 23 (by decide) (hts _ (List.mem_cons_of_mem _ wd_275)) (fun _ h9 => h9) rfl dX5_history_114 ?_
                  refine lv_iload hx hb dX5_history_117 (lv_at hl 1 rfl) ?_
                  refine va_iald (f := k_mrn u) hx hb hK hP 20 0 (mw_at20 _ _ _) rfl (vp_in_iff.mpr (by omega)) dX5_history_119 ?_
                  exact W.iret (v := k_mrn u b.toNatClampNeg) hx hb hr (fun t ht hW => ⟨⟨(k_mrn u b.toNatClampNeg), (s_mcode u 0), rfl, (by rw [he_3, lpX5_history_eq, if_neg c_4, if_neg c_23, if_pos c_43, if_neg c_45, if_neg c_48, if_neg c_53]), by rw [ht]; exact hP, hD⟩, hS.F ht⟩) hS.2.2 dX5_history_120
                · skip
                  have t_55 : x3.toInt = 0 := i_eq c_53 rfl (by decide)
                  refine lv_aload_n hx hb dX5_history_103 rfl (lv_at hl 3 rfl) ?_
                  refine va_get (D := (dC, dI)) (C := RX5) (T := TX5) (N := 26) (v := .ref (h 19)) hx hb hts (fi_X5 _) hown hK hP 0 (mw_at0 _ _ _) rfl 22 (by decide) (hts _ (List.mem_cons_of_mem _ wd_274)) (fun _ h9 => h9) rfl dX5_history_104 ?_
                  refine lv_iload hx hb dX5_history_107 (lv_at hl 1 rfl) ?_
                  refine va_iald (f := k_mrk u) hx hb hK hP 19 0 (mw_at19 _ _ _) rfl (vp_in_iff.mpr (by omega)) dX5_history_109 ?_
                  refine lv_goto (tgt := 120) hx hb dX5_history_110 (by decide) ?_
                  exact W.iret (v := k_mrk u b.toNatClampNeg) hx hb hr (fun t ht hW => ⟨⟨(k_mrk u b.toNatClampNeg), (s_mcode u 0), rfl, (by rw [he_3, lpX5_history_eq, if_neg c_4, if_neg c_23, if_pos c_43, if_neg c_45, if_neg c_48, if_pos c_53]), by rw [ht]; exact hP, hD⟩, hS.F ht⟩) hS.2.2 dX5_history_120
              · skip
                exact absurd (by decide) c_52
            · skip
              have t_56 : (fX5_in x3 0 1).toInt = 0 := i_eq c_48 rfl (by decide)
              refine lv_iconst (v := 2) hx hb dX5_history_82 (by decide) ?_
              refine lv_goto (tgt := 87) hx hb dX5_history_83 (by decide) ?_
              refine va_put (D := (dC, dI)) (C := RX5) (T := TX5) (N := 26) (v := .int 2) (ty := .int) hx hb hts (fi_X5 _) tyX5 tyX5_ok nmX5 hown hK hP hD hS 0 (mw_at0 _ _ _) rfl 0 (by decide) (hts _ (List.mem_cons_of_mem _ wd_237)) (fun _ h9 => h9) rfl (by decide +kernel) rfl rfl (Nat.le_of_ble_eq_true rfl) dX5_history_87 (fun H locs hP hD hS => ?_)
              have hP : va_P (dC, dI) vwCl (mw g h (s_mcode u 2)) H := hP
              have hD : va_D A (mw g h (s_mcode u 2)) := hD
              refine lv_aload_n hx hb dX5_history_90 rfl (lv_at hl 3 rfl) ?_
              refine va_get (D := (dC, dI)) (C := RX5) (T := TX5) (N := 26) (v := .int 2) hx hb hts (fi_X5 _) hown hK hP 0 (mw_at0 _ _ _) rfl 0 (by decide) (hts _ (List.mem_cons_of_mem _ wd_237)) (fun _ h9 => h9) rfl dX5_history_91 ?_
              refine lv_if_le (tgt := 99) hx hb dX5_history_94 (by decide) (fun c_57 => ?_) (fun c_57 => ?_)
              · skip
                exact absurd c_57 (by decide)
              · skip
                refine lv_iconst (v := 0) hx hb dX5_history_97 (by decide) ?_
                exact W.iret (v := 0) hx hb hr (fun t ht hW => ⟨⟨0, (s_mcode u 2), rfl, (by rw [he_3, lpX5_history_eq, if_neg c_4, if_neg c_23, if_pos c_43, if_neg c_45, if_pos c_48]), by rw [ht]; exact hP, hD⟩, hS.F ht⟩) hS.2.2 dX5_history_98
          · skip
            have t_58 : b.toInt = -1 := i_eq c_45 rfl (by decide)
            refine lv_iconst (v := 1) hx hb dX5_history_69 (by decide) ?_
            refine lv_goto (tgt := 87) hx hb dX5_history_70 (by decide) ?_
            refine va_put (D := (dC, dI)) (C := RX5) (T := TX5) (N := 26) (v := .int 1) (ty := .int) hx hb hts (fi_X5 _) tyX5 tyX5_ok nmX5 hown hK hP hD hS 0 (mw_at0 _ _ _) rfl 0 (by decide) (hts _ (List.mem_cons_of_mem _ wd_237)) (fun _ h9 => h9) rfl (by decide +kernel) rfl rfl (Nat.le_of_ble_eq_true rfl) dX5_history_87 (fun H locs hP hD hS => ?_)
            have hP : va_P (dC, dI) vwCl (mw g h (s_mcode u 1)) H := hP
            have hD : va_D A (mw g h (s_mcode u 1)) := hD
            refine lv_aload_n hx hb dX5_history_90 rfl (lv_at hl 3 rfl) ?_
            refine va_get (D := (dC, dI)) (C := RX5) (T := TX5) (N := 26) (v := .int 1) hx hb hts (fi_X5 _) hown hK hP 0 (mw_at0 _ _ _) rfl 0 (by decide) (hts _ (List.mem_cons_of_mem _ wd_237)) (fun _ h9 => h9) rfl dX5_history_91 ?_
            refine lv_if_le (tgt := 99) hx hb dX5_history_94 (by decide) (fun c_59 => ?_) (fun c_59 => ?_)
            · skip
              exact absurd c_59 (by decide)
            · skip
              refine lv_iconst (v := 0) hx hb dX5_history_97 (by decide) ?_
              exact W.iret (v := 0) hx hb hr (fun t ht hW => ⟨⟨0, (s_mcode u 1), rfl, (by rw [he_3, lpX5_history_eq, if_neg c_4, if_neg c_23, if_pos c_43, if_pos c_45]), by rw [ht]; exact hP, hD⟩, hS.F ht⟩) hS.2.2 dX5_history_98
        · skip
          have t_60 : 0 ≤ x2.toInt := i_nlt c_43 rfl (by decide)
          refine lv_aload_n hx hb dX5_history_30 rfl (lv_at hl 3 rfl) ?_
          refine va_get (D := (dC, dI)) (C := RX5) (T := TX5) (N := 26) (v := .ref (h 18)) hx hb hts (fi_X5 _) hown hK hP 0 (mw_at0 _ _ _) rfl 21 (by decide) (hts _ (List.mem_cons_of_mem _ wd_272)) (fun _ h9 => h9) rfl dX5_history_31 ?_
          refine lv_iload hx hb dX5_history_34 (lv_at hl 0 rfl) ?_
          refine va_iald (f := k_mrl u) hx hb hK hP 18 0 (mw_at18 _ _ _) rfl (vp_in_iff.mpr (by omega)) dX5_history_36 ?_
          refine lv_iload_n hx hb dX5_history_37 rfl (lv_at hl 4 rfl) ?_
          refine lv_icmp_eq (tgt := 44) hx hb dX5_history_38 (by decide) (fun c_61 => ?_) (fun c_61 => ?_)
          · skip
            have t_62 : (k_mrl u i.toNatClampNeg).toInt = x1.toInt := i_eq c_61 rfl rfl
            refine lv_iload hx hb dX5_history_44 (lv_at hl 2 rfl) ?_
            refine lv_if_ne (tgt := 53) hx hb dX5_history_46 (by decide) (fun c_63 => ?_) (fun c_63 => ?_)
            · skip
              have t_64 : a.toInt ≠ 0 := i_ne c_63 rfl (by decide)
              refine lv_iinc (v := a + (-1)) (lv' := [(5, .int (a + (-1))), (6, .int i), (4, .int b), (0, .ref (h 0)), (1, .int x1), (2, .int x2), (3, .int x3)]) hx hb dX5_history_53 hl (k := 2) rfl rfl (by decide) rfl (fun ls hl => ?_)
              refine lv_iinc (v := i + 1) (lv' := [(6, .int (i + 1)), (5, .int (a + (-1))), (4, .int b), (0, .ref (h 0)), (1, .int x1), (2, .int x2), (3, .int x3)]) hx hb dX5_history_56 hl (k := 1) rfl rfl (by decide) rfl (fun ls hl => ?_)
              refine lv_goto (tgt := 9) hx hb dX5_history_59 (by decide) ?_
              have hb1 := i_inc (x := i) (by omega)
              exact ih_2 _ ⟨(i + 1), b, (a + (-1)), (by omega), (by omega), (by omega), (by rw [he_3, lpX5_history_eq, if_neg c_4, if_neg c_23, if_neg c_43, if_pos c_61, if_neg c_63]), lv_sub hl [0, 2, 1, 3, 4, 5, 6] rfl⟩
            · skip
              have t_65 : a.toInt = 0 := i_eq c_63 rfl (by decide)
              refine lv_iload hx hb dX5_history_49 (lv_at hl 0 rfl) ?_
              refine lv_istore (lv' := [(4, .int i), (6, .int i), (5, .int a), (0, .ref (h 0)), (1, .int x1), (2, .int x2), (3, .int x3)]) hx hb dX5_history_51 hl (by decide) rfl (fun ls hl => ?_)
              refine lv_iinc (v := a + (-1)) (lv' := [(5, .int (a + (-1))), (4, .int i), (6, .int i), (0, .ref (h 0)), (1, .int x1), (2, .int x2), (3, .int x3)]) hx hb dX5_history_53 hl (k := 2) rfl rfl (by decide) rfl (fun ls hl => ?_)
              refine lv_iinc (v := i + 1) (lv' := [(6, .int (i + 1)), (5, .int (a + (-1))), (4, .int i), (0, .ref (h 0)), (1, .int x1), (2, .int x2), (3, .int x3)]) hx hb dX5_history_56 hl (k := 2) rfl rfl (by decide) rfl (fun ls hl => ?_)
              refine lv_goto (tgt := 9) hx hb dX5_history_59 (by decide) ?_
              have hb1 := i_inc (x := i) (by omega)
              exact ih_2 _ ⟨(i + 1), i, (a + (-1)), (by omega), (by omega), (by omega), (by rw [he_3, lpX5_history_eq, if_neg c_4, if_neg c_23, if_neg c_43, if_pos c_61, if_pos c_63]), lv_sub hl [0, 2, 1, 3, 4, 5, 6] rfl⟩
          · skip
            have t_66 : (k_mrl u i.toNatClampNeg).toInt ≠ x1.toInt := i_ne c_61 rfl rfl
            refine lv_goto (tgt := 56) hx hb dX5_history_41 (by decide) ?_
            refine lv_iinc (v := i + 1) (lv' := [(6, .int (i + 1)), (4, .int b), (5, .int a), (0, .ref (h 0)), (1, .int x1), (2, .int x2), (3, .int x3)]) hx hb dX5_history_56 hl (k := 0) rfl rfl (by decide) rfl (fun ls hl => ?_)
            refine lv_goto (tgt := 9) hx hb dX5_history_59 (by decide) ?_
            have hb1 := i_inc (x := i) (by omega)
            exact ih_2 _ ⟨(i + 1), b, a, (by omega), (by omega), (by omega), (by rw [he_3, lpX5_history_eq, if_neg c_4, if_neg c_23, if_neg c_43, if_neg c_61]), lv_sub hl [0, 1, 2, 3, 4, 5, 6] rfl⟩