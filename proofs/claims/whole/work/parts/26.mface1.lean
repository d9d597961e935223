set_option maxHeartbeats 4000000 in
set_option maxRecDepth 100000 in
theorem kX5_lot (l : Launch) (dC : Nat → ClassId) (dI : Nat → Nat → Nat) (g : cG) (h : Nat → Nat) (u : mS) (sz : Nat) (x1 : Int32) (x2 : Int32) (x3 : Int32) (x4 : Int32) (hI : mInv u) : Met l yX5_lot wsX5_lot ({ frames := 1, cells := 0, slots := 0, locals := 25 }) (va_Pc [.ref (h 0), .int x1, .int x2, .int x3, .int x4] (fun U => U.heap.size = sz ∧ va_P (dC, dI) vwCl (mw g h u) U.heap ∧ va_K (dC, dI) vwCl (cTys g) U ∧ va_D (fun _ => True) (mw g h u))) (va_Qi (fun (r : Int32) u2 => (r, u2) = fX5_lot u x1 x2 x3 x4) (fun (u2 : mS) (t : State) => va_P (dC, dI) vwCl (mw g h u2) t.heap ∧ va_D (va_A (mw g h u) sz) (mw g h u2)) (va_A (mw g h u) sz)) 0 0 (va_A (mw g h u) sz) := by
  refine Met.ofW (cc := cX5_lot) (maxL := 6) (ret := (some .int)) (by decide) rfl ?_
  intro p e s m args below meth c s₁ B hml hv
  obtain ⟨rfl, hsz, hP, hK, hD0⟩ := hv
  have hx := B.exec
  have hb := B.bytes
  have hr := B.returns
  have hts := atoms_spec (ws := wsX5_lot) B.pre
  have hown : s.vm.findClass RX5 = some m.cls := findClass_of_methodNamed B.named
  have hlocks := B.notSynchronized
  subst hsz
  have hD := hD0.self (sz := s.heap.size)
  generalize hAe : va_A (mw g h u) s.heap.size = A at hD ⊢
  have hA : ∀ q : Nat, s.heap.size ≤ q → A q := fun q h => by rw [← hAe]; exact Or.inr h
  have hS : va_S A s.heap s.heap [] := va_S.rf
  have hl := lv_entry ([.ref (h 0), .int x1, .int x2, .int x3, .int x4]) (n := 6) (Nat.le_of_ble_eq_true rfl)
  rw [lg_entry_eq]
  generalize (lg_sl ([.ref (h 0), .int x1, .int x2, .int x3, .int x4]) ++ List.replicate (6 - (lg_sl ([.ref (h 0), .int x1, .int x2, .int x3, .int x4])).length) Slot.unset).toArray = ls at hl ⊢
  have hl : lv_has ls 6 [(0, .ref (h 0)), (1, .int x1), (2, .int x2), (3, .int x3), (4, .int x4)] := hl
  obtain ⟨hI1, hI2, hI3, hI4, hI5, hI6, hI7⟩ := id hI
  have z_0 : (0 : Int32).toInt = 0 := by decide
  have z_1 : (9 : Int32).toInt = 9 := by decide
  have z_2 : (7 : Int32).toInt = 7 := by decide
  have z_3 : (36524 : Int32).toInt = 36524 := by decide
  refine lv_aload_n hx hb dX5_lot_0 rfl (lv_at hl 0 rfl) ?_
  refine lv_iload_n hx hb dX5_lot_1 rfl (lv_at hl 1 rfl) ?_
  refine lv_iconst (v := 0) hx hb dX5_lot_2 (by decide) ?_
  refine lv_bipush (v := 9) hx hb dX5_lot_3 (by decide) ?_
  refine vp_callSi (W.runS (As := [.int x1, .int 0, .int 9]) (rest := [.ref (h 0)]) ⟨hx, hb, hml, hown, hts⟩ (kX5_in l dC dI x1 0 9) (cwS 3 hts (gS wd_239 wd_240 wd_241 wcX5_in) rfl rfl rfl (by decide +kernel) ⟨(Nat.le_of_ble_eq_true rfl), (Nat.le_of_ble_eq_true rfl)⟩) ⟨fun a U g mk q => by obtain ⟨q0, qT⟩ := q; exact ⟨q0, qT⟩, fun U hU hW => ⟨rfl, trivial⟩⟩ rfl rfl hl.1 rfl (lv_room (Nat.le_of_ble_eq_true rfl)) dX5_lot_5 ⟨(Nat.le_of_ble_eq_true rfl), (Nat.le_of_ble_eq_true rfl)⟩) (fun r_1 hw => ?_)
  subst hw
  refine lv_if_eq (tgt := 42) hx hb dX5_lot_8 (by decide) (fun c_2 => ?_) (fun c_2 => ?_)
  · skip
    have t_3 : (fX5_in x1 0 9).toInt = 0 := i_eq c_2 rfl (by decide)
    refine lv_iconst (v := 1) hx hb dX5_lot_42 (by decide) ?_
    refine lv_goto (tgt := 80) hx hb dX5_lot_43 (by decide) ?_
    refine va_put (D := (dC, dI)) (C := RX5) (T := TX5) (N := 26) (v := .int 1) (ty := .int) hx hb hts (fi_X5 _) tyX5 tyX5_ok nmX5 hown hK hP hD hS 0 (mw_at0 _ _ _) rfl 0 (by decide) (hts _ (List.mem_cons_of_mem _ wd_237)) (fun _ h9 => h9) rfl (by decide +kernel) rfl rfl (Nat.le_of_ble_eq_true rfl) dX5_lot_80 (fun H locs hP hD hS => ?_)
    have hP : va_P (dC, dI) vwCl (mw g h (s_mcode u 1)) H := hP
    have hD : va_D A (mw g h (s_mcode u 1)) := hD
    refine lv_aload_n hx hb dX5_lot_83 rfl (lv_at hl 0 rfl) ?_
    refine va_get (D := (dC, dI)) (C := RX5) (T := TX5) (N := 26) (v := .int 1) hx hb hts (fi_X5 _) hown hK hP 0 (mw_at0 _ _ _) rfl 0 (by decide) (hts _ (List.mem_cons_of_mem _ wd_237)) (fun _ h9 => h9) rfl dX5_lot_84 ?_
    refine lv_if_gt (tgt := 96) hx hb dX5_lot_87 (by decide) (fun c_4 => ?_) (fun c_4 => ?_)
    · skip
      refine lv_iconst (v := 0) hx hb dX5_lot_96 (by decide) ?_
      exact W.iret (v := 0) hx hb hr (fun t ht hW => ⟨⟨0, (s_mcode u 1), rfl, (by unfold fX5_lot; rw [if_pos c_2]), by rw [ht]; exact hP, hD⟩, hS.F ht⟩) hS.2.2 dX5_lot_97
    · skip
      exact absurd (by decide) c_4
  · skip
    have t_5 : (fX5_in x1 0 9).toInt ≠ 0 := i_ne c_2 rfl (by decide)
    have t_6 := in_lo c_2
    have t_7 := in_hi c_2
    refine lv_iload_n hx hb dX5_lot_11 rfl (lv_at hl 2 rfl) ?_
    refine lv_iconst (v := 0) hx hb dX5_lot_12 (by decide) ?_
    refine lv_bipush (v := 7) hx hb dX5_lot_13 (by decide) ?_
    refine vp_callSi (W.runS (As := [.int x2, .int 0, .int 7]) (rest := [.ref (h 0)]) ⟨hx, hb, hml, hown, hts⟩ (kX5_in l dC dI x2 0 7) (cwS 3 hts (gS wd_239 wd_240 wd_241 wcX5_in) rfl rfl rfl (by decide +kernel) ⟨(Nat.le_of_ble_eq_true rfl), (Nat.le_of_ble_eq_true rfl)⟩) ⟨fun a U g mk q => by obtain ⟨q0, qT⟩ := q; exact ⟨q0, qT⟩, fun U hU hW => ⟨rfl, trivial⟩⟩ rfl rfl hl.1 rfl (lv_room (Nat.le_of_ble_eq_true rfl)) dX5_lot_15 ⟨(Nat.le_of_ble_eq_true rfl), (Nat.le_of_ble_eq_true rfl)⟩) (fun r_8 hw => ?_)
    subst hw
    refine lv_if_eq (tgt := 42) hx hb dX5_lot_18 (by decide) (fun c_9 => ?_) (fun c_9 => ?_)
    · skip
      have t_10 : (fX5_in x2 0 7).toInt = 0 := i_eq c_9 rfl (by decide)
      refine lv_iconst (v := 1) hx hb dX5_lot_42 (by decide) ?_
      refine lv_goto (tgt := 80) hx hb dX5_lot_43 (by decide) ?_
      refine va_put (D := (dC, dI)) (C := RX5) (T := TX5) (N := 26) (v := .int 1) (ty := .int) hx hb hts (fi_X5 _) tyX5 tyX5_ok nmX5 hown hK hP hD hS 0 (mw_at0 _ _ _) rfl 0 (by decide) (hts _ (List.mem_cons_of_mem _ wd_237)) (fun _ h9 => h9) rfl (by decide +kernel) rfl rfl (Nat.le_of_ble_eq_true rfl) dX5_lot_80 (fun H locs hP hD hS => ?_)
      have hP : va_P (dC, dI) vwCl (mw g h (s_mcode u 1)) H := hP
      have hD : va_D A (mw g h (s_mcode u 1)) := hD
      refine lv_aload_n hx hb dX5_lot_83 rfl (lv_at hl 0 rfl) ?_
      refine va_get (D := (dC, dI)) (C := RX5) (T := TX5) (N := 26) (v := .int 1) hx hb hts (fi_X5 _) hown hK hP 0 (mw_at0 _ _ _) rfl 0 (by decide) (hts _ (List.mem_cons_of_mem _ wd_237)) (fun _ h9 => h9) rfl dX5_lot_84 ?_
      refine lv_if_gt (tgt := 96) hx hb dX5_lot_87 (by decide) (fun c_11 => ?_) (fun c_11 => ?_)
      · skip
        refine lv_iconst (v := 0) hx hb dX5_lot_96 (by decide) ?_
        exact W.iret (v := 0) hx hb hr (fun t ht hW => ⟨⟨0, (s_mcode u 1), rfl, (by unfold fX5_lot; rw [if_neg c_2, if_pos c_9]), by rw [ht]; exact hP, hD⟩, hS.F ht⟩) hS.2.2 dX5_lot_97
      · skip
        exact absurd (by decide) c_11
    · skip
      have t_12 : (fX5_in x2 0 7).toInt ≠ 0 := i_ne c_9 rfl (by decide)
      have t_13 := in_lo c_9
      have t_14 := in_hi c_9
      refine lv_iload_n hx hb dX5_lot_21 rfl (lv_at hl 3 rfl) ?_
      refine lv_iconst (v := 0) hx hb dX5_lot_22 (by decide) ?_
      refine lv_ldc (v := 36524) hx hb hown (hts _ (List.mem_cons_of_mem _ wd_278)) dX5_lot_23 ?_
      refine vp_callSi (W.runS (As := [.int x3, .int 0, .int 36524]) (rest := [.ref (h 0)]) ⟨hx, hb, hml, hown, hts⟩ (kX5_in l dC dI x3 0 36524) (cwS 3 hts (gS wd_239 wd_240 wd_241 wcX5_in) rfl rfl rfl (by decide +kernel) ⟨(Nat.le_of_ble_eq_true rfl), (Nat.le_of_ble_eq_true rfl)⟩) ⟨fun a U g mk q => by obtain ⟨q0, qT⟩ := q; exact ⟨q0, qT⟩, fun U hU hW => ⟨rfl, trivial⟩⟩ rfl rfl hl.1 rfl (lv_room (Nat.le_of_ble_eq_true rfl)) dX5_lot_25 ⟨(Nat.le_of_ble_eq_true rfl), (Nat.le_of_ble_eq_true rfl)⟩) (fun r_15 hw => ?_)
      subst hw
      refine lv_if_eq (tgt := 42) hx hb dX5_lot_28 (by decide) (fun c_16 => ?_) (fun c_16 => ?_)
      · skip
        have t_17 : (fX5_in x3 0 36524).toInt = 0 := i_eq c_16 rfl (by decide)
        refine lv_iconst (v := 1) hx hb dX5_lot_42 (by decide) ?_
        refine lv_goto (tgt := 80) hx hb dX5_lot_43 (by decide) ?_
        refine va_put (D := (dC, dI)) (C := RX5) (T := TX5) (N := 26) (v := .int 1) (ty := .int) hx hb hts (fi_X5 _) tyX5 tyX5_ok nmX5 hown hK hP hD hS 0 (mw_at0 _ _ _) rfl 0 (by decide) (hts _ (List.mem_cons_of_mem _ wd_237)) (fun _ h9 => h9) rfl (by decide +kernel) rfl rfl (Nat.le_of_ble_eq_true rfl) dX5_lot_80 (fun H locs hP hD hS => ?_)
        have hP : va_P (dC, dI) vwCl (mw g h (s_mcode u 1)) H := hP
        have hD : va_D A (mw g h (s_mcode u 1)) := hD
        refine lv_aload_n hx hb dX5_lot_83 rfl (lv_at hl 0 rfl) ?_
        refine va_get (D := (dC, dI)) (C := RX5) (T := TX5) (N := 26) (v := .int 1) hx hb hts (fi_X5 _) hown hK hP 0 (mw_at0 _ _ _) rfl 0 (by decide) (hts _ (List.mem_cons_of_mem _ wd_237)) (fun _ h9 => h9) rfl dX5_lot_84 ?_
        refine lv_if_gt (tgt := 96) hx hb dX5_lot_87 (by decide) (fun c_18 => ?_) (fun c_18 => ?_)
        · skip
          refine lv_iconst (v := 0) hx hb dX5_lot_96 (by decide) ?_
          exact W.iret (v := 0) hx hb hr (fun t ht hW => ⟨⟨0, (s_mcode u 1), rfl, (by unfold fX5_lot; rw [if_neg c_2, if_neg c_9, if_pos c_16]), by rw [ht]; exact hP, hD⟩, hS.F ht⟩) hS.2.2 dX5_lot_97
        · skip
          exact absurd (by decide) c_18
      · skip
        have t_19 : (fX5_in x3 0 36524).toInt ≠ 0 := i_ne c_16 rfl (by decide)
        have t_20 := in_lo c_16
        have t_21 := in_hi c_16
        refine lv_iload hx hb dX5_lot_31 (lv_at hl 4 rfl) ?_
        refine lv_iconst (v := 0) hx hb dX5_lot_33 (by decide) ?_
        refine lv_ldc (v := 36524) hx hb hown (hts _ (List.mem_cons_of_mem _ wd_278)) dX5_lot_34 ?_
        refine vp_callSi (W.runS (As := [.int x4, .int 0, .int 36524]) (rest := [.ref (h 0)]) ⟨hx, hb, hml, hown, hts⟩ (kX5_in l dC dI x4 0 36524) (cwS 3 hts (gS wd_239 wd_240 wd_241 wcX5_in) rfl rfl rfl (by decide +kernel) ⟨(Nat.le_of_ble_eq_true rfl), (Nat.le_of_ble_eq_true rfl)⟩) ⟨fun a U g mk q => by obtain ⟨q0, qT⟩ := q; exact ⟨q0, qT⟩, fun U hU hW => ⟨rfl, trivial⟩⟩ rfl rfl hl.1 rfl (lv_room (Nat.le_of_ble_eq_true rfl)) dX5_lot_36 ⟨(Nat.le_of_ble_eq_true rfl), (Nat.le_of_ble_eq_true rfl)⟩) (fun r_22 hw => ?_)
        subst hw
        refine lv_if_ne (tgt := 46) hx hb dX5_lot_39 (by decide) (fun c_23 => ?_) (fun c_23 => ?_)
        · skip
          have t_24 : (fX5_in x4 0 36524).toInt ≠ 0 := i_ne c_23 rfl (by decide)
          have t_25 := in_lo c_23
          have t_26 := in_hi c_23
          refine lv_iload_n hx hb dX5_lot_46 rfl (lv_at hl 3 rfl) ?_
          refine lv_iload hx hb dX5_lot_47 (lv_at hl 4 rfl) ?_
          refine lv_icmp_ge (tgt := 56) hx hb dX5_lot_49 (by decide) (fun c_27 => ?_) (fun c_27 => ?_)
          · skip
            have t_28 : x4.toInt ≤ x3.toInt := i_le c_27 rfl rfl
            refine lv_aload_n hx hb dX5_lot_56 rfl (lv_at hl 0 rfl) ?_
            refine va_get (D := (dC, dI)) (C := RX5) (T := TX5) (N := 26) (v := .int (k_mlots u)) hx hb hts (fi_X5 _) hown hK hP 0 (mw_at0 _ _ _) rfl 1 (by decide) (hts _ (List.mem_cons_of_mem _ wd_238)) (fun _ h9 => h9) rfl dX5_lot_57 ?_
            refine lv_bipush (v := 40) hx hb dX5_lot_60 (by decide) ?_
            refine lv_icmp_eq (tgt := 75) hx hb dX5_lot_62 (by decide) (fun c_29 => ?_) (fun c_29 => ?_)
            · skip
              have t_30 : (k_mlots u).toInt = 40 := i_eq c_29 rfl (by decide)
              refine lv_iconst (v := 2) hx hb dX5_lot_75 (by decide) ?_
              refine lv_goto (tgt := 80) hx hb dX5_lot_76 (by decide) ?_
              refine va_put (D := (dC, dI)) (C := RX5) (T := TX5) (N := 26) (v := .int 2) (ty := .int) hx hb hts (fi_X5 _) tyX5 tyX5_ok nmX5 hown hK hP hD hS 0 (mw_at0 _ _ _) rfl 0 (by decide) (hts _ (List.mem_cons_of_mem _ wd_237)) (fun _ h9 => h9) rfl (by decide +kernel) rfl rfl (Nat.le_of_ble_eq_true rfl) dX5_lot_80 (fun H locs hP hD hS => ?_)
              have hP : va_P (dC, dI) vwCl (mw g h (s_mcode u 2)) H := hP
              have hD : va_D A (mw g h (s_mcode u 2)) := hD
              refine lv_aload_n hx hb dX5_lot_83 rfl (lv_at hl 0 rfl) ?_
              refine va_get (D := (dC, dI)) (C := RX5) (T := TX5) (N := 26) (v := .int 2) hx hb hts (fi_X5 _) hown hK hP 0 (mw_at0 _ _ _) rfl 0 (by decide) (hts _ (List.mem_cons_of_mem _ wd_237)) (fun _ h9 => h9) rfl dX5_lot_84 ?_
              refine lv_if_gt (tgt := 96) hx hb dX5_lot_87 (by decide) (fun c_31 => ?_) (fun c_31 => ?_)
              · skip
                refine lv_iconst (v := 0) hx hb dX5_lot_96 (by decide) ?_
                exact W.iret (v := 0) hx hb hr (fun t ht hW => ⟨⟨0, (s_mcode u 2), rfl, (by unfold fX5_lot; rw [if_neg c_2, if_neg c_9, if_neg c_16, if_neg c_23, if_pos c_27, if_pos c_29]), by rw [ht]; exact hP, hD⟩, hS.F ht⟩) hS.2.2 dX5_lot_97
              · skip
                exact absurd (by decide) c_31
            · skip
              have t_32 : (k_mlots u).toInt ≠ 40 := i_ne c_29 rfl (by decide)
              refine lv_aload_n hx hb dX5_lot_65 rfl (lv_at hl 0 rfl) ?_
              refine va_get (D := (dC, dI)) (C := RX5) (T := TX5) (N := 26) (v := .int (k_mrows u)) hx hb hts (fi_X5 _) hown hK hP 0 (mw_at0 _ _ _) rfl 20 (by decide) (hts _ (List.mem_cons_of_mem _ wd_273)) (fun _ h9 => h9) rfl dX5_lot_66 ?_
              refine lv_sipush (v := 400) hx hb dX5_lot_69 (by decide) ?_
              refine lv_icmp_ne (tgt := 79) hx hb dX5_lot_72 (by decide) (fun c_33 => ?_) (fun c_33 => ?_)
              · skip
                have t_34 : (k_mrows u).toInt ≠ 400 := i_ne c_33 rfl (by decide)
                refine lv_iconst (v := 0) hx hb dX5_lot_79 (by decide) ?_
                refine va_put (D := (dC, dI)) (C := RX5) (T := TX5) (N := 26) (v := .int 0) (ty := .int) hx hb hts (fi_X5 _) tyX5 tyX5_ok nmX5 hown hK hP hD hS 0 (mw_at0 _ _ _) rfl 0 (by decide) (hts _ (List.mem_cons_of_mem _ wd_237)) (fun _ h9 => h9) rfl (by decide +kernel) rfl rfl (Nat.le_of_ble_eq_true rfl) dX5_lot_80 (fun H locs hP hD hS => ?_)
                have hP : va_P (dC, dI) vwCl (mw g h (s_mcode u 0)) H := hP
                have hD : va_D A (mw g h (s_mcode u 0)) := hD
                refine lv_aload_n hx hb dX5_lot_83 rfl (lv_at hl 0 rfl) ?_
                refine va_get (D := (dC, dI)) (C := RX5) (T := TX5) (N := 26) (v := .int 0) hx hb hts (fi_X5 _) hown hK hP 0 (mw_at0 _ _ _) rfl 0 (by decide) (hts _ (List.mem_cons_of_mem _ wd_237)) (fun _ h9 => h9) rfl dX5_lot_84 ?_
                refine lv_if_gt (tgt := 96) hx hb dX5_lot_87 (by decide) (fun c_35 => ?_) (fun c_35 => ?_)
                · skip
                  exact absurd c_35 (by decide)
                · skip
                  refine lv_iload_n hx hb dX5_lot_90 rfl (lv_at hl 3 rfl) ?_
                  refine lv_iload hx hb dX5_lot_91 (lv_at hl 4 rfl) ?_
                  refine lv_icmp_ge (tgt := 98) hx hb dX5_lot_93 (by decide) (fun c_36 => ?_) (fun c_36 => ?_)
                  · skip
                    refine lv_aload_n hx hb dX5_lot_98 rfl (lv_at hl 0 rfl) ?_
                    refine lv_iload_n hx hb dX5_lot_99 rfl (lv_at hl 1 rfl) ?_
                    refine lv_iload_n hx hb dX5_lot_100 rfl (lv_at hl 2 rfl) ?_
                    refine lv_iload_n hx hb dX5_lot_101 rfl (lv_at hl 3 rfl) ?_
                    refine lv_iload hx hb dX5_lot_102 (lv_at hl 4 rfl) ?_
                    refine lv_iconst (v := 0) hx hb dX5_lot_104 (by decide) ?_
                    have hFc := va_free (wc := mw g h (s_mcode u 0)) hD hS hA [0, 1, 2, 3, 4, 5, 6, 7, 8, 9, 10, 11, 12, 13, 14, 15, 16, 17, 18, 19, 20, 21, 22] rfl
                    refine va_calli (va_runV (As := [.int x1, .int x2, .int x3, .int x4, .int 0]) (rest := []) ⟨hx, hb, hml, hown, hts⟩ (kX5_make l dC dI g h (s_mcode u 0) _ x1 x2 x3 x4 0 (by show 0 ≤ (k_mlots u).toInt ∧ (k_mlots u).toInt < 40; omega)) (cwV 5 hts (gV wd_279 wd_280 wd_281 wd_241 wcX5_make) rfl rfl rfl (by decide +kernel) ⟨(Nat.le_of_ble_eq_true rfl), (Nat.le_of_ble_eq_true rfl)⟩) ⟨fun a U g mk q => by obtain ⟨q0, q1, qP, qK, qD⟩ := q; exact ⟨q0, q1, qP, va_K.moved (u := U) (U := U.calling g mk a) (Vm.Alike.refl U.vm) qK, qD⟩, va_recv hK hP (ci := 4) (q0 := 0) rfl (mw_at0 _ _ _), fun U hU hW => ⟨rfl, by rw [hU], by rw [hU]; exact hP, va_K.moved hW.alike hK, hD.weaken (fun _ _ _ _ => trivial)⟩⟩ rfl rfl hl.1 rfl (lv_room (Nat.le_of_ble_eq_true rfl)) dX5_lot_105 ⟨(Nat.le_of_ble_eq_true rfl), (Nat.le_of_ble_eq_true rfl)⟩) hS (fun q _ h => hFc q h) hFc (fun r_38 u_37 t H locs ht hvm hw hB hz1 hk1 hS => ?_)
                    obtain ⟨hP, hD⟩ := hB
                    rw [ht] at hP
                    have hD := hD.weaken (fun _ _ _ h => hFc _ h)
                    have e_39 : r_38 = (fX5_make (s_mcode u 0) x1 x2 x3 x4 0).1 := congrArg Prod.fst hw
                    have e_40 : u_37 = (fX5_make (s_mcode u 0) x1 x2 x3 x4 0).2 := congrArg Prod.snd hw
                    clear hw
                    refine lv_istore (lv' := [(5, .int r_38), (0, .ref (h 0)), (1, .int x1), (2, .int x2), (3, .int x3), (4, .int x4)]) hx hb dX5_lot_108 hl (by decide) rfl (fun ls hl => ?_)
                    refine lv_aload_n hx hb dX5_lot_110 rfl (lv_at hl 1 rfl) ?_
                    refine lv_iload hx hb dX5_lot_111 (lv_at hl 0 rfl) ?_
                    refine lv_iconst (v := 1) hx hb dX5_lot_113 (by decide) ?_
                    refine lv_iconst (v := 0) hx hb dX5_lot_114 (by decide) ?_
                    have hFc := va_free (wc := mw g h u_37) hD hS hA [0, 1, 2, 3, 4, 5, 6, 7, 8, 9, 10, 11, 12, 13, 14, 15, 16, 17, 18, 19, 20, 21, 22] rfl
                    refine va_callv (va_runV (As := [.int r_38, .int 1, .int 0]) (rest := []) ⟨hx, hb, hml, hown, hts⟩ (kX5_row l dC dI g h u_37 _ r_38 1 0 (by subst e_40; subst e_39; show 0 ≤ (k_mrows u).toInt ∧ (k_mrows u).toInt < 400; omega)) (cwV 3 hts (gV wd_283 wd_284 wd_285 wd_241 wcX5_row) rfl rfl rfl (by decide +kernel) ⟨(Nat.le_of_ble_eq_true rfl), (Nat.le_of_ble_eq_true rfl)⟩) ⟨fun a U g mk q => by obtain ⟨q0, q1, qP, qK, qD⟩ := q; exact ⟨q0, q1, qP, va_K.moved (u := U) (U := U.calling g mk a) (Vm.Alike.refl U.vm) qK, qD⟩, va_recv hK hP (ci := 4) (q0 := 0) rfl (mw_at0 _ _ _), fun U hU hW => ⟨rfl, by rw [hU], by rw [hU]; exact hP, va_K.moved hW.alike hK, hD.weaken (fun _ _ _ _ => trivial)⟩⟩ rfl rfl hl.1 rfl (lv_room (Nat.le_of_ble_eq_true rfl)) dX5_lot_115 ⟨(Nat.le_of_ble_eq_true rfl), (Nat.le_of_ble_eq_true rfl)⟩) hS (fun q _ h => hFc q h) hFc (fun u_41 t H locs ht hvm hw hB hz1 hk1 hS => ?_)
                    obtain ⟨hP, hD⟩ := hB
                    rw [ht] at hP
                    have hD := hD.weaken (fun _ _ _ h => hFc _ h)
                    have e_43 : u_41 = fX5_row u_37 r_38 1 0 := hw
                    clear hw
                    refine lv_iload hx hb dX5_lot_118 (lv_at hl 0 rfl) ?_
                    exact W.iret (v := r_38) hx hb hr (fun t ht hW => ⟨⟨r_38, u_41, rfl, (by subst e_43; subst e_40; subst e_39; unfold fX5_lot; rw [if_neg c_2, if_neg c_9, if_neg c_16, if_neg c_23, if_pos c_27, if_neg c_29, if_neg c_33]), by rw [ht]; exact hP, hD⟩, hS.F ht⟩) hS.2.2 dX5_lot_120
                  · skip
                    exact absurd c_27 c_36
              · skip
                have t_44 : (k_mrows u).toInt = 400 := i_eq c_33 rfl (by decide)
                refine lv_iconst (v := 2) hx hb dX5_lot_75 (by decide) ?_
                refine lv_goto (tgt := 80) hx hb dX5_lot_76 (by decide) ?_
                refine va_put (D := (dC, dI)) (C := RX5) (T := TX5) (N := 26) (v := .int 2) (ty := .int) hx hb hts (fi_X5 _) tyX5 tyX5_ok nmX5 hown hK hP hD hS 0 (mw_at0 _ _ _) rfl 0 (by decide) (hts _ (List.mem_cons_of_mem _ wd_237)) (fun _ h9 => h9) rfl (by decide +kernel) rfl rfl (Nat.le_of_ble_eq_true rfl) dX5_lot_80 (fun H locs hP hD hS => ?_)
                have hP : va_P (dC, dI) vwCl (mw g h (s_mcode u 2)) H := hP
                have hD : va_D A (mw g h (s_mcode u 2)) := hD
                refine lv_aload_n hx hb dX5_lot_83 rfl (lv_at hl 0 rfl) ?_
                refine va_get (D := (dC, dI)) (C := RX5) (T := TX5) (N := 26) (v := .int 2) hx hb hts (fi_X5 _) hown hK hP 0 (mw_at0 _ _ _) rfl 0 (by decide) (hts _ (List.mem_cons_of_mem _ wd_237)) (fun _ h9 => h9) rfl dX5_lot_84 ?_
                refine lv_if_gt (tgt := 96) hx hb dX5_lot_87 (by decide) (fun c_45 => ?_) (fun c_45 => ?_)
                · skip
                  refine lv_iconst (v := 0) hx hb dX5_lot_96 (by decide) ?_
                  exact W.iret (v := 0) hx hb hr (fun t ht hW => ⟨⟨0, (s_mcode u 2), rfl, (by unfold fX5_lot; rw [if_neg c_2, if_neg c_9, if_neg c_16, if_neg c_23, if_pos c_27, if_neg c_29, if_pos c_33]), by rw [ht]; exact hP, hD⟩, hS.F ht⟩) hS.2.2 dX5_lot_97
                · skip
                  exact absurd (by decide) c_45
          · skip
            have t_46 : x3.toInt < x4.toInt := i_nle c_27 rfl rfl
            refine lv_iconst (v := 0) hx hb dX5_lot_52 (by decide) ?_
            refine lv_goto (tgt := 80) hx hb dX5_lot_53 (by decide) ?_
            refine va_put (D := (dC, dI)) (C := RX5) (T := TX5) (N := 26) (v := .int 0) (ty := .int) hx hb hts (fi_X5 _) tyX5 tyX5_ok nmX5 hown hK hP hD hS 0 (mw_at0 _ _ _) rfl 0 (by decide) (hts _ (List.mem_cons_of_mem _ wd_237)) (fun _ h9 => h9) rfl (by decide +kernel) rfl rfl (Nat.le_of_ble_eq_true rfl) dX5_lot_80 (fun H locs hP hD hS => ?_)
            have hP : va_P (dC, dI) vwCl (mw g h (s_mcode u 0)) H := hP
            have hD : va_D A (mw g h (s_mcode u 0)) := hD
            refine lv_aload_n hx hb dX5_lot_83 rfl (lv_at hl 0 rfl) ?_
            refine va_get (D := (dC, dI)) (C := RX5) (T := TX5) (N := 26) (v := .int 0) hx hb hts (fi_X5 _) hown hK hP 0 (mw_at0 _ _ _) rfl 0 (by decide) (hts _ (List.mem_cons_of_mem _ wd_237)) (fun _ h9 => h9) rfl dX5_lot_84 ?_
            refine lv_if_gt (tgt := 96) hx hb dX5_lot_87 (by decide) (fun c_47 => ?_) (fun c_47 => ?_)
            · skip
              exact absurd c_47 (by decide)
            · skip
              refine lv_iload_n hx hb dX5_lot_90 rfl (lv_at hl 3 rfl) ?_
              refine lv_iload hx hb dX5_lot_91 (lv_at hl 4 rfl) ?_
              refine lv_icmp_ge (tgt := 98) hx hb dX5_lot_93 (by decide) (fun c_48 => ?_) (fun c_48 => ?_)
              · skip
                exact absurd c_48 c_27
              · skip
                refine lv_iconst (v := 0) hx hb dX5_lot_96 (by decide) ?_
                exact W.iret (v := 0) hx hb hr (fun t ht hW => ⟨⟨0, (s_mcode u 0), rfl, (by unfold fX5_lot; rw [if_neg c_2, if_neg c_9, if_neg c_16, if_neg c_23, if_neg c_27]), by rw [ht]; exact hP, hD⟩, hS.F ht⟩) hS.2.2 dX5_lot_97
        · skip
          have t_49 : (fX5_in x4 0 36524).toInt = 0 := i_eq c_23 rfl (by decide)
          refine lv_iconst (v := 1) hx hb dX5_lot_42 (by decide) ?_
          refine lv_goto (tgt := 80) hx hb dX5_lot_43 (by decide) ?_
          refine va_put (D := (dC, dI)) (C := RX5) (T := TX5) (N := 26) (v := .int 1) (ty := .int) hx hb hts (fi_X5 _) tyX5 tyX5_ok nmX5 hown hK hP hD hS 0 (mw_at0 _ _ _) rfl 0 (by decide) (hts _ (List.mem_cons_of_mem _ wd_237)) (fun _ h9 => h9) rfl (by decide +kernel) rfl rfl (Nat.le_of_ble_eq_true rfl) dX5_lot_80 (fun H locs hP hD hS => ?_)
          have hP : va_P (dC, dI) vwCl (mw g h (s_mcode u 1)) H := hP
          have hD : va_D A (mw g h (s_mcode u 1)) := hD
          refine lv_aload_n hx hb dX5_lot_83 rfl (lv_at hl 0 rfl) ?_
          refine va_get (D := (dC, dI)) (C := RX5) (T := TX5) (N := 26) (v := .int 1) hx hb hts (fi_X5 _) hown hK hP 0 (mw_at0 _ _ _) rfl 0 (by decide) (hts _ (List.mem_cons_of_mem _ wd_237)) (fun _ h9 => h9) rfl dX5_lot_84 ?_
          refine lv_if_gt (tgt := 96) hx hb dX5_lot_87 (by decide) (fun c_50 => ?_) (fun c_50 => ?_)
          · skip
            refine lv_iconst (v := 0) hx hb dX5_lot_96 (by decide) ?_
            exact W.iret (v := 0) hx hb hr (fun t ht hW => ⟨⟨0, (s_mcode u 1), rfl, (by unfold fX5_lot; rw [if_neg c_2, if_neg c_9, if_neg c_16, if_pos c_23]), by rw [ht]; exact hP, hD⟩, hS.F ht⟩) hS.2.2 dX5_lot_97
          · skip
            exact absurd (by decide) c_50
set_option maxHeartbeats 4000000 in
set_option maxRecDepth 100000 in
theorem kX5_rule (l : Launch) (dC : Nat → ClassId) (dI : Nat → Nat → Nat) (g : cG) (h : Nat → Nat) (u : mS) (sz : Nat) (x1 : Int32) (x2 : Int32) (x3 : Int32) (hI : mInv u) : Met l yX5_rule wsX5_rule ({ frames := 1, cells := 0, slots := 0, locals := 22 }) (va_Pc [.ref (h 0), .int x1, .int x2, .int x3] (fun U => U.heap.size = sz ∧ va_P (dC, dI) vwCl (mw g h u) U.heap ∧ va_K (dC, dI) vwCl (cTys g) U ∧ va_D (fun _ => True) (mw g h u))) (va_Qv (fun u2 => u2 = fX5_rule u x1 x2 x3) (fun (u2 : mS) (t : State) => va_P (dC, dI) vwCl (mw g h u2) t.heap ∧ va_D (va_A (mw g h u) sz) (mw g h u2)) (va_A (mw g h u) sz)) 0 0 (va_A (mw g h u) sz) := by
  refine Met.ofW (cc := cX5_rule) (maxL := 4) (ret := none) (by decide) rfl ?_
  intro p e s m args below meth c s₁ B hml hv
  obtain ⟨rfl, hsz, hP, hK, hD0⟩ := hv
  have hx := B.exec
  have hb := B.bytes
  have hr := B.returns
  have hts := atoms_spec (ws := wsX5_rule) B.pre
  have hown : s.vm.findClass RX5 = some m.cls := findClass_of_methodNamed B.named
  have hlocks := B.notSynchronized
  subst hsz
  have hD := hD0.self (sz := s.heap.size)
  generalize hAe : va_A (mw g h u) s.heap.size = A at hD ⊢
  have hA : ∀ q : Nat, s.heap.size ≤ q → A q := fun q h => by rw [← hAe]; exact Or.inr h
  have hS : va_S A s.heap s.heap [] := va_S.rf
  have hl := lv_entry ([.ref (h 0), .int x1, .int x2, .int x3]) (n := 4) (Nat.le_of_ble_eq_true rfl)
  rw [lg_entry_eq]
  generalize (lg_sl ([.ref (h 0), .int x1, .int x2, .int x3]) ++ List.replicate (4 - (lg_sl ([.ref (h 0), .int x1, .int x2, .int x3])).length) Slot.unset).toArray = ls at hl ⊢
  have hl : lv_has ls 4 [(0, .ref (h 0)), (1, .int x1), (2, .int x2), (3, .int x3)] := hl
  obtain ⟨hI1, hI2, hI3, hI4, hI5, hI6, hI7⟩ := id hI
  have z_0 : (0 : Int32).toInt = 0 := by decide
  have z_1 : (7 : Int32).toInt = 7 := by decide
  have z_2 : (1 : Int32).toInt = 1 := by decide
  have z_3 : (1000 : Int32).toInt = 1000 := by decide
  have z_4 : (2 : Int32).toInt = 2 := by decide
  refine lv_aload_n hx hb dX5_rule_0 rfl (lv_at hl 0 rfl) ?_
  refine lv_iload_n hx hb dX5_rule_1 rfl (lv_at hl 1 rfl) ?_
  refine lv_iconst (v := 0) hx hb dX5_rule_2 (by decide) ?_
  refine lv_bipush (v := 7) hx hb dX5_rule_3 (by decide) ?_
  refine vp_callSi (W.runS (As := [.int x1, .int 0, .int 7]) (rest := [.ref (h 0)]) ⟨hx, hb, hml, hown, hts⟩ (kX5_in l dC dI x1 0 7) (cwS 3 hts (gS wd_239 wd_240 wd_241 wcX5_in) rfl rfl rfl (by decide +kernel) ⟨(Nat.le_of_ble_eq_true rfl), (Nat.le_of_ble_eq_true rfl)⟩) ⟨fun a U g mk q => by obtain ⟨q0, qT⟩ := q; exact ⟨q0, qT⟩, fun U hU hW => ⟨rfl, trivial⟩⟩ rfl rfl hl.1 rfl (lv_room (Nat.le_of_ble_eq_true rfl)) dX5_rule_5 ⟨(Nat.le_of_ble_eq_true rfl), (Nat.le_of_ble_eq_true rfl)⟩) (fun r_1 hw => ?_)
  subst hw
  refine lv_if_eq (tgt := 39) hx hb dX5_rule_8 (by decide) (fun c_2 => ?_) (fun c_2 => ?_)
  · skip
    have t_3 : (fX5_in x1 0 7).toInt = 0 := i_eq c_2 rfl (by decide)
    refine lv_iconst (v := 1) hx hb dX5_rule_39 (by decide) ?_
    refine lv_goto (tgt := 44) hx hb dX5_rule_40 (by decide) ?_
    refine va_put (D := (dC, dI)) (C := RX5) (T := TX5) (N := 26) (v := .int 1) (ty := .int) hx hb hts (fi_X5 _) tyX5 tyX5_ok nmX5 hown hK hP hD hS 0 (mw_at0 _ _ _) rfl 0 (by decide) (hts _ (List.mem_cons_of_mem _ wd_237)) (fun _ h9 => h9) rfl (by decide +kernel) rfl rfl (Nat.le_of_ble_eq_true rfl) dX5_rule_44 (fun H locs hP hD hS => ?_)
    have hP : va_P (dC, dI) vwCl (mw g h (s_mcode u 1)) H := hP
    have hD : va_D A (mw g h (s_mcode u 1)) := hD
    refine lv_aload_n hx hb dX5_rule_47 rfl (lv_at hl 0 rfl) ?_
    refine va_get (D := (dC, dI)) (C := RX5) (T := TX5) (N := 26) (v := .int 1) hx hb hts (fi_X5 _) hown hK hP 0 (mw_at0 _ _ _) rfl 0 (by decide) (hts _ (List.mem_cons_of_mem _ wd_237)) (fun _ h9 => h9) rfl dX5_rule_48 ?_
    refine lv_if_le (tgt := 55) hx hb dX5_rule_51 (by decide) (fun c_4 => ?_) (fun c_4 => ?_)
    · skip
      exact absurd c_4 (by decide)
    · skip
      exact W.vret hx hb hr (fun t ht hW => ⟨⟨(s_mcode u 1), rfl, (by unfold fX5_rule; rw [if_pos c_2]), by rw [ht]; exact hP, hD⟩, hS.F ht⟩) hS.2.2 dX5_rule_54
  · skip
    have t_5 : (fX5_in x1 0 7).toInt ≠ 0 := i_ne c_2 rfl (by decide)
    have t_6 := in_lo c_2
    have t_7 := in_hi c_2
    refine lv_iload_n hx hb dX5_rule_11 rfl (lv_at hl 2 rfl) ?_
    refine lv_iconst (v := 0) hx hb dX5_rule_12 (by decide) ?_
    refine lv_iconst (v := 1) hx hb dX5_rule_13 (by decide) ?_
    refine vp_callSi (W.runS (As := [.int x2, .int 0, .int 1]) (rest := [.ref (h 0)]) ⟨hx, hb, hml, hown, hts⟩ (kX5_in l dC dI x2 0 1) (cwS 3 hts (gS wd_239 wd_240 wd_241 wcX5_in) rfl rfl rfl (by decide +kernel) ⟨(Nat.le_of_ble_eq_true rfl), (Nat.le_of_ble_eq_true rfl)⟩) ⟨fun a U g mk q => by obtain ⟨q0, qT⟩ := q; exact ⟨q0, qT⟩, fun U hU hW => ⟨rfl, trivial⟩⟩ rfl rfl hl.1 rfl (lv_room (Nat.le_of_ble_eq_true rfl)) dX5_rule_14 ⟨(Nat.le_of_ble_eq_true rfl), (Nat.le_of_ble_eq_true rfl)⟩) (fun r_8 hw => ?_)
    subst hw
    refine lv_if_eq (tgt := 39) hx hb dX5_rule_17 (by decide) (fun c_9 => ?_) (fun c_9 => ?_)
    · skip
      have t_10 : (fX5_in x2 0 1).toInt = 0 := i_eq c_9 rfl (by decide)
      refine lv_iconst (v := 1) hx hb dX5_rule_39 (by decide) ?_
      refine lv_goto (tgt := 44) hx hb dX5_rule_40 (by decide) ?_
      refine va_put (D := (dC, dI)) (C := RX5) (T := TX5) (N := 26) (v := .int 1) (ty := .int) hx hb hts (fi_X5 _) tyX5 tyX5_ok nmX5 hown hK hP hD hS 0 (mw_at0 _ _ _) rfl 0 (by decide) (hts _ (List.mem_cons_of_mem _ wd_237)) (fun _ h9 => h9) rfl (by decide +kernel) rfl rfl (Nat.le_of_ble_eq_true rfl) dX5_rule_44 (fun H locs hP hD hS => ?_)
      have hP : va_P (dC, dI) vwCl (mw g h (s_mcode u 1)) H := hP
      have hD : va_D A (mw g h (s_mcode u 1)) := hD
      refine lv_aload_n hx hb dX5_rule_47 rfl (lv_at hl 0 rfl) ?_
      refine va_get (D := (dC, dI)) (C := RX5) (T := TX5) (N := 26) (v := .int 1) hx hb hts (fi_X5 _) hown hK hP 0 (mw_at0 _ _ _) rfl 0 (by decide) (hts _ (List.mem_cons_of_mem _ wd_237)) (fun _ h9 => h9) rfl dX5_rule_48 ?_
      refine lv_if_le (tgt := 55) hx hb dX5_rule_51 (by decide) (fun c_11 => ?_) (fun c_11 => ?_)
      · skip
        exact absurd c_11 (by decide)
      · skip
        exact W.vret hx hb hr (fun t ht hW => ⟨⟨(s_mcode u 1), rfl, (by unfold fX5_rule; rw [if_neg c_2, if_pos c_9]), by rw [ht]; exact hP, hD⟩, hS.F ht⟩) hS.2.2 dX5_rule_54
    · skip
      have t_12 : (fX5_in x2 0 1).toInt ≠ 0 := i_ne c_9 rfl (by decide)
      have t_13 := in_lo c_9
      have t_14 := in_hi c_9
      refine lv_iload_n hx hb dX5_rule_20 rfl (lv_at hl 3 rfl) ?_
      refine lv_iconst (v := 0) hx hb dX5_rule_21 (by decide) ?_
      refine lv_iload_n hx hb dX5_rule_22 rfl (lv_at hl 2 rfl) ?_
      refine lv_if_ne (tgt := 30) hx hb dX5_rule_23 (by decide) (fun c_15 => ?_) (fun c_15 => ?_)
      · skip
        have t_16 : x2.toInt ≠ 0 := i_ne c_15 rfl (by decide)
        refine lv_sipush (v := 1000) hx hb dX5_rule_30 (by decide) ?_
        refine vp_callSi (W.runS (As := [.int x3, .int 0, .int 1000]) (rest := [.ref (h 0)]) ⟨hx, hb, hml, hown, hts⟩ (kX5_in l dC dI x3 0 1000) (cwS 3 hts (gS wd_239 wd_240 wd_241 wcX5_in) rfl rfl rfl (by decide +kernel) ⟨(Nat.le_of_ble_eq_true rfl), (Nat.le_of_ble_eq_true rfl)⟩) ⟨fun a U g mk q => by obtain ⟨q0, qT⟩ := q; exact ⟨q0, qT⟩, fun U hU hW => ⟨rfl, trivial⟩⟩ rfl rfl hl.1 rfl (lv_room (Nat.le_of_ble_eq_true rfl)) dX5_rule_33 ⟨(Nat.le_of_ble_eq_true rfl), (Nat.le_of_ble_eq_true rfl)⟩) (fun r_17 hw => ?_)
        subst hw
        refine lv_if_ne (tgt := 43) hx hb dX5_rule_36 (by decide) (fun c_18 => ?_) (fun c_18 => ?_)
        · skip
          have t_19 : (fX5_in x3 0 1000).toInt ≠ 0 := i_ne c_18 rfl (by decide)
          have t_20 := in_lo c_18
          have t_21 := in_hi c_18
          refine lv_iconst (v := 0) hx hb dX5_rule_43 (by decide) ?_
          refine va_put (D := (dC, dI)) (C := RX5) (T := TX5) (N := 26) (v := .int 0) (ty := .int) hx hb hts (fi_X5 _) tyX5 tyX5_ok nmX5 hown hK hP hD hS 0 (mw_at0 _ _ _) rfl 0 (by decide) (hts _ (List.mem_cons_of_mem _ wd_237)) (fun _ h9 => h9) rfl (by decide +kernel) rfl rfl (Nat.le_of_ble_eq_true rfl) dX5_rule_44 (fun H locs hP hD hS => ?_)
          have hP : va_P (dC, dI) vwCl (mw g h (s_mcode u 0)) H := hP
          have hD : va_D A (mw g h (s_mcode u 0)) := hD
          refine lv_aload_n hx hb dX5_rule_47 rfl (lv_at hl 0 rfl) ?_
          refine va_get (D := (dC, dI)) (C := RX5) (T := TX5) (N := 26) (v := .int 0) hx hb hts (fi_X5 _) hown hK hP 0 (mw_at0 _ _ _) rfl 0 (by decide) (hts _ (List.mem_cons_of_mem _ wd_237)) (fun _ h9 => h9) rfl dX5_rule_48 ?_
          refine lv_if_le (tgt := 55) hx hb dX5_rule_51 (by decide) (fun c_22 => ?_) (fun c_22 => ?_)
          · skip
            refine lv_iload_n hx hb dX5_rule_55 rfl (lv_at hl 2 rfl) ?_
            refine lv_if_ne (tgt := 69) hx hb dX5_rule_56 (by decide) (fun c_23 => ?_) (fun c_23 => ?_)
            · skip
              refine lv_aload_n hx hb dX5_rule_69 rfl (lv_at hl 0 rfl) ?_
              refine va_get (D := (dC, dI)) (C := RX5) (T := TX5) (N := 26) (v := .ref (h 10)) hx hb hts (fi_X5 _) hown hK hP 0 (mw_at0 _ _ _) rfl 11 (by decide) (hts _ (List.mem_cons_of_mem _ wd_262)) (fun _ h9 => h9) rfl dX5_rule_70 ?_
              refine lv_iload_n hx hb dX5_rule_73 rfl (lv_at hl 1 rfl) ?_
              refine lv_iload_n hx hb dX5_rule_74 rfl (lv_at hl 3 rfl) ?_
              refine va_iast (f := k_mmix u) hx hb hK hP hD hS 10 0 (mw_at10 _ _ _) rfl (vp_in_iff.mpr (by omega)) dX5_rule_75 (fun H locs hP hD hS => ?_)
              have hP : va_P (dC, dI) vwCl (mw g h (s_mmix (s_mcode u 0) (upd (k_mmix u) x1.toNatClampNeg x3))) H := hP
              have hD : va_D A (mw g h (s_mmix (s_mcode u 0) (upd (k_mmix u) x1.toNatClampNeg x3))) := hD
              exact W.vret hx hb hr (fun t ht hW => ⟨⟨(s_mmix (s_mcode u 0) (upd (k_mmix u) x1.toNatClampNeg x3)), rfl, (by unfold fX5_rule; rw [if_neg c_2, if_neg c_9, if_neg c_15, if_neg c_18]), by rw [ht]; exact hP, hD⟩, hS.F ht⟩) hS.2.2 dX5_rule_76
            · skip
              exact absurd c_23 c_15
          · skip
            exact absurd (by decide) c_22
        · skip
          have t_24 : (fX5_in x3 0 1000).toInt = 0 := i_eq c_18 rfl (by decide)
          refine lv_iconst (v := 1) hx hb dX5_rule_39 (by decide) ?_
          refine lv_goto (tgt := 44) hx hb dX5_rule_40 (by decide) ?_
          refine va_put (D := (dC, dI)) (C := RX5) (T := TX5) (N := 26) (v := .int 1) (ty := .int) hx hb hts (fi_X5 _) tyX5 tyX5_ok nmX5 hown hK hP hD hS 0 (mw_at0 _ _ _) rfl 0 (by decide) (hts _ (List.mem_cons_of_mem _ wd_237)) (fun _ h9 => h9) rfl (by decide +kernel) rfl rfl (Nat.le_of_ble_eq_true rfl) dX5_rule_44 (fun H locs hP hD hS => ?_)
          have hP : va_P (dC, dI) vwCl (mw g h (s_mcode u 1)) H := hP
          have hD : va_D A (mw g h (s_mcode u 1)) := hD
          refine lv_aload_n hx hb dX5_rule_47 rfl (lv_at hl 0 rfl) ?_
          refine va_get (D := (dC, dI)) (C := RX5) (T := TX5) (N := 26) (v := .int 1) hx hb hts (fi_X5 _) hown hK hP 0 (mw_at0 _ _ _) rfl 0 (by decide) (hts _ (List.mem_cons_of_mem _ wd_237)) (fun _ h9 => h9) rfl dX5_rule_48 ?_
          refine lv_if_le (tgt := 55) hx hb dX5_rule_51 (by decide) (fun c_25 => ?_) (fun c_25 => ?_)
          · skip
            exact absurd c_25 (by decide)
          · skip
            exact W.vret hx hb hr (fun t ht hW => ⟨⟨(s_mcode u 1), rfl, (by unfold fX5_rule; rw [if_neg c_2, if_neg c_9, if_neg c_15, if_pos c_18]), by rw [ht]; exact hP, hD⟩, hS.F ht⟩) hS.2.2 dX5_rule_54
      · skip
        have t_26 : x2.toInt = 0 := i_eq c_15 rfl (by decide)
        refine lv_iconst (v := 2) hx hb dX5_rule_26 (by decide) ?_
        refine lv_goto (tgt := 33) hx hb dX5_rule_27 (by decide) ?_
        refine vp_callSi (W.runS (As := [.int x3, .int 0, .int 2]) (rest := [.ref (h 0)]) ⟨hx, hb, hml, hown, hts⟩ (kX5_in l dC dI x3 0 2) (cwS 3 hts (gS wd_239 wd_240 wd_241 wcX5_in) rfl rfl rfl (by decide +kernel) ⟨(Nat.le_of_ble_eq_true rfl), (Nat.le_of_ble_eq_true rfl)⟩) ⟨fun a U g mk q => by obtain ⟨q0, qT⟩ := q; exact ⟨q0, qT⟩, fun U hU hW => ⟨rfl, trivial⟩⟩ rfl rfl hl.1 rfl (lv_room (Nat.le_of_ble_eq_true rfl)) dX5_rule_33 ⟨(Nat.le_of_ble_eq_true rfl), (Nat.le_of_ble_eq_true rfl)⟩) (fun r_27 hw => ?_)
        subst hw
        refine lv_if_ne (tgt := 43) hx hb dX5_rule_36 (by decide) (fun c_28 => ?_) (fun c_28 => ?_)
        · skip
          have t_29 : (fX5_in x3 0 2).toInt ≠ 0 := i_ne c_28 rfl (by decide)
          have t_30 := in_lo c_28
          have t_31 := in_hi c_28
          refine lv_iconst (v := 0) hx hb dX5_rule_43 (by decide) ?_
          refine va_put (D := (dC, dI)) (C := RX5) (T := TX5) (N := 26) (v := .int 0) (ty := .int) hx hb hts (fi_X5 _) tyX5 tyX5_ok nmX5 hown hK hP hD hS 0 (mw_at0 _ _ _) rfl 0 (by decide) (hts _ (List.mem_cons_of_mem _ wd_237)) (fun _ h9 => h9) rfl (by decide +kernel) rfl rfl (Nat.le_of_ble_eq_true rfl) dX5_rule_44 (fun H locs hP hD hS => ?_)
          have hP : va_P (dC, dI) vwCl (mw g h (s_mcode u 0)) H := hP
          have hD : va_D A (mw g h (s_mcode u 0)) := hD
          refine lv_aload_n hx hb dX5_rule_47 rfl (lv_at hl 0 rfl) ?_
          refine va_get (D := (dC, dI)) (C := RX5) (T := TX5) (N := 26) (v := .int 0) hx hb hts (fi_X5 _) hown hK hP 0 (mw_at0 _ _ _) rfl 0 (by decide) (hts _ (List.mem_cons_of_mem _ wd_237)) (fun _ h9 => h9) rfl dX5_rule_48 ?_
          refine lv_if_le (tgt := 55) hx hb dX5_rule_51 (by decide) (fun c_32 => ?_) (fun c_32 => ?_)
          · skip
            refine lv_iload_n hx hb dX5_rule_55 rfl (lv_at hl 2 rfl) ?_
            refine lv_if_ne (tgt := 69) hx hb dX5_rule_56 (by decide) (fun c_33 => ?_) (fun c_33 => ?_)
            · skip
              exact absurd c_15 c_33
            · skip
              refine lv_aload_n hx hb dX5_rule_59 rfl (lv_at hl 0 rfl) ?_
              refine va_get (D := (dC, dI)) (C := RX5) (T := TX5) (N := 26) (v := .ref (h 9)) hx hb hts (fi_X5 _) hown hK hP 0 (mw_at0 _ _ _) rfl 10 (by decide) (hts _ (List.mem_cons_of_mem _ wd_252)) (fun _ h9 => h9) rfl dX5_rule_60 ?_
              refine lv_iload_n hx hb dX5_rule_63 rfl (lv_at hl 1 rfl) ?_
              refine lv_iload_n hx hb dX5_rule_64 rfl (lv_at hl 3 rfl) ?_
              refine va_iast (f := k_mrot u) hx hb hK hP hD hS 9 0 (mw_at9 _ _ _) rfl (vp_in_iff.mpr (by omega)) dX5_rule_65 (fun H locs hP hD hS => ?_)
              have hP : va_P (dC, dI) vwCl (mw g h (s_mrot (s_mcode u 0) (upd (k_mrot u) x1.toNatClampNeg x3))) H := hP
              have hD : va_D A (mw g h (s_mrot (s_mcode u 0) (upd (k_mrot u) x1.toNatClampNeg x3))) := hD
              refine lv_goto (tgt := 76) hx hb dX5_rule_66 (by decide) ?_
              exact W.vret hx hb hr (fun t ht hW => ⟨⟨(s_mrot (s_mcode u 0) (upd (k_mrot u) x1.toNatClampNeg x3)), rfl, (by unfold fX5_rule; rw [if_neg c_2, if_neg c_9, if_pos c_15, if_neg c_28]), by rw [ht]; exact hP, hD⟩, hS.F ht⟩) hS.2.2 dX5_rule_76
          · skip
            exact absurd (by decide) c_32
        · skip
          have t_34 : (fX5_in x3 0 2).toInt = 0 := i_eq c_28 rfl (by decide)
          refine lv_iconst (v := 1) hx hb dX5_rule_39 (by decide) ?_
          refine lv_goto (tgt := 44) hx hb dX5_rule_40 (by decide) ?_
          refine va_put (D := (dC, dI)) (C := RX5) (T := TX5) (N := 26) (v := .int 1) (ty := .int) hx hb hts (fi_X5 _) tyX5 tyX5_ok nmX5 hown hK hP hD hS 0 (mw_at0 _ _ _) rfl 0 (by decide) (hts _ (List.mem_cons_of_mem _ wd_237)) (fun _ h9 => h9) rfl (by decide +kernel) rfl rfl (Nat.le_of_ble_eq_true rfl) dX5_rule_44 (fun H locs hP hD hS => ?_)
          have hP : va_P (dC, dI) vwCl (mw g h (s_mcode u 1)) H := hP
          have hD : va_D A (mw g h (s_mcode u 1)) := hD
          refine lv_aload_n hx hb dX5_rule_47 rfl (lv_at hl 0 rfl) ?_
          refine va_get (D := (dC, dI)) (C := RX5) (T := TX5) (N := 26) (v := .int 1) hx hb hts (fi_X5 _) hown hK hP 0 (mw_at0 _ _ _) rfl 0 (by decide) (hts _ (List.mem_cons_of_mem _ wd_237)) (fun _ h9 => h9) rfl dX5_rule_48 ?_
          refine lv_if_le (tgt := 55) hx hb dX5_rule_51 (by decide) (fun c_35 => ?_) (fun c_35 => ?_)
          · skip
            exact absurd c_35 (by decide)
          · skip
            exact W.vret hx hb hr (fun t ht hW => ⟨⟨(s_mcode u 1), rfl, (by unfold fX5_rule; rw [if_neg c_2, if_neg c_9, if_pos c_15, if_pos c_28]), by rw [ht]; exact hP, hD⟩, hS.F ht⟩) hS.2.2 dX5_rule_54
set_option maxHeartbeats 4000000 in
set_option maxRecDepth 100000 in
theorem kX5_wants (l : Launch) (dC : Nat → ClassId) (dI : Nat → Nat → Nat) (g : cG) (h : Nat → Nat) (u : mS) (sz : Nat) (x1 : Int32) (x2 : Int32) (hI : mInv u) : Met l yX5_wants wsX5_wants ({ frames := 1, cells := 0, slots := 0, locals := 22 }) (va_Pc [.ref (h 0), .int x1, .int x2] (fun U => U.heap.size = sz ∧ va_P (dC, dI) vwCl (mw g h u) U.heap ∧ va_K (dC, dI) vwCl (cTys g) U ∧ va_D (fun _ => True) (mw g h u))) (va_Qv (fun u2 => u2 = fX5_wants u x1 x2) (fun (u2 : mS) (t : State) => va_P (dC, dI) vwCl (mw g h u2) t.heap ∧ va_D (va_A (mw g h u) sz) (mw g h u2)) (va_A (mw g h u) sz)) 0 0 (va_A (mw g h u) sz) := by
  refine Met.ofW (cc := cX5_wants) (maxL := 3) (ret := none) (by decide) rfl ?_
  intro p e s m args below meth c s₁ B hml hv
  obtain ⟨rfl, hsz, hP, hK, hD0⟩ := hv
  have hx := B.exec
  have hb := B.bytes
  have hr := B.returns
  have hts := atoms_spec (ws := wsX5_wants) B.pre
  have hown : s.vm.findClass RX5 = some m.cls := findClass_of_methodNamed B.named
  have hlocks := B.notSynchronized
  subst hsz
  have hD := hD0.self (sz := s.heap.size)
  generalize hAe : va_A (mw g h u) s.heap.size = A at hD ⊢
  have hA : ∀ q : Nat, s.heap.size ≤ q → A q := fun q h => by rw [← hAe]; exact Or.inr h
  have hS : va_S A s.heap s.heap [] := va_S.rf
  have hl := lv_entry ([.ref (h 0), .int x1, .int x2]) (n := 3) (Nat.le_of_ble_eq_true rfl)
  rw [lg_entry_eq]
  generalize (lg_sl ([.ref (h 0), .int x1, .int x2]) ++ List.replicate (3 - (lg_sl ([.ref (h 0), .int x1, .int x2])).length) Slot.unset).toArray = ls at hl ⊢
  have hl : lv_has ls 3 [(0, .ref (h 0)), (1, .int x1), (2, .int x2)] := hl
  obtain ⟨hI1, hI2, hI3, hI4, hI5, hI6, hI7⟩ := id hI
  have z_0 : (0 : Int32).toInt = 0 := by decide
  have z_1 : (7 : Int32).toInt = 7 := by decide
  have z_2 : (1 : Int32).toInt = 1 := by decide
  have z_3 : (1000 : Int32).toInt = 1000 := by decide
  refine lv_aload_n hx hb dX5_wants_0 rfl (lv_at hl 0 rfl) ?_
  refine lv_iload_n hx hb dX5_wants_1 rfl (lv_at hl 1 rfl) ?_
  refine lv_iconst (v := 0) hx hb dX5_wants_2 (by decide) ?_
  refine lv_bipush (v := 7) hx hb dX5_wants_3 (by decide) ?_
  refine vp_callSi (W.runS (As := [.int x1, .int 0, .int 7]) (rest := [.ref (h 0)]) ⟨hx, hb, hml, hown, hts⟩ (kX5_in l dC dI x1 0 7) (cwS 3 hts (gS wd_239 wd_240 wd_241 wcX5_in) rfl rfl rfl (by decide +kernel) ⟨(Nat.le_of_ble_eq_true rfl), (Nat.le_of_ble_eq_true rfl)⟩) ⟨fun a U g mk q => by obtain ⟨q0, qT⟩ := q; exact ⟨q0, qT⟩, fun U hU hW => ⟨rfl, trivial⟩⟩ rfl rfl hl.1 rfl (lv_room (Nat.le_of_ble_eq_true rfl)) dX5_wants_5 ⟨(Nat.le_of_ble_eq_true rfl), (Nat.le_of_ble_eq_true rfl)⟩) (fun r_1 hw => ?_)
  subst hw
  refine lv_if_eq (tgt := 22) hx hb dX5_wants_8 (by decide) (fun c_2 => ?_) (fun c_2 => ?_)
  · skip
    have t_3 : (fX5_in x1 0 7).toInt = 0 := i_eq c_2 rfl (by decide)
    refine lv_iconst (v := 1) hx hb dX5_wants_22 (by decide) ?_
    refine lv_goto (tgt := 27) hx hb dX5_wants_23 (by decide) ?_
    refine va_put (D := (dC, dI)) (C := RX5) (T := TX5) (N := 26) (v := .int 1) (ty := .int) hx hb hts (fi_X5 _) tyX5 tyX5_ok nmX5 hown hK hP hD hS 0 (mw_at0 _ _ _) rfl 0 (by decide) (hts _ (List.mem_cons_of_mem _ wd_237)) (fun _ h9 => h9) rfl (by decide +kernel) rfl rfl (Nat.le_of_ble_eq_true rfl) dX5_wants_27 (fun H locs hP hD hS => ?_)
    have hP : va_P (dC, dI) vwCl (mw g h (s_mcode u 1)) H := hP
    have hD : va_D A (mw g h (s_mcode u 1)) := hD
    refine lv_aload_n hx hb dX5_wants_30 rfl (lv_at hl 0 rfl) ?_
    refine va_get (D := (dC, dI)) (C := RX5) (T := TX5) (N := 26) (v := .int 1) hx hb hts (fi_X5 _) hown hK hP 0 (mw_at0 _ _ _) rfl 0 (by decide) (hts _ (List.mem_cons_of_mem _ wd_237)) (fun _ h9 => h9) rfl dX5_wants_31 ?_
    refine lv_if_ne (tgt := 44) hx hb dX5_wants_34 (by decide) (fun c_4 => ?_) (fun c_4 => ?_)
    · skip
      exact W.vret hx hb hr (fun t ht hW => ⟨⟨(s_mcode u 1), rfl, (by unfold fX5_wants; rw [if_pos c_2]), by rw [ht]; exact hP, hD⟩, hS.F ht⟩) hS.2.2 dX5_wants_44
    · skip
      exact absurd c_4 (by decide)
  · skip
    have t_5 : (fX5_in x1 0 7).toInt ≠ 0 := i_ne c_2 rfl (by decide)
    have t_6 := in_lo c_2
    have t_7 := in_hi c_2
    refine lv_iload_n hx hb dX5_wants_11 rfl (lv_at hl 2 rfl) ?_
    refine lv_iconst (v := 1) hx hb dX5_wants_12 (by decide) ?_
    refine lv_sipush (v := 1000) hx hb dX5_wants_13 (by decide) ?_
    refine vp_callSi (W.runS (As := [.int x2, .int 1, .int 1000]) (rest := [.ref (h 0)]) ⟨hx, hb, hml, hown, hts⟩ (kX5_in l dC dI x2 1 1000) (cwS 3 hts (gS wd_239 wd_240 wd_241 wcX5_in) rfl rfl rfl (by decide +kernel) ⟨(Nat.le_of_ble_eq_true rfl), (Nat.le_of_ble_eq_true rfl)⟩) ⟨fun a U g mk q => by obtain ⟨q0, qT⟩ := q; exact ⟨q0, qT⟩, fun U hU hW => ⟨rfl, trivial⟩⟩ rfl rfl hl.1 rfl (lv_room (Nat.le_of_ble_eq_true rfl)) dX5_wants_16 ⟨(Nat.le_of_ble_eq_true rfl), (Nat.le_of_ble_eq_true rfl)⟩) (fun r_8 hw => ?_)
    subst hw
    refine lv_if_ne (tgt := 26) hx hb dX5_wants_19 (by decide) (fun c_9 => ?_) (fun c_9 => ?_)
    · skip
      have t_10 : (fX5_in x2 1 1000).toInt ≠ 0 := i_ne c_9 rfl (by decide)
      have t_11 := in_lo c_9
      have t_12 := in_hi c_9
      refine lv_iconst (v := 0) hx hb dX5_wants_26 (by decide) ?_
      refine va_put (D := (dC, dI)) (C := RX5) (T := TX5) (N := 26) (v := .int 0) (ty := .int) hx hb hts (fi_X5 _) tyX5 tyX5_ok nmX5 hown hK hP hD hS 0 (mw_at0 _ _ _) rfl 0 (by decide) (hts _ (List.mem_cons_of_mem _ wd_237)) (fun _ h9 => h9) rfl (by decide +kernel) rfl rfl (Nat.le_of_ble_eq_true rfl) dX5_wants_27 (fun H locs hP hD hS => ?_)
      have hP : va_P (dC, dI) vwCl (mw g h (s_mcode u 0)) H := hP
      have hD : va_D A (mw g h (s_mcode u 0)) := hD
      refine lv_aload_n hx hb dX5_wants_30 rfl (lv_at hl 0 rfl) ?_
      refine va_get (D := (dC, dI)) (C := RX5) (T := TX5) (N := 26) (v := .int 0) hx hb hts (fi_X5 _) hown hK hP 0 (mw_at0 _ _ _) rfl 0 (by decide) (hts _ (List.mem_cons_of_mem _ wd_237)) (fun _ h9 => h9) rfl dX5_wants_31 ?_
      refine lv_if_ne (tgt := 44) hx hb dX5_wants_34 (by decide) (fun c_13 => ?_) (fun c_13 => ?_)
      · skip
        exact absurd (by decide) c_13
      · skip
        refine lv_aload_n hx hb dX5_wants_37 rfl (lv_at hl 0 rfl) ?_
        refine va_get (D := (dC, dI)) (C := RX5) (T := TX5) (N := 26) (v := .ref (h 11)) hx hb hts (fi_X5 _) hown hK hP 0 (mw_at0 _ _ _) rfl 12 (by decide) (hts _ (List.mem_cons_of_mem _ wd_260)) (fun _ h9 => h9) rfl dX5_wants_38 ?_
        refine lv_iload_n hx hb dX5_wants_41 rfl (lv_at hl 1 rfl) ?_
        refine lv_iload_n hx hb dX5_wants_42 rfl (lv_at hl 2 rfl) ?_
        refine va_iast (f := k_mwant u) hx hb hK hP hD hS 11 0 (mw_at11 _ _ _) rfl (vp_in_iff.mpr (by omega)) dX5_wants_43 (fun H locs hP hD hS => ?_)
        have hP : va_P (dC, dI) vwCl (mw g h (s_mwant (s_mcode u 0) (upd (k_mwant u) x1.toNatClampNeg x2))) H := hP
        have hD : va_D A (mw g h (s_mwant (s_mcode u 0) (upd (k_mwant u) x1.toNatClampNeg x2))) := hD
        exact W.vret hx hb hr (fun t ht hW => ⟨⟨(s_mwant (s_mcode u 0) (upd (k_mwant u) x1.toNatClampNeg x2)), rfl, (by unfold fX5_wants; rw [if_neg c_2, if_neg c_9]), by rw [ht]; exact hP, hD⟩, hS.F ht⟩) hS.2.2 dX5_wants_44
    · skip
      have t_14 : (fX5_in x2 1 1000).toInt = 0 := i_eq c_9 rfl (by decide)
      refine lv_iconst (v := 1) hx hb dX5_wants_22 (by decide) ?_
      refine lv_goto (tgt := 27) hx hb dX5_wants_23 (by decide) ?_
      refine va_put (D := (dC, dI)) (C := RX5) (T := TX5) (N := 26) (v := .int 1) (ty := .int) hx hb hts (fi_X5 _) tyX5 tyX5_ok nmX5 hown hK hP hD hS 0 (mw_at0 _ _ _) rfl 0 (by decide) (hts _ (List.mem_cons_of_mem _ wd_237)) (fun _ h9 => h9) rfl (by decide +kernel) rfl rfl (Nat.le_of_ble_eq_true rfl) dX5_wants_27 (fun H locs hP hD hS => ?_)
      have hP : va_P (dC, dI) vwCl (mw g h (s_mcode u 1)) H := hP
      have hD : va_D A (mw g h (s_mcode u 1)) := hD
      refine lv_aload_n hx hb dX5_wants_30 rfl (lv_at hl 0 rfl) ?_
      refine va_get (D := (dC, dI)) (C := RX5) (T := TX5) (N := 26) (v := .int 1) hx hb hts (fi_X5 _) hown hK hP 0 (mw_at0 _ _ _) rfl 0 (by decide) (hts _ (List.mem_cons_of_mem _ wd_237)) (fun _ h9 => h9) rfl dX5_wants_31 ?_
      refine lv_if_ne (tgt := 44) hx hb dX5_wants_34 (by decide) (fun c_15 => ?_) (fun c_15 => ?_)
      · skip
        exact W.vret hx hb hr (fun t ht hW => ⟨⟨(s_mcode u 1), rfl, (by unfold fX5_wants; rw [if_neg c_2, if_pos c_9]), by rw [ht]; exact hP, hD⟩, hS.F ht⟩) hS.2.2 dX5_wants_44
      · skip
        exact absurd c_15 (by decide)
set_option maxHeartbeats 4000000 in
set_option maxRecDepth 100000 in
theorem kX5_right (l : Launch) (dC : Nat → ClassId) (dI : Nat → Nat → Nat) (g : cG) (h : Nat → Nat) (u : mS) (sz : Nat) (x1 : Int32) (x2 : Int32) (x3 : Int32) (hI : mInv u) : Met l yX5_right wsX5_right ({ frames := 1, cells := 0, slots := 0, locals := 22 }) (va_Pc [.ref (h 0), .int x1, .int x2, .int x3] (fun U => U.heap.size = sz ∧ va_P (dC, dI) vwCl (mw g h u) U.heap ∧ va_K (dC, dI) vwCl (cTys g) U ∧ va_D (fun _ => True) (mw g h u))) (va_Qv (fun u2 => u2 = fX5_right u x1 x2 x3) (fun (u2 : mS) (t : State) => va_P (dC, dI) vwCl (mw g h u2) t.heap ∧ va_D (va_A (mw g h u) sz) (mw g h u2)) (va_A (mw g h u) sz)) 0 0 (va_A (mw g h u) sz) := by
  refine Met.ofW (cc := cX5_right) (maxL := 4) (ret := none) (by decide) rfl ?_
  intro p e s m args below meth c s₁ B hml hv
  obtain ⟨rfl, hsz, hP, hK, hD0⟩ := hv
  have hx := B.exec
  have hb := B.bytes
  have hr := B.returns
  have hts := atoms_spec (ws := wsX5_right) B.pre
  have hown : s.vm.findClass RX5 = some m.cls := findClass_of_methodNamed B.named
  have hlocks := B.notSynchronized
  subst hsz
  have hD := hD0.self (sz := s.heap.size)
  generalize hAe : va_A (mw g h u) s.heap.size = A at hD ⊢
  have hA : ∀ q : Nat, s.heap.size ≤ q → A q := fun q h => by rw [← hAe]; exact Or.inr h
  have hS : va_S A s.heap s.heap [] := va_S.rf
  have hl := lv_entry ([.ref (h 0), .int x1, .int x2, .int x3]) (n := 4) (Nat.le_of_ble_eq_true rfl)
  rw [lg_entry_eq]
  generalize (lg_sl ([.ref (h 0), .int x1, .int x2, .int x3]) ++ List.replicate (4 - (lg_sl ([.ref (h 0), .int x1, .int x2, .int x3])).length) Slot.unset).toArray = ls at hl ⊢
  have hl : lv_has ls 4 [(0, .ref (h 0)), (1, .int x1), (2, .int x2), (3, .int x3)] := hl
  obtain ⟨hI1, hI2, hI3, hI4, hI5, hI6, hI7⟩ := id hI
  have z_0 : (0 : Int32).toInt = 0 := by decide
  have z_1 : (7 : Int32).toInt = 7 := by decide
  have z_2 : (1 : Int32).toInt = 1 := by decide
  have z_3 : (9 : Int32).toInt = 9 := by decide
  refine lv_aload_n hx hb dX5_right_0 rfl (lv_at hl 0 rfl) ?_
  refine lv_iload_n hx hb dX5_right_1 rfl (lv_at hl 1 rfl) ?_
  refine lv_iconst (v := 0) hx hb dX5_right_2 (by decide) ?_
  refine lv_bipush (v := 7) hx hb dX5_right_3 (by decide) ?_
  refine vp_callSi (W.runS (As := [.int x1, .int 0, .int 7]) (rest := [.ref (h 0)]) ⟨hx, hb, hml, hown, hts⟩ (kX5_in l dC dI x1 0 7) (cwS 3 hts (gS wd_239 wd_240 wd_241 wcX5_in) rfl rfl rfl (by decide +kernel) ⟨(Nat.le_of_ble_eq_true rfl), (Nat.le_of_ble_eq_true rfl)⟩) ⟨fun a U g mk q => by obtain ⟨q0, qT⟩ := q; exact ⟨q0, qT⟩, fun U hU hW => ⟨rfl, trivial⟩⟩ rfl rfl hl.1 rfl (lv_room (Nat.le_of_ble_eq_true rfl)) dX5_right_5 ⟨(Nat.le_of_ble_eq_true rfl), (Nat.le_of_ble_eq_true rfl)⟩) (fun r_1 hw => ?_)
  subst hw
  refine lv_if_eq (tgt := 21) hx hb dX5_right_8 (by decide) (fun c_2 => ?_) (fun c_2 => ?_)
  · skip
    have t_3 : (fX5_in x1 0 7).toInt = 0 := i_eq c_2 rfl (by decide)
    refine lv_iconst (v := 1) hx hb dX5_right_21 (by decide) ?_
    refine lv_goto (tgt := 26) hx hb dX5_right_22 (by decide) ?_
    refine va_put (D := (dC, dI)) (C := RX5) (T := TX5) (N := 26) (v := .int 1) (ty := .int) hx hb hts (fi_X5 _) tyX5 tyX5_ok nmX5 hown hK hP hD hS 0 (mw_at0 _ _ _) rfl 0 (by decide) (hts _ (List.mem_cons_of_mem _ wd_237)) (fun _ h9 => h9) rfl (by decide +kernel) rfl rfl (Nat.le_of_ble_eq_true rfl) dX5_right_26 (fun H locs hP hD hS => ?_)
    have hP : va_P (dC, dI) vwCl (mw g h (s_mcode u 1)) H := hP
    have hD : va_D A (mw g h (s_mcode u 1)) := hD
    refine lv_aload_n hx hb dX5_right_29 rfl (lv_at hl 0 rfl) ?_
    refine va_get (D := (dC, dI)) (C := RX5) (T := TX5) (N := 26) (v := .int 1) hx hb hts (fi_X5 _) hown hK hP 0 (mw_at0 _ _ _) rfl 0 (by decide) (hts _ (List.mem_cons_of_mem _ wd_237)) (fun _ h9 => h9) rfl dX5_right_30 ?_
    refine lv_if_ne (tgt := 71) hx hb dX5_right_33 (by decide) (fun c_4 => ?_) (fun c_4 => ?_)
    · skip
      exact W.vret hx hb hr (fun t ht hW => ⟨⟨(s_mcode u 1), rfl, (by unfold fX5_right; rw [if_pos c_2]), by rw [ht]; exact hP, hD⟩, hS.F ht⟩) hS.2.2 dX5_right_71
    · skip
      exact absurd c_4 (by decide)
  · skip
    have t_5 : (fX5_in x1 0 7).toInt ≠ 0 := i_ne c_2 rfl (by decide)
    have t_6 := in_lo c_2
    have t_7 := in_hi c_2
    refine lv_iload_n hx hb dX5_right_11 rfl (lv_at hl 2 rfl) ?_
    refine lv_iconst (v := 1) hx hb dX5_right_12 (by decide) ?_
    refine lv_bipush (v := 9) hx hb dX5_right_13 (by decide) ?_
    refine vp_callSi (W.runS (As := [.int x2, .int 1, .int 9]) (rest := [.ref (h 0)]) ⟨hx, hb, hml, hown, hts⟩ (kX5_in l dC dI x2 1 9) (cwS 3 hts (gS wd_239 wd_240 wd_241 wcX5_in) rfl rfl rfl (by decide +kernel) ⟨(Nat.le_of_ble_eq_true rfl), (Nat.le_of_ble_eq_true rfl)⟩) ⟨fun a U g mk q => by obtain ⟨q0, qT⟩ := q; exact ⟨q0, qT⟩, fun U hU hW => ⟨rfl, trivial⟩⟩ rfl rfl hl.1 rfl (lv_room (Nat.le_of_ble_eq_true rfl)) dX5_right_15 ⟨(Nat.le_of_ble_eq_true rfl), (Nat.le_of_ble_eq_true rfl)⟩) (fun r_8 hw => ?_)
    subst hw
    refine lv_if_ne (tgt := 25) hx hb dX5_right_18 (by decide) (fun c_9 => ?_) (fun c_9 => ?_)
    · skip
      have t_10 : (fX5_in x2 1 9).toInt ≠ 0 := i_ne c_9 rfl (by decide)
      have t_11 := in_lo c_9
      have t_12 := in_hi c_9
      refine lv_iconst (v := 0) hx hb dX5_right_25 (by decide) ?_
      refine va_put (D := (dC, dI)) (C := RX5) (T := TX5) (N := 26) (v := .int 0) (ty := .int) hx hb hts (fi_X5 _) tyX5 tyX5_ok nmX5 hown hK hP hD hS 0 (mw_at0 _ _ _) rfl 0 (by decide) (hts _ (List.mem_cons_of_mem _ wd_237)) (fun _ h9 => h9) rfl (by decide +kernel) rfl rfl (Nat.le_of_ble_eq_true rfl) dX5_right_26 (fun H locs hP hD hS => ?_)
      have hP : va_P (dC, dI) vwCl (mw g h (s_mcode u 0)) H := hP
      have hD : va_D A (mw g h (s_mcode u 0)) := hD
      refine lv_aload_n hx hb dX5_right_29 rfl (lv_at hl 0 rfl) ?_
      refine va_get (D := (dC, dI)) (C := RX5) (T := TX5) (N := 26) (v := .int 0) hx hb hts (fi_X5 _) hown hK hP 0 (mw_at0 _ _ _) rfl 0 (by decide) (hts _ (List.mem_cons_of_mem _ wd_237)) (fun _ h9 => h9) rfl dX5_right_30 ?_
      refine lv_if_ne (tgt := 71) hx hb dX5_right_33 (by decide) (fun c_13 => ?_) (fun c_13 => ?_)
      · skip
        exact absurd (by decide) c_13
      · skip
        refine lv_aload_n hx hb dX5_right_36 rfl (lv_at hl 0 rfl) ?_
        refine va_get (D := (dC, dI)) (C := RX5) (T := TX5) (N := 26) (v := .ref (h 12)) hx hb hts (fi_X5 _) hown hK hP 0 (mw_at0 _ _ _) rfl 13 (by decide) (hts _ (List.mem_cons_of_mem _ wd_287)) (fun _ h9 => h9) rfl dX5_right_37 ?_
        refine lv_iload_n hx hb dX5_right_40 rfl (lv_at hl 1 rfl) ?_
        refine lv_iload_n hx hb dX5_right_41 rfl (lv_at hl 3 rfl) ?_
        refine lv_if_eq (tgt := 58) hx hb dX5_right_42 (by decide) (fun c_14 => ?_) (fun c_14 => ?_)
        · skip
          have t_15 : x3.toInt = 0 := i_eq c_14 rfl (by decide)
          refine lv_aload_n hx hb dX5_right_58 rfl (lv_at hl 0 rfl) ?_
          refine va_get (D := (dC, dI)) (C := RX5) (T := TX5) (N := 26) (v := .ref (h 12)) hx hb hts (fi_X5 _) hown hK hP 0 (mw_at0 _ _ _) rfl 13 (by decide) (hts _ (List.mem_cons_of_mem _ wd_287)) (fun _ h9 => h9) rfl dX5_right_59 ?_
          refine lv_iload_n hx hb dX5_right_62 rfl (lv_at hl 1 rfl) ?_
          refine va_iald (f := k_mrights u) hx hb hK hP 12 0 (mw_at12 _ _ _) rfl (vp_in_iff.mpr (by omega)) dX5_right_63 ?_
          refine lv_iconst (v := 1) hx hb dX5_right_64 (by decide) ?_
          refine lv_iload_n hx hb dX5_right_65 rfl (lv_at hl 2 rfl) ?_
          refine lv_ishl hx hb dX5_right_66 ?_
          refine lv_iconst (v := (-1)) hx hb dX5_right_67 (by decide) ?_
          refine lv_ixor hx hb dX5_right_68 ?_
          refine lv_iand hx hb dX5_right_69 ?_
          refine va_iast (f := k_mrights u) hx hb hK hP hD hS 12 0 (mw_at12 _ _ _) rfl (vp_in_iff.mpr (by omega)) dX5_right_70 (fun H locs hP hD hS => ?_)
          have hP : va_P (dC, dI) vwCl (mw g h (s_mrights (s_mcode u 0) (upd (k_mrights u) x1.toNatClampNeg ((k_mrights u x1.toNatClampNeg) &&& (((1 : Int32) <<< (x2 &&& 31)) ^^^ (-1)))))) H := hP
          have hD : va_D A (mw g h (s_mrights (s_mcode u 0) (upd (k_mrights u) x1.toNatClampNeg ((k_mrights u x1.toNatClampNeg) &&& (((1 : Int32) <<< (x2 &&& 31)) ^^^ (-1)))))) := hD
          exact W.vret hx hb hr (fun t ht hW => ⟨⟨(s_mrights (s_mcode u 0) (upd (k_mrights u) x1.toNatClampNeg ((k_mrights u x1.toNatClampNeg) &&& (((1 : Int32) <<< (x2 &&& 31)) ^^^ (-1))))), rfl, (by unfold fX5_right; rw [if_neg c_2, if_neg c_9, if_pos c_14]), by rw [ht]; exact hP, hD⟩, hS.F ht⟩) hS.2.2 dX5_right_71
        · skip
          have t_16 : x3.toInt ≠ 0 := i_ne c_14 rfl (by decide)
          refine lv_aload_n hx hb dX5_right_45 rfl (lv_at hl 0 rfl) ?_
          refine va_get (D := (dC, dI)) (C := RX5) (T := TX5) (N := 26) (v := .ref (h 12)) hx hb hts (fi_X5 _) hown hK hP 0 (mw_at0 _ _ _) rfl 13 (by decide) (hts _ (List.mem_cons_of_mem _ wd_287)) (fun _ h9 => h9) rfl dX5_right_46 ?_
          refine lv_iload_n hx hb dX5_right_49 rfl (lv_at hl 1 rfl) ?_
          refine va_iald (f := k_mrights u) hx hb hK hP 12 0 (mw_at12 _ _ _) rfl (vp_in_iff.mpr (by omega)) dX5_right_50 ?_
          refine lv_iconst (v := 1) hx hb dX5_right_51 (by decide) ?_
          refine lv_iload_n hx hb dX5_right_52 rfl (lv_at hl 2 rfl) ?_
          refine lv_ishl hx hb dX5_right_53 ?_
          refine lv_ior hx hb dX5_right_54 ?_
          refine lv_goto (tgt := 70) hx hb dX5_right_55 (by decide) ?_
          refine va_iast (f := k_mrights u) hx hb hK hP hD hS 12 0 (mw_at12 _ _ _) rfl (vp_in_iff.mpr (by omega)) dX5_right_70 (fun H locs hP hD hS => ?_)
          have hP : va_P (dC, dI) vwCl (mw g h (s_mrights (s_mcode u 0) (upd (k_mrights u) x1.toNatClampNeg ((k_mrights u x1.toNatClampNeg) ||| ((1 : Int32) <<< (x2 &&& 31)))))) H := hP
          have hD : va_D A (mw g h (s_mrights (s_mcode u 0) (upd (k_mrights u) x1.toNatClampNeg ((k_mrights u x1.toNatClampNeg) ||| ((1 : Int32) <<< (x2 &&& 31)))))) := hD
          exact W.vret hx hb hr (fun t ht hW => ⟨⟨(s_mrights (s_mcode u 0) (upd (k_mrights u) x1.toNatClampNeg ((k_mrights u x1.toNatClampNeg) ||| ((1 : Int32) <<< (x2 &&& 31))))), rfl, (by unfold fX5_right; rw [if_neg c_2, if_neg c_9, if_neg c_14]), by rw [ht]; exact hP, hD⟩, hS.F ht⟩) hS.2.2 dX5_right_71
    · skip
      have t_17 : (fX5_in x2 1 9).toInt = 0 := i_eq c_9 rfl (by decide)
      refine lv_iconst (v := 1) hx hb dX5_right_21 (by decide) ?_
      refine lv_goto (tgt := 26) hx hb dX5_right_22 (by decide) ?_
      refine va_put (D := (dC, dI)) (C := RX5) (T := TX5) (N := 26) (v := .int 1) (ty := .int) hx hb hts (fi_X5 _) tyX5 tyX5_ok nmX5 hown hK hP hD hS 0 (mw_at0 _ _ _) rfl 0 (by decide) (hts _ (List.mem_cons_of_mem _ wd_237)) (fun _ h9 => h9) rfl (by decide +kernel) rfl rfl (Nat.le_of_ble_eq_true rfl) dX5_right_26 (fun H locs hP hD hS => ?_)
      have hP : va_P (dC, dI) vwCl (mw g h (s_mcode u 1)) H := hP
      have hD : va_D A (mw g h (s_mcode u 1)) := hD
      refine lv_aload_n hx hb dX5_right_29 rfl (lv_at hl 0 rfl) ?_
      refine va_get (D := (dC, dI)) (C := RX5) (T := TX5) (N := 26) (v := .int 1) hx hb hts (fi_X5 _) hown hK hP 0 (mw_at0 _ _ _) rfl 0 (by decide) (hts _ (List.mem_cons_of_mem _ wd_237)) (fun _ h9 => h9) rfl dX5_right_30 ?_
      refine lv_if_ne (tgt := 71) hx hb dX5_right_33 (by decide) (fun c_18 => ?_) (fun c_18 => ?_)
      · skip
        exact W.vret hx hb hr (fun t ht hW => ⟨⟨(s_mcode u 1), rfl, (by unfold fX5_right; rw [if_neg c_2, if_pos c_9]), by rw [ht]; exact hP, hD⟩, hS.F ht⟩) hS.2.2 dX5_right_71
      · skip
        exact absurd c_18 (by decide)
set_option maxHeartbeats 4000000 in
set_option maxRecDepth 100000 in
theorem kX5_block (l : Launch) (dC : Nat → ClassId) (dI : Nat → Nat → Nat) (g : cG) (h : Nat → Nat) (u : mS) (sz : Nat) (x1 : Int32) (x2 : Int32) (hI : mInv u) : Met l yX5_block wsX5_block ({ frames := 2, cells := 0, slots := 0, locals := 43 }) (va_Pc [.ref (h 0), .int x1, .int x2] (fun U => U.heap.size = sz ∧ va_P (dC, dI) vwCl (mw g h u) U.heap ∧ va_K (dC, dI) vwCl (cTys g) U ∧ va_D (fun _ => True) (mw g h u))) (va_Qi (fun (r : Int32) u2 => (r, u2) = fX5_block u x1 x2) (fun (u2 : mS) (t : State) => va_P (dC, dI) vwCl (mw g h u2) t.heap ∧ va_D (va_A (mw g h u) sz) (mw g h u2)) (va_A (mw g h u) sz)) 0 0 (va_A (mw g h u) sz) := by
  refine Met.ofW (cc := cX5_block) (maxL := 3) (ret := (some .int)) (by decide) rfl ?_
  intro p e s m args below meth c s₁ B hml hv
  obtain ⟨rfl, hsz, hP, hK, hD0⟩ := hv
  have hx := B.exec
  have hb := B.bytes
  have hr := B.returns
  have hts := atoms_spec (ws := wsX5_block) B.pre
  have hown : s.vm.findClass RX5 = some m.cls := findClass_of_methodNamed B.named
  have hlocks := B.notSynchronized
  subst hsz
  have hD := hD0.self (sz := s.heap.size)
  generalize hAe : va_A (mw g h u) s.heap.size = A at hD ⊢
  have hA : ∀ q : Nat, s.heap.size ≤ q → A q := fun q h => by rw [← hAe]; exact Or.inr h
  have hS : va_S A s.heap s.heap [] := va_S.rf
  have hl := lv_entry ([.ref (h 0), .int x1, .int x2]) (n := 3) (Nat.le_of_ble_eq_true rfl)
  rw [lg_entry_eq]
  generalize (lg_sl ([.ref (h 0), .int x1, .int x2]) ++ List.replicate (3 - (lg_sl ([.ref (h 0), .int x1, .int x2])).length) Slot.unset).toArray = ls at hl ⊢
  have hl : lv_has ls 3 [(0, .ref (h 0)), (1, .int x1), (2, .int x2)] := hl
  obtain ⟨hI1, hI2, hI3, hI4, hI5, hI6, hI7⟩ := id hI
  have z_0 : (0 : Int32).toInt = 0 := by decide
  have z_1 : (1 : Int32).toInt = 1 := by decide
  have z_2 : (9 : Int32).toInt = 9 := by decide
  refine lv_aload_n hx hb dX5_block_0 rfl (lv_at hl 0 rfl) ?_
  refine lv_aload_n hx hb dX5_block_1 rfl (lv_at hl 0 rfl) ?_
  refine lv_iload_n hx hb dX5_block_2 rfl (lv_at hl 1 rfl) ?_
  refine vp_callSi (W.runV (As := [.int x1]) (rest := [.ref (h 0)]) ⟨hx, hb, hml, hown, hts⟩ (kX5_isLot l dC dI g h u x1) (cwV 1 hts (gV wd_288 wd_289 wd_290 wd_241 wcX5_isLot) rfl rfl rfl (by decide +kernel) ⟨(Nat.le_of_ble_eq_true rfl), (Nat.le_of_ble_eq_true rfl)⟩) ⟨fun a U g mk q => by obtain ⟨q0, qP, qK⟩ := q; exact ⟨q0, qP, va_K.moved (u := U) (U := U.calling g mk a) (Vm.Alike.refl U.vm) qK⟩, va_recv hK hP (ci := 4) (q0 := 0) rfl (mw_at0 _ _ _), fun U hU hW => ⟨rfl, by rw [hU]; exact hP, va_K.moved hW.alike hK⟩⟩ rfl rfl hl.1 rfl (lv_room (Nat.le_of_ble_eq_true rfl)) dX5_block_3 ⟨(Nat.le_of_ble_eq_true rfl), (Nat.le_of_ble_eq_true rfl)⟩) (fun r_1 hw => ?_)
  subst hw
  refine lv_if_ne (tgt := 13) hx hb dX5_block_6 (by decide) (fun c_2 => ?_) (fun c_2 => ?_)
  · skip
    have t_3 : (fX5_isLot u x1).toInt ≠ 0 := i_ne c_2 rfl (by decide)
    have t_4 := il_lo c_2
    have t_5 := il_hi c_2
    refine lv_iload_n hx hb dX5_block_13 rfl (lv_at hl 2 rfl) ?_
    refine lv_iconst (v := 1) hx hb dX5_block_14 (by decide) ?_
    refine lv_bipush (v := 9) hx hb dX5_block_15 (by decide) ?_
    refine vp_callSi (W.runS (As := [.int x2, .int 1, .int 9]) (rest := [.ref (h 0)]) ⟨hx, hb, hml, hown, hts⟩ (kX5_in l dC dI x2 1 9) (cwS 3 hts (gS wd_239 wd_240 wd_241 wcX5_in) rfl rfl rfl (by decide +kernel) ⟨(Nat.le_of_ble_eq_true rfl), (Nat.le_of_ble_eq_true rfl)⟩) ⟨fun a U g mk q => by obtain ⟨q0, qT⟩ := q; exact ⟨q0, qT⟩, fun U hU hW => ⟨rfl, trivial⟩⟩ rfl rfl hl.1 rfl (lv_room (Nat.le_of_ble_eq_true rfl)) dX5_block_17 ⟨(Nat.le_of_ble_eq_true rfl), (Nat.le_of_ble_eq_true rfl)⟩) (fun r_6 hw => ?_)
    subst hw
    refine lv_if_ne (tgt := 27) hx hb dX5_block_20 (by decide) (fun c_7 => ?_) (fun c_7 => ?_)
    · skip
      have t_8 : (fX5_in x2 1 9).toInt ≠ 0 := i_ne c_7 rfl (by decide)
      have t_9 := in_lo c_7
      have t_10 := in_hi c_7
      refine lv_iconst (v := 0) hx hb dX5_block_27 (by decide) ?_
      refine va_put (D := (dC, dI)) (C := RX5) (T := TX5) (N := 26) (v := .int 0) (ty := .int) hx hb hts (fi_X5 _) tyX5 tyX5_ok nmX5 hown hK hP hD hS 0 (mw_at0 _ _ _) rfl 0 (by decide) (hts _ (List.mem_cons_of_mem _ wd_237)) (fun _ h9 => h9) rfl (by decide +kernel) rfl rfl (Nat.le_of_ble_eq_true rfl) dX5_block_28 (fun H locs hP hD hS => ?_)
      have hP : va_P (dC, dI) vwCl (mw g h (s_mcode u 0)) H := hP
      have hD : va_D A (mw g h (s_mcode u 0)) := hD
      refine lv_aload_n hx hb dX5_block_31 rfl (lv_at hl 0 rfl) ?_
      refine va_get (D := (dC, dI)) (C := RX5) (T := TX5) (N := 26) (v := .int 0) hx hb hts (fi_X5 _) hown hK hP 0 (mw_at0 _ _ _) rfl 0 (by decide) (hts _ (List.mem_cons_of_mem _ wd_237)) (fun _ h9 => h9) rfl dX5_block_32 ?_
      refine lv_if_ne (tgt := 83) hx hb dX5_block_35 (by decide) (fun c_11 => ?_) (fun c_11 => ?_)
      · skip
        exact absurd (by decide) c_11
      · skip
        refine lv_aload_n hx hb dX5_block_38 rfl (lv_at hl 0 rfl) ?_
        refine lv_aload_n hx hb dX5_block_39 rfl (lv_at hl 0 rfl) ?_
        refine lv_iload_n hx hb dX5_block_40 rfl (lv_at hl 1 rfl) ?_
        refine vp_callSi (W.runV (As := [.int x1]) (rest := [.ref (h 0)]) ⟨hx, hb, hml, hown, hts⟩ (kX5_isOpen l dC dI g h (s_mcode u 0) x1 (by omega)) (cwV 1 hts (gV wd_246 wd_247 wd_248 wd_241 wcX5_isOpen) rfl rfl rfl (by decide +kernel) ⟨(Nat.le_of_ble_eq_true rfl), (Nat.le_of_ble_eq_true rfl)⟩) ⟨fun a U g mk q => by obtain ⟨q0, qP, qK⟩ := q; exact ⟨q0, qP, va_K.moved (u := U) (U := U.calling g mk a) (Vm.Alike.refl U.vm) qK⟩, va_recv hK hP (ci := 4) (q0 := 0) rfl (mw_at0 _ _ _), fun U hU hW => ⟨rfl, by rw [hU]; exact hP, va_K.moved hW.alike hK⟩⟩ rfl rfl hl.1 rfl (lv_room (Nat.le_of_ble_eq_true rfl)) dX5_block_41 ⟨(Nat.le_of_ble_eq_true rfl), (Nat.le_of_ble_eq_true rfl)⟩) (fun r_12 hw => ?_)
        subst hw
        refine lv_if_eq (tgt := 61) hx hb dX5_block_44 (by decide) (fun c_13 => ?_) (fun c_13 => ?_)
        · skip
          have t_14 : (fX5_isOpen (s_mcode u 0) x1).toInt = 0 := i_eq c_13 rfl (by decide)
          refine lv_iconst (v := 3) hx hb dX5_block_61 (by decide) ?_
          refine lv_goto (tgt := 80) hx hb dX5_block_62 (by decide) ?_
          refine va_put (D := (dC, dI)) (C := RX5) (T := TX5) (N := 26) (v := .int 3) (ty := .int) hx hb hts (fi_X5 _) tyX5 tyX5_ok nmX5 hown hK hP hD hS 0 (mw_at0 _ _ _) rfl 0 (by decide) (hts _ (List.mem_cons_of_mem _ wd_237)) (fun _ h9 => h9) rfl (by decide +kernel) rfl rfl (Nat.le_of_ble_eq_true rfl) dX5_block_80 (fun H locs hP hD hS => ?_)
          have hP : va_P (dC, dI) vwCl (mw g h (s_mcode u 3)) H := hP
          have hD : va_D A (mw g h (s_mcode u 3)) := hD
          refine lv_aload_n hx hb dX5_block_83 rfl (lv_at hl 0 rfl) ?_
          refine va_get (D := (dC, dI)) (C := RX5) (T := TX5) (N := 26) (v := .int 3) hx hb hts (fi_X5 _) hown hK hP 0 (mw_at0 _ _ _) rfl 0 (by decide) (hts _ (List.mem_cons_of_mem _ wd_237)) (fun _ h9 => h9) rfl dX5_block_84 ?_
          refine lv_if_le (tgt := 92) hx hb dX5_block_87 (by decide) (fun c_15 => ?_) (fun c_15 => ?_)
          · skip
            exact absurd c_15 (by decide)
          · skip
            refine lv_iconst (v := 0) hx hb dX5_block_90 (by decide) ?_
            exact W.iret (v := 0) hx hb hr (fun t ht hW => ⟨⟨0, (s_mcode u 3), rfl, (by unfold fX5_block; rw [if_neg c_2, if_neg c_7, if_pos c_13]), by rw [ht]; exact hP, hD⟩, hS.F ht⟩) hS.2.2 dX5_block_91
        · skip
          have t_16 : (fX5_isOpen (s_mcode u 0) x1).toInt ≠ 0 := i_ne c_13 rfl (by decide)
          refine lv_aload_n hx hb dX5_block_47 rfl (lv_at hl 0 rfl) ?_
          refine va_get (D := (dC, dI)) (C := RX5) (T := TX5) (N := 26) (v := .ref (h 7)) hx hb hts (fi_X5 _) hown hK hP 0 (mw_at0 _ _ _) rfl 8 (by decide) (hts _ (List.mem_cons_of_mem _ wd_250)) (fun _ h9 => h9) rfl dX5_block_48 ?_
          refine lv_iload_n hx hb dX5_block_51 rfl (lv_at hl 1 rfl) ?_
          refine va_iald (f := k_mblk u) hx hb hK hP 7 0 (mw_at7 _ _ _) rfl (vp_in_iff.mpr (by omega)) dX5_block_52 ?_
          refine lv_iload_n hx hb dX5_block_53 rfl (lv_at hl 2 rfl) ?_
          refine lv_ishr hx hb dX5_block_54 ?_
          refine lv_iconst (v := 1) hx hb dX5_block_55 (by decide) ?_
          refine lv_iand hx hb dX5_block_56 ?_
          refine lv_iconst (v := 1) hx hb dX5_block_57 (by decide) ?_
          refine lv_icmp_ne (tgt := 65) hx hb dX5_block_58 (by decide) (fun c_17 => ?_) (fun c_17 => ?_)
          · skip
            have t_18 : (((k_mblk u x1.toNatClampNeg) >>> (x2 &&& 31)) &&& 1).toInt ≠ 1 := i_ne c_17 rfl (by decide)
            refine lv_aload_n hx hb dX5_block_65 rfl (lv_at hl 0 rfl) ?_
            refine va_get (D := (dC, dI)) (C := RX5) (T := TX5) (N := 26) (v := .int (k_mrows u)) hx hb hts (fi_X5 _) hown hK hP 0 (mw_at0 _ _ _) rfl 20 (by decide) (hts _ (List.mem_cons_of_mem _ wd_273)) (fun _ h9 => h9) rfl dX5_block_66 ?_
            refine lv_sipush (v := 400) hx hb dX5_block_69 (by decide) ?_
            refine lv_icmp_ne (tgt := 79) hx hb dX5_block_72 (by decide) (fun c_19 => ?_) (fun c_19 => ?_)
            · skip
              have t_20 : (k_mrows u).toInt ≠ 400 := i_ne c_19 rfl (by decide)
              refine lv_iconst (v := 0) hx hb dX5_block_79 (by decide) ?_
              refine va_put (D := (dC, dI)) (C := RX5) (T := TX5) (N := 26) (v := .int 0) (ty := .int) hx hb hts (fi_X5 _) tyX5 tyX5_ok nmX5 hown hK hP hD hS 0 (mw_at0 _ _ _) rfl 0 (by decide) (hts _ (List.mem_cons_of_mem _ wd_237)) (fun _ h9 => h9) rfl (by decide +kernel) rfl rfl (Nat.le_of_ble_eq_true rfl) dX5_block_80 (fun H locs hP hD hS => ?_)
              have hP : va_P (dC, dI) vwCl (mw g h (s_mcode u 0)) H := hP
              have hD : va_D A (mw g h (s_mcode u 0)) := hD
              refine lv_aload_n hx hb dX5_block_83 rfl (lv_at hl 0 rfl) ?_
              refine va_get (D := (dC, dI)) (C := RX5) (T := TX5) (N := 26) (v := .int 0) hx hb hts (fi_X5 _) hown hK hP 0 (mw_at0 _ _ _) rfl 0 (by decide) (hts _ (List.mem_cons_of_mem _ wd_237)) (fun _ h9 => h9) rfl dX5_block_84 ?_
              refine lv_if_le (tgt := 92) hx hb dX5_block_87 (by decide) (fun c_21 => ?_) (fun c_21 => ?_)
              · skip
                refine lv_aload_n hx hb dX5_block_92 rfl (lv_at hl 0 rfl) ?_
                refine va_get (D := (dC, dI)) (C := RX5) (T := TX5) (N := 26) (v := .ref (h 7)) hx hb hts (fi_X5 _) hown hK hP 0 (mw_at0 _ _ _) rfl 8 (by decide) (hts _ (List.mem_cons_of_mem _ wd_250)) (fun _ h9 => h9) rfl dX5_block_93 ?_
                refine lv_iload_n hx hb dX5_block_96 rfl (lv_at hl 1 rfl) ?_
                refine lv_dup2_11 hx hb dX5_block_97 rfl rfl ?_
                refine va_iald (f := k_mblk u) hx hb hK hP 7 0 (mw_at7 _ _ _) rfl (vp_in_iff.mpr (by omega)) dX5_block_98 ?_
                refine lv_iconst (v := 1) hx hb dX5_block_99 (by decide) ?_
                refine lv_iload_n hx hb dX5_block_100 rfl (lv_at hl 2 rfl) ?_
                refine lv_ishl hx hb dX5_block_101 ?_
                refine lv_ior hx hb dX5_block_102 ?_
                refine va_iast (f := k_mblk u) hx hb hK hP hD hS 7 0 (mw_at7 _ _ _) rfl (vp_in_iff.mpr (by omega)) dX5_block_103 (fun H locs hP hD hS => ?_)
                have hP : va_P (dC, dI) vwCl (mw g h (s_mblk (s_mcode u 0) (upd (k_mblk u) x1.toNatClampNeg ((k_mblk u x1.toNatClampNeg) ||| ((1 : Int32) <<< (x2 &&& 31)))))) H := hP
                have hD : va_D A (mw g h (s_mblk (s_mcode u 0) (upd (k_mblk u) x1.toNatClampNeg ((k_mblk u x1.toNatClampNeg) ||| ((1 : Int32) <<< (x2 &&& 31)))))) := hD
                refine lv_aload_n hx hb dX5_block_104 rfl (lv_at hl 0 rfl) ?_
                refine lv_iload_n hx hb dX5_block_105 rfl (lv_at hl 1 rfl) ?_
                refine lv_bipush (v := 6) hx hb dX5_block_106 (by decide) ?_
                refine lv_iload_n hx hb dX5_block_108 rfl (lv_at hl 2 rfl) ?_
                have hFc := va_free (wc := mw g h (s_mblk (s_mcode u 0) (upd (k_mblk u) x1.toNatClampNeg ((k_mblk u x1.toNatClampNeg) ||| ((1 : Int32) <<< (x2 &&& 31)))))) hD hS hA [0, 1, 2, 3, 4, 5, 6, 7, 8, 9, 10, 11, 12, 13, 14, 15, 16, 17, 18, 19, 20, 21, 22] rfl
                refine va_callv (va_runV (As := [.int x1, .int 6, .int x2]) (rest := []) ⟨hx, hb, hml, hown, hts⟩ (kX5_row l dC dI g h (s_mblk (s_mcode u 0) (upd (k_mblk u) x1.toNatClampNeg ((k_mblk u x1.toNatClampNeg) ||| ((1 : Int32) <<< (x2 &&& 31))))) _ x1 6 x2 (by show 0 ≤ (k_mrows u).toInt ∧ (k_mrows u).toInt < 400; omega)) (cwV 3 hts (gV wd_283 wd_284 wd_285 wd_241 wcX5_row) rfl rfl rfl (by decide +kernel) ⟨(Nat.le_of_ble_eq_true rfl), (Nat.le_of_ble_eq_true rfl)⟩) ⟨fun a U g mk q => by obtain ⟨q0, q1, qP, qK, qD⟩ := q; exact ⟨q0, q1, qP, va_K.moved (u := U) (U := U.calling g mk a) (Vm.Alike.refl U.vm) qK, qD⟩, va_recv hK hP (ci := 4) (q0 := 0) rfl (mw_at0 _ _ _), fun U hU hW => ⟨rfl, by rw [hU], by rw [hU]; exact hP, va_K.moved hW.alike hK, hD.weaken (fun _ _ _ _ => trivial)⟩⟩ rfl rfl hl.1 rfl (lv_room (Nat.le_of_ble_eq_true rfl)) dX5_block_109 ⟨(Nat.le_of_ble_eq_true rfl), (Nat.le_of_ble_eq_true rfl)⟩) hS (fun q _ h => hFc q h) hFc (fun u_22 t H locs ht hvm hw hB hz1 hk1 hS => ?_)
                obtain ⟨hP, hD⟩ := hB
                rw [ht] at hP
                have hD := hD.weaken (fun _ _ _ h => hFc _ h)
                have e_24 : u_22 = fX5_row (s_mblk (s_mcode u 0) (upd (k_mblk u) x1.toNatClampNeg ((k_mblk u x1.toNatClampNeg) ||| ((1 : Int32) <<< (x2 &&& 31))))) x1 6 x2 := hw
                clear hw
                refine lv_aload_n hx hb dX5_block_112 rfl (lv_at hl 0 rfl) ?_
                refine va_get (D := (dC, dI)) (C := RX5) (T := TX5) (N := 26) (v := .ref (h 7)) hx hb hts (fi_X5 _) hown hK hP 0 (mw_at0 _ _ _) rfl 8 (by decide) (hts _ (List.mem_cons_of_mem _ wd_250)) (fun _ h9 => h9) rfl dX5_block_113 ?_
                refine lv_iload_n hx hb dX5_block_116 rfl (lv_at hl 1 rfl) ?_
                refine va_iald (f := k_mblk u_22) hx hb hK hP 7 0 (mw_at7 _ _ _) rfl (vp_in_iff.mpr (by omega)) dX5_block_117 ?_
                refine vp_callSi (W.runS (As := [.int (k_mblk u_22 x1.toNatClampNeg)]) (rest := []) ⟨hx, hb, hml, hown, hts⟩ (kX5_bits l dC dI (k_mblk u_22 x1.toNatClampNeg)) (cwS 1 hts (gS wd_292 wd_293 wd_241 wcX5_bits) rfl rfl rfl (by decide +kernel) ⟨(Nat.le_of_ble_eq_true rfl), (Nat.le_of_ble_eq_true rfl)⟩) ⟨fun a U g mk q => by obtain ⟨q0, qT⟩ := q; exact ⟨q0, qT⟩, fun U hU hW => ⟨rfl, trivial⟩⟩ rfl rfl hl.1 rfl (lv_room (Nat.le_of_ble_eq_true rfl)) dX5_block_118 ⟨(Nat.le_of_ble_eq_true rfl), (Nat.le_of_ble_eq_true rfl)⟩) (fun r_25 hw => ?_)
                subst hw
                exact W.iret (v := fX5_bits (k_mblk u_22 x1.toNatClampNeg)) hx hb hr (fun t ht hW => ⟨⟨(fX5_bits (k_mblk u_22 x1.toNatClampNeg)), u_22, rfl, (by subst e_24; unfold fX5_block; rw [if_neg c_2, if_neg c_7, if_neg c_13, if_neg c_17, if_neg c_19]), by rw [ht]; exact hP, hD⟩, hS.F ht⟩) hS.2.2 dX5_block_121
              · skip
                exact absurd (by decide) c_21
            · skip
              have t_26 : (k_mrows u).toInt = 400 := i_eq c_19 rfl (by decide)
              refine lv_iconst (v := 4) hx hb dX5_block_75 (by decide) ?_
              refine lv_goto (tgt := 80) hx hb dX5_block_76 (by decide) ?_
              refine va_put (D := (dC, dI)) (C := RX5) (T := TX5) (N := 26) (v := .int 4) (ty := .int) hx hb hts (fi_X5 _) tyX5 tyX5_ok nmX5 hown hK hP hD hS 0 (mw_at0 _ _ _) rfl 0 (by decide) (hts _ (List.mem_cons_of_mem _ wd_237)) (fun _ h9 => h9) rfl (by decide +kernel) rfl rfl (Nat.le_of_ble_eq_true rfl) dX5_block_80 (fun H locs hP hD hS => ?_)
              have hP : va_P (dC, dI) vwCl (mw g h (s_mcode u 4)) H := hP
              have hD : va_D A (mw g h (s_mcode u 4)) := hD
              refine lv_aload_n hx hb dX5_block_83 rfl (lv_at hl 0 rfl) ?_
              refine va_get (D := (dC, dI)) (C := RX5) (T := TX5) (N := 26) (v := .int 4) hx hb hts (fi_X5 _) hown hK hP 0 (mw_at0 _ _ _) rfl 0 (by decide) (hts _ (List.mem_cons_of_mem _ wd_237)) (fun _ h9 => h9) rfl dX5_block_84 ?_
              refine lv_if_le (tgt := 92) hx hb dX5_block_87 (by decide) (fun c_27 => ?_) (fun c_27 => ?_)
              · skip
                exact absurd c_27 (by decide)
              · skip
                refine lv_iconst (v := 0) hx hb dX5_block_90 (by decide) ?_
                exact W.iret (v := 0) hx hb hr (fun t ht hW => ⟨⟨0, (s_mcode u 4), rfl, (by unfold fX5_block; rw [if_neg c_2, if_neg c_7, if_neg c_13, if_neg c_17, if_pos c_19]), by rw [ht]; exact hP, hD⟩, hS.F ht⟩) hS.2.2 dX5_block_91
          · skip
            have t_28 : (((k_mblk u x1.toNatClampNeg) >>> (x2 &&& 31)) &&& 1).toInt = 1 := i_eq c_17 rfl (by decide)
            refine lv_iconst (v := 3) hx hb dX5_block_61 (by decide) ?_
            refine lv_goto (tgt := 80) hx hb dX5_block_62 (by decide) ?_
            refine va_put (D := (dC, dI)) (C := RX5) (T := TX5) (N := 26) (v := .int 3) (ty := .int) hx hb hts (fi_X5 _) tyX5 tyX5_ok nmX5 hown hK hP hD hS 0 (mw_at0 _ _ _) rfl 0 (by decide) (hts _ (List.mem_cons_of_mem _ wd_237)) (fun _ h9 => h9) rfl (by decide +kernel) rfl rfl (Nat.le_of_ble_eq_true rfl) dX5_block_80 (fun H locs hP hD hS => ?_)
            have hP : va_P (dC, dI) vwCl (mw g h (s_mcode u 3)) H := hP
            have hD : va_D A (mw g h (s_mcode u 3)) := hD
            refine lv_aload_n hx hb dX5_block_83 rfl (lv_at hl 0 rfl) ?_
            refine va_get (D := (dC, dI)) (C := RX5) (T := TX5) (N := 26) (v := .int 3) hx hb hts (fi_X5 _) hown hK hP 0 (mw_at0 _ _ _) rfl 0 (by decide) (hts _ (List.mem_cons_of_mem _ wd_237)) (fun _ h9 => h9) rfl dX5_block_84 ?_
            refine lv_if_le (tgt := 92) hx hb dX5_block_87 (by decide) (fun c_29 => ?_) (fun c_29 => ?_)
            · skip
              exact absurd c_29 (by decide)
            · skip
              refine lv_iconst (v := 0) hx hb dX5_block_90 (by decide) ?_
              exact W.iret (v := 0) hx hb hr (fun t ht hW => ⟨⟨0, (s_mcode u 3), rfl, (by unfold fX5_block; rw [if_neg c_2, if_neg c_7, if_neg c_13, if_pos c_17]), by rw [ht]; exact hP, hD⟩, hS.F ht⟩) hS.2.2 dX5_block_91
    · skip
      have t_30 : (fX5_in x2 1 9).toInt = 0 := i_eq c_7 rfl (by decide)
      refine lv_iconst (v := 2) hx hb dX5_block_23 (by decide) ?_
      refine lv_goto (tgt := 28) hx hb dX5_block_24 (by decide) ?_
      refine va_put (D := (dC, dI)) (C := RX5) (T := TX5) (N := 26) (v := .int 2) (ty := .int) hx hb hts (fi_X5 _) tyX5 tyX5_ok nmX5 hown hK hP hD hS 0 (mw_at0 _ _ _) rfl 0 (by decide) (hts _ (List.mem_cons_of_mem _ wd_237)) (fun _ h9 => h9) rfl (by decide +kernel) rfl rfl (Nat.le_of_ble_eq_true rfl) dX5_block_28 (fun H locs hP hD hS => ?_)
      have hP : va_P (dC, dI) vwCl (mw g h (s_mcode u 2)) H := hP
      have hD : va_D A (mw g h (s_mcode u 2)) := hD
      refine lv_aload_n hx hb dX5_block_31 rfl (lv_at hl 0 rfl) ?_
      refine va_get (D := (dC, dI)) (C := RX5) (T := TX5) (N := 26) (v := .int 2) hx hb hts (fi_X5 _) hown hK hP 0 (mw_at0 _ _ _) rfl 0 (by decide) (hts _ (List.mem_cons_of_mem _ wd_237)) (fun _ h9 => h9) rfl dX5_block_32 ?_
      refine lv_if_ne (tgt := 83) hx hb dX5_block_35 (by decide) (fun c_31 => ?_) (fun c_31 => ?_)
      · skip
        refine lv_aload_n hx hb dX5_block_83 rfl (lv_at hl 0 rfl) ?_
        refine va_get (D := (dC, dI)) (C := RX5) (T := TX5) (N := 26) (v := .int 2) hx hb hts (fi_X5 _) hown hK hP 0 (mw_at0 _ _ _) rfl 0 (by decide) (hts _ (List.mem_cons_of_mem _ wd_237)) (fun _ h9 => h9) rfl dX5_block_84 ?_
        refine lv_if_le (tgt := 92) hx hb dX5_block_87 (by decide) (fun c_32 => ?_) (fun c_32 => ?_)
        · skip
          exact absurd c_32 (by decide)
        · skip
          refine lv_iconst (v := 0) hx hb dX5_block_90 (by decide) ?_
          exact W.iret (v := 0) hx hb hr (fun t ht hW => ⟨⟨0, (s_mcode u 2), rfl, (by unfold fX5_block; rw [if_neg c_2, if_pos c_7]), by rw [ht]; exact hP, hD⟩, hS.F ht⟩) hS.2.2 dX5_block_91
      · skip
        exact absurd c_31 (by decide)
  · skip
    have t_33 : (fX5_isLot u x1).toInt = 0 := i_eq c_2 rfl (by decide)
    refine lv_iconst (v := 1) hx hb dX5_block_9 (by decide) ?_
    refine lv_goto (tgt := 28) hx hb dX5_block_10 (by decide) ?_
    refine va_put (D := (dC, dI)) (C := RX5) (T := TX5) (N := 26) (v := .int 1) (ty := .int) hx hb hts (fi_X5 _) tyX5 tyX5_ok nmX5 hown hK hP hD hS 0 (mw_at0 _ _ _) rfl 0 (by decide) (hts _ (List.mem_cons_of_mem _ wd_237)) (fun _ h9 => h9) rfl (by decide +kernel) rfl rfl (Nat.le_of_ble_eq_true rfl) dX5_block_28 (fun H locs hP hD hS => ?_)
    have hP : va_P (dC, dI) vwCl (mw g h (s_mcode u 1)) H := hP
    have hD : va_D A (mw g h (s_mcode u 1)) := hD
    refine lv_aload_n hx hb dX5_block_31 rfl (lv_at hl 0 rfl) ?_
    refine va_get (D := (dC, dI)) (C := RX5) (T := TX5) (N := 26) (v := .int 1) hx hb hts (fi_X5 _) hown hK hP 0 (mw_at0 _ _ _) rfl 0 (by decide) (hts _ (List.mem_cons_of_mem _ wd_237)) (fun _ h9 => h9) rfl dX5_block_32 ?_
    refine lv_if_ne (tgt := 83) hx hb dX5_block_35 (by decide) (fun c_34 => ?_) (fun c_34 => ?_)
    · skip
      refine lv_aload_n hx hb dX5_block_83 rfl (lv_at hl 0 rfl) ?_
      refine va_get (D := (dC, dI)) (C := RX5) (T := TX5) (N := 26) (v := .int 1) hx hb hts (fi_X5 _) hown hK hP 0 (mw_at0 _ _ _) rfl 0 (by decide) (hts _ (List.mem_cons_of_mem _ wd_237)) (fun _ h9 => h9) rfl dX5_block_84 ?_
      refine lv_if_le (tgt := 92) hx hb dX5_block_87 (by decide) (fun c_35 => ?_) (fun c_35 => ?_)
      · skip
        exact absurd c_35 (by decide)
      · skip
        refine lv_iconst (v := 0) hx hb dX5_block_90 (by decide) ?_
        exact W.iret (v := 0) hx hb hr (fun t ht hW => ⟨⟨0, (s_mcode u 1), rfl, (by unfold fX5_block; rw [if_pos c_2]), by rw [ht]; exact hP, hD⟩, hS.F ht⟩) hS.2.2 dX5_block_91
    · skip
      exact absurd c_34 (by decide)
set_option maxHeartbeats 4000000 in
set_option maxRecDepth 100000 in
theorem kX5_release (l : Launch) (dC : Nat → ClassId) (dI : Nat → Nat → Nat) (g : cG) (h : Nat → Nat) (u : mS) (sz : Nat) (x1 : Int32) (x2 : Int32) (hI : mInv u) : Met l yX5_release wsX5_release ({ frames := 2, cells := 0, slots := 0, locals := 43 }) (va_Pc [.ref (h 0), .int x1, .int x2] (fun U => U.heap.size = sz ∧ va_P (dC, dI) vwCl (mw g h u) U.heap ∧ va_K (dC, dI) vwCl (cTys g) U ∧ va_D (fun _ => True) (mw g h u))) (va_Qi (fun (r : Int32) u2 => (r, u2) = fX5_release u x1 x2) (fun (u2 : mS) (t : State) => va_P (dC, dI) vwCl (mw g h u2) t.heap ∧ va_D (va_A (mw g h u) sz) (mw g h u2)) (va_A (mw g h u) sz)) 0 0 (va_A (mw g h u) sz) := by
  refine Met.ofW (cc := cX5_release) (maxL := 4) (ret := (some .int)) (by decide) rfl ?_
  intro p e s m args below meth c s₁ B hml hv
  obtain ⟨rfl, hsz, hP, hK, hD0⟩ := hv
  have hx := B.exec
  have hb := B.bytes
  have hr := B.returns
  have hts := atoms_spec (ws := wsX5_release) B.pre
  have hown : s.vm.findClass RX5 = some m.cls := findClass_of_methodNamed B.named
  have hlocks := B.notSynchronized
  subst hsz
  have hD := hD0.self (sz := s.heap.size)
  generalize hAe : va_A (mw g h u) s.heap.size = A at hD ⊢
  have hA : ∀ q : Nat, s.heap.size ≤ q → A q := fun q h => by rw [← hAe]; exact Or.inr h
  have hS : va_S A s.heap s.heap [] := va_S.rf
  have hl := lv_entry ([.ref (h 0), .int x1, .int x2]) (n := 4) (Nat.le_of_ble_eq_true rfl)
  rw [lg_entry_eq]
  generalize (lg_sl ([.ref (h 0), .int x1, .int x2]) ++ List.replicate (4 - (lg_sl ([.ref (h 0), .int x1, .int x2])).length) Slot.unset).toArray = ls at hl ⊢
  have hl : lv_has ls 4 [(0, .ref (h 0)), (1, .int x1), (2, .int x2)] := hl
  obtain ⟨hI1, hI2, hI3, hI4, hI5, hI6, hI7⟩ := id hI
  have z_0 : (0 : Int32).toInt = 0 := by decide
  have z_1 : (7 : Int32).toInt = 7 := by decide
  refine lv_aload_n hx hb dX5_release_0 rfl (lv_at hl 0 rfl) ?_
  refine lv_aload_n hx hb dX5_release_1 rfl (lv_at hl 0 rfl) ?_
  refine lv_iload_n hx hb dX5_release_2 rfl (lv_at hl 1 rfl) ?_
  refine vp_callSi (W.runV (As := [.int x1]) (rest := [.ref (h 0)]) ⟨hx, hb, hml, hown, hts⟩ (kX5_isLot l dC dI g h u x1) (cwV 1 hts (gV wd_288 wd_289 wd_290 wd_241 wcX5_isLot) rfl rfl rfl (by decide +kernel) ⟨(Nat.le_of_ble_eq_true rfl), (Nat.le_of_ble_eq_true rfl)⟩) ⟨fun a U g mk q => by obtain ⟨q0, qP, qK⟩ := q; exact ⟨q0, qP, va_K.moved (u := U) (U := U.calling g mk a) (Vm.Alike.refl U.vm) qK⟩, va_recv hK hP (ci := 4) (q0 := 0) rfl (mw_at0 _ _ _), fun U hU hW => ⟨rfl, by rw [hU]; exact hP, va_K.moved hW.alike hK⟩⟩ rfl rfl hl.1 rfl (lv_room (Nat.le_of_ble_eq_true rfl)) dX5_release_3 ⟨(Nat.le_of_ble_eq_true rfl), (Nat.le_of_ble_eq_true rfl)⟩) (fun r_1 hw => ?_)
  subst hw
  refine lv_if_ne (tgt := 13) hx hb dX5_release_6 (by decide) (fun c_2 => ?_) (fun c_2 => ?_)
  · skip
    have t_3 : (fX5_isLot u x1).toInt ≠ 0 := i_ne c_2 rfl (by decide)
    have t_4 := il_lo c_2
    have t_5 := il_hi c_2
    refine lv_iload_n hx hb dX5_release_13 rfl (lv_at hl 2 rfl) ?_
    refine lv_iconst (v := 0) hx hb dX5_release_14 (by decide) ?_
    refine lv_bipush (v := 7) hx hb dX5_release_15 (by decide) ?_
    refine vp_callSi (W.runS (As := [.int x2, .int 0, .int 7]) (rest := [.ref (h 0)]) ⟨hx, hb, hml, hown, hts⟩ (kX5_in l dC dI x2 0 7) (cwS 3 hts (gS wd_239 wd_240 wd_241 wcX5_in) rfl rfl rfl (by decide +kernel) ⟨(Nat.le_of_ble_eq_true rfl), (Nat.le_of_ble_eq_true rfl)⟩) ⟨fun a U g mk q => by obtain ⟨q0, qT⟩ := q; exact ⟨q0, qT⟩, fun U hU hW => ⟨rfl, trivial⟩⟩ rfl rfl hl.1 rfl (lv_room (Nat.le_of_ble_eq_true rfl)) dX5_release_17 ⟨(Nat.le_of_ble_eq_true rfl), (Nat.le_of_ble_eq_true rfl)⟩) (fun r_6 hw => ?_)
    subst hw
    refine lv_if_ne (tgt := 27) hx hb dX5_release_20 (by decide) (fun c_7 => ?_) (fun c_7 => ?_)
    · skip
      have t_8 : (fX5_in x2 0 7).toInt ≠ 0 := i_ne c_7 rfl (by decide)
      have t_9 := in_lo c_7
      have t_10 := in_hi c_7
      refine lv_iconst (v := 0) hx hb dX5_release_27 (by decide) ?_
      refine va_put (D := (dC, dI)) (C := RX5) (T := TX5) (N := 26) (v := .int 0) (ty := .int) hx hb hts (fi_X5 _) tyX5 tyX5_ok nmX5 hown hK hP hD hS 0 (mw_at0 _ _ _) rfl 0 (by decide) (hts _ (List.mem_cons_of_mem _ wd_237)) (fun _ h9 => h9) rfl (by decide +kernel) rfl rfl (Nat.le_of_ble_eq_true rfl) dX5_release_28 (fun H locs hP hD hS => ?_)
      have hP : va_P (dC, dI) vwCl (mw g h (s_mcode u 0)) H := hP
      have hD : va_D A (mw g h (s_mcode u 0)) := hD
      refine lv_aload_n hx hb dX5_release_31 rfl (lv_at hl 0 rfl) ?_
      refine va_get (D := (dC, dI)) (C := RX5) (T := TX5) (N := 26) (v := .int 0) hx hb hts (fi_X5 _) hown hK hP 0 (mw_at0 _ _ _) rfl 0 (by decide) (hts _ (List.mem_cons_of_mem _ wd_237)) (fun _ h9 => h9) rfl dX5_release_32 ?_
      refine lv_if_ne (tgt := 85) hx hb dX5_release_35 (by decide) (fun c_11 => ?_) (fun c_11 => ?_)
      · skip
        exact absurd (by decide) c_11
      · skip
        refine lv_aload_n hx hb dX5_release_38 rfl (lv_at hl 0 rfl) ?_
        refine lv_aload_n hx hb dX5_release_39 rfl (lv_at hl 0 rfl) ?_
        refine lv_iload_n hx hb dX5_release_40 rfl (lv_at hl 1 rfl) ?_
        refine vp_callSi (W.runV (As := [.int x1]) (rest := [.ref (h 0)]) ⟨hx, hb, hml, hown, hts⟩ (kX5_isOpen l dC dI g h (s_mcode u 0) x1 (by omega)) (cwV 1 hts (gV wd_246 wd_247 wd_248 wd_241 wcX5_isOpen) rfl rfl rfl (by decide +kernel) ⟨(Nat.le_of_ble_eq_true rfl), (Nat.le_of_ble_eq_true rfl)⟩) ⟨fun a U g mk q => by obtain ⟨q0, qP, qK⟩ := q; exact ⟨q0, qP, va_K.moved (u := U) (U := U.calling g mk a) (Vm.Alike.refl U.vm) qK⟩, va_recv hK hP (ci := 4) (q0 := 0) rfl (mw_at0 _ _ _), fun U hU hW => ⟨rfl, by rw [hU]; exact hP, va_K.moved hW.alike hK⟩⟩ rfl rfl hl.1 rfl (lv_room (Nat.le_of_ble_eq_true rfl)) dX5_release_41 ⟨(Nat.le_of_ble_eq_true rfl), (Nat.le_of_ble_eq_true rfl)⟩) (fun r_12 hw => ?_)
        subst hw
        refine lv_if_eq (tgt := 63) hx hb dX5_release_44 (by decide) (fun c_13 => ?_) (fun c_13 => ?_)
        · skip
          have t_14 : (fX5_isOpen (s_mcode u 0) x1).toInt = 0 := i_eq c_13 rfl (by decide)
          refine lv_iconst (v := 3) hx hb dX5_release_63 (by decide) ?_
          refine lv_goto (tgt := 82) hx hb dX5_release_64 (by decide) ?_
          refine va_put (D := (dC, dI)) (C := RX5) (T := TX5) (N := 26) (v := .int 3) (ty := .int) hx hb hts (fi_X5 _) tyX5 tyX5_ok nmX5 hown hK hP hD hS 0 (mw_at0 _ _ _) rfl 0 (by decide) (hts _ (List.mem_cons_of_mem _ wd_237)) (fun _ h9 => h9) rfl (by decide +kernel) rfl rfl (Nat.le_of_ble_eq_true rfl) dX5_release_82 (fun H locs hP hD hS => ?_)
          have hP : va_P (dC, dI) vwCl (mw g h (s_mcode u 3)) H := hP
          have hD : va_D A (mw g h (s_mcode u 3)) := hD
          refine lv_aload_n hx hb dX5_release_85 rfl (lv_at hl 0 rfl) ?_
          refine va_get (D := (dC, dI)) (C := RX5) (T := TX5) (N := 26) (v := .int 3) hx hb hts (fi_X5 _) hown hK hP 0 (mw_at0 _ _ _) rfl 0 (by decide) (hts _ (List.mem_cons_of_mem _ wd_237)) (fun _ h9 => h9) rfl dX5_release_86 ?_
          refine lv_if_le (tgt := 94) hx hb dX5_release_89 (by decide) (fun c_15 => ?_) (fun c_15 => ?_)
          · skip
            exact absurd c_15 (by decide)
          · skip
            refine lv_iconst (v := 0) hx hb dX5_release_92 (by decide) ?_
            exact W.iret (v := 0) hx hb hr (fun t ht hW => ⟨⟨0, (s_mcode u 3), rfl, (by unfold fX5_release; rw [if_neg c_2, if_neg c_7, if_pos c_13]), by rw [ht]; exact hP, hD⟩, hS.F ht⟩) hS.2.2 dX5_release_93
        · skip
          have t_16 : (fX5_isOpen (s_mcode u 0) x1).toInt ≠ 0 := i_ne c_13 rfl (by decide)
          refine lv_aload_n hx hb dX5_release_47 rfl (lv_at hl 0 rfl) ?_
          refine va_get (D := (dC, dI)) (C := RX5) (T := TX5) (N := 26) (v := .ref (h 7)) hx hb hts (fi_X5 _) hown hK hP 0 (mw_at0 _ _ _) rfl 8 (by decide) (hts _ (List.mem_cons_of_mem _ wd_250)) (fun _ h9 => h9) rfl dX5_release_48 ?_
          refine lv_iload_n hx hb dX5_release_51 rfl (lv_at hl 1 rfl) ?_
          refine va_iald (f := k_mblk u) hx hb hK hP 7 0 (mw_at7 _ _ _) rfl (vp_in_iff.mpr (by omega)) dX5_release_52 ?_
          refine lv_aload_n hx hb dX5_release_53 rfl (lv_at hl 0 rfl) ?_
          refine va_get (D := (dC, dI)) (C := RX5) (T := TX5) (N := 26) (v := .ref (h 12)) hx hb hts (fi_X5 _) hown hK hP 0 (mw_at0 _ _ _) rfl 13 (by decide) (hts _ (List.mem_cons_of_mem _ wd_287)) (fun _ h9 => h9) rfl dX5_release_54 ?_
          refine lv_iload_n hx hb dX5_release_57 rfl (lv_at hl 2 rfl) ?_
          refine va_iald (f := k_mrights u) hx hb hK hP 12 0 (mw_at12 _ _ _) rfl (vp_in_iff.mpr (by omega)) dX5_release_58 ?_
          refine lv_iand hx hb dX5_release_59 ?_
          refine lv_if_ne (tgt := 67) hx hb dX5_release_60 (by decide) (fun c_17 => ?_) (fun c_17 => ?_)
          · skip
            have t_18 : ((k_mblk u x1.toNatClampNeg) &&& (k_mrights u x2.toNatClampNeg)).toInt ≠ 0 := i_ne c_17 rfl (by decide)
            refine lv_aload_n hx hb dX5_release_67 rfl (lv_at hl 0 rfl) ?_
            refine va_get (D := (dC, dI)) (C := RX5) (T := TX5) (N := 26) (v := .int (k_mrows u)) hx hb hts (fi_X5 _) hown hK hP 0 (mw_at0 _ _ _) rfl 20 (by decide) (hts _ (List.mem_cons_of_mem _ wd_273)) (fun _ h9 => h9) rfl dX5_release_68 ?_
            refine lv_sipush (v := 400) hx hb dX5_release_71 (by decide) ?_
            refine lv_icmp_ne (tgt := 81) hx hb dX5_release_74 (by decide) (fun c_19 => ?_) (fun c_19 => ?_)
            · skip
              have t_20 : (k_mrows u).toInt ≠ 400 := i_ne c_19 rfl (by decide)
              refine lv_iconst (v := 0) hx hb dX5_release_81 (by decide) ?_
              refine va_put (D := (dC, dI)) (C := RX5) (T := TX5) (N := 26) (v := .int 0) (ty := .int) hx hb hts (fi_X5 _) tyX5 tyX5_ok nmX5 hown hK hP hD hS 0 (mw_at0 _ _ _) rfl 0 (by decide) (hts _ (List.mem_cons_of_mem _ wd_237)) (fun _ h9 => h9) rfl (by decide +kernel) rfl rfl (Nat.le_of_ble_eq_true rfl) dX5_release_82 (fun H locs hP hD hS => ?_)
              have hP : va_P (dC, dI) vwCl (mw g h (s_mcode u 0)) H := hP
              have hD : va_D A (mw g h (s_mcode u 0)) := hD
              refine lv_aload_n hx hb dX5_release_85 rfl (lv_at hl 0 rfl) ?_
              refine va_get (D := (dC, dI)) (C := RX5) (T := TX5) (N := 26) (v := .int 0) hx hb hts (fi_X5 _) hown hK hP 0 (mw_at0 _ _ _) rfl 0 (by decide) (hts _ (List.mem_cons_of_mem _ wd_237)) (fun _ h9 => h9) rfl dX5_release_86 ?_
              refine lv_if_le (tgt := 94) hx hb dX5_release_89 (by decide) (fun c_21 => ?_) (fun c_21 => ?_)
              · skip
                refine lv_aload_n hx hb dX5_release_94 rfl (lv_at hl 0 rfl) ?_
                refine va_get (D := (dC, dI)) (C := RX5) (T := TX5) (N := 26) (v := .ref (h 7)) hx hb hts (fi_X5 _) hown hK hP 0 (mw_at0 _ _ _) rfl 8 (by decide) (hts _ (List.mem_cons_of_mem _ wd_250)) (fun _ h9 => h9) rfl dX5_release_95 ?_
                refine lv_iload_n hx hb dX5_release_98 rfl (lv_at hl 1 rfl) ?_
                refine va_iald (f := k_mblk u) hx hb hK hP 7 0 (mw_at7 _ _ _) rfl (vp_in_iff.mpr (by omega)) dX5_release_99 ?_
                refine lv_aload_n hx hb dX5_release_100 rfl (lv_at hl 0 rfl) ?_
                refine va_get (D := (dC, dI)) (C := RX5) (T := TX5) (N := 26) (v := .ref (h 12)) hx hb hts (fi_X5 _) hown hK hP 0 (mw_at0 _ _ _) rfl 13 (by decide) (hts _ (List.mem_cons_of_mem _ wd_287)) (fun _ h9 => h9) rfl dX5_release_101 ?_
                refine lv_iload_n hx hb dX5_release_104 rfl (lv_at hl 2 rfl) ?_
                refine va_iald (f := k_mrights u) hx hb hK hP 12 0 (mw_at12 _ _ _) rfl (vp_in_iff.mpr (by omega)) dX5_release_105 ?_
                refine lv_iand hx hb dX5_release_106 ?_
                refine vp_callSi (W.runS (As := [.int ((k_mblk u x1.toNatClampNeg) &&& (k_mrights u x2.toNatClampNeg))]) (rest := []) ⟨hx, hb, hml, hown, hts⟩ (kX5_bits l dC dI ((k_mblk u x1.toNatClampNeg) &&& (k_mrights u x2.toNatClampNeg))) (cwS 1 hts (gS wd_292 wd_293 wd_241 wcX5_bits) rfl rfl rfl (by decide +kernel) ⟨(Nat.le_of_ble_eq_true rfl), (Nat.le_of_ble_eq_true rfl)⟩) ⟨fun a U g mk q => by obtain ⟨q0, qT⟩ := q; exact ⟨q0, qT⟩, fun U hU hW => ⟨rfl, trivial⟩⟩ rfl rfl hl.1 rfl (lv_room (Nat.le_of_ble_eq_true rfl)) dX5_release_107 ⟨(Nat.le_of_ble_eq_true rfl), (Nat.le_of_ble_eq_true rfl)⟩) (fun r_22 hw => ?_)
                subst hw
                refine lv_istore_n (lv' := [(3, .int (fX5_bits ((k_mblk u x1.toNatClampNeg) &&& (k_mrights u x2.toNatClampNeg)))), (0, .ref (h 0)), (1, .int x1), (2, .int x2)]) hx hb dX5_release_110 rfl hl (by decide) rfl (fun ls hl => ?_)
                refine lv_aload_n hx hb dX5_release_111 rfl (lv_at hl 1 rfl) ?_
                refine va_get (D := (dC, dI)) (C := RX5) (T := TX5) (N := 26) (v := .ref (h 7)) hx hb hts (fi_X5 _) hown hK hP 0 (mw_at0 _ _ _) rfl 8 (by decide) (hts _ (List.mem_cons_of_mem _ wd_250)) (fun _ h9 => h9) rfl dX5_release_112 ?_
                refine lv_iload_n hx hb dX5_release_115 rfl (lv_at hl 2 rfl) ?_
                refine lv_dup2_11 hx hb dX5_release_116 rfl rfl ?_
                refine va_iald (f := k_mblk u) hx hb hK hP 7 0 (mw_at7 _ _ _) rfl (vp_in_iff.mpr (by omega)) dX5_release_117 ?_
                refine lv_aload_n hx hb dX5_release_118 rfl (lv_at hl 1 rfl) ?_
                refine va_get (D := (dC, dI)) (C := RX5) (T := TX5) (N := 26) (v := .ref (h 12)) hx hb hts (fi_X5 _) hown hK hP 0 (mw_at0 _ _ _) rfl 13 (by decide) (hts _ (List.mem_cons_of_mem _ wd_287)) (fun _ h9 => h9) rfl dX5_release_119 ?_
                refine lv_iload_n hx hb dX5_release_122 rfl (lv_at hl 3 rfl) ?_
                refine va_iald (f := k_mrights u) hx hb hK hP 12 0 (mw_at12 _ _ _) rfl (vp_in_iff.mpr (by omega)) dX5_release_123 ?_
                refine lv_iconst (v := (-1)) hx hb dX5_release_124 (by decide) ?_
                refine lv_ixor hx hb dX5_release_125 ?_
                refine lv_iand hx hb dX5_release_126 ?_
                refine va_iast (f := k_mblk u) hx hb hK hP hD hS 7 0 (mw_at7 _ _ _) rfl (vp_in_iff.mpr (by omega)) dX5_release_127 (fun H locs hP hD hS => ?_)
                have hP : va_P (dC, dI) vwCl (mw g h (s_mblk (s_mcode u 0) (upd (k_mblk u) x1.toNatClampNeg ((k_mblk u x1.toNatClampNeg) &&& ((k_mrights u x2.toNatClampNeg) ^^^ (-1)))))) H := hP
                have hD : va_D A (mw g h (s_mblk (s_mcode u 0) (upd (k_mblk u) x1.toNatClampNeg ((k_mblk u x1.toNatClampNeg) &&& ((k_mrights u x2.toNatClampNeg) ^^^ (-1)))))) := hD
                refine lv_aload_n hx hb dX5_release_128 rfl (lv_at hl 1 rfl) ?_
                refine lv_iload_n hx hb dX5_release_129 rfl (lv_at hl 2 rfl) ?_
                refine lv_bipush (v := 7) hx hb dX5_release_130 (by decide) ?_
                refine lv_iload_n hx hb dX5_release_132 rfl (lv_at hl 3 rfl) ?_
                have hFc := va_free (wc := mw g h (s_mblk (s_mcode u 0) (upd (k_mblk u) x1.toNatClampNeg ((k_mblk u x1.toNatClampNeg) &&& ((k_mrights u x2.toNatClampNeg) ^^^ (-1)))))) hD hS hA [0, 1, 2, 3, 4, 5, 6, 7, 8, 9, 10, 11, 12, 13, 14, 15, 16, 17, 18, 19, 20, 21, 22] rfl
                refine va_callv (va_runV (As := [.int x1, .int 7, .int x2]) (rest := []) ⟨hx, hb, hml, hown, hts⟩ (kX5_row l dC dI g h (s_mblk (s_mcode u 0) (upd (k_mblk u) x1.toNatClampNeg ((k_mblk u x1.toNatClampNeg) &&& ((k_mrights u x2.toNatClampNeg) ^^^ (-1))))) _ x1 7 x2 (by show 0 ≤ (k_mrows u).toInt ∧ (k_mrows u).toInt < 400; omega)) (cwV 3 hts (gV wd_283 wd_284 wd_285 wd_241 wcX5_row) rfl rfl rfl (by decide +kernel) ⟨(Nat.le_of_ble_eq_true rfl), (Nat.le_of_ble_eq_true rfl)⟩) ⟨fun a U g mk q => by obtain ⟨q0, q1, qP, qK, qD⟩ := q; exact ⟨q0, q1, qP, va_K.moved (u := U) (U := U.calling g mk a) (Vm.Alike.refl U.vm) qK, qD⟩, va_recv hK hP (ci := 4) (q0 := 0) rfl (mw_at0 _ _ _), fun U hU hW => ⟨rfl, by rw [hU], by rw [hU]; exact hP, va_K.moved hW.alike hK, hD.weaken (fun _ _ _ _ => trivial)⟩⟩ rfl rfl hl.1 rfl (lv_room (Nat.le_of_ble_eq_true rfl)) dX5_release_133 ⟨(Nat.le_of_ble_eq_true rfl), (Nat.le_of_ble_eq_true rfl)⟩) hS (fun q _ h => hFc q h) hFc (fun u_23 t H locs ht hvm hw hB hz1 hk1 hS => ?_)
                obtain ⟨hP, hD⟩ := hB
                rw [ht] at hP
                have hD := hD.weaken (fun _ _ _ h => hFc _ h)
                have e_25 : u_23 = fX5_row (s_mblk (s_mcode u 0) (upd (k_mblk u) x1.toNatClampNeg ((k_mblk u x1.toNatClampNeg) &&& ((k_mrights u x2.toNatClampNeg) ^^^ (-1))))) x1 7 x2 := hw
                clear hw
                refine lv_iload_n hx hb dX5_release_136 rfl (lv_at hl 0 rfl) ?_
                exact W.iret (v := fX5_bits ((k_mblk u x1.toNatClampNeg) &&& (k_mrights u x2.toNatClampNeg))) hx hb hr (fun t ht hW => ⟨⟨(fX5_bits ((k_mblk u x1.toNatClampNeg) &&& (k_mrights u x2.toNatClampNeg))), u_23, rfl, (by subst e_25; unfold fX5_release; rw [if_neg c_2, if_neg c_7, if_neg c_13, if_neg c_17, if_neg c_19]), by rw [ht]; exact hP, hD⟩, hS.F ht⟩) hS.2.2 dX5_release_137
              · skip
                exact absurd (by decide) c_21
            · skip
              have t_26 : (k_mrows u).toInt = 400 := i_eq c_19 rfl (by decide)
              refine lv_iconst (v := 4) hx hb dX5_release_77 (by decide) ?_
              refine lv_goto (tgt := 82) hx hb dX5_release_78 (by decide) ?_
              refine va_put (D := (dC, dI)) (C := RX5) (T := TX5) (N := 26) (v := .int 4) (ty := .int) hx hb hts (fi_X5 _) tyX5 tyX5_ok nmX5 hown hK hP hD hS 0 (mw_at0 _ _ _) rfl 0 (by decide) (hts _ (List.mem_cons_of_mem _ wd_237)) (fun _ h9 => h9) rfl (by decide +kernel) rfl rfl (Nat.le_of_ble_eq_true rfl) dX5_release_82 (fun H locs hP hD hS => ?_)
              have hP : va_P (dC, dI) vwCl (mw g h (s_mcode u 4)) H := hP
              have hD : va_D A (mw g h (s_mcode u 4)) := hD
              refine lv_aload_n hx hb dX5_release_85 rfl (lv_at hl 0 rfl) ?_
              refine va_get (D := (dC, dI)) (C := RX5) (T := TX5) (N := 26) (v := .int 4) hx hb hts (fi_X5 _) hown hK hP 0 (mw_at0 _ _ _) rfl 0 (by decide) (hts _ (List.mem_cons_of_mem _ wd_237)) (fun _ h9 => h9) rfl dX5_release_86 ?_
              refine lv_if_le (tgt := 94) hx hb dX5_release_89 (by decide) (fun c_27 => ?_) (fun c_27 => ?_)
              · skip
                exact absurd c_27 (by decide)
              · skip
                refine lv_iconst (v := 0) hx hb dX5_release_92 (by decide) ?_
                exact W.iret (v := 0) hx hb hr (fun t ht hW => ⟨⟨0, (s_mcode u 4), rfl, (by unfold fX5_release; rw [if_neg c_2, if_neg c_7, if_neg c_13, if_neg c_17, if_pos c_19]), by rw [ht]; exact hP, hD⟩, hS.F ht⟩) hS.2.2 dX5_release_93
          · skip
            have t_28 : ((k_mblk u x1.toNatClampNeg) &&& (k_mrights u x2.toNatClampNeg)).toInt = 0 := i_eq c_17 rfl (by decide)
            refine lv_iconst (v := 3) hx hb dX5_release_63 (by decide) ?_
            refine lv_goto (tgt := 82) hx hb dX5_release_64 (by decide) ?_
            refine va_put (D := (dC, dI)) (C := RX5) (T := TX5) (N := 26) (v := .int 3) (ty := .int) hx hb hts (fi_X5 _) tyX5 tyX5_ok nmX5 hown hK hP hD hS 0 (mw_at0 _ _ _) rfl 0 (by decide) (hts _ (List.mem_cons_of_mem _ wd_237)) (fun _ h9 => h9) rfl (by decide +kernel) rfl rfl (Nat.le_of_ble_eq_true rfl) dX5_release_82 (fun H locs hP hD hS => ?_)
            have hP : va_P (dC, dI) vwCl (mw g h (s_mcode u 3)) H := hP
            have hD : va_D A (mw g h (s_mcode u 3)) := hD
            refine lv_aload_n hx hb dX5_release_85 rfl (lv_at hl 0 rfl) ?_
            refine va_get (D := (dC, dI)) (C := RX5) (T := TX5) (N := 26) (v := .int 3) hx hb hts (fi_X5 _) hown hK hP 0 (mw_at0 _ _ _) rfl 0 (by decide) (hts _ (List.mem_cons_of_mem _ wd_237)) (fun _ h9 => h9) rfl dX5_release_86 ?_
            refine lv_if_le (tgt := 94) hx hb dX5_release_89 (by decide) (fun c_29 => ?_) (fun c_29 => ?_)
            · skip
              exact absurd c_29 (by decide)
            · skip
              refine lv_iconst (v := 0) hx hb dX5_release_92 (by decide) ?_
              exact W.iret (v := 0) hx hb hr (fun t ht hW => ⟨⟨0, (s_mcode u 3), rfl, (by unfold fX5_release; rw [if_neg c_2, if_neg c_7, if_neg c_13, if_pos c_17]), by rw [ht]; exact hP, hD⟩, hS.F ht⟩) hS.2.2 dX5_release_93
    · skip
      have t_30 : (fX5_in x2 0 7).toInt = 0 := i_eq c_7 rfl (by decide)
      refine lv_iconst (v := 2) hx hb dX5_release_23 (by decide) ?_
      refine lv_goto (tgt := 28) hx hb dX5_release_24 (by decide) ?_
      refine va_put (D := (dC, dI)) (C := RX5) (T := TX5) (N := 26) (v := .int 2) (ty := .int) hx hb hts (fi_X5 _) tyX5 tyX5_ok nmX5 hown hK hP hD hS 0 (mw_at0 _ _ _) rfl 0 (by decide) (hts _ (List.mem_cons_of_mem _ wd_237)) (fun _ h9 => h9) rfl (by decide +kernel) rfl rfl (Nat.le_of_ble_eq_true rfl) dX5_release_28 (fun H locs hP hD hS => ?_)
      have hP : va_P (dC, dI) vwCl (mw g h (s_mcode u 2)) H := hP
      have hD : va_D A (mw g h (s_mcode u 2)) := hD
      refine lv_aload_n hx hb dX5_release_31 rfl (lv_at hl 0 rfl) ?_
      refine va_get (D := (dC, dI)) (C := RX5) (T := TX5) (N := 26) (v := .int 2) hx hb hts (fi_X5 _) hown hK hP 0 (mw_at0 _ _ _) rfl 0 (by decide) (hts _ (List.mem_cons_of_mem _ wd_237)) (fun _ h9 => h9) rfl dX5_release_32 ?_
      refine lv_if_ne (tgt := 85) hx hb dX5_release_35 (by decide) (fun c_31 => ?_) (fun c_31 => ?_)
      · skip
        refine lv_aload_n hx hb dX5_release_85 rfl (lv_at hl 0 rfl) ?_
        refine va_get (D := (dC, dI)) (C := RX5) (T := TX5) (N := 26) (v := .int 2) hx hb hts (fi_X5 _) hown hK hP 0 (mw_at0 _ _ _) rfl 0 (by decide) (hts _ (List.mem_cons_of_mem _ wd_237)) (fun _ h9 => h9) rfl dX5_release_86 ?_
        refine lv_if_le (tgt := 94) hx hb dX5_release_89 (by decide) (fun c_32 => ?_) (fun c_32 => ?_)
        · skip
          exact absurd c_32 (by decide)
        · skip
          refine lv_iconst (v := 0) hx hb dX5_release_92 (by decide) ?_
          exact W.iret (v := 0) hx hb hr (fun t ht hW => ⟨⟨0, (s_mcode u 2), rfl, (by unfold fX5_release; rw [if_neg c_2, if_pos c_7]), by rw [ht]; exact hP, hD⟩, hS.F ht⟩) hS.2.2 dX5_release_93
      · skip
        exact absurd c_31 (by decide)
  · skip
    have t_33 : (fX5_isLot u x1).toInt = 0 := i_eq c_2 rfl (by decide)
    refine lv_iconst (v := 1) hx hb dX5_release_9 (by decide) ?_
    refine lv_goto (tgt := 28) hx hb dX5_release_10 (by decide) ?_
    refine va_put (D := (dC, dI)) (C := RX5) (T := TX5) (N := 26) (v := .int 1) (ty := .int) hx hb hts (fi_X5 _) tyX5 tyX5_ok nmX5 hown hK hP hD hS 0 (mw_at0 _ _ _) rfl 0 (by decide) (hts _ (List.mem_cons_of_mem _ wd_237)) (fun _ h9 => h9) rfl (by decide +kernel) rfl rfl (Nat.le_of_ble_eq_true rfl) dX5_release_28 (fun H locs hP hD hS => ?_)
    have hP : va_P (dC, dI) vwCl (mw g h (s_mcode u 1)) H := hP
    have hD : va_D A (mw g h (s_mcode u 1)) := hD
    refine lv_aload_n hx hb dX5_release_31 rfl (lv_at hl 0 rfl) ?_
    refine va_get (D := (dC, dI)) (C := RX5) (T := TX5) (N := 26) (v := .int 1) hx hb hts (fi_X5 _) hown hK hP 0 (mw_at0 _ _ _) rfl 0 (by decide) (hts _ (List.mem_cons_of_mem _ wd_237)) (fun _ h9 => h9) rfl dX5_release_32 ?_
    refine lv_if_ne (tgt := 85) hx hb dX5_release_35 (by decide) (fun c_34 => ?_) (fun c_34 => ?_)
    · skip
      refine lv_aload_n hx hb dX5_release_85 rfl (lv_at hl 0 rfl) ?_
      refine va_get (D := (dC, dI)) (C := RX5) (T := TX5) (N := 26) (v := .int 1) hx hb hts (fi_X5 _) hown hK hP 0 (mw_at0 _ _ _) rfl 0 (by decide) (hts _ (List.mem_cons_of_mem _ wd_237)) (fun _ h9 => h9) rfl dX5_release_86 ?_
      refine lv_if_le (tgt := 94) hx hb dX5_release_89 (by decide) (fun c_35 => ?_) (fun c_35 => ?_)
      · skip
        exact absurd c_35 (by decide)
      · skip
        refine lv_iconst (v := 0) hx hb dX5_release_92 (by decide) ?_
        exact W.iret (v := 0) hx hb hr (fun t ht hW => ⟨⟨0, (s_mcode u 1), rfl, (by unfold fX5_release; rw [if_pos c_2]), by rw [ht]; exact hP, hD⟩, hS.F ht⟩) hS.2.2 dX5_release_93
    · skip
      exact absurd c_34 (by decide)