set_option maxHeartbeats 4000000 in
set_option maxRecDepth 100000 in
theorem kX5_day (l : Launch) (dC : Nat → ClassId) (dI : Nat → Nat → Nat) (g : cG) (h : Nat → Nat) (u : mS) (sz : Nat) (x1 : Int32) (x2 : Int32) (hI : mInv u) : Met l yX5_day wsX5_day ({ frames := 3, cells := 0, slots := 0, locals := 66 }) (va_Pc [.ref (h 0), .int x1, .int x2] (fun U => U.heap.size = sz ∧ va_P (dC, dI) vwCl (mw g h u) U.heap ∧ va_K (dC, dI) vwCl (cTys g) U ∧ va_D (fun _ => True) (mw g h u))) (va_Qi (fun (r : Int32) u2 => (r, u2) = fX5_day u x1 x2) (fun (u2 : mS) (t : State) => va_P (dC, dI) vwCl (mw g h u2) t.heap ∧ va_D (va_A (mw g h u) sz) (mw g h u2)) (va_A (mw g h u) sz)) 0 0 (va_A (mw g h u) sz) := by
  refine Met.ofW (cc := cX5_day) (maxL := 4) (ret := (some .int)) (by decide) rfl ?_
  intro p e s m args below meth c s₁ B hml hv
  obtain ⟨rfl, hsz, hP, hK, hD0⟩ := hv
  have hx := B.exec
  have hb := B.bytes
  have hr := B.returns
  have hts := atoms_spec (ws := wsX5_day) B.pre
  have hown : s.vm.findClass RX5 = some m.cls := findClass_of_methodNamed B.named
  have hlocks := B.notSynchronized
  subst hsz
  have hD := hD0.self (sz := s.heap.size)
  generalize hAe : va_A (mw g h u) s.heap.size = A at hD ⊢
  have hA : ∀ q : Nat, s.heap.size ≤ q → A q := fun q h => by rw [← hAe]; exact Or.inr h
  have hS : va_S A s.heap s.heap [] := va_S.rf
  have hl := lv_entry ([.ref (h 0), .int x1, .int x2]) (n := 4) (Nat.le_of_ble_eq_true rfl)
  rw [lg_entry_eq]
  generalize (lg_sl ([.ref (h 0), .int x1, .int x2]) ++ List.replicate (4 - (lg_sl ([.ref (h 0), .int x1, .int x2])).length) Slot.unset).toArray = ls at hl ⊢
  have hl : lv_has ls 4 [(0, .ref (h 0)), (1, .int x1), (2, .int x2)] := hl
  obtain ⟨hI1, hI2, hI3, hI4, hI5, hI6, hI7⟩ := id hI
  have z_0 : (0 : Int32).toInt = 0 := by decide
  have z_1 : (2 : Int32).toInt = 2 := by decide
  have z_2 : (999999 : Int32).toInt = 999999 := by decide
  have z_3 : (1 : Int32).toInt = 1 := by decide
  have z_4 : (1000 : Int32).toInt = 1000 := by decide
  have z_5 : (99999 : Int32).toInt = 99999 := by decide
  refine lv_aload_n hx hb dX5_day_0 rfl (lv_at hl 0 rfl) ?_
  refine lv_iload_n hx hb dX5_day_1 rfl (lv_at hl 1 rfl) ?_
  refine lv_iconst (v := 0) hx hb dX5_day_2 (by decide) ?_
  refine lv_iconst (v := 2) hx hb dX5_day_3 (by decide) ?_
  refine vp_callSi (W.runS (As := [.int x1, .int 0, .int 2]) (rest := [.ref (h 0)]) ⟨hx, hb, hml, hown, hts⟩ (kX5_in l dC dI x1 0 2) (cwS 3 hts (gS wd_239 wd_240 wd_241 wcX5_in) rfl rfl rfl (by decide +kernel) ⟨(Nat.le_of_ble_eq_true rfl), (Nat.le_of_ble_eq_true rfl)⟩) ⟨fun a U g mk q => by obtain ⟨q0, qT⟩ := q; exact ⟨q0, qT⟩, fun U hU hW => ⟨rfl, trivial⟩⟩ rfl rfl hl.1 rfl (lv_room (Nat.le_of_ble_eq_true rfl)) dX5_day_4 ⟨(Nat.le_of_ble_eq_true rfl), (Nat.le_of_ble_eq_true rfl)⟩) (fun r_1 hw => ?_)
  subst hw
  refine lv_if_eq (tgt := 30) hx hb dX5_day_7 (by decide) (fun c_2 => ?_) (fun c_2 => ?_)
  · skip
    have t_3 : (fX5_in x1 0 2).toInt = 0 := i_eq c_2 rfl (by decide)
    refine lv_iconst (v := 1) hx hb dX5_day_30 (by decide) ?_
    refine lv_goto (tgt := 35) hx hb dX5_day_31 (by decide) ?_
    refine va_put (D := (dC, dI)) (C := RX5) (T := TX5) (N := 26) (v := .int 1) (ty := .int) hx hb hts (fi_X5 _) tyX5 tyX5_ok nmX5 hown hK hP hD hS 0 (mw_at0 _ _ _) rfl 0 (by decide) (hts _ (List.mem_cons_of_mem _ wd_237)) (fun _ h9 => h9) rfl (by decide +kernel) rfl rfl (Nat.le_of_ble_eq_true rfl) dX5_day_35 (fun H locs hP hD hS => ?_)
    have hP : va_P (dC, dI) vwCl (mw g h (s_mcode u 1)) H := hP
    have hD : va_D A (mw g h (s_mcode u 1)) := hD
    refine lv_aload_n hx hb dX5_day_38 rfl (lv_at hl 0 rfl) ?_
    refine va_get (D := (dC, dI)) (C := RX5) (T := TX5) (N := 26) (v := .int 1) hx hb hts (fi_X5 _) hown hK hP 0 (mw_at0 _ _ _) rfl 0 (by decide) (hts _ (List.mem_cons_of_mem _ wd_237)) (fun _ h9 => h9) rfl dX5_day_39 ?_
    refine lv_if_le (tgt := 47) hx hb dX5_day_42 (by decide) (fun c_4 => ?_) (fun c_4 => ?_)
    · skip
      exact absurd c_4 (by decide)
    · skip
      refine lv_iconst (v := 0) hx hb dX5_day_45 (by decide) ?_
      exact W.iret (v := 0) hx hb hr (fun t ht hW => ⟨⟨0, (s_mcode u 1), rfl, (by unfold fX5_day; rw [if_pos c_2]), by rw [ht]; exact hP, hD⟩, hS.F ht⟩) hS.2.2 dX5_day_46
  · skip
    have t_5 : (fX5_in x1 0 2).toInt ≠ 0 := i_ne c_2 rfl (by decide)
    have t_6 := in_lo c_2
    have t_7 := in_hi c_2
    refine lv_iload_n hx hb dX5_day_10 rfl (lv_at hl 2 rfl) ?_
    refine lv_iconst (v := 0) hx hb dX5_day_11 (by decide) ?_
    refine lv_iload_n hx hb dX5_day_12 rfl (lv_at hl 1 rfl) ?_
    refine lv_iconst (v := 2) hx hb dX5_day_13 (by decide) ?_
    refine lv_icmp_ne (tgt := 22) hx hb dX5_day_14 (by decide) (fun c_8 => ?_) (fun c_8 => ?_)
    · skip
      have t_9 : x1.toInt ≠ 2 := i_ne c_8 rfl (by decide)
      refine lv_ldc (v := 999999) hx hb hown (hts _ (List.mem_cons_of_mem _ wd_324)) dX5_day_22 ?_
      refine vp_callSi (W.runS (As := [.int x2, .int 0, .int 999999]) (rest := [.ref (h 0)]) ⟨hx, hb, hml, hown, hts⟩ (kX5_in l dC dI x2 0 999999) (cwS 3 hts (gS wd_239 wd_240 wd_241 wcX5_in) rfl rfl rfl (by decide +kernel) ⟨(Nat.le_of_ble_eq_true rfl), (Nat.le_of_ble_eq_true rfl)⟩) ⟨fun a U g mk q => by obtain ⟨q0, qT⟩ := q; exact ⟨q0, qT⟩, fun U hU hW => ⟨rfl, trivial⟩⟩ rfl rfl hl.1 rfl (lv_room (Nat.le_of_ble_eq_true rfl)) dX5_day_24 ⟨(Nat.le_of_ble_eq_true rfl), (Nat.le_of_ble_eq_true rfl)⟩) (fun r_10 hw => ?_)
      subst hw
      refine lv_if_ne (tgt := 34) hx hb dX5_day_27 (by decide) (fun c_11 => ?_) (fun c_11 => ?_)
      · skip
        have t_12 : (fX5_in x2 0 999999).toInt ≠ 0 := i_ne c_11 rfl (by decide)
        have t_13 := in_lo c_11
        have t_14 := in_hi c_11
        refine lv_iconst (v := 0) hx hb dX5_day_34 (by decide) ?_
        refine va_put (D := (dC, dI)) (C := RX5) (T := TX5) (N := 26) (v := .int 0) (ty := .int) hx hb hts (fi_X5 _) tyX5 tyX5_ok nmX5 hown hK hP hD hS 0 (mw_at0 _ _ _) rfl 0 (by decide) (hts _ (List.mem_cons_of_mem _ wd_237)) (fun _ h9 => h9) rfl (by decide +kernel) rfl rfl (Nat.le_of_ble_eq_true rfl) dX5_day_35 (fun H locs hP hD hS => ?_)
        have hP : va_P (dC, dI) vwCl (mw g h (s_mcode u 0)) H := hP
        have hD : va_D A (mw g h (s_mcode u 0)) := hD
        refine lv_aload_n hx hb dX5_day_38 rfl (lv_at hl 0 rfl) ?_
        refine va_get (D := (dC, dI)) (C := RX5) (T := TX5) (N := 26) (v := .int 0) hx hb hts (fi_X5 _) hown hK hP 0 (mw_at0 _ _ _) rfl 0 (by decide) (hts _ (List.mem_cons_of_mem _ wd_237)) (fun _ h9 => h9) rfl dX5_day_39 ?_
        refine lv_if_le (tgt := 47) hx hb dX5_day_42 (by decide) (fun c_15 => ?_) (fun c_15 => ?_)
        · skip
          refine lv_iload_n hx hb dX5_day_47 rfl (lv_at hl 1 rfl) ?_
          refine lv_if_ne (tgt := 71) hx hb dX5_day_48 (by decide) (fun c_16 => ?_) (fun c_16 => ?_)
          · skip
            have t_17 : x1.toInt ≠ 0 := i_ne c_16 rfl (by decide)
            refine lv_iload_n hx hb dX5_day_71 rfl (lv_at hl 1 rfl) ?_
            refine lv_iconst (v := 1) hx hb dX5_day_72 (by decide) ?_
            refine lv_icmp_ne (tgt := 96) hx hb dX5_day_73 (by decide) (fun c_18 => ?_) (fun c_18 => ?_)
            · skip
              have t_19 : x1.toInt ≠ 1 := i_ne c_18 rfl (by decide)
              refine lv_iload_n hx hb dX5_day_96 rfl (lv_at hl 2 rfl) ?_
              refine lv_sipush (v := 1000) hx hb dX5_day_97 (by decide) ?_
              refine lv_idiv hx hb dX5_day_100 (by decide) ?_
              refine lv_istore_n (lv' := [(3, .int (x2 / 1000)), (0, .ref (h 0)), (1, .int x1), (2, .int x2)]) hx hb dX5_day_101 rfl hl (by decide) rfl (fun ls hl => ?_)
              refine lv_iload_n hx hb dX5_day_102 rfl (lv_at hl 3 rfl) ?_
              refine lv_sipush (v := 1000) hx hb dX5_day_103 (by decide) ?_
              refine lv_irem hx hb dX5_day_106 (by decide) ?_
              refine lv_iconst (v := 1) hx hb dX5_day_107 (by decide) ?_
              refine lv_iload_n hx hb dX5_day_108 rfl (lv_at hl 0 rfl) ?_
              refine vp_callSi (W.runS (As := [.int (x2 / 1000)]) (rest := [.int 1, .int (x2 - x2 / 1000 * 1000)]) ⟨hx, hb, hml, hown, hts⟩ (kX5_daysOfYear l dC dI (x2 / 1000)) (cwS 1 hts (gS wd_263 wd_264 wd_241 wcX5_daysOfYear) rfl rfl rfl (by decide +kernel) ⟨(Nat.le_of_ble_eq_true rfl), (Nat.le_of_ble_eq_true rfl)⟩) ⟨fun a U g mk q => by obtain ⟨q0, qT⟩ := q; exact ⟨q0, qT⟩, fun U hU hW => ⟨rfl, trivial⟩⟩ rfl rfl hl.1 rfl (lv_room (Nat.le_of_ble_eq_true rfl)) dX5_day_109 ⟨(Nat.le_of_ble_eq_true rfl), (Nat.le_of_ble_eq_true rfl)⟩) (fun r_20 hw => ?_)
              subst hw
              refine vp_callSi (W.runS (As := [.int (x2 - x2 / 1000 * 1000), .int 1, .int (fX5_daysOfYear (x2 / 1000))]) (rest := []) ⟨hx, hb, hml, hown, hts⟩ (kX5_in l dC dI (x2 - x2 / 1000 * 1000) 1 (fX5_daysOfYear (x2 / 1000))) (cwS 3 hts (gS wd_239 wd_240 wd_241 wcX5_in) rfl rfl rfl (by decide +kernel) ⟨(Nat.le_of_ble_eq_true rfl), (Nat.le_of_ble_eq_true rfl)⟩) ⟨fun a U g mk q => by obtain ⟨q0, qT⟩ := q; exact ⟨q0, qT⟩, fun U hU hW => ⟨rfl, trivial⟩⟩ rfl rfl hl.1 rfl (lv_room (Nat.le_of_ble_eq_true rfl)) dX5_day_112 ⟨(Nat.le_of_ble_eq_true rfl), (Nat.le_of_ble_eq_true rfl)⟩) (fun r_21 hw => ?_)
              subst hw
              refine lv_if_eq (tgt := 133) hx hb dX5_day_115 (by decide) (fun c_22 => ?_) (fun c_22 => ?_)
              · skip
                have t_23 : (fX5_in (x2 - x2 / 1000 * 1000) 1 (fX5_daysOfYear (x2 / 1000))).toInt = 0 := i_eq c_22 rfl (by decide)
                refine lv_iconst (v := (-1)) hx hb dX5_day_133 (by decide) ?_
                exact W.iret (v := (-1)) hx hb hr (fun t ht hW => ⟨⟨(-1), (s_mcode u 0), rfl, (by unfold fX5_day; rw [if_neg c_2, if_neg c_8, if_neg c_11, if_neg c_16, if_neg c_18, if_pos c_22]), by rw [ht]; exact hP, hD⟩, hS.F ht⟩) hS.2.2 dX5_day_134
              · skip
                have t_24 : (fX5_in (x2 - x2 / 1000 * 1000) 1 (fX5_daysOfYear (x2 / 1000))).toInt ≠ 0 := i_ne c_22 rfl (by decide)
                have t_25 := in_lo c_22
                have t_26 := in_hi c_22
                refine lv_iload_n hx hb dX5_day_118 rfl (lv_at hl 0 rfl) ?_
                refine vp_callSi (W.runS (As := [.int (x2 / 1000)]) (rest := []) ⟨hx, hb, hml, hown, hts⟩ (kX5_firstOf l dC dI (x2 / 1000) (by have d1 := i_div (x := x2) (y := 10000) (k := 10000) (by omega) (by decide) (by decide); have d2 := i_rem (x := x2) (y := 100) (k := 100) (by omega) (by decide) (by decide); have d3 := i_div (x := x2) (y := 1000) (k := 1000) (by omega) (by decide) (by decide); omega)) (cwS 1 hts (gS wd_269 wd_270 wd_241 wcX5_firstOf) rfl rfl rfl (by decide +kernel) ⟨(Nat.le_of_ble_eq_true rfl), (Nat.le_of_ble_eq_true rfl)⟩) ⟨fun a U g mk q => by obtain ⟨q0, qT⟩ := q; exact ⟨q0, qT⟩, fun U hU hW => ⟨rfl, trivial⟩⟩ rfl rfl hl.1 rfl (lv_room (Nat.le_of_ble_eq_true rfl)) dX5_day_119 ⟨(Nat.le_of_ble_eq_true rfl), (Nat.le_of_ble_eq_true rfl)⟩) (fun r_27 hw => ?_)
                subst hw
                refine lv_iload_n hx hb dX5_day_122 rfl (lv_at hl 3 rfl) ?_
                refine lv_sipush (v := 1000) hx hb dX5_day_123 (by decide) ?_
                refine lv_irem hx hb dX5_day_126 (by decide) ?_
                refine lv_iadd hx hb dX5_day_127 ?_
                refine lv_iconst (v := 1) hx hb dX5_day_128 (by decide) ?_
                refine lv_isub hx hb dX5_day_129 ?_
                refine lv_goto (tgt := 134) hx hb dX5_day_130 (by decide) ?_
                exact W.iret (v := ((fX5_firstOf (x2 / 1000)) + (x2 - x2 / 1000 * 1000)) - 1) hx hb hr (fun t ht hW => ⟨⟨(((fX5_firstOf (x2 / 1000)) + (x2 - x2 / 1000 * 1000)) - 1), (s_mcode u 0), rfl, (by unfold fX5_day; rw [if_neg c_2, if_neg c_8, if_neg c_11, if_neg c_16, if_neg c_18, if_neg c_22]), by rw [ht]; exact hP, hD⟩, hS.F ht⟩) hS.2.2 dX5_day_134
            · skip
              have t_28 : x1.toInt = 1 := i_eq c_18 rfl (by decide)
              refine lv_iload_n hx hb dX5_day_76 rfl (lv_at hl 2 rfl) ?_
              refine lv_bipush (v := 100) hx hb dX5_day_77 (by decide) ?_
              refine lv_irem hx hb dX5_day_79 (by decide) ?_
              refine lv_iload_n hx hb dX5_day_80 rfl (lv_at hl 2 rfl) ?_
              refine lv_bipush (v := 100) hx hb dX5_day_81 (by decide) ?_
              refine lv_idiv hx hb dX5_day_83 (by decide) ?_
              refine lv_bipush (v := 100) hx hb dX5_day_84 (by decide) ?_
              refine lv_irem hx hb dX5_day_86 (by decide) ?_
              refine lv_iload_n hx hb dX5_day_87 rfl (lv_at hl 2 rfl) ?_
              refine lv_sipush (v := 10000) hx hb dX5_day_88 (by decide) ?_
              refine lv_idiv hx hb dX5_day_91 (by decide) ?_
              refine vp_callSi (W.runS (As := [.int (x2 - x2 / 100 * 100), .int ((x2 / 100) - (x2 / 100) / 100 * 100), .int (x2 / 10000)]) (rest := []) ⟨hx, hb, hml, hown, hts⟩ (kX5_dayOf l dC dI (x2 - x2 / 100 * 100) ((x2 / 100) - (x2 / 100) / 100 * 100) (x2 / 10000) (by have d1 := i_div (x := x2) (y := 10000) (k := 10000) (by omega) (by decide) (by decide); have d2 := i_rem (x := x2) (y := 100) (k := 100) (by omega) (by decide) (by decide); have d3 := i_div (x := x2) (y := 1000) (k := 1000) (by omega) (by decide) (by decide); omega)) (cwS 3 hts (gS wd_325 wd_326 wd_241 wcX5_dayOf) rfl rfl rfl (by decide +kernel) ⟨(Nat.le_of_ble_eq_true rfl), (Nat.le_of_ble_eq_true rfl)⟩) ⟨fun a U g mk q => by obtain ⟨q0, qT⟩ := q; exact ⟨q0, qT⟩, fun U hU hW => ⟨rfl, trivial⟩⟩ rfl rfl hl.1 rfl (lv_room (Nat.le_of_ble_eq_true rfl)) dX5_day_92 ⟨(Nat.le_of_ble_eq_true rfl), (Nat.le_of_ble_eq_true rfl)⟩) (fun r_29 hw => ?_)
              subst hw
              exact W.iret (v := fX5_dayOf (x2 - x2 / 100 * 100) ((x2 / 100) - (x2 / 100) / 100 * 100) (x2 / 10000)) hx hb hr (fun t ht hW => ⟨⟨(fX5_dayOf (x2 - x2 / 100 * 100) ((x2 / 100) - (x2 / 100) / 100 * 100) (x2 / 10000)), (s_mcode u 0), rfl, (by unfold fX5_day; rw [if_neg c_2, if_neg c_8, if_neg c_11, if_neg c_16, if_pos c_18]), by rw [ht]; exact hP, hD⟩, hS.F ht⟩) hS.2.2 dX5_day_95
          · skip
            have t_30 : x1.toInt = 0 := i_eq c_16 rfl (by decide)
            refine lv_iload_n hx hb dX5_day_51 rfl (lv_at hl 2 rfl) ?_
            refine lv_sipush (v := 10000) hx hb dX5_day_52 (by decide) ?_
            refine lv_idiv hx hb dX5_day_55 (by decide) ?_
            refine lv_iload_n hx hb dX5_day_56 rfl (lv_at hl 2 rfl) ?_
            refine lv_bipush (v := 100) hx hb dX5_day_57 (by decide) ?_
            refine lv_idiv hx hb dX5_day_59 (by decide) ?_
            refine lv_bipush (v := 100) hx hb dX5_day_60 (by decide) ?_
            refine lv_irem hx hb dX5_day_62 (by decide) ?_
            refine lv_iload_n hx hb dX5_day_63 rfl (lv_at hl 2 rfl) ?_
            refine lv_bipush (v := 100) hx hb dX5_day_64 (by decide) ?_
            refine lv_irem hx hb dX5_day_66 (by decide) ?_
            refine vp_callSi (W.runS (As := [.int (x2 / 10000), .int ((x2 / 100) - (x2 / 100) / 100 * 100), .int (x2 - x2 / 100 * 100)]) (rest := []) ⟨hx, hb, hml, hown, hts⟩ (kX5_dayOf l dC dI (x2 / 10000) ((x2 / 100) - (x2 / 100) / 100 * 100) (x2 - x2 / 100 * 100) (by have d1 := i_div (x := x2) (y := 10000) (k := 10000) (by omega) (by decide) (by decide); have d2 := i_rem (x := x2) (y := 100) (k := 100) (by omega) (by decide) (by decide); have d3 := i_div (x := x2) (y := 1000) (k := 1000) (by omega) (by decide) (by decide); omega)) (cwS 3 hts (gS wd_325 wd_326 wd_241 wcX5_dayOf) rfl rfl rfl (by decide +kernel) ⟨(Nat.le_of_ble_eq_true rfl), (Nat.le_of_ble_eq_true rfl)⟩) ⟨fun a U g mk q => by obtain ⟨q0, qT⟩ := q; exact ⟨q0, qT⟩, fun U hU hW => ⟨rfl, trivial⟩⟩ rfl rfl hl.1 rfl (lv_room (Nat.le_of_ble_eq_true rfl)) dX5_day_67 ⟨(Nat.le_of_ble_eq_true rfl), (Nat.le_of_ble_eq_true rfl)⟩) (fun r_31 hw => ?_)
            subst hw
            exact W.iret (v := fX5_dayOf (x2 / 10000) ((x2 / 100) - (x2 / 100) / 100 * 100) (x2 - x2 / 100 * 100)) hx hb hr (fun t ht hW => ⟨⟨(fX5_dayOf (x2 / 10000) ((x2 / 100) - (x2 / 100) / 100 * 100) (x2 - x2 / 100 * 100)), (s_mcode u 0), rfl, (by unfold fX5_day; rw [if_neg c_2, if_neg c_8, if_neg c_11, if_pos c_16]), by rw [ht]; exact hP, hD⟩, hS.F ht⟩) hS.2.2 dX5_day_70
        · skip
          exact absurd (by decide) c_15
      · skip
        have t_32 : (fX5_in x2 0 999999).toInt = 0 := i_eq c_11 rfl (by decide)
        refine lv_iconst (v := 1) hx hb dX5_day_30 (by decide) ?_
        refine lv_goto (tgt := 35) hx hb dX5_day_31 (by decide) ?_
        refine va_put (D := (dC, dI)) (C := RX5) (T := TX5) (N := 26) (v := .int 1) (ty := .int) hx hb hts (fi_X5 _) tyX5 tyX5_ok nmX5 hown hK hP hD hS 0 (mw_at0 _ _ _) rfl 0 (by decide) (hts _ (List.mem_cons_of_mem _ wd_237)) (fun _ h9 => h9) rfl (by decide +kernel) rfl rfl (Nat.le_of_ble_eq_true rfl) dX5_day_35 (fun H locs hP hD hS => ?_)
        have hP : va_P (dC, dI) vwCl (mw g h (s_mcode u 1)) H := hP
        have hD : va_D A (mw g h (s_mcode u 1)) := hD
        refine lv_aload_n hx hb dX5_day_38 rfl (lv_at hl 0 rfl) ?_
        refine va_get (D := (dC, dI)) (C := RX5) (T := TX5) (N := 26) (v := .int 1) hx hb hts (fi_X5 _) hown hK hP 0 (mw_at0 _ _ _) rfl 0 (by decide) (hts _ (List.mem_cons_of_mem _ wd_237)) (fun _ h9 => h9) rfl dX5_day_39 ?_
        refine lv_if_le (tgt := 47) hx hb dX5_day_42 (by decide) (fun c_33 => ?_) (fun c_33 => ?_)
        · skip
          exact absurd c_33 (by decide)
        · skip
          refine lv_iconst (v := 0) hx hb dX5_day_45 (by decide) ?_
          exact W.iret (v := 0) hx hb hr (fun t ht hW => ⟨⟨0, (s_mcode u 1), rfl, (by unfold fX5_day; rw [if_neg c_2, if_neg c_8, if_pos c_11]), by rw [ht]; exact hP, hD⟩, hS.F ht⟩) hS.2.2 dX5_day_46
    · skip
      have t_34 : x1.toInt = 2 := i_eq c_8 rfl (by decide)
      refine lv_ldc (v := 99999) hx hb hown (hts _ (List.mem_cons_of_mem _ wd_328)) dX5_day_17 ?_
      refine lv_goto (tgt := 24) hx hb dX5_day_19 (by decide) ?_
      refine vp_callSi (W.runS (As := [.int x2, .int 0, .int 99999]) (rest := [.ref (h 0)]) ⟨hx, hb, hml, hown, hts⟩ (kX5_in l dC dI x2 0 99999) (cwS 3 hts (gS wd_239 wd_240 wd_241 wcX5_in) rfl rfl rfl (by decide +kernel) ⟨(Nat.le_of_ble_eq_true rfl), (Nat.le_of_ble_eq_true rfl)⟩) ⟨fun a U g mk q => by obtain ⟨q0, qT⟩ := q; exact ⟨q0, qT⟩, fun U hU hW => ⟨rfl, trivial⟩⟩ rfl rfl hl.1 rfl (lv_room (Nat.le_of_ble_eq_true rfl)) dX5_day_24 ⟨(Nat.le_of_ble_eq_true rfl), (Nat.le_of_ble_eq_true rfl)⟩) (fun r_35 hw => ?_)
      subst hw
      refine lv_if_ne (tgt := 34) hx hb dX5_day_27 (by decide) (fun c_36 => ?_) (fun c_36 => ?_)
      · skip
        have t_37 : (fX5_in x2 0 99999).toInt ≠ 0 := i_ne c_36 rfl (by decide)
        have t_38 := in_lo c_36
        have t_39 := in_hi c_36
        refine lv_iconst (v := 0) hx hb dX5_day_34 (by decide) ?_
        refine va_put (D := (dC, dI)) (C := RX5) (T := TX5) (N := 26) (v := .int 0) (ty := .int) hx hb hts (fi_X5 _) tyX5 tyX5_ok nmX5 hown hK hP hD hS 0 (mw_at0 _ _ _) rfl 0 (by decide) (hts _ (List.mem_cons_of_mem _ wd_237)) (fun _ h9 => h9) rfl (by decide +kernel) rfl rfl (Nat.le_of_ble_eq_true rfl) dX5_day_35 (fun H locs hP hD hS => ?_)
        have hP : va_P (dC, dI) vwCl (mw g h (s_mcode u 0)) H := hP
        have hD : va_D A (mw g h (s_mcode u 0)) := hD
        refine lv_aload_n hx hb dX5_day_38 rfl (lv_at hl 0 rfl) ?_
        refine va_get (D := (dC, dI)) (C := RX5) (T := TX5) (N := 26) (v := .int 0) hx hb hts (fi_X5 _) hown hK hP 0 (mw_at0 _ _ _) rfl 0 (by decide) (hts _ (List.mem_cons_of_mem _ wd_237)) (fun _ h9 => h9) rfl dX5_day_39 ?_
        refine lv_if_le (tgt := 47) hx hb dX5_day_42 (by decide) (fun c_40 => ?_) (fun c_40 => ?_)
        · skip
          refine lv_iload_n hx hb dX5_day_47 rfl (lv_at hl 1 rfl) ?_
          refine lv_if_ne (tgt := 71) hx hb dX5_day_48 (by decide) (fun c_41 => ?_) (fun c_41 => ?_)
          · skip
            have t_42 : x1.toInt ≠ 0 := i_ne c_41 rfl (by decide)
            refine lv_iload_n hx hb dX5_day_71 rfl (lv_at hl 1 rfl) ?_
            refine lv_iconst (v := 1) hx hb dX5_day_72 (by decide) ?_
            refine lv_icmp_ne (tgt := 96) hx hb dX5_day_73 (by decide) (fun c_43 => ?_) (fun c_43 => ?_)
            · skip
              have t_44 : x1.toInt ≠ 1 := i_ne c_43 rfl (by decide)
              refine lv_iload_n hx hb dX5_day_96 rfl (lv_at hl 2 rfl) ?_
              refine lv_sipush (v := 1000) hx hb dX5_day_97 (by decide) ?_
              refine lv_idiv hx hb dX5_day_100 (by decide) ?_
              refine lv_istore_n (lv' := [(3, .int (x2 / 1000)), (0, .ref (h 0)), (1, .int x1), (2, .int x2)]) hx hb dX5_day_101 rfl hl (by decide) rfl (fun ls hl => ?_)
              refine lv_iload_n hx hb dX5_day_102 rfl (lv_at hl 3 rfl) ?_
              refine lv_sipush (v := 1000) hx hb dX5_day_103 (by decide) ?_
              refine lv_irem hx hb dX5_day_106 (by decide) ?_
              refine lv_iconst (v := 1) hx hb dX5_day_107 (by decide) ?_
              refine lv_iload_n hx hb dX5_day_108 rfl (lv_at hl 0 rfl) ?_
              refine vp_callSi (W.runS (As := [.int (x2 / 1000)]) (rest := [.int 1, .int (x2 - x2 / 1000 * 1000)]) ⟨hx, hb, hml, hown, hts⟩ (kX5_daysOfYear l dC dI (x2 / 1000)) (cwS 1 hts (gS wd_263 wd_264 wd_241 wcX5_daysOfYear) rfl rfl rfl (by decide +kernel) ⟨(Nat.le_of_ble_eq_true rfl), (Nat.le_of_ble_eq_true rfl)⟩) ⟨fun a U g mk q => by obtain ⟨q0, qT⟩ := q; exact ⟨q0, qT⟩, fun U hU hW => ⟨rfl, trivial⟩⟩ rfl rfl hl.1 rfl (lv_room (Nat.le_of_ble_eq_true rfl)) dX5_day_109 ⟨(Nat.le_of_ble_eq_true rfl), (Nat.le_of_ble_eq_true rfl)⟩) (fun r_45 hw => ?_)
              subst hw
              refine vp_callSi (W.runS (As := [.int (x2 - x2 / 1000 * 1000), .int 1, .int (fX5_daysOfYear (x2 / 1000))]) (rest := []) ⟨hx, hb, hml, hown, hts⟩ (kX5_in l dC dI (x2 - x2 / 1000 * 1000) 1 (fX5_daysOfYear (x2 / 1000))) (cwS 3 hts (gS wd_239 wd_240 wd_241 wcX5_in) rfl rfl rfl (by decide +kernel) ⟨(Nat.le_of_ble_eq_true rfl), (Nat.le_of_ble_eq_true rfl)⟩) ⟨fun a U g mk q => by obtain ⟨q0, qT⟩ := q; exact ⟨q0, qT⟩, fun U hU hW => ⟨rfl, trivial⟩⟩ rfl rfl hl.1 rfl (lv_room (Nat.le_of_ble_eq_true rfl)) dX5_day_112 ⟨(Nat.le_of_ble_eq_true rfl), (Nat.le_of_ble_eq_true rfl)⟩) (fun r_46 hw => ?_)
              subst hw
              refine lv_if_eq (tgt := 133) hx hb dX5_day_115 (by decide) (fun c_47 => ?_) (fun c_47 => ?_)
              · skip
                have t_48 : (fX5_in (x2 - x2 / 1000 * 1000) 1 (fX5_daysOfYear (x2 / 1000))).toInt = 0 := i_eq c_47 rfl (by decide)
                refine lv_iconst (v := (-1)) hx hb dX5_day_133 (by decide) ?_
                exact W.iret (v := (-1)) hx hb hr (fun t ht hW => ⟨⟨(-1), (s_mcode u 0), rfl, (by unfold fX5_day; rw [if_neg c_2, if_pos c_8, if_neg c_36, if_neg c_41, if_neg c_43, if_pos c_47]), by rw [ht]; exact hP, hD⟩, hS.F ht⟩) hS.2.2 dX5_day_134
              · skip
                have t_49 : (fX5_in (x2 - x2 / 1000 * 1000) 1 (fX5_daysOfYear (x2 / 1000))).toInt ≠ 0 := i_ne c_47 rfl (by decide)
                have t_50 := in_lo c_47
                have t_51 := in_hi c_47
                refine lv_iload_n hx hb dX5_day_118 rfl (lv_at hl 0 rfl) ?_
                refine vp_callSi (W.runS (As := [.int (x2 / 1000)]) (rest := []) ⟨hx, hb, hml, hown, hts⟩ (kX5_firstOf l dC dI (x2 / 1000) (by have d1 := i_div (x := x2) (y := 10000) (k := 10000) (by omega) (by decide) (by decide); have d2 := i_rem (x := x2) (y := 100) (k := 100) (by omega) (by decide) (by decide); have d3 := i_div (x := x2) (y := 1000) (k := 1000) (by omega) (by decide) (by decide); omega)) (cwS 1 hts (gS wd_269 wd_270 wd_241 wcX5_firstOf) rfl rfl rfl (by decide +kernel) ⟨(Nat.le_of_ble_eq_true rfl), (Nat.le_of_ble_eq_true rfl)⟩) ⟨fun a U g mk q => by obtain ⟨q0, qT⟩ := q; exact ⟨q0, qT⟩, fun U hU hW => ⟨rfl, trivial⟩⟩ rfl rfl hl.1 rfl (lv_room (Nat.le_of_ble_eq_true rfl)) dX5_day_119 ⟨(Nat.le_of_ble_eq_true rfl), (Nat.le_of_ble_eq_true rfl)⟩) (fun r_52 hw => ?_)
                subst hw
                refine lv_iload_n hx hb dX5_day_122 rfl (lv_at hl 3 rfl) ?_
                refine lv_sipush (v := 1000) hx hb dX5_day_123 (by decide) ?_
                refine lv_irem hx hb dX5_day_126 (by decide) ?_
                refine lv_iadd hx hb dX5_day_127 ?_
                refine lv_iconst (v := 1) hx hb dX5_day_128 (by decide) ?_
                refine lv_isub hx hb dX5_day_129 ?_
                refine lv_goto (tgt := 134) hx hb dX5_day_130 (by decide) ?_
                exact W.iret (v := ((fX5_firstOf (x2 / 1000)) + (x2 - x2 / 1000 * 1000)) - 1) hx hb hr (fun t ht hW => ⟨⟨(((fX5_firstOf (x2 / 1000)) + (x2 - x2 / 1000 * 1000)) - 1), (s_mcode u 0), rfl, (by unfold fX5_day; rw [if_neg c_2, if_pos c_8, if_neg c_36, if_neg c_41, if_neg c_43, if_neg c_47]), by rw [ht]; exact hP, hD⟩, hS.F ht⟩) hS.2.2 dX5_day_134
            · skip
              have t_53 : x1.toInt = 1 := i_eq c_43 rfl (by decide)
              refine lv_iload_n hx hb dX5_day_76 rfl (lv_at hl 2 rfl) ?_
              refine lv_bipush (v := 100) hx hb dX5_day_77 (by decide) ?_
              refine lv_irem hx hb dX5_day_79 (by decide) ?_
              refine lv_iload_n hx hb dX5_day_80 rfl (lv_at hl 2 rfl) ?_
              refine lv_bipush (v := 100) hx hb dX5_day_81 (by decide) ?_
              refine lv_idiv hx hb dX5_day_83 (by decide) ?_
              refine lv_bipush (v := 100) hx hb dX5_day_84 (by decide) ?_
              refine lv_irem hx hb dX5_day_86 (by decide) ?_
              refine lv_iload_n hx hb dX5_day_87 rfl (lv_at hl 2 rfl) ?_
              refine lv_sipush (v := 10000) hx hb dX5_day_88 (by decide) ?_
              refine lv_idiv hx hb dX5_day_91 (by decide) ?_
              refine vp_callSi (W.runS (As := [.int (x2 - x2 / 100 * 100), .int ((x2 / 100) - (x2 / 100) / 100 * 100), .int (x2 / 10000)]) (rest := []) ⟨hx, hb, hml, hown, hts⟩ (kX5_dayOf l dC dI (x2 - x2 / 100 * 100) ((x2 / 100) - (x2 / 100) / 100 * 100) (x2 / 10000) (by have d1 := i_div (x := x2) (y := 10000) (k := 10000) (by omega) (by decide) (by decide); have d2 := i_rem (x := x2) (y := 100) (k := 100) (by omega) (by decide) (by decide); have d3 := i_div (x := x2) (y := 1000) (k := 1000) (by omega) (by decide) (by decide); omega)) (cwS 3 hts (gS wd_325 wd_326 wd_241 wcX5_dayOf) rfl rfl rfl (by decide +kernel) ⟨(Nat.le_of_ble_eq_true rfl), (Nat.le_of_ble_eq_true rfl)⟩) ⟨fun a U g mk q => by obtain ⟨q0, qT⟩ := q; exact ⟨q0, qT⟩, fun U hU hW => ⟨rfl, trivial⟩⟩ rfl rfl hl.1 rfl (lv_room (Nat.le_of_ble_eq_true rfl)) dX5_day_92 ⟨(Nat.le_of_ble_eq_true rfl), (Nat.le_of_ble_eq_true rfl)⟩) (fun r_54 hw => ?_)
              subst hw
              exact W.iret (v := fX5_dayOf (x2 - x2 / 100 * 100) ((x2 / 100) - (x2 / 100) / 100 * 100) (x2 / 10000)) hx hb hr (fun t ht hW => ⟨⟨(fX5_dayOf (x2 - x2 / 100 * 100) ((x2 / 100) - (x2 / 100) / 100 * 100) (x2 / 10000)), (s_mcode u 0), rfl, (by unfold fX5_day; rw [if_neg c_2, if_pos c_8, if_neg c_36, if_neg c_41, if_pos c_43]), by rw [ht]; exact hP, hD⟩, hS.F ht⟩) hS.2.2 dX5_day_95
          · skip
            have t_55 : x1.toInt = 0 := i_eq c_41 rfl (by decide)
            refine lv_iload_n hx hb dX5_day_51 rfl (lv_at hl 2 rfl) ?_
            refine lv_sipush (v := 10000) hx hb dX5_day_52 (by decide) ?_
            refine lv_idiv hx hb dX5_day_55 (by decide) ?_
            refine lv_iload_n hx hb dX5_day_56 rfl (lv_at hl 2 rfl) ?_
            refine lv_bipush (v := 100) hx hb dX5_day_57 (by decide) ?_
            refine lv_idiv hx hb dX5_day_59 (by decide) ?_
            refine lv_bipush (v := 100) hx hb dX5_day_60 (by decide) ?_
            refine lv_irem hx hb dX5_day_62 (by decide) ?_
            refine lv_iload_n hx hb dX5_day_63 rfl (lv_at hl 2 rfl) ?_
            refine lv_bipush (v := 100) hx hb dX5_day_64 (by decide) ?_
            refine lv_irem hx hb dX5_day_66 (by decide) ?_
            refine vp_callSi (W.runS (As := [.int (x2 / 10000), .int ((x2 / 100) - (x2 / 100) / 100 * 100), .int (x2 - x2 / 100 * 100)]) (rest := []) ⟨hx, hb, hml, hown, hts⟩ (kX5_dayOf l dC dI (x2 / 10000) ((x2 / 100) - (x2 / 100) / 100 * 100) (x2 - x2 / 100 * 100) (by have d1 := i_div (x := x2) (y := 10000) (k := 10000) (by omega) (by decide) (by decide); have d2 := i_rem (x := x2) (y := 100) (k := 100) (by omega) (by decide) (by decide); have d3 := i_div (x := x2) (y := 1000) (k := 1000) (by omega) (by decide) (by decide); omega)) (cwS 3 hts (gS wd_325 wd_326 wd_241 wcX5_dayOf) rfl rfl rfl (by decide +kernel) ⟨(Nat.le_of_ble_eq_true rfl), (Nat.le_of_ble_eq_true rfl)⟩) ⟨fun a U g mk q => by obtain ⟨q0, qT⟩ := q; exact ⟨q0, qT⟩, fun U hU hW => ⟨rfl, trivial⟩⟩ rfl rfl hl.1 rfl (lv_room (Nat.le_of_ble_eq_true rfl)) dX5_day_67 ⟨(Nat.le_of_ble_eq_true rfl), (Nat.le_of_ble_eq_true rfl)⟩) (fun r_56 hw => ?_)
            subst hw
            exact W.iret (v := fX5_dayOf (x2 / 10000) ((x2 / 100) - (x2 / 100) / 100 * 100) (x2 - x2 / 100 * 100)) hx hb hr (fun t ht hW => ⟨⟨(fX5_dayOf (x2 / 10000) ((x2 / 100) - (x2 / 100) / 100 * 100) (x2 - x2 / 100 * 100)), (s_mcode u 0), rfl, (by unfold fX5_day; rw [if_neg c_2, if_pos c_8, if_neg c_36, if_pos c_41]), by rw [ht]; exact hP, hD⟩, hS.F ht⟩) hS.2.2 dX5_day_70
        · skip
          exact absurd (by decide) c_40
      · skip
        have t_57 : (fX5_in x2 0 99999).toInt = 0 := i_eq c_36 rfl (by decide)
        refine lv_iconst (v := 1) hx hb dX5_day_30 (by decide) ?_
        refine lv_goto (tgt := 35) hx hb dX5_day_31 (by decide) ?_
        refine va_put (D := (dC, dI)) (C := RX5) (T := TX5) (N := 26) (v := .int 1) (ty := .int) hx hb hts (fi_X5 _) tyX5 tyX5_ok nmX5 hown hK hP hD hS 0 (mw_at0 _ _ _) rfl 0 (by decide) (hts _ (List.mem_cons_of_mem _ wd_237)) (fun _ h9 => h9) rfl (by decide +kernel) rfl rfl (Nat.le_of_ble_eq_true rfl) dX5_day_35 (fun H locs hP hD hS => ?_)
        have hP : va_P (dC, dI) vwCl (mw g h (s_mcode u 1)) H := hP
        have hD : va_D A (mw g h (s_mcode u 1)) := hD
        refine lv_aload_n hx hb dX5_day_38 rfl (lv_at hl 0 rfl) ?_
        refine va_get (D := (dC, dI)) (C := RX5) (T := TX5) (N := 26) (v := .int 1) hx hb hts (fi_X5 _) hown hK hP 0 (mw_at0 _ _ _) rfl 0 (by decide) (hts _ (List.mem_cons_of_mem _ wd_237)) (fun _ h9 => h9) rfl dX5_day_39 ?_
        refine lv_if_le (tgt := 47) hx hb dX5_day_42 (by decide) (fun c_58 => ?_) (fun c_58 => ?_)
        · skip
          exact absurd c_58 (by decide)
        · skip
          refine lv_iconst (v := 0) hx hb dX5_day_45 (by decide) ?_
          exact W.iret (v := 0) hx hb hr (fun t ht hW => ⟨⟨0, (s_mcode u 1), rfl, (by unfold fX5_day; rw [if_neg c_2, if_pos c_8, if_pos c_36]), by rw [ht]; exact hP, hD⟩, hS.F ht⟩) hS.2.2 dX5_day_46
set_option maxHeartbeats 4000000 in
set_option maxRecDepth 100000 in
theorem kX5_date (l : Launch) (dC : Nat → ClassId) (dI : Nat → Nat → Nat) (g : cG) (h : Nat → Nat) (u : mS) (sz : Nat) (x1 : Int32) (x2 : Int32) (hI : mInv u) : Met l yX5_date wsX5_date ({ frames := 1, cells := 0, slots := 0, locals := 22 }) (va_Pc [.ref (h 0), .int x1, .int x2] (fun U => U.heap.size = sz ∧ va_P (dC, dI) vwCl (mw g h u) U.heap ∧ va_K (dC, dI) vwCl (cTys g) U ∧ va_D (fun _ => True) (mw g h u))) (va_Qi (fun (r : Int32) u2 => (r, u2) = fX5_date u x1 x2) (fun (u2 : mS) (t : State) => va_P (dC, dI) vwCl (mw g h u2) t.heap ∧ va_D (va_A (mw g h u) sz) (mw g h u2)) (va_A (mw g h u) sz)) 0 0 (va_A (mw g h u) sz) := by
  refine Met.ofW (cc := cX5_date) (maxL := 6) (ret := (some .int)) (by decide) rfl ?_
  intro p e s m args below meth c s₁ B hml hv
  obtain ⟨rfl, hsz, hP, hK, hD0⟩ := hv
  have hx := B.exec
  have hb := B.bytes
  have hr := B.returns
  have hts := atoms_spec (ws := wsX5_date) B.pre
  have hown : s.vm.findClass RX5 = some m.cls := findClass_of_methodNamed B.named
  have hlocks := B.notSynchronized
  subst hsz
  have hD := hD0.self (sz := s.heap.size)
  generalize hAe : va_A (mw g h u) s.heap.size = A at hD ⊢
  have hA : ∀ q : Nat, s.heap.size ≤ q → A q := fun q h => by rw [← hAe]; exact Or.inr h
  have hS : va_S A s.heap s.heap [] := va_S.rf
  have hl := lv_entry ([.ref (h 0), .int x1, .int x2]) (n := 6) (Nat.le_of_ble_eq_true rfl)
  rw [lg_entry_eq]
  generalize (lg_sl ([.ref (h 0), .int x1, .int x2]) ++ List.replicate (6 - (lg_sl ([.ref (h 0), .int x1, .int x2])).length) Slot.unset).toArray = ls at hl ⊢
  have hl : lv_has ls 6 [(0, .ref (h 0)), (1, .int x1), (2, .int x2)] := hl
  obtain ⟨hI1, hI2, hI3, hI4, hI5, hI6, hI7⟩ := id hI
  have z_0 : (0 : Int32).toInt = 0 := by decide
  have z_1 : (2 : Int32).toInt = 2 := by decide
  have z_2 : (36524 : Int32).toInt = 36524 := by decide
  have z_3 : (1 : Int32).toInt = 1 := by decide
  refine lv_aload_n hx hb dX5_date_0 rfl (lv_at hl 0 rfl) ?_
  refine lv_iload_n hx hb dX5_date_1 rfl (lv_at hl 1 rfl) ?_
  refine lv_iconst (v := 0) hx hb dX5_date_2 (by decide) ?_
  refine lv_iconst (v := 2) hx hb dX5_date_3 (by decide) ?_
  refine vp_callSi (W.runS (As := [.int x1, .int 0, .int 2]) (rest := [.ref (h 0)]) ⟨hx, hb, hml, hown, hts⟩ (kX5_in l dC dI x1 0 2) (cwS 3 hts (gS wd_239 wd_240 wd_241 wcX5_in) rfl rfl rfl (by decide +kernel) ⟨(Nat.le_of_ble_eq_true rfl), (Nat.le_of_ble_eq_true rfl)⟩) ⟨fun a U g mk q => by obtain ⟨q0, qT⟩ := q; exact ⟨q0, qT⟩, fun U hU hW => ⟨rfl, trivial⟩⟩ rfl rfl hl.1 rfl (lv_room (Nat.le_of_ble_eq_true rfl)) dX5_date_4 ⟨(Nat.le_of_ble_eq_true rfl), (Nat.le_of_ble_eq_true rfl)⟩) (fun r_1 hw => ?_)
  subst hw
  refine lv_if_eq (tgt := 20) hx hb dX5_date_7 (by decide) (fun c_2 => ?_) (fun c_2 => ?_)
  · skip
    have t_3 : (fX5_in x1 0 2).toInt = 0 := i_eq c_2 rfl (by decide)
    refine lv_iconst (v := 1) hx hb dX5_date_20 (by decide) ?_
    refine lv_goto (tgt := 25) hx hb dX5_date_21 (by decide) ?_
    refine va_put (D := (dC, dI)) (C := RX5) (T := TX5) (N := 26) (v := .int 1) (ty := .int) hx hb hts (fi_X5 _) tyX5 tyX5_ok nmX5 hown hK hP hD hS 0 (mw_at0 _ _ _) rfl 0 (by decide) (hts _ (List.mem_cons_of_mem _ wd_237)) (fun _ h9 => h9) rfl (by decide +kernel) rfl rfl (Nat.le_of_ble_eq_true rfl) dX5_date_25 (fun H locs hP hD hS => ?_)
    have hP : va_P (dC, dI) vwCl (mw g h (s_mcode u 1)) H := hP
    have hD : va_D A (mw g h (s_mcode u 1)) := hD
    refine lv_aload_n hx hb dX5_date_28 rfl (lv_at hl 0 rfl) ?_
    refine va_get (D := (dC, dI)) (C := RX5) (T := TX5) (N := 26) (v := .int 1) hx hb hts (fi_X5 _) hown hK hP 0 (mw_at0 _ _ _) rfl 0 (by decide) (hts _ (List.mem_cons_of_mem _ wd_237)) (fun _ h9 => h9) rfl dX5_date_29 ?_
    refine lv_if_le (tgt := 37) hx hb dX5_date_32 (by decide) (fun c_4 => ?_) (fun c_4 => ?_)
    · skip
      exact absurd c_4 (by decide)
    · skip
      refine lv_iconst (v := 0) hx hb dX5_date_35 (by decide) ?_
      exact W.iret (v := 0) hx hb hr (fun t ht hW => ⟨⟨0, (s_mcode u 1), rfl, (by unfold fX5_date; rw [if_pos c_2]), by rw [ht]; exact hP, hD⟩, hS.F ht⟩) hS.2.2 dX5_date_36
  · skip
    have t_5 : (fX5_in x1 0 2).toInt ≠ 0 := i_ne c_2 rfl (by decide)
    have t_6 := in_lo c_2
    have t_7 := in_hi c_2
    refine lv_iload_n hx hb dX5_date_10 rfl (lv_at hl 2 rfl) ?_
    refine lv_iconst (v := 0) hx hb dX5_date_11 (by decide) ?_
    refine lv_ldc (v := 36524) hx hb hown (hts _ (List.mem_cons_of_mem _ wd_278)) dX5_date_12 ?_
    refine vp_callSi (W.runS (As := [.int x2, .int 0, .int 36524]) (rest := [.ref (h 0)]) ⟨hx, hb, hml, hown, hts⟩ (kX5_in l dC dI x2 0 36524) (cwS 3 hts (gS wd_239 wd_240 wd_241 wcX5_in) rfl rfl rfl (by decide +kernel) ⟨(Nat.le_of_ble_eq_true rfl), (Nat.le_of_ble_eq_true rfl)⟩) ⟨fun a U g mk q => by obtain ⟨q0, qT⟩ := q; exact ⟨q0, qT⟩, fun U hU hW => ⟨rfl, trivial⟩⟩ rfl rfl hl.1 rfl (lv_room (Nat.le_of_ble_eq_true rfl)) dX5_date_14 ⟨(Nat.le_of_ble_eq_true rfl), (Nat.le_of_ble_eq_true rfl)⟩) (fun r_8 hw => ?_)
    subst hw
    refine lv_if_ne (tgt := 24) hx hb dX5_date_17 (by decide) (fun c_9 => ?_) (fun c_9 => ?_)
    · skip
      have t_10 : (fX5_in x2 0 36524).toInt ≠ 0 := i_ne c_9 rfl (by decide)
      have t_11 := in_lo c_9
      have t_12 := in_hi c_9
      refine lv_iconst (v := 0) hx hb dX5_date_24 (by decide) ?_
      refine va_put (D := (dC, dI)) (C := RX5) (T := TX5) (N := 26) (v := .int 0) (ty := .int) hx hb hts (fi_X5 _) tyX5 tyX5_ok nmX5 hown hK hP hD hS 0 (mw_at0 _ _ _) rfl 0 (by decide) (hts _ (List.mem_cons_of_mem _ wd_237)) (fun _ h9 => h9) rfl (by decide +kernel) rfl rfl (Nat.le_of_ble_eq_true rfl) dX5_date_25 (fun H locs hP hD hS => ?_)
      have hP : va_P (dC, dI) vwCl (mw g h (s_mcode u 0)) H := hP
      have hD : va_D A (mw g h (s_mcode u 0)) := hD
      refine lv_aload_n hx hb dX5_date_28 rfl (lv_at hl 0 rfl) ?_
      refine va_get (D := (dC, dI)) (C := RX5) (T := TX5) (N := 26) (v := .int 0) hx hb hts (fi_X5 _) hown hK hP 0 (mw_at0 _ _ _) rfl 0 (by decide) (hts _ (List.mem_cons_of_mem _ wd_237)) (fun _ h9 => h9) rfl dX5_date_29 ?_
      refine lv_if_le (tgt := 37) hx hb dX5_date_32 (by decide) (fun c_13 => ?_) (fun c_13 => ?_)
      · skip
        refine lv_iconst (v := 0) hx hb dX5_date_37 (by decide) ?_
        refine lv_istore_n (lv' := [(3, .int 0), (0, .ref (h 0)), (1, .int x1), (2, .int x2)]) hx hb dX5_date_38 rfl hl (by decide) rfl (fun ls hl => ?_)
        refine lv_iload_n hx hb dX5_date_39 rfl (lv_at hl 3 rfl) ?_
        refine lv_istore (lv' := [(4, .int x2), (3, .int 0), (0, .ref (h 0)), (1, .int x1), (2, .int x2)]) hx hb dX5_date_40 hl (by decide) rfl (fun ls hl => ?_)
        refine lp_ind (W p l e _ s m _ below meth c _ _ _ _ _) (fun n ls => ∃ (a : Int32) (y : Int32), (0 ≤ a.toInt ∧ a.toInt < 365 * (n : Int)) ∧ fX5_date u x1 x2 = lpX5_date u x1 x2 n a y ∧ lv_has ls 6 [(4, .int a), (3, .int y), (0, .ref (h 0)), (1, .int x1), (2, .int x2)]) m 42 (fun ls hI0 => ?_) (fun n ls hI0 ih => ?_) 101 _ ⟨x2, 0, (by omega), (by unfold fX5_date; rw [if_neg c_2, if_neg c_9]), lv_sub hl [0, 1, 2, 3, 4] rfl⟩
        · skip
          obtain ⟨a, y, hn, he, hl⟩ := hI0
          exact absurd hn (by omega)
        · skip
          obtain ⟨a, y, hn, he, hl⟩ := hI0
          have he_16 := he
          have ih_15 := ih
          refine lv_iload hx hb dX5_date_42 (lv_at hl 0 rfl) ?_
          refine lv_iload_n hx hb dX5_date_44 rfl (lv_at hl 1 rfl) ?_
          refine vp_callSi (W.runS (As := [.int y]) (rest := [.int a]) ⟨hx, hb, hml, hown, hts⟩ (kX5_daysOfYear l dC dI y) (cwS 1 hts (gS wd_263 wd_264 wd_241 wcX5_daysOfYear) rfl rfl rfl (by decide +kernel) ⟨(Nat.le_of_ble_eq_true rfl), (Nat.le_of_ble_eq_true rfl)⟩) ⟨fun a U g mk q => by obtain ⟨q0, qT⟩ := q; exact ⟨q0, qT⟩, fun U hU hW => ⟨rfl, trivial⟩⟩ rfl rfl hl.1 rfl (lv_room (Nat.le_of_ble_eq_true rfl)) dX5_date_45 ⟨(Nat.le_of_ble_eq_true rfl), (Nat.le_of_ble_eq_true rfl)⟩) (fun r_17 hw => ?_)
          subst hw
          refine lv_icmp_lt (tgt := 66) hx hb dX5_date_48 (by decide) (fun c_18 => ?_) (fun c_18 => ?_)
          · skip
            have t_19 : a.toInt < (fX5_daysOfYear y).toInt := i_lt c_18 rfl rfl
            refine lv_iload_n hx hb dX5_date_66 rfl (lv_at hl 3 rfl) ?_
            refine lv_iconst (v := 2) hx hb dX5_date_67 (by decide) ?_
            refine lv_icmp_ne (tgt := 82) hx hb dX5_date_68 (by decide) (fun c_20 => ?_) (fun c_20 => ?_)
            · skip
              have t_21 : x1.toInt ≠ 2 := i_ne c_20 rfl (by decide)
              refine lv_iconst (v := 1) hx hb dX5_date_82 (by decide) ?_
              refine lv_istore (lv' := [(5, .int 1), (4, .int a), (3, .int y), (0, .ref (h 0)), (1, .int x1), (2, .int x2)]) hx hb dX5_date_83 hl (by decide) rfl (fun ls hl => ?_)
              refine lp_ind (W p l e _ s m _ below meth c _ _ _ _ _) (fun n2 ls => ∃ (b : Int32) (mo : Int32), (0 ≤ b.toInt ∧ b.toInt < 28 * (n2 : Int)) ∧ fX5_date u x1 x2 = lqX5_date u x1 x2 y n2 b mo ∧ lv_has ls 6 [(4, .int b), (5, .int mo), (0, .ref (h 0)), (1, .int x1), (2, .int x2), (3, .int y)]) m 85 (fun ls hI0 => ?_) (fun n2 ls hI0 ih => ?_) 14 _ ⟨a, 1, (by have hb0 := dy_rg y; omega), (by rw [he_16, lpX5_date_eq, if_pos c_18, if_neg c_20]), lv_sub hl [1, 0, 3, 4, 5, 2] rfl⟩
              · skip
                obtain ⟨b, mo, hn2, he, hl⟩ := hI0
                exact absurd hn2 (by omega)
              · skip
                obtain ⟨b, mo, hn2, he, hl⟩ := hI0
                have he_24 := he
                have ih_23 := ih
                refine lv_iload hx hb dX5_date_85 (lv_at hl 0 rfl) ?_
                refine lv_iload hx hb dX5_date_87 (lv_at hl 1 rfl) ?_
                refine lv_iload_n hx hb dX5_date_89 rfl (lv_at hl 5 rfl) ?_
                refine vp_callSi (W.runS (As := [.int mo, .int y]) (rest := [.int b]) ⟨hx, hb, hml, hown, hts⟩ (kX5_daysOfMonth l dC dI mo y) (cwS 2 hts (gS wd_266 wd_267 wd_241 wcX5_daysOfMonth) rfl rfl rfl (by decide +kernel) ⟨(Nat.le_of_ble_eq_true rfl), (Nat.le_of_ble_eq_true rfl)⟩) ⟨fun a U g mk q => by obtain ⟨q0, qT⟩ := q; exact ⟨q0, qT⟩, fun U hU hW => ⟨rfl, trivial⟩⟩ rfl rfl hl.1 rfl (lv_room (Nat.le_of_ble_eq_true rfl)) dX5_date_90 ⟨(Nat.le_of_ble_eq_true rfl), (Nat.le_of_ble_eq_true rfl)⟩) (fun r_25 hw => ?_)
                subst hw
                refine lv_icmp_lt (tgt := 113) hx hb dX5_date_93 (by decide) (fun c_26 => ?_) (fun c_26 => ?_)
                · skip
                  have t_27 : b.toInt < (fX5_daysOfMonth mo y).toInt := i_lt c_26 rfl rfl
                  refine lv_iload_n hx hb dX5_date_113 rfl (lv_at hl 3 rfl) ?_
                  refine lv_if_ne (tgt := 136) hx hb dX5_date_114 (by decide) (fun c_28 => ?_) (fun c_28 => ?_)
                  · skip
                    have t_29 : x1.toInt ≠ 0 := i_ne c_28 rfl (by decide)
                    refine lv_sipush (v := 10000) hx hb dX5_date_136 (by decide) ?_
                    refine lv_iload hx hb dX5_date_139 (lv_at hl 0 rfl) ?_
                    refine lv_iconst (v := 1) hx hb dX5_date_141 (by decide) ?_
                    refine lv_iadd hx hb dX5_date_142 ?_
                    refine lv_imul hx hb dX5_date_143 ?_
                    refine lv_bipush (v := 100) hx hb dX5_date_144 (by decide) ?_
                    refine lv_iload hx hb dX5_date_146 (lv_at hl 1 rfl) ?_
                    refine lv_imul hx hb dX5_date_148 ?_
                    refine lv_iadd hx hb dX5_date_149 ?_
                    refine lv_iload_n hx hb dX5_date_150 rfl (lv_at hl 5 rfl) ?_
                    refine lv_iadd hx hb dX5_date_151 ?_
                    exact W.iret (v := ((10000 * (b + 1)) + (100 * mo)) + y) hx hb hr (fun t ht hW => ⟨⟨(((10000 * (b + 1)) + (100 * mo)) + y), (s_mcode u 0), rfl, (by rw [he_24, lqX5_date_eq, if_pos c_26, if_neg c_28]), by rw [ht]; exact hP, hD⟩, hS.F ht⟩) hS.2.2 dX5_date_152
                  · skip
                    have t_30 : x1.toInt = 0 := i_eq c_28 rfl (by decide)
                    refine lv_sipush (v := 10000) hx hb dX5_date_117 (by decide) ?_
                    refine lv_iload_n hx hb dX5_date_120 rfl (lv_at hl 5 rfl) ?_
                    refine lv_imul hx hb dX5_date_121 ?_
                    refine lv_bipush (v := 100) hx hb dX5_date_122 (by decide) ?_
                    refine lv_iload hx hb dX5_date_124 (lv_at hl 1 rfl) ?_
                    refine lv_imul hx hb dX5_date_126 ?_
                    refine lv_iadd hx hb dX5_date_127 ?_
                    refine lv_iload hx hb dX5_date_128 (lv_at hl 0 rfl) ?_
                    refine lv_iadd hx hb dX5_date_130 ?_
                    refine lv_iconst (v := 1) hx hb dX5_date_131 (by decide) ?_
                    refine lv_iadd hx hb dX5_date_132 ?_
                    refine lv_goto (tgt := 152) hx hb dX5_date_133 (by decide) ?_
                    exact W.iret (v := (((10000 * y) + (100 * mo)) + b) + 1) hx hb hr (fun t ht hW => ⟨⟨((((10000 * y) + (100 * mo)) + b) + 1), (s_mcode u 0), rfl, (by rw [he_24, lqX5_date_eq, if_pos c_26, if_pos c_28]), by rw [ht]; exact hP, hD⟩, hS.F ht⟩) hS.2.2 dX5_date_152
                · skip
                  have t_31 : (fX5_daysOfMonth mo y).toInt ≤ b.toInt := i_nlt c_26 rfl rfl
                  refine lv_iload hx hb dX5_date_96 (lv_at hl 0 rfl) ?_
                  refine lv_iload hx hb dX5_date_98 (lv_at hl 1 rfl) ?_
                  refine lv_iload_n hx hb dX5_date_100 rfl (lv_at hl 5 rfl) ?_
                  refine vp_callSi (W.runS (As := [.int mo, .int y]) (rest := [.int b]) ⟨hx, hb, hml, hown, hts⟩ (kX5_daysOfMonth l dC dI mo y) (cwS 2 hts (gS wd_266 wd_267 wd_241 wcX5_daysOfMonth) rfl rfl rfl (by decide +kernel) ⟨(Nat.le_of_ble_eq_true rfl), (Nat.le_of_ble_eq_true rfl)⟩) ⟨fun a U g mk q => by obtain ⟨q0, qT⟩ := q; exact ⟨q0, qT⟩, fun U hU hW => ⟨rfl, trivial⟩⟩ rfl rfl hl.1 rfl (lv_room (Nat.le_of_ble_eq_true rfl)) dX5_date_101 ⟨(Nat.le_of_ble_eq_true rfl), (Nat.le_of_ble_eq_true rfl)⟩) (fun r_32 hw => ?_)
                  subst hw
                  refine lv_isub hx hb dX5_date_104 ?_
                  refine lv_istore (lv' := [(4, .int (b - (fX5_daysOfMonth mo y))), (5, .int mo), (0, .ref (h 0)), (1, .int x1), (2, .int x2), (3, .int y)]) hx hb dX5_date_105 hl (by decide) rfl (fun ls hl => ?_)
                  refine lv_iinc (v := mo + 1) (lv' := [(5, .int (mo + 1)), (4, .int (b - (fX5_daysOfMonth mo y))), (0, .ref (h 0)), (1, .int x1), (2, .int x2), (3, .int y)]) hx hb dX5_date_107 hl (k := 1) rfl rfl (by decide) rfl (fun ls hl => ?_)
                  refine lv_goto (tgt := 85) hx hb dX5_date_110 (by decide) ?_
                  have hb0 := dm_rg mo y
                  have hb9 := Int32.toInt_lt b
                  have hb1 := i_sub (x := b) (y := fX5_daysOfMonth mo y) (by omega) (by omega)
                  exact ih_23 _ ⟨(b - (fX5_daysOfMonth mo y)), (mo + 1), (by omega), (by rw [he_24, lqX5_date_eq, if_neg c_26]), lv_sub hl [1, 0, 2, 3, 4, 5] rfl⟩
            · skip
              have t_33 : x1.toInt = 2 := i_eq c_20 rfl (by decide)
              refine lv_sipush (v := 1000) hx hb dX5_date_71 (by decide) ?_
              refine lv_iload_n hx hb dX5_date_74 rfl (lv_at hl 1 rfl) ?_
              refine lv_imul hx hb dX5_date_75 ?_
              refine lv_iload hx hb dX5_date_76 (lv_at hl 0 rfl) ?_
              refine lv_iadd hx hb dX5_date_78 ?_
              refine lv_iconst (v := 1) hx hb dX5_date_79 (by decide) ?_
              refine lv_iadd hx hb dX5_date_80 ?_
              exact W.iret (v := ((1000 * y) + a) + 1) hx hb hr (fun t ht hW => ⟨⟨(((1000 * y) + a) + 1), (s_mcode u 0), rfl, (by rw [he_16, lpX5_date_eq, if_pos c_18, if_pos c_20]), by rw [ht]; exact hP, hD⟩, hS.F ht⟩) hS.2.2 dX5_date_81
          · skip
            have t_34 : (fX5_daysOfYear y).toInt ≤ a.toInt := i_nlt c_18 rfl rfl
            refine lv_iload hx hb dX5_date_51 (lv_at hl 0 rfl) ?_
            refine lv_iload_n hx hb dX5_date_53 rfl (lv_at hl 1 rfl) ?_
            refine vp_callSi (W.runS (As := [.int y]) (rest := [.int a]) ⟨hx, hb, hml, hown, hts⟩ (kX5_daysOfYear l dC dI y) (cwS 1 hts (gS wd_263 wd_264 wd_241 wcX5_daysOfYear) rfl rfl rfl (by decide +kernel) ⟨(Nat.le_of_ble_eq_true rfl), (Nat.le_of_ble_eq_true rfl)⟩) ⟨fun a U g mk q => by obtain ⟨q0, qT⟩ := q; exact ⟨q0, qT⟩, fun U hU hW => ⟨rfl, trivial⟩⟩ rfl rfl hl.1 rfl (lv_room (Nat.le_of_ble_eq_true rfl)) dX5_date_54 ⟨(Nat.le_of_ble_eq_true rfl), (Nat.le_of_ble_eq_true rfl)⟩) (fun r_35 hw => ?_)
            subst hw
            refine lv_isub hx hb dX5_date_57 ?_
            refine lv_istore (lv' := [(4, .int (a - (fX5_daysOfYear y))), (3, .int y), (0, .ref (h 0)), (1, .int x1), (2, .int x2)]) hx hb dX5_date_58 hl (by decide) rfl (fun ls hl => ?_)
            refine lv_iinc (v := y + 1) (lv' := [(3, .int (y + 1)), (4, .int (a - (fX5_daysOfYear y))), (0, .ref (h 0)), (1, .int x1), (2, .int x2)]) hx hb dX5_date_60 hl (k := 1) rfl rfl (by decide) rfl (fun ls hl => ?_)
            refine lv_goto (tgt := 42) hx hb dX5_date_63 (by decide) ?_
            have hb0 := dy_rg y
            have hb9 := Int32.toInt_lt a
            have hb1 := i_sub (x := a) (y := fX5_daysOfYear y) (by omega) (by omega)
            exact ih_15 _ ⟨(a - (fX5_daysOfYear y)), (y + 1), (by omega), (by rw [he_16, lpX5_date_eq, if_neg c_18]), lv_sub hl [1, 0, 2, 3, 4] rfl⟩
      · skip
        exact absurd (by decide) c_13
    · skip
      have t_36 : (fX5_in x2 0 36524).toInt = 0 := i_eq c_9 rfl (by decide)
      refine lv_iconst (v := 1) hx hb dX5_date_20 (by decide) ?_
      refine lv_goto (tgt := 25) hx hb dX5_date_21 (by decide) ?_
      refine va_put (D := (dC, dI)) (C := RX5) (T := TX5) (N := 26) (v := .int 1) (ty := .int) hx hb hts (fi_X5 _) tyX5 tyX5_ok nmX5 hown hK hP hD hS 0 (mw_at0 _ _ _) rfl 0 (by decide) (hts _ (List.mem_cons_of_mem _ wd_237)) (fun _ h9 => h9) rfl (by decide +kernel) rfl rfl (Nat.le_of_ble_eq_true rfl) dX5_date_25 (fun H locs hP hD hS => ?_)
      have hP : va_P (dC, dI) vwCl (mw g h (s_mcode u 1)) H := hP
      have hD : va_D A (mw g h (s_mcode u 1)) := hD
      refine lv_aload_n hx hb dX5_date_28 rfl (lv_at hl 0 rfl) ?_
      refine va_get (D := (dC, dI)) (C := RX5) (T := TX5) (N := 26) (v := .int 1) hx hb hts (fi_X5 _) hown hK hP 0 (mw_at0 _ _ _) rfl 0 (by decide) (hts _ (List.mem_cons_of_mem _ wd_237)) (fun _ h9 => h9) rfl dX5_date_29 ?_
      refine lv_if_le (tgt := 37) hx hb dX5_date_32 (by decide) (fun c_37 => ?_) (fun c_37 => ?_)
      · skip
        exact absurd c_37 (by decide)
      · skip
        refine lv_iconst (v := 0) hx hb dX5_date_35 (by decide) ?_
        exact W.iret (v := 0) hx hb hr (fun t ht hW => ⟨⟨0, (s_mcode u 1), rfl, (by unfold fX5_date; rw [if_neg c_2, if_pos c_9]), by rw [ht]; exact hP, hD⟩, hS.F ht⟩) hS.2.2 dX5_date_36