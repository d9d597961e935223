set_option maxHeartbeats 4000000 in
set_option maxRecDepth 100000 in
theorem kX5_quarantine (l : Launch) (dC : Nat → ClassId) (dI : Nat → Nat → Nat) (g : cG) (h : Nat → Nat) (u : mS) (sz : Nat) (x1 : Int32) (x2 : Int32) (hI : mInv u) : Met l yX5_quarantine wsX5_quarantine ({ frames := 2, cells := 0, slots := 0, locals := 43 }) (va_Pc [.ref (h 0), .int x1, .int x2] (fun U => U.heap.size = sz ∧ va_P (dC, dI) vwCl (mw g h u) U.heap ∧ va_K (dC, dI) vwCl (cTys g) U ∧ va_D (fun _ => True) (mw g h u))) (va_Qv (fun u2 => u2 = fX5_quarantine u x1 x2) (fun (u2 : mS) (t : State) => va_P (dC, dI) vwCl (mw g h u2) t.heap ∧ va_D (va_A (mw g h u) sz) (mw g h u2)) (va_A (mw g h u) sz)) 0 0 (va_A (mw g h u) sz) := by
  refine Met.ofW (cc := cX5_quarantine) (maxL := 3) (ret := none) (by decide) rfl ?_
  intro p e s m args below meth c s₁ B hml hv
  obtain ⟨rfl, hsz, hP, hK, hD0⟩ := hv
  have hx := B.exec
  have hb := B.bytes
  have hr := B.returns
  have hts := atoms_spec (ws := wsX5_quarantine) B.pre
  have hown : s.vm.findClass RX5 = some m.cls := findClass_of_methodNamed B.named
  have hlocks := B.notSynchronized
  subst hsz
  have hD := hD0.self (sz := s.heap.size)
  generalize hAe : va_A (mw g h u) s.heap.size = A at hD ⊢
  have hA : ∀ q : Nat, s.heap.size ≤ q → A q := fun q h => by rw [← hAe]; exact Or.inr h
  have hS : va_S A s.heap s.heap [] := va_S.rf
  have hl := lv_entry ([.ref (h 0), .int x1, .int x2]) (n := 3) (Nat.le_of_ble_eq_true rfl)
  rw [lg_entry_eq]
  generalize (lg_sl ([.ref (h 0), .int x1, .int x2]) ++ List.replicate (3 - (lg_sl ([.ref (h 0), .int x1, .int x2])).length) Slot.unset).toArray = ls at hl ⊢
  have hl : lv_has ls 3 [(0, .ref (h 0)), (1, .int x1), (2, .int x2)] := hl
  obtain ⟨hI1, hI2, hI3, hI4, hI5, hI6, hI7⟩ := id hI
  have z_0 : (0 : Int32).toInt = 0 := by decide
  refine lv_aload_n hx hb dX5_quarantine_0 rfl (lv_at hl 0 rfl) ?_
  refine lv_aload_n hx hb dX5_quarantine_1 rfl (lv_at hl 0 rfl) ?_
  refine lv_iload_n hx hb dX5_quarantine_2 rfl (lv_at hl 1 rfl) ?_
  refine vp_callSi (W.runV (As := [.int x1]) (rest := [.ref (h 0)]) ⟨hx, hb, hml, hown, hts⟩ (kX5_isLot l dC dI g h u x1) (cwV 1 hts (gV wd_288 wd_289 wd_290 wd_241 wcX5_isLot) rfl rfl rfl (by decide +kernel) ⟨(Nat.le_of_ble_eq_true rfl), (Nat.le_of_ble_eq_true rfl)⟩) ⟨fun a U g mk q => by obtain ⟨q0, qP, qK⟩ := q; exact ⟨q0, qP, va_K.moved (u := U) (U := U.calling g mk a) (Vm.Alike.refl U.vm) qK⟩, va_recv hK hP (ci := 4) (q0 := 0) rfl (mw_at0 _ _ _), fun U hU hW => ⟨rfl, by rw [hU]; exact hP, va_K.moved hW.alike hK⟩⟩ rfl rfl hl.1 rfl (lv_room (Nat.le_of_ble_eq_true rfl)) dX5_quarantine_3 ⟨(Nat.le_of_ble_eq_true rfl), (Nat.le_of_ble_eq_true rfl)⟩) (fun r_1 hw => ?_)
  subst hw
  refine lv_if_ne (tgt := 13) hx hb dX5_quarantine_6 (by decide) (fun c_2 => ?_) (fun c_2 => ?_)
  · skip
    have t_3 : (fX5_isLot u x1).toInt ≠ 0 := i_ne c_2 rfl (by decide)
    have t_4 := il_lo c_2
    have t_5 := il_hi c_2
    refine lv_aload_n hx hb dX5_quarantine_13 rfl (lv_at hl 0 rfl) ?_
    refine lv_iload_n hx hb dX5_quarantine_14 rfl (lv_at hl 1 rfl) ?_
    refine vp_callSi (W.runV (As := [.int x1]) (rest := [.ref (h 0)]) ⟨hx, hb, hml, hown, hts⟩ (kX5_isOpen l dC dI g h u x1 (by omega)) (cwV 1 hts (gV wd_246 wd_247 wd_248 wd_241 wcX5_isOpen) rfl rfl rfl (by decide +kernel) ⟨(Nat.le_of_ble_eq_true rfl), (Nat.le_of_ble_eq_true rfl)⟩) ⟨fun a U g mk q => by obtain ⟨q0, qP, qK⟩ := q; exact ⟨q0, qP, va_K.moved (u := U) (U := U.calling g mk a) (Vm.Alike.refl U.vm) qK⟩, va_recv hK hP (ci := 4) (q0 := 0) rfl (mw_at0 _ _ _), fun U hU hW => ⟨rfl, by rw [hU]; exact hP, va_K.moved hW.alike hK⟩⟩ rfl rfl hl.1 rfl (lv_room (Nat.le_of_ble_eq_true rfl)) dX5_quarantine_15 ⟨(Nat.le_of_ble_eq_true rfl), (Nat.le_of_ble_eq_true rfl)⟩) (fun r_6 hw => ?_)
    subst hw
    refine lv_if_eq (tgt := 31) hx hb dX5_quarantine_18 (by decide) (fun c_7 => ?_) (fun c_7 => ?_)
    · skip
      have t_8 : (fX5_isOpen u x1).toInt = 0 := i_eq c_7 rfl (by decide)
      refine lv_iconst (v := 2) hx hb dX5_quarantine_31 (by decide) ?_
      refine lv_goto (tgt := 50) hx hb dX5_quarantine_32 (by decide) ?_
      refine va_put (D := (dC, dI)) (C := RX5) (T := TX5) (N := 26) (v := .int 2) (ty := .int) hx hb hts (fi_X5 _) tyX5 tyX5_ok nmX5 hown hK hP hD hS 0 (mw_at0 _ _ _) rfl 0 (by decide) (hts _ (List.mem_cons_of_mem _ wd_237)) (fun _ h9 => h9) rfl (by decide +kernel) rfl rfl (Nat.le_of_ble_eq_true rfl) dX5_quarantine_50 (fun H locs hP hD hS => ?_)
      have hP : va_P (dC, dI) vwCl (mw g h (s_mcode u 2)) H := hP
      have hD : va_D A (mw g h (s_mcode u 2)) := hD
      refine lv_aload_n hx hb dX5_quarantine_53 rfl (lv_at hl 0 rfl) ?_
      refine va_get (D := (dC, dI)) (C := RX5) (T := TX5) (N := 26) (v := .int 2) hx hb hts (fi_X5 _) hown hK hP 0 (mw_at0 _ _ _) rfl 0 (by decide) (hts _ (List.mem_cons_of_mem _ wd_237)) (fun _ h9 => h9) rfl dX5_quarantine_54 ?_
      refine lv_if_le (tgt := 61) hx hb dX5_quarantine_57 (by decide) (fun c_9 => ?_) (fun c_9 => ?_)
      · skip
        exact absurd c_9 (by decide)
      · skip
        exact W.vret hx hb hr (fun t ht hW => ⟨⟨(s_mcode u 2), rfl, (by unfold fX5_quarantine; rw [if_neg c_2, if_pos c_7]), by rw [ht]; exact hP, hD⟩, hS.F ht⟩) hS.2.2 dX5_quarantine_60
    · skip
      have t_10 : (fX5_isOpen u x1).toInt ≠ 0 := i_ne c_7 rfl (by decide)
      refine lv_aload_n hx hb dX5_quarantine_21 rfl (lv_at hl 0 rfl) ?_
      refine va_get (D := (dC, dI)) (C := RX5) (T := TX5) (N := 26) (v := .ref (h 8)) hx hb hts (fi_X5 _) hown hK hP 0 (mw_at0 _ _ _) rfl 9 (by decide) (hts _ (List.mem_cons_of_mem _ wd_251)) (fun _ h9 => h9) rfl dX5_quarantine_22 ?_
      refine lv_iload_n hx hb dX5_quarantine_25 rfl (lv_at hl 1 rfl) ?_
      refine va_zald (f := k_mquiet u) hx hb hK hP 8 1 (mw_at8 _ _ _) rfl (vp_in_iff.mpr (by omega)) dX5_quarantine_26 ?_
      refine lv_iload_n hx hb dX5_quarantine_27 rfl (lv_at hl 2 rfl) ?_
      refine lv_icmp_ne (tgt := 35) hx hb dX5_quarantine_28 (by decide) (fun c_11 => ?_) (fun c_11 => ?_)
      · skip
        have t_12 : (k_mquiet u x1.toNatClampNeg).toInt ≠ x2.toInt := i_ne c_11 rfl rfl
        refine lv_aload_n hx hb dX5_quarantine_35 rfl (lv_at hl 0 rfl) ?_
        refine va_get (D := (dC, dI)) (C := RX5) (T := TX5) (N := 26) (v := .int (k_mrows u)) hx hb hts (fi_X5 _) hown hK hP 0 (mw_at0 _ _ _) rfl 20 (by decide) (hts _ (List.mem_cons_of_mem _ wd_273)) (fun _ h9 => h9) rfl dX5_quarantine_36 ?_
        refine lv_sipush (v := 400) hx hb dX5_quarantine_39 (by decide) ?_
        refine lv_icmp_ne (tgt := 49) hx hb dX5_quarantine_42 (by decide) (fun c_13 => ?_) (fun c_13 => ?_)
        · skip
          have t_14 : (k_mrows u).toInt ≠ 400 := i_ne c_13 rfl (by decide)
          refine lv_iconst (v := 0) hx hb dX5_quarantine_49 (by decide) ?_
          refine va_put (D := (dC, dI)) (C := RX5) (T := TX5) (N := 26) (v := .int 0) (ty := .int) hx hb hts (fi_X5 _) tyX5 tyX5_ok nmX5 hown hK hP hD hS 0 (mw_at0 _ _ _) rfl 0 (by decide) (hts _ (List.mem_cons_of_mem _ wd_237)) (fun _ h9 => h9) rfl (by decide +kernel) rfl rfl (Nat.le_of_ble_eq_true rfl) dX5_quarantine_50 (fun H locs hP hD hS => ?_)
          have hP : va_P (dC, dI) vwCl (mw g h (s_mcode u 0)) H := hP
          have hD : va_D A (mw g h (s_mcode u 0)) := hD
          refine lv_aload_n hx hb dX5_quarantine_53 rfl (lv_at hl 0 rfl) ?_
          refine va_get (D := (dC, dI)) (C := RX5) (T := TX5) (N := 26) (v := .int 0) hx hb hts (fi_X5 _) hown hK hP 0 (mw_at0 _ _ _) rfl 0 (by decide) (hts _ (List.mem_cons_of_mem _ wd_237)) (fun _ h9 => h9) rfl dX5_quarantine_54 ?_
          refine lv_if_le (tgt := 61) hx hb dX5_quarantine_57 (by decide) (fun c_15 => ?_) (fun c_15 => ?_)
          · skip
            refine lv_aload_n hx hb dX5_quarantine_61 rfl (lv_at hl 0 rfl) ?_
            refine va_get (D := (dC, dI)) (C := RX5) (T := TX5) (N := 26) (v := .ref (h 8)) hx hb hts (fi_X5 _) hown hK hP 0 (mw_at0 _ _ _) rfl 9 (by decide) (hts _ (List.mem_cons_of_mem _ wd_251)) (fun _ h9 => h9) rfl dX5_quarantine_62 ?_
            refine lv_iload_n hx hb dX5_quarantine_65 rfl (lv_at hl 1 rfl) ?_
            refine lv_iload_n hx hb dX5_quarantine_66 rfl (lv_at hl 2 rfl) ?_
            refine va_zast (f := k_mquiet u) hx hb hK hP hD hS 8 1 (mw_at8 _ _ _) rfl (vp_in_iff.mpr (by omega)) dX5_quarantine_67 (fun H locs hP hD hS => ?_)
            have hP : va_P (dC, dI) vwCl (mw g h (s_mquiet (s_mcode u 0) (upd (k_mquiet u) x1.toNatClampNeg (vp_nar .boolean x2)))) H := hP
            have hD : va_D A (mw g h (s_mquiet (s_mcode u 0) (upd (k_mquiet u) x1.toNatClampNeg (vp_nar .boolean x2)))) := hD
            refine lv_aload_n hx hb dX5_quarantine_68 rfl (lv_at hl 0 rfl) ?_
            refine lv_iload_n hx hb dX5_quarantine_69 rfl (lv_at hl 1 rfl) ?_
            refine lv_iload_n hx hb dX5_quarantine_70 rfl (lv_at hl 2 rfl) ?_
            refine lv_if_eq (tgt := 79) hx hb dX5_quarantine_71 (by decide) (fun c_16 => ?_) (fun c_16 => ?_)
            · skip
              have t_17 : x2.toInt = 0 := i_eq c_16 rfl (by decide)
              refine lv_bipush (v := 9) hx hb dX5_quarantine_79 (by decide) ?_
              refine lv_iconst (v := 0) hx hb dX5_quarantine_81 (by decide) ?_
              have hFc := va_free (wc := mw g h (s_mquiet (s_mcode u 0) (upd (k_mquiet u) x1.toNatClampNeg (vp_nar .boolean x2)))) hD hS hA [0, 1, 2, 3, 4, 5, 6, 7, 8, 9, 10, 11, 12, 13, 14, 15, 16, 17, 18, 19, 20, 21, 22] rfl
              refine va_callv (va_runV (As := [.int x1, .int 9, .int 0]) (rest := []) ⟨hx, hb, hml, hown, hts⟩ (kX5_row l dC dI g h (s_mquiet (s_mcode u 0) (upd (k_mquiet u) x1.toNatClampNeg (vp_nar .boolean x2))) _ x1 9 0 (by show 0 ≤ (k_mrows u).toInt ∧ (k_mrows u).toInt < 400; omega)) (cwV 3 hts (gV wd_283 wd_284 wd_285 wd_241 wcX5_row) rfl rfl rfl (by decide +kernel) ⟨(Nat.le_of_ble_eq_true rfl), (Nat.le_of_ble_eq_true rfl)⟩) ⟨fun a U g mk q => by obtain ⟨q0, q1, qP, qK, qD⟩ := q; exact ⟨q0, q1, qP, va_K.moved (u := U) (U := U.calling g mk a) (Vm.Alike.refl U.vm) qK, qD⟩, va_recv hK hP (ci := 4) (q0 := 0) rfl (mw_at0 _ _ _), fun U hU hW => ⟨rfl, by rw [hU], by rw [hU]; exact hP, va_K.moved hW.alike hK, hD.weaken (fun _ _ _ _ => trivial)⟩⟩ rfl rfl hl.1 rfl (lv_room (Nat.le_of_ble_eq_true rfl)) dX5_quarantine_82 ⟨(Nat.le_of_ble_eq_true rfl), (Nat.le_of_ble_eq_true rfl)⟩) hS (fun q _ h => hFc q h) hFc (fun u_18 t H locs ht hvm hw hB hz1 hk1 hS => ?_)
              obtain ⟨hP, hD⟩ := hB
              rw [ht] at hP
              have hD := hD.weaken (fun _ _ _ h => hFc _ h)
              have e_20 : u_18 = fX5_row (s_mquiet (s_mcode u 0) (upd (k_mquiet u) x1.toNatClampNeg (vp_nar .boolean x2))) x1 9 0 := hw
              clear hw
              exact W.vret hx hb hr (fun t ht hW => ⟨⟨u_18, rfl, (by subst e_20; unfold fX5_quarantine; rw [if_neg c_2, if_neg c_7, if_neg c_11, if_neg c_13, if_pos c_16]), by rw [ht]; exact hP, hD⟩, hS.F ht⟩) hS.2.2 dX5_quarantine_85
            · skip
              have t_21 : x2.toInt ≠ 0 := i_ne c_16 rfl (by decide)
              refine lv_bipush (v := 8) hx hb dX5_quarantine_74 (by decide) ?_
              refine lv_goto (tgt := 81) hx hb dX5_quarantine_76 (by decide) ?_
              refine lv_iconst (v := 0) hx hb dX5_quarantine_81 (by decide) ?_
              have hFc := va_free (wc := mw g h (s_mquiet (s_mcode u 0) (upd (k_mquiet u) x1.toNatClampNeg (vp_nar .boolean x2)))) hD hS hA [0, 1, 2, 3, 4, 5, 6, 7, 8, 9, 10, 11, 12, 13, 14, 15, 16, 17, 18, 19, 20, 21, 22] rfl
              refine va_callv (va_runV (As := [.int x1, .int 8, .int 0]) (rest := []) ⟨hx, hb, hml, hown, hts⟩ (kX5_row l dC dI g h (s_mquiet (s_mcode u 0) (upd (k_mquiet u) x1.toNatClampNeg (vp_nar .boolean x2))) _ x1 8 0 (by show 0 ≤ (k_mrows u).toInt ∧ (k_mrows u).toInt < 400; omega)) (cwV 3 hts (gV wd_283 wd_284 wd_285 wd_241 wcX5_row) rfl rfl rfl (by decide +kernel) ⟨(Nat.le_of_ble_eq_true rfl), (Nat.le_of_ble_eq_true rfl)⟩) ⟨fun a U g mk q => by obtain ⟨q0, q1, qP, qK, qD⟩ := q; exact ⟨q0, q1, qP, va_K.moved (u := U) (U := U.calling g mk a) (Vm.Alike.refl U.vm) qK, qD⟩, va_recv hK hP (ci := 4) (q0 := 0) rfl (mw_at0 _ _ _), fun U hU hW => ⟨rfl, by rw [hU], by rw [hU]; exact hP, va_K.moved hW.alike hK, hD.weaken (fun _ _ _ _ => trivial)⟩⟩ rfl rfl hl.1 rfl (lv_room (Nat.le_of_ble_eq_true rfl)) dX5_quarantine_82 ⟨(Nat.le_of_ble_eq_true rfl), (Nat.le_of_ble_eq_true rfl)⟩) hS (fun q _ h => hFc q h) hFc (fun u_22 t H locs ht hvm hw hB hz1 hk1 hS => ?_)
              obtain ⟨hP, hD⟩ := hB
              rw [ht] at hP
              have hD := hD.weaken (fun _ _ _ h => hFc _ h)
              have e_24 : u_22 = fX5_row (s_mquiet (s_mcode u 0) (upd (k_mquiet u) x1.toNatClampNeg (vp_nar .boolean x2))) x1 8 0 := hw
              clear hw
              exact W.vret hx hb hr (fun t ht hW => ⟨⟨u_22, rfl, (by subst e_24; unfold fX5_quarantine; rw [if_neg c_2, if_neg c_7, if_neg c_11, if_neg c_13, if_neg c_16]), by rw [ht]; exact hP, hD⟩, hS.F ht⟩) hS.2.2 dX5_quarantine_85
          · skip
            exact absurd (by decide) c_15
        · skip
          have t_25 : (k_mrows u).toInt = 400 := i_eq c_13 rfl (by decide)
          refine lv_iconst (v := 3) hx hb dX5_quarantine_45 (by decide) ?_
          refine lv_goto (tgt := 50) hx hb dX5_quarantine_46 (by decide) ?_
          refine va_put (D := (dC, dI)) (C := RX5) (T := TX5) (N := 26) (v := .int 3) (ty := .int) hx hb hts (fi_X5 _) tyX5 tyX5_ok nmX5 hown hK hP hD hS 0 (mw_at0 _ _ _) rfl 0 (by decide) (hts _ (List.mem_cons_of_mem _ wd_237)) (fun _ h9 => h9) rfl (by decide +kernel) rfl rfl (Nat.le_of_ble_eq_true rfl) dX5_quarantine_50 (fun H locs hP hD hS => ?_)
          have hP : va_P (dC, dI) vwCl (mw g h (s_mcode u 3)) H := hP
          have hD : va_D A (mw g h (s_mcode u 3)) := hD
          refine lv_aload_n hx hb dX5_quarantine_53 rfl (lv_at hl 0 rfl) ?_
          refine va_get (D := (dC, dI)) (C := RX5) (T := TX5) (N := 26) (v := .int 3) hx hb hts (fi_X5 _) hown hK hP 0 (mw_at0 _ _ _) rfl 0 (by decide) (hts _ (List.mem_cons_of_mem _ wd_237)) (fun _ h9 => h9) rfl dX5_quarantine_54 ?_
          refine lv_if_le (tgt := 61) hx hb dX5_quarantine_57 (by decide) (fun c_26 => ?_) (fun c_26 => ?_)
          · skip
            exact absurd c_26 (by decide)
          · skip
            exact W.vret hx hb hr (fun t ht hW => ⟨⟨(s_mcode u 3), rfl, (by unfold fX5_quarantine; rw [if_neg c_2, if_neg c_7, if_neg c_11, if_pos c_13]), by rw [ht]; exact hP, hD⟩, hS.F ht⟩) hS.2.2 dX5_quarantine_60
      · skip
        have t_27 : (k_mquiet u x1.toNatClampNeg).toInt = x2.toInt := i_eq c_11 rfl rfl
        refine lv_iconst (v := 2) hx hb dX5_quarantine_31 (by decide) ?_
        refine lv_goto (tgt := 50) hx hb dX5_quarantine_32 (by decide) ?_
        refine va_put (D := (dC, dI)) (C := RX5) (T := TX5) (N := 26) (v := .int 2) (ty := .int) hx hb hts (fi_X5 _) tyX5 tyX5_ok nmX5 hown hK hP hD hS 0 (mw_at0 _ _ _) rfl 0 (by decide) (hts _ (List.mem_cons_of_mem _ wd_237)) (fun _ h9 => h9) rfl (by decide +kernel) rfl rfl (Nat.le_of_ble_eq_true rfl) dX5_quarantine_50 (fun H locs hP hD hS => ?_)
        have hP : va_P (dC, dI) vwCl (mw g h (s_mcode u 2)) H := hP
        have hD : va_D A (mw g h (s_mcode u 2)) := hD
        refine lv_aload_n hx hb dX5_quarantine_53 rfl (lv_at hl 0 rfl) ?_
        refine va_get (D := (dC, dI)) (C := RX5) (T := TX5) (N := 26) (v := .int 2) hx hb hts (fi_X5 _) hown hK hP 0 (mw_at0 _ _ _) rfl 0 (by decide) (hts _ (List.mem_cons_of_mem _ wd_237)) (fun _ h9 => h9) rfl dX5_quarantine_54 ?_
        refine lv_if_le (tgt := 61) hx hb dX5_quarantine_57 (by decide) (fun c_28 => ?_) (fun c_28 => ?_)
        · skip
          exact absurd c_28 (by decide)
        · skip
          exact W.vret hx hb hr (fun t ht hW => ⟨⟨(s_mcode u 2), rfl, (by unfold fX5_quarantine; rw [if_neg c_2, if_neg c_7, if_pos c_11]), by rw [ht]; exact hP, hD⟩, hS.F ht⟩) hS.2.2 dX5_quarantine_60
  · skip
    have t_29 : (fX5_isLot u x1).toInt = 0 := i_eq c_2 rfl (by decide)
    refine lv_iconst (v := 1) hx hb dX5_quarantine_9 (by decide) ?_
    refine lv_goto (tgt := 50) hx hb dX5_quarantine_10 (by decide) ?_
    refine va_put (D := (dC, dI)) (C := RX5) (T := TX5) (N := 26) (v := .int 1) (ty := .int) hx hb hts (fi_X5 _) tyX5 tyX5_ok nmX5 hown hK hP hD hS 0 (mw_at0 _ _ _) rfl 0 (by decide) (hts _ (List.mem_cons_of_mem _ wd_237)) (fun _ h9 => h9) rfl (by decide +kernel) rfl rfl (Nat.le_of_ble_eq_true rfl) dX5_quarantine_50 (fun H locs hP hD hS => ?_)
    have hP : va_P (dC, dI) vwCl (mw g h (s_mcode u 1)) H := hP
    have hD : va_D A (mw g h (s_mcode u 1)) := hD
    refine lv_aload_n hx hb dX5_quarantine_53 rfl (lv_at hl 0 rfl) ?_
    refine va_get (D := (dC, dI)) (C := RX5) (T := TX5) (N := 26) (v := .int 1) hx hb hts (fi_X5 _) hown hK hP 0 (mw_at0 _ _ _) rfl 0 (by decide) (hts _ (List.mem_cons_of_mem _ wd_237)) (fun _ h9 => h9) rfl dX5_quarantine_54 ?_
    refine lv_if_le (tgt := 61) hx hb dX5_quarantine_57 (by decide) (fun c_30 => ?_) (fun c_30 => ?_)
    · skip
      exact absurd c_30 (by decide)
    · skip
      exact W.vret hx hb hr (fun t ht hW => ⟨⟨(s_mcode u 1), rfl, (by unfold fX5_quarantine; rw [if_pos c_2]), by rw [ht]; exact hP, hD⟩, hS.F ht⟩) hS.2.2 dX5_quarantine_60
set_option maxHeartbeats 4000000 in
set_option maxRecDepth 100000 in
theorem kX5_allowed (l : Launch) (dC : Nat → ClassId) (dI : Nat → Nat → Nat) (g : cG) (h : Nat → Nat) (u : mS) (sz : Nat) (x1 : Int32) (x2 : Int32) (x3 : Int32) (hI : mInv u) : Met l yX5_allowed wsX5_allowed ({ frames := 3, cells := 0, slots := 0, locals := 65 }) (va_Pc [.ref (h 0), .int x1, .int x2, .int x3] (fun U => U.heap.size = sz ∧ va_P (dC, dI) vwCl (mw g h u) U.heap ∧ va_K (dC, dI) vwCl (cTys g) U ∧ va_D (fun _ => True) (mw g h u))) (va_Qi (fun (r : Int32) u2 => (r, u2) = fX5_allowed u x1 x2 x3) (fun (u2 : mS) (t : State) => va_P (dC, dI) vwCl (mw g h u2) t.heap ∧ va_D (va_A (mw g h u) sz) (mw g h u2)) (va_A (mw g h u) sz)) 0 0 (va_A (mw g h u) sz) := by
  refine Met.ofW (cc := cX5_allowed) (maxL := 4) (ret := (some .boolean)) (by decide) rfl ?_
  intro p e s m args below meth c s₁ B hml hv
  obtain ⟨rfl, hsz, hP, hK, hD0⟩ := hv
  have hx := B.exec
  have hb := B.bytes
  have hr := B.returns
  have hts := atoms_spec (ws := wsX5_allowed) B.pre
  have hown : s.vm.findClass RX5 = some m.cls := findClass_of_methodNamed B.named
  have hlocks := B.notSynchronized
  subst hsz
  have hD := hD0.self (sz := s.heap.size)
  generalize hAe : va_A (mw g h u) s.heap.size = A at hD ⊢
  have hA : ∀ q : Nat, s.heap.size ≤ q → A q := fun q h => by rw [← hAe]; exact Or.inr h
  have hS : va_S A s.heap s.heap [] := va_S.rf
  have hl := lv_entry ([.ref (h 0), .int x1, .int x2, .int x3]) (n := 4) (Nat.le_of_ble_eq_true rfl)
  rw [lg_entry_eq]
  generalize (lg_sl ([.ref (h 0), .int x1, .int x2, .int x3]) ++ List.replicate (4 - (lg_sl ([.ref (h 0), .int x1, .int x2, .int x3])).length) Slot.unset).toArray = ls at hl ⊢
  have hl : lv_has ls 4 [(0, .ref (h 0)), (1, .int x1), (2, .int x2), (3, .int x3)] := hl
  obtain ⟨hI1, hI2, hI3, hI4, hI5, hI6, hI7⟩ := id hI
  have z_0 : (0 : Int32).toInt = 0 := by decide
  have z_1 : (7 : Int32).toInt = 7 := by decide
  have z_2 : (36524 : Int32).toInt = 36524 := by decide
  refine lv_aload_n hx hb dX5_allowed_0 rfl (lv_at hl 0 rfl) ?_
  refine lv_aload_n hx hb dX5_allowed_1 rfl (lv_at hl 0 rfl) ?_
  refine lv_iload_n hx hb dX5_allowed_2 rfl (lv_at hl 1 rfl) ?_
  refine vp_callSi (W.runV (As := [.int x1]) (rest := [.ref (h 0)]) ⟨hx, hb, hml, hown, hts⟩ (kX5_isLot l dC dI g h u x1) (cwV 1 hts (gV wd_288 wd_289 wd_290 wd_241 wcX5_isLot) rfl rfl rfl (by decide +kernel) ⟨(Nat.le_of_ble_eq_true rfl), (Nat.le_of_ble_eq_true rfl)⟩) ⟨fun a U g mk q => by obtain ⟨q0, qP, qK⟩ := q; exact ⟨q0, qP, va_K.moved (u := U) (U := U.calling g mk a) (Vm.Alike.refl U.vm) qK⟩, va_recv hK hP (ci := 4) (q0 := 0) rfl (mw_at0 _ _ _), fun U hU hW => ⟨rfl, by rw [hU]; exact hP, va_K.moved hW.alike hK⟩⟩ rfl rfl hl.1 rfl (lv_room (Nat.le_of_ble_eq_true rfl)) dX5_allowed_3 ⟨(Nat.le_of_ble_eq_true rfl), (Nat.le_of_ble_eq_true rfl)⟩) (fun r_1 hw => ?_)
  subst hw
  refine lv_if_ne (tgt := 13) hx hb dX5_allowed_6 (by decide) (fun c_2 => ?_) (fun c_2 => ?_)
  · skip
    have t_3 : (fX5_isLot u x1).toInt ≠ 0 := i_ne c_2 rfl (by decide)
    have t_4 := il_lo c_2
    have t_5 := il_hi c_2
    refine lv_iload_n hx hb dX5_allowed_13 rfl (lv_at hl 2 rfl) ?_
    refine lv_iconst (v := 0) hx hb dX5_allowed_14 (by decide) ?_
    refine lv_bipush (v := 7) hx hb dX5_allowed_15 (by decide) ?_
    refine vp_callSi (W.runS (As := [.int x2, .int 0, .int 7]) (rest := [.ref (h 0)]) ⟨hx, hb, hml, hown, hts⟩ (kX5_in l dC dI x2 0 7) (cwS 3 hts (gS wd_239 wd_240 wd_241 wcX5_in) rfl rfl rfl (by decide +kernel) ⟨(Nat.le_of_ble_eq_true rfl), (Nat.le_of_ble_eq_true rfl)⟩) ⟨fun a U g mk q => by obtain ⟨q0, qT⟩ := q; exact ⟨q0, qT⟩, fun U hU hW => ⟨rfl, trivial⟩⟩ rfl rfl hl.1 rfl (lv_room (Nat.le_of_ble_eq_true rfl)) dX5_allowed_17 ⟨(Nat.le_of_ble_eq_true rfl), (Nat.le_of_ble_eq_true rfl)⟩) (fun r_6 hw => ?_)
    subst hw
    refine lv_if_eq (tgt := 33) hx hb dX5_allowed_20 (by decide) (fun c_7 => ?_) (fun c_7 => ?_)
    · skip
      have t_8 : (fX5_in x2 0 7).toInt = 0 := i_eq c_7 rfl (by decide)
      refine lv_iconst (v := 2) hx hb dX5_allowed_33 (by decide) ?_
      refine lv_goto (tgt := 38) hx hb dX5_allowed_34 (by decide) ?_
      refine va_put (D := (dC, dI)) (C := RX5) (T := TX5) (N := 26) (v := .int 2) (ty := .int) hx hb hts (fi_X5 _) tyX5 tyX5_ok nmX5 hown hK hP hD hS 0 (mw_at0 _ _ _) rfl 0 (by decide) (hts _ (List.mem_cons_of_mem _ wd_237)) (fun _ h9 => h9) rfl (by decide +kernel) rfl rfl (Nat.le_of_ble_eq_true rfl) dX5_allowed_38 (fun H locs hP hD hS => ?_)
      have hP : va_P (dC, dI) vwCl (mw g h (s_mcode u 2)) H := hP
      have hD : va_D A (mw g h (s_mcode u 2)) := hD
      refine lv_aload_n hx hb dX5_allowed_41 rfl (lv_at hl 0 rfl) ?_
      refine va_get (D := (dC, dI)) (C := RX5) (T := TX5) (N := 26) (v := .int 2) hx hb hts (fi_X5 _) hown hK hP 0 (mw_at0 _ _ _) rfl 0 (by decide) (hts _ (List.mem_cons_of_mem _ wd_237)) (fun _ h9 => h9) rfl dX5_allowed_42 ?_
      refine lv_if_ne (tgt := 62) hx hb dX5_allowed_45 (by decide) (fun c_9 => ?_) (fun c_9 => ?_)
      · skip
        refine lv_iconst (v := 0) hx hb dX5_allowed_62 (by decide) ?_
        exact W.zret (v := 0) hx hb hr rfl (fun t ht hW => ⟨⟨0, (s_mcode u 2), rfl, (by unfold fX5_allowed; rw [if_neg c_2, if_pos c_7]), by rw [ht]; exact hP, hD⟩, hS.F ht⟩) hS.2.2 dX5_allowed_63
      · skip
        exact absurd c_9 (by decide)
    · skip
      have t_10 : (fX5_in x2 0 7).toInt ≠ 0 := i_ne c_7 rfl (by decide)
      have t_11 := in_lo c_7
      have t_12 := in_hi c_7
      refine lv_iload_n hx hb dX5_allowed_23 rfl (lv_at hl 3 rfl) ?_
      refine lv_iconst (v := 0) hx hb dX5_allowed_24 (by decide) ?_
      refine lv_ldc (v := 36524) hx hb hown (hts _ (List.mem_cons_of_mem _ wd_278)) dX5_allowed_25 ?_
      refine vp_callSi (W.runS (As := [.int x3, .int 0, .int 36524]) (rest := [.ref (h 0)]) ⟨hx, hb, hml, hown, hts⟩ (kX5_in l dC dI x3 0 36524) (cwS 3 hts (gS wd_239 wd_240 wd_241 wcX5_in) rfl rfl rfl (by decide +kernel) ⟨(Nat.le_of_ble_eq_true rfl), (Nat.le_of_ble_eq_true rfl)⟩) ⟨fun a U g mk q => by obtain ⟨q0, qT⟩ := q; exact ⟨q0, qT⟩, fun U hU hW => ⟨rfl, trivial⟩⟩ rfl rfl hl.1 rfl (lv_room (Nat.le_of_ble_eq_true rfl)) dX5_allowed_27 ⟨(Nat.le_of_ble_eq_true rfl), (Nat.le_of_ble_eq_true rfl)⟩) (fun r_13 hw => ?_)
      subst hw
      refine lv_if_ne (tgt := 37) hx hb dX5_allowed_30 (by decide) (fun c_14 => ?_) (fun c_14 => ?_)
      · skip
        have t_15 : (fX5_in x3 0 36524).toInt ≠ 0 := i_ne c_14 rfl (by decide)
        have t_16 := in_lo c_14
        have t_17 := in_hi c_14
        refine lv_iconst (v := 0) hx hb dX5_allowed_37 (by decide) ?_
        refine va_put (D := (dC, dI)) (C := RX5) (T := TX5) (N := 26) (v := .int 0) (ty := .int) hx hb hts (fi_X5 _) tyX5 tyX5_ok nmX5 hown hK hP hD hS 0 (mw_at0 _ _ _) rfl 0 (by decide) (hts _ (List.mem_cons_of_mem _ wd_237)) (fun _ h9 => h9) rfl (by decide +kernel) rfl rfl (Nat.le_of_ble_eq_true rfl) dX5_allowed_38 (fun H locs hP hD hS => ?_)
        have hP : va_P (dC, dI) vwCl (mw g h (s_mcode u 0)) H := hP
        have hD : va_D A (mw g h (s_mcode u 0)) := hD
        refine lv_aload_n hx hb dX5_allowed_41 rfl (lv_at hl 0 rfl) ?_
        refine va_get (D := (dC, dI)) (C := RX5) (T := TX5) (N := 26) (v := .int 0) hx hb hts (fi_X5 _) hown hK hP 0 (mw_at0 _ _ _) rfl 0 (by decide) (hts _ (List.mem_cons_of_mem _ wd_237)) (fun _ h9 => h9) rfl dX5_allowed_42 ?_
        refine lv_if_ne (tgt := 62) hx hb dX5_allowed_45 (by decide) (fun c_18 => ?_) (fun c_18 => ?_)
        · skip
          exact absurd (by decide) c_18
        · skip
          refine lv_aload_n hx hb dX5_allowed_48 rfl (lv_at hl 0 rfl) ?_
          refine lv_iload_n hx hb dX5_allowed_49 rfl (lv_at hl 1 rfl) ?_
          refine lv_iload_n hx hb dX5_allowed_50 rfl (lv_at hl 2 rfl) ?_
          refine lv_iload_n hx hb dX5_allowed_51 rfl (lv_at hl 3 rfl) ?_
          refine vp_callSi (W.runV (As := [.int x1, .int x2, .int x3]) (rest := []) ⟨hx, hb, hml, hown, hts⟩ (kX5_isAllowed l dC dI g h (s_mcode u 0) x1 x2 x3 (by omega) (by omega)) (cwV 3 hts (gV wd_295 wd_296 wd_297 wd_241 wcX5_isAllowed) rfl rfl rfl (by decide +kernel) ⟨(Nat.le_of_ble_eq_true rfl), (Nat.le_of_ble_eq_true rfl)⟩) ⟨fun a U g mk q => by obtain ⟨q0, qP, qK⟩ := q; exact ⟨q0, qP, va_K.moved (u := U) (U := U.calling g mk a) (Vm.Alike.refl U.vm) qK⟩, va_recv hK hP (ci := 4) (q0 := 0) rfl (mw_at0 _ _ _), fun U hU hW => ⟨rfl, by rw [hU]; exact hP, va_K.moved hW.alike hK⟩⟩ rfl rfl hl.1 rfl (lv_room (Nat.le_of_ble_eq_true rfl)) dX5_allowed_52 ⟨(Nat.le_of_ble_eq_true rfl), (Nat.le_of_ble_eq_true rfl)⟩) (fun r_19 hw => ?_)
          subst hw
          refine lv_if_eq (tgt := 62) hx hb dX5_allowed_55 (by decide) (fun c_20 => ?_) (fun c_20 => ?_)
          · skip
            have t_21 : (fX5_isAllowed (s_mcode u 0) x1 x2 x3).toInt = 0 := i_eq c_20 rfl (by decide)
            refine lv_iconst (v := 0) hx hb dX5_allowed_62 (by decide) ?_
            exact W.zret (v := 0) hx hb hr rfl (fun t ht hW => ⟨⟨0, (s_mcode u 0), rfl, (by unfold fX5_allowed; rw [if_neg c_2, if_neg c_7, if_neg c_14, if_pos c_20]), by rw [ht]; exact hP, hD⟩, hS.F ht⟩) hS.2.2 dX5_allowed_63
          · skip
            have t_22 : (fX5_isAllowed (s_mcode u 0) x1 x2 x3).toInt ≠ 0 := i_ne c_20 rfl (by decide)
            refine lv_iconst (v := 1) hx hb dX5_allowed_58 (by decide) ?_
            refine lv_goto (tgt := 63) hx hb dX5_allowed_59 (by decide) ?_
            exact W.zret (v := 1) hx hb hr rfl (fun t ht hW => ⟨⟨1, (s_mcode u 0), rfl, (by unfold fX5_allowed; rw [if_neg c_2, if_neg c_7, if_neg c_14, if_neg c_20]), by rw [ht]; exact hP, hD⟩, hS.F ht⟩) hS.2.2 dX5_allowed_63
      · skip
        have t_23 : (fX5_in x3 0 36524).toInt = 0 := i_eq c_14 rfl (by decide)
        refine lv_iconst (v := 2) hx hb dX5_allowed_33 (by decide) ?_
        refine lv_goto (tgt := 38) hx hb dX5_allowed_34 (by decide) ?_
        refine va_put (D := (dC, dI)) (C := RX5) (T := TX5) (N := 26) (v := .int 2) (ty := .int) hx hb hts (fi_X5 _) tyX5 tyX5_ok nmX5 hown hK hP hD hS 0 (mw_at0 _ _ _) rfl 0 (by decide) (hts _ (List.mem_cons_of_mem _ wd_237)) (fun _ h9 => h9) rfl (by decide +kernel) rfl rfl (Nat.le_of_ble_eq_true rfl) dX5_allowed_38 (fun H locs hP hD hS => ?_)
        have hP : va_P (dC, dI) vwCl (mw g h (s_mcode u 2)) H := hP
        have hD : va_D A (mw g h (s_mcode u 2)) := hD
        refine lv_aload_n hx hb dX5_allowed_41 rfl (lv_at hl 0 rfl) ?_
        refine va_get (D := (dC, dI)) (C := RX5) (T := TX5) (N := 26) (v := .int 2) hx hb hts (fi_X5 _) hown hK hP 0 (mw_at0 _ _ _) rfl 0 (by decide) (hts _ (List.mem_cons_of_mem _ wd_237)) (fun _ h9 => h9) rfl dX5_allowed_42 ?_
        refine lv_if_ne (tgt := 62) hx hb dX5_allowed_45 (by decide) (fun c_24 => ?_) (fun c_24 => ?_)
        · skip
          refine lv_iconst (v := 0) hx hb dX5_allowed_62 (by decide) ?_
          exact W.zret (v := 0) hx hb hr rfl (fun t ht hW => ⟨⟨0, (s_mcode u 2), rfl, (by unfold fX5_allowed; rw [if_neg c_2, if_neg c_7, if_pos c_14]), by rw [ht]; exact hP, hD⟩, hS.F ht⟩) hS.2.2 dX5_allowed_63
        · skip
          exact absurd c_24 (by decide)
  · skip
    have t_25 : (fX5_isLot u x1).toInt = 0 := i_eq c_2 rfl (by decide)
    refine lv_iconst (v := 1) hx hb dX5_allowed_9 (by decide) ?_
    refine lv_goto (tgt := 38) hx hb dX5_allowed_10 (by decide) ?_
    refine va_put (D := (dC, dI)) (C := RX5) (T := TX5) (N := 26) (v := .int 1) (ty := .int) hx hb hts (fi_X5 _) tyX5 tyX5_ok nmX5 hown hK hP hD hS 0 (mw_at0 _ _ _) rfl 0 (by decide) (hts _ (List.mem_cons_of_mem _ wd_237)) (fun _ h9 => h9) rfl (by decide +kernel) rfl rfl (Nat.le_of_ble_eq_true rfl) dX5_allowed_38 (fun H locs hP hD hS => ?_)
    have hP : va_P (dC, dI) vwCl (mw g h (s_mcode u 1)) H := hP
    have hD : va_D A (mw g h (s_mcode u 1)) := hD
    refine lv_aload_n hx hb dX5_allowed_41 rfl (lv_at hl 0 rfl) ?_
    refine va_get (D := (dC, dI)) (C := RX5) (T := TX5) (N := 26) (v := .int 1) hx hb hts (fi_X5 _) hown hK hP 0 (mw_at0 _ _ _) rfl 0 (by decide) (hts _ (List.mem_cons_of_mem _ wd_237)) (fun _ h9 => h9) rfl dX5_allowed_42 ?_
    refine lv_if_ne (tgt := 62) hx hb dX5_allowed_45 (by decide) (fun c_26 => ?_) (fun c_26 => ?_)
    · skip
      refine lv_iconst (v := 0) hx hb dX5_allowed_62 (by decide) ?_
      exact W.zret (v := 0) hx hb hr rfl (fun t ht hW => ⟨⟨0, (s_mcode u 1), rfl, (by unfold fX5_allowed; rw [if_pos c_2]), by rw [ht]; exact hP, hD⟩, hS.F ht⟩) hS.2.2 dX5_allowed_63
    · skip
      exact absurd c_26 (by decide)
set_option maxHeartbeats 4000000 in
set_option maxRecDepth 100000 in
theorem kX5_split (l : Launch) (dC : Nat → ClassId) (dI : Nat → Nat → Nat) (g : cG) (h : Nat → Nat) (u : mS) (sz : Nat) (x1 : Int32) (hI : mInv u) : Met l yX5_split wsX5_split ({ frames := 2, cells := 0, slots := 0, locals := 43 }) (va_Pc [.ref (h 0), .int x1] (fun U => U.heap.size = sz ∧ va_P (dC, dI) vwCl (mw g h u) U.heap ∧ va_K (dC, dI) vwCl (cTys g) U ∧ va_D (fun _ => True) (mw g h u))) (va_Qi (fun (r : Int32) u2 => (r, u2) = fX5_split u x1) (fun (u2 : mS) (t : State) => va_P (dC, dI) vwCl (mw g h u2) t.heap ∧ va_D (va_A (mw g h u) sz) (mw g h u2)) (va_A (mw g h u) sz)) 0 0 (va_A (mw g h u) sz) := by
  refine Met.ofW (cc := cX5_split) (maxL := 3) (ret := (some .int)) (by decide) rfl ?_
  intro p e s m args below meth c s₁ B hml hv
  obtain ⟨rfl, hsz, hP, hK, hD0⟩ := hv
  have hx := B.exec
  have hb := B.bytes
  have hr := B.returns
  have hts := atoms_spec (ws := wsX5_split) B.pre
  have hown : s.vm.findClass RX5 = some m.cls := findClass_of_methodNamed B.named
  have hlocks := B.notSynchronized
  subst hsz
  have hD := hD0.self (sz := s.heap.size)
  generalize hAe : va_A (mw g h u) s.heap.size = A at hD ⊢
  have hA : ∀ q : Nat, s.heap.size ≤ q → A q := fun q h => by rw [← hAe]; exact Or.inr h
  have hS : va_S A s.heap s.heap [] := va_S.rf
  have hl := lv_entry ([.ref (h 0), .int x1]) (n := 3) (Nat.le_of_ble_eq_true rfl)
  rw [lg_entry_eq]
  generalize (lg_sl ([.ref (h 0), .int x1]) ++ List.replicate (3 - (lg_sl ([.ref (h 0), .int x1])).length) Slot.unset).toArray = ls at hl ⊢
  have hl : lv_has ls 3 [(0, .ref (h 0)), (1, .int x1)] := hl
  obtain ⟨hI1, hI2, hI3, hI4, hI5, hI6, hI7⟩ := id hI
  have z_0 : (0 : Int32).toInt = 0 := by decide
  refine lv_aload_n hx hb dX5_split_0 rfl (lv_at hl 0 rfl) ?_
  refine lv_aload_n hx hb dX5_split_1 rfl (lv_at hl 0 rfl) ?_
  refine lv_iload_n hx hb dX5_split_2 rfl (lv_at hl 1 rfl) ?_
  refine vp_callSi (W.runV (As := [.int x1]) (rest := [.ref (h 0)]) ⟨hx, hb, hml, hown, hts⟩ (kX5_isLot l dC dI g h u x1) (cwV 1 hts (gV wd_288 wd_289 wd_290 wd_241 wcX5_isLot) rfl rfl rfl (by decide +kernel) ⟨(Nat.le_of_ble_eq_true rfl), (Nat.le_of_ble_eq_true rfl)⟩) ⟨fun a U g mk q => by obtain ⟨q0, qP, qK⟩ := q; exact ⟨q0, qP, va_K.moved (u := U) (U := U.calling g mk a) (Vm.Alike.refl U.vm) qK⟩, va_recv hK hP (ci := 4) (q0 := 0) rfl (mw_at0 _ _ _), fun U hU hW => ⟨rfl, by rw [hU]; exact hP, va_K.moved hW.alike hK⟩⟩ rfl rfl hl.1 rfl (lv_room (Nat.le_of_ble_eq_true rfl)) dX5_split_3 ⟨(Nat.le_of_ble_eq_true rfl), (Nat.le_of_ble_eq_true rfl)⟩) (fun r_1 hw => ?_)
  subst hw
  refine lv_if_ne (tgt := 13) hx hb dX5_split_6 (by decide) (fun c_2 => ?_) (fun c_2 => ?_)
  · skip
    have t_3 : (fX5_isLot u x1).toInt ≠ 0 := i_ne c_2 rfl (by decide)
    have t_4 := il_lo c_2
    have t_5 := il_hi c_2
    refine lv_aload_n hx hb dX5_split_13 rfl (lv_at hl 0 rfl) ?_
    refine lv_iload_n hx hb dX5_split_14 rfl (lv_at hl 1 rfl) ?_
    refine vp_callSi (W.runV (As := [.int x1]) (rest := [.ref (h 0)]) ⟨hx, hb, hml, hown, hts⟩ (kX5_isOpen l dC dI g h u x1 (by omega)) (cwV 1 hts (gV wd_246 wd_247 wd_248 wd_241 wcX5_isOpen) rfl rfl rfl (by decide +kernel) ⟨(Nat.le_of_ble_eq_true rfl), (Nat.le_of_ble_eq_true rfl)⟩) ⟨fun a U g mk q => by obtain ⟨q0, qP, qK⟩ := q; exact ⟨q0, qP, va_K.moved (u := U) (U := U.calling g mk a) (Vm.Alike.refl U.vm) qK⟩, va_recv hK hP (ci := 4) (q0 := 0) rfl (mw_at0 _ _ _), fun U hU hW => ⟨rfl, by rw [hU]; exact hP, va_K.moved hW.alike hK⟩⟩ rfl rfl hl.1 rfl (lv_room (Nat.le_of_ble_eq_true rfl)) dX5_split_15 ⟨(Nat.le_of_ble_eq_true rfl), (Nat.le_of_ble_eq_true rfl)⟩) (fun r_6 hw => ?_)
    subst hw
    refine lv_if_ne (tgt := 25) hx hb dX5_split_18 (by decide) (fun c_7 => ?_) (fun c_7 => ?_)
    · skip
      have t_8 : (fX5_isOpen u x1).toInt ≠ 0 := i_ne c_7 rfl (by decide)
      refine lv_aload_n hx hb dX5_split_25 rfl (lv_at hl 0 rfl) ?_
      refine va_get (D := (dC, dI)) (C := RX5) (T := TX5) (N := 26) (v := .int (k_mlots u)) hx hb hts (fi_X5 _) hown hK hP 0 (mw_at0 _ _ _) rfl 1 (by decide) (hts _ (List.mem_cons_of_mem _ wd_238)) (fun _ h9 => h9) rfl dX5_split_26 ?_
      refine lv_bipush (v := 40) hx hb dX5_split_29 (by decide) ?_
      refine lv_icmp_eq (tgt := 44) hx hb dX5_split_31 (by decide) (fun c_9 => ?_) (fun c_9 => ?_)
      · skip
        have t_10 : (k_mlots u).toInt = 40 := i_eq c_9 rfl (by decide)
        refine lv_iconst (v := 3) hx hb dX5_split_44 (by decide) ?_
        refine lv_goto (tgt := 49) hx hb dX5_split_45 (by decide) ?_
        refine va_put (D := (dC, dI)) (C := RX5) (T := TX5) (N := 26) (v := .int 3) (ty := .int) hx hb hts (fi_X5 _) tyX5 tyX5_ok nmX5 hown hK hP hD hS 0 (mw_at0 _ _ _) rfl 0 (by decide) (hts _ (List.mem_cons_of_mem _ wd_237)) (fun _ h9 => h9) rfl (by decide +kernel) rfl rfl (Nat.le_of_ble_eq_true rfl) dX5_split_49 (fun H locs hP hD hS => ?_)
        have hP : va_P (dC, dI) vwCl (mw g h (s_mcode u 3)) H := hP
        have hD : va_D A (mw g h (s_mcode u 3)) := hD
        refine lv_aload_n hx hb dX5_split_52 rfl (lv_at hl 0 rfl) ?_
        refine va_get (D := (dC, dI)) (C := RX5) (T := TX5) (N := 26) (v := .int 3) hx hb hts (fi_X5 _) hown hK hP 0 (mw_at0 _ _ _) rfl 0 (by decide) (hts _ (List.mem_cons_of_mem _ wd_237)) (fun _ h9 => h9) rfl dX5_split_53 ?_
        refine lv_if_le (tgt := 61) hx hb dX5_split_56 (by decide) (fun c_11 => ?_) (fun c_11 => ?_)
        · skip
          exact absurd c_11 (by decide)
        · skip
          refine lv_iconst (v := 0) hx hb dX5_split_59 (by decide) ?_
          exact W.iret (v := 0) hx hb hr (fun t ht hW => ⟨⟨0, (s_mcode u 3), rfl, (by unfold fX5_split; rw [if_neg c_2, if_neg c_7, if_pos c_9]), by rw [ht]; exact hP, hD⟩, hS.F ht⟩) hS.2.2 dX5_split_60
      · skip
        have t_12 : (k_mlots u).toInt ≠ 40 := i_ne c_9 rfl (by decide)
        refine lv_aload_n hx hb dX5_split_34 rfl (lv_at hl 0 rfl) ?_
        refine va_get (D := (dC, dI)) (C := RX5) (T := TX5) (N := 26) (v := .int (k_mrows u)) hx hb hts (fi_X5 _) hown hK hP 0 (mw_at0 _ _ _) rfl 20 (by decide) (hts _ (List.mem_cons_of_mem _ wd_273)) (fun _ h9 => h9) rfl dX5_split_35 ?_
        refine lv_sipush (v := 398) hx hb dX5_split_38 (by decide) ?_
        refine lv_icmp_le (tgt := 48) hx hb dX5_split_41 (by decide) (fun c_13 => ?_) (fun c_13 => ?_)
        · skip
          have t_14 : (k_mrows u).toInt ≤ 398 := i_le c_13 rfl (by decide)
          refine lv_iconst (v := 0) hx hb dX5_split_48 (by decide) ?_
          refine va_put (D := (dC, dI)) (C := RX5) (T := TX5) (N := 26) (v := .int 0) (ty := .int) hx hb hts (fi_X5 _) tyX5 tyX5_ok nmX5 hown hK hP hD hS 0 (mw_at0 _ _ _) rfl 0 (by decide) (hts _ (List.mem_cons_of_mem _ wd_237)) (fun _ h9 => h9) rfl (by decide +kernel) rfl rfl (Nat.le_of_ble_eq_true rfl) dX5_split_49 (fun H locs hP hD hS => ?_)
          have hP : va_P (dC, dI) vwCl (mw g h (s_mcode u 0)) H := hP
          have hD : va_D A (mw g h (s_mcode u 0)) := hD
          refine lv_aload_n hx hb dX5_split_52 rfl (lv_at hl 0 rfl) ?_
          refine va_get (D := (dC, dI)) (C := RX5) (T := TX5) (N := 26) (v := .int 0) hx hb hts (fi_X5 _) hown hK hP 0 (mw_at0 _ _ _) rfl 0 (by decide) (hts _ (List.mem_cons_of_mem _ wd_237)) (fun _ h9 => h9) rfl dX5_split_53 ?_
          refine lv_if_le (tgt := 61) hx hb dX5_split_56 (by decide) (fun c_15 => ?_) (fun c_15 => ?_)
          · skip
            refine lv_aload_n hx hb dX5_split_61 rfl (lv_at hl 0 rfl) ?_
            refine lv_aload_n hx hb dX5_split_62 rfl (lv_at hl 0 rfl) ?_
            refine va_get (D := (dC, dI)) (C := RX5) (T := TX5) (N := 26) (v := .ref (h 1)) hx hb hts (fi_X5 _) hown hK hP 0 (mw_at0 _ _ _) rfl 2 (by decide) (hts _ (List.mem_cons_of_mem _ wd_261)) (fun _ h9 => h9) rfl dX5_split_63 ?_
            refine lv_iload_n hx hb dX5_split_66 rfl (lv_at hl 1 rfl) ?_
            refine va_iald (f := k_mgood u) hx hb hK hP 1 0 (mw_at1 _ _ _) rfl (vp_in_iff.mpr (by omega)) dX5_split_67 ?_
            refine lv_aload_n hx hb dX5_split_68 rfl (lv_at hl 0 rfl) ?_
            refine va_get (D := (dC, dI)) (C := RX5) (T := TX5) (N := 26) (v := .ref (h 2)) hx hb hts (fi_X5 _) hown hK hP 0 (mw_at0 _ _ _) rfl 3 (by decide) (hts _ (List.mem_cons_of_mem _ wd_253)) (fun _ h9 => h9) rfl dX5_split_69 ?_
            refine lv_iload_n hx hb dX5_split_72 rfl (lv_at hl 1 rfl) ?_
            refine va_iald (f := k_mowner u) hx hb hK hP 2 0 (mw_at2 _ _ _) rfl (vp_in_iff.mpr (by omega)) dX5_split_73 ?_
            refine lv_aload_n hx hb dX5_split_74 rfl (lv_at hl 0 rfl) ?_
            refine va_get (D := (dC, dI)) (C := RX5) (T := TX5) (N := 26) (v := .ref (h 3)) hx hb hts (fi_X5 _) hown hK hP 0 (mw_at0 _ _ _) rfl 4 (by decide) (hts _ (List.mem_cons_of_mem _ wd_255)) (fun _ h9 => h9) rfl dX5_split_75 ?_
            refine lv_iload_n hx hb dX5_split_78 rfl (lv_at hl 1 rfl) ?_
            refine va_iald (f := k_muntil u) hx hb hK hP 3 0 (mw_at3 _ _ _) rfl (vp_in_iff.mpr (by omega)) dX5_split_79 ?_
            refine lv_aload_n hx hb dX5_split_80 rfl (lv_at hl 0 rfl) ?_
            refine va_get (D := (dC, dI)) (C := RX5) (T := TX5) (N := 26) (v := .ref (h 4)) hx hb hts (fi_X5 _) hown hK hP 0 (mw_at0 _ _ _) rfl 5 (by decide) (hts _ (List.mem_cons_of_mem _ wd_254)) (fun _ h9 => h9) rfl dX5_split_81 ?_
            refine lv_iload_n hx hb dX5_split_84 rfl (lv_at hl 1 rfl) ?_
            refine va_iald (f := k_marr u) hx hb hK hP 4 0 (mw_at4 _ _ _) rfl (vp_in_iff.mpr (by omega)) dX5_split_85 ?_
            refine lv_iload_n hx hb dX5_split_86 rfl (lv_at hl 1 rfl) ?_
            have hFc := va_free (wc := mw g h (s_mcode u 0)) hD hS hA [0, 1, 2, 3, 4, 5, 6, 7, 8, 9, 10, 11, 12, 13, 14, 15, 16, 17, 18, 19, 20, 21, 22] rfl
            refine va_calli (va_runV (As := [.int (k_mgood u x1.toNatClampNeg), .int (k_mowner u x1.toNatClampNeg), .int (k_muntil u x1.toNatClampNeg), .int (k_marr u x1.toNatClampNeg), .int x1]) (rest := []) ⟨hx, hb, hml, hown, hts⟩ (kX5_make l dC dI g h (s_mcode u 0) _ (k_mgood u x1.toNatClampNeg) (k_mowner u x1.toNatClampNeg) (k_muntil u x1.toNatClampNeg) (k_marr u x1.toNatClampNeg) x1 (by show 0 ≤ (k_mlots u).toInt ∧ (k_mlots u).toInt < 40; omega)) (cwV 5 hts (gV wd_279 wd_280 wd_281 wd_241 wcX5_make) rfl rfl rfl (by decide +kernel) ⟨(Nat.le_of_ble_eq_true rfl), (Nat.le_of_ble_eq_true rfl)⟩) ⟨fun a U g mk q => by obtain ⟨q0, q1, qP, qK, qD⟩ := q; exact ⟨q0, q1, qP, va_K.moved (u := U) (U := U.calling g mk a) (Vm.Alike.refl U.vm) qK, qD⟩, va_recv hK hP (ci := 4) (q0 := 0) rfl (mw_at0 _ _ _), fun U hU hW => ⟨rfl, by rw [hU], by rw [hU]; exact hP, va_K.moved hW.alike hK, hD.weaken (fun _ _ _ _ => trivial)⟩⟩ rfl rfl hl.1 rfl (lv_room (Nat.le_of_ble_eq_true rfl)) dX5_split_87 ⟨(Nat.le_of_ble_eq_true rfl), (Nat.le_of_ble_eq_true rfl)⟩) hS (fun q _ h => hFc q h) hFc (fun r_17 u_16 t H locs ht hvm hw hB hz1 hk1 hS => ?_)
            obtain ⟨hP, hD⟩ := hB
            rw [ht] at hP
            have hD := hD.weaken (fun _ _ _ h => hFc _ h)
            have e_18 : r_17 = (fX5_make (s_mcode u 0) (k_mgood u x1.toNatClampNeg) (k_mowner u x1.toNatClampNeg) (k_muntil u x1.toNatClampNeg) (k_marr u x1.toNatClampNeg) x1).1 := congrArg Prod.fst hw
            have e_19 : u_16 = (fX5_make (s_mcode u 0) (k_mgood u x1.toNatClampNeg) (k_mowner u x1.toNatClampNeg) (k_muntil u x1.toNatClampNeg) (k_marr u x1.toNatClampNeg) x1).2 := congrArg Prod.snd hw
            clear hw
            refine lv_istore_n (lv' := [(2, .int r_17), (0, .ref (h 0)), (1, .int x1)]) hx hb dX5_split_90 rfl hl (by decide) rfl (fun ls hl => ?_)
            refine lv_aload_n hx hb dX5_split_91 rfl (lv_at hl 1 rfl) ?_
            refine va_get (D := (dC, dI)) (C := RX5) (T := TX5) (N := 26) (v := .ref (h 7)) hx hb hts (fi_X5 _) hown hK hP 0 (mw_at0 _ _ _) rfl 8 (by decide) (hts _ (List.mem_cons_of_mem _ wd_250)) (fun _ h9 => h9) rfl dX5_split_92 ?_
            refine lv_iload_n hx hb dX5_split_95 rfl (lv_at hl 0 rfl) ?_
            refine lv_aload_n hx hb dX5_split_96 rfl (lv_at hl 1 rfl) ?_
            refine va_get (D := (dC, dI)) (C := RX5) (T := TX5) (N := 26) (v := .ref (h 7)) hx hb hts (fi_X5 _) hown hK hP 0 (mw_at0 _ _ _) rfl 8 (by decide) (hts _ (List.mem_cons_of_mem _ wd_250)) (fun _ h9 => h9) rfl dX5_split_97 ?_
            refine lv_iload_n hx hb dX5_split_100 rfl (lv_at hl 2 rfl) ?_
            refine va_iald (f := k_mblk u_16) hx hb hK hP 7 0 (mw_at7 _ _ _) rfl (vp_in_iff.mpr (by omega)) dX5_split_101 ?_
            refine va_iast (f := k_mblk u_16) hx hb hK hP hD hS 7 0 (mw_at7 _ _ _) rfl (vp_in_iff.mpr (by subst e_19; subst e_18; have hm1 := i_inc (x := k_mlots u) (by omega); show 0 ≤ (k_mlots u + 1).toInt ∧ (k_mlots u + 1).toInt < ((41 : Nat) : Int); omega)) dX5_split_102 (fun H locs hP hD hS => ?_)
            have hP : va_P (dC, dI) vwCl (mw g h (s_mblk u_16 (upd (k_mblk u_16) r_17.toNatClampNeg (k_mblk u_16 x1.toNatClampNeg)))) H := hP
            have hD : va_D A (mw g h (s_mblk u_16 (upd (k_mblk u_16) r_17.toNatClampNeg (k_mblk u_16 x1.toNatClampNeg)))) := hD
            refine lv_aload_n hx hb dX5_split_103 rfl (lv_at hl 1 rfl) ?_
            refine va_get (D := (dC, dI)) (C := RX5) (T := TX5) (N := 26) (v := .ref (h 8)) hx hb hts (fi_X5 _) hown hK hP 0 (mw_at0 _ _ _) rfl 9 (by decide) (hts _ (List.mem_cons_of_mem _ wd_251)) (fun _ h9 => h9) rfl dX5_split_104 ?_
            refine lv_iload_n hx hb dX5_split_107 rfl (lv_at hl 0 rfl) ?_
            refine lv_aload_n hx hb dX5_split_108 rfl (lv_at hl 1 rfl) ?_
            refine va_get (D := (dC, dI)) (C := RX5) (T := TX5) (N := 26) (v := .ref (h 8)) hx hb hts (fi_X5 _) hown hK hP 0 (mw_at0 _ _ _) rfl 9 (by decide) (hts _ (List.mem_cons_of_mem _ wd_251)) (fun _ h9 => h9) rfl dX5_split_109 ?_
            refine lv_iload_n hx hb dX5_split_112 rfl (lv_at hl 2 rfl) ?_
            refine va_zald (f := k_mquiet u_16) hx hb hK hP 8 1 (mw_at8 _ _ _) rfl (vp_in_iff.mpr (by omega)) dX5_split_113 ?_
            refine va_zast (f := k_mquiet u_16) hx hb hK hP hD hS 8 1 (mw_at8 _ _ _) rfl (vp_in_iff.mpr (by subst e_19; subst e_18; have hm1 := i_inc (x := k_mlots u) (by omega); show 0 ≤ (k_mlots u + 1).toInt ∧ (k_mlots u + 1).toInt < ((41 : Nat) : Int); omega)) dX5_split_114 (fun H locs hP hD hS => ?_)
            have hP : va_P (dC, dI) vwCl (mw g h (s_mquiet (s_mblk u_16 (upd (k_mblk u_16) r_17.toNatClampNeg (k_mblk u_16 x1.toNatClampNeg))) (upd (k_mquiet u_16) r_17.toNatClampNeg (vp_nar .boolean (k_mquiet u_16 x1.toNatClampNeg))))) H := hP
            have hD : va_D A (mw g h (s_mquiet (s_mblk u_16 (upd (k_mblk u_16) r_17.toNatClampNeg (k_mblk u_16 x1.toNatClampNeg))) (upd (k_mquiet u_16) r_17.toNatClampNeg (vp_nar .boolean (k_mquiet u_16 x1.toNatClampNeg))))) := hD
            refine lv_aload_n hx hb dX5_split_115 rfl (lv_at hl 1 rfl) ?_
            refine lv_iload_n hx hb dX5_split_116 rfl (lv_at hl 2 rfl) ?_
            refine lv_iconst (v := 3) hx hb dX5_split_117 (by decide) ?_
            refine lv_iload_n hx hb dX5_split_118 rfl (lv_at hl 0 rfl) ?_
            have hFc := va_free (wc := mw g h (s_mquiet (s_mblk u_16 (upd (k_mblk u_16) r_17.toNatClampNeg (k_mblk u_16 x1.toNatClampNeg))) (upd (k_mquiet u_16) r_17.toNatClampNeg (vp_nar .boolean (k_mquiet u_16 x1.toNatClampNeg))))) hD hS hA [0, 1, 2, 3, 4, 5, 6, 7, 8, 9, 10, 11, 12, 13, 14, 15, 16, 17, 18, 19, 20, 21, 22] rfl
            refine va_callv (va_runV (As := [.int x1, .int 3, .int r_17]) (rest := []) ⟨hx, hb, hml, hown, hts⟩ (kX5_row l dC dI g h (s_mquiet (s_mblk u_16 (upd (k_mblk u_16) r_17.toNatClampNeg (k_mblk u_16 x1.toNatClampNeg))) (upd (k_mquiet u_16) r_17.toNatClampNeg (vp_nar .boolean (k_mquiet u_16 x1.toNatClampNeg)))) _ x1 3 r_17 (by subst e_19; subst e_18; show 0 ≤ (k_mrows u).toInt ∧ (k_mrows u).toInt < 400; omega)) (cwV 3 hts (gV wd_283 wd_284 wd_285 wd_241 wcX5_row) rfl rfl rfl (by decide +kernel) ⟨(Nat.le_of_ble_eq_true rfl), (Nat.le_of_ble_eq_true rfl)⟩) ⟨fun a U g mk q => by obtain ⟨q0, q1, qP, qK, qD⟩ := q; exact ⟨q0, q1, qP, va_K.moved (u := U) (U := U.calling g mk a) (Vm.Alike.refl U.vm) qK, qD⟩, va_recv hK hP (ci := 4) (q0 := 0) rfl (mw_at0 _ _ _), fun U hU hW => ⟨rfl, by rw [hU], by rw [hU]; exact hP, va_K.moved hW.alike hK, hD.weaken (fun _ _ _ _ => trivial)⟩⟩ rfl rfl hl.1 rfl (lv_room (Nat.le_of_ble_eq_true rfl)) dX5_split_119 ⟨(Nat.le_of_ble_eq_true rfl), (Nat.le_of_ble_eq_true rfl)⟩) hS (fun q _ h => hFc q h) hFc (fun u_20 t H locs ht hvm hw hB hz1 hk1 hS => ?_)
            obtain ⟨hP, hD⟩ := hB
            rw [ht] at hP
            have hD := hD.weaken (fun _ _ _ h => hFc _ h)
            have e_22 : u_20 = fX5_row (s_mquiet (s_mblk u_16 (upd (k_mblk u_16) r_17.toNatClampNeg (k_mblk u_16 x1.toNatClampNeg))) (upd (k_mquiet u_16) r_17.toNatClampNeg (vp_nar .boolean (k_mquiet u_16 x1.toNatClampNeg)))) x1 3 r_17 := hw
            clear hw
            refine lv_aload_n hx hb dX5_split_122 rfl (lv_at hl 1 rfl) ?_
            refine lv_iload_n hx hb dX5_split_123 rfl (lv_at hl 0 rfl) ?_
            refine lv_iconst (v := 2) hx hb dX5_split_124 (by decide) ?_
            refine lv_iload_n hx hb dX5_split_125 rfl (lv_at hl 2 rfl) ?_
            have hFc := va_free (wc := mw g h u_20) hD hS hA [0, 1, 2, 3, 4, 5, 6, 7, 8, 9, 10, 11, 12, 13, 14, 15, 16, 17, 18, 19, 20, 21, 22] rfl
            refine va_callv (va_runV (As := [.int r_17, .int 2, .int x1]) (rest := []) ⟨hx, hb, hml, hown, hts⟩ (kX5_row l dC dI g h u_20 _ r_17 2 x1 (by subst e_22; subst e_19; subst e_18; have hm2 := i_inc (x := k_mrows u) (by omega); show 0 ≤ (k_mrows u + 1).toInt ∧ (k_mrows u + 1).toInt < 400; omega)) (cwV 3 hts (gV wd_283 wd_284 wd_285 wd_241 wcX5_row) rfl rfl rfl (by decide +kernel) ⟨(Nat.le_of_ble_eq_true rfl), (Nat.le_of_ble_eq_true rfl)⟩) ⟨fun a U g mk q => by obtain ⟨q0, q1, qP, qK, qD⟩ := q; exact ⟨q0, q1, qP, va_K.moved (u := U) (U := U.calling g mk a) (Vm.Alike.refl U.vm) qK, qD⟩, va_recv hK hP (ci := 4) (q0 := 0) rfl (mw_at0 _ _ _), fun U hU hW => ⟨rfl, by rw [hU], by rw [hU]; exact hP, va_K.moved hW.alike hK, hD.weaken (fun _ _ _ _ => trivial)⟩⟩ rfl rfl hl.1 rfl (lv_room (Nat.le_of_ble_eq_true rfl)) dX5_split_126 ⟨(Nat.le_of_ble_eq_true rfl), (Nat.le_of_ble_eq_true rfl)⟩) hS (fun q _ h => hFc q h) hFc (fun u_23 t H locs ht hvm hw hB hz1 hk1 hS => ?_)
            obtain ⟨hP, hD⟩ := hB
            rw [ht] at hP
            have hD := hD.weaken (fun _ _ _ h => hFc _ h)
            have e_25 : u_23 = fX5_row u_20 r_17 2 x1 := hw
            clear hw
            refine lv_iload_n hx hb dX5_split_129 rfl (lv_at hl 0 rfl) ?_
            exact W.iret (v := r_17) hx hb hr (fun t ht hW => ⟨⟨r_17, u_23, rfl, (by subst e_25; subst e_22; subst e_19; subst e_18; unfold fX5_split; rw [if_neg c_2, if_neg c_7, if_neg c_9, if_pos c_13]), by rw [ht]; exact hP, hD⟩, hS.F ht⟩) hS.2.2 dX5_split_130
          · skip
            exact absurd (by decide) c_15
        · skip
          have t_26 : 398 < (k_mrows u).toInt := i_nle c_13 rfl (by decide)
          refine lv_iconst (v := 3) hx hb dX5_split_44 (by decide) ?_
          refine lv_goto (tgt := 49) hx hb dX5_split_45 (by decide) ?_
          refine va_put (D := (dC, dI)) (C := RX5) (T := TX5) (N := 26) (v := .int 3) (ty := .int) hx hb hts (fi_X5 _) tyX5 tyX5_ok nmX5 hown hK hP hD hS 0 (mw_at0 _ _ _) rfl 0 (by decide) (hts _ (List.mem_cons_of_mem _ wd_237)) (fun _ h9 => h9) rfl (by decide +kernel) rfl rfl (Nat.le_of_ble_eq_true rfl) dX5_split_49 (fun H locs hP hD hS => ?_)
          have hP : va_P (dC, dI) vwCl (mw g h (s_mcode u 3)) H := hP
          have hD : va_D A (mw g h (s_mcode u 3)) := hD
          refine lv_aload_n hx hb dX5_split_52 rfl (lv_at hl 0 rfl) ?_
          refine va_get (D := (dC, dI)) (C := RX5) (T := TX5) (N := 26) (v := .int 3) hx hb hts (fi_X5 _) hown hK hP 0 (mw_at0 _ _ _) rfl 0 (by decide) (hts _ (List.mem_cons_of_mem _ wd_237)) (fun _ h9 => h9) rfl dX5_split_53 ?_
          refine lv_if_le (tgt := 61) hx hb dX5_split_56 (by decide) (fun c_27 => ?_) (fun c_27 => ?_)
          · skip
            exact absurd c_27 (by decide)
          · skip
            refine lv_iconst (v := 0) hx hb dX5_split_59 (by decide) ?_
            exact W.iret (v := 0) hx hb hr (fun t ht hW => ⟨⟨0, (s_mcode u 3), rfl, (by unfold fX5_split; rw [if_neg c_2, if_neg c_7, if_neg c_9, if_neg c_13]), by rw [ht]; exact hP, hD⟩, hS.F ht⟩) hS.2.2 dX5_split_60
    · skip
      have t_28 : (fX5_isOpen u x1).toInt = 0 := i_eq c_7 rfl (by decide)
      refine lv_iconst (v := 2) hx hb dX5_split_21 (by decide) ?_
      refine lv_goto (tgt := 49) hx hb dX5_split_22 (by decide) ?_
      refine va_put (D := (dC, dI)) (C := RX5) (T := TX5) (N := 26) (v := .int 2) (ty := .int) hx hb hts (fi_X5 _) tyX5 tyX5_ok nmX5 hown hK hP hD hS 0 (mw_at0 _ _ _) rfl 0 (by decide) (hts _ (List.mem_cons_of_mem _ wd_237)) (fun _ h9 => h9) rfl (by decide +kernel) rfl rfl (Nat.le_of_ble_eq_true rfl) dX5_split_49 (fun H locs hP hD hS => ?_)
      have hP : va_P (dC, dI) vwCl (mw g h (s_mcode u 2)) H := hP
      have hD : va_D A (mw g h (s_mcode u 2)) := hD
      refine lv_aload_n hx hb dX5_split_52 rfl (lv_at hl 0 rfl) ?_
      refine va_get (D := (dC, dI)) (C := RX5) (T := TX5) (N := 26) (v := .int 2) hx hb hts (fi_X5 _) hown hK hP 0 (mw_at0 _ _ _) rfl 0 (by decide) (hts _ (List.mem_cons_of_mem _ wd_237)) (fun _ h9 => h9) rfl dX5_split_53 ?_
      refine lv_if_le (tgt := 61) hx hb dX5_split_56 (by decide) (fun c_29 => ?_) (fun c_29 => ?_)
      · skip
        exact absurd c_29 (by decide)
      · skip
        refine lv_iconst (v := 0) hx hb dX5_split_59 (by decide) ?_
        exact W.iret (v := 0) hx hb hr (fun t ht hW => ⟨⟨0, (s_mcode u 2), rfl, (by unfold fX5_split; rw [if_neg c_2, if_pos c_7]), by rw [ht]; exact hP, hD⟩, hS.F ht⟩) hS.2.2 dX5_split_60
  · skip
    have t_30 : (fX5_isLot u x1).toInt = 0 := i_eq c_2 rfl (by decide)
    refine lv_iconst (v := 1) hx hb dX5_split_9 (by decide) ?_
    refine lv_goto (tgt := 49) hx hb dX5_split_10 (by decide) ?_
    refine va_put (D := (dC, dI)) (C := RX5) (T := TX5) (N := 26) (v := .int 1) (ty := .int) hx hb hts (fi_X5 _) tyX5 tyX5_ok nmX5 hown hK hP hD hS 0 (mw_at0 _ _ _) rfl 0 (by decide) (hts _ (List.mem_cons_of_mem _ wd_237)) (fun _ h9 => h9) rfl (by decide +kernel) rfl rfl (Nat.le_of_ble_eq_true rfl) dX5_split_49 (fun H locs hP hD hS => ?_)
    have hP : va_P (dC, dI) vwCl (mw g h (s_mcode u 1)) H := hP
    have hD : va_D A (mw g h (s_mcode u 1)) := hD
    refine lv_aload_n hx hb dX5_split_52 rfl (lv_at hl 0 rfl) ?_
    refine va_get (D := (dC, dI)) (C := RX5) (T := TX5) (N := 26) (v := .int 1) hx hb hts (fi_X5 _) hown hK hP 0 (mw_at0 _ _ _) rfl 0 (by decide) (hts _ (List.mem_cons_of_mem _ wd_237)) (fun _ h9 => h9) rfl dX5_split_53 ?_
    refine lv_if_le (tgt := 61) hx hb dX5_split_56 (by decide) (fun c_31 => ?_) (fun c_31 => ?_)
    · skip
      exact absurd c_31 (by decide)
    · skip
      refine lv_iconst (v := 0) hx hb dX5_split_59 (by decide) ?_
      exact W.iret (v := 0) hx hb hr (fun t ht hW => ⟨⟨0, (s_mcode u 1), rfl, (by unfold fX5_split; rw [if_pos c_2]), by rw [ht]; exact hP, hD⟩, hS.F ht⟩) hS.2.2 dX5_split_60
set_option maxHeartbeats 4000000 in
set_option maxRecDepth 100000 in
theorem kX5_unit (l : Launch) (dC : Nat → ClassId) (dI : Nat → Nat → Nat) (g : cG) (h : Nat → Nat) (u : mS) (sz : Nat) (x1 : Int32) (hI : mInv u) : Met l yX5_unit wsX5_unit ({ frames := 2, cells := 0, slots := 0, locals := 43 }) (va_Pc [.ref (h 0), .int x1] (fun U => U.heap.size = sz ∧ va_P (dC, dI) vwCl (mw g h u) U.heap ∧ va_K (dC, dI) vwCl (cTys g) U ∧ va_D (fun _ => True) (mw g h u))) (va_Qi (fun (r : Int32) u2 => (r, u2) = fX5_unit u x1) (fun (u2 : mS) (t : State) => va_P (dC, dI) vwCl (mw g h u2) t.heap ∧ va_D (va_A (mw g h u) sz) (mw g h u2)) (va_A (mw g h u) sz)) 0 0 (va_A (mw g h u) sz) := by
  refine Met.ofW (cc := cX5_unit) (maxL := 2) (ret := (some .int)) (by decide) rfl ?_
  intro p e s m args below meth c s₁ B hml hv
  obtain ⟨rfl, hsz, hP, hK, hD0⟩ := hv
  have hx := B.exec
  have hb := B.bytes
  have hr := B.returns
  have hts := atoms_spec (ws := wsX5_unit) B.pre
  have hown : s.vm.findClass RX5 = some m.cls := findClass_of_methodNamed B.named
  have hlocks := B.notSynchronized
  subst hsz
  have hD := hD0.self (sz := s.heap.size)
  generalize hAe : va_A (mw g h u) s.heap.size = A at hD ⊢
  have hA : ∀ q : Nat, s.heap.size ≤ q → A q := fun q h => by rw [← hAe]; exact Or.inr h
  have hS : va_S A s.heap s.heap [] := va_S.rf
  have hl := lv_entry ([.ref (h 0), .int x1]) (n := 2) (Nat.le_of_ble_eq_true rfl)
  rw [lg_entry_eq]
  generalize (lg_sl ([.ref (h 0), .int x1]) ++ List.replicate (2 - (lg_sl ([.ref (h 0), .int x1])).length) Slot.unset).toArray = ls at hl ⊢
  have hl : lv_has ls 2 [(0, .ref (h 0)), (1, .int x1)] := hl
  obtain ⟨hI1, hI2, hI3, hI4, hI5, hI6, hI7⟩ := id hI
  have z_0 : (0 : Int32).toInt = 0 := by decide
  refine lv_aload_n hx hb dX5_unit_0 rfl (lv_at hl 0 rfl) ?_
  refine lv_aload_n hx hb dX5_unit_1 rfl (lv_at hl 0 rfl) ?_
  refine lv_iload_n hx hb dX5_unit_2 rfl (lv_at hl 1 rfl) ?_
  refine vp_callSi (W.runV (As := [.int x1]) (rest := [.ref (h 0)]) ⟨hx, hb, hml, hown, hts⟩ (kX5_isLot l dC dI g h u x1) (cwV 1 hts (gV wd_288 wd_289 wd_290 wd_241 wcX5_isLot) rfl rfl rfl (by decide +kernel) ⟨(Nat.le_of_ble_eq_true rfl), (Nat.le_of_ble_eq_true rfl)⟩) ⟨fun a U g mk q => by obtain ⟨q0, qP, qK⟩ := q; exact ⟨q0, qP, va_K.moved (u := U) (U := U.calling g mk a) (Vm.Alike.refl U.vm) qK⟩, va_recv hK hP (ci := 4) (q0 := 0) rfl (mw_at0 _ _ _), fun U hU hW => ⟨rfl, by rw [hU]; exact hP, va_K.moved hW.alike hK⟩⟩ rfl rfl hl.1 rfl (lv_room (Nat.le_of_ble_eq_true rfl)) dX5_unit_3 ⟨(Nat.le_of_ble_eq_true rfl), (Nat.le_of_ble_eq_true rfl)⟩) (fun r_1 hw => ?_)
  subst hw
  refine lv_if_ne (tgt := 13) hx hb dX5_unit_6 (by decide) (fun c_2 => ?_) (fun c_2 => ?_)
  · skip
    have t_3 : (fX5_isLot u x1).toInt ≠ 0 := i_ne c_2 rfl (by decide)
    have t_4 := il_lo c_2
    have t_5 := il_hi c_2
    refine lv_aload_n hx hb dX5_unit_13 rfl (lv_at hl 0 rfl) ?_
    refine lv_iload_n hx hb dX5_unit_14 rfl (lv_at hl 1 rfl) ?_
    refine vp_callSi (W.runV (As := [.int x1]) (rest := [.ref (h 0)]) ⟨hx, hb, hml, hown, hts⟩ (kX5_isOpen l dC dI g h u x1 (by omega)) (cwV 1 hts (gV wd_246 wd_247 wd_248 wd_241 wcX5_isOpen) rfl rfl rfl (by decide +kernel) ⟨(Nat.le_of_ble_eq_true rfl), (Nat.le_of_ble_eq_true rfl)⟩) ⟨fun a U g mk q => by obtain ⟨q0, qP, qK⟩ := q; exact ⟨q0, qP, va_K.moved (u := U) (U := U.calling g mk a) (Vm.Alike.refl U.vm) qK⟩, va_recv hK hP (ci := 4) (q0 := 0) rfl (mw_at0 _ _ _), fun U hU hW => ⟨rfl, by rw [hU]; exact hP, va_K.moved hW.alike hK⟩⟩ rfl rfl hl.1 rfl (lv_room (Nat.le_of_ble_eq_true rfl)) dX5_unit_15 ⟨(Nat.le_of_ble_eq_true rfl), (Nat.le_of_ble_eq_true rfl)⟩) (fun r_6 hw => ?_)
    subst hw
    refine lv_if_ne (tgt := 25) hx hb dX5_unit_18 (by decide) (fun c_7 => ?_) (fun c_7 => ?_)
    · skip
      have t_8 : (fX5_isOpen u x1).toInt ≠ 0 := i_ne c_7 rfl (by decide)
      refine lv_aload_n hx hb dX5_unit_25 rfl (lv_at hl 0 rfl) ?_
      refine va_get (D := (dC, dI)) (C := RX5) (T := TX5) (N := 26) (v := .int (k_munits u)) hx hb hts (fi_X5 _) hown hK hP 0 (mw_at0 _ _ _) rfl 14 (by decide) (hts _ (List.mem_cons_of_mem _ wd_243)) (fun _ h9 => h9) rfl dX5_unit_26 ?_
      refine lv_bipush (v := 120) hx hb dX5_unit_29 (by decide) ?_
      refine lv_icmp_eq (tgt := 44) hx hb dX5_unit_31 (by decide) (fun c_9 => ?_) (fun c_9 => ?_)
      · skip
        have t_10 : (k_munits u).toInt = 120 := i_eq c_9 rfl (by decide)
        refine lv_iconst (v := 3) hx hb dX5_unit_44 (by decide) ?_
        refine lv_goto (tgt := 49) hx hb dX5_unit_45 (by decide) ?_
        refine va_put (D := (dC, dI)) (C := RX5) (T := TX5) (N := 26) (v := .int 3) (ty := .int) hx hb hts (fi_X5 _) tyX5 tyX5_ok nmX5 hown hK hP hD hS 0 (mw_at0 _ _ _) rfl 0 (by decide) (hts _ (List.mem_cons_of_mem _ wd_237)) (fun _ h9 => h9) rfl (by decide +kernel) rfl rfl (Nat.le_of_ble_eq_true rfl) dX5_unit_49 (fun H locs hP hD hS => ?_)
        have hP : va_P (dC, dI) vwCl (mw g h (s_mcode u 3)) H := hP
        have hD : va_D A (mw g h (s_mcode u 3)) := hD
        refine lv_aload_n hx hb dX5_unit_52 rfl (lv_at hl 0 rfl) ?_
        refine va_get (D := (dC, dI)) (C := RX5) (T := TX5) (N := 26) (v := .int 3) hx hb hts (fi_X5 _) hown hK hP 0 (mw_at0 _ _ _) rfl 0 (by decide) (hts _ (List.mem_cons_of_mem _ wd_237)) (fun _ h9 => h9) rfl dX5_unit_53 ?_
        refine lv_if_le (tgt := 61) hx hb dX5_unit_56 (by decide) (fun c_11 => ?_) (fun c_11 => ?_)
        · skip
          exact absurd c_11 (by decide)
        · skip
          refine lv_iconst (v := 0) hx hb dX5_unit_59 (by decide) ?_
          exact W.iret (v := 0) hx hb hr (fun t ht hW => ⟨⟨0, (s_mcode u 3), rfl, (by unfold fX5_unit; rw [if_neg c_2, if_neg c_7, if_pos c_9]), by rw [ht]; exact hP, hD⟩, hS.F ht⟩) hS.2.2 dX5_unit_60
      · skip
        have t_12 : (k_munits u).toInt ≠ 120 := i_ne c_9 rfl (by decide)
        refine lv_aload_n hx hb dX5_unit_34 rfl (lv_at hl 0 rfl) ?_
        refine va_get (D := (dC, dI)) (C := RX5) (T := TX5) (N := 26) (v := .int (k_mrows u)) hx hb hts (fi_X5 _) hown hK hP 0 (mw_at0 _ _ _) rfl 20 (by decide) (hts _ (List.mem_cons_of_mem _ wd_273)) (fun _ h9 => h9) rfl dX5_unit_35 ?_
        refine lv_sipush (v := 400) hx hb dX5_unit_38 (by decide) ?_
        refine lv_icmp_ne (tgt := 48) hx hb dX5_unit_41 (by decide) (fun c_13 => ?_) (fun c_13 => ?_)
        · skip
          have t_14 : (k_mrows u).toInt ≠ 400 := i_ne c_13 rfl (by decide)
          refine lv_iconst (v := 0) hx hb dX5_unit_48 (by decide) ?_
          refine va_put (D := (dC, dI)) (C := RX5) (T := TX5) (N := 26) (v := .int 0) (ty := .int) hx hb hts (fi_X5 _) tyX5 tyX5_ok nmX5 hown hK hP hD hS 0 (mw_at0 _ _ _) rfl 0 (by decide) (hts _ (List.mem_cons_of_mem _ wd_237)) (fun _ h9 => h9) rfl (by decide +kernel) rfl rfl (Nat.le_of_ble_eq_true rfl) dX5_unit_49 (fun H locs hP hD hS => ?_)
          have hP : va_P (dC, dI) vwCl (mw g h (s_mcode u 0)) H := hP
          have hD : va_D A (mw g h (s_mcode u 0)) := hD
          refine lv_aload_n hx hb dX5_unit_52 rfl (lv_at hl 0 rfl) ?_
          refine va_get (D := (dC, dI)) (C := RX5) (T := TX5) (N := 26) (v := .int 0) hx hb hts (fi_X5 _) hown hK hP 0 (mw_at0 _ _ _) rfl 0 (by decide) (hts _ (List.mem_cons_of_mem _ wd_237)) (fun _ h9 => h9) rfl dX5_unit_53 ?_
          refine lv_if_le (tgt := 61) hx hb dX5_unit_56 (by decide) (fun c_15 => ?_) (fun c_15 => ?_)
          · skip
            refine lv_aload_n hx hb dX5_unit_61 rfl (lv_at hl 0 rfl) ?_
            refine lv_dup hx hb dX5_unit_62 rfl ?_
            refine va_get (D := (dC, dI)) (C := RX5) (T := TX5) (N := 26) (v := .int (k_munits u)) hx hb hts (fi_X5 _) hown hK hP 0 (mw_at0 _ _ _) rfl 14 (by decide) (hts _ (List.mem_cons_of_mem _ wd_243)) (fun _ h9 => h9) rfl dX5_unit_63 ?_
            refine lv_iconst (v := 1) hx hb dX5_unit_66 (by decide) ?_
            refine lv_iadd hx hb dX5_unit_67 ?_
            refine va_put (D := (dC, dI)) (C := RX5) (T := TX5) (N := 26) (v := .int ((k_munits u) + 1)) (ty := .int) hx hb hts (fi_X5 _) tyX5 tyX5_ok nmX5 hown hK hP hD hS 0 (mw_at0 _ _ _) rfl 14 (by decide) (hts _ (List.mem_cons_of_mem _ wd_243)) (fun _ h9 => h9) rfl (by decide +kernel) rfl rfl (Nat.le_of_ble_eq_true rfl) dX5_unit_68 (fun H locs hP hD hS => ?_)
            have hP : va_P (dC, dI) vwCl (mw g h (s_munits (s_mcode u 0) ((k_munits u) + 1))) H := hP
            have hD : va_D A (mw g h (s_munits (s_mcode u 0) ((k_munits u) + 1))) := hD
            refine lv_aload_n hx hb dX5_unit_71 rfl (lv_at hl 0 rfl) ?_
            refine va_get (D := (dC, dI)) (C := RX5) (T := TX5) (N := 26) (v := .ref (h 13)) hx hb hts (fi_X5 _) hown hK hP 0 (mw_at0 _ _ _) rfl 15 (by decide) (hts _ (List.mem_cons_of_mem _ wd_299)) (fun _ h9 => h9) rfl dX5_unit_72 ?_
            refine lv_aload_n hx hb dX5_unit_75 rfl (lv_at hl 0 rfl) ?_
            refine va_get (D := (dC, dI)) (C := RX5) (T := TX5) (N := 26) (v := .int ((k_munits u) + 1)) hx hb hts (fi_X5 _) hown hK hP 0 (mw_at0 _ _ _) rfl 14 (by decide) (hts _ (List.mem_cons_of_mem _ wd_243)) (fun _ h9 => h9) rfl dX5_unit_76 ?_
            refine lv_iload_n hx hb dX5_unit_79 rfl (lv_at hl 1 rfl) ?_
            refine va_iast (f := k_mlotOf u) hx hb hK hP hD hS 13 0 (mw_at13 _ _ _) rfl (vp_in_iff.mpr (by have hm1 := i_inc (x := k_munits u) (by omega); omega)) dX5_unit_80 (fun H locs hP hD hS => ?_)
            have hP : va_P (dC, dI) vwCl (mw g h (s_mlotOf (s_munits (s_mcode u 0) ((k_munits u) + 1)) (upd (k_mlotOf u) ((k_munits u) + 1).toNatClampNeg x1))) H := hP
            have hD : va_D A (mw g h (s_mlotOf (s_munits (s_mcode u 0) ((k_munits u) + 1)) (upd (k_mlotOf u) ((k_munits u) + 1).toNatClampNeg x1))) := hD
            refine lv_aload_n hx hb dX5_unit_81 rfl (lv_at hl 0 rfl) ?_
            refine va_get (D := (dC, dI)) (C := RX5) (T := TX5) (N := 26) (v := .ref (h 14)) hx hb hts (fi_X5 _) hown hK hP 0 (mw_at0 _ _ _) rfl 16 (by decide) (hts _ (List.mem_cons_of_mem _ wd_300)) (fun _ h9 => h9) rfl dX5_unit_82 ?_
            refine lv_aload_n hx hb dX5_unit_85 rfl (lv_at hl 0 rfl) ?_
            refine va_get (D := (dC, dI)) (C := RX5) (T := TX5) (N := 26) (v := .int ((k_munits u) + 1)) hx hb hts (fi_X5 _) hown hK hP 0 (mw_at0 _ _ _) rfl 14 (by decide) (hts _ (List.mem_cons_of_mem _ wd_243)) (fun _ h9 => h9) rfl dX5_unit_86 ?_
            refine lv_iconst (v := (-1)) hx hb dX5_unit_89 (by decide) ?_
            refine va_iast (f := k_mbin u) hx hb hK hP hD hS 14 0 (mw_at14 _ _ _) rfl (vp_in_iff.mpr (by have hm1 := i_inc (x := k_munits u) (by omega); omega)) dX5_unit_90 (fun H locs hP hD hS => ?_)
            have hP : va_P (dC, dI) vwCl (mw g h (s_mbin (s_mlotOf (s_munits (s_mcode u 0) ((k_munits u) + 1)) (upd (k_mlotOf u) ((k_munits u) + 1).toNatClampNeg x1)) (upd (k_mbin u) ((k_munits u) + 1).toNatClampNeg (-1)))) H := hP
            have hD : va_D A (mw g h (s_mbin (s_mlotOf (s_munits (s_mcode u 0) ((k_munits u) + 1)) (upd (k_mlotOf u) ((k_munits u) + 1).toNatClampNeg x1)) (upd (k_mbin u) ((k_munits u) + 1).toNatClampNeg (-1)))) := hD
            refine lv_aload_n hx hb dX5_unit_91 rfl (lv_at hl 0 rfl) ?_
            refine va_get (D := (dC, dI)) (C := RX5) (T := TX5) (N := 26) (v := .ref (h 15)) hx hb hts (fi_X5 _) hown hK hP 0 (mw_at0 _ _ _) rfl 17 (by decide) (hts _ (List.mem_cons_of_mem _ wd_245)) (fun _ h9 => h9) rfl dX5_unit_92 ?_
            refine lv_aload_n hx hb dX5_unit_95 rfl (lv_at hl 0 rfl) ?_
            refine va_get (D := (dC, dI)) (C := RX5) (T := TX5) (N := 26) (v := .int ((k_munits u) + 1)) hx hb hts (fi_X5 _) hown hK hP 0 (mw_at0 _ _ _) rfl 14 (by decide) (hts _ (List.mem_cons_of_mem _ wd_243)) (fun _ h9 => h9) rfl dX5_unit_96 ?_
            refine lv_iconst (v := (-1)) hx hb dX5_unit_99 (by decide) ?_
            refine va_iast (f := k_mcust u) hx hb hK hP hD hS 15 0 (mw_at15 _ _ _) rfl (vp_in_iff.mpr (by have hm1 := i_inc (x := k_munits u) (by omega); omega)) dX5_unit_100 (fun H locs hP hD hS => ?_)
            have hP : va_P (dC, dI) vwCl (mw g h (s_mcust (s_mbin (s_mlotOf (s_munits (s_mcode u 0) ((k_munits u) + 1)) (upd (k_mlotOf u) ((k_munits u) + 1).toNatClampNeg x1)) (upd (k_mbin u) ((k_munits u) + 1).toNatClampNeg (-1))) (upd (k_mcust u) ((k_munits u) + 1).toNatClampNeg (-1)))) H := hP
            have hD : va_D A (mw g h (s_mcust (s_mbin (s_mlotOf (s_munits (s_mcode u 0) ((k_munits u) + 1)) (upd (k_mlotOf u) ((k_munits u) + 1).toNatClampNeg x1)) (upd (k_mbin u) ((k_munits u) + 1).toNatClampNeg (-1))) (upd (k_mcust u) ((k_munits u) + 1).toNatClampNeg (-1)))) := hD
            refine lv_aload_n hx hb dX5_unit_101 rfl (lv_at hl 0 rfl) ?_
            refine va_get (D := (dC, dI)) (C := RX5) (T := TX5) (N := 26) (v := .ref (h 16)) hx hb hts (fi_X5 _) hown hK hP 0 (mw_at0 _ _ _) rfl 18 (by decide) (hts _ (List.mem_cons_of_mem _ wd_301)) (fun _ h9 => h9) rfl dX5_unit_102 ?_
            refine lv_aload_n hx hb dX5_unit_105 rfl (lv_at hl 0 rfl) ?_
            refine va_get (D := (dC, dI)) (C := RX5) (T := TX5) (N := 26) (v := .int ((k_munits u) + 1)) hx hb hts (fi_X5 _) hown hK hP 0 (mw_at0 _ _ _) rfl 14 (by decide) (hts _ (List.mem_cons_of_mem _ wd_243)) (fun _ h9 => h9) rfl dX5_unit_106 ?_
            refine lv_iconst (v := (-1)) hx hb dX5_unit_109 (by decide) ?_
            refine va_iast (f := k_mwhen u) hx hb hK hP hD hS 16 0 (mw_at16 _ _ _) rfl (vp_in_iff.mpr (by have hm1 := i_inc (x := k_munits u) (by omega); omega)) dX5_unit_110 (fun H locs hP hD hS => ?_)
            have hP : va_P (dC, dI) vwCl (mw g h (s_mwhen (s_mcust (s_mbin (s_mlotOf (s_munits (s_mcode u 0) ((k_munits u) + 1)) (upd (k_mlotOf u) ((k_munits u) + 1).toNatClampNeg x1)) (upd (k_mbin u) ((k_munits u) + 1).toNatClampNeg (-1))) (upd (k_mcust u) ((k_munits u) + 1).toNatClampNeg (-1))) (upd (k_mwhen u) ((k_munits u) + 1).toNatClampNeg (-1)))) H := hP
            have hD : va_D A (mw g h (s_mwhen (s_mcust (s_mbin (s_mlotOf (s_munits (s_mcode u 0) ((k_munits u) + 1)) (upd (k_mlotOf u) ((k_munits u) + 1).toNatClampNeg x1)) (upd (k_mbin u) ((k_munits u) + 1).toNatClampNeg (-1))) (upd (k_mcust u) ((k_munits u) + 1).toNatClampNeg (-1))) (upd (k_mwhen u) ((k_munits u) + 1).toNatClampNeg (-1)))) := hD
            refine lv_aload_n hx hb dX5_unit_111 rfl (lv_at hl 0 rfl) ?_
            refine va_get (D := (dC, dI)) (C := RX5) (T := TX5) (N := 26) (v := .ref (h 17)) hx hb hts (fi_X5 _) hown hK hP 0 (mw_at0 _ _ _) rfl 19 (by decide) (hts _ (List.mem_cons_of_mem _ wd_302)) (fun _ h9 => h9) rfl dX5_unit_112 ?_
            refine lv_bipush (v := 41) hx hb dX5_unit_115 (by decide) ?_
            refine lv_aload_n hx hb dX5_unit_117 rfl (lv_at hl 0 rfl) ?_
            refine va_get (D := (dC, dI)) (C := RX5) (T := TX5) (N := 26) (v := .int ((k_munits u) + 1)) hx hb hts (fi_X5 _) hown hK hP 0 (mw_at0 _ _ _) rfl 14 (by decide) (hts _ (List.mem_cons_of_mem _ wd_243)) (fun _ h9 => h9) rfl dX5_unit_118 ?_
            refine lv_imul hx hb dX5_unit_121 ?_
            refine lv_iload_n hx hb dX5_unit_122 rfl (lv_at hl 1 rfl) ?_
            refine lv_iadd hx hb dX5_unit_123 ?_
            refine lv_iconst (v := 1) hx hb dX5_unit_124 (by decide) ?_
            refine va_zast (f := k_mwas u) hx hb hK hP hD hS 17 1 (mw_at17 _ _ _) rfl (was_in (by have hm1 := i_inc (x := k_munits u) (by omega); omega) (by omega)) dX5_unit_125 (fun H locs hP hD hS => ?_)
            have hP : va_P (dC, dI) vwCl (mw g h (s_mwas (s_mwhen (s_mcust (s_mbin (s_mlotOf (s_munits (s_mcode u 0) ((k_munits u) + 1)) (upd (k_mlotOf u) ((k_munits u) + 1).toNatClampNeg x1)) (upd (k_mbin u) ((k_munits u) + 1).toNatClampNeg (-1))) (upd (k_mcust u) ((k_munits u) + 1).toNatClampNeg (-1))) (upd (k_mwhen u) ((k_munits u) + 1).toNatClampNeg (-1))) (upd (k_mwas u) ((41 * ((k_munits u) + 1)) + x1).toNatClampNeg (vp_nar .boolean 1)))) H := hP
            have hD : va_D A (mw g h (s_mwas (s_mwhen (s_mcust (s_mbin (s_mlotOf (s_munits (s_mcode u 0) ((k_munits u) + 1)) (upd (k_mlotOf u) ((k_munits u) + 1).toNatClampNeg x1)) (upd (k_mbin u) ((k_munits u) + 1).toNatClampNeg (-1))) (upd (k_mcust u) ((k_munits u) + 1).toNatClampNeg (-1))) (upd (k_mwhen u) ((k_munits u) + 1).toNatClampNeg (-1))) (upd (k_mwas u) ((41 * ((k_munits u) + 1)) + x1).toNatClampNeg (vp_nar .boolean 1)))) := hD
            refine lv_aload_n hx hb dX5_unit_126 rfl (lv_at hl 0 rfl) ?_
            refine lv_iload_n hx hb dX5_unit_127 rfl (lv_at hl 1 rfl) ?_
            refine lv_bipush (v := 10) hx hb dX5_unit_128 (by decide) ?_
            refine lv_aload_n hx hb dX5_unit_130 rfl (lv_at hl 0 rfl) ?_
            refine va_get (D := (dC, dI)) (C := RX5) (T := TX5) (N := 26) (v := .int ((k_munits u) + 1)) hx hb hts (fi_X5 _) hown hK hP 0 (mw_at0 _ _ _) rfl 14 (by decide) (hts _ (List.mem_cons_of_mem _ wd_243)) (fun _ h9 => h9) rfl dX5_unit_131 ?_
            have hFc := va_free (wc := mw g h (s_mwas (s_mwhen (s_mcust (s_mbin (s_mlotOf (s_munits (s_mcode u 0) ((k_munits u) + 1)) (upd (k_mlotOf u) ((k_munits u) + 1).toNatClampNeg x1)) (upd (k_mbin u) ((k_munits u) + 1).toNatClampNeg (-1))) (upd (k_mcust u) ((k_munits u) + 1).toNatClampNeg (-1))) (upd (k_mwhen u) ((k_munits u) + 1).toNatClampNeg (-1))) (upd (k_mwas u) ((41 * ((k_munits u) + 1)) + x1).toNatClampNeg (vp_nar .boolean 1)))) hD hS hA [0, 1, 2, 3, 4, 5, 6, 7, 8, 9, 10, 11, 12, 13, 14, 15, 16, 17, 18, 19, 20, 21, 22] rfl
            refine va_callv (va_runV (As := [.int x1, .int 10, .int ((k_munits u) + 1)]) (rest := []) ⟨hx, hb, hml, hown, hts⟩ (kX5_row l dC dI g h (s_mwas (s_mwhen (s_mcust (s_mbin (s_mlotOf (s_munits (s_mcode u 0) ((k_munits u) + 1)) (upd (k_mlotOf u) ((k_munits u) + 1).toNatClampNeg x1)) (upd (k_mbin u) ((k_munits u) + 1).toNatClampNeg (-1))) (upd (k_mcust u) ((k_munits u) + 1).toNatClampNeg (-1))) (upd (k_mwhen u) ((k_munits u) + 1).toNatClampNeg (-1))) (upd (k_mwas u) ((41 * ((k_munits u) + 1)) + x1).toNatClampNeg (vp_nar .boolean 1))) _ x1 10 ((k_munits u) + 1) (by show 0 ≤ (k_mrows u).toInt ∧ (k_mrows u).toInt < 400; omega)) (cwV 3 hts (gV wd_283 wd_284 wd_285 wd_241 wcX5_row) rfl rfl rfl (by decide +kernel) ⟨(Nat.le_of_ble_eq_true rfl), (Nat.le_of_ble_eq_true rfl)⟩) ⟨fun a U g mk q => by obtain ⟨q0, q1, qP, qK, qD⟩ := q; exact ⟨q0, q1, qP, va_K.moved (u := U) (U := U.calling g mk a) (Vm.Alike.refl U.vm) qK, qD⟩, va_recv hK hP (ci := 4) (q0 := 0) rfl (mw_at0 _ _ _), fun U hU hW => ⟨rfl, by rw [hU], by rw [hU]; exact hP, va_K.moved hW.alike hK, hD.weaken (fun _ _ _ _ => trivial)⟩⟩ rfl rfl hl.1 rfl (lv_room (Nat.le_of_ble_eq_true rfl)) dX5_unit_134 ⟨(Nat.le_of_ble_eq_true rfl), (Nat.le_of_ble_eq_true rfl)⟩) hS (fun q _ h => hFc q h) hFc (fun u_16 t H locs ht hvm hw hB hz1 hk1 hS => ?_)
            obtain ⟨hP, hD⟩ := hB
            rw [ht] at hP
            have hD := hD.weaken (fun _ _ _ h => hFc _ h)
            have e_18 : u_16 = fX5_row (s_mwas (s_mwhen (s_mcust (s_mbin (s_mlotOf (s_munits (s_mcode u 0) ((k_munits u) + 1)) (upd (k_mlotOf u) ((k_munits u) + 1).toNatClampNeg x1)) (upd (k_mbin u) ((k_munits u) + 1).toNatClampNeg (-1))) (upd (k_mcust u) ((k_munits u) + 1).toNatClampNeg (-1))) (upd (k_mwhen u) ((k_munits u) + 1).toNatClampNeg (-1))) (upd (k_mwas u) ((41 * ((k_munits u) + 1)) + x1).toNatClampNeg (vp_nar .boolean 1))) x1 10 ((k_munits u) + 1) := hw
            clear hw
            refine lv_aload_n hx hb dX5_unit_137 rfl (lv_at hl 0 rfl) ?_
            refine va_get (D := (dC, dI)) (C := RX5) (T := TX5) (N := 26) (v := .int (k_munits u_16)) hx hb hts (fi_X5 _) hown hK hP 0 (mw_at0 _ _ _) rfl 14 (by decide) (hts _ (List.mem_cons_of_mem _ wd_243)) (fun _ h9 => h9) rfl dX5_unit_138 ?_
            exact W.iret (v := k_munits u_16) hx hb hr (fun t ht hW => ⟨⟨(k_munits u_16), u_16, rfl, (by subst e_18; unfold fX5_unit; rw [if_neg c_2, if_neg c_7, if_neg c_9, if_neg c_13]), by rw [ht]; exact hP, hD⟩, hS.F ht⟩) hS.2.2 dX5_unit_141
          · skip
            exact absurd (by decide) c_15
        · skip
          have t_19 : (k_mrows u).toInt = 400 := i_eq c_13 rfl (by decide)
          refine lv_iconst (v := 3) hx hb dX5_unit_44 (by decide) ?_
          refine lv_goto (tgt := 49) hx hb dX5_unit_45 (by decide) ?_
          refine va_put (D := (dC, dI)) (C := RX5) (T := TX5) (N := 26) (v := .int 3) (ty := .int) hx hb hts (fi_X5 _) tyX5 tyX5_ok nmX5 hown hK hP hD hS 0 (mw_at0 _ _ _) rfl 0 (by decide) (hts _ (List.mem_cons_of_mem _ wd_237)) (fun _ h9 => h9) rfl (by decide +kernel) rfl rfl (Nat.le_of_ble_eq_true rfl) dX5_unit_49 (fun H locs hP hD hS => ?_)
          have hP : va_P (dC, dI) vwCl (mw g h (s_mcode u 3)) H := hP
          have hD : va_D A (mw g h (s_mcode u 3)) := hD
          refine lv_aload_n hx hb dX5_unit_52 rfl (lv_at hl 0 rfl) ?_
          refine va_get (D := (dC, dI)) (C := RX5) (T := TX5) (N := 26) (v := .int 3) hx hb hts (fi_X5 _) hown hK hP 0 (mw_at0 _ _ _) rfl 0 (by decide) (hts _ (List.mem_cons_of_mem _ wd_237)) (fun _ h9 => h9) rfl dX5_unit_53 ?_
          refine lv_if_le (tgt := 61) hx hb dX5_unit_56 (by decide) (fun c_20 => ?_) (fun c_20 => ?_)
          · skip
            exact absurd c_20 (by decide)
          · skip
            refine lv_iconst (v := 0) hx hb dX5_unit_59 (by decide) ?_
            exact W.iret (v := 0) hx hb hr (fun t ht hW => ⟨⟨0, (s_mcode u 3), rfl, (by unfold fX5_unit; rw [if_neg c_2, if_neg c_7, if_neg c_9, if_pos c_13]), by rw [ht]; exact hP, hD⟩, hS.F ht⟩) hS.2.2 dX5_unit_60
    · skip
      have t_21 : (fX5_isOpen u x1).toInt = 0 := i_eq c_7 rfl (by decide)
      refine lv_iconst (v := 2) hx hb dX5_unit_21 (by decide) ?_
      refine lv_goto (tgt := 49) hx hb dX5_unit_22 (by decide) ?_
      refine va_put (D := (dC, dI)) (C := RX5) (T := TX5) (N := 26) (v := .int 2) (ty := .int) hx hb hts (fi_X5 _) tyX5 tyX5_ok nmX5 hown hK hP hD hS 0 (mw_at0 _ _ _) rfl 0 (by decide) (hts _ (List.mem_cons_of_mem _ wd_237)) (fun _ h9 => h9) rfl (by decide +kernel) rfl rfl (Nat.le_of_ble_eq_true rfl) dX5_unit_49 (fun H locs hP hD hS => ?_)
      have hP : va_P (dC, dI) vwCl (mw g h (s_mcode u 2)) H := hP
      have hD : va_D A (mw g h (s_mcode u 2)) := hD
      refine lv_aload_n hx hb dX5_unit_52 rfl (lv_at hl 0 rfl) ?_
      refine va_get (D := (dC, dI)) (C := RX5) (T := TX5) (N := 26) (v := .int 2) hx hb hts (fi_X5 _) hown hK hP 0 (mw_at0 _ _ _) rfl 0 (by decide) (hts _ (List.mem_cons_of_mem _ wd_237)) (fun _ h9 => h9) rfl dX5_unit_53 ?_
      refine lv_if_le (tgt := 61) hx hb dX5_unit_56 (by decide) (fun c_22 => ?_) (fun c_22 => ?_)
      · skip
        exact absurd c_22 (by decide)
      · skip
        refine lv_iconst (v := 0) hx hb dX5_unit_59 (by decide) ?_
        exact W.iret (v := 0) hx hb hr (fun t ht hW => ⟨⟨0, (s_mcode u 2), rfl, (by unfold fX5_unit; rw [if_neg c_2, if_pos c_7]), by rw [ht]; exact hP, hD⟩, hS.F ht⟩) hS.2.2 dX5_unit_60
  · skip
    have t_23 : (fX5_isLot u x1).toInt = 0 := i_eq c_2 rfl (by decide)
    refine lv_iconst (v := 1) hx hb dX5_unit_9 (by decide) ?_
    refine lv_goto (tgt := 49) hx hb dX5_unit_10 (by decide) ?_
    refine va_put (D := (dC, dI)) (C := RX5) (T := TX5) (N := 26) (v := .int 1) (ty := .int) hx hb hts (fi_X5 _) tyX5 tyX5_ok nmX5 hown hK hP hD hS 0 (mw_at0 _ _ _) rfl 0 (by decide) (hts _ (List.mem_cons_of_mem _ wd_237)) (fun _ h9 => h9) rfl (by decide +kernel) rfl rfl (Nat.le_of_ble_eq_true rfl) dX5_unit_49 (fun H locs hP hD hS => ?_)
    have hP : va_P (dC, dI) vwCl (mw g h (s_mcode u 1)) H := hP
    have hD : va_D A (mw g h (s_mcode u 1)) := hD
    refine lv_aload_n hx hb dX5_unit_52 rfl (lv_at hl 0 rfl) ?_
    refine va_get (D := (dC, dI)) (C := RX5) (T := TX5) (N := 26) (v := .int 1) hx hb hts (fi_X5 _) hown hK hP 0 (mw_at0 _ _ _) rfl 0 (by decide) (hts _ (List.mem_cons_of_mem _ wd_237)) (fun _ h9 => h9) rfl dX5_unit_53 ?_
    refine lv_if_le (tgt := 61) hx hb dX5_unit_56 (by decide) (fun c_24 => ?_) (fun c_24 => ?_)
    · skip
      exact absurd c_24 (by decide)
    · skip
      refine lv_iconst (v := 0) hx hb dX5_unit_59 (by decide) ?_
      exact W.iret (v := 0) hx hb hr (fun t ht hW => ⟨⟨0, (s_mcode u 1), rfl, (by unfold fX5_unit; rw [if_pos c_2]), by rw [ht]; exact hP, hD⟩, hS.F ht⟩) hS.2.2 dX5_unit_60
set_option maxHeartbeats 4000000 in
set_option maxRecDepth 100000 in
theorem kX5_mixed (l : Launch) (dC : Nat → ClassId) (dI : Nat → Nat → Nat) (g : cG) (h : Nat → Nat) (u : mS) (sz : Nat) (x1 : Int32) (hI : mInv u) : Met l yX5_mixed wsX5_mixed ({ frames := 1, cells := 0, slots := 0, locals := 22 }) (va_Pc [.ref (h 0), .int x1] (fun U => U.heap.size = sz ∧ va_P (dC, dI) vwCl (mw g h u) U.heap ∧ va_K (dC, dI) vwCl (cTys g) U ∧ va_D (fun _ => True) (mw g h u))) (va_Qi (fun (r : Int32) u2 => (r, u2) = fX5_mixed u x1) (fun (u2 : mS) (t : State) => va_P (dC, dI) vwCl (mw g h u2) t.heap ∧ va_D (va_A (mw g h u) sz) (mw g h u2)) (va_A (mw g h u) sz)) 0 0 (va_A (mw g h u) sz) := by
  refine Met.ofW (cc := cX5_mixed) (maxL := 2) (ret := (some .int)) (by decide) rfl ?_
  intro p e s m args below meth c s₁ B hml hv
  obtain ⟨rfl, hsz, hP, hK, hD0⟩ := hv
  have hx := B.exec
  have hb := B.bytes
  have hr := B.returns
  have hts := atoms_spec (ws := wsX5_mixed) B.pre
  have hown : s.vm.findClass RX5 = some m.cls := findClass_of_methodNamed B.named
  have hlocks := B.notSynchronized
  subst hsz
  have hD := hD0.self (sz := s.heap.size)
  generalize hAe : va_A (mw g h u) s.heap.size = A at hD ⊢
  have hA : ∀ q : Nat, s.heap.size ≤ q → A q := fun q h => by rw [← hAe]; exact Or.inr h
  have hS : va_S A s.heap s.heap [] := va_S.rf
  have hl := lv_entry ([.ref (h 0), .int x1]) (n := 2) (Nat.le_of_ble_eq_true rfl)
  rw [lg_entry_eq]
  generalize (lg_sl ([.ref (h 0), .int x1]) ++ List.replicate (2 - (lg_sl ([.ref (h 0), .int x1])).length) Slot.unset).toArray = ls at hl ⊢
  have hl : lv_has ls 2 [(0, .ref (h 0)), (1, .int x1)] := hl
  obtain ⟨hI1, hI2, hI3, hI4, hI5, hI6, hI7⟩ := id hI
  have z_0 : (0 : Int32).toInt = 0 := by decide
  have z_1 : (1 : Int32).toInt = 1 := by decide
  refine lv_aload_n hx hb dX5_mixed_0 rfl (lv_at hl 0 rfl) ?_
  refine lv_iload_n hx hb dX5_mixed_1 rfl (lv_at hl 1 rfl) ?_
  refine lv_iconst (v := 0) hx hb dX5_mixed_2 (by decide) ?_
  refine lv_iconst (v := 1) hx hb dX5_mixed_3 (by decide) ?_
  refine vp_callSi (W.runS (As := [.int x1, .int 0, .int 1]) (rest := [.ref (h 0)]) ⟨hx, hb, hml, hown, hts⟩ (kX5_in l dC dI x1 0 1) (cwS 3 hts (gS wd_239 wd_240 wd_241 wcX5_in) rfl rfl rfl (by decide +kernel) ⟨(Nat.le_of_ble_eq_true rfl), (Nat.le_of_ble_eq_true rfl)⟩) ⟨fun a U g mk q => by obtain ⟨q0, qT⟩ := q; exact ⟨q0, qT⟩, fun U hU hW => ⟨rfl, trivial⟩⟩ rfl rfl hl.1 rfl (lv_room (Nat.le_of_ble_eq_true rfl)) dX5_mixed_4 ⟨(Nat.le_of_ble_eq_true rfl), (Nat.le_of_ble_eq_true rfl)⟩) (fun r_1 hw => ?_)
  subst hw
  refine lv_if_eq (tgt := 14) hx hb dX5_mixed_7 (by decide) (fun c_2 => ?_) (fun c_2 => ?_)
  · skip
    have t_3 : (fX5_in x1 0 1).toInt = 0 := i_eq c_2 rfl (by decide)
    refine lv_iconst (v := 1) hx hb dX5_mixed_14 (by decide) ?_
    refine va_put (D := (dC, dI)) (C := RX5) (T := TX5) (N := 26) (v := .int 1) (ty := .int) hx hb hts (fi_X5 _) tyX5 tyX5_ok nmX5 hown hK hP hD hS 0 (mw_at0 _ _ _) rfl 0 (by decide) (hts _ (List.mem_cons_of_mem _ wd_237)) (fun _ h9 => h9) rfl (by decide +kernel) rfl rfl (Nat.le_of_ble_eq_true rfl) dX5_mixed_15 (fun H locs hP hD hS => ?_)
    have hP : va_P (dC, dI) vwCl (mw g h (s_mcode u 1)) H := hP
    have hD : va_D A (mw g h (s_mcode u 1)) := hD
    refine lv_aload_n hx hb dX5_mixed_18 rfl (lv_at hl 0 rfl) ?_
    refine va_get (D := (dC, dI)) (C := RX5) (T := TX5) (N := 26) (v := .int 1) hx hb hts (fi_X5 _) hown hK hP 0 (mw_at0 _ _ _) rfl 0 (by decide) (hts _ (List.mem_cons_of_mem _ wd_237)) (fun _ h9 => h9) rfl dX5_mixed_19 ?_
    refine lv_if_le (tgt := 29) hx hb dX5_mixed_22 (by decide) (fun c_4 => ?_) (fun c_4 => ?_)
    · skip
      exact absurd c_4 (by decide)
    · skip
      refine lv_iconst (v := 0) hx hb dX5_mixed_25 (by decide) ?_
      refine lv_goto (tgt := 35) hx hb dX5_mixed_26 (by decide) ?_
      exact W.iret (v := 0) hx hb hr (fun t ht hW => ⟨⟨0, (s_mcode u 1), rfl, (by unfold fX5_mixed; rw [if_pos c_2]), by rw [ht]; exact hP, hD⟩, hS.F ht⟩) hS.2.2 dX5_mixed_35
  · skip
    have t_5 : (fX5_in x1 0 1).toInt ≠ 0 := i_ne c_2 rfl (by decide)
    have t_6 := in_lo c_2
    have t_7 := in_hi c_2
    refine lv_iconst (v := 0) hx hb dX5_mixed_10 (by decide) ?_
    refine lv_goto (tgt := 15) hx hb dX5_mixed_11 (by decide) ?_
    refine va_put (D := (dC, dI)) (C := RX5) (T := TX5) (N := 26) (v := .int 0) (ty := .int) hx hb hts (fi_X5 _) tyX5 tyX5_ok nmX5 hown hK hP hD hS 0 (mw_at0 _ _ _) rfl 0 (by decide) (hts _ (List.mem_cons_of_mem _ wd_237)) (fun _ h9 => h9) rfl (by decide +kernel) rfl rfl (Nat.le_of_ble_eq_true rfl) dX5_mixed_15 (fun H locs hP hD hS => ?_)
    have hP : va_P (dC, dI) vwCl (mw g h (s_mcode u 0)) H := hP
    have hD : va_D A (mw g h (s_mcode u 0)) := hD
    refine lv_aload_n hx hb dX5_mixed_18 rfl (lv_at hl 0 rfl) ?_
    refine va_get (D := (dC, dI)) (C := RX5) (T := TX5) (N := 26) (v := .int 0) hx hb hts (fi_X5 _) hown hK hP 0 (mw_at0 _ _ _) rfl 0 (by decide) (hts _ (List.mem_cons_of_mem _ wd_237)) (fun _ h9 => h9) rfl dX5_mixed_19 ?_
    refine lv_if_le (tgt := 29) hx hb dX5_mixed_22 (by decide) (fun c_8 => ?_) (fun c_8 => ?_)
    · skip
      refine lv_aload_n hx hb dX5_mixed_29 rfl (lv_at hl 0 rfl) ?_
      refine va_get (D := (dC, dI)) (C := RX5) (T := TX5) (N := 26) (v := .ref (h 21)) hx hb hts (fi_X5 _) hown hK hP 0 (mw_at0 _ _ _) rfl 24 (by decide) (hts _ (List.mem_cons_of_mem _ wd_303)) (fun _ h9 => h9) rfl dX5_mixed_30 ?_
      refine lv_iload_n hx hb dX5_mixed_33 rfl (lv_at hl 1 rfl) ?_
      refine va_iald (f := k_mmixed u) hx hb hK hP 21 0 (mw_at21 _ _ _) rfl (vp_in_iff.mpr (by omega)) dX5_mixed_34 ?_
      exact W.iret (v := k_mmixed u x1.toNatClampNeg) hx hb hr (fun t ht hW => ⟨⟨(k_mmixed u x1.toNatClampNeg), (s_mcode u 0), rfl, (by unfold fX5_mixed; rw [if_neg c_2]), by rw [ht]; exact hP, hD⟩, hS.F ht⟩) hS.2.2 dX5_mixed_35
    · skip
      exact absurd (by decide) c_8
set_option maxHeartbeats 4000000 in
set_option maxRecDepth 100000 in
theorem kX5_ship (l : Launch) (dC : Nat → ClassId) (dI : Nat → Nat → Nat) (g : cG) (h : Nat → Nat) (u : mS) (sz : Nat) (x1 : Int32) (x2 : Int32) (x3 : Int32) (hI : mInv u) : Met l yX5_ship wsX5_ship ({ frames := 3, cells := 0, slots := 0, locals := 65 }) (va_Pc [.ref (h 0), .int x1, .int x2, .int x3] (fun U => U.heap.size = sz ∧ va_P (dC, dI) vwCl (mw g h u) U.heap ∧ va_K (dC, dI) vwCl (cTys g) U ∧ va_D (fun _ => True) (mw g h u))) (va_Qv (fun u2 => u2 = fX5_ship u x1 x2 x3) (fun (u2 : mS) (t : State) => va_P (dC, dI) vwCl (mw g h u2) t.heap ∧ va_D (va_A (mw g h u) sz) (mw g h u2)) (va_A (mw g h u) sz)) 0 0 (va_A (mw g h u) sz) := by
  refine Met.ofW (cc := cX5_ship) (maxL := 4) (ret := none) (by decide) rfl ?_
  intro p e s m args below meth c s₁ B hml hv
  obtain ⟨rfl, hsz, hP, hK, hD0⟩ := hv
  have hx := B.exec
  have hb := B.bytes
  have hr := B.returns
  have hts := atoms_spec (ws := wsX5_ship) B.pre
  have hown : s.vm.findClass RX5 = some m.cls := findClass_of_methodNamed B.named
  have hlocks := B.notSynchronized
  subst hsz
  have hD := hD0.self (sz := s.heap.size)
  generalize hAe : va_A (mw g h u) s.heap.size = A at hD ⊢
  have hA : ∀ q : Nat, s.heap.size ≤ q → A q := fun q h => by rw [← hAe]; exact Or.inr h
  have hS : va_S A s.heap s.heap [] := va_S.rf
  have hl := lv_entry ([.ref (h 0), .int x1, .int x2, .int x3]) (n := 4) (Nat.le_of_ble_eq_true rfl)
  rw [lg_entry_eq]
  generalize (lg_sl ([.ref (h 0), .int x1, .int x2, .int x3]) ++ List.replicate (4 - (lg_sl ([.ref (h 0), .int x1, .int x2, .int x3])).length) Slot.unset).toArray = ls at hl ⊢
  have hl : lv_has ls 4 [(0, .ref (h 0)), (1, .int x1), (2, .int x2), (3, .int x3)] := hl
  obtain ⟨hI1, hI2, hI3, hI4, hI5, hI6, hI7⟩ := id hI
  have z_0 : (0 : Int32).toInt = 0 := by decide
  have z_1 : (7 : Int32).toInt = 7 := by decide
  have z_2 : (36524 : Int32).toInt = 36524 := by decide
  refine lv_aload_n hx hb dX5_ship_0 rfl (lv_at hl 0 rfl) ?_
  refine lv_aload_n hx hb dX5_ship_1 rfl (lv_at hl 0 rfl) ?_
  refine lv_iload_n hx hb dX5_ship_2 rfl (lv_at hl 1 rfl) ?_
  refine vp_callSi (W.runV (As := [.int x1]) (rest := [.ref (h 0)]) ⟨hx, hb, hml, hown, hts⟩ (kX5_isUnit l dC dI g h u x1) (cwV 1 hts (gV wd_304 wd_305 wd_306 wd_241 wcX5_isUnit) rfl rfl rfl (by decide +kernel) ⟨(Nat.le_of_ble_eq_true rfl), (Nat.le_of_ble_eq_true rfl)⟩) ⟨fun a U g mk q => by obtain ⟨q0, qP, qK⟩ := q; exact ⟨q0, qP, va_K.moved (u := U) (U := U.calling g mk a) (Vm.Alike.refl U.vm) qK⟩, va_recv hK hP (ci := 4) (q0 := 0) rfl (mw_at0 _ _ _), fun U hU hW => ⟨rfl, by rw [hU]; exact hP, va_K.moved hW.alike hK⟩⟩ rfl rfl hl.1 rfl (lv_room (Nat.le_of_ble_eq_true rfl)) dX5_ship_3 ⟨(Nat.le_of_ble_eq_true rfl), (Nat.le_of_ble_eq_true rfl)⟩) (fun r_1 hw => ?_)
  subst hw
  refine lv_if_ne (tgt := 13) hx hb dX5_ship_6 (by decide) (fun c_2 => ?_) (fun c_2 => ?_)
  · skip
    have t_3 : (fX5_isUnit u x1).toInt ≠ 0 := i_ne c_2 rfl (by decide)
    have t_4 := iu_lo c_2
    have t_5 := iu_hi c_2
    refine lv_iload_n hx hb dX5_ship_13 rfl (lv_at hl 2 rfl) ?_
    refine lv_iconst (v := 0) hx hb dX5_ship_14 (by decide) ?_
    refine lv_bipush (v := 7) hx hb dX5_ship_15 (by decide) ?_
    refine vp_callSi (W.runS (As := [.int x2, .int 0, .int 7]) (rest := [.ref (h 0)]) ⟨hx, hb, hml, hown, hts⟩ (kX5_in l dC dI x2 0 7) (cwS 3 hts (gS wd_239 wd_240 wd_241 wcX5_in) rfl rfl rfl (by decide +kernel) ⟨(Nat.le_of_ble_eq_true rfl), (Nat.le_of_ble_eq_true rfl)⟩) ⟨fun a U g mk q => by obtain ⟨q0, qT⟩ := q; exact ⟨q0, qT⟩, fun U hU hW => ⟨rfl, trivial⟩⟩ rfl rfl hl.1 rfl (lv_room (Nat.le_of_ble_eq_true rfl)) dX5_ship_17 ⟨(Nat.le_of_ble_eq_true rfl), (Nat.le_of_ble_eq_true rfl)⟩) (fun r_6 hw => ?_)
    subst hw
    refine lv_if_eq (tgt := 33) hx hb dX5_ship_20 (by decide) (fun c_7 => ?_) (fun c_7 => ?_)
    · skip
      have t_8 : (fX5_in x2 0 7).toInt = 0 := i_eq c_7 rfl (by decide)
      refine lv_iconst (v := 2) hx hb dX5_ship_33 (by decide) ?_
      refine lv_goto (tgt := 38) hx hb dX5_ship_34 (by decide) ?_
      refine va_put (D := (dC, dI)) (C := RX5) (T := TX5) (N := 26) (v := .int 2) (ty := .int) hx hb hts (fi_X5 _) tyX5 tyX5_ok nmX5 hown hK hP hD hS 0 (mw_at0 _ _ _) rfl 0 (by decide) (hts _ (List.mem_cons_of_mem _ wd_237)) (fun _ h9 => h9) rfl (by decide +kernel) rfl rfl (Nat.le_of_ble_eq_true rfl) dX5_ship_38 (fun H locs hP hD hS => ?_)
      have hP : va_P (dC, dI) vwCl (mw g h (s_mcode u 2)) H := hP
      have hD : va_D A (mw g h (s_mcode u 2)) := hD
      refine lv_aload_n hx hb dX5_ship_41 rfl (lv_at hl 0 rfl) ?_
      refine va_get (D := (dC, dI)) (C := RX5) (T := TX5) (N := 26) (v := .int 2) hx hb hts (fi_X5 _) hown hK hP 0 (mw_at0 _ _ _) rfl 0 (by decide) (hts _ (List.mem_cons_of_mem _ wd_237)) (fun _ h9 => h9) rfl dX5_ship_42 ?_
      refine lv_if_ne (tgt := 94) hx hb dX5_ship_45 (by decide) (fun c_9 => ?_) (fun c_9 => ?_)
      · skip
        refine lv_aload_n hx hb dX5_ship_94 rfl (lv_at hl 0 rfl) ?_
        refine va_get (D := (dC, dI)) (C := RX5) (T := TX5) (N := 26) (v := .int 2) hx hb hts (fi_X5 _) hown hK hP 0 (mw_at0 _ _ _) rfl 0 (by decide) (hts _ (List.mem_cons_of_mem _ wd_237)) (fun _ h9 => h9) rfl dX5_ship_95 ?_
        refine lv_if_le (tgt := 102) hx hb dX5_ship_98 (by decide) (fun c_10 => ?_) (fun c_10 => ?_)
        · skip
          exact absurd c_10 (by decide)
        · skip
          exact W.vret hx hb hr (fun t ht hW => ⟨⟨(s_mcode u 2), rfl, (by unfold fX5_ship; rw [if_neg c_2, if_pos c_7]), by rw [ht]; exact hP, hD⟩, hS.F ht⟩) hS.2.2 dX5_ship_101
      · skip
        exact absurd c_9 (by decide)
    · skip
      have t_11 : (fX5_in x2 0 7).toInt ≠ 0 := i_ne c_7 rfl (by decide)
      have t_12 := in_lo c_7
      have t_13 := in_hi c_7
      refine lv_iload_n hx hb dX5_ship_23 rfl (lv_at hl 3 rfl) ?_
      refine lv_iconst (v := 0) hx hb dX5_ship_24 (by decide) ?_
      refine lv_ldc (v := 36524) hx hb hown (hts _ (List.mem_cons_of_mem _ wd_278)) dX5_ship_25 ?_
      refine vp_callSi (W.runS (As := [.int x3, .int 0, .int 36524]) (rest := [.ref (h 0)]) ⟨hx, hb, hml, hown, hts⟩ (kX5_in l dC dI x3 0 36524) (cwS 3 hts (gS wd_239 wd_240 wd_241 wcX5_in) rfl rfl rfl (by decide +kernel) ⟨(Nat.le_of_ble_eq_true rfl), (Nat.le_of_ble_eq_true rfl)⟩) ⟨fun a U g mk q => by obtain ⟨q0, qT⟩ := q; exact ⟨q0, qT⟩, fun U hU hW => ⟨rfl, trivial⟩⟩ rfl rfl hl.1 rfl (lv_room (Nat.le_of_ble_eq_true rfl)) dX5_ship_27 ⟨(Nat.le_of_ble_eq_true rfl), (Nat.le_of_ble_eq_true rfl)⟩) (fun r_14 hw => ?_)
      subst hw
      refine lv_if_ne (tgt := 37) hx hb dX5_ship_30 (by decide) (fun c_15 => ?_) (fun c_15 => ?_)
      · skip
        have t_16 : (fX5_in x3 0 36524).toInt ≠ 0 := i_ne c_15 rfl (by decide)
        have t_17 := in_lo c_15
        have t_18 := in_hi c_15
        refine lv_iconst (v := 0) hx hb dX5_ship_37 (by decide) ?_
        refine va_put (D := (dC, dI)) (C := RX5) (T := TX5) (N := 26) (v := .int 0) (ty := .int) hx hb hts (fi_X5 _) tyX5 tyX5_ok nmX5 hown hK hP hD hS 0 (mw_at0 _ _ _) rfl 0 (by decide) (hts _ (List.mem_cons_of_mem _ wd_237)) (fun _ h9 => h9) rfl (by decide +kernel) rfl rfl (Nat.le_of_ble_eq_true rfl) dX5_ship_38 (fun H locs hP hD hS => ?_)
        have hP : va_P (dC, dI) vwCl (mw g h (s_mcode u 0)) H := hP
        have hD : va_D A (mw g h (s_mcode u 0)) := hD
        refine lv_aload_n hx hb dX5_ship_41 rfl (lv_at hl 0 rfl) ?_
        refine va_get (D := (dC, dI)) (C := RX5) (T := TX5) (N := 26) (v := .int 0) hx hb hts (fi_X5 _) hown hK hP 0 (mw_at0 _ _ _) rfl 0 (by decide) (hts _ (List.mem_cons_of_mem _ wd_237)) (fun _ h9 => h9) rfl dX5_ship_42 ?_
        refine lv_if_ne (tgt := 94) hx hb dX5_ship_45 (by decide) (fun c_19 => ?_) (fun c_19 => ?_)
        · skip
          exact absurd (by decide) c_19
        · skip
          refine lv_aload_n hx hb dX5_ship_48 rfl (lv_at hl 0 rfl) ?_
          refine lv_aload_n hx hb dX5_ship_49 rfl (lv_at hl 0 rfl) ?_
          refine lv_iload_n hx hb dX5_ship_50 rfl (lv_at hl 1 rfl) ?_
          refine vp_callSi (W.runV (As := [.int x1]) (rest := [.ref (h 0)]) ⟨hx, hb, hml, hown, hts⟩ (kX5_isGone l dC dI g h (s_mcode u 0) x1 (by omega)) (cwV 1 hts (gV wd_308 wd_309 wd_310 wd_241 wcX5_isGone) rfl rfl rfl (by decide +kernel) ⟨(Nat.le_of_ble_eq_true rfl), (Nat.le_of_ble_eq_true rfl)⟩) ⟨fun a U g mk q => by obtain ⟨q0, qP, qK⟩ := q; exact ⟨q0, qP, va_K.moved (u := U) (U := U.calling g mk a) (Vm.Alike.refl U.vm) qK⟩, va_recv hK hP (ci := 4) (q0 := 0) rfl (mw_at0 _ _ _), fun U hU hW => ⟨rfl, by rw [hU]; exact hP, va_K.moved hW.alike hK⟩⟩ rfl rfl hl.1 rfl (lv_room (Nat.le_of_ble_eq_true rfl)) dX5_ship_51 ⟨(Nat.le_of_ble_eq_true rfl), (Nat.le_of_ble_eq_true rfl)⟩) (fun r_20 hw => ?_)
          subst hw
          refine lv_if_ne (tgt := 72) hx hb dX5_ship_54 (by decide) (fun c_21 => ?_) (fun c_21 => ?_)
          · skip
            have t_22 : (fX5_isGone (s_mcode u 0) x1).toInt ≠ 0 := i_ne c_21 rfl (by decide)
            refine lv_iconst (v := 3) hx hb dX5_ship_72 (by decide) ?_
            refine lv_goto (tgt := 91) hx hb dX5_ship_73 (by decide) ?_
            refine va_put (D := (dC, dI)) (C := RX5) (T := TX5) (N := 26) (v := .int 3) (ty := .int) hx hb hts (fi_X5 _) tyX5 tyX5_ok nmX5 hown hK hP hD hS 0 (mw_at0 _ _ _) rfl 0 (by decide) (hts _ (List.mem_cons_of_mem _ wd_237)) (fun _ h9 => h9) rfl (by decide +kernel) rfl rfl (Nat.le_of_ble_eq_true rfl) dX5_ship_91 (fun H locs hP hD hS => ?_)
            have hP : va_P (dC, dI) vwCl (mw g h (s_mcode u 3)) H := hP
            have hD : va_D A (mw g h (s_mcode u 3)) := hD
            refine lv_aload_n hx hb dX5_ship_94 rfl (lv_at hl 0 rfl) ?_
            refine va_get (D := (dC, dI)) (C := RX5) (T := TX5) (N := 26) (v := .int 3) hx hb hts (fi_X5 _) hown hK hP 0 (mw_at0 _ _ _) rfl 0 (by decide) (hts _ (List.mem_cons_of_mem _ wd_237)) (fun _ h9 => h9) rfl dX5_ship_95 ?_
            refine lv_if_le (tgt := 102) hx hb dX5_ship_98 (by decide) (fun c_23 => ?_) (fun c_23 => ?_)
            · skip
              exact absurd c_23 (by decide)
            · skip
              exact W.vret hx hb hr (fun t ht hW => ⟨⟨(s_mcode u 3), rfl, (by unfold fX5_ship; rw [if_neg c_2, if_neg c_7, if_neg c_15, if_neg c_21]), by rw [ht]; exact hP, hD⟩, hS.F ht⟩) hS.2.2 dX5_ship_101
          · skip
            have t_24 : (fX5_isGone (s_mcode u 0) x1).toInt = 0 := i_eq c_21 rfl (by decide)
            refine lv_aload_n hx hb dX5_ship_57 rfl (lv_at hl 0 rfl) ?_
            refine lv_aload_n hx hb dX5_ship_58 rfl (lv_at hl 0 rfl) ?_
            refine va_get (D := (dC, dI)) (C := RX5) (T := TX5) (N := 26) (v := .ref (h 13)) hx hb hts (fi_X5 _) hown hK hP 0 (mw_at0 _ _ _) rfl 15 (by decide) (hts _ (List.mem_cons_of_mem _ wd_299)) (fun _ h9 => h9) rfl dX5_ship_59 ?_
            refine lv_iload_n hx hb dX5_ship_62 rfl (lv_at hl 1 rfl) ?_
            refine va_iald (f := k_mlotOf u) hx hb hK hP 13 0 (mw_at13 _ _ _) rfl (vp_in_iff.mpr (by omega)) dX5_ship_63 ?_
            refine lv_iload_n hx hb dX5_ship_64 rfl (lv_at hl 2 rfl) ?_
            refine lv_iload_n hx hb dX5_ship_65 rfl (lv_at hl 3 rfl) ?_
            refine vp_callSi (W.runV (As := [.int (k_mlotOf u x1.toNatClampNeg), .int x2, .int x3]) (rest := [.ref (h 0)]) ⟨hx, hb, hml, hown, hts⟩ (kX5_isAllowed l dC dI g h (s_mcode u 0) (k_mlotOf u x1.toNatClampNeg) x2 x3 (hI5 _) (by omega)) (cwV 3 hts (gV wd_295 wd_296 wd_297 wd_241 wcX5_isAllowed) rfl rfl rfl (by decide +kernel) ⟨(Nat.le_of_ble_eq_true rfl), (Nat.le_of_ble_eq_true rfl)⟩) ⟨fun a U g mk q => by obtain ⟨q0, qP, qK⟩ := q; exact ⟨q0, qP, va_K.moved (u := U) (U := U.calling g mk a) (Vm.Alike.refl U.vm) qK⟩, va_recv hK hP (ci := 4) (q0 := 0) rfl (mw_at0 _ _ _), fun U hU hW => ⟨rfl, by rw [hU]; exact hP, va_K.moved hW.alike hK⟩⟩ rfl rfl hl.1 rfl (lv_room (Nat.le_of_ble_eq_true rfl)) dX5_ship_66 ⟨(Nat.le_of_ble_eq_true rfl), (Nat.le_of_ble_eq_true rfl)⟩) (fun r_25 hw => ?_)
            subst hw
            refine lv_if_ne (tgt := 76) hx hb dX5_ship_69 (by decide) (fun c_26 => ?_) (fun c_26 => ?_)
            · skip
              have t_27 : (fX5_isAllowed (s_mcode u 0) (k_mlotOf u x1.toNatClampNeg) x2 x3).toInt ≠ 0 := i_ne c_26 rfl (by decide)
              refine lv_aload_n hx hb dX5_ship_76 rfl (lv_at hl 0 rfl) ?_
              refine va_get (D := (dC, dI)) (C := RX5) (T := TX5) (N := 26) (v := .int (k_mrows u)) hx hb hts (fi_X5 _) hown hK hP 0 (mw_at0 _ _ _) rfl 20 (by decide) (hts _ (List.mem_cons_of_mem _ wd_273)) (fun _ h9 => h9) rfl dX5_ship_77 ?_
              refine lv_sipush (v := 400) hx hb dX5_ship_80 (by decide) ?_
              refine lv_icmp_ne (tgt := 90) hx hb dX5_ship_83 (by decide) (fun c_28 => ?_) (fun c_28 => ?_)
              · skip
                have t_29 : (k_mrows u).toInt ≠ 400 := i_ne c_28 rfl (by decide)
                refine lv_iconst (v := 0) hx hb dX5_ship_90 (by decide) ?_
                refine va_put (D := (dC, dI)) (C := RX5) (T := TX5) (N := 26) (v := .int 0) (ty := .int) hx hb hts (fi_X5 _) tyX5 tyX5_ok nmX5 hown hK hP hD hS 0 (mw_at0 _ _ _) rfl 0 (by decide) (hts _ (List.mem_cons_of_mem _ wd_237)) (fun _ h9 => h9) rfl (by decide +kernel) rfl rfl (Nat.le_of_ble_eq_true rfl) dX5_ship_91 (fun H locs hP hD hS => ?_)
                have hP : va_P (dC, dI) vwCl (mw g h (s_mcode u 0)) H := hP
                have hD : va_D A (mw g h (s_mcode u 0)) := hD
                refine lv_aload_n hx hb dX5_ship_94 rfl (lv_at hl 0 rfl) ?_
                refine va_get (D := (dC, dI)) (C := RX5) (T := TX5) (N := 26) (v := .int 0) hx hb hts (fi_X5 _) hown hK hP 0 (mw_at0 _ _ _) rfl 0 (by decide) (hts _ (List.mem_cons_of_mem _ wd_237)) (fun _ h9 => h9) rfl dX5_ship_95 ?_
                refine lv_if_le (tgt := 102) hx hb dX5_ship_98 (by decide) (fun c_30 => ?_) (fun c_30 => ?_)
                · skip
                  refine lv_aload_n hx hb dX5_ship_102 rfl (lv_at hl 0 rfl) ?_
                  refine va_get (D := (dC, dI)) (C := RX5) (T := TX5) (N := 26) (v := .ref (h 14)) hx hb hts (fi_X5 _) hown hK hP 0 (mw_at0 _ _ _) rfl 16 (by decide) (hts _ (List.mem_cons_of_mem _ wd_300)) (fun _ h9 => h9) rfl dX5_ship_103 ?_
                  refine lv_iload_n hx hb dX5_ship_106 rfl (lv_at hl 1 rfl) ?_
                  refine lv_iconst (v := (-1)) hx hb dX5_ship_107 (by decide) ?_
                  refine va_iast (f := k_mbin u) hx hb hK hP hD hS 14 0 (mw_at14 _ _ _) rfl (vp_in_iff.mpr (by omega)) dX5_ship_108 (fun H locs hP hD hS => ?_)
                  have hP : va_P (dC, dI) vwCl (mw g h (s_mbin (s_mcode u 0) (upd (k_mbin u) x1.toNatClampNeg (-1)))) H := hP
                  have hD : va_D A (mw g h (s_mbin (s_mcode u 0) (upd (k_mbin u) x1.toNatClampNeg (-1)))) := hD
                  refine lv_aload_n hx hb dX5_ship_109 rfl (lv_at hl 0 rfl) ?_
                  refine va_get (D := (dC, dI)) (C := RX5) (T := TX5) (N := 26) (v := .ref (h 15)) hx hb hts (fi_X5 _) hown hK hP 0 (mw_at0 _ _ _) rfl 17 (by decide) (hts _ (List.mem_cons_of_mem _ wd_245)) (fun _ h9 => h9) rfl dX5_ship_110 ?_
                  refine lv_iload_n hx hb dX5_ship_113 rfl (lv_at hl 1 rfl) ?_
                  refine lv_iload_n hx hb dX5_ship_114 rfl (lv_at hl 2 rfl) ?_
                  refine va_iast (f := k_mcust u) hx hb hK hP hD hS 15 0 (mw_at15 _ _ _) rfl (vp_in_iff.mpr (by omega)) dX5_ship_115 (fun H locs hP hD hS => ?_)
                  have hP : va_P (dC, dI) vwCl (mw g h (s_mcust (s_mbin (s_mcode u 0) (upd (k_mbin u) x1.toNatClampNeg (-1))) (upd (k_mcust u) x1.toNatClampNeg x2))) H := hP
                  have hD : va_D A (mw g h (s_mcust (s_mbin (s_mcode u 0) (upd (k_mbin u) x1.toNatClampNeg (-1))) (upd (k_mcust u) x1.toNatClampNeg x2))) := hD
                  refine lv_aload_n hx hb dX5_ship_116 rfl (lv_at hl 0 rfl) ?_
                  refine va_get (D := (dC, dI)) (C := RX5) (T := TX5) (N := 26) (v := .ref (h 16)) hx hb hts (fi_X5 _) hown hK hP 0 (mw_at0 _ _ _) rfl 18 (by decide) (hts _ (List.mem_cons_of_mem _ wd_301)) (fun _ h9 => h9) rfl dX5_ship_117 ?_
                  refine lv_iload_n hx hb dX5_ship_120 rfl (lv_at hl 1 rfl) ?_
                  refine lv_iload_n hx hb dX5_ship_121 rfl (lv_at hl 3 rfl) ?_
                  refine va_iast (f := k_mwhen u) hx hb hK hP hD hS 16 0 (mw_at16 _ _ _) rfl (vp_in_iff.mpr (by omega)) dX5_ship_122 (fun H locs hP hD hS => ?_)
                  have hP : va_P (dC, dI) vwCl (mw g h (s_mwhen (s_mcust (s_mbin (s_mcode u 0) (upd (k_mbin u) x1.toNatClampNeg (-1))) (upd (k_mcust u) x1.toNatClampNeg x2)) (upd (k_mwhen u) x1.toNatClampNeg x3))) H := hP
                  have hD : va_D A (mw g h (s_mwhen (s_mcust (s_mbin (s_mcode u 0) (upd (k_mbin u) x1.toNatClampNeg (-1))) (upd (k_mcust u) x1.toNatClampNeg x2)) (upd (k_mwhen u) x1.toNatClampNeg x3))) := hD
                  refine lv_aload_n hx hb dX5_ship_123 rfl (lv_at hl 0 rfl) ?_
                  refine lv_aload_n hx hb dX5_ship_124 rfl (lv_at hl 0 rfl) ?_
                  refine va_get (D := (dC, dI)) (C := RX5) (T := TX5) (N := 26) (v := .ref (h 13)) hx hb hts (fi_X5 _) hown hK hP 0 (mw_at0 _ _ _) rfl 15 (by decide) (hts _ (List.mem_cons_of_mem _ wd_299)) (fun _ h9 => h9) rfl dX5_ship_125 ?_
                  refine lv_iload_n hx hb dX5_ship_128 rfl (lv_at hl 1 rfl) ?_
                  refine va_iald (f := k_mlotOf u) hx hb hK hP 13 0 (mw_at13 _ _ _) rfl (vp_in_iff.mpr (by omega)) dX5_ship_129 ?_
                  refine lv_bipush (v := 11) hx hb dX5_ship_130 (by decide) ?_
                  refine lv_iload_n hx hb dX5_ship_132 rfl (lv_at hl 1 rfl) ?_
                  have hFc := va_free (wc := mw g h (s_mwhen (s_mcust (s_mbin (s_mcode u 0) (upd (k_mbin u) x1.toNatClampNeg (-1))) (upd (k_mcust u) x1.toNatClampNeg x2)) (upd (k_mwhen u) x1.toNatClampNeg x3))) hD hS hA [0, 1, 2, 3, 4, 5, 6, 7, 8, 9, 10, 11, 12, 13, 14, 15, 16, 17, 18, 19, 20, 21, 22] rfl
                  refine va_callv (va_runV (As := [.int (k_mlotOf u x1.toNatClampNeg), .int 11, .int x1]) (rest := []) ⟨hx, hb, hml, hown, hts⟩ (kX5_row l dC dI g h (s_mwhen (s_mcust (s_mbin (s_mcode u 0) (upd (k_mbin u) x1.toNatClampNeg (-1))) (upd (k_mcust u) x1.toNatClampNeg x2)) (upd (k_mwhen u) x1.toNatClampNeg x3)) _ (k_mlotOf u x1.toNatClampNeg) 11 x1 (by show 0 ≤ (k_mrows u).toInt ∧ (k_mrows u).toInt < 400; omega)) (cwV 3 hts (gV wd_283 wd_284 wd_285 wd_241 wcX5_row) rfl rfl rfl (by decide +kernel) ⟨(Nat.le_of_ble_eq_true rfl), (Nat.le_of_ble_eq_true rfl)⟩) ⟨fun a U g mk q => by obtain ⟨q0, q1, qP, qK, qD⟩ := q; exact ⟨q0, q1, qP, va_K.moved (u := U) (U := U.calling g mk a) (Vm.Alike.refl U.vm) qK, qD⟩, va_recv hK hP (ci := 4) (q0 := 0) rfl (mw_at0 _ _ _), fun U hU hW => ⟨rfl, by rw [hU], by rw [hU]; exact hP, va_K.moved hW.alike hK, hD.weaken (fun _ _ _ _ => trivial)⟩⟩ rfl rfl hl.1 rfl (lv_room (Nat.le_of_ble_eq_true rfl)) dX5_ship_133 ⟨(Nat.le_of_ble_eq_true rfl), (Nat.le_of_ble_eq_true rfl)⟩) hS (fun q _ h => hFc q h) hFc (fun u_31 t H locs ht hvm hw hB hz1 hk1 hS => ?_)
                  obtain ⟨hP, hD⟩ := hB
                  rw [ht] at hP
                  have hD := hD.weaken (fun _ _ _ h => hFc _ h)
                  have e_33 : u_31 = fX5_row (s_mwhen (s_mcust (s_mbin (s_mcode u 0) (upd (k_mbin u) x1.toNatClampNeg (-1))) (upd (k_mcust u) x1.toNatClampNeg x2)) (upd (k_mwhen u) x1.toNatClampNeg x3)) (k_mlotOf u x1.toNatClampNeg) 11 x1 := hw
                  clear hw
                  exact W.vret hx hb hr (fun t ht hW => ⟨⟨u_31, rfl, (by subst e_33; unfold fX5_ship; rw [if_neg c_2, if_neg c_7, if_neg c_15, if_pos c_21, if_neg c_26, if_neg c_28]), by rw [ht]; exact hP, hD⟩, hS.F ht⟩) hS.2.2 dX5_ship_136
                · skip
                  exact absurd (by decide) c_30
              · skip
                have t_34 : (k_mrows u).toInt = 400 := i_eq c_28 rfl (by decide)
                refine lv_iconst (v := 4) hx hb dX5_ship_86 (by decide) ?_
                refine lv_goto (tgt := 91) hx hb dX5_ship_87 (by decide) ?_
                refine va_put (D := (dC, dI)) (C := RX5) (T := TX5) (N := 26) (v := .int 4) (ty := .int) hx hb hts (fi_X5 _) tyX5 tyX5_ok nmX5 hown hK hP hD hS 0 (mw_at0 _ _ _) rfl 0 (by decide) (hts _ (List.mem_cons_of_mem _ wd_237)) (fun _ h9 => h9) rfl (by decide +kernel) rfl rfl (Nat.le_of_ble_eq_true rfl) dX5_ship_91 (fun H locs hP hD hS => ?_)
                have hP : va_P (dC, dI) vwCl (mw g h (s_mcode u 4)) H := hP
                have hD : va_D A (mw g h (s_mcode u 4)) := hD
                refine lv_aload_n hx hb dX5_ship_94 rfl (lv_at hl 0 rfl) ?_
                refine va_get (D := (dC, dI)) (C := RX5) (T := TX5) (N := 26) (v := .int 4) hx hb hts (fi_X5 _) hown hK hP 0 (mw_at0 _ _ _) rfl 0 (by decide) (hts _ (List.mem_cons_of_mem _ wd_237)) (fun _ h9 => h9) rfl dX5_ship_95 ?_
                refine lv_if_le (tgt := 102) hx hb dX5_ship_98 (by decide) (fun c_35 => ?_) (fun c_35 => ?_)
                · skip
                  exact absurd c_35 (by decide)
                · skip
                  exact W.vret hx hb hr (fun t ht hW => ⟨⟨(s_mcode u 4), rfl, (by unfold fX5_ship; rw [if_neg c_2, if_neg c_7, if_neg c_15, if_pos c_21, if_neg c_26, if_pos c_28]), by rw [ht]; exact hP, hD⟩, hS.F ht⟩) hS.2.2 dX5_ship_101
            · skip
              have t_36 : (fX5_isAllowed (s_mcode u 0) (k_mlotOf u x1.toNatClampNeg) x2 x3).toInt = 0 := i_eq c_26 rfl (by decide)
              refine lv_iconst (v := 3) hx hb dX5_ship_72 (by decide) ?_
              refine lv_goto (tgt := 91) hx hb dX5_ship_73 (by decide) ?_
              refine va_put (D := (dC, dI)) (C := RX5) (T := TX5) (N := 26) (v := .int 3) (ty := .int) hx hb hts (fi_X5 _) tyX5 tyX5_ok nmX5 hown hK hP hD hS 0 (mw_at0 _ _ _) rfl 0 (by decide) (hts _ (List.mem_cons_of_mem _ wd_237)) (fun _ h9 => h9) rfl (by decide +kernel) rfl rfl (Nat.le_of_ble_eq_true rfl) dX5_ship_91 (fun H locs hP hD hS => ?_)
              have hP : va_P (dC, dI) vwCl (mw g h (s_mcode u 3)) H := hP
              have hD : va_D A (mw g h (s_mcode u 3)) := hD
              refine lv_aload_n hx hb dX5_ship_94 rfl (lv_at hl 0 rfl) ?_
              refine va_get (D := (dC, dI)) (C := RX5) (T := TX5) (N := 26) (v := .int 3) hx hb hts (fi_X5 _) hown hK hP 0 (mw_at0 _ _ _) rfl 0 (by decide) (hts _ (List.mem_cons_of_mem _ wd_237)) (fun _ h9 => h9) rfl dX5_ship_95 ?_
              refine lv_if_le (tgt := 102) hx hb dX5_ship_98 (by decide) (fun c_37 => ?_) (fun c_37 => ?_)
              · skip
                exact absurd c_37 (by decide)
              · skip
                exact W.vret hx hb hr (fun t ht hW => ⟨⟨(s_mcode u 3), rfl, (by unfold fX5_ship; rw [if_neg c_2, if_neg c_7, if_neg c_15, if_pos c_21, if_pos c_26]), by rw [ht]; exact hP, hD⟩, hS.F ht⟩) hS.2.2 dX5_ship_101
      · skip
        have t_38 : (fX5_in x3 0 36524).toInt = 0 := i_eq c_15 rfl (by decide)
        refine lv_iconst (v := 2) hx hb dX5_ship_33 (by decide) ?_
        refine lv_goto (tgt := 38) hx hb dX5_ship_34 (by decide) ?_
        refine va_put (D := (dC, dI)) (C := RX5) (T := TX5) (N := 26) (v := .int 2) (ty := .int) hx hb hts (fi_X5 _) tyX5 tyX5_ok nmX5 hown hK hP hD hS 0 (mw_at0 _ _ _) rfl 0 (by decide) (hts _ (List.mem_cons_of_mem _ wd_237)) (fun _ h9 => h9) rfl (by decide +kernel) rfl rfl (Nat.le_of_ble_eq_true rfl) dX5_ship_38 (fun H locs hP hD hS => ?_)
        have hP : va_P (dC, dI) vwCl (mw g h (s_mcode u 2)) H := hP
        have hD : va_D A (mw g h (s_mcode u 2)) := hD
        refine lv_aload_n hx hb dX5_ship_41 rfl (lv_at hl 0 rfl) ?_
        refine va_get (D := (dC, dI)) (C := RX5) (T := TX5) (N := 26) (v := .int 2) hx hb hts (fi_X5 _) hown hK hP 0 (mw_at0 _ _ _) rfl 0 (by decide) (hts _ (List.mem_cons_of_mem _ wd_237)) (fun _ h9 => h9) rfl dX5_ship_42 ?_
        refine lv_if_ne (tgt := 94) hx hb dX5_ship_45 (by decide) (fun c_39 => ?_) (fun c_39 => ?_)
        · skip
          refine lv_aload_n hx hb dX5_ship_94 rfl (lv_at hl 0 rfl) ?_
          refine va_get (D := (dC, dI)) (C := RX5) (T := TX5) (N := 26) (v := .int 2) hx hb hts (fi_X5 _) hown hK hP 0 (mw_at0 _ _ _) rfl 0 (by decide) (hts _ (List.mem_cons_of_mem _ wd_237)) (fun _ h9 => h9) rfl dX5_ship_95 ?_
          refine lv_if_le (tgt := 102) hx hb dX5_ship_98 (by decide) (fun c_40 => ?_) (fun c_40 => ?_)
          · skip
            exact absurd c_40 (by decide)
          · skip
            exact W.vret hx hb hr (fun t ht hW => ⟨⟨(s_mcode u 2), rfl, (by unfold fX5_ship; rw [if_neg c_2, if_neg c_7, if_pos c_15]), by rw [ht]; exact hP, hD⟩, hS.F ht⟩) hS.2.2 dX5_ship_101
        · skip
          exact absurd c_39 (by decide)
  · skip
    have t_41 : (fX5_isUnit u x1).toInt = 0 := i_eq c_2 rfl (by decide)
    refine lv_iconst (v := 1) hx hb dX5_ship_9 (by decide) ?_
    refine lv_goto (tgt := 38) hx hb dX5_ship_10 (by decide) ?_
    refine va_put (D := (dC, dI)) (C := RX5) (T := TX5) (N := 26) (v := .int 1) (ty := .int) hx hb hts (fi_X5 _) tyX5 tyX5_ok nmX5 hown hK hP hD hS 0 (mw_at0 _ _ _) rfl 0 (by decide) (hts _ (List.mem_cons_of_mem _ wd_237)) (fun _ h9 => h9) rfl (by decide +kernel) rfl rfl (Nat.le_of_ble_eq_true rfl) dX5_ship_38 (fun H locs hP hD hS => ?_)
    have hP : va_P (dC, dI) vwCl (mw g h (s_mcode u 1)) H := hP
    have hD : va_D A (mw g h (s_mcode u 1)) := hD
    refine lv_aload_n hx hb dX5_ship_41 rfl (lv_at hl 0 rfl) ?_
    refine va_get (D := (dC, dI)) (C := RX5) (T := TX5) (N := 26) (v := .int 1) hx hb hts (fi_X5 _) hown hK hP 0 (mw_at0 _ _ _) rfl 0 (by decide) (hts _ (List.mem_cons_of_mem _ wd_237)) (fun _ h9 => h9) rfl dX5_ship_42 ?_
    refine lv_if_ne (tgt := 94) hx hb dX5_ship_45 (by decide) (fun c_42 => ?_) (fun c_42 => ?_)
    · skip
      refine lv_aload_n hx hb dX5_ship_94 rfl (lv_at hl 0 rfl) ?_
      refine va_get (D := (dC, dI)) (C := RX5) (T := TX5) (N := 26) (v := .int 1) hx hb hts (fi_X5 _) hown hK hP 0 (mw_at0 _ _ _) rfl 0 (by decide) (hts _ (List.mem_cons_of_mem _ wd_237)) (fun _ h9 => h9) rfl dX5_ship_95 ?_
      refine lv_if_le (tgt := 102) hx hb dX5_ship_98 (by decide) (fun c_43 => ?_) (fun c_43 => ?_)
      · skip
        exact absurd c_43 (by decide)
      · skip
        exact W.vret hx hb hr (fun t ht hW => ⟨⟨(s_mcode u 1), rfl, (by unfold fX5_ship; rw [if_pos c_2]), by rw [ht]; exact hP, hD⟩, hS.F ht⟩) hS.2.2 dX5_ship_101
    · skip
      exact absurd c_42 (by decide)
set_option maxHeartbeats 4000000 in
set_option maxRecDepth 100000 in
theorem kX5_where (l : Launch) (dC : Nat → ClassId) (dI : Nat → Nat → Nat) (g : cG) (h : Nat → Nat) (u : mS) (sz : Nat) (x1 : Int32) (x2 : Int32) (hI : mInv u) : Met l yX5_where wsX5_where ({ frames := 2, cells := 0, slots := 0, locals := 43 }) (va_Pc [.ref (h 0), .int x1, .int x2] (fun U => U.heap.size = sz ∧ va_P (dC, dI) vwCl (mw g h u) U.heap ∧ va_K (dC, dI) vwCl (cTys g) U ∧ va_D (fun _ => True) (mw g h u))) (va_Qi (fun (r : Int32) u2 => (r, u2) = fX5_where u x1 x2) (fun (u2 : mS) (t : State) => va_P (dC, dI) vwCl (mw g h u2) t.heap ∧ va_D (va_A (mw g h u) sz) (mw g h u2)) (va_A (mw g h u) sz)) 0 0 (va_A (mw g h u) sz) := by
  refine Met.ofW (cc := cX5_where) (maxL := 3) (ret := (some .int)) (by decide) rfl ?_
  intro p e s m args below meth c s₁ B hml hv
  obtain ⟨rfl, hsz, hP, hK, hD0⟩ := hv
  have hx := B.exec
  have hb := B.bytes
  have hr := B.returns
  have hts := atoms_spec (ws := wsX5_where) B.pre
  have hown : s.vm.findClass RX5 = some m.cls := findClass_of_methodNamed B.named
  have hlocks := B.notSynchronized
  subst hsz
  have hD := hD0.self (sz := s.heap.size)
  generalize hAe : va_A (mw g h u) s.heap.size = A at hD ⊢
  have hA : ∀ q : Nat, s.heap.size ≤ q → A q := fun q h => by rw [← hAe]; exact Or.inr h
  have hS : va_S A s.heap s.heap [] := va_S.rf
  have hl := lv_entry ([.ref (h 0), .int x1, .int x2]) (n := 3) (Nat.le_of_ble_eq_true rfl)
  rw [lg_entry_eq]
  generalize (lg_sl ([.ref (h 0), .int x1, .int x2]) ++ List.replicate (3 - (lg_sl ([.ref (h 0), .int x1, .int x2])).length) Slot.unset).toArray = ls at hl ⊢
  have hl : lv_has ls 3 [(0, .ref (h 0)), (1, .int x1), (2, .int x2)] := hl
  obtain ⟨hI1, hI2, hI3, hI4, hI5, hI6, hI7⟩ := id hI
  have z_0 : (0 : Int32).toInt = 0 := by decide
  have z_1 : (3 : Int32).toInt = 3 := by decide
  refine lv_aload_n hx hb dX5_where_0 rfl (lv_at hl 0 rfl) ?_
  refine lv_aload_n hx hb dX5_where_1 rfl (lv_at hl 0 rfl) ?_
  refine lv_iload_n hx hb dX5_where_2 rfl (lv_at hl 1 rfl) ?_
  refine vp_callSi (W.runV (As := [.int x1]) (rest := [.ref (h 0)]) ⟨hx, hb, hml, hown, hts⟩ (kX5_isUnit l dC dI g h u x1) (cwV 1 hts (gV wd_304 wd_305 wd_306 wd_241 wcX5_isUnit) rfl rfl rfl (by decide +kernel) ⟨(Nat.le_of_ble_eq_true rfl), (Nat.le_of_ble_eq_true rfl)⟩) ⟨fun a U g mk q => by obtain ⟨q0, qP, qK⟩ := q; exact ⟨q0, qP, va_K.moved (u := U) (U := U.calling g mk a) (Vm.Alike.refl U.vm) qK⟩, va_recv hK hP (ci := 4) (q0 := 0) rfl (mw_at0 _ _ _), fun U hU hW => ⟨rfl, by rw [hU]; exact hP, va_K.moved hW.alike hK⟩⟩ rfl rfl hl.1 rfl (lv_room (Nat.le_of_ble_eq_true rfl)) dX5_where_3 ⟨(Nat.le_of_ble_eq_true rfl), (Nat.le_of_ble_eq_true rfl)⟩) (fun r_1 hw => ?_)
  subst hw
  refine lv_if_ne (tgt := 13) hx hb dX5_where_6 (by decide) (fun c_2 => ?_) (fun c_2 => ?_)
  · skip
    have t_3 : (fX5_isUnit u x1).toInt ≠ 0 := i_ne c_2 rfl (by decide)
    have t_4 := iu_lo c_2
    have t_5 := iu_hi c_2
    refine lv_iload_n hx hb dX5_where_13 rfl (lv_at hl 2 rfl) ?_
    refine lv_iconst (v := 0) hx hb dX5_where_14 (by decide) ?_
    refine lv_iconst (v := 3) hx hb dX5_where_15 (by decide) ?_
    refine vp_callSi (W.runS (As := [.int x2, .int 0, .int 3]) (rest := [.ref (h 0)]) ⟨hx, hb, hml, hown, hts⟩ (kX5_in l dC dI x2 0 3) (cwS 3 hts (gS wd_239 wd_240 wd_241 wcX5_in) rfl rfl rfl (by decide +kernel) ⟨(Nat.le_of_ble_eq_true rfl), (Nat.le_of_ble_eq_true rfl)⟩) ⟨fun a U g mk q => by obtain ⟨q0, qT⟩ := q; exact ⟨q0, qT⟩, fun U hU hW => ⟨rfl, trivial⟩⟩ rfl rfl hl.1 rfl (lv_room (Nat.le_of_ble_eq_true rfl)) dX5_where_16 ⟨(Nat.le_of_ble_eq_true rfl), (Nat.le_of_ble_eq_true rfl)⟩) (fun r_6 hw => ?_)
    subst hw
    refine lv_if_ne (tgt := 26) hx hb dX5_where_19 (by decide) (fun c_7 => ?_) (fun c_7 => ?_)
    · skip
      have t_8 : (fX5_in x2 0 3).toInt ≠ 0 := i_ne c_7 rfl (by decide)
      have t_9 := in_lo c_7
      have t_10 := in_hi c_7
      refine lv_iconst (v := 0) hx hb dX5_where_26 (by decide) ?_
      refine va_put (D := (dC, dI)) (C := RX5) (T := TX5) (N := 26) (v := .int 0) (ty := .int) hx hb hts (fi_X5 _) tyX5 tyX5_ok nmX5 hown hK hP hD hS 0 (mw_at0 _ _ _) rfl 0 (by decide) (hts _ (List.mem_cons_of_mem _ wd_237)) (fun _ h9 => h9) rfl (by decide +kernel) rfl rfl (Nat.le_of_ble_eq_true rfl) dX5_where_27 (fun H locs hP hD hS => ?_)
      have hP : va_P (dC, dI) vwCl (mw g h (s_mcode u 0)) H := hP
      have hD : va_D A (mw g h (s_mcode u 0)) := hD
      refine lv_aload_n hx hb dX5_where_30 rfl (lv_at hl 0 rfl) ?_
      refine va_get (D := (dC, dI)) (C := RX5) (T := TX5) (N := 26) (v := .int 0) hx hb hts (fi_X5 _) hown hK hP 0 (mw_at0 _ _ _) rfl 0 (by decide) (hts _ (List.mem_cons_of_mem _ wd_237)) (fun _ h9 => h9) rfl dX5_where_31 ?_
      refine lv_if_le (tgt := 39) hx hb dX5_where_34 (by decide) (fun c_11 => ?_) (fun c_11 => ?_)
      · skip
        refine lv_iload_n hx hb dX5_where_39 rfl (lv_at hl 2 rfl) ?_
        refine lv_if_ne (tgt := 52) hx hb dX5_where_40 (by decide) (fun c_12 => ?_) (fun c_12 => ?_)
        · skip
          have t_13 : x2.toInt ≠ 0 := i_ne c_12 rfl (by decide)
          refine lv_iload_n hx hb dX5_where_52 rfl (lv_at hl 2 rfl) ?_
          refine lv_iconst (v := 1) hx hb dX5_where_53 (by decide) ?_
          refine lv_icmp_ne (tgt := 66) hx hb dX5_where_54 (by decide) (fun c_14 => ?_) (fun c_14 => ?_)
          · skip
            have t_15 : x2.toInt ≠ 1 := i_ne c_14 rfl (by decide)
            refine lv_iload_n hx hb dX5_where_66 rfl (lv_at hl 2 rfl) ?_
            refine lv_iconst (v := 2) hx hb dX5_where_67 (by decide) ?_
            refine lv_icmp_ne (tgt := 80) hx hb dX5_where_68 (by decide) (fun c_16 => ?_) (fun c_16 => ?_)
            · skip
              have t_17 : x2.toInt ≠ 2 := i_ne c_16 rfl (by decide)
              refine lv_aload_n hx hb dX5_where_80 rfl (lv_at hl 0 rfl) ?_
              refine va_get (D := (dC, dI)) (C := RX5) (T := TX5) (N := 26) (v := .ref (h 16)) hx hb hts (fi_X5 _) hown hK hP 0 (mw_at0 _ _ _) rfl 18 (by decide) (hts _ (List.mem_cons_of_mem _ wd_301)) (fun _ h9 => h9) rfl dX5_where_81 ?_
              refine lv_iload_n hx hb dX5_where_84 rfl (lv_at hl 1 rfl) ?_
              refine va_iald (f := k_mwhen u) hx hb hK hP 16 0 (mw_at16 _ _ _) rfl (vp_in_iff.mpr (by omega)) dX5_where_85 ?_
              exact W.iret (v := k_mwhen u x1.toNatClampNeg) hx hb hr (fun t ht hW => ⟨⟨(k_mwhen u x1.toNatClampNeg), (s_mcode u 0), rfl, (by unfold fX5_where; rw [if_neg c_2, if_neg c_7, if_neg c_12, if_neg c_14, if_neg c_16]), by rw [ht]; exact hP, hD⟩, hS.F ht⟩) hS.2.2 dX5_where_86
            · skip
              have t_18 : x2.toInt = 2 := i_eq c_16 rfl (by decide)
              refine lv_aload_n hx hb dX5_where_71 rfl (lv_at hl 0 rfl) ?_
              refine va_get (D := (dC, dI)) (C := RX5) (T := TX5) (N := 26) (v := .ref (h 15)) hx hb hts (fi_X5 _) hown hK hP 0 (mw_at0 _ _ _) rfl 17 (by decide) (hts _ (List.mem_cons_of_mem _ wd_245)) (fun _ h9 => h9) rfl dX5_where_72 ?_
              refine lv_iload_n hx hb dX5_where_75 rfl (lv_at hl 1 rfl) ?_
              refine va_iald (f := k_mcust u) hx hb hK hP 15 0 (mw_at15 _ _ _) rfl (vp_in_iff.mpr (by omega)) dX5_where_76 ?_
              refine lv_goto (tgt := 86) hx hb dX5_where_77 (by decide) ?_
              exact W.iret (v := k_mcust u x1.toNatClampNeg) hx hb hr (fun t ht hW => ⟨⟨(k_mcust u x1.toNatClampNeg), (s_mcode u 0), rfl, (by unfold fX5_where; rw [if_neg c_2, if_neg c_7, if_neg c_12, if_neg c_14, if_pos c_16]), by rw [ht]; exact hP, hD⟩, hS.F ht⟩) hS.2.2 dX5_where_86
          · skip
            have t_19 : x2.toInt = 1 := i_eq c_14 rfl (by decide)
            refine lv_aload_n hx hb dX5_where_57 rfl (lv_at hl 0 rfl) ?_
            refine va_get (D := (dC, dI)) (C := RX5) (T := TX5) (N := 26) (v := .ref (h 14)) hx hb hts (fi_X5 _) hown hK hP 0 (mw_at0 _ _ _) rfl 16 (by decide) (hts _ (List.mem_cons_of_mem _ wd_300)) (fun _ h9 => h9) rfl dX5_where_58 ?_
            refine lv_iload_n hx hb dX5_where_61 rfl (lv_at hl 1 rfl) ?_
            refine va_iald (f := k_mbin u) hx hb hK hP 14 0 (mw_at14 _ _ _) rfl (vp_in_iff.mpr (by omega)) dX5_where_62 ?_
            refine lv_goto (tgt := 86) hx hb dX5_where_63 (by decide) ?_
            exact W.iret (v := k_mbin u x1.toNatClampNeg) hx hb hr (fun t ht hW => ⟨⟨(k_mbin u x1.toNatClampNeg), (s_mcode u 0), rfl, (by unfold fX5_where; rw [if_neg c_2, if_neg c_7, if_neg c_12, if_pos c_14]), by rw [ht]; exact hP, hD⟩, hS.F ht⟩) hS.2.2 dX5_where_86
        · skip
          have t_20 : x2.toInt = 0 := i_eq c_12 rfl (by decide)
          refine lv_aload_n hx hb dX5_where_43 rfl (lv_at hl 0 rfl) ?_
          refine va_get (D := (dC, dI)) (C := RX5) (T := TX5) (N := 26) (v := .ref (h 13)) hx hb hts (fi_X5 _) hown hK hP 0 (mw_at0 _ _ _) rfl 15 (by decide) (hts _ (List.mem_cons_of_mem _ wd_299)) (fun _ h9 => h9) rfl dX5_where_44 ?_
          refine lv_iload_n hx hb dX5_where_47 rfl (lv_at hl 1 rfl) ?_
          refine va_iald (f := k_mlotOf u) hx hb hK hP 13 0 (mw_at13 _ _ _) rfl (vp_in_iff.mpr (by omega)) dX5_where_48 ?_
          refine lv_goto (tgt := 86) hx hb dX5_where_49 (by decide) ?_
          exact W.iret (v := k_mlotOf u x1.toNatClampNeg) hx hb hr (fun t ht hW => ⟨⟨(k_mlotOf u x1.toNatClampNeg), (s_mcode u 0), rfl, (by unfold fX5_where; rw [if_neg c_2, if_neg c_7, if_pos c_12]), by rw [ht]; exact hP, hD⟩, hS.F ht⟩) hS.2.2 dX5_where_86
      · skip
        exact absurd (by decide) c_11
    · skip
      have t_21 : (fX5_in x2 0 3).toInt = 0 := i_eq c_7 rfl (by decide)
      refine lv_iconst (v := 2) hx hb dX5_where_22 (by decide) ?_
      refine lv_goto (tgt := 27) hx hb dX5_where_23 (by decide) ?_
      refine va_put (D := (dC, dI)) (C := RX5) (T := TX5) (N := 26) (v := .int 2) (ty := .int) hx hb hts (fi_X5 _) tyX5 tyX5_ok nmX5 hown hK hP hD hS 0 (mw_at0 _ _ _) rfl 0 (by decide) (hts _ (List.mem_cons_of_mem _ wd_237)) (fun _ h9 => h9) rfl (by decide +kernel) rfl rfl (Nat.le_of_ble_eq_true rfl) dX5_where_27 (fun H locs hP hD hS => ?_)
      have hP : va_P (dC, dI) vwCl (mw g h (s_mcode u 2)) H := hP
      have hD : va_D A (mw g h (s_mcode u 2)) := hD
      refine lv_aload_n hx hb dX5_where_30 rfl (lv_at hl 0 rfl) ?_
      refine va_get (D := (dC, dI)) (C := RX5) (T := TX5) (N := 26) (v := .int 2) hx hb hts (fi_X5 _) hown hK hP 0 (mw_at0 _ _ _) rfl 0 (by decide) (hts _ (List.mem_cons_of_mem _ wd_237)) (fun _ h9 => h9) rfl dX5_where_31 ?_
      refine lv_if_le (tgt := 39) hx hb dX5_where_34 (by decide) (fun c_22 => ?_) (fun c_22 => ?_)
      · skip
        exact absurd c_22 (by decide)
      · skip
        refine lv_iconst (v := 0) hx hb dX5_where_37 (by decide) ?_
        exact W.iret (v := 0) hx hb hr (fun t ht hW => ⟨⟨0, (s_mcode u 2), rfl, (by unfold fX5_where; rw [if_neg c_2, if_pos c_7]), by rw [ht]; exact hP, hD⟩, hS.F ht⟩) hS.2.2 dX5_where_38
  · skip
    have t_23 : (fX5_isUnit u x1).toInt = 0 := i_eq c_2 rfl (by decide)
    refine lv_iconst (v := 1) hx hb dX5_where_9 (by decide) ?_
    refine lv_goto (tgt := 27) hx hb dX5_where_10 (by decide) ?_
    refine va_put (D := (dC, dI)) (C := RX5) (T := TX5) (N := 26) (v := .int 1) (ty := .int) hx hb hts (fi_X5 _) tyX5 tyX5_ok nmX5 hown hK hP hD hS 0 (mw_at0 _ _ _) rfl 0 (by decide) (hts _ (List.mem_cons_of_mem _ wd_237)) (fun _ h9 => h9) rfl (by decide +kernel) rfl rfl (Nat.le_of_ble_eq_true rfl) dX5_where_27 (fun H locs hP hD hS => ?_)
    have hP : va_P (dC, dI) vwCl (mw g h (s_mcode u 1)) H := hP
    have hD : va_D A (mw g h (s_mcode u 1)) := hD
    refine lv_aload_n hx hb dX5_where_30 rfl (lv_at hl 0 rfl) ?_
    refine va_get (D := (dC, dI)) (C := RX5) (T := TX5) (N := 26) (v := .int 1) hx hb hts (fi_X5 _) hown hK hP 0 (mw_at0 _ _ _) rfl 0 (by decide) (hts _ (List.mem_cons_of_mem _ wd_237)) (fun _ h9 => h9) rfl dX5_where_31 ?_
    refine lv_if_le (tgt := 39) hx hb dX5_where_34 (by decide) (fun c_24 => ?_) (fun c_24 => ?_)
    · skip
      exact absurd c_24 (by decide)
    · skip
      refine lv_iconst (v := 0) hx hb dX5_where_37 (by decide) ?_
      exact W.iret (v := 0) hx hb hr (fun t ht hW => ⟨⟨0, (s_mcode u 1), rfl, (by unfold fX5_where; rw [if_pos c_2]), by rw [ht]; exact hP, hD⟩, hS.F ht⟩) hS.2.2 dX5_where_38