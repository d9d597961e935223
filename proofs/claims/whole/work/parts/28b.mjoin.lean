set_option maxHeartbeats 4000000 in
set_option maxRecDepth 100000 in
theorem kX5_join (l : Launch) (dC : Nat → ClassId) (dI : Nat → Nat → Nat) (g : cG) (h : Nat → Nat) (u : mS) (sz : Nat) (x1 : Int32) (x2 : Int32) (hI : mInv u) : Met l yX5_join wsX5_join ({ frames := 2, cells := 0, slots := 0, locals := 43 }) (va_Pc [.ref (h 0), .int x1, .int x2] (fun U => U.heap.size = sz ∧ va_P (dC, dI) vwCl (mw g h u) U.heap ∧ va_K (dC, dI) vwCl (cTys g) U ∧ va_D (fun _ => True) (mw g h u))) (va_Qv (fun u2 => u2 = fX5_join u x1 x2) (fun (u2 : mS) (t : State) => va_P (dC, dI) vwCl (mw g h u2) t.heap ∧ va_D (va_A (mw g h u) sz) (mw g h u2)) (va_A (mw g h u) sz)) 0 0 (va_A (mw g h u) sz) := by
  refine Met.ofW (cc := cX5_join) (maxL := 4) (ret := none) (by decide) rfl ?_
  intro p e s m args below meth c s₁ B hml hv
  obtain ⟨rfl, hsz, hP, hK, hD0⟩ := hv
  have hx := B.exec
  have hb := B.bytes
  have hr := B.returns
  have hts := atoms_spec (ws := wsX5_join) B.pre
  have hown : s.vm.findClass RX5 = some m.cls := findClass_of_methodNamed B.named
  have hlocks := B.notSynchronized
  subst hsz
  have hD := hD0.self (sz := s.heap.size)
  generalize hAe : va_A (mw g h u) s.heap.size = A at hD ⊢
  have hA : ∀ q : Nat, s.heap.size ≤ q → A q := fun q h => by rw [← hAe]; exact Or.inr h
  have hS : va_S A s.heap s.heap [] := va_S.rf
  have hl := lv_entry ([.ref (h 0), .int x1, .int x2]) (n := 4) (Nat.le_of_ble_eq_true rfl)
  rw [lg_entry_eq]
  generalize (lg_sl ([.ref (h 0), .int x1, .int x2]) ++ List.replicate (4 - (lg_sl ([.ref (h 0), .int x1, .int x2])).length) Slot.unset).toArray = ls at hl ⊢
  have hl : lv_has ls 4 [(0, .ref (h 0)), (1, .int x1), (2, .int x2)] := hl
  obtain ⟨hI1, hI2, hI3, hI4, hI5, hI6, hI7⟩ := id hI
  have z_0 : (0 : Int32).toInt = 0 := by decide
  have z_1 : (1 : Int32).toInt = 1 := by decide
  refine lv_aload_n hx hb dX5_join_0 rfl (lv_at hl 0 rfl) ?_
  refine lv_aload_n hx hb dX5_join_1 rfl (lv_at hl 0 rfl) ?_
  refine lv_iload_n hx hb dX5_join_2 rfl (lv_at hl 1 rfl) ?_
  refine vp_callSi (W.runV (As := [.int x1]) (rest := [.ref (h 0)]) ⟨hx, hb, hml, hown, hts⟩ (kX5_isLot l dC dI g h u x1) (cwV 1 hts (gV wd_288 wd_289 wd_290 wd_241 wcX5_isLot) rfl rfl rfl (by decide +kernel) ⟨(Nat.le_of_ble_eq_true rfl), (Nat.le_of_ble_eq_true rfl)⟩) ⟨fun a U g mk q => by obtain ⟨q0, qP, qK⟩ := q; exact ⟨q0, qP, va_K.moved (u := U) (U := U.calling g mk a) (Vm.Alike.refl U.vm) qK⟩, va_recv hK hP (ci := 4) (q0 := 0) rfl (mw_at0 _ _ _), fun U hU hW => ⟨rfl, by rw [hU]; exact hP, va_K.moved hW.alike hK⟩⟩ rfl rfl hl.1 rfl (lv_room (Nat.le_of_ble_eq_true rfl)) dX5_join_3 ⟨(Nat.le_of_ble_eq_true rfl), (Nat.le_of_ble_eq_true rfl)⟩) (fun r_1 hw => ?_)
  subst hw
  refine lv_if_eq (tgt := 17) hx hb dX5_join_6 (by decide) (fun c_2 => ?_) (fun c_2 => ?_)
  · skip
    have t_3 : (fX5_isLot u x1).toInt = 0 := i_eq c_2 rfl (by decide)
    refine lv_iconst (v := 1) hx hb dX5_join_17 (by decide) ?_
    refine lv_goto (tgt := 22) hx hb dX5_join_18 (by decide) ?_
    refine va_put (D := (dC, dI)) (C := RX5) (T := TX5) (N := 26) (v := .int 1) (ty := .int) hx hb hts (fi_X5 _) tyX5 tyX5_ok nmX5 hown hK hP hD hS 0 (mw_at0 _ _ _) rfl 0 (by decide) (hts _ (List.mem_cons_of_mem _ wd_237)) (fun _ h9 => h9) rfl (by decide +kernel) rfl rfl (Nat.le_of_ble_eq_true rfl) dX5_join_22 (fun H locs hP hD hS => ?_)
    have hP : va_P (dC, dI) vwCl (mw g h (s_mcode u 1)) H := hP
    have hD : va_D A (mw g h (s_mcode u 1)) := hD
    refine lv_aload_n hx hb dX5_join_25 rfl (lv_at hl 0 rfl) ?_
    refine va_get (D := (dC, dI)) (C := RX5) (T := TX5) (N := 26) (v := .int 1) hx hb hts (fi_X5 _) hown hK hP 0 (mw_at0 _ _ _) rfl 0 (by decide) (hts _ (List.mem_cons_of_mem _ wd_237)) (fun _ h9 => h9) rfl dX5_join_26 ?_
    refine lv_if_ne (tgt := 151) hx hb dX5_join_29 (by decide) (fun c_4 => ?_) (fun c_4 => ?_)
    · skip
      refine lv_aload_n hx hb dX5_join_151 rfl (lv_at hl 0 rfl) ?_
      refine va_get (D := (dC, dI)) (C := RX5) (T := TX5) (N := 26) (v := .int 1) hx hb hts (fi_X5 _) hown hK hP 0 (mw_at0 _ _ _) rfl 0 (by decide) (hts _ (List.mem_cons_of_mem _ wd_237)) (fun _ h9 => h9) rfl dX5_join_152 ?_
      refine lv_if_le (tgt := 159) hx hb dX5_join_155 (by decide) (fun c_5 => ?_) (fun c_5 => ?_)
      · skip
        exact absurd c_5 (by decide)
      · skip
        exact W.vret hx hb hr (fun t ht hW => ⟨⟨(s_mcode u 1), rfl, (by unfold fX5_join; rw [if_pos c_2]), by rw [ht]; exact hP, hD⟩, hS.F ht⟩) hS.2.2 dX5_join_158
    · skip
      exact absurd c_4 (by decide)
  · skip
    have t_6 : (fX5_isLot u x1).toInt ≠ 0 := i_ne c_2 rfl (by decide)
    have t_7 := il_lo c_2
    have t_8 := il_hi c_2
    refine lv_aload_n hx hb dX5_join_9 rfl (lv_at hl 0 rfl) ?_
    refine lv_iload_n hx hb dX5_join_10 rfl (lv_at hl 2 rfl) ?_
    refine vp_callSi (W.runV (As := [.int x2]) (rest := [.ref (h 0)]) ⟨hx, hb, hml, hown, hts⟩ (kX5_isLot l dC dI g h u x2) (cwV 1 hts (gV wd_288 wd_289 wd_290 wd_241 wcX5_isLot) rfl rfl rfl (by decide +kernel) ⟨(Nat.le_of_ble_eq_true rfl), (Nat.le_of_ble_eq_true rfl)⟩) ⟨fun a U g mk q => by obtain ⟨q0, qP, qK⟩ := q; exact ⟨q0, qP, va_K.moved (u := U) (U := U.calling g mk a) (Vm.Alike.refl U.vm) qK⟩, va_recv hK hP (ci := 4) (q0 := 0) rfl (mw_at0 _ _ _), fun U hU hW => ⟨rfl, by rw [hU]; exact hP, va_K.moved hW.alike hK⟩⟩ rfl rfl hl.1 rfl (lv_room (Nat.le_of_ble_eq_true rfl)) dX5_join_11 ⟨(Nat.le_of_ble_eq_true rfl), (Nat.le_of_ble_eq_true rfl)⟩) (fun r_9 hw => ?_)
    subst hw
    refine lv_if_ne (tgt := 21) hx hb dX5_join_14 (by decide) (fun c_10 => ?_) (fun c_10 => ?_)
    · skip
      have t_11 : (fX5_isLot u x2).toInt ≠ 0 := i_ne c_10 rfl (by decide)
      have t_12 := il_lo c_10
      have t_13 := il_hi c_10
      refine lv_iconst (v := 0) hx hb dX5_join_21 (by decide) ?_
      refine va_put (D := (dC, dI)) (C := RX5) (T := TX5) (N := 26) (v := .int 0) (ty := .int) hx hb hts (fi_X5 _) tyX5 tyX5_ok nmX5 hown hK hP hD hS 0 (mw_at0 _ _ _) rfl 0 (by decide) (hts _ (List.mem_cons_of_mem _ wd_237)) (fun _ h9 => h9) rfl (by decide +kernel) rfl rfl (Nat.le_of_ble_eq_true rfl) dX5_join_22 (fun H locs hP hD hS => ?_)
      have hP : va_P (dC, dI) vwCl (mw g h (s_mcode u 0)) H := hP
      have hD : va_D A (mw g h (s_mcode u 0)) := hD
      refine lv_aload_n hx hb dX5_join_25 rfl (lv_at hl 0 rfl) ?_
      refine va_get (D := (dC, dI)) (C := RX5) (T := TX5) (N := 26) (v := .int 0) hx hb hts (fi_X5 _) hown hK hP 0 (mw_at0 _ _ _) rfl 0 (by decide) (hts _ (List.mem_cons_of_mem _ wd_237)) (fun _ h9 => h9) rfl dX5_join_26 ?_
      refine lv_if_ne (tgt := 151) hx hb dX5_join_29 (by decide) (fun c_14 => ?_) (fun c_14 => ?_)
      · skip
        exact absurd (by decide) c_14
      · skip
        refine lv_aload_n hx hb dX5_join_32 rfl (lv_at hl 0 rfl) ?_
        refine lv_aload_n hx hb dX5_join_33 rfl (lv_at hl 0 rfl) ?_
        refine lv_iload_n hx hb dX5_join_34 rfl (lv_at hl 1 rfl) ?_
        refine vp_callSi (W.runV (As := [.int x1]) (rest := [.ref (h 0)]) ⟨hx, hb, hml, hown, hts⟩ (kX5_isOpen l dC dI g h (s_mcode u 0) x1 (by omega)) (cwV 1 hts (gV wd_246 wd_247 wd_248 wd_241 wcX5_isOpen) rfl rfl rfl (by decide +kernel) ⟨(Nat.le_of_ble_eq_true rfl), (Nat.le_of_ble_eq_true rfl)⟩) ⟨fun a U g mk q => by obtain ⟨q0, qP, qK⟩ := q; exact ⟨q0, qP, va_K.moved (u := U) (U := U.calling g mk a) (Vm.Alike.refl U.vm) qK⟩, va_recv hK hP (ci := 4) (q0 := 0) rfl (mw_at0 _ _ _), fun U hU hW => ⟨rfl, by rw [hU]; exact hP, va_K.moved hW.alike hK⟩⟩ rfl rfl hl.1 rfl (lv_room (Nat.le_of_ble_eq_true rfl)) dX5_join_35 ⟨(Nat.le_of_ble_eq_true rfl), (Nat.le_of_ble_eq_true rfl)⟩) (fun r_15 hw => ?_)
        subst hw
        refine lv_if_eq (tgt := 129) hx hb dX5_join_38 (by decide) (fun c_16 => ?_) (fun c_16 => ?_)
        · skip
          have t_17 : (fX5_isOpen (s_mcode u 0) x1).toInt = 0 := i_eq c_16 rfl (by decide)
          refine lv_iconst (v := 2) hx hb dX5_join_129 (by decide) ?_
          refine lv_goto (tgt := 148) hx hb dX5_join_130 (by decide) ?_
          refine va_put (D := (dC, dI)) (C := RX5) (T := TX5) (N := 26) (v := .int 2) (ty := .int) hx hb hts (fi_X5 _) tyX5 tyX5_ok nmX5 hown hK hP hD hS 0 (mw_at0 _ _ _) rfl 0 (by decide) (hts _ (List.mem_cons_of_mem _ wd_237)) (fun _ h9 => h9) rfl (by decide +kernel) rfl rfl (Nat.le_of_ble_eq_true rfl) dX5_join_148 (fun H locs hP hD hS => ?_)
          have hP : va_P (dC, dI) vwCl (mw g h (s_mcode u 2)) H := hP
          have hD : va_D A (mw g h (s_mcode u 2)) := hD
          refine lv_aload_n hx hb dX5_join_151 rfl (lv_at hl 0 rfl) ?_
          refine va_get (D := (dC, dI)) (C := RX5) (T := TX5) (N := 26) (v := .int 2) hx hb hts (fi_X5 _) hown hK hP 0 (mw_at0 _ _ _) rfl 0 (by decide) (hts _ (List.mem_cons_of_mem _ wd_237)) (fun _ h9 => h9) rfl dX5_join_152 ?_
          refine lv_if_le (tgt := 159) hx hb dX5_join_155 (by decide) (fun c_18 => ?_) (fun c_18 => ?_)
          · skip
            exact absurd c_18 (by decide)
          · skip
            exact W.vret hx hb hr (fun t ht hW => ⟨⟨(s_mcode u 2), rfl, (by unfold fX5_join; rw [if_neg c_2, if_neg c_10, if_pos c_16]), by rw [ht]; exact hP, hD⟩, hS.F ht⟩) hS.2.2 dX5_join_158
        · skip
          have t_19 : (fX5_isOpen (s_mcode u 0) x1).toInt ≠ 0 := i_ne c_16 rfl (by decide)
          refine lv_aload_n hx hb dX5_join_41 rfl (lv_at hl 0 rfl) ?_
          refine lv_iload_n hx hb dX5_join_42 rfl (lv_at hl 2 rfl) ?_
          refine vp_callSi (W.runV (As := [.int x2]) (rest := [.ref (h 0)]) ⟨hx, hb, hml, hown, hts⟩ (kX5_isOpen l dC dI g h (s_mcode u 0) x2 (by omega)) (cwV 1 hts (gV wd_246 wd_247 wd_248 wd_241 wcX5_isOpen) rfl rfl rfl (by decide +kernel) ⟨(Nat.le_of_ble_eq_true rfl), (Nat.le_of_ble_eq_true rfl)⟩) ⟨fun a U g mk q => by obtain ⟨q0, qP, qK⟩ := q; exact ⟨q0, qP, va_K.moved (u := U) (U := U.calling g mk a) (Vm.Alike.refl U.vm) qK⟩, va_recv hK hP (ci := 4) (q0 := 0) rfl (mw_at0 _ _ _), fun U hU hW => ⟨rfl, by rw [hU]; exact hP, va_K.moved hW.alike hK⟩⟩ rfl rfl hl.1 rfl (lv_room (Nat.le_of_ble_eq_true rfl)) dX5_join_43 ⟨(Nat.le_of_ble_eq_true rfl), (Nat.le_of_ble_eq_true rfl)⟩) (fun r_20 hw => ?_)
          subst hw
          refine lv_if_eq (tgt := 129) hx hb dX5_join_46 (by decide) (fun c_21 => ?_) (fun c_21 => ?_)
          · skip
            have t_22 : (fX5_isOpen (s_mcode u 0) x2).toInt = 0 := i_eq c_21 rfl (by decide)
            refine lv_iconst (v := 2) hx hb dX5_join_129 (by decide) ?_
            refine lv_goto (tgt := 148) hx hb dX5_join_130 (by decide) ?_
            refine va_put (D := (dC, dI)) (C := RX5) (T := TX5) (N := 26) (v := .int 2) (ty := .int) hx hb hts (fi_X5 _) tyX5 tyX5_ok nmX5 hown hK hP hD hS 0 (mw_at0 _ _ _) rfl 0 (by decide) (hts _ (List.mem_cons_of_mem _ wd_237)) (fun _ h9 => h9) rfl (by decide +kernel) rfl rfl (Nat.le_of_ble_eq_true rfl) dX5_join_148 (fun H locs hP hD hS => ?_)
            have hP : va_P (dC, dI) vwCl (mw g h (s_mcode u 2)) H := hP
            have hD : va_D A (mw g h (s_mcode u 2)) := hD
            refine lv_aload_n hx hb dX5_join_151 rfl (lv_at hl 0 rfl) ?_
            refine va_get (D := (dC, dI)) (C := RX5) (T := TX5) (N := 26) (v := .int 2) hx hb hts (fi_X5 _) hown hK hP 0 (mw_at0 _ _ _) rfl 0 (by decide) (hts _ (List.mem_cons_of_mem _ wd_237)) (fun _ h9 => h9) rfl dX5_join_152 ?_
            refine lv_if_le (tgt := 159) hx hb dX5_join_155 (by decide) (fun c_23 => ?_) (fun c_23 => ?_)
            · skip
              exact absurd c_23 (by decide)
            · skip
              exact W.vret hx hb hr (fun t ht hW => ⟨⟨(s_mcode u 2), rfl, (by unfold fX5_join; rw [if_neg c_2, if_neg c_10, if_neg c_16, if_pos c_21]), by rw [ht]; exact hP, hD⟩, hS.F ht⟩) hS.2.2 dX5_join_158
          · skip
            have t_24 : (fX5_isOpen (s_mcode u 0) x2).toInt ≠ 0 := i_ne c_21 rfl (by decide)
            refine lv_iload_n hx hb dX5_join_49 rfl (lv_at hl 1 rfl) ?_
            refine lv_iload_n hx hb dX5_join_50 rfl (lv_at hl 2 rfl) ?_
            refine lv_icmp_eq (tgt := 129) hx hb dX5_join_51 (by decide) (fun c_25 => ?_) (fun c_25 => ?_)
            · skip
              have t_26 : x1.toInt = x2.toInt := i_eq c_25 rfl rfl
              refine lv_iconst (v := 2) hx hb dX5_join_129 (by decide) ?_
              refine lv_goto (tgt := 148) hx hb dX5_join_130 (by decide) ?_
              refine va_put (D := (dC, dI)) (C := RX5) (T := TX5) (N := 26) (v := .int 2) (ty := .int) hx hb hts (fi_X5 _) tyX5 tyX5_ok nmX5 hown hK hP hD hS 0 (mw_at0 _ _ _) rfl 0 (by decide) (hts _ (List.mem_cons_of_mem _ wd_237)) (fun _ h9 => h9) rfl (by decide +kernel) rfl rfl (Nat.le_of_ble_eq_true rfl) dX5_join_148 (fun H locs hP hD hS => ?_)
              have hP : va_P (dC, dI) vwCl (mw g h (s_mcode u 2)) H := hP
              have hD : va_D A (mw g h (s_mcode u 2)) := hD
              refine lv_aload_n hx hb dX5_join_151 rfl (lv_at hl 0 rfl) ?_
              refine va_get (D := (dC, dI)) (C := RX5) (T := TX5) (N := 26) (v := .int 2) hx hb hts (fi_X5 _) hown hK hP 0 (mw_at0 _ _ _) rfl 0 (by decide) (hts _ (List.mem_cons_of_mem _ wd_237)) (fun _ h9 => h9) rfl dX5_join_152 ?_
              refine lv_if_le (tgt := 159) hx hb dX5_join_155 (by decide) (fun c_27 => ?_) (fun c_27 => ?_)
              · skip
                exact absurd c_27 (by decide)
              · skip
                exact W.vret hx hb hr (fun t ht hW => ⟨⟨(s_mcode u 2), rfl, (by unfold fX5_join; rw [if_neg c_2, if_neg c_10, if_neg c_16, if_neg c_21, if_pos c_25]), by rw [ht]; exact hP, hD⟩, hS.F ht⟩) hS.2.2 dX5_join_158
            · skip
              have t_28 : x1.toInt ≠ x2.toInt := i_ne c_25 rfl rfl
              refine lv_aload_n hx hb dX5_join_54 rfl (lv_at hl 0 rfl) ?_
              refine va_get (D := (dC, dI)) (C := RX5) (T := TX5) (N := 26) (v := .ref (h 1)) hx hb hts (fi_X5 _) hown hK hP 0 (mw_at0 _ _ _) rfl 2 (by decide) (hts _ (List.mem_cons_of_mem _ wd_261)) (fun _ h9 => h9) rfl dX5_join_55 ?_
              refine lv_iload_n hx hb dX5_join_58 rfl (lv_at hl 1 rfl) ?_
              refine va_iald (f := k_mgood u) hx hb hK hP 1 0 (mw_at1 _ _ _) rfl (vp_in_iff.mpr (by omega)) dX5_join_59 ?_
              refine lv_aload_n hx hb dX5_join_60 rfl (lv_at hl 0 rfl) ?_
              refine va_get (D := (dC, dI)) (C := RX5) (T := TX5) (N := 26) (v := .ref (h 1)) hx hb hts (fi_X5 _) hown hK hP 0 (mw_at0 _ _ _) rfl 2 (by decide) (hts _ (List.mem_cons_of_mem _ wd_261)) (fun _ h9 => h9) rfl dX5_join_61 ?_
              refine lv_iload_n hx hb dX5_join_64 rfl (lv_at hl 2 rfl) ?_
              refine va_iald (f := k_mgood u) hx hb hK hP 1 0 (mw_at1 _ _ _) rfl (vp_in_iff.mpr (by omega)) dX5_join_65 ?_
              refine lv_icmp_ne (tgt := 129) hx hb dX5_join_66 (by decide) (fun c_29 => ?_) (fun c_29 => ?_)
              · skip
                have t_30 : (k_mgood u x1.toNatClampNeg).toInt ≠ (k_mgood u x2.toNatClampNeg).toInt := i_ne c_29 rfl rfl
                refine lv_iconst (v := 2) hx hb dX5_join_129 (by decide) ?_
                refine lv_goto (tgt := 148) hx hb dX5_join_130 (by decide) ?_
                refine va_put (D := (dC, dI)) (C := RX5) (T := TX5) (N := 26) (v := .int 2) (ty := .int) hx hb hts (fi_X5 _) tyX5 tyX5_ok nmX5 hown hK hP hD hS 0 (mw_at0 _ _ _) rfl 0 (by decide) (hts _ (List.mem_cons_of_mem _ wd_237)) (fun _ h9 => h9) rfl (by decide +kernel) rfl rfl (Nat.le_of_ble_eq_true rfl) dX5_join_148 (fun H locs hP hD hS => ?_)
                have hP : va_P (dC, dI) vwCl (mw g h (s_mcode u 2)) H := hP
                have hD : va_D A (mw g h (s_mcode u 2)) := hD
                refine lv_aload_n hx hb dX5_join_151 rfl (lv_at hl 0 rfl) ?_
                refine va_get (D := (dC, dI)) (C := RX5) (T := TX5) (N := 26) (v := .int 2) hx hb hts (fi_X5 _) hown hK hP 0 (mw_at0 _ _ _) rfl 0 (by decide) (hts _ (List.mem_cons_of_mem _ wd_237)) (fun _ h9 => h9) rfl dX5_join_152 ?_
                refine lv_if_le (tgt := 159) hx hb dX5_join_155 (by decide) (fun c_31 => ?_) (fun c_31 => ?_)
                · skip
                  exact absurd c_31 (by decide)
                · skip
                  exact W.vret hx hb hr (fun t ht hW => ⟨⟨(s_mcode u 2), rfl, (by unfold fX5_join; rw [if_neg c_2, if_neg c_10, if_neg c_16, if_neg c_21, if_neg c_25, if_neg c_29]), by rw [ht]; exact hP, hD⟩, hS.F ht⟩) hS.2.2 dX5_join_158
              · skip
                have t_32 : (k_mgood u x1.toNatClampNeg).toInt = (k_mgood u x2.toNatClampNeg).toInt := i_eq c_29 rfl rfl
                refine lv_aload_n hx hb dX5_join_69 rfl (lv_at hl 0 rfl) ?_
                refine va_get (D := (dC, dI)) (C := RX5) (T := TX5) (N := 26) (v := .ref (h 2)) hx hb hts (fi_X5 _) hown hK hP 0 (mw_at0 _ _ _) rfl 3 (by decide) (hts _ (List.mem_cons_of_mem _ wd_253)) (fun _ h9 => h9) rfl dX5_join_70 ?_
                refine lv_iload_n hx hb dX5_join_73 rfl (lv_at hl 1 rfl) ?_
                refine va_iald (f := k_mowner u) hx hb hK hP 2 0 (mw_at2 _ _ _) rfl (vp_in_iff.mpr (by omega)) dX5_join_74 ?_
                refine lv_aload_n hx hb dX5_join_75 rfl (lv_at hl 0 rfl) ?_
                refine va_get (D := (dC, dI)) (C := RX5) (T := TX5) (N := 26) (v := .ref (h 2)) hx hb hts (fi_X5 _) hown hK hP 0 (mw_at0 _ _ _) rfl 3 (by decide) (hts _ (List.mem_cons_of_mem _ wd_253)) (fun _ h9 => h9) rfl dX5_join_76 ?_
                refine lv_iload_n hx hb dX5_join_79 rfl (lv_at hl 2 rfl) ?_
                refine va_iald (f := k_mowner u) hx hb hK hP 2 0 (mw_at2 _ _ _) rfl (vp_in_iff.mpr (by omega)) dX5_join_80 ?_
                refine lv_icmp_ne (tgt := 129) hx hb dX5_join_81 (by decide) (fun c_33 => ?_) (fun c_33 => ?_)
                · skip
                  have t_34 : (k_mowner u x1.toNatClampNeg).toInt ≠ (k_mowner u x2.toNatClampNeg).toInt := i_ne c_33 rfl rfl
                  refine lv_iconst (v := 2) hx hb dX5_join_129 (by decide) ?_
                  refine lv_goto (tgt := 148) hx hb dX5_join_130 (by decide) ?_
                  refine va_put (D := (dC, dI)) (C := RX5) (T := TX5) (N := 26) (v := .int 2) (ty := .int) hx hb hts (fi_X5 _) tyX5 tyX5_ok nmX5 hown hK hP hD hS 0 (mw_at0 _ _ _) rfl 0 (by decide) (hts _ (List.mem_cons_of_mem _ wd_237)) (fun _ h9 => h9) rfl (by decide +kernel) rfl rfl (Nat.le_of_ble_eq_true rfl) dX5_join_148 (fun H locs hP hD hS => ?_)
                  have hP : va_P (dC, dI) vwCl (mw g h (s_mcode u 2)) H := hP
                  have hD : va_D A (mw g h (s_mcode u 2)) := hD
                  refine lv_aload_n hx hb dX5_join_151 rfl (lv_at hl 0 rfl) ?_
                  refine va_get (D := (dC, dI)) (C := RX5) (T := TX5) (N := 26) (v := .int 2) hx hb hts (fi_X5 _) hown hK hP 0 (mw_at0 _ _ _) rfl 0 (by decide) (hts _ (List.mem_cons_of_mem _ wd_237)) (fun _ h9 => h9) rfl dX5_join_152 ?_
                  refine lv_if_le (tgt := 159) hx hb dX5_join_155 (by decide) (fun c_35 => ?_) (fun c_35 => ?_)
                  · skip
                    exact absurd c_35 (by decide)
                  · skip
                    exact W.vret hx hb hr (fun t ht hW => ⟨⟨(s_mcode u 2), rfl, (by unfold fX5_join; rw [if_neg c_2, if_neg c_10, if_neg c_16, if_neg c_21, if_neg c_25, if_pos c_29, if_neg c_33]), by rw [ht]; exact hP, hD⟩, hS.F ht⟩) hS.2.2 dX5_join_158
                · skip
                  have t_36 : (k_mowner u x1.toNatClampNeg).toInt = (k_mowner u x2.toNatClampNeg).toInt := i_eq c_33 rfl rfl
                  refine lv_aload_n hx hb dX5_join_84 rfl (lv_at hl 0 rfl) ?_
                  refine va_get (D := (dC, dI)) (C := RX5) (T := TX5) (N := 26) (v := .ref (h 3)) hx hb hts (fi_X5 _) hown hK hP 0 (mw_at0 _ _ _) rfl 4 (by decide) (hts _ (List.mem_cons_of_mem _ wd_255)) (fun _ h9 => h9) rfl dX5_join_85 ?_
                  refine lv_iload_n hx hb dX5_join_88 rfl (lv_at hl 1 rfl) ?_
                  refine va_iald (f := k_muntil u) hx hb hK hP 3 0 (mw_at3 _ _ _) rfl (vp_in_iff.mpr (by omega)) dX5_join_89 ?_
                  refine lv_aload_n hx hb dX5_join_90 rfl (lv_at hl 0 rfl) ?_
                  refine va_get (D := (dC, dI)) (C := RX5) (T := TX5) (N := 26) (v := .ref (h 3)) hx hb hts (fi_X5 _) hown hK hP 0 (mw_at0 _ _ _) rfl 4 (by decide) (hts _ (List.mem_cons_of_mem _ wd_255)) (fun _ h9 => h9) rfl dX5_join_91 ?_
                  refine lv_iload_n hx hb dX5_join_94 rfl (lv_at hl 2 rfl) ?_
                  refine va_iald (f := k_muntil u) hx hb hK hP 3 0 (mw_at3 _ _ _) rfl (vp_in_iff.mpr (by omega)) dX5_join_95 ?_
                  refine lv_icmp_ne (tgt := 129) hx hb dX5_join_96 (by decide) (fun c_37 => ?_) (fun c_37 => ?_)
                  · skip
                    have t_38 : (k_muntil u x1.toNatClampNeg).toInt ≠ (k_muntil u x2.toNatClampNeg).toInt := i_ne c_37 rfl rfl
                    refine lv_iconst (v := 2) hx hb dX5_join_129 (by decide) ?_
                    refine lv_goto (tgt := 148) hx hb dX5_join_130 (by decide) ?_
                    refine va_put (D := (dC, dI)) (C := RX5) (T := TX5) (N := 26) (v := .int 2) (ty := .int) hx hb hts (fi_X5 _) tyX5 tyX5_ok nmX5 hown hK hP hD hS 0 (mw_at0 _ _ _) rfl 0 (by decide) (hts _ (List.mem_cons_of_mem _ wd_237)) (fun _ h9 => h9) rfl (by decide +kernel) rfl rfl (Nat.le_of_ble_eq_true rfl) dX5_join_148 (fun H locs hP hD hS => ?_)
                    have hP : va_P (dC, dI) vwCl (mw g h (s_mcode u 2)) H := hP
                    have hD : va_D A (mw g h (s_mcode u 2)) := hD
                    refine lv_aload_n hx hb dX5_join_151 rfl (lv_at hl 0 rfl) ?_
                    refine va_get (D := (dC, dI)) (C := RX5) (T := TX5) (N := 26) (v := .int 2) hx hb hts (fi_X5 _) hown hK hP 0 (mw_at0 _ _ _) rfl 0 (by decide) (hts _ (List.mem_cons_of_mem _ wd_237)) (fun _ h9 => h9) rfl dX5_join_152 ?_
                    refine lv_if_le (tgt := 159) hx hb dX5_join_155 (by decide) (fun c_39 => ?_) (fun c_39 => ?_)
                    · skip
                      exact absurd c_39 (by decide)
                    · skip
                      exact W.vret hx hb hr (fun t ht hW => ⟨⟨(s_mcode u 2), rfl, (by unfold fX5_join; rw [if_neg c_2, if_neg c_10, if_neg c_16, if_neg c_21, if_neg c_25, if_pos c_29, if_pos c_33, if_neg c_37]), by rw [ht]; exact hP, hD⟩, hS.F ht⟩) hS.2.2 dX5_join_158
                  · skip
                    have t_40 : (k_muntil u x1.toNatClampNeg).toInt = (k_muntil u x2.toNatClampNeg).toInt := i_eq c_37 rfl rfl
                    refine lv_aload_n hx hb dX5_join_99 rfl (lv_at hl 0 rfl) ?_
                    refine va_get (D := (dC, dI)) (C := RX5) (T := TX5) (N := 26) (v := .ref (h 7)) hx hb hts (fi_X5 _) hown hK hP 0 (mw_at0 _ _ _) rfl 8 (by decide) (hts _ (List.mem_cons_of_mem _ wd_250)) (fun _ h9 => h9) rfl dX5_join_100 ?_
                    refine lv_iload_n hx hb dX5_join_103 rfl (lv_at hl 1 rfl) ?_
                    refine va_iald (f := k_mblk u) hx hb hK hP 7 0 (mw_at7 _ _ _) rfl (vp_in_iff.mpr (by omega)) dX5_join_104 ?_
                    refine lv_aload_n hx hb dX5_join_105 rfl (lv_at hl 0 rfl) ?_
                    refine va_get (D := (dC, dI)) (C := RX5) (T := TX5) (N := 26) (v := .ref (h 7)) hx hb hts (fi_X5 _) hown hK hP 0 (mw_at0 _ _ _) rfl 8 (by decide) (hts _ (List.mem_cons_of_mem _ wd_250)) (fun _ h9 => h9) rfl dX5_join_106 ?_
                    refine lv_iload_n hx hb dX5_join_109 rfl (lv_at hl 2 rfl) ?_
                    refine va_iald (f := k_mblk u) hx hb hK hP 7 0 (mw_at7 _ _ _) rfl (vp_in_iff.mpr (by omega)) dX5_join_110 ?_
                    refine lv_icmp_ne (tgt := 129) hx hb dX5_join_111 (by decide) (fun c_41 => ?_) (fun c_41 => ?_)
                    · skip
                      have t_42 : (k_mblk u x1.toNatClampNeg).toInt ≠ (k_mblk u x2.toNatClampNeg).toInt := i_ne c_41 rfl rfl
                      refine lv_iconst (v := 2) hx hb dX5_join_129 (by decide) ?_
                      refine lv_goto (tgt := 148) hx hb dX5_join_130 (by decide) ?_
                      refine va_put (D := (dC, dI)) (C := RX5) (T := TX5) (N := 26) (v := .int 2) (ty := .int) hx hb hts (fi_X5 _) tyX5 tyX5_ok nmX5 hown hK hP hD hS 0 (mw_at0 _ _ _) rfl 0 (by decide) (hts _ (List.mem_cons_of_mem _ wd_237)) (fun _ h9 => h9) rfl (by decide +kernel) rfl rfl (Nat.le_of_ble_eq_true rfl) dX5_join_148 (fun H locs hP hD hS => ?_)
                      have hP : va_P (dC, dI) vwCl (mw g h (s_mcode u 2)) H := hP
                      have hD : va_D A (mw g h (s_mcode u 2)) := hD
                      refine lv_aload_n hx hb dX5_join_151 rfl (lv_at hl 0 rfl) ?_
                      refine va_get (D := (dC, dI)) (C := RX5) (T := TX5) (N := 26) (v := .int 2) hx hb hts (fi_X5 _) hown hK hP 0 (mw_at0 _ _ _) rfl 0 (by decide) (hts _ (List.mem_cons_of_mem _ wd_237)) (fun _ h9 => h9) rfl dX5_join_152 ?_
                      refine lv_if_le (tgt := 159) hx hb dX5_join_155 (by decide) (fun c_43 => ?_) (fun c_43 => ?_)
                      · skip
                        exact absurd c_43 (by decide)
                      · skip
                        exact W.vret hx hb hr (fun t ht hW => ⟨⟨(s_mcode u 2), rfl, (by unfold fX5_join; rw [if_neg c_2, if_neg c_10, if_neg c_16, if_neg c_21, if_neg c_25, if_pos c_29, if_pos c_33, if_pos c_37, if_neg c_41]), by rw [ht]; exact hP, hD⟩, hS.F ht⟩) hS.2.2 dX5_join_158
                    · skip
                      have t_44 : (k_mblk u x1.toNatClampNeg).toInt = (k_mblk u x2.toNatClampNeg).toInt := i_eq c_41 rfl rfl
                      refine lv_aload_n hx hb dX5_join_114 rfl (lv_at hl 0 rfl) ?_
                      refine va_get (D := (dC, dI)) (C := RX5) (T := TX5) (N := 26) (v := .ref (h 8)) hx hb hts (fi_X5 _) hown hK hP 0 (mw_at0 _ _ _) rfl 9 (by decide) (hts _ (List.mem_cons_of_mem _ wd_251)) (fun _ h9 => h9) rfl dX5_join_115 ?_
                      refine lv_iload_n hx hb dX5_join_118 rfl (lv_at hl 1 rfl) ?_
                      refine va_zald (f := k_mquiet u) hx hb hK hP 8 1 (mw_at8 _ _ _) rfl (vp_in_iff.mpr (by omega)) dX5_join_119 ?_
                      refine lv_aload_n hx hb dX5_join_120 rfl (lv_at hl 0 rfl) ?_
                      refine va_get (D := (dC, dI)) (C := RX5) (T := TX5) (N := 26) (v := .ref (h 8)) hx hb hts (fi_X5 _) hown hK hP 0 (mw_at0 _ _ _) rfl 9 (by decide) (hts _ (List.mem_cons_of_mem _ wd_251)) (fun _ h9 => h9) rfl dX5_join_121 ?_
                      refine lv_iload_n hx hb dX5_join_124 rfl (lv_at hl 2 rfl) ?_
                      refine va_zald (f := k_mquiet u) hx hb hK hP 8 1 (mw_at8 _ _ _) rfl (vp_in_iff.mpr (by omega)) dX5_join_125 ?_
                      refine lv_icmp_eq (tgt := 133) hx hb dX5_join_126 (by decide) (fun c_45 => ?_) (fun c_45 => ?_)
                      · skip
                        have t_46 : (k_mquiet u x1.toNatClampNeg).toInt = (k_mquiet u x2.toNatClampNeg).toInt := i_eq c_45 rfl rfl
                        refine lv_aload_n hx hb dX5_join_133 rfl (lv_at hl 0 rfl) ?_
                        refine va_get (D := (dC, dI)) (C := RX5) (T := TX5) (N := 26) (v := .int (k_mrows u)) hx hb hts (fi_X5 _) hown hK hP 0 (mw_at0 _ _ _) rfl 20 (by decide) (hts _ (List.mem_cons_of_mem _ wd_273)) (fun _ h9 => h9) rfl dX5_join_134 ?_
                        refine lv_sipush (v := 398) hx hb dX5_join_137 (by decide) ?_
                        refine lv_icmp_le (tgt := 147) hx hb dX5_join_140 (by decide) (fun c_47 => ?_) (fun c_47 => ?_)
                        · skip
                          have t_48 : (k_mrows u).toInt ≤ 398 := i_le c_47 rfl (by decide)
                          refine lv_iconst (v := 0) hx hb dX5_join_147 (by decide) ?_
                          refine va_put (D := (dC, dI)) (C := RX5) (T := TX5) (N := 26) (v := .int 0) (ty := .int) hx hb hts (fi_X5 _) tyX5 tyX5_ok nmX5 hown hK hP hD hS 0 (mw_at0 _ _ _) rfl 0 (by decide) (hts _ (List.mem_cons_of_mem _ wd_237)) (fun _ h9 => h9) rfl (by decide +kernel) rfl rfl (Nat.le_of_ble_eq_true rfl) dX5_join_148 (fun H locs hP hD hS => ?_)
                          have hP : va_P (dC, dI) vwCl (mw g h (s_mcode u 0)) H := hP
                          have hD : va_D A (mw g h (s_mcode u 0)) := hD
                          refine lv_aload_n hx hb dX5_join_151 rfl (lv_at hl 0 rfl) ?_
                          refine va_get (D := (dC, dI)) (C := RX5) (T := TX5) (N := 26) (v := .int 0) hx hb hts (fi_X5 _) hown hK hP 0 (mw_at0 _ _ _) rfl 0 (by decide) (hts _ (List.mem_cons_of_mem _ wd_237)) (fun _ h9 => h9) rfl dX5_join_152 ?_
                          refine lv_if_le (tgt := 159) hx hb dX5_join_155 (by decide) (fun c_49 => ?_) (fun c_49 => ?_)
                          · skip
                            refine lv_aload_n hx hb dX5_join_159 rfl (lv_at hl 0 rfl) ?_
                            refine va_get (D := (dC, dI)) (C := RX5) (T := TX5) (N := 26) (v := .ref (h 6)) hx hb hts (fi_X5 _) hown hK hP 0 (mw_at0 _ _ _) rfl 7 (by decide) (hts _ (List.mem_cons_of_mem _ wd_244)) (fun _ h9 => h9) rfl dX5_join_160 ?_
                            refine lv_iload_n hx hb dX5_join_163 rfl (lv_at hl 2 rfl) ?_
                            refine lv_iload_n hx hb dX5_join_164 rfl (lv_at hl 1 rfl) ?_
                            refine va_iast (f := k_minto u) hx hb hK hP hD hS 6 0 (mw_at6 _ _ _) rfl (vp_in_iff.mpr (by omega)) dX5_join_165 (fun H locs hP hD hS => ?_)
                            have hP : va_P (dC, dI) vwCl (mw g h (s_minto (s_mcode u 0) (upd (k_minto u) x2.toNatClampNeg x1))) H := hP
                            have hD : va_D A (mw g h (s_minto (s_mcode u 0) (upd (k_minto u) x2.toNatClampNeg x1))) := hD
                            refine lv_iconst (v := 1) hx hb dX5_join_166 (by decide) ?_
                            refine lv_istore_n (lv' := [(3, .int 1), (0, .ref (h 0)), (1, .int x1), (2, .int x2)]) hx hb dX5_join_167 rfl hl (by decide) rfl (fun ls hl => ?_)
                            refine lp_indH (fun H locs => W p l e _ s m _ below meth c H locs _ _ _) (fun n H locs ls => ∃ (i : Int32) (v : mS), ((k_munits v).toInt - i.toInt + 1 < (n : Int)) ∧ (1 ≤ i.toInt ∧ i.toInt ≤ 121 ∧ i.toInt ≤ (k_munits v).toInt + 1) ∧ (0 ≤ (k_munits v).toInt ∧ (k_munits v).toInt ≤ 120) ∧ (k_mrows v = k_mrows u) ∧ fX5_join u x1 x2 = lpX5_join x1 x2 n i v ∧ va_P (dC, dI) vwCl (mw g h v) H ∧ va_D A (mw g h v) ∧ va_S A s.heap H locs ∧ lv_has ls 4 [(3, .int i), (0, .ref (h 0)), (1, .int x1), (2, .int x2)]) m 168 (fun H locs ls hI0 => ?_) (fun n H locs ls hI0 ih => ?_) 121 _ _ _ ⟨1, (s_minto (s_mcode u 0) (upd (k_minto u) x2.toNatClampNeg x1)), (by have e9 : k_munits (s_minto (s_mcode u 0) (upd (k_minto u) x2.toNatClampNeg x1)) = k_munits u := rfl; rw [e9]; omega), (by have e9 : k_munits (s_minto (s_mcode u 0) (upd (k_minto u) x2.toNatClampNeg x1)) = k_munits u := rfl; rw [e9]; omega), (by have e9 : k_munits (s_minto (s_mcode u 0) (upd (k_minto u) x2.toNatClampNeg x1)) = k_munits u := rfl; rw [e9]; omega), rfl, (by unfold fX5_join; rw [if_neg c_2, if_neg c_10, if_neg c_16, if_neg c_21, if_neg c_25, if_pos c_29, if_pos c_33, if_pos c_37, if_pos c_41, if_pos c_45, if_pos c_47]), hP, hD, hS, lv_sub hl [0, 1, 2, 3] rfl⟩
                            · skip
                              obtain ⟨i, v, hn, hi, hv, hrw, he, hP, hD, hS, hl⟩ := hI0
                              exact absurd hn (by omega)
                            · skip
                              obtain ⟨i, v, hn, hi, hv, hrw, he, hP, hD, hS, hl⟩ := hI0
                              have he_52 := he
                              have ih_51 := ih
                              refine lv_iload_n hx hb dX5_join_168 rfl (lv_at hl 0 rfl) ?_
                              refine lv_aload_n hx hb dX5_join_169 rfl (lv_at hl 1 rfl) ?_
                              refine va_get (D := (dC, dI)) (C := RX5) (T := TX5) (N := 26) (v := .int (k_munits v)) hx hb hts (fi_X5 _) hown hK hP 0 (mw_at0 _ _ _) rfl 14 (by decide) (hts _ (List.mem_cons_of_mem _ wd_243)) (fun _ h9 => h9) rfl dX5_join_170 ?_
                              refine lv_icmp_gt (tgt := 214) hx hb dX5_join_173 (by decide) (fun c_53 => ?_) (fun c_53 => ?_)
                              · skip
                                have t_54 : (k_munits v).toInt < i.toInt := i_lt c_53 rfl rfl
                                refine lv_aload_n hx hb dX5_join_214 rfl (lv_at hl 1 rfl) ?_
                                refine lv_iload_n hx hb dX5_join_215 rfl (lv_at hl 2 rfl) ?_
                                refine lv_iconst (v := 4) hx hb dX5_join_216 (by decide) ?_
                                refine lv_iload_n hx hb dX5_join_217 rfl (lv_at hl 3 rfl) ?_
                                have hFc := va_free (wc := mw g h v) hD hS hA [0, 1, 2, 3, 4, 5, 6, 7, 8, 9, 10, 11, 12, 13, 14, 15, 16, 17, 18, 19, 20, 21, 22] rfl
                                refine va_callv (va_runV (As := [.int x1, .int 4, .int x2]) (rest := []) ⟨hx, hb, hml, hown, hts⟩ (kX5_row l dC dI g h v _ x1 4 x2 (by show 0 ≤ (k_mrows v).toInt ∧ (k_mrows v).toInt < 400; rw [hrw]; omega)) (cwV 3 hts (gV wd_283 wd_284 wd_285 wd_241 wcX5_row) rfl rfl rfl (by decide +kernel) ⟨(Nat.le_of_ble_eq_true rfl), (Nat.le_of_ble_eq_true rfl)⟩) ⟨fun a U g mk q => by obtain ⟨q0, q1, qP, qK, qD⟩ := q; exact ⟨q0, q1, qP, va_K.moved (u := U) (U := U.calling g mk a) (Vm.Alike.refl U.vm) qK, qD⟩, va_recv hK hP (ci := 4) (q0 := 0) rfl (mw_at0 _ _ _), fun U hU hW => ⟨rfl, by rw [hU], by rw [hU]; exact hP, va_K.moved hW.alike hK, hD.weaken (fun _ _ _ _ => trivial)⟩⟩ rfl rfl hl.1 rfl (lv_room (Nat.le_of_ble_eq_true rfl)) dX5_join_218 ⟨(Nat.le_of_ble_eq_true rfl), (Nat.le_of_ble_eq_true rfl)⟩) hS (fun q _ h => hFc q h) hFc (fun u_55 t H locs ht hvm hw hB hz1 hk1 hS => ?_)
                                obtain ⟨hP, hD⟩ := hB
                                rw [ht] at hP
                                have hD := hD.weaken (fun _ _ _ h => hFc _ h)
                                have e_57 : u_55 = fX5_row v x1 4 x2 := hw
                                clear hw
                                refine lv_aload_n hx hb dX5_join_221 rfl (lv_at hl 1 rfl) ?_
                                refine lv_iload_n hx hb dX5_join_222 rfl (lv_at hl 3 rfl) ?_
                                refine lv_iconst (v := 5) hx hb dX5_join_223 (by decide) ?_
                                refine lv_iload_n hx hb dX5_join_224 rfl (lv_at hl 2 rfl) ?_
                                have hFc := va_free (wc := mw g h u_55) hD hS hA [0, 1, 2, 3, 4, 5, 6, 7, 8, 9, 10, 11, 12, 13, 14, 15, 16, 17, 18, 19, 20, 21, 22] rfl
                                refine va_callv (va_runV (As := [.int x2, .int 5, .int x1]) (rest := []) ⟨hx, hb, hml, hown, hts⟩ (kX5_row l dC dI g h u_55 _ x2 5 x1 (by subst e_57; have hm2 := i_inc (x := k_mrows u) (by omega); show 0 ≤ (k_mrows v + 1).toInt ∧ (k_mrows v + 1).toInt < 400; rw [hrw]; omega)) (cwV 3 hts (gV wd_283 wd_284 wd_285 wd_241 wcX5_row) rfl rfl rfl (by decide +kernel) ⟨(Nat.le_of_ble_eq_true rfl), (Nat.le_of_ble_eq_true rfl)⟩) ⟨fun a U g mk q => by obtain ⟨q0, q1, qP, qK, qD⟩ := q; exact ⟨q0, q1, qP, va_K.moved (u := U) (U := U.calling g mk a) (Vm.Alike.refl U.vm) qK, qD⟩, va_recv hK hP (ci := 4) (q0 := 0) rfl (mw_at0 _ _ _), fun U hU hW => ⟨rfl, by rw [hU], by rw [hU]; exact hP, va_K.moved hW.alike hK, hD.weaken (fun _ _ _ _ => trivial)⟩⟩ rfl rfl hl.1 rfl (lv_room (Nat.le_of_ble_eq_true rfl)) dX5_join_225 ⟨(Nat.le_of_ble_eq_true rfl), (Nat.le_of_ble_eq_true rfl)⟩) hS (fun q _ h => hFc q h) hFc (fun u_58 t H locs ht hvm hw hB hz1 hk1 hS => ?_)
                                obtain ⟨hP, hD⟩ := hB
                                rw [ht] at hP
                                have hD := hD.weaken (fun _ _ _ h => hFc _ h)
                                have e_60 : u_58 = fX5_row u_55 x2 5 x1 := hw
                                clear hw
                                exact W.vret hx hb hr (fun t ht hW => ⟨⟨u_58, rfl, (by subst e_60; subst e_57; rw [he_52, lpX5_join_eq, if_pos c_53]), by rw [ht]; exact hP, hD⟩, hS.F ht⟩) hS.2.2 dX5_join_228
                              · skip
                                have t_61 : i.toInt ≤ (k_munits v).toInt := i_nlt c_53 rfl rfl
                                refine lv_aload_n hx hb dX5_join_176 rfl (lv_at hl 1 rfl) ?_
                                refine va_get (D := (dC, dI)) (C := RX5) (T := TX5) (N := 26) (v := .ref (h 13)) hx hb hts (fi_X5 _) hown hK hP 0 (mw_at0 _ _ _) rfl 15 (by decide) (hts _ (List.mem_cons_of_mem _ wd_299)) (fun _ h9 => h9) rfl dX5_join_177 ?_
                                refine lv_iload_n hx hb dX5_join_180 rfl (lv_at hl 0 rfl) ?_
                                refine va_iald (f := k_mlotOf v) hx hb hK hP 13 0 (mw_at13 _ _ _) rfl (vp_in_iff.mpr (by omega)) dX5_join_181 ?_
                                refine lv_iload_n hx hb dX5_join_182 rfl (lv_at hl 3 rfl) ?_
                                refine lv_icmp_eq (tgt := 189) hx hb dX5_join_183 (by decide) (fun c_62 => ?_) (fun c_62 => ?_)
                                · skip
                                  have t_63 : (k_mlotOf v i.toNatClampNeg).toInt = x2.toInt := i_eq c_62 rfl rfl
                                  refine lv_aload_n hx hb dX5_join_189 rfl (lv_at hl 1 rfl) ?_
                                  refine va_get (D := (dC, dI)) (C := RX5) (T := TX5) (N := 26) (v := .ref (h 13)) hx hb hts (fi_X5 _) hown hK hP 0 (mw_at0 _ _ _) rfl 15 (by decide) (hts _ (List.mem_cons_of_mem _ wd_299)) (fun _ h9 => h9) rfl dX5_join_190 ?_
                                  refine lv_iload_n hx hb dX5_join_193 rfl (lv_at hl 0 rfl) ?_
                                  refine lv_iload_n hx hb dX5_join_194 rfl (lv_at hl 2 rfl) ?_
                                  refine va_iast (f := k_mlotOf v) hx hb hK hP hD hS 13 0 (mw_at13 _ _ _) rfl (vp_in_iff.mpr (by omega)) dX5_join_195 (fun H locs hP hD hS => ?_)
                                  have hP : va_P (dC, dI) vwCl (mw g h (s_mlotOf v (upd (k_mlotOf v) i.toNatClampNeg x1))) H := hP
                                  have hD : va_D A (mw g h (s_mlotOf v (upd (k_mlotOf v) i.toNatClampNeg x1))) := hD
                                  refine lv_aload_n hx hb dX5_join_196 rfl (lv_at hl 1 rfl) ?_
                                  refine va_get (D := (dC, dI)) (C := RX5) (T := TX5) (N := 26) (v := .ref (h 17)) hx hb hts (fi_X5 _) hown hK hP 0 (mw_at0 _ _ _) rfl 19 (by decide) (hts _ (List.mem_cons_of_mem _ wd_302)) (fun _ h9 => h9) rfl dX5_join_197 ?_
                                  refine lv_bipush (v := 41) hx hb dX5_join_200 (by decide) ?_
                                  refine lv_iload_n hx hb dX5_join_202 rfl (lv_at hl 0 rfl) ?_
                                  refine lv_imul hx hb dX5_join_203 ?_
                                  refine lv_iload_n hx hb dX5_join_204 rfl (lv_at hl 2 rfl) ?_
                                  refine lv_iadd hx hb dX5_join_205 ?_
                                  refine lv_iconst (v := 1) hx hb dX5_join_206 (by decide) ?_
                                  refine va_zast (f := k_mwas v) hx hb hK hP hD hS 17 1 (mw_at17 _ _ _) rfl (was_in (by omega) (by omega)) dX5_join_207 (fun H locs hP hD hS => ?_)
                                  have hP : va_P (dC, dI) vwCl (mw g h (s_mwas (s_mlotOf v (upd (k_mlotOf v) i.toNatClampNeg x1)) (upd (k_mwas v) ((41 * i) + x1).toNatClampNeg (vp_nar .boolean 1)))) H := hP
                                  have hD : va_D A (mw g h (s_mwas (s_mlotOf v (upd (k_mlotOf v) i.toNatClampNeg x1)) (upd (k_mwas v) ((41 * i) + x1).toNatClampNeg (vp_nar .boolean 1)))) := hD
                                  refine lv_iinc (v := i + 1) (lv' := [(3, .int (i + 1)), (0, .ref (h 0)), (1, .int x1), (2, .int x2)]) hx hb dX5_join_208 hl (k := 0) rfl rfl (by decide) rfl (fun ls hl => ?_)
                                  refine lv_goto (tgt := 168) hx hb dX5_join_211 (by decide) ?_
                                  have hb1 := i_inc (x := i) (by omega)
                                  exact ih_51 _ _ _ ⟨(i + 1), (s_mwas (s_mlotOf v (upd (k_mlotOf v) i.toNatClampNeg x1)) (upd (k_mwas v) ((41 * i) + x1).toNatClampNeg (vp_nar .boolean 1))), (by have e9 : k_munits (s_mwas (s_mlotOf v (upd (k_mlotOf v) i.toNatClampNeg x1)) (upd (k_mwas v) ((41 * i) + x1).toNatClampNeg (vp_nar .boolean 1))) = k_munits v := rfl; rw [e9]; omega), (by have e9 : k_munits (s_mwas (s_mlotOf v (upd (k_mlotOf v) i.toNatClampNeg x1)) (upd (k_mwas v) ((41 * i) + x1).toNatClampNeg (vp_nar .boolean 1))) = k_munits v := rfl; rw [e9]; omega), (by have e9 : k_munits (s_mwas (s_mlotOf v (upd (k_mlotOf v) i.toNatClampNeg x1)) (upd (k_mwas v) ((41 * i) + x1).toNatClampNeg (vp_nar .boolean 1))) = k_munits v := rfl; rw [e9]; omega), hrw, (by rw [he_52, lpX5_join_eq, if_neg c_53, if_pos c_62]), hP, hD, hS, lv_sub hl [0, 1, 2, 3] rfl⟩
                                · skip
                                  have t_64 : (k_mlotOf v i.toNatClampNeg).toInt ≠ x2.toInt := i_ne c_62 rfl rfl
                                  refine lv_goto (tgt := 208) hx hb dX5_join_186 (by decide) ?_
                                  refine lv_iinc (v := i + 1) (lv' := [(3, .int (i + 1)), (0, .ref (h 0)), (1, .int x1), (2, .int x2)]) hx hb dX5_join_208 hl (k := 0) rfl rfl (by decide) rfl (fun ls hl => ?_)
                                  refine lv_goto (tgt := 168) hx hb dX5_join_211 (by decide) ?_
                                  have hb1 := i_inc (x := i) (by omega)
                                  exact ih_51 _ _ _ ⟨(i + 1), v, (by have e9 : k_munits v = k_munits v := rfl; rw [e9]; omega), (by have e9 : k_munits v = k_munits v := rfl; rw [e9]; omega), (by have e9 : k_munits v = k_munits v := rfl; rw [e9]; omega), hrw, (by rw [he_52, lpX5_join_eq, if_neg c_53, if_neg c_62]), hP, hD, hS, lv_sub hl [0, 1, 2, 3] rfl⟩
                          · skip
                            exact absurd (by decide) c_49
                        · skip
                          have t_65 : 398 < (k_mrows u).toInt := i_nle c_47 rfl (by decide)
                          refine lv_iconst (v := 3) hx hb dX5_join_143 (by decide) ?_
                          refine lv_goto (tgt := 148) hx hb dX5_join_144 (by decide) ?_
                          refine va_put (D := (dC, dI)) (C := RX5) (T := TX5) (N := 26) (v := .int 3) (ty := .int) hx hb hts (fi_X5 _) tyX5 tyX5_ok nmX5 hown hK hP hD hS 0 (mw_at0 _ _ _) rfl 0 (by decide) (hts _ (List.mem_cons_of_mem _ wd_237)) (fun _ h9 => h9) rfl (by decide +kernel) rfl rfl (Nat.le_of_ble_eq_true rfl) dX5_join_148 (fun H locs hP hD hS => ?_)
                          have hP : va_P (dC, dI) vwCl (mw g h (s_mcode u 3)) H := hP
                          have hD : va_D A (mw g h (s_mcode u 3)) := hD
                          refine lv_aload_n hx hb dX5_join_151 rfl (lv_at hl 0 rfl) ?_
                          refine va_get (D := (dC, dI)) (C := RX5) (T := TX5) (N := 26) (v := .int 3) hx hb hts (fi_X5 _) hown hK hP 0 (mw_at0 _ _ _) rfl 0 (by decide) (hts _ (List.mem_cons_of_mem _ wd_237)) (fun _ h9 => h9) rfl dX5_join_152 ?_
                          refine lv_if_le (tgt := 159) hx hb dX5_join_155 (by decide) (fun c_66 => ?_) (fun c_66 => ?_)
                          · skip
                            exact absurd c_66 (by decide)
                          · skip
                            exact W.vret hx hb hr (fun t ht hW => ⟨⟨(s_mcode u 3), rfl, (by unfold fX5_join; rw [if_neg c_2, if_neg c_10, if_neg c_16, if_neg c_21, if_neg c_25, if_pos c_29, if_pos c_33, if_pos c_37, if_pos c_41, if_pos c_45, if_neg c_47]), by rw [ht]; exact hP, hD⟩, hS.F ht⟩) hS.2.2 dX5_join_158
                      · skip
                        have t_67 : (k_mquiet u x1.toNatClampNeg).toInt ≠ (k_mquiet u x2.toNatClampNeg).toInt := i_ne c_45 rfl rfl
                        refine lv_iconst (v := 2) hx hb dX5_join_129 (by decide) ?_
                        refine lv_goto (tgt := 148) hx hb dX5_join_130 (by decide) ?_
                        refine va_put (D := (dC, dI)) (C := RX5) (T := TX5) (N := 26) (v := .int 2) (ty := .int) hx hb hts (fi_X5 _) tyX5 tyX5_ok nmX5 hown hK hP hD hS 0 (mw_at0 _ _ _) rfl 0 (by decide) (hts _ (List.mem_cons_of_mem _ wd_237)) (fun _ h9 => h9) rfl (by decide +kernel) rfl rfl (Nat.le_of_ble_eq_true rfl) dX5_join_148 (fun H locs hP hD hS => ?_)
                        have hP : va_P (dC, dI) vwCl (mw g h (s_mcode u 2)) H := hP
                        have hD : va_D A (mw g h (s_mcode u 2)) := hD
                        refine lv_aload_n hx hb dX5_join_151 rfl (lv_at hl 0 rfl) ?_
                        refine va_get (D := (dC, dI)) (C := RX5) (T := TX5) (N := 26) (v := .int 2) hx hb hts (fi_X5 _) hown hK hP 0 (mw_at0 _ _ _) rfl 0 (by decide) (hts _ (List.mem_cons_of_mem _ wd_237)) (fun _ h9 => h9) rfl dX5_join_152 ?_
                        refine lv_if_le (tgt := 159) hx hb dX5_join_155 (by decide) (fun c_68 => ?_) (fun c_68 => ?_)
                        · skip
                          exact absurd c_68 (by decide)
                        · skip
                          exact W.vret hx hb hr (fun t ht hW => ⟨⟨(s_mcode u 2), rfl, (by unfold fX5_join; rw [if_neg c_2, if_neg c_10, if_neg c_16, if_neg c_21, if_neg c_25, if_pos c_29, if_pos c_33, if_pos c_37, if_pos c_41, if_neg c_45]), by rw [ht]; exact hP, hD⟩, hS.F ht⟩) hS.2.2 dX5_join_158
    · skip
      have t_69 : (fX5_isLot u x2).toInt = 0 := i_eq c_10 rfl (by decide)
      refine lv_iconst (v := 1) hx hb dX5_join_17 (by decide) ?_
      refine lv_goto (tgt := 22) hx hb dX5_join_18 (by decide) ?_
      refine va_put (D := (dC, dI)) (C := RX5) (T := TX5) (N := 26) (v := .int 1) (ty := .int) hx hb hts (fi_X5 _) tyX5 tyX5_ok nmX5 hown hK hP hD hS 0 (mw_at0 _ _ _) rfl 0 (by decide) (hts _ (List.mem_cons_of_mem _ wd_237)) (fun _ h9 => h9) rfl (by decide +kernel) rfl rfl (Nat.le_of_ble_eq_true rfl) dX5_join_22 (fun H locs hP hD hS => ?_)
      have hP : va_P (dC, dI) vwCl (mw g h (s_mcode u 1)) H := hP
      have hD : va_D A (mw g h (s_mcode u 1)) := hD
      refine lv_aload_n hx hb dX5_join_25 rfl (lv_at hl 0 rfl) ?_
      refine va_get (D := (dC, dI)) (C := RX5) (T := TX5) (N := 26) (v := .int 1) hx hb hts (fi_X5 _) hown hK hP 0 (mw_at0 _ _ _) rfl 0 (by decide) (hts _ (List.mem_cons_of_mem _ wd_237)) (fun _ h9 => h9) rfl dX5_join_26 ?_
      refine lv_if_ne (tgt := 151) hx hb dX5_join_29 (by decide) (fun c_70 => ?_) (fun c_70 => ?_)
      · skip
        refine lv_aload_n hx hb dX5_join_151 rfl (lv_at hl 0 rfl) ?_
        refine va_get (D := (dC, dI)) (C := RX5) (T := TX5) (N := 26) (v := .int 1) hx hb hts (fi_X5 _) hown hK hP 0 (mw_at0 _ _ _) rfl 0 (by decide) (hts _ (List.mem_cons_of_mem _ wd_237)) (fun _ h9 => h9) rfl dX5_join_152 ?_
        refine lv_if_le (tgt := 159) hx hb dX5_join_155 (by decide) (fun c_71 => ?_) (fun c_71 => ?_)
        · skip
          exact absurd c_71 (by decide)
        · skip
          exact W.vret hx hb hr (fun t ht hW => ⟨⟨(s_mcode u 1), rfl, (by unfold fX5_join; rw [if_neg c_2, if_pos c_10]), by rw [ht]; exact hP, hD⟩, hS.F ht⟩) hS.2.2 dX5_join_158
      · skip
        exact absurd c_70 (by decide)