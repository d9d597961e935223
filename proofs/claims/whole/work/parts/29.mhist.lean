set_option maxHeartbeats 4000000 in
set_option maxRecDepth 100000 in
theorem kX5_history (l : Launch) (dC : Nat → ClassId) (dI : Nat → Nat → Nat) (g : cG) (h : Nat → Nat) (u : mS) (sz : Nat) (x1 : Int32) (x2 : Int32) (x3 : Int32) (hI : mInv u) : Met l yX5_history wsX5_history ({ frames := 2, cells := 0, slots := 0, locals := 43 }) (va_Pc [.ref (h 0), .int x1, .int x2, .int x3] (fun U => U.heap.size = sz ∧ va_P (dC, dI) vwCl (mw g h u) U.heap ∧ va_K (dC, dI) vwCl (cTys g) U ∧ va_D (fun _ => True) (mw g h u))) (va_Qi (fun (r : Int32) u2 => (r, u2) = fX5_history u x1 x2 x3) (fun (u2 : mS) (t : State) => va_P (dC, dI) vwCl (mw g h u2) t.heap ∧ va_D (va_A (mw g h u) sz) (mw g h u2)) (va_A (mw g h u) sz)) 0 0 (va_A (mw g h u) sz) := by
  refine Met.ofW (cc := cX5_history) (maxL := 7) (ret := (some .int)) (by decide) rfl ?_
  intro p e s m args below meth c s₁ B hml hv
  obtain ⟨rfl, hsz, hP, hK, hD0⟩ := hv
  have hx := B.exec
  have hb := B.bytes
  have hr := B.returns
  have hts := atoms_spec (ws := wsX5_history) B.pre
  have hown : s.vm.findClass RX5 = some m.cls := findClass_of_methodNamed B.named
  have hlocks := B.notSynchronized
  subst hsz
  have hD := hD0.self (sz := s.heap.size)
  generalize hAe : va_A (mw g h u) s.heap.size = A at hD ⊢
  have hA : ∀ q : Nat, s.heap.size ≤ q → A q := fun q h => by rw [← hAe]; exact Or.inr h
  have hS : va_S A s.heap s.heap [] := va_S.rf
  have hl := lv_entry ([.ref (h 0), .int x1, .int x2, .int x3]) (n := 7) (Nat.le_of_ble_eq_true rfl)
  rw [lg_entry_eq]
  generalize (lg_sl ([.ref (h 0), .int x1, .int x2, .int x3]) ++ List.replicate (7 - (lg_sl ([.ref (h 0), .int x1, .int x2, .int x3])).length) Slot.unset).toArray = ls at hl ⊢
  have hl : lv_has ls 7 [(0, .ref (h 0)), (1, .int x1), (2, .int x2), (3, .int x3)] := hl
  obtain ⟨hI1, hI2, hI3, hI4, hI5, hI6, hI7⟩ := id hI
  have z_0 : (0 : Int32).toInt = 0 := by decide
  have z_1 : ((-1) : Int32).toInt = -1 := by decide
  have z_2 : (1 : Int32).toInt = 1 := by decide
  refine lv_iconst (v := (-1)) hx hb dX5_history_0 (by decide) ?_
  refine lv_istore (lv' := [(4, .int (-1)), (0, .ref (h 0)), (1, .int x1), (2, .int x2), (3, .int x3)]) hx hb dX5_history_1 hl (by decide) rfl (fun ls hl => ?_)
  refine lv_iload_n hx hb dX5_history_3 rfl (lv_at hl 3 rfl) ?_
  refine lv_istore (lv' := [(5, .int x2), (4, .int (-1)), (0, .ref (h 0)), (1, .int x1), (2, .int x2), (3, .int x3)]) hx hb dX5_history_4 hl (by decide) rfl (fun ls hl => ?_)
  refine lv_iconst (v := 0) hx hb dX5_history_6 (by decide) ?_
  refine lv_istore (lv' := [(6, .int 0), (5, .int x2), (4, .int (-1)), (0, .ref (h 0)), (1, .int x1), (2, .int x2), (3, .int x3)]) hx hb dX5_history_7 hl (by decide) rfl (fun ls hl => ?_)
  refine lp_ind (W p l e _ s m _ below meth c _ _ _ _ _) (fun n ls => ∃ (i : Int32) (b : Int32) (a : Int32), ((k_mrows u).toInt - i.toInt < (n : Int)) ∧ (0 ≤ i.toInt ∧ i.toInt ≤ 400 ∧ i.toInt ≤ (k_mrows u).toInt) ∧ (-1 ≤ b.toInt ∧ b.toInt < 400) ∧ fX5_history u x1 x2 x3 = lpX5_history u x1 x2 x3 n i b a ∧ lv_has ls 7 [(6, .int i), (4, .int b), (5, .int a), (0, .ref (h 0)), (1, .int x1), (2, .int x2), (3, .int x3)]) m 9 (fun ls hI0 => ?_) (fun n ls hI0 ih => ?_) 401 _ ⟨0, (-1), x2, (by omega), (by omega), (by omega), rfl, lv_sub hl [0, 2, 1, 3, 4, 5, 6] rfl⟩
  · skip
    obtain ⟨i, b, a, hn, hi, hf, he, hl⟩ := hI0
    exact absurd hn (by omega)
  · skip
    obtain ⟨i, b, a, hn, hi, hf, he, hl⟩ := hI0
    have he_3 := he
    have ih_2 := ih
    refine lv_iload hx hb dX5_history_9 (lv_at hl 0 rfl) ?_
    refine lv_aload_n hx hb dX5_history_11 rfl (lv_at hl 3 rfl) ?_
    refine va_get (D := (dC, dI)) (C := RX5) (T := TX5) (N := 26) (v := .int (k_mrows u)) hx hb hts (fi_X5 _) hown hK hP 0 (mw_at0 _ _ _) rfl 20 (by decide) (hts _ (List.mem_cons_of_mem _ wd_273)) (fun _ h9 => h9) rfl dX5_history_12 ?_
    refine lv_icmp_ge (tgt := 62) hx hb dX5_history_15 (by decide) (fun c_4 => ?_) (fun c_4 => ?_)
    · skip
      have t_5 : (k_mrows u).toInt ≤ i.toInt := i_le c_4 rfl rfl
      refine lv_aload_n hx hb dX5_history_62 rfl (lv_at hl 3 rfl) ?_
      refine lv_iload hx hb dX5_history_63 (lv_at hl 1 rfl) ?_
      refine lv_iconst (v := (-1)) hx hb dX5_history_65 (by decide) ?_
      refine lv_icmp_ne (tgt := 73) hx hb dX5_history_66 (by decide) (fun c_6 => ?_) (fun c_6 => ?_)
      · skip
        have t_7 : b.toInt ≠ -1 := i_ne c_6 rfl (by decide)
        refine lv_iload_n hx hb dX5_history_73 rfl (lv_at hl 6 rfl) ?_
        refine lv_iconst (v := 0) hx hb dX5_history_74 (by decide) ?_
        refine lv_iconst (v := 1) hx hb dX5_history_75 (by decide) ?_
        refine vp_callSi (W.runS (As := [.int x3, .int 0, .int 1]) (rest := [.ref (h 0)]) ⟨hx, hb, hml, hown, hts⟩ (kX5_in l dC dI x3 0 1) (cwS 3 hts (gS wd_239 wd_240 wd_241 wcX5_in) rfl rfl rfl (by decide +kernel) ⟨(Nat.le_of_ble_eq_true rfl), (Nat.le_of_ble_eq_true rfl)⟩) ⟨fun a U g mk q => by obtain ⟨q0, qT⟩ := q; exact ⟨q0, qT⟩, fun U hU hW => ⟨rfl, trivial⟩⟩ rfl rfl hl.1 rfl (lv_room (Nat.le_of_ble_eq_true rfl)) dX5_history_76 ⟨(Nat.le_of_ble_eq_true rfl), (Nat.le_of_ble_eq_true rfl)⟩) (fun r_8 hw => ?_)
        subst hw
        refine lv_if_ne (tgt := 86) hx hb dX5_history_79 (by decide) (fun c_9 => ?_) (fun c_9 => ?_)
        · skip
          have t_10 : (fX5_in x3 0 1).toInt ≠ 0 := i_ne c_9 rfl (by decide)
          have t_11 := in_lo c_9
          have t_12 := in_hi c_9
          refine lv_iconst (v := 0) hx hb dX5_history_86 (by decide) ?_
          refine va_put (D := (dC, dI)) (C := RX5) (T := TX5) (N := 26) (v := .int 0) (ty := .int) hx hb hts (fi_X5 _) tyX5 tyX5_ok nmX5 hown hK hP hD hS 0 (mw_at0 _ _ _) rfl 0 (by decide) (hts _ (List.mem_cons_of_mem _ wd_237)) (fun _ h9 => h9) rfl (by decide +kernel) rfl rfl (Nat.le_of_ble_eq_true rfl) dX5_history_87 (fun H locs hP hD hS => ?_)
          have hP : va_P (dC, dI) vwCl (mw g h (s_mcode u 0)) H := hP
          have hD : va_D A (mw g h (s_mcode u 0)) := hD
          refine lv_aload_n hx hb dX5_history_90 rfl (lv_at hl 3 rfl) ?_
          refine va_get (D := (dC, dI)) (C := RX5) (T := TX5) (N := 26) (v := .int 0) hx hb hts (fi_X5 _) hown hK hP 0 (mw_at0 _ _ _) rfl 0 (by decide) (hts _ (List.mem_cons_of_mem _ wd_237)) (fun _ h9 => h9) rfl dX5_history_91 ?_
          refine lv_if_le (tgt := 99) hx hb dX5_history_94 (by decide) (fun c_13 => ?_) (fun c_13 => ?_)
          · skip
            refine lv_iload_n hx hb dX5_history_99 rfl (lv_at hl 6 rfl) ?_
            refine lv_if_ne (tgt := 113) hx hb dX5_history_100 (by decide) (fun c_14 => ?_) (fun c_14 => ?_)
            · skip
              have t_15 : x3.toInt ≠ 0 := i_ne c_14 rfl (by decide)
              refine lv_aload_n hx hb dX5_history_113 rfl (lv_at hl 3 rfl) ?_
              refine va_get (D := (dC, dI)) (C := RX5) (T := TX5) (N := 26) (v := .ref (h 20)) hx hb hts (fi_X5 _) hown hK hP 0 (mw_at0 _ _ _) rfl 23 (by decide) (hts _ (List.mem_cons_of_mem _ wd_275)) (fun _ h9 => h9) rfl dX5_history_114 ?_
              refine lv_iload hx hb dX5_history_117 (lv_at hl 1 rfl) ?_
              refine va_iald (f := k_mrn u) hx hb hK hP 20 0 (mw_at20 _ _ _) rfl (vp_in_iff.mpr (by omega)) dX5_history_119 ?_
              exact W.iret (v := k_mrn u b.toNatClampNeg) hx hb hr (fun t ht hW => ⟨⟨(k_mrn u b.toNatClampNeg), (s_mcode u 0), rfl, (by rw [he_3, lpX5_history_eq, if_pos c_4, if_neg c_6, if_neg c_9, if_neg c_14]), by rw [ht]; exact hP, hD⟩, hS.F ht⟩) hS.2.2 dX5_history_120
            · skip
              have t_16 : x3.toInt = 0 := i_eq c_14 rfl (by decide)
              refine lv_aload_n hx hb dX5_history_103 rfl (lv_at hl 3 rfl) ?_
              refine va_get (D := (dC, dI)) (C := RX5) (T := TX5) (N := 26) (v := .ref (h 19)) hx hb hts (fi_X5 _) hown hK hP 0 (mw_at0 _ _ _) rfl 22 (by decide) (hts _ (List.mem_cons_of_mem _ wd_274)) (fun _ h9 => h9) rfl dX5_history_104 ?_
              refine lv_iload hx hb dX5_history_107 (lv_at hl 1 rfl) ?_
              refine va_iald (f := k_mrk u) hx hb hK hP 19 0 (mw_at19 _ _ _) rfl (vp_in_iff.mpr (by omega)) dX5_history_109 ?_
              refine lv_goto (tgt := 120) hx hb dX5_history_110 (by decide) ?_
              exact W.iret (v := k_mrk u b.toNatClampNeg) hx hb hr (fun t ht hW => ⟨⟨(k_mrk u b.toNatClampNeg), (s_mcode u 0), rfl, (by rw [he_3, lpX5_history_eq, if_pos c_4, if_neg c_6, if_neg c_9, if_pos c_14]), by rw [ht]; exact hP, hD⟩, hS.F ht⟩) hS.2.2 dX5_history_120
          · skip
            exact absurd (by decide) c_13
        · skip
          have t_17 : (fX5_in x3 0 1).toInt = 0 := i_eq c_9 rfl (by decide)
          refine lv_iconst (v := 2) hx hb dX5_history_82 (by decide) ?_
          refine lv_goto (tgt := 87) hx hb dX5_history_83 (by decide) ?_
          refine va_put (D := (dC, dI)) (C := RX5) (T := TX5) (N := 26) (v := .int 2) (ty := .int) hx hb hts (fi_X5 _) tyX5 tyX5_ok nmX5 hown hK hP hD hS 0 (mw_at0 _ _ _) rfl 0 (by decide) (hts _ (List.mem_cons_of_mem _ wd_237)) (fun _ h9 => h9) rfl (by decide +kernel) rfl rfl (Nat.le_of_ble_eq_true rfl) dX5_history_87 (fun H locs hP hD hS => ?_)
          have hP : va_P (dC, dI) vwCl (mw g h (s_mcode u 2)) H := hP
          have hD : va_D A (mw g h (s_mcode u 2)) := hD
          refine lv_aload_n hx hb dX5_history_90 rfl (lv_at hl 3 rfl) ?_
          refine va_get (D := (dC, dI)) (C := RX5) (T := TX5) (N := 26) (v := .int 2) hx hb hts (fi_X5 _) hown hK hP 0 (mw_at0 _ _ _) rfl 0 (by decide) (hts _ (List.mem_cons_of_mem _ wd_237)) (fun _ h9 => h9) rfl dX5_history_91 ?_
          refine lv_if_le (tgt := 99) hx hb dX5_history_94 (by decide) (fun c_18 => ?_) (fun c_18 => ?_)
          · skip
            exact absurd c_18 (by decide)
          · skip
            refine lv_iconst (v := 0) hx hb dX5_history_97 (by decide) ?_
            exact W.iret (v := 0) hx hb hr (fun t ht hW => ⟨⟨0, (s_mcode u 2), rfl, (by rw [he_3, lpX5_history_eq, if_pos c_4, if_neg c_6, if_pos c_9]), by rw [ht]; exact hP, hD⟩, hS.F ht⟩) hS.2.2 dX5_history_98
      · skip
        have t_19 : b.toInt = -1 := i_eq c_6 rfl (by decide)
        refine lv_iconst (v := 1) hx hb dX5_history_69 (by decide) ?_
        refine lv_goto (tgt := 87) hx hb dX5_history_70 (by decide) ?_
        refine va_put (D := (dC, dI)) (C := RX5) (T := TX5) (N := 26) (v := .int 1) (ty := .int) hx hb hts (fi_X5 _) tyX5 tyX5_ok nmX5 hown hK hP hD hS 0 (mw_at0 _ _ _) rfl 0 (by decide) (hts _ (List.mem_cons_of_mem _ wd_237)) (fun _ h9 => h9) rfl (by decide +kernel) rfl rfl (Nat.le_of_ble_eq_true rfl) dX5_history_87 (fun H locs hP hD hS => ?_)
        have hP : va_P (dC, dI) vwCl (mw g h (s_mcode u 1)) H := hP
        have hD : va_D A (mw g h (s_mcode u 1)) := hD
        refine lv_aload_n hx hb dX5_history_90 rfl (lv_at hl 3 rfl) ?_
        refine va_get (D := (dC, dI)) (C := RX5) (T := TX5) (N := 26) (v := .int 1) hx hb hts (fi_X5 _) hown hK hP 0 (mw_at0 _ _ _) rfl 0 (by decide) (hts _ (List.mem_cons_of_mem _ wd_237)) (fun _ h9 => h9) rfl dX5_history_91 ?_
        refine lv_if_le (tgt := 99) hx hb dX5_history_94 (by decide) (fun c_20 => ?_) (fun c_20 => ?_)
        · skip
          exact absurd c_20 (by decide)
        · skip
          refine lv_iconst (v := 0) hx hb dX5_history_97 (by decide) ?_
          exact W.iret (v := 0) hx hb hr (fun t ht hW => ⟨⟨0, (s_mcode u 1), rfl, (by rw [he_3, lpX5_history_eq, if_pos c_4, if_pos c_6]), by rw [ht]; exact hP, hD⟩, hS.F ht⟩) hS.2.2 dX5_history_98
    · skip
      have t_21 : i.toInt < (k_mrows u).toInt := i_nle c_4 rfl rfl
      refine lv_aload_n hx hb dX5_history_18 rfl (lv_at hl 3 rfl) ?_
      refine lv_iload_n hx hb dX5_history_19 rfl (lv_at hl 4 rfl) ?_
      refine vp_callSi (W.runV (As := [.int x1]) (rest := []) ⟨hx, hb, hml, hown, hts⟩ (kX5_isLot l dC dI g h u x1) (cwV 1 hts (gV wd_288 wd_289 wd_290 wd_241 wcX5_isLot) rfl rfl rfl (by decide +kernel) ⟨(Nat.le_of_ble_eq_true rfl), (Nat.le_of_ble_eq_true rfl)⟩) ⟨fun a U g mk q => by obtain ⟨q0, qP, qK⟩ := q; exact ⟨q0, qP, va_K.moved (u := U) (U := U.calling g mk a) (Vm.Alike.refl U.vm) qK⟩, va_recv hK hP (ci := 4) (q0 := 0) rfl (mw_at0 _ _ _), fun U hU hW => ⟨rfl, by rw [hU]; exact hP, va_K.moved hW.alike hK⟩⟩ rfl rfl hl.1 rfl (lv_room (Nat.le_of_ble_eq_true rfl)) dX5_history_20 ⟨(Nat.le_of_ble_eq_true rfl), (Nat.le_of_ble_eq_true rfl)⟩) (fun r_22 hw => ?_)
      subst hw
      refine lv_if_eq (tgt := 62) hx hb dX5_history_23 (by decide) (fun c_23 => ?_) (fun c_23 => ?_)
      · skip
        have t_24 : (fX5_isLot u x1).toInt = 0 := i_eq c_23 rfl (by decide)
        refine lv_aload_n hx hb dX5_history_62 rfl (lv_at hl 3 rfl) ?_
        refine lv_iload hx hb dX5_history_63 (lv_at hl 1 rfl) ?_
        refine lv_iconst (v := (-1)) hx hb dX5_history_65 (by decide) ?_
        refine lv_icmp_ne (tgt := 73) hx hb dX5_history_66 (by decide) (fun c_25 => ?_) (fun c_25 => ?_)
        · skip
          have t_26 : b.toInt ≠ -1 := i_ne c_25 rfl (by decide)
          refine lv_iload_n hx hb dX5_history_73 rfl (lv_at hl 6 rfl) ?_
          refine lv_iconst (v := 0) hx hb dX5_history_74 (by decide) ?_
          refine lv_iconst (v := 1) hx hb dX5_history_75 (by decide) ?_
          refine vp_callSi (W.runS (As := [.int x3, .int 0, .int 1]) (rest := [.ref (h 0)]) ⟨hx, hb, hml, hown, hts⟩ (kX5_in l dC dI x3 0 1) (cwS 3 hts (gS wd_239 wd_240 wd_241 wcX5_in) rfl rfl rfl (by decide +kernel) ⟨(Nat.le_of_ble_eq_true rfl), (Nat.le_of_ble_eq_true rfl)⟩) ⟨fun a U g mk q => by obtain ⟨q0, qT⟩ := q; exact ⟨q0, qT⟩, fun U hU hW => ⟨rfl, trivial⟩⟩ rfl rfl hl.1 rfl (lv_room (Nat.le_of_ble_eq_true rfl)) dX5_history_76 ⟨(Nat.le_of_ble_eq_true rfl), (Nat.le_of_ble_eq_true rfl)⟩) (fun r_27 hw => ?_)
          subst hw
          refine lv_if_ne (tgt := 86) hx hb dX5_history_79 (by decide) (fun c_28 => ?_) (fun c_28 => ?_)
          · skip
            have t_29 : (fX5_in x3 0 1).toInt ≠ 0 := i_ne c_28 rfl (by decide)
            have t_30 := in_lo c_28
            have t_31 := in_hi c_28
            refine lv_iconst (v := 0) hx hb dX5_history_86 (by decide) ?_
            refine va_put (D := (dC, dI)) (C := RX5) (T := TX5) (N := 26) (v := .int 0) (ty := .int) hx hb hts (fi_X5 _) tyX5 tyX5_ok nmX5 hown hK hP hD hS 0 (mw_at0 _ _ _) rfl 0 (by decide) (hts _ (List.mem_cons_of_mem _ wd_237)) (fun _ h9 => h9) rfl (by decide +kernel) rfl rfl (Nat.le_of_ble_eq_true rfl) dX5_history_87 (fun H locs hP hD hS => ?_)
            have hP : va_P (dC, dI) vwCl (mw g h (s_mcode u 0)) H := hP
            have hD : va_D A (mw g h (s_mcode u 0)) := hD
            refine lv_aload_n hx hb dX5_history_90 rfl (lv_at hl 3 rfl) ?_
            refine va_get (D := (dC, dI)) (C := RX5) (T := TX5) (N := 26) (v := .int 0) hx hb hts (fi_X5 _) hown hK hP 0 (mw_at0 _ _ _) rfl 0 (by decide) (hts _ (List.mem_cons_of_mem _ wd_237)) (fun _ h9 => h9) rfl dX5_history_91 ?_
            refine lv_if_le (tgt := 99) hx hb dX5_history_94 (by decide) (fun c_32 => ?_) (fun c_32 => ?_)
            · skip
              refine lv_iload_n hx hb dX5_history_99 rfl (lv_at hl 6 rfl) ?_
              refine lv_if_ne (tgt := 113) hx hb dX5_history_100 (by decide) (fun c_33 => ?_) (fun c_33 => ?_)
              · skip
                have t_34 : x3.toInt ≠ 0 := i_ne c_33 rfl (by decide)
                refine lv_aload_n hx hb dX5_history_113 rfl (lv_at hl 3 rfl) ?_
                refine va_get (D := (dC, dI)) (C := RX5) (T := TX5) (N := 26) (v := .ref (h 20)) hx hb hts (fi_X5 _) hown hK hP 0 (mw_at0 _ _ _) rfl 23 (by decide) (hts _ (List.mem_cons_of_mem _ wd_275)) (fun _ h9 => h9) rfl dX5_history_114 ?_
                refine lv_iload hx hb dX5_history_117 (lv_at hl 1 rfl) ?_
                refine va_iald (f := k_mrn u) hx hb hK hP 20 0 (mw_at20 _ _ _) rfl (vp_in_iff.mpr (by omega)) dX5_history_119 ?_
                exact W.iret (v := k_mrn u b.toNatClampNeg) hx hb hr (fun t ht hW => ⟨⟨(k_mrn u b.toNatClampNeg), (s_mcode u 0), rfl, (by rw [he_3, lpX5_history_eq, if_neg c_4, if_pos c_23, if_neg c_25, if_neg c_28, if_neg c_33]), by rw [ht]; exact hP, hD⟩, hS.F ht⟩) hS.2.2 dX5_history_120
              · skip
                have t_35 : x3.toInt = 0 := i_eq c_33 rfl (by decide)
                refine lv_aload_n hx hb dX5_history_103 rfl (lv_at hl 3 rfl) ?_
                refine va_get (D := (dC, dI)) (C := RX5) (T := TX5) (N := 26) (v := .ref (h 19)) hx hb hts (fi_X5 _) hown hK hP 0 (mw_at0 _ _ _) rfl 22 (by decide) (hts _ (List.mem_cons_of_mem _ wd_274)) (fun _ h9 => h9) rfl dX5_history_104 ?_
                refine lv_iload hx hb dX5_history_107 (lv_at hl 1 rfl) ?_
                refine va_iald (f := k_mrk u) hx hb hK hP 19 0 (mw_at19 _ _ _) rfl (vp_in_iff.mpr (by omega)) dX5_history_109 ?_
                refine lv_goto (tgt := 120) hx hb dX5_history_110 (by decide) ?_
                exact W.iret (v := k_mrk u b.toNatClampNeg) hx hb hr (fun t ht hW => ⟨⟨(k_mrk u b.toNatClampNeg), (s_mcode u 0), rfl, (by rw [he_3, lpX5_history_eq, if_neg c_4, if_pos c_23, if_neg c_25, if_neg c_28, if_pos c_33]), by rw [ht]; exact hP, hD⟩, hS.F ht⟩) hS.2.2 dX5_history_120
            · skip
              exact absurd (by decide) c_32
          · skip
            have t_36 : (fX5_in x3 0 1).toInt = 0 := i_eq c_28 rfl (by decide)
            refine lv_iconst (v := 2) hx hb dX5_history_82 (by decide) ?_
            refine lv_goto (tgt := 87) hx hb dX5_history_83 (by decide) ?_
            refine va_put (D := (dC, dI)) (C := RX5) (T := TX5) (N := 26) (v := .int 2) (ty := .int) hx hb hts (fi_X5 _) tyX5 tyX5_ok nmX5 hown hK hP hD hS 0 (mw_at0 _ _ _) rfl 0 (by decide) (hts _ (List.mem_cons_of_mem _ wd_237)) (fun _ h9 => h9) rfl (by decide +kernel) rfl rfl (Nat.le_of_ble_eq_true rfl) dX5_history_87 (fun H locs hP hD hS => ?_)
            have hP : va_P (dC, dI) vwCl (mw g h (s_mcode u 2)) H := hP
            have hD : va_D A (mw g h (s_mcode u 2)) := hD
            refine lv_aload_n hx hb dX5_history_90 rfl (lv_at hl 3 rfl) ?_
            refine va_get (D := (dC, dI)) (C := RX5) (T := TX5) (N := 26) (v := .int 2) hx hb hts (fi_X5 _) hown hK hP 0 (mw_at0 _ _ _) rfl 0 (by decide) (hts _ (List.mem_cons_of_mem _ wd_237)) (fun _ h9 => h9) rfl dX5_history_91 ?_
            refine lv_if_le (tgt := 99) hx hb dX5_history_94 (by decide) (fun c_37 => ?_) (fun c_37 => ?_)
            · skip
              exact absurd c_37 (by decide)
            · skip
              refine lv_iconst (v := 0) hx hb dX5_history_97 (by decide) ?_
              exact W.iret (v := 0) hx hb hr (fun t ht hW => ⟨⟨0, (s_mcode u 2), rfl, (by rw [he_3, lpX5_history_eq, if_neg c_4, if_pos c_23, if_neg c_25, if_pos c_28]), by rw [ht]; exact hP, hD⟩, hS.F ht⟩) hS.2.2 dX5_history_98
        · skip
          have t_38 : b.toInt = -1 := i_eq c_25 rfl (by decide)
          refine lv_iconst (v := 1) hx hb dX5_history_69 (by decide) ?_
          refine lv_goto (tgt := 87) hx hb dX5_history_70 (by decide) ?_
          refine va_put (D := (dC, dI)) (C := RX5) (T := TX5) (N := 26) (v := .int 1) (ty := .int) hx hb hts (fi_X5 _) tyX5 tyX5_ok nmX5 hown hK hP hD hS 0 (mw_at0 _ _ _) rfl 0 (by decide) (hts _ (List.mem_cons_of_mem _ wd_237)) (fun _ h9 => h9) rfl (by decide +kernel) rfl rfl (Nat.le_of_ble_eq_true rfl) dX5_history_87 (fun H locs hP hD hS => ?_)
          have hP : va_P (dC, dI) vwCl (mw g h (s_mcode u 1)) H := hP
          have hD : va_D A (mw g h (s_mcode u 1)) := hD
          refine lv_aload_n hx hb dX5_history_90 rfl (lv_at hl 3 rfl) ?_
          refine va_get (D := (dC, dI)) (C := RX5) (T := TX5) (N := 26) (v := .int 1) hx hb hts (fi_X5 _) hown hK hP 0 (mw_at0 _ _ _) rfl 0 (by decide) (hts _ (List.mem_cons_of_mem _ wd_237)) (fun _ h9 => h9) rfl dX5_history_91 ?_
          refine lv_if_le (tgt := 99) hx hb dX5_history_94 (by decide) (fun c_39 => ?_) (fun c_39 => ?_)
          · skip
            exact absurd c_39 (by decide)
          · skip
            refine lv_iconst (v := 0) hx hb dX5_history_97 (by decide) ?_
            exact W.iret (v := 0) hx hb hr (fun t ht hW => ⟨⟨0, (s_mcode u 1), rfl, (by rw [he_3, lpX5_history_eq, if_neg c_4, if_pos c_23, if_pos c_25]), by rw [ht]; exact hP, hD⟩, hS.F ht⟩) hS.2.2 dX5_history_98
      · skip
        have t_40 : (fX5_isLot u x1).toInt ≠ 0 := i_ne c_23 rfl (by decide)
        have t_41 := il_lo c_23
        have t_42 := il_hi c_23
        refine lv_iload_n hx hb dX5_history_26 rfl (lv_at hl 5 rfl) ?_
        refine lv_if_lt (tgt := 62) hx hb dX5_history_27 (by decide) (fun c_43 => ?_) (fun c_43 => ?_)
        · skip
          have t_44 : x2.toInt < 0 := i_lt c_43 rfl (by decide)
          refine lv_aload_n hx hb dX5_history_62 rfl (lv_at hl 3 rfl) ?_
          refine lv_iload hx hb dX5_history_63 (lv_at hl 1 rfl) ?_
          refine lv_iconst (v := (-1)) hx hb dX5_history_65 (by decide) ?_
          refine lv_icmp_ne (tgt := 73) hx hb dX5_history_66 (by decide) (fun c_45 => ?_) (fun c_45 => ?_)
          · skip
            have t_46 : b.toInt ≠ -1 := i_ne c_45 rfl (by decide)
            refine lv_iload_n hx hb dX5_history_73 rfl (lv_at hl 6 rfl) ?_
            refine lv_iconst (v := 0) hx hb dX5_history_74 (by decide) ?_
            refine lv_iconst (v := 1) hx hb dX5_history_75 (by decide) ?_
            refine vp_callSi (W.runS (As := [.int x3, .int 0, .int 1]) (rest := [.ref (h 0)]) ⟨hx, hb, hml, hown, hts⟩ (kX5_in l dC dI x3 0 1) (cwS 3 hts (gS wd_239 wd_240 wd_241 wcX5_in) rfl rfl rfl (by decide +kernel) ⟨(Nat.le_of_ble_eq_true rfl), (Nat.le_of_ble_eq_true rfl)⟩) ⟨fun a U g mk q => by obtain ⟨q0, qT⟩ := q; exact ⟨q0, qT⟩, fun U hU hW => ⟨rfl, trivial⟩⟩ rfl rfl hl.1 rfl (lv_room (Nat.le_of_ble_eq_true rfl)) dX5_history_76 ⟨(Nat.le_of_ble_eq_true rfl), (Nat.le_of_ble_eq_true rfl)⟩) (fun r_47 hw => ?_)
            subst hw
            refine lv_if_ne (tgt := 86) hx hb dX5_history_79 (by decide) (fun c_48 => ?_) (fun c_48 => ?_)
            · skip
              have t_49 : (fX5_in x3 0 1).toInt ≠ 0 := i_ne c_48 rfl (by decide)
              have t_50 := in_lo c_48
              have t_51 := in_hi c_48
              refine lv_iconst (v := 0) hx hb dX5_history_86 (by decide) ?_
              refine va_put (D := (dC, dI)) (C := RX5) (T := TX5) (N := 26) (v := .int 0) (ty := .int) hx hb hts (fi_X5 _) tyX5 tyX5_ok nmX5 hown hK hP hD hS 0 (mw_at0 _ _ _) rfl 0 (by decide) (hts _ (List.mem_cons_of_mem _ wd_237)) (fun _ h9 => h9) rfl (by decide +kernel) rfl rfl (Nat.le_of_ble_eq_true rfl) dX5_history_87 (fun H locs hP hD hS => ?_)
              have hP : va_P (dC, dI) vwCl (mw g h (s_mcode u 0)) H := hP
              have hD : va_D A (mw g h (s_mcode u 0)) := hD
              refine lv_aload_n hx hb dX5_history_90 rfl (lv_at hl 3 rfl) ?_
              refine va_get (D := (dC, dI)) (C := RX5) (T := TX5) (N := 26) (v := .int 0) hx hb hts (fi_X5 _) hown hK hP 0 (mw_at0 _ _ _) rfl 0 (by decide) (hts _ (List.mem_cons_of_mem _ wd_237)) (fun _ h9 => h9) rfl dX5_history_91 ?_
              refine lv_if_le (tgt := 99) hx hb dX5_history_94 (by decide) (fun c_52 => ?_) (fun c_52 => ?_)
              · skip
                refine lv_iload_n hx hb dX5_history_99 rfl (lv_at hl 6 rfl) ?_
                refine lv_if_ne (tgt := 113) hx hb dX5_history_100 (by decide) (fun c_53 => ?_) (fun c_53 => ?_)
                · skip
                  have t_54 : x3.toInt ≠ 0 := i_ne c_53 rfl (by decide)
                  refine lv_aload_n hx hb dX5_history_113 rfl (lv_at hl 3 rfl) ?_
                  refine va_get (D := (dC, dI)) (C := RX5) (T := TX5) (N := 26) (v := .ref (h 20)) hx hb hts (fi_X5 _) hown hK hP 0 (mw_at0 _ _ _) rfl 23 (by decide) (hts _ (List.mem_cons_of_mem _ wd_275)) (fun _ h9 => h9) rfl dX5_history_114 ?_
                  refine lv_iload hx hb dX5_history_117 (lv_at hl 1 rfl) ?_
                  refine va_iald (f := k_mrn u) hx hb hK hP 20 0 (mw_at20 _ _ _) rfl (vp_in_iff.mpr (by omega)) dX5_history_119 ?_
                  exact W.iret (v := k_mrn u b.toNatClampNeg) hx hb hr (fun t ht hW => ⟨⟨(k_mrn u b.toNatClampNeg), (s_mcode u 0), rfl, (by rw [he_3, lpX5_history_eq, if_neg c_4, if_neg c_23, if_pos c_43, if_neg c_45, if_neg c_48, if_neg c_53]), by rw [ht]; exact hP, hD⟩, hS.F ht⟩) hS.2.2 dX5_history_120
                · skip
                  have t_55 : x3.toInt = 0 := i_eq c_53 rfl (by decide)
                  refine lv_aload_n hx hb dX5_history_103 rfl (lv_at hl 3 rfl) ?_
                  refine va_get (D := (dC, dI)) (C := RX5) (T := TX5) (N := 26) (v := .ref (h 19)) hx hb hts (fi_X5 _) hown hK hP 0 (mw_at0 _ _ _) rfl 22 (by decide) (hts _ (List.mem_cons_of_mem _ wd_274)) (fun _ h9 => h9) rfl dX5_history_104 ?_
                  refine lv_iload hx hb dX5_history_107 (lv_at hl 1 rfl) ?_
                  refine va_iald (f := k_mrk u) hx hb hK hP 19 0 (mw_at19 _ _ _) rfl (vp_in_iff.mpr (by omega)) dX5_history_109 ?_
                  refine lv_goto (tgt := 120) hx hb dX5_history_110 (by decide) ?_
                  exact W.iret (v := k_mrk u b.toNatClampNeg) hx hb hr (fun t ht hW => ⟨⟨(k_mrk u b.toNatClampNeg), (s_mcode u 0), rfl, (by rw [he_3, lpX5_history_eq, if_neg c_4, if_neg c_23, if_pos c_43, if_neg c_45, if_neg c_48, if_pos c_53]), by rw [ht]; exact hP, hD⟩, hS.F ht⟩) hS.2.2 dX5_history_120
              · skip
                exact absurd (by decide) c_52
            · skip
              have t_56 : (fX5_in x3 0 1).toInt = 0 := i_eq c_48 rfl (by decide)
              refine lv_iconst (v := 2) hx hb dX5_history_82 (by decide) ?_
              refine lv_goto (tgt := 87) hx hb dX5_history_83 (by decide) ?_
              refine va_put (D := (dC, dI)) (C := RX5) (T := TX5) (N := 26) (v := .int 2) (ty := .int) hx hb hts (fi_X5 _) tyX5 tyX5_ok nmX5 hown hK hP hD hS 0 (mw_at0 _ _ _) rfl 0 (by decide) (hts _ (List.mem_cons_of_mem _ wd_237)) (fun _ h9 => h9) rfl (by decide +kernel) rfl rfl (Nat.le_of_ble_eq_true rfl) dX5_history_87 (fun H locs hP hD hS => ?_)
              have hP : va_P (dC, dI) vwCl (mw g h (s_mcode u 2)) H := hP
              have hD : va_D A (mw g h (s_mcode u 2)) := hD
              refine lv_aload_n hx hb dX5_history_90 rfl (lv_at hl 3 rfl) ?_
              refine va_get (D := (dC, dI)) (C := RX5) (T := TX5) (N := 26) (v := .int 2) hx hb hts (fi_X5 _) hown hK hP 0 (mw_at0 _ _ _) rfl 0 (by decide) (hts _ (List.mem_cons_of_mem _ wd_237)) (fun _ h9 => h9) rfl dX5_history_91 ?_
              refine lv_if_le (tgt := 99) hx hb dX5_history_94 (by decide) (fun c_57 => ?_) (fun c_57 => ?_)
              · skip
                exact absurd c_57 (by decide)
              · skip
                refine lv_iconst (v := 0) hx hb dX5_history_97 (by decide) ?_
                exact W.iret (v := 0) hx hb hr (fun t ht hW => ⟨⟨0, (s_mcode u 2), rfl, (by rw [he_3, lpX5_history_eq, if_neg c_4, if_neg c_23, if_pos c_43, if_neg c_45, if_pos c_48]), by rw [ht]; exact hP, hD⟩, hS.F ht⟩) hS.2.2 dX5_history_98
          · skip
            have t_58 : b.toInt = -1 := i_eq c_45 rfl (by decide)
            refine lv_iconst (v := 1) hx hb dX5_history_69 (by decide) ?_
            refine lv_goto (tgt := 87) hx hb dX5_history_70 (by decide) ?_
            refine va_put (D := (dC, dI)) (C := RX5) (T := TX5) (N := 26) (v := .int 1) (ty := .int) hx hb hts (fi_X5 _) tyX5 tyX5_ok nmX5 hown hK hP hD hS 0 (mw_at0 _ _ _) rfl 0 (by decide) (hts _ (List.mem_cons_of_mem _ wd_237)) (fun _ h9 => h9) rfl (by decide +kernel) rfl rfl (Nat.le_of_ble_eq_true rfl) dX5_history_87 (fun H locs hP hD hS => ?_)
            have hP : va_P (dC, dI) vwCl (mw g h (s_mcode u 1)) H := hP
            have hD : va_D A (mw g h (s_mcode u 1)) := hD
            refine lv_aload_n hx hb dX5_history_90 rfl (lv_at hl 3 rfl) ?_
            refine va_get (D := (dC, dI)) (C := RX5) (T := TX5) (N := 26) (v := .int 1) hx hb hts (fi_X5 _) hown hK hP 0 (mw_at0 _ _ _) rfl 0 (by decide) (hts _ (List.mem_cons_of_mem _ wd_237)) (fun _ h9 => h9) rfl dX5_history_91 ?_
            refine lv_if_le (tgt := 99) hx hb dX5_history_94 (by decide) (fun c_59 => ?_) (fun c_59 => ?_)
            · skip
              exact absurd c_59 (by decide)
            · skip
              refine lv_iconst (v := 0) hx hb dX5_history_97 (by decide) ?_
              exact W.iret (v := 0) hx hb hr (fun t ht hW => ⟨⟨0, (s_mcode u 1), rfl, (by rw [he_3, lpX5_history_eq, if_neg c_4, if_neg c_23, if_pos c_43, if_pos c_45]), by rw [ht]; exact hP, hD⟩, hS.F ht⟩) hS.2.2 dX5_history_98
        · skip
          have t_60 : 0 ≤ x2.toInt := i_nlt c_43 rfl (by decide)
          refine lv_aload_n hx hb dX5_history_30 rfl (lv_at hl 3 rfl) ?_
          refine va_get (D := (dC, dI)) (C := RX5) (T := TX5) (N := 26) (v := .ref (h 18)) hx hb hts (fi_X5 _) hown hK hP 0 (mw_at0 _ _ _) rfl 21 (by decide) (hts _ (List.mem_cons_of_mem _ wd_272)) (fun _ h9 => h9) rfl dX5_history_31 ?_
          refine lv_iload hx hb dX5_history_34 (lv_at hl 0 rfl) ?_
          refine va_iald (f := k_mrl u) hx hb hK hP 18 0 (mw_at18 _ _ _) rfl (vp_in_iff.mpr (by omega)) dX5_history_36 ?_
          refine lv_iload_n hx hb dX5_history_37 rfl (lv_at hl 4 rfl) ?_
          refine lv_icmp_eq (tgt := 44) hx hb dX5_history_38 (by decide) (fun c_61 => ?_) (fun c_61 => ?_)
          · skip
            have t_62 : (k_mrl u i.toNatClampNeg).toInt = x1.toInt := i_eq c_61 rfl rfl
            refine lv_iload hx hb dX5_history_44 (lv_at hl 2 rfl) ?_
            refine lv_if_ne (tgt := 53) hx hb dX5_history_46 (by decide) (fun c_63 => ?_) (fun c_63 => ?_)
            · skip
              have t_64 : a.toInt ≠ 0 := i_ne c_63 rfl (by decide)
              refine lv_iinc (v := a + (-1)) (lv' := [(5, .int (a + (-1))), (6, .int i), (4, .int b), (0, .ref (h 0)), (1, .int x1), (2, .int x2), (3, .int x3)]) hx hb dX5_history_53 hl (k := 2) rfl rfl (by decide) rfl (fun ls hl => ?_)
              refine lv_iinc (v := i + 1) (lv' := [(6, .int (i + 1)), (5, .int (a + (-1))), (4, .int b), (0, .ref (h 0)), (1, .int x1), (2, .int x2), (3, .int x3)]) hx hb dX5_history_56 hl (k := 1) rfl rfl (by decide) rfl (fun ls hl => ?_)
              refine lv_goto (tgt := 9) hx hb dX5_history_59 (by decide) ?_
              have hb1 := i_inc (x := i) (by omega)
              exact ih_2 _ ⟨(i + 1), b, (a + (-1)), (by omega), (by omega), (by omega), (by rw [he_3, lpX5_history_eq, if_neg c_4, if_neg c_23, if_neg c_43, if_pos c_61, if_neg c_63]), lv_sub hl [0, 2, 1, 3, 4, 5, 6] rfl⟩
            · skip
              have t_65 : a.toInt = 0 := i_eq c_63 rfl (by decide)
              refine lv_iload hx hb dX5_history_49 (lv_at hl 0 rfl) ?_
              refine lv_istore (lv' := [(4, .int i), (6, .int i), (5, .int a), (0, .ref (h 0)), (1, .int x1), (2, .int x2), (3, .int x3)]) hx hb dX5_history_51 hl (by decide) rfl (fun ls hl => ?_)
              refine lv_iinc (v := a + (-1)) (lv' := [(5, .int (a + (-1))), (4, .int i), (6, .int i), (0, .ref (h 0)), (1, .int x1), (2, .int x2), (3, .int x3)]) hx hb dX5_history_53 hl (k := 2) rfl rfl (by decide) rfl (fun ls hl => ?_)
              refine lv_iinc (v := i + 1) (lv' := [(6, .int (i + 1)), (5, .int (a + (-1))), (4, .int i), (0, .ref (h 0)), (1, .int x1), (2, .int x2), (3, .int x3)]) hx hb dX5_history_56 hl (k := 2) rfl rfl (by decide) rfl (fun ls hl => ?_)
              refine lv_goto (tgt := 9) hx hb dX5_history_59 (by decide) ?_
              have hb1 := i_inc (x := i) (by omega)
              exact ih_2 _ ⟨(i + 1), i, (a + (-1)), (by omega), (by omega), (by omega), (by rw [he_3, lpX5_history_eq, if_neg c_4, if_neg c_23, if_neg c_43, if_pos c_61, if_pos c_63]), lv_sub hl [0, 2, 1, 3, 4, 5, 6] rfl⟩
          · skip
            have t_66 : (k_mrl u i.toNatClampNeg).toInt ≠ x1.toInt := i_ne c_61 rfl rfl
            refine lv_goto (tgt := 56) hx hb dX5_history_41 (by decide) ?_
            refine lv_iinc (v := i + 1) (lv' := [(6, .int (i + 1)), (4, .int b), (5, .int a), (0, .ref (h 0)), (1, .int x1), (2, .int x2), (3, .int x3)]) hx hb dX5_history_56 hl (k := 0) rfl rfl (by decide) rfl (fun ls hl => ?_)
            refine lv_goto (tgt := 9) hx hb dX5_history_59 (by decide) ?_
            have hb1 := i_inc (x := i) (by omega)
            exact ih_2 _ ⟨(i + 1), b, a, (by omega), (by omega), (by omega), (by rw [he_3, lpX5_history_eq, if_neg c_4, if_neg c_23, if_neg c_43, if_neg c_61]), lv_sub hl [0, 1, 2, 3, 4, 5, 6] rfl⟩
set_option maxHeartbeats 4000000 in
set_option maxRecDepth 100000 in
theorem kX5_told (l : Launch) (dC : Nat → ClassId) (dI : Nat → Nat → Nat) (g : cG) (h : Nat → Nat) (u : mS) (sz : Nat) (x1 : Int32) (x2 : Int32) (hI : mInv u) : Met l yX5_told wsX5_told ({ frames := 2, cells := 0, slots := 0, locals := 43 }) (va_Pc [.ref (h 0), .int x1, .int x2] (fun U => U.heap.size = sz ∧ va_P (dC, dI) vwCl (mw g h u) U.heap ∧ va_K (dC, dI) vwCl (cTys g) U ∧ va_D (fun _ => True) (mw g h u))) (va_Qi (fun (r : Int32) u2 => (r, u2) = fX5_told u x1 x2) (fun (u2 : mS) (t : State) => va_P (dC, dI) vwCl (mw g h u2) t.heap ∧ va_D (va_A (mw g h u) sz) (mw g h u2)) (va_A (mw g h u) sz)) 0 0 (va_A (mw g h u) sz) := by
  refine Met.ofW (cc := cX5_told) (maxL := 5) (ret := (some .int)) (by decide) rfl ?_
  intro p e s m args below meth c s₁ B hml hv
  obtain ⟨rfl, hsz, hP, hK, hD0⟩ := hv
  have hx := B.exec
  have hb := B.bytes
  have hr := B.returns
  have hts := atoms_spec (ws := wsX5_told) B.pre
  have hown : s.vm.findClass RX5 = some m.cls := findClass_of_methodNamed B.named
  have hlocks := B.notSynchronized
  subst hsz
  have hD := hD0.self (sz := s.heap.size)
  generalize hAe : va_A (mw g h u) s.heap.size = A at hD ⊢
  have hA : ∀ q : Nat, s.heap.size ≤ q → A q := fun q h => by rw [← hAe]; exact Or.inr h
  have hS : va_S A s.heap s.heap [] := va_S.rf
  have hl := lv_entry ([.ref (h 0), .int x1, .int x2]) (n := 5) (Nat.le_of_ble_eq_true rfl)
  rw [lg_entry_eq]
  generalize (lg_sl ([.ref (h 0), .int x1, .int x2]) ++ List.replicate (5 - (lg_sl ([.ref (h 0), .int x1, .int x2])).length) Slot.unset).toArray = ls at hl ⊢
  have hl : lv_has ls 5 [(0, .ref (h 0)), (1, .int x1), (2, .int x2)] := hl
  obtain ⟨hI1, hI2, hI3, hI4, hI5, hI6, hI7⟩ := id hI
  have z_0 : (0 : Int32).toInt = 0 := by decide
  have z_1 : (7 : Int32).toInt = 7 := by decide
  have z_2 : (1 : Int32).toInt = 1 := by decide
  refine lv_aload_n hx hb dX5_told_0 rfl (lv_at hl 0 rfl) ?_
  refine lv_aload_n hx hb dX5_told_1 rfl (lv_at hl 0 rfl) ?_
  refine lv_iload_n hx hb dX5_told_2 rfl (lv_at hl 1 rfl) ?_
  refine vp_callSi (W.runV (As := [.int x1]) (rest := [.ref (h 0)]) ⟨hx, hb, hml, hown, hts⟩ (kX5_isLot l dC dI g h u x1) (cwV 1 hts (gV wd_288 wd_289 wd_290 wd_241 wcX5_isLot) rfl rfl rfl (by decide +kernel) ⟨(Nat.le_of_ble_eq_true rfl), (Nat.le_of_ble_eq_true rfl)⟩) ⟨fun a U g mk q => by obtain ⟨q0, qP, qK⟩ := q; exact ⟨q0, qP, va_K.moved (u := U) (U := U.calling g mk a) (Vm.Alike.refl U.vm) qK⟩, va_recv hK hP (ci := 4) (q0 := 0) rfl (mw_at0 _ _ _), fun U hU hW => ⟨rfl, by rw [hU]; exact hP, va_K.moved hW.alike hK⟩⟩ rfl rfl hl.1 rfl (lv_room (Nat.le_of_ble_eq_true rfl)) dX5_told_3 ⟨(Nat.le_of_ble_eq_true rfl), (Nat.le_of_ble_eq_true rfl)⟩) (fun r_1 hw => ?_)
  subst hw
  refine lv_if_ne (tgt := 13) hx hb dX5_told_6 (by decide) (fun c_2 => ?_) (fun c_2 => ?_)
  · skip
    have t_3 : (fX5_isLot u x1).toInt ≠ 0 := i_ne c_2 rfl (by decide)
    have t_4 := il_lo c_2
    have t_5 := il_hi c_2
    refine lv_iload_n hx hb dX5_told_13 rfl (lv_at hl 2 rfl) ?_
    refine lv_iconst (v := 0) hx hb dX5_told_14 (by decide) ?_
    refine lv_bipush (v := 7) hx hb dX5_told_15 (by decide) ?_
    refine vp_callSi (W.runS (As := [.int x2, .int 0, .int 7]) (rest := [.ref (h 0)]) ⟨hx, hb, hml, hown, hts⟩ (kX5_in l dC dI x2 0 7) (cwS 3 hts (gS wd_239 wd_240 wd_241 wcX5_in) rfl rfl rfl (by decide +kernel) ⟨(Nat.le_of_ble_eq_true rfl), (Nat.le_of_ble_eq_true rfl)⟩) ⟨fun a U g mk q => by obtain ⟨q0, qT⟩ := q; exact ⟨q0, qT⟩, fun U hU hW => ⟨rfl, trivial⟩⟩ rfl rfl hl.1 rfl (lv_room (Nat.le_of_ble_eq_true rfl)) dX5_told_17 ⟨(Nat.le_of_ble_eq_true rfl), (Nat.le_of_ble_eq_true rfl)⟩) (fun r_6 hw => ?_)
    subst hw
    refine lv_if_ne (tgt := 27) hx hb dX5_told_20 (by decide) (fun c_7 => ?_) (fun c_7 => ?_)
    · skip
      have t_8 : (fX5_in x2 0 7).toInt ≠ 0 := i_ne c_7 rfl (by decide)
      have t_9 := in_lo c_7
      have t_10 := in_hi c_7
      refine lv_iconst (v := 0) hx hb dX5_told_27 (by decide) ?_
      refine va_put (D := (dC, dI)) (C := RX5) (T := TX5) (N := 26) (v := .int 0) (ty := .int) hx hb hts (fi_X5 _) tyX5 tyX5_ok nmX5 hown hK hP hD hS 0 (mw_at0 _ _ _) rfl 0 (by decide) (hts _ (List.mem_cons_of_mem _ wd_237)) (fun _ h9 => h9) rfl (by decide +kernel) rfl rfl (Nat.le_of_ble_eq_true rfl) dX5_told_28 (fun H locs hP hD hS => ?_)
      have hP : va_P (dC, dI) vwCl (mw g h (s_mcode u 0)) H := hP
      have hD : va_D A (mw g h (s_mcode u 0)) := hD
      refine lv_aload_n hx hb dX5_told_31 rfl (lv_at hl 0 rfl) ?_
      refine va_get (D := (dC, dI)) (C := RX5) (T := TX5) (N := 26) (v := .int 0) hx hb hts (fi_X5 _) hown hK hP 0 (mw_at0 _ _ _) rfl 0 (by decide) (hts _ (List.mem_cons_of_mem _ wd_237)) (fun _ h9 => h9) rfl dX5_told_32 ?_
      refine lv_if_le (tgt := 40) hx hb dX5_told_35 (by decide) (fun c_11 => ?_) (fun c_11 => ?_)
      · skip
        refine lv_iload_n hx hb dX5_told_40 rfl (lv_at hl 2 rfl) ?_
        refine lv_if_ne (tgt := 51) hx hb dX5_told_41 (by decide) (fun c_12 => ?_) (fun c_12 => ?_)
        · skip
          have t_13 : x2.toInt ≠ 0 := i_ne c_12 rfl (by decide)
          refine lv_iload_n hx hb dX5_told_51 rfl (lv_at hl 2 rfl) ?_
          refine lv_iconst (v := 1) hx hb dX5_told_52 (by decide) ?_
          refine lv_icmp_ne (tgt := 63) hx hb dX5_told_53 (by decide) (fun c_14 => ?_) (fun c_14 => ?_)
          · skip
            have t_15 : x2.toInt ≠ 1 := i_ne c_14 rfl (by decide)
            refine lv_iload_n hx hb dX5_told_63 rfl (lv_at hl 2 rfl) ?_
            refine lv_iconst (v := 2) hx hb dX5_told_64 (by decide) ?_
            refine lv_icmp_ne (tgt := 75) hx hb dX5_told_65 (by decide) (fun c_16 => ?_) (fun c_16 => ?_)
            · skip
              have t_17 : x2.toInt ≠ 2 := i_ne c_16 rfl (by decide)
              refine lv_iload_n hx hb dX5_told_75 rfl (lv_at hl 2 rfl) ?_
              refine lv_iconst (v := 3) hx hb dX5_told_76 (by decide) ?_
              refine lv_icmp_ne (tgt := 87) hx hb dX5_told_77 (by decide) (fun c_18 => ?_) (fun c_18 => ?_)
              · skip
                have t_19 : x2.toInt ≠ 3 := i_ne c_18 rfl (by decide)
                refine lv_iload_n hx hb dX5_told_87 rfl (lv_at hl 2 rfl) ?_
                refine lv_iconst (v := 4) hx hb dX5_told_88 (by decide) ?_
                refine lv_icmp_ne (tgt := 106) hx hb dX5_told_89 (by decide) (fun c_20 => ?_) (fun c_20 => ?_)
                · skip
                  have t_21 : x2.toInt ≠ 4 := i_ne c_20 rfl (by decide)
                  refine lv_iload_n hx hb dX5_told_106 rfl (lv_at hl 2 rfl) ?_
                  refine lv_iconst (v := 5) hx hb dX5_told_107 (by decide) ?_
                  refine lv_icmp_ne (tgt := 118) hx hb dX5_told_108 (by decide) (fun c_22 => ?_) (fun c_22 => ?_)
                  · skip
                    have t_23 : x2.toInt ≠ 5 := i_ne c_22 rfl (by decide)
                    refine lv_iload_n hx hb dX5_told_118 rfl (lv_at hl 2 rfl) ?_
                    refine lv_bipush (v := 6) hx hb dX5_told_119 (by decide) ?_
                    refine lv_icmp_ne (tgt := 139) hx hb dX5_told_121 (by decide) (fun c_24 => ?_) (fun c_24 => ?_)
                    · skip
                      have t_25 : x2.toInt ≠ 6 := i_ne c_24 rfl (by decide)
                      refine lv_iconst (v := 0) hx hb dX5_told_139 (by decide) ?_
                      refine lv_istore_n (lv' := [(3, .int 0), (0, .ref (h 0)), (1, .int x1), (2, .int x2)]) hx hb dX5_told_140 rfl hl (by decide) rfl (fun ls hl => ?_)
                      refine lv_iconst (v := 1) hx hb dX5_told_141 (by decide) ?_
                      refine lv_istore (lv' := [(4, .int 1), (3, .int 0), (0, .ref (h 0)), (1, .int x1), (2, .int x2)]) hx hb dX5_told_142 hl (by decide) rfl (fun ls hl => ?_)
                      refine lp_ind (W p l e _ s m _ below meth c _ _ _ _ _) (fun n ls => ∃ (i : Int32) (a : Int32), ((k_munits u).toInt - i.toInt + 1 < (n : Int)) ∧ (1 ≤ i.toInt ∧ i.toInt ≤ 121 ∧ i.toInt ≤ (k_munits u).toInt + 1) ∧ fX5_told u x1 x2 = lpX5_told u x1 x2 n i a ∧ lv_has ls 5 [(4, .int i), (3, .int a), (0, .ref (h 0)), (1, .int x1), (2, .int x2)]) m 144 (fun ls hI0 => ?_) (fun n ls hI0 ih => ?_) 121 _ ⟨1, 0, (by omega), (by omega), (by unfold fX5_told; rw [if_neg c_2, if_neg c_7, if_neg c_12, if_neg c_14, if_neg c_16, if_neg c_18, if_neg c_20, if_neg c_22, if_neg c_24]), lv_sub hl [0, 1, 2, 3, 4] rfl⟩
                      · skip
                        obtain ⟨i, a, hn, hi, he, hl⟩ := hI0
                        exact absurd hn (by omega)
                      · skip
                        obtain ⟨i, a, hn, hi, he, hl⟩ := hI0
                        have he_28 := he
                        have ih_27 := ih
                        refine lv_iload hx hb dX5_told_144 (lv_at hl 0 rfl) ?_
                        refine lv_aload_n hx hb dX5_told_146 rfl (lv_at hl 2 rfl) ?_
                        refine va_get (D := (dC, dI)) (C := RX5) (T := TX5) (N := 26) (v := .int (k_munits u)) hx hb hts (fi_X5 _) hown hK hP 0 (mw_at0 _ _ _) rfl 14 (by decide) (hts _ (List.mem_cons_of_mem _ wd_243)) (fun _ h9 => h9) rfl dX5_told_147 ?_
                        refine lv_icmp_gt (tgt := 187) hx hb dX5_told_150 (by decide) (fun c_29 => ?_) (fun c_29 => ?_)
                        · skip
                          have t_30 : (k_munits u).toInt < i.toInt := i_lt c_29 rfl rfl
                          refine lv_iload_n hx hb dX5_told_187 rfl (lv_at hl 1 rfl) ?_
                          exact W.iret (v := a) hx hb hr (fun t ht hW => ⟨⟨a, (s_mcode u 0), rfl, (by rw [he_28, lpX5_told_eq, if_pos c_29]), by rw [ht]; exact hP, hD⟩, hS.F ht⟩) hS.2.2 dX5_told_188
                        · skip
                          have t_31 : i.toInt ≤ (k_munits u).toInt := i_nlt c_29 rfl rfl
                          refine lv_iload_n hx hb dX5_told_153 rfl (lv_at hl 1 rfl) ?_
                          refine lv_aload_n hx hb dX5_told_154 rfl (lv_at hl 2 rfl) ?_
                          refine va_get (D := (dC, dI)) (C := RX5) (T := TX5) (N := 26) (v := .ref (h 13)) hx hb hts (fi_X5 _) hown hK hP 0 (mw_at0 _ _ _) rfl 15 (by decide) (hts _ (List.mem_cons_of_mem _ wd_299)) (fun _ h9 => h9) rfl dX5_told_155 ?_
                          refine lv_iload hx hb dX5_told_158 (lv_at hl 0 rfl) ?_
                          refine va_iald (f := k_mlotOf u) hx hb hK hP 13 0 (mw_at13 _ _ _) rfl (vp_in_iff.mpr (by omega)) dX5_told_160 ?_
                          refine lv_iload_n hx hb dX5_told_161 rfl (lv_at hl 3 rfl) ?_
                          refine lv_icmp_ne (tgt := 178) hx hb dX5_told_162 (by decide) (fun c_32 => ?_) (fun c_32 => ?_)
                          · skip
                            have t_33 : (k_mlotOf u i.toNatClampNeg).toInt ≠ x1.toInt := i_ne c_32 rfl rfl
                            refine lv_iconst (v := 0) hx hb dX5_told_178 (by decide) ?_
                            refine lv_iadd hx hb dX5_told_179 ?_
                            refine lv_istore_n (lv' := [(3, .int (a + 0)), (4, .int i), (0, .ref (h 0)), (1, .int x1), (2, .int x2)]) hx hb dX5_told_180 rfl hl (by decide) rfl (fun ls hl => ?_)
                            refine lv_iinc (v := i + 1) (lv' := [(4, .int (i + 1)), (3, .int (a + 0)), (0, .ref (h 0)), (1, .int x1), (2, .int x2)]) hx hb dX5_told_181 hl (k := 1) rfl rfl (by decide) rfl (fun ls hl => ?_)
                            refine lv_goto (tgt := 144) hx hb dX5_told_184 (by decide) ?_
                            have hb1 := i_inc (x := i) (by omega)
                            exact ih_27 _ ⟨(i + 1), (a + 0), (by omega), (by omega), (by rw [he_28, lpX5_told_eq, if_neg c_29, if_neg c_32]), lv_sub hl [0, 1, 2, 3, 4] rfl⟩
                          · skip
                            have t_34 : (k_mlotOf u i.toNatClampNeg).toInt = x1.toInt := i_eq c_32 rfl rfl
                            refine lv_aload_n hx hb dX5_told_165 rfl (lv_at hl 2 rfl) ?_
                            refine lv_iload hx hb dX5_told_166 (lv_at hl 0 rfl) ?_
                            refine vp_callSi (W.runV (As := [.int i]) (rest := [.int a]) ⟨hx, hb, hml, hown, hts⟩ (kX5_isGone l dC dI g h (s_mcode u 0) i (by omega)) (cwV 1 hts (gV wd_308 wd_309 wd_310 wd_241 wcX5_isGone) rfl rfl rfl (by decide +kernel) ⟨(Nat.le_of_ble_eq_true rfl), (Nat.le_of_ble_eq_true rfl)⟩) ⟨fun a U g mk q => by obtain ⟨q0, qP, qK⟩ := q; exact ⟨q0, qP, va_K.moved (u := U) (U := U.calling g mk a) (Vm.Alike.refl U.vm) qK⟩, va_recv hK hP (ci := 4) (q0 := 0) rfl (mw_at0 _ _ _), fun U hU hW => ⟨rfl, by rw [hU]; exact hP, va_K.moved hW.alike hK⟩⟩ rfl rfl hl.1 rfl (lv_room (Nat.le_of_ble_eq_true rfl)) dX5_told_168 ⟨(Nat.le_of_ble_eq_true rfl), (Nat.le_of_ble_eq_true rfl)⟩) (fun r_35 hw => ?_)
                            subst hw
                            refine lv_if_ne (tgt := 178) hx hb dX5_told_171 (by decide) (fun c_36 => ?_) (fun c_36 => ?_)
                            · skip
                              have t_37 : (fX5_isGone (s_mcode u 0) i).toInt ≠ 0 := i_ne c_36 rfl (by decide)
                              refine lv_iconst (v := 0) hx hb dX5_told_178 (by decide) ?_
                              refine lv_iadd hx hb dX5_told_179 ?_
                              refine lv_istore_n (lv' := [(3, .int (a + 0)), (4, .int i), (0, .ref (h 0)), (1, .int x1), (2, .int x2)]) hx hb dX5_told_180 rfl hl (by decide) rfl (fun ls hl => ?_)
                              refine lv_iinc (v := i + 1) (lv' := [(4, .int (i + 1)), (3, .int (a + 0)), (0, .ref (h 0)), (1, .int x1), (2, .int x2)]) hx hb dX5_told_181 hl (k := 1) rfl rfl (by decide) rfl (fun ls hl => ?_)
                              refine lv_goto (tgt := 144) hx hb dX5_told_184 (by decide) ?_
                              have hb1 := i_inc (x := i) (by omega)
                              exact ih_27 _ ⟨(i + 1), (a + 0), (by omega), (by omega), (by rw [he_28, lpX5_told_eq, if_neg c_29, if_pos c_32, if_neg c_36]), lv_sub hl [0, 1, 2, 3, 4] rfl⟩
                            · skip
                              have t_38 : (fX5_isGone (s_mcode u 0) i).toInt = 0 := i_eq c_36 rfl (by decide)
                              refine lv_iconst (v := 1) hx hb dX5_told_174 (by decide) ?_
                              refine lv_goto (tgt := 179) hx hb dX5_told_175 (by decide) ?_
                              refine lv_iadd hx hb dX5_told_179 ?_
                              refine lv_istore_n (lv' := [(3, .int (a + 1)), (4, .int i), (0, .ref (h 0)), (1, .int x1), (2, .int x2)]) hx hb dX5_told_180 rfl hl (by decide) rfl (fun ls hl => ?_)
                              refine lv_iinc (v := i + 1) (lv' := [(4, .int (i + 1)), (3, .int (a + 1)), (0, .ref (h 0)), (1, .int x1), (2, .int x2)]) hx hb dX5_told_181 hl (k := 1) rfl rfl (by decide) rfl (fun ls hl => ?_)
                              refine lv_goto (tgt := 144) hx hb dX5_told_184 (by decide) ?_
                              have hb1 := i_inc (x := i) (by omega)
                              exact ih_27 _ ⟨(i + 1), (a + 1), (by omega), (by omega), (by rw [he_28, lpX5_told_eq, if_neg c_29, if_pos c_32, if_pos c_36]), lv_sub hl [0, 1, 2, 3, 4] rfl⟩
                    · skip
                      have t_39 : x2.toInt = 6 := i_eq c_24 rfl (by decide)
                      refine lv_aload_n hx hb dX5_told_124 rfl (lv_at hl 0 rfl) ?_
                      refine va_get (D := (dC, dI)) (C := RX5) (T := TX5) (N := 26) (v := .ref (h 8)) hx hb hts (fi_X5 _) hown hK hP 0 (mw_at0 _ _ _) rfl 9 (by decide) (hts _ (List.mem_cons_of_mem _ wd_251)) (fun _ h9 => h9) rfl dX5_told_125 ?_
                      refine lv_iload_n hx hb dX5_told_128 rfl (lv_at hl 1 rfl) ?_
                      refine va_zald (f := k_mquiet u) hx hb hK hP 8 1 (mw_at8 _ _ _) rfl (vp_in_iff.mpr (by omega)) dX5_told_129 ?_
                      refine lv_if_eq (tgt := 137) hx hb dX5_told_130 (by decide) (fun c_40 => ?_) (fun c_40 => ?_)
                      · skip
                        have t_41 : (k_mquiet u x1.toNatClampNeg).toInt = 0 := i_eq c_40 rfl (by decide)
                        refine lv_iconst (v := 0) hx hb dX5_told_137 (by decide) ?_
                        exact W.iret (v := 0) hx hb hr (fun t ht hW => ⟨⟨0, (s_mcode u 0), rfl, (by unfold fX5_told; rw [if_neg c_2, if_neg c_7, if_neg c_12, if_neg c_14, if_neg c_16, if_neg c_18, if_neg c_20, if_neg c_22, if_pos c_24, if_pos c_40]), by rw [ht]; exact hP, hD⟩, hS.F ht⟩) hS.2.2 dX5_told_138
                      · skip
                        have t_42 : (k_mquiet u x1.toNatClampNeg).toInt ≠ 0 := i_ne c_40 rfl (by decide)
                        refine lv_iconst (v := 1) hx hb dX5_told_133 (by decide) ?_
                        refine lv_goto (tgt := 138) hx hb dX5_told_134 (by decide) ?_
                        exact W.iret (v := 1) hx hb hr (fun t ht hW => ⟨⟨1, (s_mcode u 0), rfl, (by unfold fX5_told; rw [if_neg c_2, if_neg c_7, if_neg c_12, if_neg c_14, if_neg c_16, if_neg c_18, if_neg c_20, if_neg c_22, if_pos c_24, if_neg c_40]), by rw [ht]; exact hP, hD⟩, hS.F ht⟩) hS.2.2 dX5_told_138
                  · skip
                    have t_43 : x2.toInt = 5 := i_eq c_22 rfl (by decide)
                    refine lv_aload_n hx hb dX5_told_111 rfl (lv_at hl 0 rfl) ?_
                    refine va_get (D := (dC, dI)) (C := RX5) (T := TX5) (N := 26) (v := .ref (h 7)) hx hb hts (fi_X5 _) hown hK hP 0 (mw_at0 _ _ _) rfl 8 (by decide) (hts _ (List.mem_cons_of_mem _ wd_250)) (fun _ h9 => h9) rfl dX5_told_112 ?_
                    refine lv_iload_n hx hb dX5_told_115 rfl (lv_at hl 1 rfl) ?_
                    refine va_iald (f := k_mblk u) hx hb hK hP 7 0 (mw_at7 _ _ _) rfl (vp_in_iff.mpr (by omega)) dX5_told_116 ?_
                    exact W.iret (v := k_mblk u x1.toNatClampNeg) hx hb hr (fun t ht hW => ⟨⟨(k_mblk u x1.toNatClampNeg), (s_mcode u 0), rfl, (by unfold fX5_told; rw [if_neg c_2, if_neg c_7, if_neg c_12, if_neg c_14, if_neg c_16, if_neg c_18, if_neg c_20, if_pos c_22]), by rw [ht]; exact hP, hD⟩, hS.F ht⟩) hS.2.2 dX5_told_117
                · skip
                  have t_44 : x2.toInt = 4 := i_eq c_20 rfl (by decide)
                  refine lv_aload_n hx hb dX5_told_92 rfl (lv_at hl 0 rfl) ?_
                  refine lv_iload_n hx hb dX5_told_93 rfl (lv_at hl 1 rfl) ?_
                  refine vp_callSi (W.runV (As := [.int x1]) (rest := []) ⟨hx, hb, hml, hown, hts⟩ (kX5_isOpen l dC dI g h (s_mcode u 0) x1 (by omega)) (cwV 1 hts (gV wd_246 wd_247 wd_248 wd_241 wcX5_isOpen) rfl rfl rfl (by decide +kernel) ⟨(Nat.le_of_ble_eq_true rfl), (Nat.le_of_ble_eq_true rfl)⟩) ⟨fun a U g mk q => by obtain ⟨q0, qP, qK⟩ := q; exact ⟨q0, qP, va_K.moved (u := U) (U := U.calling g mk a) (Vm.Alike.refl U.vm) qK⟩, va_recv hK hP (ci := 4) (q0 := 0) rfl (mw_at0 _ _ _), fun U hU hW => ⟨rfl, by rw [hU]; exact hP, va_K.moved hW.alike hK⟩⟩ rfl rfl hl.1 rfl (lv_room (Nat.le_of_ble_eq_true rfl)) dX5_told_94 ⟨(Nat.le_of_ble_eq_true rfl), (Nat.le_of_ble_eq_true rfl)⟩) (fun r_45 hw => ?_)
                  subst hw
                  refine lv_if_eq (tgt := 104) hx hb dX5_told_97 (by decide) (fun c_46 => ?_) (fun c_46 => ?_)
                  · skip
                    have t_47 : (fX5_isOpen (s_mcode u 0) x1).toInt = 0 := i_eq c_46 rfl (by decide)
                    refine lv_iconst (v := 0) hx hb dX5_told_104 (by decide) ?_
                    exact W.iret (v := 0) hx hb hr (fun t ht hW => ⟨⟨0, (s_mcode u 0), rfl, (by unfold fX5_told; rw [if_neg c_2, if_neg c_7, if_neg c_12, if_neg c_14, if_neg c_16, if_neg c_18, if_pos c_20, if_pos c_46]), by rw [ht]; exact hP, hD⟩, hS.F ht⟩) hS.2.2 dX5_told_105
                  · skip
                    have t_48 : (fX5_isOpen (s_mcode u 0) x1).toInt ≠ 0 := i_ne c_46 rfl (by decide)
                    refine lv_iconst (v := 1) hx hb dX5_told_100 (by decide) ?_
                    refine lv_goto (tgt := 105) hx hb dX5_told_101 (by decide) ?_
                    exact W.iret (v := 1) hx hb hr (fun t ht hW => ⟨⟨1, (s_mcode u 0), rfl, (by unfold fX5_told; rw [if_neg c_2, if_neg c_7, if_neg c_12, if_neg c_14, if_neg c_16, if_neg c_18, if_pos c_20, if_neg c_46]), by rw [ht]; exact hP, hD⟩, hS.F ht⟩) hS.2.2 dX5_told_105
              · skip
                have t_49 : x2.toInt = 3 := i_eq c_18 rfl (by decide)
                refine lv_aload_n hx hb dX5_told_80 rfl (lv_at hl 0 rfl) ?_
                refine va_get (D := (dC, dI)) (C := RX5) (T := TX5) (N := 26) (v := .ref (h 4)) hx hb hts (fi_X5 _) hown hK hP 0 (mw_at0 _ _ _) rfl 5 (by decide) (hts _ (List.mem_cons_of_mem _ wd_254)) (fun _ h9 => h9) rfl dX5_told_81 ?_
                refine lv_iload_n hx hb dX5_told_84 rfl (lv_at hl 1 rfl) ?_
                refine va_iald (f := k_marr u) hx hb hK hP 4 0 (mw_at4 _ _ _) rfl (vp_in_iff.mpr (by omega)) dX5_told_85 ?_
                exact W.iret (v := k_marr u x1.toNatClampNeg) hx hb hr (fun t ht hW => ⟨⟨(k_marr u x1.toNatClampNeg), (s_mcode u 0), rfl, (by unfold fX5_told; rw [if_neg c_2, if_neg c_7, if_neg c_12, if_neg c_14, if_neg c_16, if_pos c_18]), by rw [ht]; exact hP, hD⟩, hS.F ht⟩) hS.2.2 dX5_told_86
            · skip
              have t_50 : x2.toInt = 2 := i_eq c_16 rfl (by decide)
              refine lv_aload_n hx hb dX5_told_68 rfl (lv_at hl 0 rfl) ?_
              refine va_get (D := (dC, dI)) (C := RX5) (T := TX5) (N := 26) (v := .ref (h 3)) hx hb hts (fi_X5 _) hown hK hP 0 (mw_at0 _ _ _) rfl 4 (by decide) (hts _ (List.mem_cons_of_mem _ wd_255)) (fun _ h9 => h9) rfl dX5_told_69 ?_
              refine lv_iload_n hx hb dX5_told_72 rfl (lv_at hl 1 rfl) ?_
              refine va_iald (f := k_muntil u) hx hb hK hP 3 0 (mw_at3 _ _ _) rfl (vp_in_iff.mpr (by omega)) dX5_told_73 ?_
              exact W.iret (v := k_muntil u x1.toNatClampNeg) hx hb hr (fun t ht hW => ⟨⟨(k_muntil u x1.toNatClampNeg), (s_mcode u 0), rfl, (by unfold fX5_told; rw [if_neg c_2, if_neg c_7, if_neg c_12, if_neg c_14, if_pos c_16]), by rw [ht]; exact hP, hD⟩, hS.F ht⟩) hS.2.2 dX5_told_74
          · skip
            have t_51 : x2.toInt = 1 := i_eq c_14 rfl (by decide)
            refine lv_aload_n hx hb dX5_told_56 rfl (lv_at hl 0 rfl) ?_
            refine va_get (D := (dC, dI)) (C := RX5) (T := TX5) (N := 26) (v := .ref (h 2)) hx hb hts (fi_X5 _) hown hK hP 0 (mw_at0 _ _ _) rfl 3 (by decide) (hts _ (List.mem_cons_of_mem _ wd_253)) (fun _ h9 => h9) rfl dX5_told_57 ?_
            refine lv_iload_n hx hb dX5_told_60 rfl (lv_at hl 1 rfl) ?_
            refine va_iald (f := k_mowner u) hx hb hK hP 2 0 (mw_at2 _ _ _) rfl (vp_in_iff.mpr (by omega)) dX5_told_61 ?_
            exact W.iret (v := k_mowner u x1.toNatClampNeg) hx hb hr (fun t ht hW => ⟨⟨(k_mowner u x1.toNatClampNeg), (s_mcode u 0), rfl, (by unfold fX5_told; rw [if_neg c_2, if_neg c_7, if_neg c_12, if_pos c_14]), by rw [ht]; exact hP, hD⟩, hS.F ht⟩) hS.2.2 dX5_told_62
        · skip
          have t_52 : x2.toInt = 0 := i_eq c_12 rfl (by decide)
          refine lv_aload_n hx hb dX5_told_44 rfl (lv_at hl 0 rfl) ?_
          refine va_get (D := (dC, dI)) (C := RX5) (T := TX5) (N := 26) (v := .ref (h 1)) hx hb hts (fi_X5 _) hown hK hP 0 (mw_at0 _ _ _) rfl 2 (by decide) (hts _ (List.mem_cons_of_mem _ wd_261)) (fun _ h9 => h9) rfl dX5_told_45 ?_
          refine lv_iload_n hx hb dX5_told_48 rfl (lv_at hl 1 rfl) ?_
          refine va_iald (f := k_mgood u) hx hb hK hP 1 0 (mw_at1 _ _ _) rfl (vp_in_iff.mpr (by omega)) dX5_told_49 ?_
          exact W.iret (v := k_mgood u x1.toNatClampNeg) hx hb hr (fun t ht hW => ⟨⟨(k_mgood u x1.toNatClampNeg), (s_mcode u 0), rfl, (by unfold fX5_told; rw [if_neg c_2, if_neg c_7, if_pos c_12]), by rw [ht]; exact hP, hD⟩, hS.F ht⟩) hS.2.2 dX5_told_50
      · skip
        exact absurd (by decide) c_11
    · skip
      have t_53 : (fX5_in x2 0 7).toInt = 0 := i_eq c_7 rfl (by decide)
      refine lv_iconst (v := 2) hx hb dX5_told_23 (by decide) ?_
      refine lv_goto (tgt := 28) hx hb dX5_told_24 (by decide) ?_
      refine va_put (D := (dC, dI)) (C := RX5) (T := TX5) (N := 26) (v := .int 2) (ty := .int) hx hb hts (fi_X5 _) tyX5 tyX5_ok nmX5 hown hK hP hD hS 0 (mw_at0 _ _ _) rfl 0 (by decide) (hts _ (List.mem_cons_of_mem _ wd_237)) (fun _ h9 => h9) rfl (by decide +kernel) rfl rfl (Nat.le_of_ble_eq_true rfl) dX5_told_28 (fun H locs hP hD hS => ?_)
      have hP : va_P (dC, dI) vwCl (mw g h (s_mcode u 2)) H := hP
      have hD : va_D A (mw g h (s_mcode u 2)) := hD
      refine lv_aload_n hx hb dX5_told_31 rfl (lv_at hl 0 rfl) ?_
      refine va_get (D := (dC, dI)) (C := RX5) (T := TX5) (N := 26) (v := .int 2) hx hb hts (fi_X5 _) hown hK hP 0 (mw_at0 _ _ _) rfl 0 (by decide) (hts _ (List.mem_cons_of_mem _ wd_237)) (fun _ h9 => h9) rfl dX5_told_32 ?_
      refine lv_if_le (tgt := 40) hx hb dX5_told_35 (by decide) (fun c_54 => ?_) (fun c_54 => ?_)
      · skip
        exact absurd c_54 (by decide)
      · skip
        refine lv_iconst (v := 0) hx hb dX5_told_38 (by decide) ?_
        exact W.iret (v := 0) hx hb hr (fun t ht hW => ⟨⟨0, (s_mcode u 2), rfl, (by unfold fX5_told; rw [if_neg c_2, if_pos c_7]), by rw [ht]; exact hP, hD⟩, hS.F ht⟩) hS.2.2 dX5_told_39
  · skip
    have t_55 : (fX5_isLot u x1).toInt = 0 := i_eq c_2 rfl (by decide)
    refine lv_iconst (v := 1) hx hb dX5_told_9 (by decide) ?_
    refine lv_goto (tgt := 28) hx hb dX5_told_10 (by decide) ?_
    refine va_put (D := (dC, dI)) (C := RX5) (T := TX5) (N := 26) (v := .int 1) (ty := .int) hx hb hts (fi_X5 _) tyX5 tyX5_ok nmX5 hown hK hP hD hS 0 (mw_at0 _ _ _) rfl 0 (by decide) (hts _ (List.mem_cons_of_mem _ wd_237)) (fun _ h9 => h9) rfl (by decide +kernel) rfl rfl (Nat.le_of_ble_eq_true rfl) dX5_told_28 (fun H locs hP hD hS => ?_)
    have hP : va_P (dC, dI) vwCl (mw g h (s_mcode u 1)) H := hP
    have hD : va_D A (mw g h (s_mcode u 1)) := hD
    refine lv_aload_n hx hb dX5_told_31 rfl (lv_at hl 0 rfl) ?_
    refine va_get (D := (dC, dI)) (C := RX5) (T := TX5) (N := 26) (v := .int 1) hx hb hts (fi_X5 _) hown hK hP 0 (mw_at0 _ _ _) rfl 0 (by decide) (hts _ (List.mem_cons_of_mem _ wd_237)) (fun _ h9 => h9) rfl dX5_told_32 ?_
    refine lv_if_le (tgt := 40) hx hb dX5_told_35 (by decide) (fun c_56 => ?_) (fun c_56 => ?_)
    · skip
      exact absurd c_56 (by decide)
    · skip
      refine lv_iconst (v := 0) hx hb dX5_told_38 (by decide) ?_
      exact W.iret (v := 0) hx hb hr (fun t ht hW => ⟨⟨0, (s_mcode u 1), rfl, (by unfold fX5_told; rw [if_pos c_2]), by rw [ht]; exact hP, hD⟩, hS.F ht⟩) hS.2.2 dX5_told_39
set_option maxHeartbeats 4000000 in
set_option maxRecDepth 100000 in
theorem kX5_count (l : Launch) (dC : Nat → ClassId) (dI : Nat → Nat → Nat) (g : cG) (h : Nat → Nat) (u : mS) (sz : Nat) (x1 : Int32) (hI : mInv u) : Met l yX5_count wsX5_count ({ frames := 1, cells := 0, slots := 0, locals := 21 }) (va_Pc [.ref (h 0), .int x1] (fun U => U.heap.size = sz ∧ va_P (dC, dI) vwCl (mw g h u) U.heap ∧ va_K (dC, dI) vwCl (cTys g) U ∧ va_D (fun _ => True) (mw g h u))) (va_Qi (fun (r : Int32) u2 => (r, u2) = fX5_count u x1) (fun (u2 : mS) (t : State) => va_P (dC, dI) vwCl (mw g h u2) t.heap ∧ va_D (va_A (mw g h u) sz) (mw g h u2)) (va_A (mw g h u) sz)) 0 0 (va_A (mw g h u) sz) := by
  refine Met.ofW (cc := cX5_count) (maxL := 4) (ret := (some .int)) (by decide) rfl ?_
  intro p e s m args below meth c s₁ B hml hv
  obtain ⟨rfl, hsz, hP, hK, hD0⟩ := hv
  have hx := B.exec
  have hb := B.bytes
  have hr := B.returns
  have hts := atoms_spec (ws := wsX5_count) B.pre
  have hown : s.vm.findClass RX5 = some m.cls := findClass_of_methodNamed B.named
  have hlocks := B.notSynchronized
  subst hsz
  have hD := hD0.self (sz := s.heap.size)
  generalize hAe : va_A (mw g h u) s.heap.size = A at hD ⊢
  have hA : ∀ q : Nat, s.heap.size ≤ q → A q := fun q h => by rw [← hAe]; exact Or.inr h
  have hS : va_S A s.heap s.heap [] := va_S.rf
  have hl := lv_entry ([.ref (h 0), .int x1]) (n := 4) (Nat.le_of_ble_eq_true rfl)
  rw [lg_entry_eq]
  generalize (lg_sl ([.ref (h 0), .int x1]) ++ List.replicate (4 - (lg_sl ([.ref (h 0), .int x1])).length) Slot.unset).toArray = ls at hl ⊢
  have hl : lv_has ls 4 [(0, .ref (h 0)), (1, .int x1)] := hl
  obtain ⟨hI1, hI2, hI3, hI4, hI5, hI6, hI7⟩ := id hI
  have z_0 : (1 : Int32).toInt = 1 := by decide
  have z_1 : (0 : Int32).toInt = 0 := by decide
  refine lv_aload_n hx hb dX5_count_0 rfl (lv_at hl 0 rfl) ?_
  refine lv_iconst (v := 0) hx hb dX5_count_1 (by decide) ?_
  refine va_put (D := (dC, dI)) (C := RX5) (T := TX5) (N := 26) (v := .int 0) (ty := .int) hx hb hts (fi_X5 _) tyX5 tyX5_ok nmX5 hown hK hP hD hS 0 (mw_at0 _ _ _) rfl 0 (by decide) (hts _ (List.mem_cons_of_mem _ wd_237)) (fun _ h9 => h9) rfl (by decide +kernel) rfl rfl (Nat.le_of_ble_eq_true rfl) dX5_count_2 (fun H locs hP hD hS => ?_)
  have hP : va_P (dC, dI) vwCl (mw g h (s_mcode u 0)) H := hP
  have hD : va_D A (mw g h (s_mcode u 0)) := hD
  refine lv_iload_n hx hb dX5_count_5 rfl (lv_at hl 1 rfl) ?_
  refine lv_if_ne (tgt := 14) hx hb dX5_count_6 (by decide) (fun c_1 => ?_) (fun c_1 => ?_)
  · skip
    have t_2 : x1.toInt ≠ 0 := i_ne c_1 rfl (by decide)
    refine lv_iload_n hx hb dX5_count_14 rfl (lv_at hl 1 rfl) ?_
    refine lv_iconst (v := 1) hx hb dX5_count_15 (by decide) ?_
    refine lv_icmp_ne (tgt := 24) hx hb dX5_count_16 (by decide) (fun c_3 => ?_) (fun c_3 => ?_)
    · skip
      have t_4 : x1.toInt ≠ 1 := i_ne c_3 rfl (by decide)
      refine lv_iload_n hx hb dX5_count_24 rfl (lv_at hl 1 rfl) ?_
      refine lv_iconst (v := 2) hx hb dX5_count_25 (by decide) ?_
      refine lv_icmp_ne (tgt := 34) hx hb dX5_count_26 (by decide) (fun c_5 => ?_) (fun c_5 => ?_)
      · skip
        have t_6 : x1.toInt ≠ 2 := i_ne c_5 rfl (by decide)
        refine lv_iconst (v := 0) hx hb dX5_count_34 (by decide) ?_
        refine lv_istore_n (lv' := [(2, .int 0), (0, .ref (h 0)), (1, .int x1)]) hx hb dX5_count_35 rfl hl (by decide) rfl (fun ls hl => ?_)
        refine lv_iconst (v := 1) hx hb dX5_count_36 (by decide) ?_
        refine lv_istore_n (lv' := [(3, .int 1), (2, .int 0), (0, .ref (h 0)), (1, .int x1)]) hx hb dX5_count_37 rfl hl (by decide) rfl (fun ls hl => ?_)
        refine lp_ind (W p l e _ s m _ below meth c _ _ _ _ _) (fun n ls => ∃ (i : Int32) (a : Int32), ((k_munits u).toInt - i.toInt + 1 < (n : Int)) ∧ (1 ≤ i.toInt ∧ i.toInt ≤ 121 ∧ i.toInt ≤ (k_munits u).toInt + 1) ∧ fX5_count u x1 = lpX5_count u x1 n i a ∧ lv_has ls 4 [(3, .int i), (2, .int a), (0, .ref (h 0)), (1, .int x1)]) m 38 (fun ls hI0 => ?_) (fun n ls hI0 ih => ?_) 121 _ ⟨1, 0, (by omega), (by omega), (by unfold fX5_count; rw [if_neg c_1, if_neg c_3, if_neg c_5]), lv_sub hl [0, 1, 2, 3] rfl⟩
        · skip
          obtain ⟨i, a, hn, hi, he, hl⟩ := hI0
          exact absurd hn (by omega)
        · skip
          obtain ⟨i, a, hn, hi, he, hl⟩ := hI0
          have he_9 := he
          have ih_8 := ih
          refine lv_iload_n hx hb dX5_count_38 rfl (lv_at hl 0 rfl) ?_
          refine lv_aload_n hx hb dX5_count_39 rfl (lv_at hl 2 rfl) ?_
          refine va_get (D := (dC, dI)) (C := RX5) (T := TX5) (N := 26) (v := .int (k_munits u)) hx hb hts (fi_X5 _) hown hK hP 0 (mw_at0 _ _ _) rfl 14 (by decide) (hts _ (List.mem_cons_of_mem _ wd_243)) (fun _ h9 => h9) rfl dX5_count_40 ?_
          refine lv_icmp_gt (tgt := 68) hx hb dX5_count_43 (by decide) (fun c_10 => ?_) (fun c_10 => ?_)
          · skip
            have t_11 : (k_munits u).toInt < i.toInt := i_lt c_10 rfl rfl
            refine lv_iload_n hx hb dX5_count_68 rfl (lv_at hl 3 rfl) ?_
            refine lv_iconst (v := 3) hx hb dX5_count_69 (by decide) ?_
            refine lv_icmp_ne (tgt := 77) hx hb dX5_count_70 (by decide) (fun c_12 => ?_) (fun c_12 => ?_)
            · skip
              have t_13 : x1.toInt ≠ 3 := i_ne c_12 rfl (by decide)
              refine lv_iconst (v := (-1)) hx hb dX5_count_77 (by decide) ?_
              exact W.iret (v := (-1)) hx hb hr (fun t ht hW => ⟨⟨(-1), (s_mcode u 0), rfl, (by rw [he_9, lpX5_count_eq, if_pos c_10, if_neg c_12]), by rw [ht]; exact hP, hD⟩, hS.F ht⟩) hS.2.2 dX5_count_78
            · skip
              have t_14 : x1.toInt = 3 := i_eq c_12 rfl (by decide)
              refine lv_iload_n hx hb dX5_count_73 rfl (lv_at hl 1 rfl) ?_
              refine lv_goto (tgt := 78) hx hb dX5_count_74 (by decide) ?_
              exact W.iret (v := a) hx hb hr (fun t ht hW => ⟨⟨a, (s_mcode u 0), rfl, (by rw [he_9, lpX5_count_eq, if_pos c_10, if_pos c_12]), by rw [ht]; exact hP, hD⟩, hS.F ht⟩) hS.2.2 dX5_count_78
          · skip
            have t_15 : i.toInt ≤ (k_munits u).toInt := i_nlt c_10 rfl rfl
            refine lv_iload_n hx hb dX5_count_46 rfl (lv_at hl 1 rfl) ?_
            refine lv_aload_n hx hb dX5_count_47 rfl (lv_at hl 2 rfl) ?_
            refine lv_iload_n hx hb dX5_count_48 rfl (lv_at hl 0 rfl) ?_
            refine vp_callSi (W.runV (As := [.int i]) (rest := [.int a]) ⟨hx, hb, hml, hown, hts⟩ (kX5_isGone l dC dI g h (s_mcode u 0) i (by omega)) (cwV 1 hts (gV wd_308 wd_309 wd_310 wd_241 wcX5_isGone) rfl rfl rfl (by decide +kernel) ⟨(Nat.le_of_ble_eq_true rfl), (Nat.le_of_ble_eq_true rfl)⟩) ⟨fun a U g mk q => by obtain ⟨q0, qP, qK⟩ := q; exact ⟨q0, qP, va_K.moved (u := U) (U := U.calling g mk a) (Vm.Alike.refl U.vm) qK⟩, va_recv hK hP (ci := 4) (q0 := 0) rfl (mw_at0 _ _ _), fun U hU hW => ⟨rfl, by rw [hU]; exact hP, va_K.moved hW.alike hK⟩⟩ rfl rfl hl.1 rfl (lv_room (Nat.le_of_ble_eq_true rfl)) dX5_count_49 ⟨(Nat.le_of_ble_eq_true rfl), (Nat.le_of_ble_eq_true rfl)⟩) (fun r_16 hw => ?_)
            subst hw
            refine lv_if_eq (tgt := 59) hx hb dX5_count_52 (by decide) (fun c_17 => ?_) (fun c_17 => ?_)
            · skip
              have t_18 : (fX5_isGone (s_mcode u 0) i).toInt = 0 := i_eq c_17 rfl (by decide)
              refine lv_iconst (v := 0) hx hb dX5_count_59 (by decide) ?_
              refine lv_iadd hx hb dX5_count_60 ?_
              refine lv_istore_n (lv' := [(2, .int (a + 0)), (3, .int i), (0, .ref (h 0)), (1, .int x1)]) hx hb dX5_count_61 rfl hl (by decide) rfl (fun ls hl => ?_)
              refine lv_iinc (v := i + 1) (lv' := [(3, .int (i + 1)), (2, .int (a + 0)), (0, .ref (h 0)), (1, .int x1)]) hx hb dX5_count_62 hl (k := 1) rfl rfl (by decide) rfl (fun ls hl => ?_)
              refine lv_goto (tgt := 38) hx hb dX5_count_65 (by decide) ?_
              have hb1 := i_inc (x := i) (by omega)
              exact ih_8 _ ⟨(i + 1), (a + 0), (by omega), (by omega), (by rw [he_9, lpX5_count_eq, if_neg c_10, if_pos c_17]), lv_sub hl [0, 1, 2, 3] rfl⟩
            · skip
              have t_19 : (fX5_isGone (s_mcode u 0) i).toInt ≠ 0 := i_ne c_17 rfl (by decide)
              refine lv_iconst (v := 1) hx hb dX5_count_55 (by decide) ?_
              refine lv_goto (tgt := 60) hx hb dX5_count_56 (by decide) ?_
              refine lv_iadd hx hb dX5_count_60 ?_
              refine lv_istore_n (lv' := [(2, .int (a + 1)), (3, .int i), (0, .ref (h 0)), (1, .int x1)]) hx hb dX5_count_61 rfl hl (by decide) rfl (fun ls hl => ?_)
              refine lv_iinc (v := i + 1) (lv' := [(3, .int (i + 1)), (2, .int (a + 1)), (0, .ref (h 0)), (1, .int x1)]) hx hb dX5_count_62 hl (k := 1) rfl rfl (by decide) rfl (fun ls hl => ?_)
              refine lv_goto (tgt := 38) hx hb dX5_count_65 (by decide) ?_
              have hb1 := i_inc (x := i) (by omega)
              exact ih_8 _ ⟨(i + 1), (a + 1), (by omega), (by omega), (by rw [he_9, lpX5_count_eq, if_neg c_10, if_neg c_17]), lv_sub hl [0, 1, 2, 3] rfl⟩
      · skip
        have t_20 : x1.toInt = 2 := i_eq c_5 rfl (by decide)
        refine lv_aload_n hx hb dX5_count_29 rfl (lv_at hl 0 rfl) ?_
        refine va_get (D := (dC, dI)) (C := RX5) (T := TX5) (N := 26) (v := .int (k_mrows u)) hx hb hts (fi_X5 _) hown hK hP 0 (mw_at0 _ _ _) rfl 20 (by decide) (hts _ (List.mem_cons_of_mem _ wd_273)) (fun _ h9 => h9) rfl dX5_count_30 ?_
        exact W.iret (v := k_mrows u) hx hb hr (fun t ht hW => ⟨⟨(k_mrows u), (s_mcode u 0), rfl, (by unfold fX5_count; rw [if_neg c_1, if_neg c_3, if_pos c_5]), by rw [ht]; exact hP, hD⟩, hS.F ht⟩) hS.2.2 dX5_count_33
    · skip
      have t_21 : x1.toInt = 1 := i_eq c_3 rfl (by decide)
      refine lv_aload_n hx hb dX5_count_19 rfl (lv_at hl 0 rfl) ?_
      refine va_get (D := (dC, dI)) (C := RX5) (T := TX5) (N := 26) (v := .int (k_munits u)) hx hb hts (fi_X5 _) hown hK hP 0 (mw_at0 _ _ _) rfl 14 (by decide) (hts _ (List.mem_cons_of_mem _ wd_243)) (fun _ h9 => h9) rfl dX5_count_20 ?_
      exact W.iret (v := k_munits u) hx hb hr (fun t ht hW => ⟨⟨(k_munits u), (s_mcode u 0), rfl, (by unfold fX5_count; rw [if_neg c_1, if_pos c_3]), by rw [ht]; exact hP, hD⟩, hS.F ht⟩) hS.2.2 dX5_count_23
  · skip
    have t_22 : x1.toInt = 0 := i_eq c_1 rfl (by decide)
    refine lv_aload_n hx hb dX5_count_9 rfl (lv_at hl 0 rfl) ?_
    refine va_get (D := (dC, dI)) (C := RX5) (T := TX5) (N := 26) (v := .int (k_mlots u)) hx hb hts (fi_X5 _) hown hK hP 0 (mw_at0 _ _ _) rfl 1 (by decide) (hts _ (List.mem_cons_of_mem _ wd_238)) (fun _ h9 => h9) rfl dX5_count_10 ?_
    exact W.iret (v := k_mlots u) hx hb hr (fun t ht hW => ⟨⟨(k_mlots u), (s_mcode u 0), rfl, (by unfold fX5_count; rw [if_pos c_1]), by rw [ht]; exact hP, hD⟩, hS.F ht⟩) hS.2.2 dX5_count_13