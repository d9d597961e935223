set_option maxHeartbeats 4000000 in
set_option maxRecDepth 100000 in
theorem kX5_order (l : Launch) (dC : Nat → ClassId) (dI : Nat → Nat → Nat) (g : cG) (h : Nat → Nat) (u : mS) (sz : Nat) (x1 : Int32) (x2 : Int32) (x3 : Int32) (hI : mInv u) : Met l yX5_order wsX5_order ({ frames := 2, cells := 0, slots := 0, locals := 42 }) (va_Pc [.ref (h 0), .int x1, .int x2, .int x3] (fun U => U.heap.size = sz ∧ va_P (dC, dI) vwCl (mw g h u) U.heap ∧ va_K (dC, dI) vwCl (cTys g) U ∧ va_D (fun _ => True) (mw g h u))) (va_Qi (fun (r : Int32) u2 => (r, u2) = fX5_order u x1 x2 x3) (fun (u2 : mS) (t : State) => va_P (dC, dI) vwCl (mw g h u2) t.heap ∧ va_D (va_A (mw g h u) sz) (mw g h u2)) (va_A (mw g h u) sz)) 0 0 (va_A (mw g h u) sz) := by
  refine Met.ofW (cc := cX5_order) (maxL := 7) (ret := (some .int)) (by decide) rfl ?_
  intro p e s m args below meth c s₁ B hml hv
  obtain ⟨rfl, hsz, hP, hK, hD0⟩ := hv
  have hx := B.exec
  have hb := B.bytes
  have hr := B.returns
  have hts := atoms_spec (ws := wsX5_order) B.pre
  have hown : s.vm.findClass RX5 = some m.cls := findClass_of_methodNamed B.named
  have hlocks := B.notSynchronized
  subst hsz
  have hD := hD0.self (sz := s.heap.size)
  generalize hAe : va_A (mw g h u) s.heap.size = A at hD ⊢
  have hA : ∀ q : Nat, s.heap.size ≤ q → A q := fun q h => by rw [← hAe]; exact Or.inr h
  have hS : va_S A s.heap s.heap [] := va_S.rf
  have hl := lv_entry ([.ref (h 0), .int x1, .int x2, .int x3]) (n := 7) (Nat.le_of_ble_eq_true rfl)
  rw [lg_entry_eq]
  generalize (lg_sl ([.ref (h 0), .int x1, .int x2, .int x3]) ++ List.replicate (7 - (lg_sl ([.ref (h 0), .int x1, .int x2, .int x3])).length) Slot.unset).toArray = ls at hl ⊢
  have hl : lv_has ls 7 [(0, .ref (h 0)), (1, .int x1), (2, .int x2), (3, .int x3)] := hl
  obtain ⟨hI1, hI2, hI3, hI4, hI5, hI6, hI7⟩ := id hI
  have z_0 : (0 : Int32).toInt = 0 := by decide
  have z_1 : (9 : Int32).toInt = 9 := by decide
  have z_2 : (7 : Int32).toInt = 7 := by decide
  have z_3 : (1 : Int32).toInt = 1 := by decide
  refine lv_aload_n hx hb dX5_order_0 rfl (lv_at hl 0 rfl) ?_
  refine lv_iload_n hx hb dX5_order_1 rfl (lv_at hl 1 rfl) ?_
  refine lv_iconst (v := 0) hx hb dX5_order_2 (by decide) ?_
  refine lv_bipush (v := 9) hx hb dX5_order_3 (by decide) ?_
  refine vp_callSi (W.runS (As := [.int x1, .int 0, .int 9]) (rest := [.ref (h 0)]) ⟨hx, hb, hml, hown, hts⟩ (kX5_in l dC dI x1 0 9) (cwS 3 hts (gS wd_239 wd_240 wd_241 wcX5_in) rfl rfl rfl (by decide +kernel) ⟨(Nat.le_of_ble_eq_true rfl), (Nat.le_of_ble_eq_true rfl)⟩) ⟨fun a U g mk q => by obtain ⟨q0, qT⟩ := q; exact ⟨q0, qT⟩, fun U hU hW => ⟨rfl, trivial⟩⟩ rfl rfl hl.1 rfl (lv_room (Nat.le_of_ble_eq_true rfl)) dX5_order_5 ⟨(Nat.le_of_ble_eq_true rfl), (Nat.le_of_ble_eq_true rfl)⟩) (fun r_1 hw => ?_)
  subst hw
  refine lv_if_eq (tgt := 25) hx hb dX5_order_8 (by decide) (fun c_2 => ?_) (fun c_2 => ?_)
  · skip
    have t_3 : (fX5_in x1 0 9).toInt = 0 := i_eq c_2 rfl (by decide)
    refine lv_iconst (v := 1) hx hb dX5_order_25 (by decide) ?_
    refine lv_goto (tgt := 30) hx hb dX5_order_26 (by decide) ?_
    refine va_put (D := (dC, dI)) (C := RX5) (T := TX5) (N := 26) (v := .int 1) (ty := .int) hx hb hts (fi_X5 _) tyX5 tyX5_ok nmX5 hown hK hP hD hS 0 (mw_at0 _ _ _) rfl 0 (by decide) (hts _ (List.mem_cons_of_mem _ wd_237)) (fun _ h9 => h9) rfl (by decide +kernel) rfl rfl (Nat.le_of_ble_eq_true rfl) dX5_order_30 (fun H locs hP hD hS => ?_)
    have hP : va_P (dC, dI) vwCl (mw g h (s_mcode u 1)) H := hP
    have hD : va_D A (mw g h (s_mcode u 1)) := hD
    refine lv_aload_n hx hb dX5_order_33 rfl (lv_at hl 0 rfl) ?_
    refine va_get (D := (dC, dI)) (C := RX5) (T := TX5) (N := 26) (v := .int 1) hx hb hts (fi_X5 _) hown hK hP 0 (mw_at0 _ _ _) rfl 0 (by decide) (hts _ (List.mem_cons_of_mem _ wd_237)) (fun _ h9 => h9) rfl dX5_order_34 ?_
    refine lv_if_le (tgt := 42) hx hb dX5_order_37 (by decide) (fun c_4 => ?_) (fun c_4 => ?_)
    · skip
      exact absurd c_4 (by decide)
    · skip
      refine lv_iconst (v := 0) hx hb dX5_order_40 (by decide) ?_
      exact W.iret (v := 0) hx hb hr (fun t ht hW => ⟨⟨0, (s_mcode u 1), rfl, (by unfold fX5_order; rw [if_pos c_2]), by rw [ht]; exact hP, hD⟩, hS.F ht⟩) hS.2.2 dX5_order_41
  · skip
    have t_5 : (fX5_in x1 0 9).toInt ≠ 0 := i_ne c_2 rfl (by decide)
    have t_6 := in_lo c_2
    have t_7 := in_hi c_2
    refine lv_iload_n hx hb dX5_order_11 rfl (lv_at hl 2 rfl) ?_
    refine lv_iconst (v := 0) hx hb dX5_order_12 (by decide) ?_
    refine lv_bipush (v := 7) hx hb dX5_order_13 (by decide) ?_
    refine vp_callSi (W.runS (As := [.int x2, .int 0, .int 7]) (rest := [.ref (h 0)]) ⟨hx, hb, hml, hown, hts⟩ (kX5_in l dC dI x2 0 7) (cwS 3 hts (gS wd_239 wd_240 wd_241 wcX5_in) rfl rfl rfl (by decide +kernel) ⟨(Nat.le_of_ble_eq_true rfl), (Nat.le_of_ble_eq_true rfl)⟩) ⟨fun a U g mk q => by obtain ⟨q0, qT⟩ := q; exact ⟨q0, qT⟩, fun U hU hW => ⟨rfl, trivial⟩⟩ rfl rfl hl.1 rfl (lv_room (Nat.le_of_ble_eq_true rfl)) dX5_order_15 ⟨(Nat.le_of_ble_eq_true rfl), (Nat.le_of_ble_eq_true rfl)⟩) (fun r_8 hw => ?_)
    subst hw
    refine lv_if_eq (tgt := 25) hx hb dX5_order_18 (by decide) (fun c_9 => ?_) (fun c_9 => ?_)
    · skip
      have t_10 : (fX5_in x2 0 7).toInt = 0 := i_eq c_9 rfl (by decide)
      refine lv_iconst (v := 1) hx hb dX5_order_25 (by decide) ?_
      refine lv_goto (tgt := 30) hx hb dX5_order_26 (by decide) ?_
      refine va_put (D := (dC, dI)) (C := RX5) (T := TX5) (N := 26) (v := .int 1) (ty := .int) hx hb hts (fi_X5 _) tyX5 tyX5_ok nmX5 hown hK hP hD hS 0 (mw_at0 _ _ _) rfl 0 (by decide) (hts _ (List.mem_cons_of_mem _ wd_237)) (fun _ h9 => h9) rfl (by decide +kernel) rfl rfl (Nat.le_of_ble_eq_true rfl) dX5_order_30 (fun H locs hP hD hS => ?_)
      have hP : va_P (dC, dI) vwCl (mw g h (s_mcode u 1)) H := hP
      have hD : va_D A (mw g h (s_mcode u 1)) := hD
      refine lv_aload_n hx hb dX5_order_33 rfl (lv_at hl 0 rfl) ?_
      refine va_get (D := (dC, dI)) (C := RX5) (T := TX5) (N := 26) (v := .int 1) hx hb hts (fi_X5 _) hown hK hP 0 (mw_at0 _ _ _) rfl 0 (by decide) (hts _ (List.mem_cons_of_mem _ wd_237)) (fun _ h9 => h9) rfl dX5_order_34 ?_
      refine lv_if_le (tgt := 42) hx hb dX5_order_37 (by decide) (fun c_11 => ?_) (fun c_11 => ?_)
      · skip
        exact absurd c_11 (by decide)
      · skip
        refine lv_iconst (v := 0) hx hb dX5_order_40 (by decide) ?_
        exact W.iret (v := 0) hx hb hr (fun t ht hW => ⟨⟨0, (s_mcode u 1), rfl, (by unfold fX5_order; rw [if_neg c_2, if_pos c_9]), by rw [ht]; exact hP, hD⟩, hS.F ht⟩) hS.2.2 dX5_order_41
    · skip
      have t_12 : (fX5_in x2 0 7).toInt ≠ 0 := i_ne c_9 rfl (by decide)
      have t_13 := in_lo c_9
      have t_14 := in_hi c_9
      refine lv_iload_n hx hb dX5_order_21 rfl (lv_at hl 3 rfl) ?_
      refine lv_if_ge (tgt := 29) hx hb dX5_order_22 (by decide) (fun c_15 => ?_) (fun c_15 => ?_)
      · skip
        have t_16 : 0 ≤ x3.toInt := i_le c_15 (by decide) rfl
        refine lv_iconst (v := 0) hx hb dX5_order_29 (by decide) ?_
        refine va_put (D := (dC, dI)) (C := RX5) (T := TX5) (N := 26) (v := .int 0) (ty := .int) hx hb hts (fi_X5 _) tyX5 tyX5_ok nmX5 hown hK hP hD hS 0 (mw_at0 _ _ _) rfl 0 (by decide) (hts _ (List.mem_cons_of_mem _ wd_237)) (fun _ h9 => h9) rfl (by decide +kernel) rfl rfl (Nat.le_of_ble_eq_true rfl) dX5_order_30 (fun H locs hP hD hS => ?_)
        have hP : va_P (dC, dI) vwCl (mw g h (s_mcode u 0)) H := hP
        have hD : va_D A (mw g h (s_mcode u 0)) := hD
        refine lv_aload_n hx hb dX5_order_33 rfl (lv_at hl 0 rfl) ?_
        refine va_get (D := (dC, dI)) (C := RX5) (T := TX5) (N := 26) (v := .int 0) hx hb hts (fi_X5 _) hown hK hP 0 (mw_at0 _ _ _) rfl 0 (by decide) (hts _ (List.mem_cons_of_mem _ wd_237)) (fun _ h9 => h9) rfl dX5_order_34 ?_
        refine lv_if_le (tgt := 42) hx hb dX5_order_37 (by decide) (fun c_17 => ?_) (fun c_17 => ?_)
        · skip
          refine lv_iconst (v := 1) hx hb dX5_order_42 (by decide) ?_
          refine lv_istore (lv' := [(4, .int 1), (0, .ref (h 0)), (1, .int x1), (2, .int x2), (3, .int x3)]) hx hb dX5_order_43 hl (by decide) rfl (fun ls hl => ?_)
          refine lp_ind (W p l e _ s m _ below meth c _ _ _ _ _) (fun n ls => ∃ (i : Int32), ((k_mlots u).toInt - i.toInt + 1 < (n : Int)) ∧ (1 ≤ i.toInt ∧ i.toInt ≤ 41 ∧ i.toInt ≤ (k_mlots u).toInt + 1) ∧ fX5_order u x1 x2 x3 = loX5_order u x1 x2 x3 n i ∧ lv_has ls 7 [(4, .int i), (0, .ref (h 0)), (1, .int x1), (2, .int x2), (3, .int x3)]) m 45 (fun ls hI0 => ?_) (fun n ls hI0 ih => ?_) 41 _ ⟨1, (by omega), (by omega), (by unfold fX5_order; rw [if_neg c_2, if_neg c_9, if_pos c_15]), lv_sub hl [0, 1, 2, 3, 4] rfl⟩
          · skip
            obtain ⟨i, hn, hi, he, hl⟩ := hI0
            exact absurd hn (by omega)
          · skip
            obtain ⟨i, hn, hi, he, hl⟩ := hI0
            have he_20 := he
            have ih_19 := ih
            refine lv_iload hx hb dX5_order_45 (lv_at hl 0 rfl) ?_
            refine lv_aload_n hx hb dX5_order_47 rfl (lv_at hl 1 rfl) ?_
            refine va_get (D := (dC, dI)) (C := RX5) (T := TX5) (N := 26) (v := .int (k_mlots u)) hx hb hts (fi_X5 _) hown hK hP 0 (mw_at0 _ _ _) rfl 1 (by decide) (hts _ (List.mem_cons_of_mem _ wd_238)) (fun _ h9 => h9) rfl dX5_order_48 ?_
            refine lv_icmp_gt (tgt := 183) hx hb dX5_order_51 (by decide) (fun c_21 => ?_) (fun c_21 => ?_)
            · skip
              have t_22 : (k_mlots u).toInt < i.toInt := i_lt c_21 rfl rfl
              refine lv_iconst (v := (-1)) hx hb dX5_order_183 (by decide) ?_
              exact W.iret (v := (-1)) hx hb hr (fun t ht hW => ⟨⟨(-1), (s_mcode u 0), rfl, (by rw [he_20, loX5_order_eq, if_pos c_21]), by rw [ht]; exact hP, hD⟩, hS.F ht⟩) hS.2.2 dX5_order_184
            · skip
              have t_23 : i.toInt ≤ (k_mlots u).toInt := i_nlt c_21 rfl rfl
              refine lv_aload_n hx hb dX5_order_54 rfl (lv_at hl 1 rfl) ?_
              refine va_get (D := (dC, dI)) (C := RX5) (T := TX5) (N := 26) (v := .ref (h 1)) hx hb hts (fi_X5 _) hown hK hP 0 (mw_at0 _ _ _) rfl 2 (by decide) (hts _ (List.mem_cons_of_mem _ wd_261)) (fun _ h9 => h9) rfl dX5_order_55 ?_
              refine lv_iload hx hb dX5_order_58 (lv_at hl 0 rfl) ?_
              refine va_iald (f := k_mgood u) hx hb hK hP 1 0 (mw_at1 _ _ _) rfl (vp_in_iff.mpr (by omega)) dX5_order_60 ?_
              refine lv_iload_n hx hb dX5_order_61 rfl (lv_at hl 2 rfl) ?_
              refine lv_icmp_ne (tgt := 177) hx hb dX5_order_62 (by decide) (fun c_24 => ?_) (fun c_24 => ?_)
              · skip
                have t_25 : (k_mgood u i.toNatClampNeg).toInt ≠ x1.toInt := i_ne c_24 rfl rfl
                refine lv_iinc (v := i + 1) (lv' := [(4, .int (i + 1)), (0, .ref (h 0)), (1, .int x1), (2, .int x2), (3, .int x3)]) hx hb dX5_order_177 hl (k := 0) rfl rfl (by decide) rfl (fun ls hl => ?_)
                refine lv_goto (tgt := 45) hx hb dX5_order_180 (by decide) ?_
                have hb1 := i_inc (x := i) (by omega)
                exact ih_19 _ ⟨(i + 1), (by omega), (by omega), (by rw [he_20, loX5_order_eq, if_neg c_21, if_neg c_24]), lv_sub hl [0, 1, 2, 3, 4] rfl⟩
              · skip
                have t_26 : (k_mgood u i.toNatClampNeg).toInt = x1.toInt := i_eq c_24 rfl rfl
                refine lv_aload_n hx hb dX5_order_65 rfl (lv_at hl 1 rfl) ?_
                refine va_get (D := (dC, dI)) (C := RX5) (T := TX5) (N := 26) (v := .ref (h 2)) hx hb hts (fi_X5 _) hown hK hP 0 (mw_at0 _ _ _) rfl 3 (by decide) (hts _ (List.mem_cons_of_mem _ wd_253)) (fun _ h9 => h9) rfl dX5_order_66 ?_
                refine lv_iload hx hb dX5_order_69 (lv_at hl 0 rfl) ?_
                refine va_iald (f := k_mowner u) hx hb hK hP 2 0 (mw_at2 _ _ _) rfl (vp_in_iff.mpr (by omega)) dX5_order_71 ?_
                refine lv_iload_n hx hb dX5_order_72 rfl (lv_at hl 3 rfl) ?_
                refine lv_icmp_ne (tgt := 177) hx hb dX5_order_73 (by decide) (fun c_27 => ?_) (fun c_27 => ?_)
                · skip
                  have t_28 : (k_mowner u i.toNatClampNeg).toInt ≠ x2.toInt := i_ne c_27 rfl rfl
                  refine lv_iinc (v := i + 1) (lv' := [(4, .int (i + 1)), (0, .ref (h 0)), (1, .int x1), (2, .int x2), (3, .int x3)]) hx hb dX5_order_177 hl (k := 0) rfl rfl (by decide) rfl (fun ls hl => ?_)
                  refine lv_goto (tgt := 45) hx hb dX5_order_180 (by decide) ?_
                  have hb1 := i_inc (x := i) (by omega)
                  exact ih_19 _ ⟨(i + 1), (by omega), (by omega), (by rw [he_20, loX5_order_eq, if_neg c_21, if_pos c_24, if_neg c_27]), lv_sub hl [0, 1, 2, 3, 4] rfl⟩
                · skip
                  have t_29 : (k_mowner u i.toNatClampNeg).toInt = x2.toInt := i_eq c_27 rfl rfl
                  refine lv_aload_n hx hb dX5_order_76 rfl (lv_at hl 1 rfl) ?_
                  refine lv_iload hx hb dX5_order_77 (lv_at hl 0 rfl) ?_
                  refine vp_callSi (W.runV (As := [.int i]) (rest := []) ⟨hx, hb, hml, hown, hts⟩ (kX5_mayBeTaken l dC dI g h (s_mcode u 0) i (by omega)) (cwV 1 hts (gV wd_256 wd_257 wd_258 wd_241 wcX5_mayBeTaken) rfl rfl rfl (by decide +kernel) ⟨(Nat.le_of_ble_eq_true rfl), (Nat.le_of_ble_eq_true rfl)⟩) ⟨fun a U g mk q => by obtain ⟨q0, qP, qK⟩ := q; exact ⟨q0, qP, va_K.moved (u := U) (U := U.calling g mk a) (Vm.Alike.refl U.vm) qK⟩, va_recv hK hP (ci := 4) (q0 := 0) rfl (mw_at0 _ _ _), fun U hU hW => ⟨rfl, by rw [hU]; exact hP, va_K.moved hW.alike hK⟩⟩ rfl rfl hl.1 rfl (lv_room (Nat.le_of_ble_eq_true rfl)) dX5_order_79 ⟨(Nat.le_of_ble_eq_true rfl), (Nat.le_of_ble_eq_true rfl)⟩) (fun r_30 hw => ?_)
                  subst hw
                  refine lv_if_ne (tgt := 88) hx hb dX5_order_82 (by decide) (fun c_31 => ?_) (fun c_31 => ?_)
                  · skip
                    have t_32 : (fX5_mayBeTaken (s_mcode u 0) i).toInt ≠ 0 := i_ne c_31 rfl (by decide)
                    refine lv_iconst (v := 0) hx hb dX5_order_88 (by decide) ?_
                    refine lv_istore (lv' := [(5, .int 0), (4, .int i), (0, .ref (h 0)), (1, .int x1), (2, .int x2), (3, .int x3)]) hx hb dX5_order_89 hl (by decide) rfl (fun ls hl => ?_)
                    refine lv_iconst (v := 1) hx hb dX5_order_91 (by decide) ?_
                    refine lv_istore (lv' := [(6, .int 1), (5, .int 0), (4, .int i), (0, .ref (h 0)), (1, .int x1), (2, .int x2), (3, .int x3)]) hx hb dX5_order_92 hl (by decide) rfl (fun ls hl => ?_)
                    refine lp_ind (W p l e _ s m _ below meth c _ _ _ _ _) (fun n2 ls => ∃ (k : Int32) (b : Int32), ((k_mlots u).toInt - k.toInt + 1 < (n2 : Int)) ∧ (1 ≤ k.toInt ∧ k.toInt ≤ 41 ∧ k.toInt ≤ (k_mlots u).toInt + 1) ∧ fX5_order u x1 x2 x3 = (if liX5_order u x1 x2 i n2 k b = x3 then (i, s_mcode u 0) else loX5_order u x1 x2 x3 n (i + 1)) ∧ lv_has ls 7 [(6, .int k), (5, .int b), (0, .ref (h 0)), (1, .int x1), (2, .int x2), (3, .int x3), (4, .int i)]) m 94 (fun ls hI0 => ?_) (fun n2 ls hI0 ih => ?_) 41 _ ⟨1, 0, (by omega), (by omega), (by rw [he_20, loX5_order_eq, if_neg c_21, if_pos c_24, if_pos c_27, if_neg c_31]), lv_sub hl [0, 1, 3, 4, 5, 6, 2] rfl⟩
                    · skip
                      obtain ⟨k, b, hn2, hk, he, hl⟩ := hI0
                      exact absurd hn2 (by omega)
                    · skip
                      obtain ⟨k, b, hn2, hk, he, hl⟩ := hI0
                      have he_35 := he
                      have ih_34 := ih
                      refine lv_iload hx hb dX5_order_94 (lv_at hl 0 rfl) ?_
                      refine lv_aload_n hx hb dX5_order_96 rfl (lv_at hl 2 rfl) ?_
                      refine va_get (D := (dC, dI)) (C := RX5) (T := TX5) (N := 26) (v := .int (k_mlots u)) hx hb hts (fi_X5 _) hown hK hP 0 (mw_at0 _ _ _) rfl 1 (by decide) (hts _ (List.mem_cons_of_mem _ wd_238)) (fun _ h9 => h9) rfl dX5_order_97 ?_
                      refine lv_icmp_gt (tgt := 168) hx hb dX5_order_100 (by decide) (fun c_36 => ?_) (fun c_36 => ?_)
                      · skip
                        have t_37 : (k_mlots u).toInt < k.toInt := i_lt c_36 rfl rfl
                        have he_38 : fX5_order u x1 x2 x3 = (if b = x3 then (i, s_mcode u 0) else loX5_order u x1 x2 x3 n (i + 1)) := (by rw [he_35, liX5_order_eq, if_pos c_36])
                        refine lv_iload hx hb dX5_order_168 (lv_at hl 1 rfl) ?_
                        refine lv_iload_n hx hb dX5_order_170 rfl (lv_at hl 5 rfl) ?_
                        refine lv_icmp_ne (tgt := 177) hx hb dX5_order_171 (by decide) (fun c_39 => ?_) (fun c_39 => ?_)
                        · skip
                          have t_40 : b.toInt ≠ x3.toInt := i_ne c_39 rfl rfl
                          refine lv_iinc (v := i + 1) (lv' := [(4, .int (i + 1)), (6, .int k), (5, .int b), (0, .ref (h 0)), (1, .int x1), (2, .int x2), (3, .int x3)]) hx hb dX5_order_177 hl (k := 6) rfl rfl (by decide) rfl (fun ls hl => ?_)
                          refine lv_goto (tgt := 45) hx hb dX5_order_180 (by decide) ?_
                          have hb1 := i_inc (x := i) (by omega)
                          exact ih_19 _ ⟨(i + 1), (by omega), (by omega), (by rw [he_38, if_neg c_39]), lv_sub hl [0, 3, 4, 5, 6] rfl⟩
                        · skip
                          have t_41 : b.toInt = x3.toInt := i_eq c_39 rfl rfl
                          refine lv_iload hx hb dX5_order_174 (lv_at hl 6 rfl) ?_
                          exact W.iret (v := i) hx hb hr (fun t ht hW => ⟨⟨i, (s_mcode u 0), rfl, (by rw [he_38, if_pos c_39]), by rw [ht]; exact hP, hD⟩, hS.F ht⟩) hS.2.2 dX5_order_176
                      · skip
                        have t_42 : k.toInt ≤ (k_mlots u).toInt := i_nlt c_36 rfl rfl
                        refine lv_iload hx hb dX5_order_103 (lv_at hl 1 rfl) ?_
                        refine lv_iload hx hb dX5_order_105 (lv_at hl 0 rfl) ?_
                        refine lv_iload hx hb dX5_order_107 (lv_at hl 6 rfl) ?_
                        refine lv_icmp_eq (tgt := 158) hx hb dX5_order_109 (by decide) (fun c_43 => ?_) (fun c_43 => ?_)
                        · skip
                          have t_44 : k.toInt = i.toInt := i_eq c_43 rfl rfl
                          refine lv_iconst (v := 0) hx hb dX5_order_158 (by decide) ?_
                          refine lv_iadd hx hb dX5_order_159 ?_
                          refine lv_istore (lv' := [(5, .int (b + 0)), (6, .int k), (0, .ref (h 0)), (1, .int x1), (2, .int x2), (3, .int x3), (4, .int i)]) hx hb dX5_order_160 hl (by decide) rfl (fun ls hl => ?_)
                          refine lv_iinc (v := k + 1) (lv' := [(6, .int (k + 1)), (5, .int (b + 0)), (0, .ref (h 0)), (1, .int x1), (2, .int x2), (3, .int x3), (4, .int i)]) hx hb dX5_order_162 hl (k := 1) rfl rfl (by decide) rfl (fun ls hl => ?_)
                          refine lv_goto (tgt := 94) hx hb dX5_order_165 (by decide) ?_
                          have hb2 := i_inc (x := k) (by omega)
                          exact ih_34 _ ⟨(k + 1), (b + 0), (by omega), (by omega), (by rw [he_35, liX5_order_eq, if_neg c_36, if_pos c_43]), lv_sub hl [0, 1, 2, 3, 4, 5, 6] rfl⟩
                        · skip
                          have t_45 : k.toInt ≠ i.toInt := i_ne c_43 rfl rfl
                          refine lv_aload_n hx hb dX5_order_112 rfl (lv_at hl 2 rfl) ?_
                          refine va_get (D := (dC, dI)) (C := RX5) (T := TX5) (N := 26) (v := .ref (h 1)) hx hb hts (fi_X5 _) hown hK hP 0 (mw_at0 _ _ _) rfl 2 (by decide) (hts _ (List.mem_cons_of_mem _ wd_261)) (fun _ h9 => h9) rfl dX5_order_113 ?_
                          refine lv_iload hx hb dX5_order_116 (lv_at hl 0 rfl) ?_
                          refine va_iald (f := k_mgood u) hx hb hK hP 1 0 (mw_at1 _ _ _) rfl (vp_in_iff.mpr (by omega)) dX5_order_118 ?_
                          refine lv_iload_n hx hb dX5_order_119 rfl (lv_at hl 3 rfl) ?_
                          refine lv_icmp_ne (tgt := 158) hx hb dX5_order_120 (by decide) (fun c_46 => ?_) (fun c_46 => ?_)
                          · skip
                            have t_47 : (k_mgood u k.toNatClampNeg).toInt ≠ x1.toInt := i_ne c_46 rfl rfl
                            refine lv_iconst (v := 0) hx hb dX5_order_158 (by decide) ?_
                            refine lv_iadd hx hb dX5_order_159 ?_
                            refine lv_istore (lv' := [(5, .int (b + 0)), (6, .int k), (0, .ref (h 0)), (1, .int x1), (2, .int x2), (3, .int x3), (4, .int i)]) hx hb dX5_order_160 hl (by decide) rfl (fun ls hl => ?_)
                            refine lv_iinc (v := k + 1) (lv' := [(6, .int (k + 1)), (5, .int (b + 0)), (0, .ref (h 0)), (1, .int x1), (2, .int x2), (3, .int x3), (4, .int i)]) hx hb dX5_order_162 hl (k := 1) rfl rfl (by decide) rfl (fun ls hl => ?_)
                            refine lv_goto (tgt := 94) hx hb dX5_order_165 (by decide) ?_
                            have hb2 := i_inc (x := k) (by omega)
                            exact ih_34 _ ⟨(k + 1), (b + 0), (by omega), (by omega), (by rw [he_35, liX5_order_eq, if_neg c_36, if_neg c_43, if_neg c_46]), lv_sub hl [0, 1, 2, 3, 4, 5, 6] rfl⟩
                          · skip
                            have t_48 : (k_mgood u k.toNatClampNeg).toInt = x1.toInt := i_eq c_46 rfl rfl
                            refine lv_aload_n hx hb dX5_order_123 rfl (lv_at hl 2 rfl) ?_
                            refine va_get (D := (dC, dI)) (C := RX5) (T := TX5) (N := 26) (v := .ref (h 2)) hx hb hts (fi_X5 _) hown hK hP 0 (mw_at0 _ _ _) rfl 3 (by decide) (hts _ (List.mem_cons_of_mem _ wd_253)) (fun _ h9 => h9) rfl dX5_order_124 ?_
                            refine lv_iload hx hb dX5_order_127 (lv_at hl 0 rfl) ?_
                            refine va_iald (f := k_mowner u) hx hb hK hP 2 0 (mw_at2 _ _ _) rfl (vp_in_iff.mpr (by omega)) dX5_order_129 ?_
                            refine lv_iload_n hx hb dX5_order_130 rfl (lv_at hl 4 rfl) ?_
                            refine lv_icmp_ne (tgt := 158) hx hb dX5_order_131 (by decide) (fun c_49 => ?_) (fun c_49 => ?_)
                            · skip
                              have t_50 : (k_mowner u k.toNatClampNeg).toInt ≠ x2.toInt := i_ne c_49 rfl rfl
                              refine lv_iconst (v := 0) hx hb dX5_order_158 (by decide) ?_
                              refine lv_iadd hx hb dX5_order_159 ?_
                              refine lv_istore (lv' := [(5, .int (b + 0)), (6, .int k), (0, .ref (h 0)), (1, .int x1), (2, .int x2), (3, .int x3), (4, .int i)]) hx hb dX5_order_160 hl (by decide) rfl (fun ls hl => ?_)
                              refine lv_iinc (v := k + 1) (lv' := [(6, .int (k + 1)), (5, .int (b + 0)), (0, .ref (h 0)), (1, .int x1), (2, .int x2), (3, .int x3), (4, .int i)]) hx hb dX5_order_162 hl (k := 1) rfl rfl (by decide) rfl (fun ls hl => ?_)
                              refine lv_goto (tgt := 94) hx hb dX5_order_165 (by decide) ?_
                              have hb2 := i_inc (x := k) (by omega)
                              exact ih_34 _ ⟨(k + 1), (b + 0), (by omega), (by omega), (by rw [he_35, liX5_order_eq, if_neg c_36, if_neg c_43, if_pos c_46, if_neg c_49]), lv_sub hl [0, 1, 2, 3, 4, 5, 6] rfl⟩
                            · skip
                              have t_51 : (k_mowner u k.toNatClampNeg).toInt = x2.toInt := i_eq c_49 rfl rfl
                              refine lv_aload_n hx hb dX5_order_134 rfl (lv_at hl 2 rfl) ?_
                              refine lv_iload hx hb dX5_order_135 (lv_at hl 0 rfl) ?_
                              refine vp_callSi (W.runV (As := [.int k]) (rest := [.int b]) ⟨hx, hb, hml, hown, hts⟩ (kX5_mayBeTaken l dC dI g h (s_mcode u 0) k (by omega)) (cwV 1 hts (gV wd_256 wd_257 wd_258 wd_241 wcX5_mayBeTaken) rfl rfl rfl (by decide +kernel) ⟨(Nat.le_of_ble_eq_true rfl), (Nat.le_of_ble_eq_true rfl)⟩) ⟨fun a U g mk q => by obtain ⟨q0, qP, qK⟩ := q; exact ⟨q0, qP, va_K.moved (u := U) (U := U.calling g mk a) (Vm.Alike.refl U.vm) qK⟩, va_recv hK hP (ci := 4) (q0 := 0) rfl (mw_at0 _ _ _), fun U hU hW => ⟨rfl, by rw [hU]; exact hP, va_K.moved hW.alike hK⟩⟩ rfl rfl hl.1 rfl (lv_room (Nat.le_of_ble_eq_true rfl)) dX5_order_137 ⟨(Nat.le_of_ble_eq_true rfl), (Nat.le_of_ble_eq_true rfl)⟩) (fun r_52 hw => ?_)
                              subst hw
                              refine lv_if_eq (tgt := 158) hx hb dX5_order_140 (by decide) (fun c_53 => ?_) (fun c_53 => ?_)
                              · skip
                                have t_54 : (fX5_mayBeTaken (s_mcode u 0) k).toInt = 0 := i_eq c_53 rfl (by decide)
                                refine lv_iconst (v := 0) hx hb dX5_order_158 (by decide) ?_
                                refine lv_iadd hx hb dX5_order_159 ?_
                                refine lv_istore (lv' := [(5, .int (b + 0)), (6, .int k), (0, .ref (h 0)), (1, .int x1), (2, .int x2), (3, .int x3), (4, .int i)]) hx hb dX5_order_160 hl (by decide) rfl (fun ls hl => ?_)
                                refine lv_iinc (v := k + 1) (lv' := [(6, .int (k + 1)), (5, .int (b + 0)), (0, .ref (h 0)), (1, .int x1), (2, .int x2), (3, .int x3), (4, .int i)]) hx hb dX5_order_162 hl (k := 1) rfl rfl (by decide) rfl (fun ls hl => ?_)
                                refine lv_goto (tgt := 94) hx hb dX5_order_165 (by decide) ?_
                                have hb2 := i_inc (x := k) (by omega)
                                exact ih_34 _ ⟨(k + 1), (b + 0), (by omega), (by omega), (by rw [he_35, liX5_order_eq, if_neg c_36, if_neg c_43, if_pos c_46, if_pos c_49, if_pos c_53]), lv_sub hl [0, 1, 2, 3, 4, 5, 6] rfl⟩
                              · skip
                                have t_55 : (fX5_mayBeTaken (s_mcode u 0) k).toInt ≠ 0 := i_ne c_53 rfl (by decide)
                                refine lv_aload_n hx hb dX5_order_143 rfl (lv_at hl 2 rfl) ?_
                                refine lv_iload hx hb dX5_order_144 (lv_at hl 0 rfl) ?_
                                refine lv_iload hx hb dX5_order_146 (lv_at hl 6 rfl) ?_
                                refine vp_callSi (W.runV (As := [.int k, .int i]) (rest := [.int b]) ⟨hx, hb, hml, hown, hts⟩ (kX5_isBefore l dC dI g h (s_mcode u 0) k i (by omega) (by omega) hI) (cwV 2 hts (gV wd_312 wd_313 wd_314 wd_241 wcX5_isBefore) rfl rfl rfl (by decide +kernel) ⟨(Nat.le_of_ble_eq_true rfl), (Nat.le_of_ble_eq_true rfl)⟩) ⟨fun a U g mk q => by obtain ⟨q0, qP, qK⟩ := q; exact ⟨q0, qP, va_K.moved (u := U) (U := U.calling g mk a) (Vm.Alike.refl U.vm) qK⟩, va_recv hK hP (ci := 4) (q0 := 0) rfl (mw_at0 _ _ _), fun U hU hW => ⟨rfl, by rw [hU]; exact hP, va_K.moved hW.alike hK⟩⟩ rfl rfl hl.1 rfl (lv_room (Nat.le_of_ble_eq_true rfl)) dX5_order_148 ⟨(Nat.le_of_ble_eq_true rfl), (Nat.le_of_ble_eq_true rfl)⟩) (fun r_56 hw => ?_)
                                subst hw
                                refine lv_if_eq (tgt := 158) hx hb dX5_order_151 (by decide) (fun c_57 => ?_) (fun c_57 => ?_)
                                · skip
                                  have t_58 : (fX5_isBefore (s_mcode u 0) k i).toInt = 0 := i_eq c_57 rfl (by decide)
                                  refine lv_iconst (v := 0) hx hb dX5_order_158 (by decide) ?_
                                  refine lv_iadd hx hb dX5_order_159 ?_
                                  refine lv_istore (lv' := [(5, .int (b + 0)), (6, .int k), (0, .ref (h 0)), (1, .int x1), (2, .int x2), (3, .int x3), (4, .int i)]) hx hb dX5_order_160 hl (by decide) rfl (fun ls hl => ?_)
                                  refine lv_iinc (v := k + 1) (lv' := [(6, .int (k + 1)), (5, .int (b + 0)), (0, .ref (h 0)), (1, .int x1), (2, .int x2), (3, .int x3), (4, .int i)]) hx hb dX5_order_162 hl (k := 1) rfl rfl (by decide) rfl (fun ls hl => ?_)
                                  refine lv_goto (tgt := 94) hx hb dX5_order_165 (by decide) ?_
                                  have hb2 := i_inc (x := k) (by omega)
                                  exact ih_34 _ ⟨(k + 1), (b + 0), (by omega), (by omega), (by rw [he_35, liX5_order_eq, if_neg c_36, if_neg c_43, if_pos c_46, if_pos c_49, if_neg c_53, if_pos c_57]), lv_sub hl [0, 1, 2, 3, 4, 5, 6] rfl⟩
                                · skip
                                  have t_59 : (fX5_isBefore (s_mcode u 0) k i).toInt ≠ 0 := i_ne c_57 rfl (by decide)
                                  refine lv_iconst (v := 1) hx hb dX5_order_154 (by decide) ?_
                                  refine lv_goto (tgt := 159) hx hb dX5_order_155 (by decide) ?_
                                  refine lv_iadd hx hb dX5_order_159 ?_
                                  refine lv_istore (lv' := [(5, .int (b + 1)), (6, .int k), (0, .ref (h 0)), (1, .int x1), (2, .int x2), (3, .int x3), (4, .int i)]) hx hb dX5_order_160 hl (by decide) rfl (fun ls hl => ?_)
                                  refine lv_iinc (v := k + 1) (lv' := [(6, .int (k + 1)), (5, .int (b + 1)), (0, .ref (h 0)), (1, .int x1), (2, .int x2), (3, .int x3), (4, .int i)]) hx hb dX5_order_162 hl (k := 1) rfl rfl (by decide) rfl (fun ls hl => ?_)
                                  refine lv_goto (tgt := 94) hx hb dX5_order_165 (by decide) ?_
                                  have hb2 := i_inc (x := k) (by omega)
                                  exact ih_34 _ ⟨(k + 1), (b + 1), (by omega), (by omega), (by rw [he_35, liX5_order_eq, if_neg c_36, if_neg c_43, if_pos c_46, if_pos c_49, if_neg c_53, if_neg c_57]), lv_sub hl [0, 1, 2, 3, 4, 5, 6] rfl⟩
                  · skip
                    have t_60 : (fX5_mayBeTaken (s_mcode u 0) i).toInt = 0 := i_eq c_31 rfl (by decide)
                    refine lv_goto (tgt := 177) hx hb dX5_order_85 (by decide) ?_
                    refine lv_iinc (v := i + 1) (lv' := [(4, .int (i + 1)), (0, .ref (h 0)), (1, .int x1), (2, .int x2), (3, .int x3)]) hx hb dX5_order_177 hl (k := 0) rfl rfl (by decide) rfl (fun ls hl => ?_)
                    refine lv_goto (tgt := 45) hx hb dX5_order_180 (by decide) ?_
                    have hb1 := i_inc (x := i) (by omega)
                    exact ih_19 _ ⟨(i + 1), (by omega), (by omega), (by rw [he_20, loX5_order_eq, if_neg c_21, if_pos c_24, if_pos c_27, if_pos c_31]), lv_sub hl [0, 1, 2, 3, 4] rfl⟩
        · skip
          exact absurd (by decide) c_17
      · skip
        have t_61 : x3.toInt < 0 := i_nle c_15 (by decide) rfl
        refine lv_iconst (v := 1) hx hb dX5_order_25 (by decide) ?_
        refine lv_goto (tgt := 30) hx hb dX5_order_26 (by decide) ?_
        refine va_put (D := (dC, dI)) (C := RX5) (T := TX5) (N := 26) (v := .int 1) (ty := .int) hx hb hts (fi_X5 _) tyX5 tyX5_ok nmX5 hown hK hP hD hS 0 (mw_at0 _ _ _) rfl 0 (by decide) (hts _ (List.mem_cons_of_mem _ wd_237)) (fun _ h9 => h9) rfl (by decide +kernel) rfl rfl (Nat.le_of_ble_eq_true rfl) dX5_order_30 (fun H locs hP hD hS => ?_)
        have hP : va_P (dC, dI) vwCl (mw g h (s_mcode u 1)) H := hP
        have hD : va_D A (mw g h (s_mcode u 1)) := hD
        refine lv_aload_n hx hb dX5_order_33 rfl (lv_at hl 0 rfl) ?_
        refine va_get (D := (dC, dI)) (C := RX5) (T := TX5) (N := 26) (v := .int 1) hx hb hts (fi_X5 _) hown hK hP 0 (mw_at0 _ _ _) rfl 0 (by decide) (hts _ (List.mem_cons_of_mem _ wd_237)) (fun _ h9 => h9) rfl dX5_order_34 ?_
        refine lv_if_le (tgt := 42) hx hb dX5_order_37 (by decide) (fun c_62 => ?_) (fun c_62 => ?_)
        · skip
          exact absurd c_62 (by decide)
        · skip
          refine lv_iconst (v := 0) hx hb dX5_order_40 (by decide) ?_
          exact W.iret (v := 0) hx hb hr (fun t ht hW => ⟨⟨0, (s_mcode u 1), rfl, (by unfold fX5_order; rw [if_neg c_2, if_neg c_9, if_neg c_15]), by rw [ht]; exact hP, hD⟩, hS.F ht⟩) hS.2.2 dX5_order_41