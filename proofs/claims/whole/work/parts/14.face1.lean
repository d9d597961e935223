set_option maxHeartbeats 4000000 in
set_option maxRecDepth 100000 in
theorem kX4_lot (l : Launch) (hl9 : l.stackTraces = false) (dC : Nat → ClassId) (dI : Nat → Nat → Nat) (g : cG) (h : Nat → Nat) (u : cS) (sz : Nat) (x1 : Int32) (x2 : Int32) (x3 : Int32) (x4 : Int32) (hI : cInv u) : vy_Met l yX4_lot wsX4_lot ({ frames := 7, cells := 1, slots := 6, locals := 104 }) (va_Pc [.ref (h 0), .int x1, .int x2, .int x3, .int x4] (fun U => U.heap.size = sz ∧ va_P (dC, dI) vwCl (cw g h u) U.heap ∧ va_K (dC, dI) vwCl (cTys g) U ∧ va_D (fun _ => True) (cw g h u) ∧ zz (va_A (cw g h u) sz) U U.heap)) (va_Qi (fun (r : Int32) u2 => fX4_lot u x1 x2 x3 x4 = (0, r, u2)) (fun (u2 : cS) (t : State) => va_P (dC, dI) vwCl (cw g h u2) t.heap ∧ va_D (va_A (cw g h u) sz) (cw g h u2)) (va_A (cw g h u) sz)) (vx_X (fun _ => True) (fun E (u2 : cS) t => (∃ k : Nat, fX4_lot u x1 x2 x3 x4 = (k, 0, u2) ∧ ex_is k E) ∧ va_P (dC, dI) vwCl (cw g h u2) t.heap ∧ va_D (va_A (cw g h u) sz) (cw g h u2)) (va_A (cw g h u) sz)) 0 0 1 6 (va_A (cw g h u) sz) := by
  refine vy_ofW (cc := cX4_lot) (maxL := 6) (ret := (some .int)) (by decide) rfl ?_
  intro p e s m args below meth c s₁ B hml hxt hv
  obtain ⟨rfl, hsz, hP, hK, hD0, hZ⟩ := hv
  have hx := B.exec
  have hb := B.bytes
  have hr := B.returns
  have hts := atoms_spec (ws := wsX4_lot) B.pre
  have hown : s.vm.findClass RX4 = some m.cls := findClass_of_methodNamed B.named
  have hlocks := B.notSynchronized
  subst hsz
  have hD := hD0.self (sz := s.heap.size)
  generalize hAe : va_A (cw g h u) s.heap.size = A at hD hZ ⊢
  have hA : ∀ q : Nat, s.heap.size ≤ q → A q := fun q h => by rw [← hAe]; exact Or.inr h
  have hS : va_S A s.heap s.heap [] := va_S.rf
  have hl := lv_entry ([.ref (h 0), .int x1, .int x2, .int x3, .int x4]) (n := 6) (Nat.le_of_ble_eq_true rfl)
  rw [lg_entry_eq]
  generalize (lg_sl ([.ref (h 0), .int x1, .int x2, .int x3, .int x4]) ++ List.replicate (6 - (lg_sl ([.ref (h 0), .int x1, .int x2, .int x3, .int x4])).length) Slot.unset).toArray = ls at hl ⊢
  have hl : lv_has ls 6 [(0, .ref (h 0)), (1, .int x1), (2, .int x2), (3, .int x3), (4, .int x4)] := hl
  obtain ⟨hI1, hI2, hI3, hI4, hI5, hI6⟩ := id hI
  have z_0 : (0 : Int32).toInt = 0 := by decide
  have z_1 : (9 : Int32).toInt = 9 := by decide
  have z_2 : (7 : Int32).toInt = 7 := by decide
  have z_3 : (36524 : Int32).toInt = 36524 := by decide
  have z_4 : (1 : Int32).toInt = 1 := by decide
  refine lv_iload_n hx hb dX4_lot_0 rfl (lv_at hl 1 rfl) ?_
  refine lv_iconst (v := 0) hx hb dX4_lot_1 (by decide) ?_
  refine lv_bipush (v := 9) hx hb dX4_lot_2 (by decide) ?_
  refine vy_callv (vy_runS (As := [.int x1, .int 0, .int 9]) (rest := []) ⟨hx, hb, hml, hown, hts⟩ (kX4_requireRange l hl9 dC dI _ x1 0 9) (cwS 3 hts (gS wd_90 wd_91 wd_92 wcX4_requireRange) rfl rfl rfl (by decide +kernel) ⟨(Nat.le_of_ble_eq_true rfl), (Nat.le_of_ble_eq_true rfl)⟩) ⟨fun a U g mk q => by obtain ⟨q0, q1, qZ⟩ := q; exact ⟨q0, q1, zz_same (u := U) (H := U.heap) rfl rfl qZ⟩, fun U hU hW => ⟨rfl, hU, by rw [hU]; exact zz_to hZ hS (fun q h => hA q (Nat.le_trans hS.1 h)) hW⟩⟩ rfl rfl hl.1 rfl (lv_room (Nat.le_of_ble_eq_true rfl)) dX4_lot_4 ⟨(Nat.le_of_ble_eq_true rfl), (Nat.le_of_ble_eq_true rfl)⟩) hS (fun q h1 h2 => absurd h2 (Nat.not_le.mpr h1)) (fun q h => hA q (Nat.le_trans hS.1 h)) (fun q h1 h2 => absurd h2 (Nat.not_le.mpr h1)) (fun E ce q9 _ t H1 locs1 ht hvm hw hB hz1 hk1 hS hce hcv hcl => ?_) (fun _ t H1 locs1 ht hvm hw hB hz1 hk1 hS => ?_)
  · skip
    have c_1 : ¬ fX4_requireRange x1 0 9 = 0 := by rw [hw]; decide
    subst hB
    have hP := hP.kept (fun k q hq => hk1 q.1 (hP k q hq).lt (Nat.not_le.mpr (hP k q hq).lt))
    exact vy_out (vx_out (fun x hx => (hxt x hx).elim) hlocks hce hcv hcl (fun t ht ha => ⟨u, trivial, ⟨⟨2, (by unfold fX4_lot; rw [if_neg c_1]), rfl⟩, by rw [ht]; exact hP, hD⟩, hS.F ht⟩) hS.2.2 (Nat.le_of_ble_eq_true rfl) (Nat.le_of_ble_eq_true rfl))
  · skip
    have hH1 : H1 = _ := ht.symm.trans hB
    subst hH1
    have c_1 : fX4_requireRange x1 0 9 = 0 := hw
    have t_2 := rr_lo c_1
    have t_3 := rr_hi c_1
    refine lv_iload_n hx hb dX4_lot_7 rfl (lv_at hl 2 rfl) ?_
    refine lv_iconst (v := 0) hx hb dX4_lot_8 (by decide) ?_
    refine lv_bipush (v := 7) hx hb dX4_lot_9 (by decide) ?_
    refine vy_callv (vy_runS (As := [.int x2, .int 0, .int 7]) (rest := []) ⟨hx, hb, hml, hown, hts⟩ (kX4_requireRange l hl9 dC dI _ x2 0 7) (cwS 3 hts (gS wd_90 wd_91 wd_92 wcX4_requireRange) rfl rfl rfl (by decide +kernel) ⟨(Nat.le_of_ble_eq_true rfl), (Nat.le_of_ble_eq_true rfl)⟩) ⟨fun a U g mk q => by obtain ⟨q0, q1, qZ⟩ := q; exact ⟨q0, q1, zz_same (u := U) (H := U.heap) rfl rfl qZ⟩, fun U hU hW => ⟨rfl, hU, by rw [hU]; exact zz_to hZ hS (fun q h => hA q (Nat.le_trans hS.1 h)) hW⟩⟩ rfl rfl hl.1 rfl (lv_room (Nat.le_of_ble_eq_true rfl)) dX4_lot_11 ⟨(Nat.le_of_ble_eq_true rfl), (Nat.le_of_ble_eq_true rfl)⟩) hS (fun q h1 h2 => absurd h2 (Nat.not_le.mpr h1)) (fun q h => hA q (Nat.le_trans hS.1 h)) (fun q h1 h2 => absurd h2 (Nat.not_le.mpr h1)) (fun E ce q9 _ t H1 locs1 ht hvm hw hB hz1 hk1 hS hce hcv hcl => ?_) (fun _ t H1 locs1 ht hvm hw hB hz1 hk1 hS => ?_)
    · skip
      have c_4 : ¬ fX4_requireRange x2 0 7 = 0 := by rw [hw]; decide
      subst hB
      have hP := hP.kept (fun k q hq => hk1 q.1 (hP k q hq).lt (Nat.not_le.mpr (hP k q hq).lt))
      exact vy_out (vx_out (fun x hx => (hxt x hx).elim) hlocks hce hcv hcl (fun t ht ha => ⟨u, trivial, ⟨⟨2, (by unfold fX4_lot; rw [if_pos c_1, if_neg c_4]), rfl⟩, by rw [ht]; exact hP, hD⟩, hS.F ht⟩) hS.2.2 (Nat.le_of_ble_eq_true rfl) (Nat.le_of_ble_eq_true rfl))
    · skip
      have hH1 : H1 = _ := ht.symm.trans hB
      subst hH1
      have c_4 : fX4_requireRange x2 0 7 = 0 := hw
      have t_5 := rr_lo c_4
      have t_6 := rr_hi c_4
      refine lv_iload_n hx hb dX4_lot_14 rfl (lv_at hl 3 rfl) ?_
      refine lv_iconst (v := 0) hx hb dX4_lot_15 (by decide) ?_
      refine lv_ldc (v := 36524) hx hb hown (hts _ (List.mem_cons_of_mem _ wd_94)) dX4_lot_16 ?_
      refine vy_callv (vy_runS (As := [.int x3, .int 0, .int 36524]) (rest := []) ⟨hx, hb, hml, hown, hts⟩ (kX4_requireRange l hl9 dC dI _ x3 0 36524) (cwS 3 hts (gS wd_90 wd_91 wd_92 wcX4_requireRange) rfl rfl rfl (by decide +kernel) ⟨(Nat.le_of_ble_eq_true rfl), (Nat.le_of_ble_eq_true rfl)⟩) ⟨fun a U g mk q => by obtain ⟨q0, q1, qZ⟩ := q; exact ⟨q0, q1, zz_same (u := U) (H := U.heap) rfl rfl qZ⟩, fun U hU hW => ⟨rfl, hU, by rw [hU]; exact zz_to hZ hS (fun q h => hA q (Nat.le_trans hS.1 h)) hW⟩⟩ rfl rfl hl.1 rfl (lv_room (Nat.le_of_ble_eq_true rfl)) dX4_lot_18 ⟨(Nat.le_of_ble_eq_true rfl), (Nat.le_of_ble_eq_true rfl)⟩) hS (fun q h1 h2 => absurd h2 (Nat.not_le.mpr h1)) (fun q h => hA q (Nat.le_trans hS.1 h)) (fun q h1 h2 => absurd h2 (Nat.not_le.mpr h1)) (fun E ce q9 _ t H1 locs1 ht hvm hw hB hz1 hk1 hS hce hcv hcl => ?_) (fun _ t H1 locs1 ht hvm hw hB hz1 hk1 hS => ?_)
      · skip
        have c_7 : ¬ fX4_requireRange x3 0 36524 = 0 := by rw [hw]; decide
        subst hB
        have hP := hP.kept (fun k q hq => hk1 q.1 (hP k q hq).lt (Nat.not_le.mpr (hP k q hq).lt))
        exact vy_out (vx_out (fun x hx => (hxt x hx).elim) hlocks hce hcv hcl (fun t ht ha => ⟨u, trivial, ⟨⟨2, (by unfold fX4_lot; rw [if_pos c_1, if_pos c_4, if_neg c_7]), rfl⟩, by rw [ht]; exact hP, hD⟩, hS.F ht⟩) hS.2.2 (Nat.le_of_ble_eq_true rfl) (Nat.le_of_ble_eq_true rfl))
      · skip
        have hH1 : H1 = _ := ht.symm.trans hB
        subst hH1
        have c_7 : fX4_requireRange x3 0 36524 = 0 := hw
        have t_8 := rr_lo c_7
        have t_9 := rr_hi c_7
        refine lv_iload hx hb dX4_lot_21 (lv_at hl 4 rfl) ?_
        refine lv_iconst (v := 0) hx hb dX4_lot_23 (by decide) ?_
        refine lv_ldc (v := 36524) hx hb hown (hts _ (List.mem_cons_of_mem _ wd_94)) dX4_lot_24 ?_
        refine vy_callv (vy_runS (As := [.int x4, .int 0, .int 36524]) (rest := []) ⟨hx, hb, hml, hown, hts⟩ (kX4_requireRange l hl9 dC dI _ x4 0 36524) (cwS 3 hts (gS wd_90 wd_91 wd_92 wcX4_requireRange) rfl rfl rfl (by decide +kernel) ⟨(Nat.le_of_ble_eq_true rfl), (Nat.le_of_ble_eq_true rfl)⟩) ⟨fun a U g mk q => by obtain ⟨q0, q1, qZ⟩ := q; exact ⟨q0, q1, zz_same (u := U) (H := U.heap) rfl rfl qZ⟩, fun U hU hW => ⟨rfl, hU, by rw [hU]; exact zz_to hZ hS (fun q h => hA q (Nat.le_trans hS.1 h)) hW⟩⟩ rfl rfl hl.1 rfl (lv_room (Nat.le_of_ble_eq_true rfl)) dX4_lot_26 ⟨(Nat.le_of_ble_eq_true rfl), (Nat.le_of_ble_eq_true rfl)⟩) hS (fun q h1 h2 => absurd h2 (Nat.not_le.mpr h1)) (fun q h => hA q (Nat.le_trans hS.1 h)) (fun q h1 h2 => absurd h2 (Nat.not_le.mpr h1)) (fun E ce q9 _ t H1 locs1 ht hvm hw hB hz1 hk1 hS hce hcv hcl => ?_) (fun _ t H1 locs1 ht hvm hw hB hz1 hk1 hS => ?_)
        · skip
          have c_10 : ¬ fX4_requireRange x4 0 36524 = 0 := by rw [hw]; decide
          subst hB
          have hP := hP.kept (fun k q hq => hk1 q.1 (hP k q hq).lt (Nat.not_le.mpr (hP k q hq).lt))
          exact vy_out (vx_out (fun x hx => (hxt x hx).elim) hlocks hce hcv hcl (fun t ht ha => ⟨u, trivial, ⟨⟨2, (by unfold fX4_lot; rw [if_pos c_1, if_pos c_4, if_pos c_7, if_neg c_10]), rfl⟩, by rw [ht]; exact hP, hD⟩, hS.F ht⟩) hS.2.2 (Nat.le_of_ble_eq_true rfl) (Nat.le_of_ble_eq_true rfl))
        · skip
          have hH1 : H1 = _ := ht.symm.trans hB
          subst hH1
          have c_10 : fX4_requireRange x4 0 36524 = 0 := hw
          have t_11 := rr_lo c_10
          have t_12 := rr_hi c_10
          refine lv_iload_n hx hb dX4_lot_29 rfl (lv_at hl 3 rfl) ?_
          refine lv_iload hx hb dX4_lot_30 (lv_at hl 4 rfl) ?_
          refine lv_icmp_ge (tgt := 37) hx hb dX4_lot_32 (by decide) (fun c_13 => ?_) (fun c_13 => ?_)
          · skip
            have t_14 : x4.toInt ≤ x3.toInt := i_le c_13 rfl rfl
            refine lv_aload_n hx hb dX4_lot_37 rfl (lv_at hl 0 rfl) ?_
            refine va_get (D := (dC, dI)) (C := RX4) (T := TX4) (N := 9) (v := .ref (h 1)) hx hb hts (fi_X4 _) hown hK hP 0 (cw_at0 _ _ _) rfl 0 (by decide) (hts _ (List.mem_cons_of_mem _ wd_11)) (fun _ h9 => h9) rfl dX4_lot_38 ?_
            refine vp_callSi (W.runV (As := []) (rest := []) ⟨hx, hb, hml, hown, hts⟩ (kX1_haveRoom l dC dI g h u) (cwV 0 hts (gV wd_95 wd_96 wd_97 wd_28 wcX1_haveRoom) rfl rfl rfl (by decide +kernel) ⟨(Nat.le_of_ble_eq_true rfl), (Nat.le_of_ble_eq_true rfl)⟩) ⟨fun a U g mk q => by obtain ⟨q0, qP, qK⟩ := q; exact ⟨q0, qP, va_K.moved (u := U) (U := U.calling g mk a) (Vm.Alike.refl U.vm) qK⟩, va_recv hK hP (ci := 0) (q0 := 1) rfl (cw_at1 _ _ _), fun U hU hW => ⟨rfl, by rw [hU]; exact hP, va_K.moved hW.alike hK⟩⟩ rfl rfl hl.1 rfl (lv_room (Nat.le_of_ble_eq_true rfl)) dX4_lot_41 ⟨(Nat.le_of_ble_eq_true rfl), (Nat.le_of_ble_eq_true rfl)⟩) (fun r_15 hw => ?_)
            subst hw
            refine lv_if_eq (tgt := 62) hx hb dX4_lot_44 (by decide) (fun c_16 => ?_) (fun c_16 => ?_)
            · skip
              have t_17 : (fX1_haveRoom u).toInt = 0 := i_eq c_16 rfl (by decide)
              refine lv_iconst (v := 0) hx hb dX4_lot_62 (by decide) ?_
              refine vy_callv (vy_runS (As := [.int 0]) (rest := []) ⟨hx, hb, hml, hown, hts⟩ (kX4_requireRoom l hl9 dC dI _ 0) (cwS 1 hts (gS wd_99 wd_100 wd_92 wcX4_requireRoom) rfl rfl rfl (by decide +kernel) ⟨(Nat.le_of_ble_eq_true rfl), (Nat.le_of_ble_eq_true rfl)⟩) ⟨fun a U g mk q => by obtain ⟨q0, q1, qZ⟩ := q; exact ⟨q0, q1, zz_same (u := U) (H := U.heap) rfl rfl qZ⟩, fun U hU hW => ⟨rfl, hU, by rw [hU]; exact zz_to hZ hS (fun q h => hA q (Nat.le_trans hS.1 h)) hW⟩⟩ rfl rfl hl.1 rfl (lv_room (Nat.le_of_ble_eq_true rfl)) dX4_lot_63 ⟨(Nat.le_of_ble_eq_true rfl), (Nat.le_of_ble_eq_true rfl)⟩) hS (fun q h1 h2 => absurd h2 (Nat.not_le.mpr h1)) (fun q h => hA q (Nat.le_trans hS.1 h)) (fun q h1 h2 => absurd h2 (Nat.not_le.mpr h1)) (fun E ce q9 _ t H1 locs1 ht hvm hw hB hz1 hk1 hS hce hcv hcl => ?_) (fun _ t H1 locs1 ht hvm hw hB hz1 hk1 hS => ?_)
              · skip
                subst hB
                have hP := hP.kept (fun k q hq => hk1 q.1 (hP k q hq).lt (Nat.not_le.mpr (hP k q hq).lt))
                exact vy_out (vx_out (fun x hx => (hxt x hx).elim) hlocks hce hcv hcl (fun t ht ha => ⟨u, trivial, ⟨⟨4, (by unfold fX4_lot; rw [if_pos c_1, if_pos c_4, if_pos c_7, if_pos c_10, if_pos c_13, if_pos c_16]), rfl⟩, by rw [ht]; exact hP, hD⟩, hS.F ht⟩) hS.2.2 (Nat.le_of_ble_eq_true rfl) (Nat.le_of_ble_eq_true rfl))
              · skip
                exact absurd hw (by decide)
            · skip
              have t_19 : (fX1_haveRoom u).toInt ≠ 0 := i_ne c_16 rfl (by decide)
              have t_20 := hl_room c_16
              refine lv_aload_n hx hb dX4_lot_47 rfl (lv_at hl 0 rfl) ?_
              refine va_get (D := (dC, dI)) (C := RX4) (T := TX4) (N := 9) (v := .ref (h 3)) hx hb hts (fi_X4 _) hown hK hP 0 (cw_at0 _ _ _) rfl 2 (by decide) (hts _ (List.mem_cons_of_mem _ wd_87)) (fun _ h9 => h9) rfl dX4_lot_48 ?_
              refine lv_iconst (v := 1) hx hb dX4_lot_51 (by decide) ?_
              refine vp_callSi (W.runV (As := [.int 1]) (rest := []) ⟨hx, hb, hml, hown, hts⟩ (kX2_haveRoomFor l dC dI g h u 1) (cwV 1 hts (gV wd_102 wd_103 wd_104 wd_105 wcX2_haveRoomFor) rfl rfl rfl (by decide +kernel) ⟨(Nat.le_of_ble_eq_true rfl), (Nat.le_of_ble_eq_true rfl)⟩) ⟨fun a U g mk q => by obtain ⟨q0, qP, qK⟩ := q; exact ⟨q0, qP, va_K.moved (u := U) (U := U.calling g mk a) (Vm.Alike.refl U.vm) qK⟩, va_recv hK hP (ci := 1) (q0 := 3) rfl (cw_at3 _ _ _), fun U hU hW => ⟨rfl, by rw [hU]; exact hP, va_K.moved hW.alike hK⟩⟩ rfl rfl hl.1 rfl (lv_room (Nat.le_of_ble_eq_true rfl)) dX4_lot_52 ⟨(Nat.le_of_ble_eq_true rfl), (Nat.le_of_ble_eq_true rfl)⟩) (fun r_21 hw => ?_)
              subst hw
              refine lv_if_eq (tgt := 62) hx hb dX4_lot_55 (by decide) (fun c_22 => ?_) (fun c_22 => ?_)
              · skip
                have t_23 : (fX2_haveRoomFor u 1).toInt = 0 := i_eq c_22 rfl (by decide)
                refine lv_iconst (v := 0) hx hb dX4_lot_62 (by decide) ?_
                refine vy_callv (vy_runS (As := [.int 0]) (rest := []) ⟨hx, hb, hml, hown, hts⟩ (kX4_requireRoom l hl9 dC dI _ 0) (cwS 1 hts (gS wd_99 wd_100 wd_92 wcX4_requireRoom) rfl rfl rfl (by decide +kernel) ⟨(Nat.le_of_ble_eq_true rfl), (Nat.le_of_ble_eq_true rfl)⟩) ⟨fun a U g mk q => by obtain ⟨q0, q1, qZ⟩ := q; exact ⟨q0, q1, zz_same (u := U) (H := U.heap) rfl rfl qZ⟩, fun U hU hW => ⟨rfl, hU, by rw [hU]; exact zz_to hZ hS (fun q h => hA q (Nat.le_trans hS.1 h)) hW⟩⟩ rfl rfl hl.1 rfl (lv_room (Nat.le_of_ble_eq_true rfl)) dX4_lot_63 ⟨(Nat.le_of_ble_eq_true rfl), (Nat.le_of_ble_eq_true rfl)⟩) hS (fun q h1 h2 => absurd h2 (Nat.not_le.mpr h1)) (fun q h => hA q (Nat.le_trans hS.1 h)) (fun q h1 h2 => absurd h2 (Nat.not_le.mpr h1)) (fun E ce q9 _ t H1 locs1 ht hvm hw hB hz1 hk1 hS hce hcv hcl => ?_) (fun _ t H1 locs1 ht hvm hw hB hz1 hk1 hS => ?_)
                · skip
                  subst hB
                  have hP := hP.kept (fun k q hq => hk1 q.1 (hP k q hq).lt (Nat.not_le.mpr (hP k q hq).lt))
                  exact vy_out (vx_out (fun x hx => (hxt x hx).elim) hlocks hce hcv hcl (fun t ht ha => ⟨u, trivial, ⟨⟨4, (by unfold fX4_lot; rw [if_pos c_1, if_pos c_4, if_pos c_7, if_pos c_10, if_pos c_13, if_neg c_16, if_pos c_22]), rfl⟩, by rw [ht]; exact hP, hD⟩, hS.F ht⟩) hS.2.2 (Nat.le_of_ble_eq_true rfl) (Nat.le_of_ble_eq_true rfl))
                · skip
                  exact absurd hw (by decide)
              · skip
                have t_25 : (fX2_haveRoomFor u 1).toInt ≠ 0 := i_ne c_22 rfl (by decide)
                have t_26 := hr_room1 c_22 hI3
                refine lv_iconst (v := 1) hx hb dX4_lot_58 (by decide) ?_
                refine lv_goto (tgt := 63) hx hb dX4_lot_59 (by decide) ?_
                refine vy_callv (vy_runS (As := [.int 1]) (rest := []) ⟨hx, hb, hml, hown, hts⟩ (kX4_requireRoom l hl9 dC dI _ 1) (cwS 1 hts (gS wd_99 wd_100 wd_92 wcX4_requireRoom) rfl rfl rfl (by decide +kernel) ⟨(Nat.le_of_ble_eq_true rfl), (Nat.le_of_ble_eq_true rfl)⟩) ⟨fun a U g mk q => by obtain ⟨q0, q1, qZ⟩ := q; exact ⟨q0, q1, zz_same (u := U) (H := U.heap) rfl rfl qZ⟩, fun U hU hW => ⟨rfl, hU, by rw [hU]; exact zz_to hZ hS (fun q h => hA q (Nat.le_trans hS.1 h)) hW⟩⟩ rfl rfl hl.1 rfl (lv_room (Nat.le_of_ble_eq_true rfl)) dX4_lot_63 ⟨(Nat.le_of_ble_eq_true rfl), (Nat.le_of_ble_eq_true rfl)⟩) hS (fun q h1 h2 => absurd h2 (Nat.not_le.mpr h1)) (fun q h => hA q (Nat.le_trans hS.1 h)) (fun q h1 h2 => absurd h2 (Nat.not_le.mpr h1)) (fun E ce q9 _ t H1 locs1 ht hvm hw hB hz1 hk1 hS hce hcv hcl => ?_) (fun _ t H1 locs1 ht hvm hw hB hz1 hk1 hS => ?_)
                · skip
                  exact absurd hw (by decide)
                · skip
                  have hH1 : H1 = _ := ht.symm.trans hB
                  subst hH1
                  refine lv_aload_n hx hb dX4_lot_66 rfl (lv_at hl 0 rfl) ?_
                  refine va_get (D := (dC, dI)) (C := RX4) (T := TX4) (N := 9) (v := .ref (h 1)) hx hb hts (fi_X4 _) hown hK hP 0 (cw_at0 _ _ _) rfl 0 (by decide) (hts _ (List.mem_cons_of_mem _ wd_11)) (fun _ h9 => h9) rfl dX4_lot_67 ?_
                  refine lv_iload_n hx hb dX4_lot_70 rfl (lv_at hl 1 rfl) ?_
                  refine lv_iload_n hx hb dX4_lot_71 rfl (lv_at hl 2 rfl) ?_
                  refine lv_iload_n hx hb dX4_lot_72 rfl (lv_at hl 3 rfl) ?_
                  refine lv_iload hx hb dX4_lot_73 (lv_at hl 4 rfl) ?_
                  have hFc := va_free (wc := cw g h u) hD hS hA [0, 1, 2, 3, 4, 5, 6, 7, 8, 9, 10, 11, 12, 13, 14, 15, 16, 17, 18, 19, 20, 21, 22, 23] rfl
                  refine va_calli (va_runV (As := [.int x1, .int x2, .int x3, .int x4]) (rest := []) ⟨hx, hb, hml, hown, hts⟩ (kX1_add l dC dI g h u _ x1 x2 x3 x4 (by omega)) (cwV 4 hts (gV wd_107 wd_67 wd_68 wd_28 wcX1_add) rfl rfl rfl (by decide +kernel) ⟨(Nat.le_of_ble_eq_true rfl), (Nat.le_of_ble_eq_true rfl)⟩) ⟨fun a U g mk q => by obtain ⟨q0, q1, qP, qK, qD⟩ := q; exact ⟨q0, q1, qP, va_K.moved (u := U) (U := U.calling g mk a) (Vm.Alike.refl U.vm) qK, qD⟩, va_recv hK hP (ci := 0) (q0 := 1) rfl (cw_at1 _ _ _), fun U hU hW => ⟨rfl, by rw [hU], by rw [hU]; exact hP, va_K.moved hW.alike hK, hD.weaken (fun _ _ _ _ => trivial)⟩⟩ rfl rfl hl.1 rfl (lv_room (Nat.le_of_ble_eq_true rfl)) dX4_lot_75 ⟨(Nat.le_of_ble_eq_true rfl), (Nat.le_of_ble_eq_true rfl)⟩) hS (fun q _ h => hFc q h) hFc (fun r_29 u_28 t H locs ht hvm hw hB hz1 hk1 hS => ?_)
                  obtain ⟨hP, hD⟩ := hB
                  rw [ht] at hP
                  have hD := hD.weaken (fun _ _ _ h => hFc _ h)
                  have e_30 : r_29 = (fX1_add u x1 x2 x3 x4).1 := congrArg Prod.fst hw
                  have e_31 : u_28 = (fX1_add u x1 x2 x3 x4).2 := congrArg Prod.snd hw
                  clear hw
                  refine lv_istore (lv' := [(5, .int r_29), (0, .ref (h 0)), (1, .int x1), (2, .int x2), (3, .int x3), (4, .int x4)]) hx hb dX4_lot_78 hl (by decide) rfl (fun ls hl => ?_)
                  refine lv_aload_n hx hb dX4_lot_80 rfl (lv_at hl 1 rfl) ?_
                  refine va_get (D := (dC, dI)) (C := RX4) (T := TX4) (N := 9) (v := .ref (h 3)) hx hb hts (fi_X4 _) hown hK hP 0 (cw_at0 _ _ _) rfl 2 (by decide) (hts _ (List.mem_cons_of_mem _ wd_87)) (fun _ h9 => h9) rfl dX4_lot_81 ?_
                  refine lv_iload hx hb dX4_lot_84 (lv_at hl 0 rfl) ?_
                  refine lv_iconst (v := 1) hx hb dX4_lot_86 (by decide) ?_
                  refine lv_iconst (v := 0) hx hb dX4_lot_87 (by decide) ?_
                  have hFc := va_free (wc := cw g h u_28) hD hS hA [0, 1, 2, 3, 4, 5, 6, 7, 8, 9, 10, 11, 12, 13, 14, 15, 16, 17, 18, 19, 20, 21, 22, 23] rfl
                  refine va_callv (va_runV (As := [.int r_29, .int 1, .int 0]) (rest := []) ⟨hx, hb, hml, hown, hts⟩ (kX2_write l dC dI g h u_28 _ r_29 1 0 (by subst e_31; subst e_30; show 0 ≤ (k_rwrit u).toInt ∧ (k_rwrit u).toInt < 400; omega)) (cwV 3 hts (gV wd_108 wd_109 wd_110 wd_105 wcX2_write) rfl rfl rfl (by decide +kernel) ⟨(Nat.le_of_ble_eq_true rfl), (Nat.le_of_ble_eq_true rfl)⟩) ⟨fun a U g mk q => by obtain ⟨q0, q1, qP, qK, qD⟩ := q; exact ⟨q0, q1, qP, va_K.moved (u := U) (U := U.calling g mk a) (Vm.Alike.refl U.vm) qK, qD⟩, va_recv hK hP (ci := 1) (q0 := 3) rfl (cw_at3 _ _ _), fun U hU hW => ⟨rfl, by rw [hU], by rw [hU]; exact hP, va_K.moved hW.alike hK, hD.weaken (fun _ _ _ _ => trivial)⟩⟩ rfl rfl hl.1 rfl (lv_room (Nat.le_of_ble_eq_true rfl)) dX4_lot_88 ⟨(Nat.le_of_ble_eq_true rfl), (Nat.le_of_ble_eq_true rfl)⟩) hS (fun q _ h => hFc q h) hFc (fun u_32 t H locs ht hvm hw hB hz1 hk1 hS => ?_)
                  obtain ⟨hP, hD⟩ := hB
                  rw [ht] at hP
                  have hD := hD.weaken (fun _ _ _ h => hFc _ h)
                  have e_34 : u_32 = fX2_write u_28 r_29 1 0 := hw
                  clear hw
                  refine lv_iload hx hb dX4_lot_91 (lv_at hl 0 rfl) ?_
                  exact vy_ret (W.iret (v := r_29) hx hb hr (fun t ht hW => ⟨⟨r_29, u_32, rfl, (by subst e_34; subst e_31; subst e_30; unfold fX4_lot; rw [if_pos c_1, if_pos c_4, if_pos c_7, if_pos c_10, if_pos c_13, if_neg c_16, if_neg c_22]), by rw [ht]; exact hP, hD⟩, hS.F ht⟩) hS.2.2 dX4_lot_93)
          · skip
            have t_35 : x3.toInt < x4.toInt := i_nle c_13 rfl rfl
            refine lv_iconst (v := 0) hx hb dX4_lot_35 (by decide) ?_
            exact vy_ret (W.iret (v := 0) hx hb hr (fun t ht hW => ⟨⟨0, u, rfl, (by unfold fX4_lot; rw [if_pos c_1, if_pos c_4, if_pos c_7, if_pos c_10, if_neg c_13]), by rw [ht]; exact hP, hD⟩, hS.F ht⟩) hS.2.2 dX4_lot_36)
set_option maxHeartbeats 4000000 in
set_option maxRecDepth 100000 in
theorem kX4_rule (l : Launch) (hl9 : l.stackTraces = false) (dC : Nat → ClassId) (dI : Nat → Nat → Nat) (g : cG) (h : Nat → Nat) (u : cS) (sz : Nat) (x1 : Int32) (x2 : Int32) (x3 : Int32) (hI : cInv u) : vy_Met l yX4_rule wsX4_rule ({ frames := 7, cells := 1, slots := 6, locals := 104 }) (va_Pc [.ref (h 0), .int x1, .int x2, .int x3] (fun U => U.heap.size = sz ∧ va_P (dC, dI) vwCl (cw g h u) U.heap ∧ va_K (dC, dI) vwCl (cTys g) U ∧ va_D (fun _ => True) (cw g h u) ∧ zz (va_A (cw g h u) sz) U U.heap)) (va_Qv (fun u2 => fX4_rule u x1 x2 x3 = (0, 0, u2)) (fun (u2 : cS) (t : State) => va_P (dC, dI) vwCl (cw g h u2) t.heap ∧ va_D (va_A (cw g h u) sz) (cw g h u2)) (va_A (cw g h u) sz)) (vx_X (fun _ => True) (fun E (u2 : cS) t => (∃ k : Nat, fX4_rule u x1 x2 x3 = (k, 0, u2) ∧ ex_is k E) ∧ va_P (dC, dI) vwCl (cw g h u2) t.heap ∧ va_D (va_A (cw g h u) sz) (cw g h u2)) (va_A (cw g h u) sz)) 0 0 1 6 (va_A (cw g h u) sz) := by
  refine vy_ofW (cc := cX4_rule) (maxL := 4) (ret := none) (by decide) rfl ?_
  intro p e s m args below meth c s₁ B hml hxt hv
  obtain ⟨rfl, hsz, hP, hK, hD0, hZ⟩ := hv
  have hx := B.exec
  have hb := B.bytes
  have hr := B.returns
  have hts := atoms_spec (ws := wsX4_rule) B.pre
  have hown : s.vm.findClass RX4 = some m.cls := findClass_of_methodNamed B.named
  have hlocks := B.notSynchronized
  subst hsz
  have hD := hD0.self (sz := s.heap.size)
  generalize hAe : va_A (cw g h u) s.heap.size = A at hD hZ ⊢
  have hA : ∀ q : Nat, s.heap.size ≤ q → A q := fun q h => by rw [← hAe]; exact Or.inr h
  have hS : va_S A s.heap s.heap [] := va_S.rf
  have hl := lv_entry ([.ref (h 0), .int x1, .int x2, .int x3]) (n := 4) (Nat.le_of_ble_eq_true rfl)
  rw [lg_entry_eq]
  generalize (lg_sl ([.ref (h 0), .int x1, .int x2, .int x3]) ++ List.replicate (4 - (lg_sl ([.ref (h 0), .int x1, .int x2, .int x3])).length) Slot.unset).toArray = ls at hl ⊢
  have hl : lv_has ls 4 [(0, .ref (h 0)), (1, .int x1), (2, .int x2), (3, .int x3)] := hl
  obtain ⟨hI1, hI2, hI3, hI4, hI5, hI6⟩ := id hI
  have z_0 : (0 : Int32).toInt = 0 := by decide
  have z_1 : (7 : Int32).toInt = 7 := by decide
  have z_2 : (1 : Int32).toInt = 1 := by decide
  have z_3 : (1000 : Int32).toInt = 1000 := by decide
  have z_4 : (2 : Int32).toInt = 2 := by decide
  refine lv_iload_n hx hb dX4_rule_0 rfl (lv_at hl 1 rfl) ?_
  refine lv_iconst (v := 0) hx hb dX4_rule_1 (by decide) ?_
  refine lv_bipush (v := 7) hx hb dX4_rule_2 (by decide) ?_
  refine vy_callv (vy_runS (As := [.int x1, .int 0, .int 7]) (rest := []) ⟨hx, hb, hml, hown, hts⟩ (kX4_requireRange l hl9 dC dI _ x1 0 7) (cwS 3 hts (gS wd_90 wd_91 wd_92 wcX4_requireRange) rfl rfl rfl (by decide +kernel) ⟨(Nat.le_of_ble_eq_true rfl), (Nat.le_of_ble_eq_true rfl)⟩) ⟨fun a U g mk q => by obtain ⟨q0, q1, qZ⟩ := q; exact ⟨q0, q1, zz_same (u := U) (H := U.heap) rfl rfl qZ⟩, fun U hU hW => ⟨rfl, hU, by rw [hU]; exact zz_to hZ hS (fun q h => hA q (Nat.le_trans hS.1 h)) hW⟩⟩ rfl rfl hl.1 rfl (lv_room (Nat.le_of_ble_eq_true rfl)) dX4_rule_4 ⟨(Nat.le_of_ble_eq_true rfl), (Nat.le_of_ble_eq_true rfl)⟩) hS (fun q h1 h2 => absurd h2 (Nat.not_le.mpr h1)) (fun q h => hA q (Nat.le_trans hS.1 h)) (fun q h1 h2 => absurd h2 (Nat.not_le.mpr h1)) (fun E ce q9 _ t H1 locs1 ht hvm hw hB hz1 hk1 hS hce hcv hcl => ?_) (fun _ t H1 locs1 ht hvm hw hB hz1 hk1 hS => ?_)
  · skip
    have c_1 : ¬ fX4_requireRange x1 0 7 = 0 := by rw [hw]; decide
    subst hB
    have hP := hP.kept (fun k q hq => hk1 q.1 (hP k q hq).lt (Nat.not_le.mpr (hP k q hq).lt))
    exact vy_out (vx_out (fun x hx => (hxt x hx).elim) hlocks hce hcv hcl (fun t ht ha => ⟨u, trivial, ⟨⟨2, (by unfold fX4_rule; rw [if_neg c_1]), rfl⟩, by rw [ht]; exact hP, hD⟩, hS.F ht⟩) hS.2.2 (Nat.le_of_ble_eq_true rfl) (Nat.le_of_ble_eq_true rfl))
  · skip
    have hH1 : H1 = _ := ht.symm.trans hB
    subst hH1
    have c_1 : fX4_requireRange x1 0 7 = 0 := hw
    have t_2 := rr_lo c_1
    have t_3 := rr_hi c_1
    refine lv_iload_n hx hb dX4_rule_7 rfl (lv_at hl 2 rfl) ?_
    refine lv_iconst (v := 0) hx hb dX4_rule_8 (by decide) ?_
    refine lv_iconst (v := 1) hx hb dX4_rule_9 (by decide) ?_
    refine vy_callv (vy_runS (As := [.int x2, .int 0, .int 1]) (rest := []) ⟨hx, hb, hml, hown, hts⟩ (kX4_requireRange l hl9 dC dI _ x2 0 1) (cwS 3 hts (gS wd_90 wd_91 wd_92 wcX4_requireRange) rfl rfl rfl (by decide +kernel) ⟨(Nat.le_of_ble_eq_true rfl), (Nat.le_of_ble_eq_true rfl)⟩) ⟨fun a U g mk q => by obtain ⟨q0, q1, qZ⟩ := q; exact ⟨q0, q1, zz_same (u := U) (H := U.heap) rfl rfl qZ⟩, fun U hU hW => ⟨rfl, hU, by rw [hU]; exact zz_to hZ hS (fun q h => hA q (Nat.le_trans hS.1 h)) hW⟩⟩ rfl rfl hl.1 rfl (lv_room (Nat.le_of_ble_eq_true rfl)) dX4_rule_10 ⟨(Nat.le_of_ble_eq_true rfl), (Nat.le_of_ble_eq_true rfl)⟩) hS (fun q h1 h2 => absurd h2 (Nat.not_le.mpr h1)) (fun q h => hA q (Nat.le_trans hS.1 h)) (fun q h1 h2 => absurd h2 (Nat.not_le.mpr h1)) (fun E ce q9 _ t H1 locs1 ht hvm hw hB hz1 hk1 hS hce hcv hcl => ?_) (fun _ t H1 locs1 ht hvm hw hB hz1 hk1 hS => ?_)
    · skip
      have c_4 : ¬ fX4_requireRange x2 0 1 = 0 := by rw [hw]; decide
      subst hB
      have hP := hP.kept (fun k q hq => hk1 q.1 (hP k q hq).lt (Nat.not_le.mpr (hP k q hq).lt))
      exact vy_out (vx_out (fun x hx => (hxt x hx).elim) hlocks hce hcv hcl (fun t ht ha => ⟨u, trivial, ⟨⟨2, (by unfold fX4_rule; rw [if_pos c_1, if_neg c_4]), rfl⟩, by rw [ht]; exact hP, hD⟩, hS.F ht⟩) hS.2.2 (Nat.le_of_ble_eq_true rfl) (Nat.le_of_ble_eq_true rfl))
    · skip
      have hH1 : H1 = _ := ht.symm.trans hB
      subst hH1
      have c_4 : fX4_requireRange x2 0 1 = 0 := hw
      have t_5 := rr_lo c_4
      have t_6 := rr_hi c_4
      refine lv_iload_n hx hb dX4_rule_13 rfl (lv_at hl 2 rfl) ?_
      refine lv_if_ne (tgt := 33) hx hb dX4_rule_14 (by decide) (fun c_7 => ?_) (fun c_7 => ?_)
      · skip
        have t_8 : x2.toInt ≠ 0 := i_ne c_7 rfl (by decide)
        refine lv_iload_n hx hb dX4_rule_33 rfl (lv_at hl 3 rfl) ?_
        refine lv_iconst (v := 0) hx hb dX4_rule_34 (by decide) ?_
        refine lv_sipush (v := 1000) hx hb dX4_rule_35 (by decide) ?_
        refine vy_callv (vy_runS (As := [.int x3, .int 0, .int 1000]) (rest := []) ⟨hx, hb, hml, hown, hts⟩ (kX4_requireRange l hl9 dC dI _ x3 0 1000) (cwS 3 hts (gS wd_90 wd_91 wd_92 wcX4_requireRange) rfl rfl rfl (by decide +kernel) ⟨(Nat.le_of_ble_eq_true rfl), (Nat.le_of_ble_eq_true rfl)⟩) ⟨fun a U g mk q => by obtain ⟨q0, q1, qZ⟩ := q; exact ⟨q0, q1, zz_same (u := U) (H := U.heap) rfl rfl qZ⟩, fun U hU hW => ⟨rfl, hU, by rw [hU]; exact zz_to hZ hS (fun q h => hA q (Nat.le_trans hS.1 h)) hW⟩⟩ rfl rfl hl.1 rfl (lv_room (Nat.le_of_ble_eq_true rfl)) dX4_rule_38 ⟨(Nat.le_of_ble_eq_true rfl), (Nat.le_of_ble_eq_true rfl)⟩) hS (fun q h1 h2 => absurd h2 (Nat.not_le.mpr h1)) (fun q h => hA q (Nat.le_trans hS.1 h)) (fun q h1 h2 => absurd h2 (Nat.not_le.mpr h1)) (fun E ce q9 _ t H1 locs1 ht hvm hw hB hz1 hk1 hS hce hcv hcl => ?_) (fun _ t H1 locs1 ht hvm hw hB hz1 hk1 hS => ?_)
        · skip
          have c_9 : ¬ fX4_requireRange x3 0 1000 = 0 := by rw [hw]; decide
          subst hB
          have hP := hP.kept (fun k q hq => hk1 q.1 (hP k q hq).lt (Nat.not_le.mpr (hP k q hq).lt))
          exact vy_out (vx_out (fun x hx => (hxt x hx).elim) hlocks hce hcv hcl (fun t ht ha => ⟨u, trivial, ⟨⟨2, (by unfold fX4_rule; rw [if_pos c_1, if_pos c_4, if_neg c_7, if_neg c_9]), rfl⟩, by rw [ht]; exact hP, hD⟩, hS.F ht⟩) hS.2.2 (Nat.le_of_ble_eq_true rfl) (Nat.le_of_ble_eq_true rfl))
        · skip
          have hH1 : H1 = _ := ht.symm.trans hB
          subst hH1
          have c_9 : fX4_requireRange x3 0 1000 = 0 := hw
          have t_10 := rr_lo c_9
          have t_11 := rr_hi c_9
          refine lv_aload_n hx hb dX4_rule_41 rfl (lv_at hl 0 rfl) ?_
          refine va_get (D := (dC, dI)) (C := RX4) (T := TX4) (N := 9) (v := .ref (h 5)) hx hb hts (fi_X4 _) hown hK hP 0 (cw_at0 _ _ _) rfl 4 (by decide) (hts _ (List.mem_cons_of_mem _ wd_80)) (fun _ h9 => h9) rfl dX4_rule_42 ?_
          refine lv_iload_n hx hb dX4_rule_45 rfl (lv_at hl 1 rfl) ?_
          refine lv_iload_n hx hb dX4_rule_46 rfl (lv_at hl 3 rfl) ?_
          refine va_iast (f := k_mix u) hx hb hK hP hD hS 5 0 (cw_at5 _ _ _) rfl (vp_in_iff.mpr (by omega)) dX4_rule_47 (fun H locs hP hD hS => ?_)
          have hP : va_P (dC, dI) vwCl (cw g h (s_mix u (upd (k_mix u) x1.toNatClampNeg x3))) H := hP
          have hD : va_D A (cw g h (s_mix u (upd (k_mix u) x1.toNatClampNeg x3))) := hD
          exact vy_ret (W.vret hx hb hr (fun t ht hW => ⟨⟨(s_mix u (upd (k_mix u) x1.toNatClampNeg x3)), rfl, (by unfold fX4_rule; rw [if_pos c_1, if_pos c_4, if_neg c_7, if_pos c_9]), by rw [ht]; exact hP, hD⟩, hS.F ht⟩) hS.2.2 dX4_rule_48)
      · skip
        have t_12 : x2.toInt = 0 := i_eq c_7 rfl (by decide)
        refine lv_iload_n hx hb dX4_rule_17 rfl (lv_at hl 3 rfl) ?_
        refine lv_iconst (v := 0) hx hb dX4_rule_18 (by decide) ?_
        refine lv_iconst (v := 2) hx hb dX4_rule_19 (by decide) ?_
        refine vy_callv (vy_runS (As := [.int x3, .int 0, .int 2]) (rest := []) ⟨hx, hb, hml, hown, hts⟩ (kX4_requireRange l hl9 dC dI _ x3 0 2) (cwS 3 hts (gS wd_90 wd_91 wd_92 wcX4_requireRange) rfl rfl rfl (by decide +kernel) ⟨(Nat.le_of_ble_eq_true rfl), (Nat.le_of_ble_eq_true rfl)⟩) ⟨fun a U g mk q => by obtain ⟨q0, q1, qZ⟩ := q; exact ⟨q0, q1, zz_same (u := U) (H := U.heap) rfl rfl qZ⟩, fun U hU hW => ⟨rfl, hU, by rw [hU]; exact zz_to hZ hS (fun q h => hA q (Nat.le_trans hS.1 h)) hW⟩⟩ rfl rfl hl.1 rfl (lv_room (Nat.le_of_ble_eq_true rfl)) dX4_rule_20 ⟨(Nat.le_of_ble_eq_true rfl), (Nat.le_of_ble_eq_true rfl)⟩) hS (fun q h1 h2 => absurd h2 (Nat.not_le.mpr h1)) (fun q h => hA q (Nat.le_trans hS.1 h)) (fun q h1 h2 => absurd h2 (Nat.not_le.mpr h1)) (fun E ce q9 _ t H1 locs1 ht hvm hw hB hz1 hk1 hS hce hcv hcl => ?_) (fun _ t H1 locs1 ht hvm hw hB hz1 hk1 hS => ?_)
        · skip
          have c_13 : ¬ fX4_requireRange x3 0 2 = 0 := by rw [hw]; decide
          subst hB
          have hP := hP.kept (fun k q hq => hk1 q.1 (hP k q hq).lt (Nat.not_le.mpr (hP k q hq).lt))
          exact vy_out (vx_out (fun x hx => (hxt x hx).elim) hlocks hce hcv hcl (fun t ht ha => ⟨u, trivial, ⟨⟨2, (by unfold fX4_rule; rw [if_pos c_1, if_pos c_4, if_pos c_7, if_neg c_13]), rfl⟩, by rw [ht]; exact hP, hD⟩, hS.F ht⟩) hS.2.2 (Nat.le_of_ble_eq_true rfl) (Nat.le_of_ble_eq_true rfl))
        · skip
          have hH1 : H1 = _ := ht.symm.trans hB
          subst hH1
          have c_13 : fX4_requireRange x3 0 2 = 0 := hw
          have t_14 := rr_lo c_13
          have t_15 := rr_hi c_13
          refine lv_aload_n hx hb dX4_rule_23 rfl (lv_at hl 0 rfl) ?_
          refine va_get (D := (dC, dI)) (C := RX4) (T := TX4) (N := 9) (v := .ref (h 4)) hx hb hts (fi_X4 _) hown hK hP 0 (cw_at0 _ _ _) rfl 3 (by decide) (hts _ (List.mem_cons_of_mem _ wd_112)) (fun _ h9 => h9) rfl dX4_rule_24 ?_
          refine lv_iload_n hx hb dX4_rule_27 rfl (lv_at hl 1 rfl) ?_
          refine lv_iload_n hx hb dX4_rule_28 rfl (lv_at hl 3 rfl) ?_
          refine va_iast (f := k_rot u) hx hb hK hP hD hS 4 0 (cw_at4 _ _ _) rfl (vp_in_iff.mpr (by omega)) dX4_rule_29 (fun H locs hP hD hS => ?_)
          have hP : va_P (dC, dI) vwCl (cw g h (s_rot u (upd (k_rot u) x1.toNatClampNeg x3))) H := hP
          have hD : va_D A (cw g h (s_rot u (upd (k_rot u) x1.toNatClampNeg x3))) := hD
          refine lv_goto (tgt := 48) hx hb dX4_rule_30 (by decide) ?_
          exact vy_ret (W.vret hx hb hr (fun t ht hW => ⟨⟨(s_rot u (upd (k_rot u) x1.toNatClampNeg x3)), rfl, (by unfold fX4_rule; rw [if_pos c_1, if_pos c_4, if_pos c_7, if_pos c_13]), by rw [ht]; exact hP, hD⟩, hS.F ht⟩) hS.2.2 dX4_rule_48)
set_option maxHeartbeats 4000000 in
set_option maxRecDepth 100000 in
theorem kX4_wants (l : Launch) (hl9 : l.stackTraces = false) (dC : Nat → ClassId) (dI : Nat → Nat → Nat) (g : cG) (h : Nat → Nat) (u : cS) (sz : Nat) (x1 : Int32) (x2 : Int32) (hI : cInv u) : vy_Met l yX4_wants wsX4_wants ({ frames := 7, cells := 1, slots := 6, locals := 104 }) (va_Pc [.ref (h 0), .int x1, .int x2] (fun U => U.heap.size = sz ∧ va_P (dC, dI) vwCl (cw g h u) U.heap ∧ va_K (dC, dI) vwCl (cTys g) U ∧ va_D (fun _ => True) (cw g h u) ∧ zz (va_A (cw g h u) sz) U U.heap)) (va_Qv (fun u2 => fX4_wants u x1 x2 = (0, 0, u2)) (fun (u2 : cS) (t : State) => va_P (dC, dI) vwCl (cw g h u2) t.heap ∧ va_D (va_A (cw g h u) sz) (cw g h u2)) (va_A (cw g h u) sz)) (vx_X (fun _ => True) (fun E (u2 : cS) t => (∃ k : Nat, fX4_wants u x1 x2 = (k, 0, u2) ∧ ex_is k E) ∧ va_P (dC, dI) vwCl (cw g h u2) t.heap ∧ va_D (va_A (cw g h u) sz) (cw g h u2)) (va_A (cw g h u) sz)) 0 0 1 6 (va_A (cw g h u) sz) := by
  refine vy_ofW (cc := cX4_wants) (maxL := 3) (ret := none) (by decide) rfl ?_
  intro p e s m args below meth c s₁ B hml hxt hv
  obtain ⟨rfl, hsz, hP, hK, hD0, hZ⟩ := hv
  have hx := B.exec
  have hb := B.bytes
  have hr := B.returns
  have hts := atoms_spec (ws := wsX4_wants) B.pre
  have hown : s.vm.findClass RX4 = some m.cls := findClass_of_methodNamed B.named
  have hlocks := B.notSynchronized
  subst hsz
  have hD := hD0.self (sz := s.heap.size)
  generalize hAe : va_A (cw g h u) s.heap.size = A at hD hZ ⊢
  have hA : ∀ q : Nat, s.heap.size ≤ q → A q := fun q h => by rw [← hAe]; exact Or.inr h
  have hS : va_S A s.heap s.heap [] := va_S.rf
  have hl := lv_entry ([.ref (h 0), .int x1, .int x2]) (n := 3) (Nat.le_of_ble_eq_true rfl)
  rw [lg_entry_eq]
  generalize (lg_sl ([.ref (h 0), .int x1, .int x2]) ++ List.replicate (3 - (lg_sl ([.ref (h 0), .int x1, .int x2])).length) Slot.unset).toArray = ls at hl ⊢
  have hl : lv_has ls 3 [(0, .ref (h 0)), (1, .int x1), (2, .int x2)] := hl
  obtain ⟨hI1, hI2, hI3, hI4, hI5, hI6⟩ := id hI
  have z_0 : (0 : Int32).toInt = 0 := by decide
  have z_1 : (7 : Int32).toInt = 7 := by decide
  have z_2 : (1 : Int32).toInt = 1 := by decide
  have z_3 : (1000 : Int32).toInt = 1000 := by decide
  refine lv_iload_n hx hb dX4_wants_0 rfl (lv_at hl 1 rfl) ?_
  refine lv_iconst (v := 0) hx hb dX4_wants_1 (by decide) ?_
  refine lv_bipush (v := 7) hx hb dX4_wants_2 (by decide) ?_
  refine vy_callv (vy_runS (As := [.int x1, .int 0, .int 7]) (rest := []) ⟨hx, hb, hml, hown, hts⟩ (kX4_requireRange l hl9 dC dI _ x1 0 7) (cwS 3 hts (gS wd_90 wd_91 wd_92 wcX4_requireRange) rfl rfl rfl (by decide +kernel) ⟨(Nat.le_of_ble_eq_true rfl), (Nat.le_of_ble_eq_true rfl)⟩) ⟨fun a U g mk q => by obtain ⟨q0, q1, qZ⟩ := q; exact ⟨q0, q1, zz_same (u := U) (H := U.heap) rfl rfl qZ⟩, fun U hU hW => ⟨rfl, hU, by rw [hU]; exact zz_to hZ hS (fun q h => hA q (Nat.le_trans hS.1 h)) hW⟩⟩ rfl rfl hl.1 rfl (lv_room (Nat.le_of_ble_eq_true rfl)) dX4_wants_4 ⟨(Nat.le_of_ble_eq_true rfl), (Nat.le_of_ble_eq_true rfl)⟩) hS (fun q h1 h2 => absurd h2 (Nat.not_le.mpr h1)) (fun q h => hA q (Nat.le_trans hS.1 h)) (fun q h1 h2 => absurd h2 (Nat.not_le.mpr h1)) (fun E ce q9 _ t H1 locs1 ht hvm hw hB hz1 hk1 hS hce hcv hcl => ?_) (fun _ t H1 locs1 ht hvm hw hB hz1 hk1 hS => ?_)
  · skip
    have c_1 : ¬ fX4_requireRange x1 0 7 = 0 := by rw [hw]; decide
    subst hB
    have hP := hP.kept (fun k q hq => hk1 q.1 (hP k q hq).lt (Nat.not_le.mpr (hP k q hq).lt))
    exact vy_out (vx_out (fun x hx => (hxt x hx).elim) hlocks hce hcv hcl (fun t ht ha => ⟨u, trivial, ⟨⟨2, (by unfold fX4_wants; rw [if_neg c_1]), rfl⟩, by rw [ht]; exact hP, hD⟩, hS.F ht⟩) hS.2.2 (Nat.le_of_ble_eq_true rfl) (Nat.le_of_ble_eq_true rfl))
  · skip
    have hH1 : H1 = _ := ht.symm.trans hB
    subst hH1
    have c_1 : fX4_requireRange x1 0 7 = 0 := hw
    have t_2 := rr_lo c_1
    have t_3 := rr_hi c_1
    refine lv_iload_n hx hb dX4_wants_7 rfl (lv_at hl 2 rfl) ?_
    refine lv_iconst (v := 1) hx hb dX4_wants_8 (by decide) ?_
    refine lv_sipush (v := 1000) hx hb dX4_wants_9 (by decide) ?_
    refine vy_callv (vy_runS (As := [.int x2, .int 1, .int 1000]) (rest := []) ⟨hx, hb, hml, hown, hts⟩ (kX4_requireRange l hl9 dC dI _ x2 1 1000) (cwS 3 hts (gS wd_90 wd_91 wd_92 wcX4_requireRange) rfl rfl rfl (by decide +kernel) ⟨(Nat.le_of_ble_eq_true rfl), (Nat.le_of_ble_eq_true rfl)⟩) ⟨fun a U g mk q => by obtain ⟨q0, q1, qZ⟩ := q; exact ⟨q0, q1, zz_same (u := U) (H := U.heap) rfl rfl qZ⟩, fun U hU hW => ⟨rfl, hU, by rw [hU]; exact zz_to hZ hS (fun q h => hA q (Nat.le_trans hS.1 h)) hW⟩⟩ rfl rfl hl.1 rfl (lv_room (Nat.le_of_ble_eq_true rfl)) dX4_wants_12 ⟨(Nat.le_of_ble_eq_true rfl), (Nat.le_of_ble_eq_true rfl)⟩) hS (fun q h1 h2 => absurd h2 (Nat.not_le.mpr h1)) (fun q h => hA q (Nat.le_trans hS.1 h)) (fun q h1 h2 => absurd h2 (Nat.not_le.mpr h1)) (fun E ce q9 _ t H1 locs1 ht hvm hw hB hz1 hk1 hS hce hcv hcl => ?_) (fun _ t H1 locs1 ht hvm hw hB hz1 hk1 hS => ?_)
    · skip
      have c_4 : ¬ fX4_requireRange x2 1 1000 = 0 := by rw [hw]; decide
      subst hB
      have hP := hP.kept (fun k q hq => hk1 q.1 (hP k q hq).lt (Nat.not_le.mpr (hP k q hq).lt))
      exact vy_out (vx_out (fun x hx => (hxt x hx).elim) hlocks hce hcv hcl (fun t ht ha => ⟨u, trivial, ⟨⟨2, (by unfold fX4_wants; rw [if_pos c_1, if_neg c_4]), rfl⟩, by rw [ht]; exact hP, hD⟩, hS.F ht⟩) hS.2.2 (Nat.le_of_ble_eq_true rfl) (Nat.le_of_ble_eq_true rfl))
    · skip
      have hH1 : H1 = _ := ht.symm.trans hB
      subst hH1
      have c_4 : fX4_requireRange x2 1 1000 = 0 := hw
      have t_5 := rr_lo c_4
      have t_6 := rr_hi c_4
      refine lv_aload_n hx hb dX4_wants_15 rfl (lv_at hl 0 rfl) ?_
      refine va_get (D := (dC, dI)) (C := RX4) (T := TX4) (N := 9) (v := .ref (h 6)) hx hb hts (fi_X4 _) hown hK hP 0 (cw_at0 _ _ _) rfl 5 (by decide) (hts _ (List.mem_cons_of_mem _ wd_78)) (fun _ h9 => h9) rfl dX4_wants_16 ?_
      refine lv_iload_n hx hb dX4_wants_19 rfl (lv_at hl 1 rfl) ?_
      refine lv_iload_n hx hb dX4_wants_20 rfl (lv_at hl 2 rfl) ?_
      refine va_iast (f := k_want u) hx hb hK hP hD hS 6 0 (cw_at6 _ _ _) rfl (vp_in_iff.mpr (by omega)) dX4_wants_21 (fun H locs hP hD hS => ?_)
      have hP : va_P (dC, dI) vwCl (cw g h (s_want u (upd (k_want u) x1.toNatClampNeg x2))) H := hP
      have hD : va_D A (cw g h (s_want u (upd (k_want u) x1.toNatClampNeg x2))) := hD
      exact vy_ret (W.vret hx hb hr (fun t ht hW => ⟨⟨(s_want u (upd (k_want u) x1.toNatClampNeg x2)), rfl, (by unfold fX4_wants; rw [if_pos c_1, if_pos c_4]), by rw [ht]; exact hP, hD⟩, hS.F ht⟩) hS.2.2 dX4_wants_22)
set_option maxHeartbeats 4000000 in
set_option maxRecDepth 100000 in
theorem kX4_right (l : Launch) (hl9 : l.stackTraces = false) (dC : Nat → ClassId) (dI : Nat → Nat → Nat) (g : cG) (h : Nat → Nat) (u : cS) (sz : Nat) (x1 : Int32) (x2 : Int32) (x3 : Int32) (hI : cInv u) : vy_Met l yX4_right wsX4_right ({ frames := 7, cells := 1, slots := 6, locals := 104 }) (va_Pc [.ref (h 0), .int x1, .int x2, .int x3] (fun U => U.heap.size = sz ∧ va_P (dC, dI) vwCl (cw g h u) U.heap ∧ va_K (dC, dI) vwCl (cTys g) U ∧ va_D (fun _ => True) (cw g h u) ∧ zz (va_A (cw g h u) sz) U U.heap)) (va_Qv (fun u2 => fX4_right u x1 x2 x3 = (0, 0, u2)) (fun (u2 : cS) (t : State) => va_P (dC, dI) vwCl (cw g h u2) t.heap ∧ va_D (va_A (cw g h u) sz) (cw g h u2)) (va_A (cw g h u) sz)) (vx_X (fun _ => True) (fun E (u2 : cS) t => (∃ k : Nat, fX4_right u x1 x2 x3 = (k, 0, u2) ∧ ex_is k E) ∧ va_P (dC, dI) vwCl (cw g h u2) t.heap ∧ va_D (va_A (cw g h u) sz) (cw g h u2)) (va_A (cw g h u) sz)) 0 0 1 6 (va_A (cw g h u) sz) := by
  refine vy_ofW (cc := cX4_right) (maxL := 4) (ret := none) (by decide) rfl ?_
  intro p e s m args below meth c s₁ B hml hxt hv
  obtain ⟨rfl, hsz, hP, hK, hD0, hZ⟩ := hv
  have hx := B.exec
  have hb := B.bytes
  have hr := B.returns
  have hts := atoms_spec (ws := wsX4_right) B.pre
  have hown : s.vm.findClass RX4 = some m.cls := findClass_of_methodNamed B.named
  have hlocks := B.notSynchronized
  subst hsz
  have hD := hD0.self (sz := s.heap.size)
  generalize hAe : va_A (cw g h u) s.heap.size = A at hD hZ ⊢
  have hA : ∀ q : Nat, s.heap.size ≤ q → A q := fun q h => by rw [← hAe]; exact Or.inr h
  have hS : va_S A s.heap s.heap [] := va_S.rf
  have hl := lv_entry ([.ref (h 0), .int x1, .int x2, .int x3]) (n := 4) (Nat.le_of_ble_eq_true rfl)
  rw [lg_entry_eq]
  generalize (lg_sl ([.ref (h 0), .int x1, .int x2, .int x3]) ++ List.replicate (4 - (lg_sl ([.ref (h 0), .int x1, .int x2, .int x3])).length) Slot.unset).toArray = ls at hl ⊢
  have hl : lv_has ls 4 [(0, .ref (h 0)), (1, .int x1), (2, .int x2), (3, .int x3)] := hl
  obtain ⟨hI1, hI2, hI3, hI4, hI5, hI6⟩ := id hI
  have z_0 : (0 : Int32).toInt = 0 := by decide
  have z_1 : (7 : Int32).toInt = 7 := by decide
  have z_2 : (1 : Int32).toInt = 1 := by decide
  have z_3 : (9 : Int32).toInt = 9 := by decide
  refine lv_iload_n hx hb dX4_right_0 rfl (lv_at hl 1 rfl) ?_
  refine lv_iconst (v := 0) hx hb dX4_right_1 (by decide) ?_
  refine lv_bipush (v := 7) hx hb dX4_right_2 (by decide) ?_
  refine vy_callv (vy_runS (As := [.int x1, .int 0, .int 7]) (rest := []) ⟨hx, hb, hml, hown, hts⟩ (kX4_requireRange l hl9 dC dI _ x1 0 7) (cwS 3 hts (gS wd_90 wd_91 wd_92 wcX4_requireRange) rfl rfl rfl (by decide +kernel) ⟨(Nat.le_of_ble_eq_true rfl), (Nat.le_of_ble_eq_true rfl)⟩) ⟨fun a U g mk q => by obtain ⟨q0, q1, qZ⟩ := q; exact ⟨q0, q1, zz_same (u := U) (H := U.heap) rfl rfl qZ⟩, fun U hU hW => ⟨rfl, hU, by rw [hU]; exact zz_to hZ hS (fun q h => hA q (Nat.le_trans hS.1 h)) hW⟩⟩ rfl rfl hl.1 rfl (lv_room (Nat.le_of_ble_eq_true rfl)) dX4_right_4 ⟨(Nat.le_of_ble_eq_true rfl), (Nat.le_of_ble_eq_true rfl)⟩) hS (fun q h1 h2 => absurd h2 (Nat.not_le.mpr h1)) (fun q h => hA q (Nat.le_trans hS.1 h)) (fun q h1 h2 => absurd h2 (Nat.not_le.mpr h1)) (fun E ce q9 _ t H1 locs1 ht hvm hw hB hz1 hk1 hS hce hcv hcl => ?_) (fun _ t H1 locs1 ht hvm hw hB hz1 hk1 hS => ?_)
  · skip
    have c_1 : ¬ fX4_requireRange x1 0 7 = 0 := by rw [hw]; decide
    subst hB
    have hP := hP.kept (fun k q hq => hk1 q.1 (hP k q hq).lt (Nat.not_le.mpr (hP k q hq).lt))
    exact vy_out (vx_out (fun x hx => (hxt x hx).elim) hlocks hce hcv hcl (fun t ht ha => ⟨u, trivial, ⟨⟨2, (by unfold fX4_right; rw [if_neg c_1]), rfl⟩, by rw [ht]; exact hP, hD⟩, hS.F ht⟩) hS.2.2 (Nat.le_of_ble_eq_true rfl) (Nat.le_of_ble_eq_true rfl))
  · skip
    have hH1 : H1 = _ := ht.symm.trans hB
    subst hH1
    have c_1 : fX4_requireRange x1 0 7 = 0 := hw
    have t_2 := rr_lo c_1
    have t_3 := rr_hi c_1
    refine lv_iload_n hx hb dX4_right_7 rfl (lv_at hl 2 rfl) ?_
    refine lv_iconst (v := 1) hx hb dX4_right_8 (by decide) ?_
    refine lv_bipush (v := 9) hx hb dX4_right_9 (by decide) ?_
    refine vy_callv (vy_runS (As := [.int x2, .int 1, .int 9]) (rest := []) ⟨hx, hb, hml, hown, hts⟩ (kX4_requireRange l hl9 dC dI _ x2 1 9) (cwS 3 hts (gS wd_90 wd_91 wd_92 wcX4_requireRange) rfl rfl rfl (by decide +kernel) ⟨(Nat.le_of_ble_eq_true rfl), (Nat.le_of_ble_eq_true rfl)⟩) ⟨fun a U g mk q => by obtain ⟨q0, q1, qZ⟩ := q; exact ⟨q0, q1, zz_same (u := U) (H := U.heap) rfl rfl qZ⟩, fun U hU hW => ⟨rfl, hU, by rw [hU]; exact zz_to hZ hS (fun q h => hA q (Nat.le_trans hS.1 h)) hW⟩⟩ rfl rfl hl.1 rfl (lv_room (Nat.le_of_ble_eq_true rfl)) dX4_right_11 ⟨(Nat.le_of_ble_eq_true rfl), (Nat.le_of_ble_eq_true rfl)⟩) hS (fun q h1 h2 => absurd h2 (Nat.not_le.mpr h1)) (fun q h => hA q (Nat.le_trans hS.1 h)) (fun q h1 h2 => absurd h2 (Nat.not_le.mpr h1)) (fun E ce q9 _ t H1 locs1 ht hvm hw hB hz1 hk1 hS hce hcv hcl => ?_) (fun _ t H1 locs1 ht hvm hw hB hz1 hk1 hS => ?_)
    · skip
      have c_4 : ¬ fX4_requireRange x2 1 9 = 0 := by rw [hw]; decide
      subst hB
      have hP := hP.kept (fun k q hq => hk1 q.1 (hP k q hq).lt (Nat.not_le.mpr (hP k q hq).lt))
      exact vy_out (vx_out (fun x hx => (hxt x hx).elim) hlocks hce hcv hcl (fun t ht ha => ⟨u, trivial, ⟨⟨2, (by unfold fX4_right; rw [if_pos c_1, if_neg c_4]), rfl⟩, by rw [ht]; exact hP, hD⟩, hS.F ht⟩) hS.2.2 (Nat.le_of_ble_eq_true rfl) (Nat.le_of_ble_eq_true rfl))
    · skip
      have hH1 : H1 = _ := ht.symm.trans hB
      subst hH1
      have c_4 : fX4_requireRange x2 1 9 = 0 := hw
      have t_5 := rr_lo c_4
      have t_6 := rr_hi c_4
      refine lv_iload_n hx hb dX4_right_14 rfl (lv_at hl 3 rfl) ?_
      refine lv_if_eq (tgt := 33) hx hb dX4_right_15 (by decide) (fun c_7 => ?_) (fun c_7 => ?_)
      · skip
        have t_8 : x3.toInt = 0 := i_eq c_7 rfl (by decide)
        refine lv_aload_n hx hb dX4_right_33 rfl (lv_at hl 0 rfl) ?_
        refine va_get (D := (dC, dI)) (C := RX4) (T := TX4) (N := 9) (v := .ref (h 7)) hx hb hts (fi_X4 _) hown hK hP 0 (cw_at0 _ _ _) rfl 6 (by decide) (hts _ (List.mem_cons_of_mem _ wd_113)) (fun _ h9 => h9) rfl dX4_right_34 ?_
        refine lv_iload_n hx hb dX4_right_37 rfl (lv_at hl 1 rfl) ?_
        refine lv_dup2_11 hx hb dX4_right_38 rfl rfl ?_
        refine va_iald (f := k_may u) hx hb hK hP 7 0 (cw_at7 _ _ _) rfl (vp_in_iff.mpr (by omega)) dX4_right_39 ?_
        refine lv_iconst (v := 1) hx hb dX4_right_40 (by decide) ?_
        refine lv_iload_n hx hb dX4_right_41 rfl (lv_at hl 2 rfl) ?_
        refine lv_ishl hx hb dX4_right_42 ?_
        refine lv_iconst (v := (-1)) hx hb dX4_right_43 (by decide) ?_
        refine lv_ixor hx hb dX4_right_44 ?_
        refine lv_iand hx hb dX4_right_45 ?_
        refine va_iast (f := k_may u) hx hb hK hP hD hS 7 0 (cw_at7 _ _ _) rfl (vp_in_iff.mpr (by omega)) dX4_right_46 (fun H locs hP hD hS => ?_)
        have hP : va_P (dC, dI) vwCl (cw g h (s_may u (upd (k_may u) x1.toNatClampNeg ((k_may u x1.toNatClampNeg) &&& (((1 : Int32) <<< (x2 &&& 31)) ^^^ (-1)))))) H := hP
        have hD : va_D A (cw g h (s_may u (upd (k_may u) x1.toNatClampNeg ((k_may u x1.toNatClampNeg) &&& (((1 : Int32) <<< (x2 &&& 31)) ^^^ (-1)))))) := hD
        exact vy_ret (W.vret hx hb hr (fun t ht hW => ⟨⟨(s_may u (upd (k_may u) x1.toNatClampNeg ((k_may u x1.toNatClampNeg) &&& (((1 : Int32) <<< (x2 &&& 31)) ^^^ (-1))))), rfl, (by unfold fX4_right; rw [if_pos c_1, if_pos c_4, if_pos c_7]), by rw [ht]; exact hP, hD⟩, hS.F ht⟩) hS.2.2 dX4_right_47)
      · skip
        have t_9 : x3.toInt ≠ 0 := i_ne c_7 rfl (by decide)
        refine lv_aload_n hx hb dX4_right_18 rfl (lv_at hl 0 rfl) ?_
        refine va_get (D := (dC, dI)) (C := RX4) (T := TX4) (N := 9) (v := .ref (h 7)) hx hb hts (fi_X4 _) hown hK hP 0 (cw_at0 _ _ _) rfl 6 (by decide) (hts _ (List.mem_cons_of_mem _ wd_113)) (fun _ h9 => h9) rfl dX4_right_19 ?_
        refine lv_iload_n hx hb dX4_right_22 rfl (lv_at hl 1 rfl) ?_
        refine lv_dup2_11 hx hb dX4_right_23 rfl rfl ?_
        refine va_iald (f := k_may u) hx hb hK hP 7 0 (cw_at7 _ _ _) rfl (vp_in_iff.mpr (by omega)) dX4_right_24 ?_
        refine lv_iconst (v := 1) hx hb dX4_right_25 (by decide) ?_
        refine lv_iload_n hx hb dX4_right_26 rfl (lv_at hl 2 rfl) ?_
        refine lv_ishl hx hb dX4_right_27 ?_
        refine lv_ior hx hb dX4_right_28 ?_
        refine va_iast (f := k_may u) hx hb hK hP hD hS 7 0 (cw_at7 _ _ _) rfl (vp_in_iff.mpr (by omega)) dX4_right_29 (fun H locs hP hD hS => ?_)
        have hP : va_P (dC, dI) vwCl (cw g h (s_may u (upd (k_may u) x1.toNatClampNeg ((k_may u x1.toNatClampNeg) ||| ((1 : Int32) <<< (x2 &&& 31)))))) H := hP
        have hD : va_D A (cw g h (s_may u (upd (k_may u) x1.toNatClampNeg ((k_may u x1.toNatClampNeg) ||| ((1 : Int32) <<< (x2 &&& 31)))))) := hD
        refine lv_goto (tgt := 47) hx hb dX4_right_30 (by decide) ?_
        exact vy_ret (W.vret hx hb hr (fun t ht hW => ⟨⟨(s_may u (upd (k_may u) x1.toNatClampNeg ((k_may u x1.toNatClampNeg) ||| ((1 : Int32) <<< (x2 &&& 31))))), rfl, (by unfold fX4_right; rw [if_pos c_1, if_pos c_4, if_neg c_7]), by rw [ht]; exact hP, hD⟩, hS.F ht⟩) hS.2.2 dX4_right_47)
set_option maxHeartbeats 4000000 in
set_option maxRecDepth 100000 in
theorem kX4_block (l : Launch) (hl9 : l.stackTraces = false) (dC : Nat → ClassId) (dI : Nat → Nat → Nat) (g : cG) (h : Nat → Nat) (u : cS) (sz : Nat) (x1 : Int32) (x2 : Int32) (hI : cInv u) : vy_Met l yX4_block wsX4_block ({ frames := 7, cells := 1, slots := 6, locals := 104 }) (va_Pc [.ref (h 0), .int x1, .int x2] (fun U => U.heap.size = sz ∧ va_P (dC, dI) vwCl (cw g h u) U.heap ∧ va_K (dC, dI) vwCl (cTys g) U ∧ va_D (fun _ => True) (cw g h u) ∧ zz (va_A (cw g h u) sz) U U.heap)) (va_Qi (fun (r : Int32) u2 => fX4_block u x1 x2 = (0, r, u2)) (fun (u2 : cS) (t : State) => va_P (dC, dI) vwCl (cw g h u2) t.heap ∧ va_D (va_A (cw g h u) sz) (cw g h u2)) (va_A (cw g h u) sz)) (vx_X (fun _ => True) (fun E (u2 : cS) t => (∃ k : Nat, fX4_block u x1 x2 = (k, 0, u2) ∧ ex_is k E) ∧ va_P (dC, dI) vwCl (cw g h u2) t.heap ∧ va_D (va_A (cw g h u) sz) (cw g h u2)) (va_A (cw g h u) sz)) 0 0 1 6 (va_A (cw g h u) sz) := by
  refine vy_ofW (cc := cX4_block) (maxL := 4) (ret := (some .int)) (by decide) rfl ?_
  intro p e s m args below meth c s₁ B hml hxt hv
  obtain ⟨rfl, hsz, hP, hK, hD0, hZ⟩ := hv
  have hx := B.exec
  have hb := B.bytes
  have hr := B.returns
  have hts := atoms_spec (ws := wsX4_block) B.pre
  have hown : s.vm.findClass RX4 = some m.cls := findClass_of_methodNamed B.named
  have hlocks := B.notSynchronized
  subst hsz
  have hD := hD0.self (sz := s.heap.size)
  generalize hAe : va_A (cw g h u) s.heap.size = A at hD hZ ⊢
  have hA : ∀ q : Nat, s.heap.size ≤ q → A q := fun q h => by rw [← hAe]; exact Or.inr h
  have hS : va_S A s.heap s.heap [] := va_S.rf
  have hl := lv_entry ([.ref (h 0), .int x1, .int x2]) (n := 4) (Nat.le_of_ble_eq_true rfl)
  rw [lg_entry_eq]
  generalize (lg_sl ([.ref (h 0), .int x1, .int x2]) ++ List.replicate (4 - (lg_sl ([.ref (h 0), .int x1, .int x2])).length) Slot.unset).toArray = ls at hl ⊢
  have hl : lv_has ls 4 [(0, .ref (h 0)), (1, .int x1), (2, .int x2)] := hl
  obtain ⟨hI1, hI2, hI3, hI4, hI5, hI6⟩ := id hI
  have z_0 : (1 : Int32).toInt = 1 := by decide
  have z_1 : (9 : Int32).toInt = 9 := by decide
  refine lv_aload_n hx hb dX4_block_0 rfl (lv_at hl 0 rfl) ?_
  refine lv_iload_n hx hb dX4_block_1 rfl (lv_at hl 1 rfl) ?_
  refine vy_callv (vy_runV (As := [.int x1]) (rest := []) ⟨hx, hb, hml, hown, hts⟩ (kX4_requireLot l hl9 dC dI g h u _ x1) (cwV 1 hts (gV wd_114 wd_115 wd_116 wd_92 wcX4_requireLot) rfl rfl rfl (by decide +kernel) ⟨(Nat.le_of_ble_eq_true rfl), (Nat.le_of_ble_eq_true rfl)⟩) ⟨fun a U g mk q => by obtain ⟨q0, q1, qP, qK, qZ⟩ := q; exact ⟨q0, q1, qP, va_K.moved (u := U) (U := U.calling g mk a) (Vm.Alike.refl U.vm) qK, zz_same (u := U) (H := U.heap) rfl rfl qZ⟩, va_recv hK hP (ci := 3) (q0 := 0) rfl (cw_at0 _ _ _), fun U hU hW => ⟨rfl, hU, by rw [hU]; exact hP, va_K.moved hW.alike hK, by rw [hU]; exact zz_to hZ hS (fun q h => hA q (Nat.le_trans hS.1 h)) hW⟩⟩ rfl rfl hl.1 rfl (lv_room (Nat.le_of_ble_eq_true rfl)) dX4_block_2 ⟨(Nat.le_of_ble_eq_true rfl), (Nat.le_of_ble_eq_true rfl)⟩) hS (fun q h1 h2 => absurd h2 (Nat.not_le.mpr h1)) (fun q h => hA q (Nat.le_trans hS.1 h)) (fun q h1 h2 => absurd h2 (Nat.not_le.mpr h1)) (fun E ce q9 _ t H1 locs1 ht hvm hw hB hz1 hk1 hS hce hcv hcl => ?_) (fun _ t H1 locs1 ht hvm hw hB hz1 hk1 hS => ?_)
  · skip
    have c_1 : ¬ fX4_requireLot u x1 = 0 := by rw [hw]; decide
    subst hB
    have hP := hP.kept (fun k q hq => hk1 q.1 (hP k q hq).lt (Nat.not_le.mpr (hP k q hq).lt))
    exact vy_out (vx_out (fun x hx => (hxt x hx).elim) hlocks hce hcv hcl (fun t ht ha => ⟨u, trivial, ⟨⟨1, (by unfold fX4_block; rw [if_neg c_1]), rfl⟩, by rw [ht]; exact hP, hD⟩, hS.F ht⟩) hS.2.2 (Nat.le_of_ble_eq_true rfl) (Nat.le_of_ble_eq_true rfl))
  · skip
    have hH1 : H1 = _ := ht.symm.trans hB
    subst hH1
    have c_1 : fX4_requireLot u x1 = 0 := hw
    have t_2 := rl_lo c_1
    have t_3 := rl_hi c_1
    refine lv_iload_n hx hb dX4_block_5 rfl (lv_at hl 2 rfl) ?_
    refine lv_iconst (v := 1) hx hb dX4_block_6 (by decide) ?_
    refine lv_bipush (v := 9) hx hb dX4_block_7 (by decide) ?_
    refine vy_callv (vy_runS (As := [.int x2, .int 1, .int 9]) (rest := []) ⟨hx, hb, hml, hown, hts⟩ (kX4_requireRange l hl9 dC dI _ x2 1 9) (cwS 3 hts (gS wd_90 wd_91 wd_92 wcX4_requireRange) rfl rfl rfl (by decide +kernel) ⟨(Nat.le_of_ble_eq_true rfl), (Nat.le_of_ble_eq_true rfl)⟩) ⟨fun a U g mk q => by obtain ⟨q0, q1, qZ⟩ := q; exact ⟨q0, q1, zz_same (u := U) (H := U.heap) rfl rfl qZ⟩, fun U hU hW => ⟨rfl, hU, by rw [hU]; exact zz_to hZ hS (fun q h => hA q (Nat.le_trans hS.1 h)) hW⟩⟩ rfl rfl hl.1 rfl (lv_room (Nat.le_of_ble_eq_true rfl)) dX4_block_9 ⟨(Nat.le_of_ble_eq_true rfl), (Nat.le_of_ble_eq_true rfl)⟩) hS (fun q h1 h2 => absurd h2 (Nat.not_le.mpr h1)) (fun q h => hA q (Nat.le_trans hS.1 h)) (fun q h1 h2 => absurd h2 (Nat.not_le.mpr h1)) (fun E ce q9 _ t H1 locs1 ht hvm hw hB hz1 hk1 hS hce hcv hcl => ?_) (fun _ t H1 locs1 ht hvm hw hB hz1 hk1 hS => ?_)
    · skip
      have c_4 : ¬ fX4_requireRange x2 1 9 = 0 := by rw [hw]; decide
      subst hB
      have hP := hP.kept (fun k q hq => hk1 q.1 (hP k q hq).lt (Nat.not_le.mpr (hP k q hq).lt))
      exact vy_out (vx_out (fun x hx => (hxt x hx).elim) hlocks hce hcv hcl (fun t ht ha => ⟨u, trivial, ⟨⟨2, (by unfold fX4_block; rw [if_pos c_1, if_neg c_4]), rfl⟩, by rw [ht]; exact hP, hD⟩, hS.F ht⟩) hS.2.2 (Nat.le_of_ble_eq_true rfl) (Nat.le_of_ble_eq_true rfl))
    · skip
      have hH1 : H1 = _ := ht.symm.trans hB
      subst hH1
      have c_4 : fX4_requireRange x2 1 9 = 0 := hw
      have t_5 := rr_lo c_4
      have t_6 := rr_hi c_4
      refine lv_iconst (v := 1) hx hb dX4_block_12 (by decide) ?_
      refine lv_iload_n hx hb dX4_block_13 rfl (lv_at hl 2 rfl) ?_
      refine lv_ishl hx hb dX4_block_14 ?_
      refine lv_istore_n (lv' := [(3, .int ((1 : Int32) <<< (x2 &&& 31))), (0, .ref (h 0)), (1, .int x1), (2, .int x2)]) hx hb dX4_block_15 rfl hl (by decide) rfl (fun ls hl => ?_)
      refine lv_aload_n hx hb dX4_block_16 rfl (lv_at hl 1 rfl) ?_
      refine va_get (D := (dC, dI)) (C := RX4) (T := TX4) (N := 9) (v := .ref (h 1)) hx hb hts (fi_X4 _) hown hK hP 0 (cw_at0 _ _ _) rfl 0 (by decide) (hts _ (List.mem_cons_of_mem _ wd_11)) (fun _ h9 => h9) rfl dX4_block_17 ?_
      refine va_get (D := (dC, dI)) (C := RX1) (T := TX1) (N := 9) (v := .ref (h 12)) hx hb hts (fi_X1 _) hown hK hP 1 (cw_at1 _ _ _) rfl 4 (by decide) (hts _ (List.mem_cons_of_mem _ wd_118)) (fun _ h9 => h9) rfl dX4_block_20 ?_
      refine lv_iload_n hx hb dX4_block_23 rfl (lv_at hl 2 rfl) ?_
      refine va_zald (f := k_open u) hx hb hK hP 12 1 (cw_at12 _ _ _) rfl (vp_in_iff.mpr (by omega)) dX4_block_24 ?_
      refine lv_if_eq (tgt := 46) hx hb dX4_block_25 (by decide) (fun c_7 => ?_) (fun c_7 => ?_)
      · skip
        have t_8 : (k_open u x1.toNatClampNeg).toInt = 0 := i_eq c_7 rfl (by decide)
        refine lv_iconst (v := 0) hx hb dX4_block_46 (by decide) ?_
        refine vy_callv (vy_runS (As := [.int 0]) (rest := []) ⟨hx, hb, hml, hown, hts⟩ (kX4_requireState l hl9 dC dI _ 0) (cwS 1 hts (gS wd_119 wd_120 wd_92 wcX4_requireState) rfl rfl rfl (by decide +kernel) ⟨(Nat.le_of_ble_eq_true rfl), (Nat.le_of_ble_eq_true rfl)⟩) ⟨fun a U g mk q => by obtain ⟨q0, q1, qZ⟩ := q; exact ⟨q0, q1, zz_same (u := U) (H := U.heap) rfl rfl qZ⟩, fun U hU hW => ⟨rfl, hU, by rw [hU]; exact zz_to hZ hS (fun q h => hA q (Nat.le_trans hS.1 h)) hW⟩⟩ rfl rfl hl.1 rfl (lv_room (Nat.le_of_ble_eq_true rfl)) dX4_block_47 ⟨(Nat.le_of_ble_eq_true rfl), (Nat.le_of_ble_eq_true rfl)⟩) hS (fun q h1 h2 => absurd h2 (Nat.not_le.mpr h1)) (fun q h => hA q (Nat.le_trans hS.1 h)) (fun q h1 h2 => absurd h2 (Nat.not_le.mpr h1)) (fun E ce q9 _ t H1 locs1 ht hvm hw hB hz1 hk1 hS hce hcv hcl => ?_) (fun _ t H1 locs1 ht hvm hw hB hz1 hk1 hS => ?_)
        · skip
          subst hB
          have hP := hP.kept (fun k q hq => hk1 q.1 (hP k q hq).lt (Nat.not_le.mpr (hP k q hq).lt))
          exact vy_out (vx_out (fun x hx => (hxt x hx).elim) hlocks hce hcv hcl (fun t ht ha => ⟨u, trivial, ⟨⟨3, (by unfold fX4_block; rw [if_pos c_1, if_pos c_4, if_pos c_7]), rfl⟩, by rw [ht]; exact hP, hD⟩, hS.F ht⟩) hS.2.2 (Nat.le_of_ble_eq_true rfl) (Nat.le_of_ble_eq_true rfl))
        · skip
          exact absurd hw (by decide)
      · skip
        have t_10 : (k_open u x1.toNatClampNeg).toInt ≠ 0 := i_ne c_7 rfl (by decide)
        refine lv_aload_n hx hb dX4_block_28 rfl (lv_at hl 1 rfl) ?_
        refine va_get (D := (dC, dI)) (C := RX4) (T := TX4) (N := 9) (v := .ref (h 1)) hx hb hts (fi_X4 _) hown hK hP 0 (cw_at0 _ _ _) rfl 0 (by decide) (hts _ (List.mem_cons_of_mem _ wd_11)) (fun _ h9 => h9) rfl dX4_block_29 ?_
        refine va_get (D := (dC, dI)) (C := RX1) (T := TX1) (N := 9) (v := .ref (h 13)) hx hb hts (fi_X1 _) hown hK hP 1 (cw_at1 _ _ _) rfl 5 (by decide) (hts _ (List.mem_cons_of_mem _ wd_122)) (fun _ h9 => h9) rfl dX4_block_32 ?_
        refine lv_iload_n hx hb dX4_block_35 rfl (lv_at hl 2 rfl) ?_
        refine va_iald (f := k_reas u) hx hb hK hP 13 0 (cw_at13 _ _ _) rfl (vp_in_iff.mpr (by omega)) dX4_block_36 ?_
        refine lv_iload_n hx hb dX4_block_37 rfl (lv_at hl 0 rfl) ?_
        refine lv_iand hx hb dX4_block_38 ?_
        refine lv_if_ne (tgt := 46) hx hb dX4_block_39 (by decide) (fun c_11 => ?_) (fun c_11 => ?_)
        · skip
          have t_12 : ((k_reas u x1.toNatClampNeg) &&& ((1 : Int32) <<< (x2 &&& 31))).toInt ≠ 0 := i_ne c_11 rfl (by decide)
          refine lv_iconst (v := 0) hx hb dX4_block_46 (by decide) ?_
          refine vy_callv (vy_runS (As := [.int 0]) (rest := []) ⟨hx, hb, hml, hown, hts⟩ (kX4_requireState l hl9 dC dI _ 0) (cwS 1 hts (gS wd_119 wd_120 wd_92 wcX4_requireState) rfl rfl rfl (by decide +kernel) ⟨(Nat.le_of_ble_eq_true rfl), (Nat.le_of_ble_eq_true rfl)⟩) ⟨fun a U g mk q => by obtain ⟨q0, q1, qZ⟩ := q; exact ⟨q0, q1, zz_same (u := U) (H := U.heap) rfl rfl qZ⟩, fun U hU hW => ⟨rfl, hU, by rw [hU]; exact zz_to hZ hS (fun q h => hA q (Nat.le_trans hS.1 h)) hW⟩⟩ rfl rfl hl.1 rfl (lv_room (Nat.le_of_ble_eq_true rfl)) dX4_block_47 ⟨(Nat.le_of_ble_eq_true rfl), (Nat.le_of_ble_eq_true rfl)⟩) hS (fun q h1 h2 => absurd h2 (Nat.not_le.mpr h1)) (fun q h => hA q (Nat.le_trans hS.1 h)) (fun q h1 h2 => absurd h2 (Nat.not_le.mpr h1)) (fun E ce q9 _ t H1 locs1 ht hvm hw hB hz1 hk1 hS hce hcv hcl => ?_) (fun _ t H1 locs1 ht hvm hw hB hz1 hk1 hS => ?_)
          · skip
            subst hB
            have hP := hP.kept (fun k q hq => hk1 q.1 (hP k q hq).lt (Nat.not_le.mpr (hP k q hq).lt))
            exact vy_out (vx_out (fun x hx => (hxt x hx).elim) hlocks hce hcv hcl (fun t ht ha => ⟨u, trivial, ⟨⟨3, (by unfold fX4_block; rw [if_pos c_1, if_pos c_4, if_neg c_7, if_neg c_11]), rfl⟩, by rw [ht]; exact hP, hD⟩, hS.F ht⟩) hS.2.2 (Nat.le_of_ble_eq_true rfl) (Nat.le_of_ble_eq_true rfl))
          · skip
            exact absurd hw (by decide)
        · skip
          have t_14 : ((k_reas u x1.toNatClampNeg) &&& ((1 : Int32) <<< (x2 &&& 31))).toInt = 0 := i_eq c_11 rfl (by decide)
          refine lv_iconst (v := 1) hx hb dX4_block_42 (by decide) ?_
          refine lv_goto (tgt := 47) hx hb dX4_block_43 (by decide) ?_
          refine vy_callv (vy_runS (As := [.int 1]) (rest := []) ⟨hx, hb, hml, hown, hts⟩ (kX4_requireState l hl9 dC dI _ 1) (cwS 1 hts (gS wd_119 wd_120 wd_92 wcX4_requireState) rfl rfl rfl (by decide +kernel) ⟨(Nat.le_of_ble_eq_true rfl), (Nat.le_of_ble_eq_true rfl)⟩) ⟨fun a U g mk q => by obtain ⟨q0, q1, qZ⟩ := q; exact ⟨q0, q1, zz_same (u := U) (H := U.heap) rfl rfl qZ⟩, fun U hU hW => ⟨rfl, hU, by rw [hU]; exact zz_to hZ hS (fun q h => hA q (Nat.le_trans hS.1 h)) hW⟩⟩ rfl rfl hl.1 rfl (lv_room (Nat.le_of_ble_eq_true rfl)) dX4_block_47 ⟨(Nat.le_of_ble_eq_true rfl), (Nat.le_of_ble_eq_true rfl)⟩) hS (fun q h1 h2 => absurd h2 (Nat.not_le.mpr h1)) (fun q h => hA q (Nat.le_trans hS.1 h)) (fun q h1 h2 => absurd h2 (Nat.not_le.mpr h1)) (fun E ce q9 _ t H1 locs1 ht hvm hw hB hz1 hk1 hS hce hcv hcl => ?_) (fun _ t H1 locs1 ht hvm hw hB hz1 hk1 hS => ?_)
          · skip
            exact absurd hw (by decide)
          · skip
            have hH1 : H1 = _ := ht.symm.trans hB
            subst hH1
            refine lv_aload_n hx hb dX4_block_50 rfl (lv_at hl 1 rfl) ?_
            refine va_get (D := (dC, dI)) (C := RX4) (T := TX4) (N := 9) (v := .ref (h 3)) hx hb hts (fi_X4 _) hown hK hP 0 (cw_at0 _ _ _) rfl 2 (by decide) (hts _ (List.mem_cons_of_mem _ wd_87)) (fun _ h9 => h9) rfl dX4_block_51 ?_
            refine lv_iconst (v := 1) hx hb dX4_block_54 (by decide) ?_
            refine vp_callSi (W.runV (As := [.int 1]) (rest := []) ⟨hx, hb, hml, hown, hts⟩ (kX2_haveRoomFor l dC dI g h u 1) (cwV 1 hts (gV wd_102 wd_103 wd_104 wd_105 wcX2_haveRoomFor) rfl rfl rfl (by decide +kernel) ⟨(Nat.le_of_ble_eq_true rfl), (Nat.le_of_ble_eq_true rfl)⟩) ⟨fun a U g mk q => by obtain ⟨q0, qP, qK⟩ := q; exact ⟨q0, qP, va_K.moved (u := U) (U := U.calling g mk a) (Vm.Alike.refl U.vm) qK⟩, va_recv hK hP (ci := 1) (q0 := 3) rfl (cw_at3 _ _ _), fun U hU hW => ⟨rfl, by rw [hU]; exact hP, va_K.moved hW.alike hK⟩⟩ rfl rfl hl.1 rfl (lv_room (Nat.le_of_ble_eq_true rfl)) dX4_block_55 ⟨(Nat.le_of_ble_eq_true rfl), (Nat.le_of_ble_eq_true rfl)⟩) (fun r_16 hw => ?_)
            subst hw
            refine vy_callv (vy_runS (As := [.int (fX2_haveRoomFor u 1)]) (rest := []) ⟨hx, hb, hml, hown, hts⟩ (kX4_requireRoom l hl9 dC dI _ (fX2_haveRoomFor u 1)) (cwS 1 hts (gS wd_99 wd_100 wd_92 wcX4_requireRoom) rfl rfl rfl (by decide +kernel) ⟨(Nat.le_of_ble_eq_true rfl), (Nat.le_of_ble_eq_true rfl)⟩) ⟨fun a U g mk q => by obtain ⟨q0, q1, qZ⟩ := q; exact ⟨q0, q1, zz_same (u := U) (H := U.heap) rfl rfl qZ⟩, fun U hU hW => ⟨rfl, hU, by rw [hU]; exact zz_to hZ hS (fun q h => hA q (Nat.le_trans hS.1 h)) hW⟩⟩ rfl rfl hl.1 rfl (lv_room (Nat.le_of_ble_eq_true rfl)) dX4_block_58 ⟨(Nat.le_of_ble_eq_true rfl), (Nat.le_of_ble_eq_true rfl)⟩) hS (fun q h1 h2 => absurd h2 (Nat.not_le.mpr h1)) (fun q h => hA q (Nat.le_trans hS.1 h)) (fun q h1 h2 => absurd h2 (Nat.not_le.mpr h1)) (fun E ce q9 _ t H1 locs1 ht hvm hw hB hz1 hk1 hS hce hcv hcl => ?_) (fun _ t H1 locs1 ht hvm hw hB hz1 hk1 hS => ?_)
            · skip
              have c_17 : ¬ fX4_requireRoom (fX2_haveRoomFor u 1) = 0 := by rw [hw]; decide
              subst hB
              have hP := hP.kept (fun k q hq => hk1 q.1 (hP k q hq).lt (Nat.not_le.mpr (hP k q hq).lt))
              exact vy_out (vx_out (fun x hx => (hxt x hx).elim) hlocks hce hcv hcl (fun t ht ha => ⟨u, trivial, ⟨⟨4, (by unfold fX4_block; rw [if_pos c_1, if_pos c_4, if_neg c_7, if_pos c_11, if_neg c_17]), rfl⟩, by rw [ht]; exact hP, hD⟩, hS.F ht⟩) hS.2.2 (Nat.le_of_ble_eq_true rfl) (Nat.le_of_ble_eq_true rfl))
            · skip
              have hH1 : H1 = _ := ht.symm.trans hB
              subst hH1
              have c_17 : fX4_requireRoom (fX2_haveRoomFor u 1) = 0 := hw
              have t_18 := hr_roomq1 c_17 hI3
              refine lv_aload_n hx hb dX4_block_61 rfl (lv_at hl 1 rfl) ?_
              refine va_get (D := (dC, dI)) (C := RX4) (T := TX4) (N := 9) (v := .ref (h 1)) hx hb hts (fi_X4 _) hown hK hP 0 (cw_at0 _ _ _) rfl 0 (by decide) (hts _ (List.mem_cons_of_mem _ wd_11)) (fun _ h9 => h9) rfl dX4_block_62 ?_
              refine va_get (D := (dC, dI)) (C := RX1) (T := TX1) (N := 9) (v := .ref (h 13)) hx hb hts (fi_X1 _) hown hK hP 1 (cw_at1 _ _ _) rfl 5 (by decide) (hts _ (List.mem_cons_of_mem _ wd_122)) (fun _ h9 => h9) rfl dX4_block_65 ?_
              refine lv_iload_n hx hb dX4_block_68 rfl (lv_at hl 2 rfl) ?_
              refine lv_dup2_11 hx hb dX4_block_69 rfl rfl ?_
              refine va_iald (f := k_reas u) hx hb hK hP 13 0 (cw_at13 _ _ _) rfl (vp_in_iff.mpr (by omega)) dX4_block_70 ?_
              refine lv_iload_n hx hb dX4_block_71 rfl (lv_at hl 0 rfl) ?_
              refine lv_ior hx hb dX4_block_72 ?_
              refine va_iast (f := k_reas u) hx hb hK hP hD hS 13 0 (cw_at13 _ _ _) rfl (vp_in_iff.mpr (by omega)) dX4_block_73 (fun H locs hP hD hS => ?_)
              have hP : va_P (dC, dI) vwCl (cw g h (s_reas u (upd (k_reas u) x1.toNatClampNeg ((k_reas u x1.toNatClampNeg) ||| ((1 : Int32) <<< (x2 &&& 31)))))) H := hP
              have hD : va_D A (cw g h (s_reas u (upd (k_reas u) x1.toNatClampNeg ((k_reas u x1.toNatClampNeg) ||| ((1 : Int32) <<< (x2 &&& 31)))))) := hD
              refine lv_aload_n hx hb dX4_block_74 rfl (lv_at hl 1 rfl) ?_
              refine va_get (D := (dC, dI)) (C := RX4) (T := TX4) (N := 9) (v := .ref (h 3)) hx hb hts (fi_X4 _) hown hK hP 0 (cw_at0 _ _ _) rfl 2 (by decide) (hts _ (List.mem_cons_of_mem _ wd_87)) (fun _ h9 => h9) rfl dX4_block_75 ?_
              refine lv_iload_n hx hb dX4_block_78 rfl (lv_at hl 2 rfl) ?_
              refine lv_bipush (v := 6) hx hb dX4_block_79 (by decide) ?_
              refine lv_iload_n hx hb dX4_block_81 rfl (lv_at hl 3 rfl) ?_
              have hFc := va_free (wc := cw g h (s_reas u (upd (k_reas u) x1.toNatClampNeg ((k_reas u x1.toNatClampNeg) ||| ((1 : Int32) <<< (x2 &&& 31)))))) hD hS hA [0, 1, 2, 3, 4, 5, 6, 7, 8, 9, 10, 11, 12, 13, 14, 15, 16, 17, 18, 19, 20, 21, 22, 23] rfl
              refine va_callv (va_runV (As := [.int x1, .int 6, .int x2]) (rest := []) ⟨hx, hb, hml, hown, hts⟩ (kX2_write l dC dI g h (s_reas u (upd (k_reas u) x1.toNatClampNeg ((k_reas u x1.toNatClampNeg) ||| ((1 : Int32) <<< (x2 &&& 31))))) _ x1 6 x2 (by show 0 ≤ (k_rwrit u).toInt ∧ (k_rwrit u).toInt < 400; omega)) (cwV 3 hts (gV wd_108 wd_109 wd_110 wd_105 wcX2_write) rfl rfl rfl (by decide +kernel) ⟨(Nat.le_of_ble_eq_true rfl), (Nat.le_of_ble_eq_true rfl)⟩) ⟨fun a U g mk q => by obtain ⟨q0, q1, qP, qK, qD⟩ := q; exact ⟨q0, q1, qP, va_K.moved (u := U) (U := U.calling g mk a) (Vm.Alike.refl U.vm) qK, qD⟩, va_recv hK hP (ci := 1) (q0 := 3) rfl (cw_at3 _ _ _), fun U hU hW => ⟨rfl, by rw [hU], by rw [hU]; exact hP, va_K.moved hW.alike hK, hD.weaken (fun _ _ _ _ => trivial)⟩⟩ rfl rfl hl.1 rfl (lv_room (Nat.le_of_ble_eq_true rfl)) dX4_block_82 ⟨(Nat.le_of_ble_eq_true rfl), (Nat.le_of_ble_eq_true rfl)⟩) hS (fun q _ h => hFc q h) hFc (fun u_19 t H locs ht hvm hw hB hz1 hk1 hS => ?_)
              obtain ⟨hP, hD⟩ := hB
              rw [ht] at hP
              have hD := hD.weaken (fun _ _ _ h => hFc _ h)
              have e_21 : u_19 = fX2_write (s_reas u (upd (k_reas u) x1.toNatClampNeg ((k_reas u x1.toNatClampNeg) ||| ((1 : Int32) <<< (x2 &&& 31))))) x1 6 x2 := hw
              clear hw
              refine lv_aload_n hx hb dX4_block_85 rfl (lv_at hl 1 rfl) ?_
              refine va_get (D := (dC, dI)) (C := RX4) (T := TX4) (N := 9) (v := .ref (h 1)) hx hb hts (fi_X4 _) hown hK hP 0 (cw_at0 _ _ _) rfl 0 (by decide) (hts _ (List.mem_cons_of_mem _ wd_11)) (fun _ h9 => h9) rfl dX4_block_86 ?_
              refine va_get (D := (dC, dI)) (C := RX1) (T := TX1) (N := 9) (v := .ref (h 13)) hx hb hts (fi_X1 _) hown hK hP 1 (cw_at1 _ _ _) rfl 5 (by decide) (hts _ (List.mem_cons_of_mem _ wd_122)) (fun _ h9 => h9) rfl dX4_block_89 ?_
              refine lv_iload_n hx hb dX4_block_92 rfl (lv_at hl 2 rfl) ?_
              refine va_iald (f := k_reas u_19) hx hb hK hP 13 0 (cw_at13 _ _ _) rfl (vp_in_iff.mpr (by omega)) dX4_block_93 ?_
              refine vp_callSi (W.runS (As := [.int (k_reas u_19 x1.toNatClampNeg)]) (rest := []) ⟨hx, hb, hml, hown, hts⟩ (kJ6_bitCount l dC dI (k_reas u_19 x1.toNatClampNeg)) (va_cwS 1 hts (gT wd_123 wd_124 wd_125 wcJ6_bitCount) rfl rfl rfl (by decide +kernel) ⟨(Nat.le_of_ble_eq_true rfl), (Nat.le_of_ble_eq_true rfl)⟩) ⟨fun a U g mk q => by obtain ⟨q0, qT⟩ := q; exact ⟨q0, qT⟩, fun U hU hW => ⟨rfl, trivial⟩⟩ rfl rfl hl.1 rfl (lv_room (Nat.le_of_ble_eq_true rfl)) dX4_block_94 ⟨(Nat.le_of_ble_eq_true rfl), (Nat.le_of_ble_eq_true rfl)⟩) (fun r_22 hw => ?_)
              subst hw
              exact vy_ret (W.iret (v := fJ6_bitCount (k_reas u_19 x1.toNatClampNeg)) hx hb hr (fun t ht hW => ⟨⟨(fJ6_bitCount (k_reas u_19 x1.toNatClampNeg)), u_19, rfl, (by subst e_21; unfold fX4_block; rw [if_pos c_1, if_pos c_4, if_neg c_7, if_pos c_11, if_pos c_17]), by rw [ht]; exact hP, hD⟩, hS.F ht⟩) hS.2.2 dX4_block_97)
set_option maxHeartbeats 4000000 in
set_option maxRecDepth 100000 in
theorem kX4_release (l : Launch) (hl9 : l.stackTraces = false) (dC : Nat → ClassId) (dI : Nat → Nat → Nat) (g : cG) (h : Nat → Nat) (u : cS) (sz : Nat) (x1 : Int32) (x2 : Int32) (hI : cInv u) : vy_Met l yX4_release wsX4_release ({ frames := 7, cells := 1, slots := 6, locals := 104 }) (va_Pc [.ref (h 0), .int x1, .int x2] (fun U => U.heap.size = sz ∧ va_P (dC, dI) vwCl (cw g h u) U.heap ∧ va_K (dC, dI) vwCl (cTys g) U ∧ va_D (fun _ => True) (cw g h u) ∧ zz (va_A (cw g h u) sz) U U.heap)) (va_Qi (fun (r : Int32) u2 => fX4_release u x1 x2 = (0, r, u2)) (fun (u2 : cS) (t : State) => va_P (dC, dI) vwCl (cw g h u2) t.heap ∧ va_D (va_A (cw g h u) sz) (cw g h u2)) (va_A (cw g h u) sz)) (vx_X (fun _ => True) (fun E (u2 : cS) t => (∃ k : Nat, fX4_release u x1 x2 = (k, 0, u2) ∧ ex_is k E) ∧ va_P (dC, dI) vwCl (cw g h u2) t.heap ∧ va_D (va_A (cw g h u) sz) (cw g h u2)) (va_A (cw g h u) sz)) 0 0 1 6 (va_A (cw g h u) sz) := by
  refine vy_ofW (cc := cX4_release) (maxL := 4) (ret := (some .int)) (by decide) rfl ?_
  intro p e s m args below meth c s₁ B hml hxt hv
  obtain ⟨rfl, hsz, hP, hK, hD0, hZ⟩ := hv
  have hx := B.exec
  have hb := B.bytes
  have hr := B.returns
  have hts := atoms_spec (ws := wsX4_release) B.pre
  have hown : s.vm.findClass RX4 = some m.cls := findClass_of_methodNamed B.named
  have hlocks := B.notSynchronized
  subst hsz
  have hD := hD0.self (sz := s.heap.size)
  generalize hAe : va_A (cw g h u) s.heap.size = A at hD hZ ⊢
  have hA : ∀ q : Nat, s.heap.size ≤ q → A q := fun q h => by rw [← hAe]; exact Or.inr h
  have hS : va_S A s.heap s.heap [] := va_S.rf
  have hl := lv_entry ([.ref (h 0), .int x1, .int x2]) (n := 4) (Nat.le_of_ble_eq_true rfl)
  rw [lg_entry_eq]
  generalize (lg_sl ([.ref (h 0), .int x1, .int x2]) ++ List.replicate (4 - (lg_sl ([.ref (h 0), .int x1, .int x2])).length) Slot.unset).toArray = ls at hl ⊢
  have hl : lv_has ls 4 [(0, .ref (h 0)), (1, .int x1), (2, .int x2)] := hl
  obtain ⟨hI1, hI2, hI3, hI4, hI5, hI6⟩ := id hI
  have z_0 : (0 : Int32).toInt = 0 := by decide
  have z_1 : (7 : Int32).toInt = 7 := by decide
  refine lv_aload_n hx hb dX4_release_0 rfl (lv_at hl 0 rfl) ?_
  refine lv_iload_n hx hb dX4_release_1 rfl (lv_at hl 1 rfl) ?_
  refine vy_callv (vy_runV (As := [.int x1]) (rest := []) ⟨hx, hb, hml, hown, hts⟩ (kX4_requireLot l hl9 dC dI g h u _ x1) (cwV 1 hts (gV wd_114 wd_115 wd_116 wd_92 wcX4_requireLot) rfl rfl rfl (by decide +kernel) ⟨(Nat.le_of_ble_eq_true rfl), (Nat.le_of_ble_eq_true rfl)⟩) ⟨fun a U g mk q => by obtain ⟨q0, q1, qP, qK, qZ⟩ := q; exact ⟨q0, q1, qP, va_K.moved (u := U) (U := U.calling g mk a) (Vm.Alike.refl U.vm) qK, zz_same (u := U) (H := U.heap) rfl rfl qZ⟩, va_recv hK hP (ci := 3) (q0 := 0) rfl (cw_at0 _ _ _), fun U hU hW => ⟨rfl, hU, by rw [hU]; exact hP, va_K.moved hW.alike hK, by rw [hU]; exact zz_to hZ hS (fun q h => hA q (Nat.le_trans hS.1 h)) hW⟩⟩ rfl rfl hl.1 rfl (lv_room (Nat.le_of_ble_eq_true rfl)) dX4_release_2 ⟨(Nat.le_of_ble_eq_true rfl), (Nat.le_of_ble_eq_true rfl)⟩) hS (fun q h1 h2 => absurd h2 (Nat.not_le.mpr h1)) (fun q h => hA q (Nat.le_trans hS.1 h)) (fun q h1 h2 => absurd h2 (Nat.not_le.mpr h1)) (fun E ce q9 _ t H1 locs1 ht hvm hw hB hz1 hk1 hS hce hcv hcl => ?_) (fun _ t H1 locs1 ht hvm hw hB hz1 hk1 hS => ?_)
  · skip
    have c_1 : ¬ fX4_requireLot u x1 = 0 := by rw [hw]; decide
    subst hB
    have hP := hP.kept (fun k q hq => hk1 q.1 (hP k q hq).lt (Nat.not_le.mpr (hP k q hq).lt))
    exact vy_out (vx_out (fun x hx => (hxt x hx).elim) hlocks hce hcv hcl (fun t ht ha => ⟨u, trivial, ⟨⟨1, (by unfold fX4_release; rw [if_neg c_1]), rfl⟩, by rw [ht]; exact hP, hD⟩, hS.F ht⟩) hS.2.2 (Nat.le_of_ble_eq_true rfl) (Nat.le_of_ble_eq_true rfl))
  · skip
    have hH1 : H1 = _ := ht.symm.trans hB
    subst hH1
    have c_1 : fX4_requireLot u x1 = 0 := hw
    have t_2 := rl_lo c_1
    have t_3 := rl_hi c_1
    refine lv_iload_n hx hb dX4_release_5 rfl (lv_at hl 2 rfl) ?_
    refine lv_iconst (v := 0) hx hb dX4_release_6 (by decide) ?_
    refine lv_bipush (v := 7) hx hb dX4_release_7 (by decide) ?_
    refine vy_callv (vy_runS (As := [.int x2, .int 0, .int 7]) (rest := []) ⟨hx, hb, hml, hown, hts⟩ (kX4_requireRange l hl9 dC dI _ x2 0 7) (cwS 3 hts (gS wd_90 wd_91 wd_92 wcX4_requireRange) rfl rfl rfl (by decide +kernel) ⟨(Nat.le_of_ble_eq_true rfl), (Nat.le_of_ble_eq_true rfl)⟩) ⟨fun a U g mk q => by obtain ⟨q0, q1, qZ⟩ := q; exact ⟨q0, q1, zz_same (u := U) (H := U.heap) rfl rfl qZ⟩, fun U hU hW => ⟨rfl, hU, by rw [hU]; exact zz_to hZ hS (fun q h => hA q (Nat.le_trans hS.1 h)) hW⟩⟩ rfl rfl hl.1 rfl (lv_room (Nat.le_of_ble_eq_true rfl)) dX4_release_9 ⟨(Nat.le_of_ble_eq_true rfl), (Nat.le_of_ble_eq_true rfl)⟩) hS (fun q h1 h2 => absurd h2 (Nat.not_le.mpr h1)) (fun q h => hA q (Nat.le_trans hS.1 h)) (fun q h1 h2 => absurd h2 (Nat.not_le.mpr h1)) (fun E ce q9 _ t H1 locs1 ht hvm hw hB hz1 hk1 hS hce hcv hcl => ?_) (fun _ t H1 locs1 ht hvm hw hB hz1 hk1 hS => ?_)
    · skip
      have c_4 : ¬ fX4_requireRange x2 0 7 = 0 := by rw [hw]; decide
      subst hB
      have hP := hP.kept (fun k q hq => hk1 q.1 (hP k q hq).lt (Nat.not_le.mpr (hP k q hq).lt))
      exact vy_out (vx_out (fun x hx => (hxt x hx).elim) hlocks hce hcv hcl (fun t ht ha => ⟨u, trivial, ⟨⟨2, (by unfold fX4_release; rw [if_pos c_1, if_neg c_4]), rfl⟩, by rw [ht]; exact hP, hD⟩, hS.F ht⟩) hS.2.2 (Nat.le_of_ble_eq_true rfl) (Nat.le_of_ble_eq_true rfl))
    · skip
      have hH1 : H1 = _ := ht.symm.trans hB
      subst hH1
      have c_4 : fX4_requireRange x2 0 7 = 0 := hw
      have t_5 := rr_lo c_4
      have t_6 := rr_hi c_4
      refine lv_aload_n hx hb dX4_release_12 rfl (lv_at hl 0 rfl) ?_
      refine va_get (D := (dC, dI)) (C := RX4) (T := TX4) (N := 9) (v := .ref (h 1)) hx hb hts (fi_X4 _) hown hK hP 0 (cw_at0 _ _ _) rfl 0 (by decide) (hts _ (List.mem_cons_of_mem _ wd_11)) (fun _ h9 => h9) rfl dX4_release_13 ?_
      refine va_get (D := (dC, dI)) (C := RX1) (T := TX1) (N := 9) (v := .ref (h 13)) hx hb hts (fi_X1 _) hown hK hP 1 (cw_at1 _ _ _) rfl 5 (by decide) (hts _ (List.mem_cons_of_mem _ wd_122)) (fun _ h9 => h9) rfl dX4_release_16 ?_
      refine lv_iload_n hx hb dX4_release_19 rfl (lv_at hl 1 rfl) ?_
      refine va_iald (f := k_reas u) hx hb hK hP 13 0 (cw_at13 _ _ _) rfl (vp_in_iff.mpr (by omega)) dX4_release_20 ?_
      refine lv_aload_n hx hb dX4_release_21 rfl (lv_at hl 0 rfl) ?_
      refine va_get (D := (dC, dI)) (C := RX4) (T := TX4) (N := 9) (v := .ref (h 7)) hx hb hts (fi_X4 _) hown hK hP 0 (cw_at0 _ _ _) rfl 6 (by decide) (hts _ (List.mem_cons_of_mem _ wd_113)) (fun _ h9 => h9) rfl dX4_release_22 ?_
      refine lv_iload_n hx hb dX4_release_25 rfl (lv_at hl 2 rfl) ?_
      refine va_iald (f := k_may u) hx hb hK hP 7 0 (cw_at7 _ _ _) rfl (vp_in_iff.mpr (by omega)) dX4_release_26 ?_
      refine lv_iand hx hb dX4_release_27 ?_
      refine lv_istore_n (lv' := [(3, .int ((k_reas u x1.toNatClampNeg) &&& (k_may u x2.toNatClampNeg))), (0, .ref (h 0)), (1, .int x1), (2, .int x2)]) hx hb dX4_release_28 rfl hl (by decide) rfl (fun ls hl => ?_)
      refine lv_aload_n hx hb dX4_release_29 rfl (lv_at hl 1 rfl) ?_
      refine va_get (D := (dC, dI)) (C := RX4) (T := TX4) (N := 9) (v := .ref (h 1)) hx hb hts (fi_X4 _) hown hK hP 0 (cw_at0 _ _ _) rfl 0 (by decide) (hts _ (List.mem_cons_of_mem _ wd_11)) (fun _ h9 => h9) rfl dX4_release_30 ?_
      refine va_get (D := (dC, dI)) (C := RX1) (T := TX1) (N := 9) (v := .ref (h 12)) hx hb hts (fi_X1 _) hown hK hP 1 (cw_at1 _ _ _) rfl 4 (by decide) (hts _ (List.mem_cons_of_mem _ wd_118)) (fun _ h9 => h9) rfl dX4_release_33 ?_
      refine lv_iload_n hx hb dX4_release_36 rfl (lv_at hl 2 rfl) ?_
      refine va_zald (f := k_open u) hx hb hK hP 12 1 (cw_at12 _ _ _) rfl (vp_in_iff.mpr (by omega)) dX4_release_37 ?_
      refine lv_if_eq (tgt := 49) hx hb dX4_release_38 (by decide) (fun c_7 => ?_) (fun c_7 => ?_)
      · skip
        have t_8 : (k_open u x1.toNatClampNeg).toInt = 0 := i_eq c_7 rfl (by decide)
        refine lv_iconst (v := 0) hx hb dX4_release_49 (by decide) ?_
        refine vy_callv (vy_runS (As := [.int 0]) (rest := []) ⟨hx, hb, hml, hown, hts⟩ (kX4_requireState l hl9 dC dI _ 0) (cwS 1 hts (gS wd_119 wd_120 wd_92 wcX4_requireState) rfl rfl rfl (by decide +kernel) ⟨(Nat.le_of_ble_eq_true rfl), (Nat.le_of_ble_eq_true rfl)⟩) ⟨fun a U g mk q => by obtain ⟨q0, q1, qZ⟩ := q; exact ⟨q0, q1, zz_same (u := U) (H := U.heap) rfl rfl qZ⟩, fun U hU hW => ⟨rfl, hU, by rw [hU]; exact zz_to hZ hS (fun q h => hA q (Nat.le_trans hS.1 h)) hW⟩⟩ rfl rfl hl.1 rfl (lv_room (Nat.le_of_ble_eq_true rfl)) dX4_release_50 ⟨(Nat.le_of_ble_eq_true rfl), (Nat.le_of_ble_eq_true rfl)⟩) hS (fun q h1 h2 => absurd h2 (Nat.not_le.mpr h1)) (fun q h => hA q (Nat.le_trans hS.1 h)) (fun q h1 h2 => absurd h2 (Nat.not_le.mpr h1)) (fun E ce q9 _ t H1 locs1 ht hvm hw hB hz1 hk1 hS hce hcv hcl => ?_) (fun _ t H1 locs1 ht hvm hw hB hz1 hk1 hS => ?_)
        · skip
          subst hB
          have hP := hP.kept (fun k q hq => hk1 q.1 (hP k q hq).lt (Nat.not_le.mpr (hP k q hq).lt))
          exact vy_out (vx_out (fun x hx => (hxt x hx).elim) hlocks hce hcv hcl (fun t ht ha => ⟨u, trivial, ⟨⟨3, (by unfold fX4_release; rw [if_pos c_1, if_pos c_4, if_pos c_7]), rfl⟩, by rw [ht]; exact hP, hD⟩, hS.F ht⟩) hS.2.2 (Nat.le_of_ble_eq_true rfl) (Nat.le_of_ble_eq_true rfl))
        · skip
          exact absurd hw (by decide)
      · skip
        have t_10 : (k_open u x1.toNatClampNeg).toInt ≠ 0 := i_ne c_7 rfl (by decide)
        refine lv_iload_n hx hb dX4_release_41 rfl (lv_at hl 0 rfl) ?_
        refine lv_if_eq (tgt := 49) hx hb dX4_release_42 (by decide) (fun c_11 => ?_) (fun c_11 => ?_)
        · skip
          have t_12 : ((k_reas u x1.toNatClampNeg) &&& (k_may u x2.toNatClampNeg)).toInt = 0 := i_eq c_11 rfl (by decide)
          refine lv_iconst (v := 0) hx hb dX4_release_49 (by decide) ?_
          refine vy_callv (vy_runS (As := [.int 0]) (rest := []) ⟨hx, hb, hml, hown, hts⟩ (kX4_requireState l hl9 dC dI _ 0) (cwS 1 hts (gS wd_119 wd_120 wd_92 wcX4_requireState) rfl rfl rfl (by decide +kernel) ⟨(Nat.le_of_ble_eq_true rfl), (Nat.le_of_ble_eq_true rfl)⟩) ⟨fun a U g mk q => by obtain ⟨q0, q1, qZ⟩ := q; exact ⟨q0, q1, zz_same (u := U) (H := U.heap) rfl rfl qZ⟩, fun U hU hW => ⟨rfl, hU, by rw [hU]; exact zz_to hZ hS (fun q h => hA q (Nat.le_trans hS.1 h)) hW⟩⟩ rfl rfl hl.1 rfl (lv_room (Nat.le_of_ble_eq_true rfl)) dX4_release_50 ⟨(Nat.le_of_ble_eq_true rfl), (Nat.le_of_ble_eq_true rfl)⟩) hS (fun q h1 h2 => absurd h2 (Nat.not_le.mpr h1)) (fun q h => hA q (Nat.le_trans hS.1 h)) (fun q h1 h2 => absurd h2 (Nat.not_le.mpr h1)) (fun E ce q9 _ t H1 locs1 ht hvm hw hB hz1 hk1 hS hce hcv hcl => ?_) (fun _ t H1 locs1 ht hvm hw hB hz1 hk1 hS => ?_)
          · skip
            subst hB
            have hP := hP.kept (fun k q hq => hk1 q.1 (hP k q hq).lt (Nat.not_le.mpr (hP k q hq).lt))
            exact vy_out (vx_out (fun x hx => (hxt x hx).elim) hlocks hce hcv hcl (fun t ht ha => ⟨u, trivial, ⟨⟨3, (by unfold fX4_release; rw [if_pos c_1, if_pos c_4, if_neg c_7, if_pos c_11]), rfl⟩, by rw [ht]; exact hP, hD⟩, hS.F ht⟩) hS.2.2 (Nat.le_of_ble_eq_true rfl) (Nat.le_of_ble_eq_true rfl))
          · skip
            exact absurd hw (by decide)
        · skip
          have t_14 : ((k_reas u x1.toNatClampNeg) &&& (k_may u x2.toNatClampNeg)).toInt ≠ 0 := i_ne c_11 rfl (by decide)
          refine lv_iconst (v := 1) hx hb dX4_release_45 (by decide) ?_
          refine lv_goto (tgt := 50) hx hb dX4_release_46 (by decide) ?_
          refine vy_callv (vy_runS (As := [.int 1]) (rest := []) ⟨hx, hb, hml, hown, hts⟩ (kX4_requireState l hl9 dC dI _ 1) (cwS 1 hts (gS wd_119 wd_120 wd_92 wcX4_requireState) rfl rfl rfl (by decide +kernel) ⟨(Nat.le_of_ble_eq_true rfl), (Nat.le_of_ble_eq_true rfl)⟩) ⟨fun a U g mk q => by obtain ⟨q0, q1, qZ⟩ := q; exact ⟨q0, q1, zz_same (u := U) (H := U.heap) rfl rfl qZ⟩, fun U hU hW => ⟨rfl, hU, by rw [hU]; exact zz_to hZ hS (fun q h => hA q (Nat.le_trans hS.1 h)) hW⟩⟩ rfl rfl hl.1 rfl (lv_room (Nat.le_of_ble_eq_true rfl)) dX4_release_50 ⟨(Nat.le_of_ble_eq_true rfl), (Nat.le_of_ble_eq_true rfl)⟩) hS (fun q h1 h2 => absurd h2 (Nat.not_le.mpr h1)) (fun q h => hA q (Nat.le_trans hS.1 h)) (fun q h1 h2 => absurd h2 (Nat.not_le.mpr h1)) (fun E ce q9 _ t H1 locs1 ht hvm hw hB hz1 hk1 hS hce hcv hcl => ?_) (fun _ t H1 locs1 ht hvm hw hB hz1 hk1 hS => ?_)
          · skip
            exact absurd hw (by decide)
          · skip
            have hH1 : H1 = _ := ht.symm.trans hB
            subst hH1
            refine lv_aload_n hx hb dX4_release_53 rfl (lv_at hl 1 rfl) ?_
            refine va_get (D := (dC, dI)) (C := RX4) (T := TX4) (N := 9) (v := .ref (h 3)) hx hb hts (fi_X4 _) hown hK hP 0 (cw_at0 _ _ _) rfl 2 (by decide) (hts _ (List.mem_cons_of_mem _ wd_87)) (fun _ h9 => h9) rfl dX4_release_54 ?_
            refine lv_iconst (v := 1) hx hb dX4_release_57 (by decide) ?_
            refine vp_callSi (W.runV (As := [.int 1]) (rest := []) ⟨hx, hb, hml, hown, hts⟩ (kX2_haveRoomFor l dC dI g h u 1) (cwV 1 hts (gV wd_102 wd_103 wd_104 wd_105 wcX2_haveRoomFor) rfl rfl rfl (by decide +kernel) ⟨(Nat.le_of_ble_eq_true rfl), (Nat.le_of_ble_eq_true rfl)⟩) ⟨fun a U g mk q => by obtain ⟨q0, qP, qK⟩ := q; exact ⟨q0, qP, va_K.moved (u := U) (U := U.calling g mk a) (Vm.Alike.refl U.vm) qK⟩, va_recv hK hP (ci := 1) (q0 := 3) rfl (cw_at3 _ _ _), fun U hU hW => ⟨rfl, by rw [hU]; exact hP, va_K.moved hW.alike hK⟩⟩ rfl rfl hl.1 rfl (lv_room (Nat.le_of_ble_eq_true rfl)) dX4_release_58 ⟨(Nat.le_of_ble_eq_true rfl), (Nat.le_of_ble_eq_true rfl)⟩) (fun r_16 hw => ?_)
            subst hw
            refine vy_callv (vy_runS (As := [.int (fX2_haveRoomFor u 1)]) (rest := []) ⟨hx, hb, hml, hown, hts⟩ (kX4_requireRoom l hl9 dC dI _ (fX2_haveRoomFor u 1)) (cwS 1 hts (gS wd_99 wd_100 wd_92 wcX4_requireRoom) rfl rfl rfl (by decide +kernel) ⟨(Nat.le_of_ble_eq_true rfl), (Nat.le_of_ble_eq_true rfl)⟩) ⟨fun a U g mk q => by obtain ⟨q0, q1, qZ⟩ := q; exact ⟨q0, q1, zz_same (u := U) (H := U.heap) rfl rfl qZ⟩, fun U hU hW => ⟨rfl, hU, by rw [hU]; exact zz_to hZ hS (fun q h => hA q (Nat.le_trans hS.1 h)) hW⟩⟩ rfl rfl hl.1 rfl (lv_room (Nat.le_of_ble_eq_true rfl)) dX4_release_61 ⟨(Nat.le_of_ble_eq_true rfl), (Nat.le_of_ble_eq_true rfl)⟩) hS (fun q h1 h2 => absurd h2 (Nat.not_le.mpr h1)) (fun q h => hA q (Nat.le_trans hS.1 h)) (fun q h1 h2 => absurd h2 (Nat.not_le.mpr h1)) (fun E ce q9 _ t H1 locs1 ht hvm hw hB hz1 hk1 hS hce hcv hcl => ?_) (fun _ t H1 locs1 ht hvm hw hB hz1 hk1 hS => ?_)
            · skip
              have c_17 : ¬ fX4_requireRoom (fX2_haveRoomFor u 1) = 0 := by rw [hw]; decide
              subst hB
              have hP := hP.kept (fun k q hq => hk1 q.1 (hP k q hq).lt (Nat.not_le.mpr (hP k q hq).lt))
              exact vy_out (vx_out (fun x hx => (hxt x hx).elim) hlocks hce hcv hcl (fun t ht ha => ⟨u, trivial, ⟨⟨4, (by unfold fX4_release; rw [if_pos c_1, if_pos c_4, if_neg c_7, if_neg c_11, if_neg c_17]), rfl⟩, by rw [ht]; exact hP, hD⟩, hS.F ht⟩) hS.2.2 (Nat.le_of_ble_eq_true rfl) (Nat.le_of_ble_eq_true rfl))
            · skip
              have hH1 : H1 = _ := ht.symm.trans hB
              subst hH1
              have c_17 : fX4_requireRoom (fX2_haveRoomFor u 1) = 0 := hw
              have t_18 := hr_roomq1 c_17 hI3
              refine lv_aload_n hx hb dX4_release_64 rfl (lv_at hl 1 rfl) ?_
              refine va_get (D := (dC, dI)) (C := RX4) (T := TX4) (N := 9) (v := .ref (h 1)) hx hb hts (fi_X4 _) hown hK hP 0 (cw_at0 _ _ _) rfl 0 (by decide) (hts _ (List.mem_cons_of_mem _ wd_11)) (fun _ h9 => h9) rfl dX4_release_65 ?_
              refine va_get (D := (dC, dI)) (C := RX1) (T := TX1) (N := 9) (v := .ref (h 13)) hx hb hts (fi_X1 _) hown hK hP 1 (cw_at1 _ _ _) rfl 5 (by decide) (hts _ (List.mem_cons_of_mem _ wd_122)) (fun _ h9 => h9) rfl dX4_release_68 ?_
              refine lv_iload_n hx hb dX4_release_71 rfl (lv_at hl 2 rfl) ?_
              refine lv_dup2_11 hx hb dX4_release_72 rfl rfl ?_
              refine va_iald (f := k_reas u) hx hb hK hP 13 0 (cw_at13 _ _ _) rfl (vp_in_iff.mpr (by omega)) dX4_release_73 ?_
              refine lv_iload_n hx hb dX4_release_74 rfl (lv_at hl 0 rfl) ?_
              refine lv_iconst (v := (-1)) hx hb dX4_release_75 (by decide) ?_
              refine lv_ixor hx hb dX4_release_76 ?_
              refine lv_iand hx hb dX4_release_77 ?_
              refine va_iast (f := k_reas u) hx hb hK hP hD hS 13 0 (cw_at13 _ _ _) rfl (vp_in_iff.mpr (by omega)) dX4_release_78 (fun H locs hP hD hS => ?_)
              have hP : va_P (dC, dI) vwCl (cw g h (s_reas u (upd (k_reas u) x1.toNatClampNeg ((k_reas u x1.toNatClampNeg) &&& (((k_reas u x1.toNatClampNeg) &&& (k_may u x2.toNatClampNeg)) ^^^ (-1)))))) H := hP
              have hD : va_D A (cw g h (s_reas u (upd (k_reas u) x1.toNatClampNeg ((k_reas u x1.toNatClampNeg) &&& (((k_reas u x1.toNatClampNeg) &&& (k_may u x2.toNatClampNeg)) ^^^ (-1)))))) := hD
              refine lv_aload_n hx hb dX4_release_79 rfl (lv_at hl 1 rfl) ?_
              refine va_get (D := (dC, dI)) (C := RX4) (T := TX4) (N := 9) (v := .ref (h 3)) hx hb hts (fi_X4 _) hown hK hP 0 (cw_at0 _ _ _) rfl 2 (by decide) (hts _ (List.mem_cons_of_mem _ wd_87)) (fun _ h9 => h9) rfl dX4_release_80 ?_
              refine lv_iload_n hx hb dX4_release_83 rfl (lv_at hl 2 rfl) ?_
              refine lv_bipush (v := 7) hx hb dX4_release_84 (by decide) ?_
              refine lv_iload_n hx hb dX4_release_86 rfl (lv_at hl 3 rfl) ?_
              have hFc := va_free (wc := cw g h (s_reas u (upd (k_reas u) x1.toNatClampNeg ((k_reas u x1.toNatClampNeg) &&& (((k_reas u x1.toNatClampNeg) &&& (k_may u x2.toNatClampNeg)) ^^^ (-1)))))) hD hS hA [0, 1, 2, 3, 4, 5, 6, 7, 8, 9, 10, 11, 12, 13, 14, 15, 16, 17, 18, 19, 20, 21, 22, 23] rfl
              refine va_callv (va_runV (As := [.int x1, .int 7, .int x2]) (rest := []) ⟨hx, hb, hml, hown, hts⟩ (kX2_write l dC dI g h (s_reas u (upd (k_reas u) x1.toNatClampNeg ((k_reas u x1.toNatClampNeg) &&& (((k_reas u x1.toNatClampNeg) &&& (k_may u x2.toNatClampNeg)) ^^^ (-1))))) _ x1 7 x2 (by show 0 ≤ (k_rwrit u).toInt ∧ (k_rwrit u).toInt < 400; omega)) (cwV 3 hts (gV wd_108 wd_109 wd_110 wd_105 wcX2_write) rfl rfl rfl (by decide +kernel) ⟨(Nat.le_of_ble_eq_true rfl), (Nat.le_of_ble_eq_true rfl)⟩) ⟨fun a U g mk q => by obtain ⟨q0, q1, qP, qK, qD⟩ := q; exact ⟨q0, q1, qP, va_K.moved (u := U) (U := U.calling g mk a) (Vm.Alike.refl U.vm) qK, qD⟩, va_recv hK hP (ci := 1) (q0 := 3) rfl (cw_at3 _ _ _), fun U hU hW => ⟨rfl, by rw [hU], by rw [hU]; exact hP, va_K.moved hW.alike hK, hD.weaken (fun _ _ _ _ => trivial)⟩⟩ rfl rfl hl.1 rfl (lv_room (Nat.le_of_ble_eq_true rfl)) dX4_release_87 ⟨(Nat.le_of_ble_eq_true rfl), (Nat.le_of_ble_eq_true rfl)⟩) hS (fun q _ h => hFc q h) hFc (fun u_19 t H locs ht hvm hw hB hz1 hk1 hS => ?_)
              obtain ⟨hP, hD⟩ := hB
              rw [ht] at hP
              have hD := hD.weaken (fun _ _ _ h => hFc _ h)
              have e_21 : u_19 = fX2_write (s_reas u (upd (k_reas u) x1.toNatClampNeg ((k_reas u x1.toNatClampNeg) &&& (((k_reas u x1.toNatClampNeg) &&& (k_may u x2.toNatClampNeg)) ^^^ (-1))))) x1 7 x2 := hw
              clear hw
              refine lv_iload_n hx hb dX4_release_90 rfl (lv_at hl 0 rfl) ?_
              refine vp_callSi (W.runS (As := [.int ((k_reas u x1.toNatClampNeg) &&& (k_may u x2.toNatClampNeg))]) (rest := []) ⟨hx, hb, hml, hown, hts⟩ (kJ6_bitCount l dC dI ((k_reas u x1.toNatClampNeg) &&& (k_may u x2.toNatClampNeg))) (va_cwS 1 hts (gT wd_123 wd_124 wd_125 wcJ6_bitCount) rfl rfl rfl (by decide +kernel) ⟨(Nat.le_of_ble_eq_true rfl), (Nat.le_of_ble_eq_true rfl)⟩) ⟨fun a U g mk q => by obtain ⟨q0, qT⟩ := q; exact ⟨q0, qT⟩, fun U hU hW => ⟨rfl, trivial⟩⟩ rfl rfl hl.1 rfl (lv_room (Nat.le_of_ble_eq_true rfl)) dX4_release_91 ⟨(Nat.le_of_ble_eq_true rfl), (Nat.le_of_ble_eq_true rfl)⟩) (fun r_22 hw => ?_)
              subst hw
              exact vy_ret (W.iret (v := fJ6_bitCount ((k_reas u x1.toNatClampNeg) &&& (k_may u x2.toNatClampNeg))) hx hb hr (fun t ht hW => ⟨⟨(fJ6_bitCount ((k_reas u x1.toNatClampNeg) &&& (k_may u x2.toNatClampNeg))), u_19, rfl, (by subst e_21; unfold fX4_release; rw [if_pos c_1, if_pos c_4, if_neg c_7, if_neg c_11, if_pos c_17]), by rw [ht]; exact hP, hD⟩, hS.F ht⟩) hS.2.2 dX4_release_94)