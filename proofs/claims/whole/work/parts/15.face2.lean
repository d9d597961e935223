set_option maxHeartbeats 4000000 in
set_option maxRecDepth 100000 in
theorem kX4_quarantine (l : Launch) (hl9 : l.stackTraces = false) (dC : Nat → ClassId) (dI : Nat → Nat → Nat) (g : cG) (h : Nat → Nat) (u : cS) (sz : Nat) (x1 : Int32) (x2 : Int32) (hI : cInv u) : vy_Met l yX4_quarantine wsX4_quarantine ({ frames := 7, cells := 1, slots := 6, locals := 103 }) (va_Pc [.ref (h 0), .int x1, .int x2] (fun U => U.heap.size = sz ∧ va_P (dC, dI) vwCl (cw g h u) U.heap ∧ va_K (dC, dI) vwCl (cTys g) U ∧ va_D (fun _ => True) (cw g h u) ∧ zz (va_A (cw g h u) sz) U U.heap)) (va_Qv (fun u2 => fX4_quarantine u x1 x2 = (0, 0, u2)) (fun (u2 : cS) (t : State) => va_P (dC, dI) vwCl (cw g h u2) t.heap ∧ va_D (va_A (cw g h u) sz) (cw g h u2)) (va_A (cw g h u) sz)) (vx_X (fun _ => True) (fun E (u2 : cS) t => (∃ k : Nat, fX4_quarantine u x1 x2 = (k, 0, u2) ∧ ex_is k E) ∧ va_P (dC, dI) vwCl (cw g h u2) t.heap ∧ va_D (va_A (cw g h u) sz) (cw g h u2)) (va_A (cw g h u) sz)) 0 0 1 6 (va_A (cw g h u) sz) := by
  refine vy_ofW (cc := cX4_quarantine) (maxL := 3) (ret := none) (by decide) rfl ?_
  intro p e s m args below meth c s₁ B hml hxt hv
  obtain ⟨rfl, hsz, hP, hK, hD0, hZ⟩ := hv
  have hx := B.exec
  have hb := B.bytes
  have hr := B.returns
  have hts := atoms_spec (ws := wsX4_quarantine) B.pre
  have hown : s.vm.findClass RX4 = some m.cls := findClass_of_methodNamed B.named
  have hlocks := B.notSynchronized
  subst hsz
  have hD := hD0.self (sz := s.heap.size)
  generalize hAe : va_A (cw g h u) s.heap.size = A at hD hZ ⊢
  have hA : ∀ q : Nat, s.heap.size ≤ q → A q := fun q h => by rw [← hAe]; exact Or.inr h
  have hS : va_S A s.heap s.heap [] := va_S.rf
  have hl := lv_entry ([.ref (h 0), .int x1, .int x2]) (n := 3) (Nat.le_of_ble_eq_true rfl)
  rw [lg_entry_eq]
  generalize (lg_sl ([.ref (h 0), .int x1, .int x2]) ++ List.replicate (3 - (lg_sl ([.ref (h 0), .int x1, .int x2])).length) Slot.unset).toArray = ls at hl ⊢
  have hl : lv_has ls 3 [(0, .ref (h 0)), (1, .int x1), (2, .int x2)] := hl
  obtain ⟨hI1, hI2, hI3, hI4, hI5, hI6⟩ := id hI
  refine lv_aload_n hx hb dX4_quarantine_0 rfl (lv_at hl 0 rfl) ?_
  refine lv_iload_n hx hb dX4_quarantine_1 rfl (lv_at hl 1 rfl) ?_
  refine vy_callv (vy_runV (As := [.int x1]) (rest := []) ⟨hx, hb, hml, hown, hts⟩ (kX4_requireLot l hl9 dC dI g h u _ x1) (cwV 1 hts (gV wd_114 wd_115 wd_116 wd_92 wcX4_requireLot) rfl rfl rfl (by decide +kernel) ⟨(Nat.le_of_ble_eq_true rfl), (Nat.le_of_ble_eq_true rfl)⟩) ⟨fun a U g mk q => by obtain ⟨q0, q1, qP, qK, qZ⟩ := q; exact ⟨q0, q1, qP, va_K.moved (u := U) (U := U.calling g mk a) (Vm.Alike.refl U.vm) qK, zz_same (u := U) (H := U.heap) rfl rfl qZ⟩, va_recv hK hP (ci := 3) (q0 := 0) rfl (cw_at0 _ _ _), fun U hU hW => ⟨rfl, hU, by rw [hU]; exact hP, va_K.moved hW.alike hK, by rw [hU]; exact zz_to hZ hS (fun q h => hA q (Nat.le_trans hS.1 h)) hW⟩⟩ rfl rfl hl.1 rfl (lv_room (Nat.le_of_ble_eq_true rfl)) dX4_quarantine_2 ⟨(Nat.le_of_ble_eq_true rfl), (Nat.le_of_ble_eq_true rfl)⟩) hS (fun q h1 h2 => absurd h2 (Nat.not_le.mpr h1)) (fun q h => hA q (Nat.le_trans hS.1 h)) (fun q h1 h2 => absurd h2 (Nat.not_le.mpr h1)) (fun E ce q9 _ t H1 locs1 ht hvm hw hB hz1 hk1 hS hce hcv hcl => ?_) (fun _ t H1 locs1 ht hvm hw hB hz1 hk1 hS => ?_)
  · skip
    have c_1 : ¬ fX4_requireLot u x1 = 0 := by rw [hw]; decide
    subst hB
    have hP := hP.kept (fun k q hq => hk1 q.1 (hP k q hq).lt (Nat.not_le.mpr (hP k q hq).lt))
    exact vy_out (vx_out (fun x hx => (hxt x hx).elim) hlocks hce hcv hcl (fun t ht ha => ⟨u, trivial, ⟨⟨1, (by unfold fX4_quarantine; rw [if_neg c_1]), rfl⟩, by rw [ht]; exact hP, hD⟩, hS.F ht⟩) hS.2.2 (Nat.le_of_ble_eq_true rfl) (Nat.le_of_ble_eq_true rfl))
  · skip
    have hH1 : H1 = _ := ht.symm.trans hB
    subst hH1
    have c_1 : fX4_requireLot u x1 = 0 := hw
    have t_2 := rl_lo c_1
    have t_3 := rl_hi c_1
    refine lv_aload_n hx hb dX4_quarantine_5 rfl (lv_at hl 0 rfl) ?_
    refine va_get (D := (dC, dI)) (C := RX4) (T := TX4) (N := 9) (v := .ref (h 1)) hx hb hts (fi_X4 _) hown hK hP 0 (cw_at0 _ _ _) rfl 0 (by decide) (hts _ (List.mem_cons_of_mem _ wd_11)) (fun _ h9 => h9) rfl dX4_quarantine_6 ?_
    refine va_get (D := (dC, dI)) (C := RX1) (T := TX1) (N := 9) (v := .ref (h 12)) hx hb hts (fi_X1 _) hown hK hP 1 (cw_at1 _ _ _) rfl 4 (by decide) (hts _ (List.mem_cons_of_mem _ wd_118)) (fun _ h9 => h9) rfl dX4_quarantine_9 ?_
    refine lv_iload_n hx hb dX4_quarantine_12 rfl (lv_at hl 1 rfl) ?_
    refine va_zald (f := k_open u) hx hb hK hP 12 1 (cw_at12 _ _ _) rfl (vp_in_iff.mpr (by omega)) dX4_quarantine_13 ?_
    refine lv_if_eq (tgt := 34) hx hb dX4_quarantine_14 (by decide) (fun c_4 => ?_) (fun c_4 => ?_)
    · skip
      have t_5 : (k_open u x1.toNatClampNeg).toInt = 0 := i_eq c_4 rfl (by decide)
      refine lv_iconst (v := 0) hx hb dX4_quarantine_34 (by decide) ?_
      refine vy_callv (vy_runS (As := [.int 0]) (rest := []) ⟨hx, hb, hml, hown, hts⟩ (kX4_requireState l hl9 dC dI _ 0) (cwS 1 hts (gS wd_119 wd_120 wd_92 wcX4_requireState) rfl rfl rfl (by decide +kernel) ⟨(Nat.le_of_ble_eq_true rfl), (Nat.le_of_ble_eq_true rfl)⟩) ⟨fun a U g mk q => by obtain ⟨q0, q1, qZ⟩ := q; exact ⟨q0, q1, zz_same (u := U) (H := U.heap) rfl rfl qZ⟩, fun U hU hW => ⟨rfl, hU, by rw [hU]; exact zz_to hZ hS (fun q h => hA q (Nat.le_trans hS.1 h)) hW⟩⟩ rfl rfl hl.1 rfl (lv_room (Nat.le_of_ble_eq_true rfl)) dX4_quarantine_35 ⟨(Nat.le_of_ble_eq_true rfl), (Nat.le_of_ble_eq_true rfl)⟩) hS (fun q h1 h2 => absurd h2 (Nat.not_le.mpr h1)) (fun q h => hA q (Nat.le_trans hS.1 h)) (fun q h1 h2 => absurd h2 (Nat.not_le.mpr h1)) (fun E ce q9 _ t H1 locs1 ht hvm hw hB hz1 hk1 hS hce hcv hcl => ?_) (fun _ t H1 locs1 ht hvm hw hB hz1 hk1 hS => ?_)
      · skip
        subst hB
        have hP := hP.kept (fun k q hq => hk1 q.1 (hP k q hq).lt (Nat.not_le.mpr (hP k q hq).lt))
        exact vy_out (vx_out (fun x hx => (hxt x hx).elim) hlocks hce hcv hcl (fun t ht ha => ⟨u, trivial, ⟨⟨3, (by unfold fX4_quarantine; rw [if_pos c_1, if_pos c_4]), rfl⟩, by rw [ht]; exact hP, hD⟩, hS.F ht⟩) hS.2.2 (Nat.le_of_ble_eq_true rfl) (Nat.le_of_ble_eq_true rfl))
      · skip
        exact absurd hw (by decide)
    · skip
      have t_7 : (k_open u x1.toNatClampNeg).toInt ≠ 0 := i_ne c_4 rfl (by decide)
      refine lv_aload_n hx hb dX4_quarantine_17 rfl (lv_at hl 0 rfl) ?_
      refine va_get (D := (dC, dI)) (C := RX4) (T := TX4) (N := 9) (v := .ref (h 1)) hx hb hts (fi_X4 _) hown hK hP 0 (cw_at0 _ _ _) rfl 0 (by decide) (hts _ (List.mem_cons_of_mem _ wd_11)) (fun _ h9 => h9) rfl dX4_quarantine_18 ?_
      refine va_get (D := (dC, dI)) (C := RX1) (T := TX1) (N := 9) (v := .ref (h 14)) hx hb hts (fi_X1 _) hown hK hP 1 (cw_at1 _ _ _) rfl 6 (by decide) (hts _ (List.mem_cons_of_mem _ wd_127)) (fun _ h9 => h9) rfl dX4_quarantine_21 ?_
      refine lv_iload_n hx hb dX4_quarantine_24 rfl (lv_at hl 1 rfl) ?_
      refine va_zald (f := k_quar u) hx hb hK hP 14 1 (cw_at14 _ _ _) rfl (vp_in_iff.mpr (by omega)) dX4_quarantine_25 ?_
      refine lv_iload_n hx hb dX4_quarantine_26 rfl (lv_at hl 2 rfl) ?_
      refine lv_icmp_eq (tgt := 34) hx hb dX4_quarantine_27 (by decide) (fun c_8 => ?_) (fun c_8 => ?_)
      · skip
        have t_9 : (k_quar u x1.toNatClampNeg).toInt = x2.toInt := i_eq c_8 rfl rfl
        refine lv_iconst (v := 0) hx hb dX4_quarantine_34 (by decide) ?_
        refine vy_callv (vy_runS (As := [.int 0]) (rest := []) ⟨hx, hb, hml, hown, hts⟩ (kX4_requireState l hl9 dC dI _ 0) (cwS 1 hts (gS wd_119 wd_120 wd_92 wcX4_requireState) rfl rfl rfl (by decide +kernel) ⟨(Nat.le_of_ble_eq_true rfl), (Nat.le_of_ble_eq_true rfl)⟩) ⟨fun a U g mk q => by obtain ⟨q0, q1, qZ⟩ := q; exact ⟨q0, q1, zz_same (u := U) (H := U.heap) rfl rfl qZ⟩, fun U hU hW => ⟨rfl, hU, by rw [hU]; exact zz_to hZ hS (fun q h => hA q (Nat.le_trans hS.1 h)) hW⟩⟩ rfl rfl hl.1 rfl (lv_room (Nat.le_of_ble_eq_true rfl)) dX4_quarantine_35 ⟨(Nat.le_of_ble_eq_true rfl), (Nat.le_of_ble_eq_true rfl)⟩) hS (fun q h1 h2 => absurd h2 (Nat.not_le.mpr h1)) (fun q h => hA q (Nat.le_trans hS.1 h)) (fun q h1 h2 => absurd h2 (Nat.not_le.mpr h1)) (fun E ce q9 _ t H1 locs1 ht hvm hw hB hz1 hk1 hS hce hcv hcl => ?_) (fun _ t H1 locs1 ht hvm hw hB hz1 hk1 hS => ?_)
        · skip
          subst hB
          have hP := hP.kept (fun k q hq => hk1 q.1 (hP k q hq).lt (Nat.not_le.mpr (hP k q hq).lt))
          exact vy_out (vx_out (fun x hx => (hxt x hx).elim) hlocks hce hcv hcl (fun t ht ha => ⟨u, trivial, ⟨⟨3, (by unfold fX4_quarantine; rw [if_pos c_1, if_neg c_4, if_pos c_8]), rfl⟩, by rw [ht]; exact hP, hD⟩, hS.F ht⟩) hS.2.2 (Nat.le_of_ble_eq_true rfl) (Nat.le_of_ble_eq_true rfl))
        · skip
          exact absurd hw (by decide)
      · skip
        have t_11 : (k_quar u x1.toNatClampNeg).toInt ≠ x2.toInt := i_ne c_8 rfl rfl
        refine lv_iconst (v := 1) hx hb dX4_quarantine_30 (by decide) ?_
        refine lv_goto (tgt := 35) hx hb dX4_quarantine_31 (by decide) ?_
        refine vy_callv (vy_runS (As := [.int 1]) (rest := []) ⟨hx, hb, hml, hown, hts⟩ (kX4_requireState l hl9 dC dI _ 1) (cwS 1 hts (gS wd_119 wd_120 wd_92 wcX4_requireState) rfl rfl rfl (by decide +kernel) ⟨(Nat.le_of_ble_eq_true rfl), (Nat.le_of_ble_eq_true rfl)⟩) ⟨fun a U g mk q => by obtain ⟨q0, q1, qZ⟩ := q; exact ⟨q0, q1, zz_same (u := U) (H := U.heap) rfl rfl qZ⟩, fun U hU hW => ⟨rfl, hU, by rw [hU]; exact zz_to hZ hS (fun q h => hA q (Nat.le_trans hS.1 h)) hW⟩⟩ rfl rfl hl.1 rfl (lv_room (Nat.le_of_ble_eq_true rfl)) dX4_quarantine_35 ⟨(Nat.le_of_ble_eq_true rfl), (Nat.le_of_ble_eq_true rfl)⟩) hS (fun q h1 h2 => absurd h2 (Nat.not_le.mpr h1)) (fun q h => hA q (Nat.le_trans hS.1 h)) (fun q h1 h2 => absurd h2 (Nat.not_le.mpr h1)) (fun E ce q9 _ t H1 locs1 ht hvm hw hB hz1 hk1 hS hce hcv hcl => ?_) (fun _ t H1 locs1 ht hvm hw hB hz1 hk1 hS => ?_)
        · skip
          exact absurd hw (by decide)
        · skip
          have hH1 : H1 = _ := ht.symm.trans hB
          subst hH1
          refine lv_aload_n hx hb dX4_quarantine_38 rfl (lv_at hl 0 rfl) ?_
          refine va_get (D := (dC, dI)) (C := RX4) (T := TX4) (N := 9) (v := .ref (h 3)) hx hb hts (fi_X4 _) hown hK hP 0 (cw_at0 _ _ _) rfl 2 (by decide) (hts _ (List.mem_cons_of_mem _ wd_87)) (fun _ h9 => h9) rfl dX4_quarantine_39 ?_
          refine lv_iconst (v := 1) hx hb dX4_quarantine_42 (by decide) ?_
          refine vp_callSi (W.runV (As := [.int 1]) (rest := []) ⟨hx, hb, hml, hown, hts⟩ (kX2_haveRoomFor l dC dI g h u 1) (cwV 1 hts (gV wd_102 wd_103 wd_104 wd_105 wcX2_haveRoomFor) rfl rfl rfl (by decide +kernel) ⟨(Nat.le_of_ble_eq_true rfl), (Nat.le_of_ble_eq_true rfl)⟩) ⟨fun a U g mk q => by obtain ⟨q0, qP, qK⟩ := q; exact ⟨q0, qP, va_K.moved (u := U) (U := U.calling g mk a) (Vm.Alike.refl U.vm) qK⟩, va_recv hK hP (ci := 1) (q0 := 3) rfl (cw_at3 _ _ _), fun U hU hW => ⟨rfl, by rw [hU]; exact hP, va_K.moved hW.alike hK⟩⟩ rfl rfl hl.1 rfl (lv_room (Nat.le_of_ble_eq_true rfl)) dX4_quarantine_43 ⟨(Nat.le_of_ble_eq_true rfl), (Nat.le_of_ble_eq_true rfl)⟩) (fun r_13 hw => ?_)
          subst hw
          refine vy_callv (vy_runS (As := [.int (fX2_haveRoomFor u 1)]) (rest := []) ⟨hx, hb, hml, hown, hts⟩ (kX4_requireRoom l hl9 dC dI _ (fX2_haveRoomFor u 1)) (cwS 1 hts (gS wd_99 wd_100 wd_92 wcX4_requireRoom) rfl rfl rfl (by decide +kernel) ⟨(Nat.le_of_ble_eq_true rfl), (Nat.le_of_ble_eq_true rfl)⟩) ⟨fun a U g mk q => by obtain ⟨q0, q1, qZ⟩ := q; exact ⟨q0, q1, zz_same (u := U) (H := U.heap) rfl rfl qZ⟩, fun U hU hW => ⟨rfl, hU, by rw [hU]; exact zz_to hZ hS (fun q h => hA q (Nat.le_trans hS.1 h)) hW⟩⟩ rfl rfl hl.1 rfl (lv_room (Nat.le_of_ble_eq_true rfl)) dX4_quarantine_46 ⟨(Nat.le_of_ble_eq_true rfl), (Nat.le_of_ble_eq_true rfl)⟩) hS (fun q h1 h2 => absurd h2 (Nat.not_le.mpr h1)) (fun q h => hA q (Nat.le_trans hS.1 h)) (fun q h1 h2 => absurd h2 (Nat.not_le.mpr h1)) (fun E ce q9 _ t H1 locs1 ht hvm hw hB hz1 hk1 hS hce hcv hcl => ?_) (fun _ t H1 locs1 ht hvm hw hB hz1 hk1 hS => ?_)
          · skip
            have c_14 : ¬ fX4_requireRoom (fX2_haveRoomFor u 1) = 0 := by rw [hw]; decide
            subst hB
            have hP := hP.kept (fun k q hq => hk1 q.1 (hP k q hq).lt (Nat.not_le.mpr (hP k q hq).lt))
            exact vy_out (vx_out (fun x hx => (hxt x hx).elim) hlocks hce hcv hcl (fun t ht ha => ⟨u, trivial, ⟨⟨4, (by unfold fX4_quarantine; rw [if_pos c_1, if_neg c_4, if_neg c_8, if_neg c_14]), rfl⟩, by rw [ht]; exact hP, hD⟩, hS.F ht⟩) hS.2.2 (Nat.le_of_ble_eq_true rfl) (Nat.le_of_ble_eq_true rfl))
          · skip
            have hH1 : H1 = _ := ht.symm.trans hB
            subst hH1
            have c_14 : fX4_requireRoom (fX2_haveRoomFor u 1) = 0 := hw
            have t_15 := hr_roomq1 c_14 hI3
            refine lv_aload_n hx hb dX4_quarantine_49 rfl (lv_at hl 0 rfl) ?_
            refine va_get (D := (dC, dI)) (C := RX4) (T := TX4) (N := 9) (v := .ref (h 1)) hx hb hts (fi_X4 _) hown hK hP 0 (cw_at0 _ _ _) rfl 0 (by decide) (hts _ (List.mem_cons_of_mem _ wd_11)) (fun _ h9 => h9) rfl dX4_quarantine_50 ?_
            refine va_get (D := (dC, dI)) (C := RX1) (T := TX1) (N := 9) (v := .ref (h 14)) hx hb hts (fi_X1 _) hown hK hP 1 (cw_at1 _ _ _) rfl 6 (by decide) (hts _ (List.mem_cons_of_mem _ wd_127)) (fun _ h9 => h9) rfl dX4_quarantine_53 ?_
            refine lv_iload_n hx hb dX4_quarantine_56 rfl (lv_at hl 1 rfl) ?_
            refine lv_iload_n hx hb dX4_quarantine_57 rfl (lv_at hl 2 rfl) ?_
            refine va_zast (f := k_quar u) hx hb hK hP hD hS 14 1 (cw_at14 _ _ _) rfl (vp_in_iff.mpr (by omega)) dX4_quarantine_58 (fun H locs hP hD hS => ?_)
            have hP : va_P (dC, dI) vwCl (cw g h (s_quar u (upd (k_quar u) x1.toNatClampNeg (vp_nar .boolean x2)))) H := hP
            have hD : va_D A (cw g h (s_quar u (upd (k_quar u) x1.toNatClampNeg (vp_nar .boolean x2)))) := hD
            refine lv_aload_n hx hb dX4_quarantine_59 rfl (lv_at hl 0 rfl) ?_
            refine va_get (D := (dC, dI)) (C := RX4) (T := TX4) (N := 9) (v := .ref (h 3)) hx hb hts (fi_X4 _) hown hK hP 0 (cw_at0 _ _ _) rfl 2 (by decide) (hts _ (List.mem_cons_of_mem _ wd_87)) (fun _ h9 => h9) rfl dX4_quarantine_60 ?_
            refine lv_iload_n hx hb dX4_quarantine_63 rfl (lv_at hl 1 rfl) ?_
            refine lv_iload_n hx hb dX4_quarantine_64 rfl (lv_at hl 2 rfl) ?_
            refine lv_if_eq (tgt := 73) hx hb dX4_quarantine_65 (by decide) (fun c_16 => ?_) (fun c_16 => ?_)
            · skip
              have t_17 : x2.toInt = 0 := i_eq c_16 rfl (by decide)
              refine lv_bipush (v := 9) hx hb dX4_quarantine_73 (by decide) ?_
              refine lv_iconst (v := 0) hx hb dX4_quarantine_75 (by decide) ?_
              have hFc := va_free (wc := cw g h (s_quar u (upd (k_quar u) x1.toNatClampNeg (vp_nar .boolean x2)))) hD hS hA [0, 1, 2, 3, 4, 5, 6, 7, 8, 9, 10, 11, 12, 13, 14, 15, 16, 17, 18, 19, 20, 21, 22, 23] rfl
              refine va_callv (va_runV (As := [.int x1, .int 9, .int 0]) (rest := []) ⟨hx, hb, hml, hown, hts⟩ (kX2_write l dC dI g h (s_quar u (upd (k_quar u) x1.toNatClampNeg (vp_nar .boolean x2))) _ x1 9 0 (by show 0 ≤ (k_rwrit u).toInt ∧ (k_rwrit u).toInt < 400; omega)) (cwV 3 hts (gV wd_108 wd_109 wd_110 wd_105 wcX2_write) rfl rfl rfl (by decide +kernel) ⟨(Nat.le_of_ble_eq_true rfl), (Nat.le_of_ble_eq_true rfl)⟩) ⟨fun a U g mk q => by obtain ⟨q0, q1, qP, qK, qD⟩ := q; exact ⟨q0, q1, qP, va_K.moved (u := U) (U := U.calling g mk a) (Vm.Alike.refl U.vm) qK, qD⟩, va_recv hK hP (ci := 1) (q0 := 3) rfl (cw_at3 _ _ _), fun U hU hW => ⟨rfl, by rw [hU], by rw [hU]; exact hP, va_K.moved hW.alike hK, hD.weaken (fun _ _ _ _ => trivial)⟩⟩ rfl rfl hl.1 rfl (lv_room (Nat.le_of_ble_eq_true rfl)) dX4_quarantine_76 ⟨(Nat.le_of_ble_eq_true rfl), (Nat.le_of_ble_eq_true rfl)⟩) hS (fun q _ h => hFc q h) hFc (fun u_18 t H locs ht hvm hw hB hz1 hk1 hS => ?_)
              obtain ⟨hP, hD⟩ := hB
              rw [ht] at hP
              have hD := hD.weaken (fun _ _ _ h => hFc _ h)
              have e_20 : u_18 = fX2_write (s_quar u (upd (k_quar u) x1.toNatClampNeg (vp_nar .boolean x2))) x1 9 0 := hw
              clear hw
              exact vy_ret (W.vret hx hb hr (fun t ht hW => ⟨⟨u_18, rfl, (by subst e_20; unfold fX4_quarantine; rw [if_pos c_1, if_neg c_4, if_neg c_8, if_pos c_14, if_pos c_16]), by rw [ht]; exact hP, hD⟩, hS.F ht⟩) hS.2.2 dX4_quarantine_79)
            · skip
              have t_21 : x2.toInt ≠ 0 := i_ne c_16 rfl (by decide)
              refine lv_bipush (v := 8) hx hb dX4_quarantine_68 (by decide) ?_
              refine lv_goto (tgt := 75) hx hb dX4_quarantine_70 (by decide) ?_
              refine lv_iconst (v := 0) hx hb dX4_quarantine_75 (by decide) ?_
              have hFc := va_free (wc := cw g h (s_quar u (upd (k_quar u) x1.toNatClampNeg (vp_nar .boolean x2)))) hD hS hA [0, 1, 2, 3, 4, 5, 6, 7, 8, 9, 10, 11, 12, 13, 14, 15, 16, 17, 18, 19, 20, 21, 22, 23] rfl
              refine va_callv (va_runV (As := [.int x1, .int 8, .int 0]) (rest := []) ⟨hx, hb, hml, hown, hts⟩ (kX2_write l dC dI g h (s_quar u (upd (k_quar u) x1.toNatClampNeg (vp_nar .boolean x2))) _ x1 8 0 (by show 0 ≤ (k_rwrit u).toInt ∧ (k_rwrit u).toInt < 400; omega)) (cwV 3 hts (gV wd_108 wd_109 wd_110 wd_105 wcX2_write) rfl rfl rfl (by decide +kernel) ⟨(Nat.le_of_ble_eq_true rfl), (Nat.le_of_ble_eq_true rfl)⟩) ⟨fun a U g mk q => by obtain ⟨q0, q1, qP, qK, qD⟩ := q; exact ⟨q0, q1, qP, va_K.moved (u := U) (U := U.calling g mk a) (Vm.Alike.refl U.vm) qK, qD⟩, va_recv hK hP (ci := 1) (q0 := 3) rfl (cw_at3 _ _ _), fun U hU hW => ⟨rfl, by rw [hU], by rw [hU]; exact hP, va_K.moved hW.alike hK, hD.weaken (fun _ _ _ _ => trivial)⟩⟩ rfl rfl hl.1 rfl (lv_room (Nat.le_of_ble_eq_true rfl)) dX4_quarantine_76 ⟨(Nat.le_of_ble_eq_true rfl), (Nat.le_of_ble_eq_true rfl)⟩) hS (fun q _ h => hFc q h) hFc (fun u_22 t H locs ht hvm hw hB hz1 hk1 hS => ?_)
              obtain ⟨hP, hD⟩ := hB
              rw [ht] at hP
              have hD := hD.weaken (fun _ _ _ h => hFc _ h)
              have e_24 : u_22 = fX2_write (s_quar u (upd (k_quar u) x1.toNatClampNeg (vp_nar .boolean x2))) x1 8 0 := hw
              clear hw
              exact vy_ret (W.vret hx hb hr (fun t ht hW => ⟨⟨u_22, rfl, (by subst e_24; unfold fX4_quarantine; rw [if_pos c_1, if_neg c_4, if_neg c_8, if_pos c_14, if_neg c_16]), by rw [ht]; exact hP, hD⟩, hS.F ht⟩) hS.2.2 dX4_quarantine_79)
set_option maxHeartbeats 4000000 in
set_option maxRecDepth 100000 in
theorem kX4_order (l : Launch) (hl9 : l.stackTraces = false) (dC : Nat → ClassId) (dI : Nat → Nat → Nat) (g : cG) (h : Nat → Nat) (u : cS) (sz : Nat) (x1 : Int32) (x2 : Int32) (x3 : Int32) (hI : cInv u) : vy_Met l yX4_order wsX4_order ({ frames := 7, cells := 1, slots := 6, locals := 104 }) (va_Pc [.ref (h 0), .int x1, .int x2, .int x3] (fun U => U.heap.size = sz ∧ va_P (dC, dI) vwCl (cw g h u) U.heap ∧ va_K (dC, dI) vwCl (cTys g) U ∧ va_D (fun _ => True) (cw g h u) ∧ zz (va_A (cw g h u) sz) U U.heap)) (va_Qi (fun (r : Int32) u2 => fX4_order u x1 x2 x3 = (0, r, u2)) (fun (u2 : cS) (t : State) => va_P (dC, dI) vwCl (cw g h u2) t.heap ∧ va_D (va_A (cw g h u) sz) (cw g h u2)) (va_A (cw g h u) sz)) (vx_X (fun _ => True) (fun E (u2 : cS) t => (∃ k : Nat, fX4_order u x1 x2 x3 = (k, 0, u2) ∧ ex_is k E) ∧ va_P (dC, dI) vwCl (cw g h u2) t.heap ∧ va_D (va_A (cw g h u) sz) (cw g h u2)) (va_A (cw g h u) sz)) 0 0 1 6 (va_A (cw g h u) sz) := by
  refine vy_ofW (cc := cX4_order) (maxL := 5) (ret := (some .int)) (by decide) rfl ?_
  intro p e s m args below meth c s₁ B hml hxt hv
  obtain ⟨rfl, hsz, hP, hK, hD0, hZ⟩ := hv
  have hx := B.exec
  have hb := B.bytes
  have hr := B.returns
  have hts := atoms_spec (ws := wsX4_order) B.pre
  have hown : s.vm.findClass RX4 = some m.cls := findClass_of_methodNamed B.named
  have hlocks := B.notSynchronized
  subst hsz
  have hD := hD0.self (sz := s.heap.size)
  generalize hAe : va_A (cw g h u) s.heap.size = A at hD hZ ⊢
  have hA : ∀ q : Nat, s.heap.size ≤ q → A q := fun q h => by rw [← hAe]; exact Or.inr h
  have hS : va_S A s.heap s.heap [] := va_S.rf
  have hl := lv_entry ([.ref (h 0), .int x1, .int x2, .int x3]) (n := 5) (Nat.le_of_ble_eq_true rfl)
  rw [lg_entry_eq]
  generalize (lg_sl ([.ref (h 0), .int x1, .int x2, .int x3]) ++ List.replicate (5 - (lg_sl ([.ref (h 0), .int x1, .int x2, .int x3])).length) Slot.unset).toArray = ls at hl ⊢
  have hl : lv_has ls 5 [(0, .ref (h 0)), (1, .int x1), (2, .int x2), (3, .int x3)] := hl
  obtain ⟨hI1, hI2, hI3, hI4, hI5, hI6⟩ := id hI
  have z_0 : (0 : Int32).toInt = 0 := by decide
  have z_1 : (9 : Int32).toInt = 9 := by decide
  have z_2 : (7 : Int32).toInt = 7 := by decide
  have z_3 : (1 : Int32).toInt = 1 := by decide
  refine lv_iload_n hx hb dX4_order_0 rfl (lv_at hl 1 rfl) ?_
  refine lv_iconst (v := 0) hx hb dX4_order_1 (by decide) ?_
  refine lv_bipush (v := 9) hx hb dX4_order_2 (by decide) ?_
  refine vy_callv (vy_runS (As := [.int x1, .int 0, .int 9]) (rest := []) ⟨hx, hb, hml, hown, hts⟩ (kX4_requireRange l hl9 dC dI _ x1 0 9) (cwS 3 hts (gS wd_90 wd_91 wd_92 wcX4_requireRange) rfl rfl rfl (by decide +kernel) ⟨(Nat.le_of_ble_eq_true rfl), (Nat.le_of_ble_eq_true rfl)⟩) ⟨fun a U g mk q => by obtain ⟨q0, q1, qZ⟩ := q; exact ⟨q0, q1, zz_same (u := U) (H := U.heap) rfl rfl qZ⟩, fun U hU hW => ⟨rfl, hU, by rw [hU]; exact zz_to hZ hS (fun q h => hA q (Nat.le_trans hS.1 h)) hW⟩⟩ rfl rfl hl.1 rfl (lv_room (Nat.le_of_ble_eq_true rfl)) dX4_order_4 ⟨(Nat.le_of_ble_eq_true rfl), (Nat.le_of_ble_eq_true rfl)⟩) hS (fun q h1 h2 => absurd h2 (Nat.not_le.mpr h1)) (fun q h => hA q (Nat.le_trans hS.1 h)) (fun q h1 h2 => absurd h2 (Nat.not_le.mpr h1)) (fun E ce q9 _ t H1 locs1 ht hvm hw hB hz1 hk1 hS hce hcv hcl => ?_) (fun _ t H1 locs1 ht hvm hw hB hz1 hk1 hS => ?_)
  · skip
    have c_1 : ¬ fX4_requireRange x1 0 9 = 0 := by rw [hw]; decide
    subst hB
    have hP := hP.kept (fun k q hq => hk1 q.1 (hP k q hq).lt (Nat.not_le.mpr (hP k q hq).lt))
    exact vy_out (vx_out (fun x hx => (hxt x hx).elim) hlocks hce hcv hcl (fun t ht ha => ⟨u, trivial, ⟨⟨2, (by unfold fX4_order; rw [if_neg c_1]), rfl⟩, by rw [ht]; exact hP, hD⟩, hS.F ht⟩) hS.2.2 (Nat.le_of_ble_eq_true rfl) (Nat.le_of_ble_eq_true rfl))
  · skip
    have hH1 : H1 = _ := ht.symm.trans hB
    subst hH1
    have c_1 : fX4_requireRange x1 0 9 = 0 := hw
    have t_2 := rr_lo c_1
    have t_3 := rr_hi c_1
    refine lv_iload_n hx hb dX4_order_7 rfl (lv_at hl 2 rfl) ?_
    refine lv_iconst (v := 0) hx hb dX4_order_8 (by decide) ?_
    refine lv_bipush (v := 7) hx hb dX4_order_9 (by decide) ?_
    refine vy_callv (vy_runS (As := [.int x2, .int 0, .int 7]) (rest := []) ⟨hx, hb, hml, hown, hts⟩ (kX4_requireRange l hl9 dC dI _ x2 0 7) (cwS 3 hts (gS wd_90 wd_91 wd_92 wcX4_requireRange) rfl rfl rfl (by decide +kernel) ⟨(Nat.le_of_ble_eq_true rfl), (Nat.le_of_ble_eq_true rfl)⟩) ⟨fun a U g mk q => by obtain ⟨q0, q1, qZ⟩ := q; exact ⟨q0, q1, zz_same (u := U) (H := U.heap) rfl rfl qZ⟩, fun U hU hW => ⟨rfl, hU, by rw [hU]; exact zz_to hZ hS (fun q h => hA q (Nat.le_trans hS.1 h)) hW⟩⟩ rfl rfl hl.1 rfl (lv_room (Nat.le_of_ble_eq_true rfl)) dX4_order_11 ⟨(Nat.le_of_ble_eq_true rfl), (Nat.le_of_ble_eq_true rfl)⟩) hS (fun q h1 h2 => absurd h2 (Nat.not_le.mpr h1)) (fun q h => hA q (Nat.le_trans hS.1 h)) (fun q h1 h2 => absurd h2 (Nat.not_le.mpr h1)) (fun E ce q9 _ t H1 locs1 ht hvm hw hB hz1 hk1 hS hce hcv hcl => ?_) (fun _ t H1 locs1 ht hvm hw hB hz1 hk1 hS => ?_)
    · skip
      have c_4 : ¬ fX4_requireRange x2 0 7 = 0 := by rw [hw]; decide
      subst hB
      have hP := hP.kept (fun k q hq => hk1 q.1 (hP k q hq).lt (Nat.not_le.mpr (hP k q hq).lt))
      exact vy_out (vx_out (fun x hx => (hxt x hx).elim) hlocks hce hcv hcl (fun t ht ha => ⟨u, trivial, ⟨⟨2, (by unfold fX4_order; rw [if_pos c_1, if_neg c_4]), rfl⟩, by rw [ht]; exact hP, hD⟩, hS.F ht⟩) hS.2.2 (Nat.le_of_ble_eq_true rfl) (Nat.le_of_ble_eq_true rfl))
    · skip
      have hH1 : H1 = _ := ht.symm.trans hB
      subst hH1
      have c_4 : fX4_requireRange x2 0 7 = 0 := hw
      have t_5 := rr_lo c_4
      have t_6 := rr_hi c_4
      refine lv_iload_n hx hb dX4_order_14 rfl (lv_at hl 3 rfl) ?_
      refine vy_callv (vy_runS (As := [.int x3]) (rest := []) ⟨hx, hb, hml, hown, hts⟩ (kX4_requireNotNegative l hl9 dC dI _ x3) (cwS 1 hts (gS wd_128 wd_129 wd_92 wcX4_requireNotNegative) rfl rfl rfl (by decide +kernel) ⟨(Nat.le_of_ble_eq_true rfl), (Nat.le_of_ble_eq_true rfl)⟩) ⟨fun a U g mk q => by obtain ⟨q0, q1, qZ⟩ := q; exact ⟨q0, q1, zz_same (u := U) (H := U.heap) rfl rfl qZ⟩, fun U hU hW => ⟨rfl, hU, by rw [hU]; exact zz_to hZ hS (fun q h => hA q (Nat.le_trans hS.1 h)) hW⟩⟩ rfl rfl hl.1 rfl (lv_room (Nat.le_of_ble_eq_true rfl)) dX4_order_15 ⟨(Nat.le_of_ble_eq_true rfl), (Nat.le_of_ble_eq_true rfl)⟩) hS (fun q h1 h2 => absurd h2 (Nat.not_le.mpr h1)) (fun q h => hA q (Nat.le_trans hS.1 h)) (fun q h1 h2 => absurd h2 (Nat.not_le.mpr h1)) (fun E ce q9 _ t H1 locs1 ht hvm hw hB hz1 hk1 hS hce hcv hcl => ?_) (fun _ t H1 locs1 ht hvm hw hB hz1 hk1 hS => ?_)
      · skip
        have c_7 : ¬ fX4_requireNotNegative x3 = 0 := by rw [hw]; decide
        subst hB
        have hP := hP.kept (fun k q hq => hk1 q.1 (hP k q hq).lt (Nat.not_le.mpr (hP k q hq).lt))
        exact vy_out (vx_out (fun x hx => (hxt x hx).elim) hlocks hce hcv hcl (fun t ht ha => ⟨u, trivial, ⟨⟨2, (by unfold fX4_order; rw [if_pos c_1, if_pos c_4, if_neg c_7]), rfl⟩, by rw [ht]; exact hP, hD⟩, hS.F ht⟩) hS.2.2 (Nat.le_of_ble_eq_true rfl) (Nat.le_of_ble_eq_true rfl))
      · skip
        have hH1 : H1 = _ := ht.symm.trans hB
        subst hH1
        have c_7 : fX4_requireNotNegative x3 = 0 := hw
        refine lv_iconst (v := 1) hx hb dX4_order_18 (by decide) ?_
        refine lv_istore (lv' := [(4, .int 1), (0, .ref (h 0)), (1, .int x1), (2, .int x2), (3, .int x3)]) hx hb dX4_order_19 hl (by decide) rfl (fun ls hl => ?_)
        refine lp_ind (W p l e _ s m _ below meth c _ _ _ _ _) (fun n ls => ∃ (i : Int32), ((k_lmade u).toInt - i.toInt + 1 < (n : Int)) ∧ (1 ≤ i.toInt ∧ i.toInt ≤ 41 ∧ i.toInt ≤ (k_lmade u).toInt + 1) ∧ fX4_order u x1 x2 x3 = lpX4_order u x1 x2 x3 n i ∧ lv_has ls 5 [(4, .int i), (0, .ref (h 0)), (1, .int x1), (2, .int x2), (3, .int x3)]) m 21 (fun ls hI0 => ?_) (fun n ls hI0 ih => ?_) 41 _ ⟨1, (by omega), (by omega), (by unfold fX4_order; rw [if_pos c_1, if_pos c_4, if_pos c_7]), lv_sub hl [0, 1, 2, 3, 4] rfl⟩
        · skip
          obtain ⟨i, hn, hi, he, hl⟩ := hI0
          exact absurd hn (by omega)
        · skip
          obtain ⟨i, hn, hi, he, hl⟩ := hI0
          have he_10 := he
          have ih_9 := ih
          refine lv_iload hx hb dX4_order_21 (lv_at hl 0 rfl) ?_
          refine lv_aload_n hx hb dX4_order_23 rfl (lv_at hl 1 rfl) ?_
          refine va_get (D := (dC, dI)) (C := RX4) (T := TX4) (N := 9) (v := .ref (h 1)) hx hb hts (fi_X4 _) hown hK hP 0 (cw_at0 _ _ _) rfl 0 (by decide) (hts _ (List.mem_cons_of_mem _ wd_11)) (fun _ h9 => h9) rfl dX4_order_24 ?_
          refine va_get (D := (dC, dI)) (C := RX1) (T := TX1) (N := 9) (v := .int (k_lmade u)) hx hb hts (fi_X1 _) hown hK hP 1 (cw_at1 _ _ _) rfl 8 (by decide) (hts _ (List.mem_cons_of_mem _ wd_12)) (fun _ h9 => h9) rfl dX4_order_27 ?_
          refine lv_icmp_gt (tgt := 75) hx hb dX4_order_30 (by decide) (fun c_11 => ?_) (fun c_11 => ?_)
          · skip
            have t_12 : (k_lmade u).toInt < i.toInt := i_lt c_11 rfl rfl
            refine lv_iconst (v := (-1)) hx hb dX4_order_75 (by decide) ?_
            exact vy_ret (W.iret (v := (-1)) hx hb hr (fun t ht hW => ⟨⟨(-1), u, rfl, (by rw [he_10, lpX4_order_eq, if_pos c_11]), by rw [ht]; exact hP, hD⟩, hS.F ht⟩) hS.2.2 dX4_order_76)
          · skip
            have t_13 : i.toInt ≤ (k_lmade u).toInt := i_nlt c_11 rfl rfl
            refine lv_aload_n hx hb dX4_order_33 rfl (lv_at hl 1 rfl) ?_
            refine va_get (D := (dC, dI)) (C := RX4) (T := TX4) (N := 9) (v := .ref (h 1)) hx hb hts (fi_X4 _) hown hK hP 0 (cw_at0 _ _ _) rfl 0 (by decide) (hts _ (List.mem_cons_of_mem _ wd_11)) (fun _ h9 => h9) rfl dX4_order_34 ?_
            refine lv_iload hx hb dX4_order_37 (lv_at hl 0 rfl) ?_
            refine lv_iload_n hx hb dX4_order_39 rfl (lv_at hl 2 rfl) ?_
            refine lv_iload_n hx hb dX4_order_40 rfl (lv_at hl 3 rfl) ?_
            refine vp_callSi (W.runV (As := [.int i, .int x1, .int x2]) (rest := []) ⟨hx, hb, hml, hown, hts⟩ (kX1_mayBeTakenFor l dC dI g h u i x1 x2 (by omega)) (cwV 3 hts (gV wd_131 wd_36 wd_37 wd_28 wcX1_mayBeTakenFor) rfl rfl rfl (by decide +kernel) ⟨(Nat.le_of_ble_eq_true rfl), (Nat.le_of_ble_eq_true rfl)⟩) ⟨fun a U g mk q => by obtain ⟨q0, qP, qK⟩ := q; exact ⟨q0, qP, va_K.moved (u := U) (U := U.calling g mk a) (Vm.Alike.refl U.vm) qK⟩, va_recv hK hP (ci := 0) (q0 := 1) rfl (cw_at1 _ _ _), fun U hU hW => ⟨rfl, by rw [hU]; exact hP, va_K.moved hW.alike hK⟩⟩ rfl rfl hl.1 rfl (lv_room (Nat.le_of_ble_eq_true rfl)) dX4_order_41 ⟨(Nat.le_of_ble_eq_true rfl), (Nat.le_of_ble_eq_true rfl)⟩) (fun r_14 hw => ?_)
            subst hw
            refine lv_if_eq (tgt := 69) hx hb dX4_order_44 (by decide) (fun c_15 => ?_) (fun c_15 => ?_)
            · skip
              have t_16 : (fX1_mayBeTakenFor u i x1 x2).toInt = 0 := i_eq c_15 rfl (by decide)
              refine lv_iinc (v := i + 1) (lv' := [(4, .int (i + 1)), (0, .ref (h 0)), (1, .int x1), (2, .int x2), (3, .int x3)]) hx hb dX4_order_69 hl (k := 0) rfl rfl (by decide) rfl (fun ls hl => ?_)
              refine lv_goto (tgt := 21) hx hb dX4_order_72 (by decide) ?_
              have hb1 := i_inc (x := i) (by omega)
              exact ih_9 _ ⟨(i + 1), (by omega), (by omega), (by rw [he_10, lpX4_order_eq, if_neg c_11, if_pos c_15]), lv_sub hl [0, 1, 2, 3, 4] rfl⟩
            · skip
              have t_17 : (fX1_mayBeTakenFor u i x1 x2).toInt ≠ 0 := i_ne c_15 rfl (by decide)
              refine lv_aload_n hx hb dX4_order_47 rfl (lv_at hl 1 rfl) ?_
              refine va_get (D := (dC, dI)) (C := RX4) (T := TX4) (N := 9) (v := .ref (h 1)) hx hb hts (fi_X4 _) hown hK hP 0 (cw_at0 _ _ _) rfl 0 (by decide) (hts _ (List.mem_cons_of_mem _ wd_11)) (fun _ h9 => h9) rfl dX4_order_48 ?_
              refine lv_iload hx hb dX4_order_51 (lv_at hl 0 rfl) ?_
              refine lv_aload_n hx hb dX4_order_53 rfl (lv_at hl 1 rfl) ?_
              refine va_get (D := (dC, dI)) (C := RX4) (T := TX4) (N := 9) (v := .ref (h 4)) hx hb hts (fi_X4 _) hown hK hP 0 (cw_at0 _ _ _) rfl 3 (by decide) (hts _ (List.mem_cons_of_mem _ wd_112)) (fun _ h9 => h9) rfl dX4_order_54 ?_
              refine lv_iload_n hx hb dX4_order_57 rfl (lv_at hl 3 rfl) ?_
              refine va_iald (f := k_rot u) hx hb hK hP 4 0 (cw_at4 _ _ _) rfl (vp_in_iff.mpr (by omega)) dX4_order_58 ?_
              refine vp_callSi (W.runV (As := [.int i, .int (k_rot u x2.toNatClampNeg)]) (rest := []) ⟨hx, hb, hml, hown, hts⟩ (kX1_rivalsBefore l dC dI g h u i (k_rot u x2.toNatClampNeg) (by omega) hI) (cwV 2 hts (gV wd_132 wd_133 wd_134 wd_28 wcX1_rivalsBefore) rfl rfl rfl (by decide +kernel) ⟨(Nat.le_of_ble_eq_true rfl), (Nat.le_of_ble_eq_true rfl)⟩) ⟨fun a U g mk q => by obtain ⟨q0, qP, qK⟩ := q; exact ⟨q0, qP, va_K.moved (u := U) (U := U.calling g mk a) (Vm.Alike.refl U.vm) qK⟩, va_recv hK hP (ci := 0) (q0 := 1) rfl (cw_at1 _ _ _), fun U hU hW => ⟨rfl, by rw [hU]; exact hP, va_K.moved hW.alike hK⟩⟩ rfl rfl hl.1 rfl (lv_room (Nat.le_of_ble_eq_true rfl)) dX4_order_59 ⟨(Nat.le_of_ble_eq_true rfl), (Nat.le_of_ble_eq_true rfl)⟩) (fun r_18 hw => ?_)
              subst hw
              refine lv_iload_n hx hb dX4_order_62 rfl (lv_at hl 4 rfl) ?_
              refine lv_icmp_ne (tgt := 69) hx hb dX4_order_63 (by decide) (fun c_19 => ?_) (fun c_19 => ?_)
              · skip
                have t_20 : (fX1_rivalsBefore u i (k_rot u x2.toNatClampNeg)).toInt ≠ x3.toInt := i_ne c_19 rfl rfl
                refine lv_iinc (v := i + 1) (lv' := [(4, .int (i + 1)), (0, .ref (h 0)), (1, .int x1), (2, .int x2), (3, .int x3)]) hx hb dX4_order_69 hl (k := 0) rfl rfl (by decide) rfl (fun ls hl => ?_)
                refine lv_goto (tgt := 21) hx hb dX4_order_72 (by decide) ?_
                have hb1 := i_inc (x := i) (by omega)
                exact ih_9 _ ⟨(i + 1), (by omega), (by omega), (by rw [he_10, lpX4_order_eq, if_neg c_11, if_neg c_15, if_neg c_19]), lv_sub hl [0, 1, 2, 3, 4] rfl⟩
              · skip
                have t_21 : (fX1_rivalsBefore u i (k_rot u x2.toNatClampNeg)).toInt = x3.toInt := i_eq c_19 rfl rfl
                refine lv_iload hx hb dX4_order_66 (lv_at hl 0 rfl) ?_
                exact vy_ret (W.iret (v := i) hx hb hr (fun t ht hW => ⟨⟨i, u, rfl, (by rw [he_10, lpX4_order_eq, if_neg c_11, if_neg c_15, if_pos c_19]), by rw [ht]; exact hP, hD⟩, hS.F ht⟩) hS.2.2 dX4_order_68)
set_option maxHeartbeats 4000000 in
set_option maxRecDepth 100000 in
theorem kX4_allowed (l : Launch) (hl9 : l.stackTraces = false) (dC : Nat → ClassId) (dI : Nat → Nat → Nat) (g : cG) (h : Nat → Nat) (u : cS) (sz : Nat) (x1 : Int32) (x2 : Int32) (x3 : Int32) (hI : cInv u) : vy_Met l yX4_allowed wsX4_allowed ({ frames := 7, cells := 1, slots := 6, locals := 104 }) (va_Pc [.ref (h 0), .int x1, .int x2, .int x3] (fun U => U.heap.size = sz ∧ va_P (dC, dI) vwCl (cw g h u) U.heap ∧ va_K (dC, dI) vwCl (cTys g) U ∧ va_D (fun _ => True) (cw g h u) ∧ zz (va_A (cw g h u) sz) U U.heap)) (va_Qi (fun (r : Int32) u2 => fX4_allowed u x1 x2 x3 = (0, r, u2)) (fun (u2 : cS) (t : State) => va_P (dC, dI) vwCl (cw g h u2) t.heap ∧ va_D (va_A (cw g h u) sz) (cw g h u2)) (va_A (cw g h u) sz)) (vx_X (fun _ => True) (fun E (u2 : cS) t => (∃ k : Nat, fX4_allowed u x1 x2 x3 = (k, 0, u2) ∧ ex_is k E) ∧ va_P (dC, dI) vwCl (cw g h u2) t.heap ∧ va_D (va_A (cw g h u) sz) (cw g h u2)) (va_A (cw g h u) sz)) 0 0 1 6 (va_A (cw g h u) sz) := by
  refine vy_ofW (cc := cX4_allowed) (maxL := 4) (ret := (some .boolean)) (by decide) rfl ?_
  intro p e s m args below meth c s₁ B hml hxt hv
  obtain ⟨rfl, hsz, hP, hK, hD0, hZ⟩ := hv
  have hx := B.exec
  have hb := B.bytes
  have hr := B.returns
  have hts := atoms_spec (ws := wsX4_allowed) B.pre
  have hown : s.vm.findClass RX4 = some m.cls := findClass_of_methodNamed B.named
  have hlocks := B.notSynchronized
  subst hsz
  have hD := hD0.self (sz := s.heap.size)
  generalize hAe : va_A (cw g h u) s.heap.size = A at hD hZ ⊢
  have hA : ∀ q : Nat, s.heap.size ≤ q → A q := fun q h => by rw [← hAe]; exact Or.inr h
  have hS : va_S A s.heap s.heap [] := va_S.rf
  have hl := lv_entry ([.ref (h 0), .int x1, .int x2, .int x3]) (n := 4) (Nat.le_of_ble_eq_true rfl)
  rw [lg_entry_eq]
  generalize (lg_sl ([.ref (h 0), .int x1, .int x2, .int x3]) ++ List.replicate (4 - (lg_sl ([.ref (h 0), .int x1, .int x2, .int x3])).length) Slot.unset).toArray = ls at hl ⊢
  have hl : lv_has ls 4 [(0, .ref (h 0)), (1, .int x1), (2, .int x2), (3, .int x3)] := hl
  obtain ⟨hI1, hI2, hI3, hI4, hI5, hI6⟩ := id hI
  have z_0 : (0 : Int32).toInt = 0 := by decide
  have z_1 : (7 : Int32).toInt = 7 := by decide
  have z_2 : (36524 : Int32).toInt = 36524 := by decide
  refine lv_aload_n hx hb dX4_allowed_0 rfl (lv_at hl 0 rfl) ?_
  refine lv_iload_n hx hb dX4_allowed_1 rfl (lv_at hl 1 rfl) ?_
  refine vy_callv (vy_runV (As := [.int x1]) (rest := []) ⟨hx, hb, hml, hown, hts⟩ (kX4_requireLot l hl9 dC dI g h u _ x1) (cwV 1 hts (gV wd_114 wd_115 wd_116 wd_92 wcX4_requireLot) rfl rfl rfl (by decide +kernel) ⟨(Nat.le_of_ble_eq_true rfl), (Nat.le_of_ble_eq_true rfl)⟩) ⟨fun a U g mk q => by obtain ⟨q0, q1, qP, qK, qZ⟩ := q; exact ⟨q0, q1, qP, va_K.moved (u := U) (U := U.calling g mk a) (Vm.Alike.refl U.vm) qK, zz_same (u := U) (H := U.heap) rfl rfl qZ⟩, va_recv hK hP (ci := 3) (q0 := 0) rfl (cw_at0 _ _ _), fun U hU hW => ⟨rfl, hU, by rw [hU]; exact hP, va_K.moved hW.alike hK, by rw [hU]; exact zz_to hZ hS (fun q h => hA q (Nat.le_trans hS.1 h)) hW⟩⟩ rfl rfl hl.1 rfl (lv_room (Nat.le_of_ble_eq_true rfl)) dX4_allowed_2 ⟨(Nat.le_of_ble_eq_true rfl), (Nat.le_of_ble_eq_true rfl)⟩) hS (fun q h1 h2 => absurd h2 (Nat.not_le.mpr h1)) (fun q h => hA q (Nat.le_trans hS.1 h)) (fun q h1 h2 => absurd h2 (Nat.not_le.mpr h1)) (fun E ce q9 _ t H1 locs1 ht hvm hw hB hz1 hk1 hS hce hcv hcl => ?_) (fun _ t H1 locs1 ht hvm hw hB hz1 hk1 hS => ?_)
  · skip
    have c_1 : ¬ fX4_requireLot u x1 = 0 := by rw [hw]; decide
    subst hB
    have hP := hP.kept (fun k q hq => hk1 q.1 (hP k q hq).lt (Nat.not_le.mpr (hP k q hq).lt))
    exact vy_out (vx_out (fun x hx => (hxt x hx).elim) hlocks hce hcv hcl (fun t ht ha => ⟨u, trivial, ⟨⟨1, (by unfold fX4_allowed; rw [if_neg c_1]), rfl⟩, by rw [ht]; exact hP, hD⟩, hS.F ht⟩) hS.2.2 (Nat.le_of_ble_eq_true rfl) (Nat.le_of_ble_eq_true rfl))
  · skip
    have hH1 : H1 = _ := ht.symm.trans hB
    subst hH1
    have c_1 : fX4_requireLot u x1 = 0 := hw
    have t_2 := rl_lo c_1
    have t_3 := rl_hi c_1
    refine lv_iload_n hx hb dX4_allowed_5 rfl (lv_at hl 2 rfl) ?_
    refine lv_iconst (v := 0) hx hb dX4_allowed_6 (by decide) ?_
    refine lv_bipush (v := 7) hx hb dX4_allowed_7 (by decide) ?_
    refine vy_callv (vy_runS (As := [.int x2, .int 0, .int 7]) (rest := []) ⟨hx, hb, hml, hown, hts⟩ (kX4_requireRange l hl9 dC dI _ x2 0 7) (cwS 3 hts (gS wd_90 wd_91 wd_92 wcX4_requireRange) rfl rfl rfl (by decide +kernel) ⟨(Nat.le_of_ble_eq_true rfl), (Nat.le_of_ble_eq_true rfl)⟩) ⟨fun a U g mk q => by obtain ⟨q0, q1, qZ⟩ := q; exact ⟨q0, q1, zz_same (u := U) (H := U.heap) rfl rfl qZ⟩, fun U hU hW => ⟨rfl, hU, by rw [hU]; exact zz_to hZ hS (fun q h => hA q (Nat.le_trans hS.1 h)) hW⟩⟩ rfl rfl hl.1 rfl (lv_room (Nat.le_of_ble_eq_true rfl)) dX4_allowed_9 ⟨(Nat.le_of_ble_eq_true rfl), (Nat.le_of_ble_eq_true rfl)⟩) hS (fun q h1 h2 => absurd h2 (Nat.not_le.mpr h1)) (fun q h => hA q (Nat.le_trans hS.1 h)) (fun q h1 h2 => absurd h2 (Nat.not_le.mpr h1)) (fun E ce q9 _ t H1 locs1 ht hvm hw hB hz1 hk1 hS hce hcv hcl => ?_) (fun _ t H1 locs1 ht hvm hw hB hz1 hk1 hS => ?_)
    · skip
      have c_4 : ¬ fX4_requireRange x2 0 7 = 0 := by rw [hw]; decide
      subst hB
      have hP := hP.kept (fun k q hq => hk1 q.1 (hP k q hq).lt (Nat.not_le.mpr (hP k q hq).lt))
      exact vy_out (vx_out (fun x hx => (hxt x hx).elim) hlocks hce hcv hcl (fun t ht ha => ⟨u, trivial, ⟨⟨2, (by unfold fX4_allowed; rw [if_pos c_1, if_neg c_4]), rfl⟩, by rw [ht]; exact hP, hD⟩, hS.F ht⟩) hS.2.2 (Nat.le_of_ble_eq_true rfl) (Nat.le_of_ble_eq_true rfl))
    · skip
      have hH1 : H1 = _ := ht.symm.trans hB
      subst hH1
      have c_4 : fX4_requireRange x2 0 7 = 0 := hw
      have t_5 := rr_lo c_4
      have t_6 := rr_hi c_4
      refine lv_iload_n hx hb dX4_allowed_12 rfl (lv_at hl 3 rfl) ?_
      refine lv_iconst (v := 0) hx hb dX4_allowed_13 (by decide) ?_
      refine lv_ldc (v := 36524) hx hb hown (hts _ (List.mem_cons_of_mem _ wd_94)) dX4_allowed_14 ?_
      refine vy_callv (vy_runS (As := [.int x3, .int 0, .int 36524]) (rest := []) ⟨hx, hb, hml, hown, hts⟩ (kX4_requireRange l hl9 dC dI _ x3 0 36524) (cwS 3 hts (gS wd_90 wd_91 wd_92 wcX4_requireRange) rfl rfl rfl (by decide +kernel) ⟨(Nat.le_of_ble_eq_true rfl), (Nat.le_of_ble_eq_true rfl)⟩) ⟨fun a U g mk q => by obtain ⟨q0, q1, qZ⟩ := q; exact ⟨q0, q1, zz_same (u := U) (H := U.heap) rfl rfl qZ⟩, fun U hU hW => ⟨rfl, hU, by rw [hU]; exact zz_to hZ hS (fun q h => hA q (Nat.le_trans hS.1 h)) hW⟩⟩ rfl rfl hl.1 rfl (lv_room (Nat.le_of_ble_eq_true rfl)) dX4_allowed_16 ⟨(Nat.le_of_ble_eq_true rfl), (Nat.le_of_ble_eq_true rfl)⟩) hS (fun q h1 h2 => absurd h2 (Nat.not_le.mpr h1)) (fun q h => hA q (Nat.le_trans hS.1 h)) (fun q h1 h2 => absurd h2 (Nat.not_le.mpr h1)) (fun E ce q9 _ t H1 locs1 ht hvm hw hB hz1 hk1 hS hce hcv hcl => ?_) (fun _ t H1 locs1 ht hvm hw hB hz1 hk1 hS => ?_)
      · skip
        have c_7 : ¬ fX4_requireRange x3 0 36524 = 0 := by rw [hw]; decide
        subst hB
        have hP := hP.kept (fun k q hq => hk1 q.1 (hP k q hq).lt (Nat.not_le.mpr (hP k q hq).lt))
        exact vy_out (vx_out (fun x hx => (hxt x hx).elim) hlocks hce hcv hcl (fun t ht ha => ⟨u, trivial, ⟨⟨2, (by unfold fX4_allowed; rw [if_pos c_1, if_pos c_4, if_neg c_7]), rfl⟩, by rw [ht]; exact hP, hD⟩, hS.F ht⟩) hS.2.2 (Nat.le_of_ble_eq_true rfl) (Nat.le_of_ble_eq_true rfl))
      · skip
        have hH1 : H1 = _ := ht.symm.trans hB
        subst hH1
        have c_7 : fX4_requireRange x3 0 36524 = 0 := hw
        have t_8 := rr_lo c_7
        have t_9 := rr_hi c_7
        refine lv_aload_n hx hb dX4_allowed_19 rfl (lv_at hl 0 rfl) ?_
        refine lv_iload_n hx hb dX4_allowed_20 rfl (lv_at hl 1 rfl) ?_
        refine lv_iload_n hx hb dX4_allowed_21 rfl (lv_at hl 2 rfl) ?_
        refine lv_iload_n hx hb dX4_allowed_22 rfl (lv_at hl 3 rfl) ?_
        refine vp_callSi (W.runV (As := [.int x1, .int x2, .int x3]) (rest := []) ⟨hx, hb, hml, hown, hts⟩ (kX4_mayGo l dC dI g h u x1 x2 x3 (by omega) (by omega)) (cwV 3 hts (gV wd_136 wd_137 wd_138 wd_92 wcX4_mayGo) rfl rfl rfl (by decide +kernel) ⟨(Nat.le_of_ble_eq_true rfl), (Nat.le_of_ble_eq_true rfl)⟩) ⟨fun a U g mk q => by obtain ⟨q0, qP, qK⟩ := q; exact ⟨q0, qP, va_K.moved (u := U) (U := U.calling g mk a) (Vm.Alike.refl U.vm) qK⟩, va_recv hK hP (ci := 3) (q0 := 0) rfl (cw_at0 _ _ _), fun U hU hW => ⟨rfl, by rw [hU]; exact hP, va_K.moved hW.alike hK⟩⟩ rfl rfl hl.1 rfl (lv_room (Nat.le_of_ble_eq_true rfl)) dX4_allowed_23 ⟨(Nat.le_of_ble_eq_true rfl), (Nat.le_of_ble_eq_true rfl)⟩) (fun r_10 hw => ?_)
        subst hw
        exact vy_ret (W.zret (v := fX4_mayGo u x1 x2 x3) hx hb hr (i_nar (fX4_mayGo_01 _ _ _ _)) (fun t ht hW => ⟨⟨(fX4_mayGo u x1 x2 x3), u, rfl, (by unfold fX4_allowed; rw [if_pos c_1, if_pos c_4, if_pos c_7]), by rw [ht]; exact hP, hD⟩, hS.F ht⟩) hS.2.2 dX4_allowed_26)
set_option maxHeartbeats 4000000 in
set_option maxRecDepth 100000 in
theorem kX4_split (l : Launch) (hl9 : l.stackTraces = false) (dC : Nat → ClassId) (dI : Nat → Nat → Nat) (g : cG) (h : Nat → Nat) (u : cS) (sz : Nat) (x1 : Int32) (hI : cInv u) : vy_Met l yX4_split wsX4_split ({ frames := 7, cells := 1, slots := 6, locals := 103 }) (va_Pc [.ref (h 0), .int x1] (fun U => U.heap.size = sz ∧ va_P (dC, dI) vwCl (cw g h u) U.heap ∧ va_K (dC, dI) vwCl (cTys g) U ∧ va_D (fun _ => True) (cw g h u) ∧ zz (va_A (cw g h u) sz) U U.heap)) (va_Qi (fun (r : Int32) u2 => fX4_split u x1 = (0, r, u2)) (fun (u2 : cS) (t : State) => va_P (dC, dI) vwCl (cw g h u2) t.heap ∧ va_D (va_A (cw g h u) sz) (cw g h u2)) (va_A (cw g h u) sz)) (vx_X (fun _ => True) (fun E (u2 : cS) t => (∃ k : Nat, fX4_split u x1 = (k, 0, u2) ∧ ex_is k E) ∧ va_P (dC, dI) vwCl (cw g h u2) t.heap ∧ va_D (va_A (cw g h u) sz) (cw g h u2)) (va_A (cw g h u) sz)) 0 0 1 6 (va_A (cw g h u) sz) := by
  refine vy_ofW (cc := cX4_split) (maxL := 3) (ret := (some .int)) (by decide) rfl ?_
  intro p e s m args below meth c s₁ B hml hxt hv
  obtain ⟨rfl, hsz, hP, hK, hD0, hZ⟩ := hv
  have hx := B.exec
  have hb := B.bytes
  have hr := B.returns
  have hts := atoms_spec (ws := wsX4_split) B.pre
  have hown : s.vm.findClass RX4 = some m.cls := findClass_of_methodNamed B.named
  have hlocks := B.notSynchronized
  subst hsz
  have hD := hD0.self (sz := s.heap.size)
  generalize hAe : va_A (cw g h u) s.heap.size = A at hD hZ ⊢
  have hA : ∀ q : Nat, s.heap.size ≤ q → A q := fun q h => by rw [← hAe]; exact Or.inr h
  have hS : va_S A s.heap s.heap [] := va_S.rf
  have hl := lv_entry ([.ref (h 0), .int x1]) (n := 3) (Nat.le_of_ble_eq_true rfl)
  rw [lg_entry_eq]
  generalize (lg_sl ([.ref (h 0), .int x1]) ++ List.replicate (3 - (lg_sl ([.ref (h 0), .int x1])).length) Slot.unset).toArray = ls at hl ⊢
  have hl : lv_has ls 3 [(0, .ref (h 0)), (1, .int x1)] := hl
  obtain ⟨hI1, hI2, hI3, hI4, hI5, hI6⟩ := id hI
  have z_0 : (0 : Int32).toInt = 0 := by decide
  have z_1 : (2 : Int32).toInt = 2 := by decide
  refine lv_aload_n hx hb dX4_split_0 rfl (lv_at hl 0 rfl) ?_
  refine lv_iload_n hx hb dX4_split_1 rfl (lv_at hl 1 rfl) ?_
  refine vy_callv (vy_runV (As := [.int x1]) (rest := []) ⟨hx, hb, hml, hown, hts⟩ (kX4_requireLot l hl9 dC dI g h u _ x1) (cwV 1 hts (gV wd_114 wd_115 wd_116 wd_92 wcX4_requireLot) rfl rfl rfl (by decide +kernel) ⟨(Nat.le_of_ble_eq_true rfl), (Nat.le_of_ble_eq_true rfl)⟩) ⟨fun a U g mk q => by obtain ⟨q0, q1, qP, qK, qZ⟩ := q; exact ⟨q0, q1, qP, va_K.moved (u := U) (U := U.calling g mk a) (Vm.Alike.refl U.vm) qK, zz_same (u := U) (H := U.heap) rfl rfl qZ⟩, va_recv hK hP (ci := 3) (q0 := 0) rfl (cw_at0 _ _ _), fun U hU hW => ⟨rfl, hU, by rw [hU]; exact hP, va_K.moved hW.alike hK, by rw [hU]; exact zz_to hZ hS (fun q h => hA q (Nat.le_trans hS.1 h)) hW⟩⟩ rfl rfl hl.1 rfl (lv_room (Nat.le_of_ble_eq_true rfl)) dX4_split_2 ⟨(Nat.le_of_ble_eq_true rfl), (Nat.le_of_ble_eq_true rfl)⟩) hS (fun q h1 h2 => absurd h2 (Nat.not_le.mpr h1)) (fun q h => hA q (Nat.le_trans hS.1 h)) (fun q h1 h2 => absurd h2 (Nat.not_le.mpr h1)) (fun E ce q9 _ t H1 locs1 ht hvm hw hB hz1 hk1 hS hce hcv hcl => ?_) (fun _ t H1 locs1 ht hvm hw hB hz1 hk1 hS => ?_)
  · skip
    have c_1 : ¬ fX4_requireLot u x1 = 0 := by rw [hw]; decide
    subst hB
    have hP := hP.kept (fun k q hq => hk1 q.1 (hP k q hq).lt (Nat.not_le.mpr (hP k q hq).lt))
    exact vy_out (vx_out (fun x hx => (hxt x hx).elim) hlocks hce hcv hcl (fun t ht ha => ⟨u, trivial, ⟨⟨1, (by unfold fX4_split; rw [if_neg c_1]), rfl⟩, by rw [ht]; exact hP, hD⟩, hS.F ht⟩) hS.2.2 (Nat.le_of_ble_eq_true rfl) (Nat.le_of_ble_eq_true rfl))
  · skip
    have hH1 : H1 = _ := ht.symm.trans hB
    subst hH1
    have c_1 : fX4_requireLot u x1 = 0 := hw
    have t_2 := rl_lo c_1
    have t_3 := rl_hi c_1
    refine lv_aload_n hx hb dX4_split_5 rfl (lv_at hl 0 rfl) ?_
    refine va_get (D := (dC, dI)) (C := RX4) (T := TX4) (N := 9) (v := .ref (h 1)) hx hb hts (fi_X4 _) hown hK hP 0 (cw_at0 _ _ _) rfl 0 (by decide) (hts _ (List.mem_cons_of_mem _ wd_11)) (fun _ h9 => h9) rfl dX4_split_6 ?_
    refine va_get (D := (dC, dI)) (C := RX1) (T := TX1) (N := 9) (v := .ref (h 12)) hx hb hts (fi_X1 _) hown hK hP 1 (cw_at1 _ _ _) rfl 4 (by decide) (hts _ (List.mem_cons_of_mem _ wd_118)) (fun _ h9 => h9) rfl dX4_split_9 ?_
    refine lv_iload_n hx hb dX4_split_12 rfl (lv_at hl 1 rfl) ?_
    refine va_zald (f := k_open u) hx hb hK hP 12 1 (cw_at12 _ _ _) rfl (vp_in_iff.mpr (by omega)) dX4_split_13 ?_
    refine vy_callv (vy_runS (As := [.int (k_open u x1.toNatClampNeg)]) (rest := []) ⟨hx, hb, hml, hown, hts⟩ (kX4_requireState l hl9 dC dI _ (k_open u x1.toNatClampNeg)) (cwS 1 hts (gS wd_119 wd_120 wd_92 wcX4_requireState) rfl rfl rfl (by decide +kernel) ⟨(Nat.le_of_ble_eq_true rfl), (Nat.le_of_ble_eq_true rfl)⟩) ⟨fun a U g mk q => by obtain ⟨q0, q1, qZ⟩ := q; exact ⟨q0, q1, zz_same (u := U) (H := U.heap) rfl rfl qZ⟩, fun U hU hW => ⟨rfl, hU, by rw [hU]; exact zz_to hZ hS (fun q h => hA q (Nat.le_trans hS.1 h)) hW⟩⟩ rfl rfl hl.1 rfl (lv_room (Nat.le_of_ble_eq_true rfl)) dX4_split_14 ⟨(Nat.le_of_ble_eq_true rfl), (Nat.le_of_ble_eq_true rfl)⟩) hS (fun q h1 h2 => absurd h2 (Nat.not_le.mpr h1)) (fun q h => hA q (Nat.le_trans hS.1 h)) (fun q h1 h2 => absurd h2 (Nat.not_le.mpr h1)) (fun E ce q9 _ t H1 locs1 ht hvm hw hB hz1 hk1 hS hce hcv hcl => ?_) (fun _ t H1 locs1 ht hvm hw hB hz1 hk1 hS => ?_)
    · skip
      have c_4 : ¬ fX4_requireState (k_open u x1.toNatClampNeg) = 0 := by rw [hw]; decide
      subst hB
      have hP := hP.kept (fun k q hq => hk1 q.1 (hP k q hq).lt (Nat.not_le.mpr (hP k q hq).lt))
      exact vy_out (vx_out (fun x hx => (hxt x hx).elim) hlocks hce hcv hcl (fun t ht ha => ⟨u, trivial, ⟨⟨3, (by unfold fX4_split; rw [if_pos c_1, if_neg c_4]), rfl⟩, by rw [ht]; exact hP, hD⟩, hS.F ht⟩) hS.2.2 (Nat.le_of_ble_eq_true rfl) (Nat.le_of_ble_eq_true rfl))
    · skip
      have hH1 : H1 = _ := ht.symm.trans hB
      subst hH1
      have c_4 : fX4_requireState (k_open u x1.toNatClampNeg) = 0 := hw
      refine lv_aload_n hx hb dX4_split_17 rfl (lv_at hl 0 rfl) ?_
      refine va_get (D := (dC, dI)) (C := RX4) (T := TX4) (N := 9) (v := .ref (h 1)) hx hb hts (fi_X4 _) hown hK hP 0 (cw_at0 _ _ _) rfl 0 (by decide) (hts _ (List.mem_cons_of_mem _ wd_11)) (fun _ h9 => h9) rfl dX4_split_18 ?_
      refine vp_callSi (W.runV (As := []) (rest := []) ⟨hx, hb, hml, hown, hts⟩ (kX1_haveRoom l dC dI g h u) (cwV 0 hts (gV wd_95 wd_96 wd_97 wd_28 wcX1_haveRoom) rfl rfl rfl (by decide +kernel) ⟨(Nat.le_of_ble_eq_true rfl), (Nat.le_of_ble_eq_true rfl)⟩) ⟨fun a U g mk q => by obtain ⟨q0, qP, qK⟩ := q; exact ⟨q0, qP, va_K.moved (u := U) (U := U.calling g mk a) (Vm.Alike.refl U.vm) qK⟩, va_recv hK hP (ci := 0) (q0 := 1) rfl (cw_at1 _ _ _), fun U hU hW => ⟨rfl, by rw [hU]; exact hP, va_K.moved hW.alike hK⟩⟩ rfl rfl hl.1 rfl (lv_room (Nat.le_of_ble_eq_true rfl)) dX4_split_21 ⟨(Nat.le_of_ble_eq_true rfl), (Nat.le_of_ble_eq_true rfl)⟩) (fun r_5 hw => ?_)
      subst hw
      refine lv_if_eq (tgt := 42) hx hb dX4_split_24 (by decide) (fun c_6 => ?_) (fun c_6 => ?_)
      · skip
        have t_7 : (fX1_haveRoom u).toInt = 0 := i_eq c_6 rfl (by decide)
        refine lv_iconst (v := 0) hx hb dX4_split_42 (by decide) ?_
        refine vy_callv (vy_runS (As := [.int 0]) (rest := []) ⟨hx, hb, hml, hown, hts⟩ (kX4_requireRoom l hl9 dC dI _ 0) (cwS 1 hts (gS wd_99 wd_100 wd_92 wcX4_requireRoom) rfl rfl rfl (by decide +kernel) ⟨(Nat.le_of_ble_eq_true rfl), (Nat.le_of_ble_eq_true rfl)⟩) ⟨fun a U g mk q => by obtain ⟨q0, q1, qZ⟩ := q; exact ⟨q0, q1, zz_same (u := U) (H := U.heap) rfl rfl qZ⟩, fun U hU hW => ⟨rfl, hU, by rw [hU]; exact zz_to hZ hS (fun q h => hA q (Nat.le_trans hS.1 h)) hW⟩⟩ rfl rfl hl.1 rfl (lv_room (Nat.le_of_ble_eq_true rfl)) dX4_split_43 ⟨(Nat.le_of_ble_eq_true rfl), (Nat.le_of_ble_eq_true rfl)⟩) hS (fun q h1 h2 => absurd h2 (Nat.not_le.mpr h1)) (fun q h => hA q (Nat.le_trans hS.1 h)) (fun q h1 h2 => absurd h2 (Nat.not_le.mpr h1)) (fun E ce q9 _ t H1 locs1 ht hvm hw hB hz1 hk1 hS hce hcv hcl => ?_) (fun _ t H1 locs1 ht hvm hw hB hz1 hk1 hS => ?_)
        · skip
          subst hB
          have hP := hP.kept (fun k q hq => hk1 q.1 (hP k q hq).lt (Nat.not_le.mpr (hP k q hq).lt))
          exact vy_out (vx_out (fun x hx => (hxt x hx).elim) hlocks hce hcv hcl (fun t ht ha => ⟨u, trivial, ⟨⟨4, (by unfold fX4_split; rw [if_pos c_1, if_pos c_4, if_pos c_6]), rfl⟩, by rw [ht]; exact hP, hD⟩, hS.F ht⟩) hS.2.2 (Nat.le_of_ble_eq_true rfl) (Nat.le_of_ble_eq_true rfl))
        · skip
          exact absurd hw (by decide)
      · skip
        have t_9 : (fX1_haveRoom u).toInt ≠ 0 := i_ne c_6 rfl (by decide)
        have t_10 := hl_room c_6
        refine lv_aload_n hx hb dX4_split_27 rfl (lv_at hl 0 rfl) ?_
        refine va_get (D := (dC, dI)) (C := RX4) (T := TX4) (N := 9) (v := .ref (h 3)) hx hb hts (fi_X4 _) hown hK hP 0 (cw_at0 _ _ _) rfl 2 (by decide) (hts _ (List.mem_cons_of_mem _ wd_87)) (fun _ h9 => h9) rfl dX4_split_28 ?_
        refine lv_iconst (v := 2) hx hb dX4_split_31 (by decide) ?_
        refine vp_callSi (W.runV (As := [.int 2]) (rest := []) ⟨hx, hb, hml, hown, hts⟩ (kX2_haveRoomFor l dC dI g h u 2) (cwV 1 hts (gV wd_102 wd_103 wd_104 wd_105 wcX2_haveRoomFor) rfl rfl rfl (by decide +kernel) ⟨(Nat.le_of_ble_eq_true rfl), (Nat.le_of_ble_eq_true rfl)⟩) ⟨fun a U g mk q => by obtain ⟨q0, qP, qK⟩ := q; exact ⟨q0, qP, va_K.moved (u := U) (U := U.calling g mk a) (Vm.Alike.refl U.vm) qK⟩, va_recv hK hP (ci := 1) (q0 := 3) rfl (cw_at3 _ _ _), fun U hU hW => ⟨rfl, by rw [hU]; exact hP, va_K.moved hW.alike hK⟩⟩ rfl rfl hl.1 rfl (lv_room (Nat.le_of_ble_eq_true rfl)) dX4_split_32 ⟨(Nat.le_of_ble_eq_true rfl), (Nat.le_of_ble_eq_true rfl)⟩) (fun r_11 hw => ?_)
        subst hw
        refine lv_if_eq (tgt := 42) hx hb dX4_split_35 (by decide) (fun c_12 => ?_) (fun c_12 => ?_)
        · skip
          have t_13 : (fX2_haveRoomFor u 2).toInt = 0 := i_eq c_12 rfl (by decide)
          refine lv_iconst (v := 0) hx hb dX4_split_42 (by decide) ?_
          refine vy_callv (vy_runS (As := [.int 0]) (rest := []) ⟨hx, hb, hml, hown, hts⟩ (kX4_requireRoom l hl9 dC dI _ 0) (cwS 1 hts (gS wd_99 wd_100 wd_92 wcX4_requireRoom) rfl rfl rfl (by decide +kernel) ⟨(Nat.le_of_ble_eq_true rfl), (Nat.le_of_ble_eq_true rfl)⟩) ⟨fun a U g mk q => by obtain ⟨q0, q1, qZ⟩ := q; exact ⟨q0, q1, zz_same (u := U) (H := U.heap) rfl rfl qZ⟩, fun U hU hW => ⟨rfl, hU, by rw [hU]; exact zz_to hZ hS (fun q h => hA q (Nat.le_trans hS.1 h)) hW⟩⟩ rfl rfl hl.1 rfl (lv_room (Nat.le_of_ble_eq_true rfl)) dX4_split_43 ⟨(Nat.le_of_ble_eq_true rfl), (Nat.le_of_ble_eq_true rfl)⟩) hS (fun q h1 h2 => absurd h2 (Nat.not_le.mpr h1)) (fun q h => hA q (Nat.le_trans hS.1 h)) (fun q h1 h2 => absurd h2 (Nat.not_le.mpr h1)) (fun E ce q9 _ t H1 locs1 ht hvm hw hB hz1 hk1 hS hce hcv hcl => ?_) (fun _ t H1 locs1 ht hvm hw hB hz1 hk1 hS => ?_)
          · skip
            subst hB
            have hP := hP.kept (fun k q hq => hk1 q.1 (hP k q hq).lt (Nat.not_le.mpr (hP k q hq).lt))
            exact vy_out (vx_out (fun x hx => (hxt x hx).elim) hlocks hce hcv hcl (fun t ht ha => ⟨u, trivial, ⟨⟨4, (by unfold fX4_split; rw [if_pos c_1, if_pos c_4, if_neg c_6, if_pos c_12]), rfl⟩, by rw [ht]; exact hP, hD⟩, hS.F ht⟩) hS.2.2 (Nat.le_of_ble_eq_true rfl) (Nat.le_of_ble_eq_true rfl))
          · skip
            exact absurd hw (by decide)
        · skip
          have t_15 : (fX2_haveRoomFor u 2).toInt ≠ 0 := i_ne c_12 rfl (by decide)
          have t_16 := hr_room2 c_12 hI3
          refine lv_iconst (v := 1) hx hb dX4_split_38 (by decide) ?_
          refine lv_goto (tgt := 43) hx hb dX4_split_39 (by decide) ?_
          refine vy_callv (vy_runS (As := [.int 1]) (rest := []) ⟨hx, hb, hml, hown, hts⟩ (kX4_requireRoom l hl9 dC dI _ 1) (cwS 1 hts (gS wd_99 wd_100 wd_92 wcX4_requireRoom) rfl rfl rfl (by decide +kernel) ⟨(Nat.le_of_ble_eq_true rfl), (Nat.le_of_ble_eq_true rfl)⟩) ⟨fun a U g mk q => by obtain ⟨q0, q1, qZ⟩ := q; exact ⟨q0, q1, zz_same (u := U) (H := U.heap) rfl rfl qZ⟩, fun U hU hW => ⟨rfl, hU, by rw [hU]; exact zz_to hZ hS (fun q h => hA q (Nat.le_trans hS.1 h)) hW⟩⟩ rfl rfl hl.1 rfl (lv_room (Nat.le_of_ble_eq_true rfl)) dX4_split_43 ⟨(Nat.le_of_ble_eq_true rfl), (Nat.le_of_ble_eq_true rfl)⟩) hS (fun q h1 h2 => absurd h2 (Nat.not_le.mpr h1)) (fun q h => hA q (Nat.le_trans hS.1 h)) (fun q h1 h2 => absurd h2 (Nat.not_le.mpr h1)) (fun E ce q9 _ t H1 locs1 ht hvm hw hB hz1 hk1 hS hce hcv hcl => ?_) (fun _ t H1 locs1 ht hvm hw hB hz1 hk1 hS => ?_)
          · skip
            exact absurd hw (by decide)
          · skip
            have hH1 : H1 = _ := ht.symm.trans hB
            subst hH1
            refine lv_aload_n hx hb dX4_split_46 rfl (lv_at hl 0 rfl) ?_
            refine va_get (D := (dC, dI)) (C := RX4) (T := TX4) (N := 9) (v := .ref (h 1)) hx hb hts (fi_X4 _) hown hK hP 0 (cw_at0 _ _ _) rfl 0 (by decide) (hts _ (List.mem_cons_of_mem _ wd_11)) (fun _ h9 => h9) rfl dX4_split_47 ?_
            refine lv_iload_n hx hb dX4_split_50 rfl (lv_at hl 1 rfl) ?_
            have hFc := va_free (wc := cw g h u) hD hS hA [0, 1, 2, 3, 4, 5, 6, 7, 8, 9, 10, 11, 12, 13, 14, 15, 16, 17, 18, 19, 20, 21, 22, 23] rfl
            refine va_calli (va_runV (As := [.int x1]) (rest := []) ⟨hx, hb, hml, hown, hts⟩ (kX1_addPartOf l dC dI g h u _ x1 (by omega) (by omega)) (cwV 1 hts (gV wd_140 wd_141 wd_142 wd_28 wcX1_addPartOf) rfl rfl rfl (by decide +kernel) ⟨(Nat.le_of_ble_eq_true rfl), (Nat.le_of_ble_eq_true rfl)⟩) ⟨fun a U g mk q => by obtain ⟨q0, q1, qP, qK, qD⟩ := q; exact ⟨q0, q1, qP, va_K.moved (u := U) (U := U.calling g mk a) (Vm.Alike.refl U.vm) qK, qD⟩, va_recv hK hP (ci := 0) (q0 := 1) rfl (cw_at1 _ _ _), fun U hU hW => ⟨rfl, by rw [hU], by rw [hU]; exact hP, va_K.moved hW.alike hK, hD.weaken (fun _ _ _ _ => trivial)⟩⟩ rfl rfl hl.1 rfl (lv_room (Nat.le_of_ble_eq_true rfl)) dX4_split_51 ⟨(Nat.le_of_ble_eq_true rfl), (Nat.le_of_ble_eq_true rfl)⟩) hS (fun q _ h => hFc q h) hFc (fun r_19 u_18 t H locs ht hvm hw hB hz1 hk1 hS => ?_)
            obtain ⟨hP, hD⟩ := hB
            rw [ht] at hP
            have hD := hD.weaken (fun _ _ _ h => hFc _ h)
            have e_20 : r_19 = (fX1_addPartOf u x1).1 := congrArg Prod.fst hw
            have e_21 : u_18 = (fX1_addPartOf u x1).2 := congrArg Prod.snd hw
            clear hw
            refine lv_istore_n (lv' := [(2, .int r_19), (0, .ref (h 0)), (1, .int x1)]) hx hb dX4_split_54 rfl hl (by decide) rfl (fun ls hl => ?_)
            refine lv_aload_n hx hb dX4_split_55 rfl (lv_at hl 1 rfl) ?_
            refine va_get (D := (dC, dI)) (C := RX4) (T := TX4) (N := 9) (v := .ref (h 3)) hx hb hts (fi_X4 _) hown hK hP 0 (cw_at0 _ _ _) rfl 2 (by decide) (hts _ (List.mem_cons_of_mem _ wd_87)) (fun _ h9 => h9) rfl dX4_split_56 ?_
            refine lv_iload_n hx hb dX4_split_59 rfl (lv_at hl 0 rfl) ?_
            refine lv_iconst (v := 2) hx hb dX4_split_60 (by decide) ?_
            refine lv_iload_n hx hb dX4_split_61 rfl (lv_at hl 2 rfl) ?_
            have hFc := va_free (wc := cw g h u_18) hD hS hA [0, 1, 2, 3, 4, 5, 6, 7, 8, 9, 10, 11, 12, 13, 14, 15, 16, 17, 18, 19, 20, 21, 22, 23] rfl
            refine va_callv (va_runV (As := [.int r_19, .int 2, .int x1]) (rest := []) ⟨hx, hb, hml, hown, hts⟩ (kX2_write l dC dI g h u_18 _ r_19 2 x1 (by subst e_21; subst e_20; show 0 ≤ (k_rwrit u).toInt ∧ (k_rwrit u).toInt < 400; omega)) (cwV 3 hts (gV wd_108 wd_109 wd_110 wd_105 wcX2_write) rfl rfl rfl (by decide +kernel) ⟨(Nat.le_of_ble_eq_true rfl), (Nat.le_of_ble_eq_true rfl)⟩) ⟨fun a U g mk q => by obtain ⟨q0, q1, qP, qK, qD⟩ := q; exact ⟨q0, q1, qP, va_K.moved (u := U) (U := U.calling g mk a) (Vm.Alike.refl U.vm) qK, qD⟩, va_recv hK hP (ci := 1) (q0 := 3) rfl (cw_at3 _ _ _), fun U hU hW => ⟨rfl, by rw [hU], by rw [hU]; exact hP, va_K.moved hW.alike hK, hD.weaken (fun _ _ _ _ => trivial)⟩⟩ rfl rfl hl.1 rfl (lv_room (Nat.le_of_ble_eq_true rfl)) dX4_split_62 ⟨(Nat.le_of_ble_eq_true rfl), (Nat.le_of_ble_eq_true rfl)⟩) hS (fun q _ h => hFc q h) hFc (fun u_22 t H locs ht hvm hw hB hz1 hk1 hS => ?_)
            obtain ⟨hP, hD⟩ := hB
            rw [ht] at hP
            have hD := hD.weaken (fun _ _ _ h => hFc _ h)
            have e_24 : u_22 = fX2_write u_18 r_19 2 x1 := hw
            clear hw
            refine lv_aload_n hx hb dX4_split_65 rfl (lv_at hl 1 rfl) ?_
            refine va_get (D := (dC, dI)) (C := RX4) (T := TX4) (N := 9) (v := .ref (h 3)) hx hb hts (fi_X4 _) hown hK hP 0 (cw_at0 _ _ _) rfl 2 (by decide) (hts _ (List.mem_cons_of_mem _ wd_87)) (fun _ h9 => h9) rfl dX4_split_66 ?_
            refine lv_iload_n hx hb dX4_split_69 rfl (lv_at hl 2 rfl) ?_
            refine lv_iconst (v := 3) hx hb dX4_split_70 (by decide) ?_
            refine lv_iload_n hx hb dX4_split_71 rfl (lv_at hl 0 rfl) ?_
            have hFc := va_free (wc := cw g h u_22) hD hS hA [0, 1, 2, 3, 4, 5, 6, 7, 8, 9, 10, 11, 12, 13, 14, 15, 16, 17, 18, 19, 20, 21, 22, 23] rfl
            refine va_callv (va_runV (As := [.int x1, .int 3, .int r_19]) (rest := []) ⟨hx, hb, hml, hown, hts⟩ (kX2_write l dC dI g h u_22 _ x1 3 r_19 (by subst e_24; subst e_21; subst e_20; have hm2 := i_inc (x := k_rwrit u) (by omega); show 0 ≤ (k_rwrit u + 1).toInt ∧ (k_rwrit u + 1).toInt < 400; omega)) (cwV 3 hts (gV wd_108 wd_109 wd_110 wd_105 wcX2_write) rfl rfl rfl (by decide +kernel) ⟨(Nat.le_of_ble_eq_true rfl), (Nat.le_of_ble_eq_true rfl)⟩) ⟨fun a U g mk q => by obtain ⟨q0, q1, qP, qK, qD⟩ := q; exact ⟨q0, q1, qP, va_K.moved (u := U) (U := U.calling g mk a) (Vm.Alike.refl U.vm) qK, qD⟩, va_recv hK hP (ci := 1) (q0 := 3) rfl (cw_at3 _ _ _), fun U hU hW => ⟨rfl, by rw [hU], by rw [hU]; exact hP, va_K.moved hW.alike hK, hD.weaken (fun _ _ _ _ => trivial)⟩⟩ rfl rfl hl.1 rfl (lv_room (Nat.le_of_ble_eq_true rfl)) dX4_split_72 ⟨(Nat.le_of_ble_eq_true rfl), (Nat.le_of_ble_eq_true rfl)⟩) hS (fun q _ h => hFc q h) hFc (fun u_25 t H locs ht hvm hw hB hz1 hk1 hS => ?_)
            obtain ⟨hP, hD⟩ := hB
            rw [ht] at hP
            have hD := hD.weaken (fun _ _ _ h => hFc _ h)
            have e_27 : u_25 = fX2_write u_22 x1 3 r_19 := hw
            clear hw
            refine lv_iload_n hx hb dX4_split_75 rfl (lv_at hl 0 rfl) ?_
            exact vy_ret (W.iret (v := r_19) hx hb hr (fun t ht hW => ⟨⟨r_19, u_25, rfl, (by subst e_27; subst e_24; subst e_21; subst e_20; unfold fX4_split; rw [if_pos c_1, if_pos c_4, if_neg c_6, if_neg c_12]), by rw [ht]; exact hP, hD⟩, hS.F ht⟩) hS.2.2 dX4_split_76)
set_option maxHeartbeats 4000000 in
set_option maxRecDepth 100000 in
theorem kX4_join (l : Launch) (hl9 : l.stackTraces = false) (dC : Nat → ClassId) (dI : Nat → Nat → Nat) (g : cG) (h : Nat → Nat) (u : cS) (sz : Nat) (x1 : Int32) (x2 : Int32) (hI : cInv u) : vy_Met l yX4_join wsX4_join ({ frames := 7, cells := 1, slots := 6, locals := 103 }) (va_Pc [.ref (h 0), .int x1, .int x2] (fun U => U.heap.size = sz ∧ va_P (dC, dI) vwCl (cw g h u) U.heap ∧ va_K (dC, dI) vwCl (cTys g) U ∧ va_D (fun _ => True) (cw g h u) ∧ zz (va_A (cw g h u) sz) U U.heap)) (va_Qv (fun u2 => fX4_join u x1 x2 = (0, 0, u2)) (fun (u2 : cS) (t : State) => va_P (dC, dI) vwCl (cw g h u2) t.heap ∧ va_D (va_A (cw g h u) sz) (cw g h u2)) (va_A (cw g h u) sz)) (vx_X (fun _ => True) (fun E (u2 : cS) t => (∃ k : Nat, fX4_join u x1 x2 = (k, 0, u2) ∧ ex_is k E) ∧ va_P (dC, dI) vwCl (cw g h u2) t.heap ∧ va_D (va_A (cw g h u) sz) (cw g h u2)) (va_A (cw g h u) sz)) 0 0 1 6 (va_A (cw g h u) sz) := by
  refine vy_ofW (cc := cX4_join) (maxL := 3) (ret := none) (by decide) rfl ?_
  intro p e s m args below meth c s₁ B hml hxt hv
  obtain ⟨rfl, hsz, hP, hK, hD0, hZ⟩ := hv
  have hx := B.exec
  have hb := B.bytes
  have hr := B.returns
  have hts := atoms_spec (ws := wsX4_join) B.pre
  have hown : s.vm.findClass RX4 = some m.cls := findClass_of_methodNamed B.named
  have hlocks := B.notSynchronized
  subst hsz
  have hD := hD0.self (sz := s.heap.size)
  generalize hAe : va_A (cw g h u) s.heap.size = A at hD hZ ⊢
  have hA : ∀ q : Nat, s.heap.size ≤ q → A q := fun q h => by rw [← hAe]; exact Or.inr h
  have hS : va_S A s.heap s.heap [] := va_S.rf
  have hl := lv_entry ([.ref (h 0), .int x1, .int x2]) (n := 3) (Nat.le_of_ble_eq_true rfl)
  rw [lg_entry_eq]
  generalize (lg_sl ([.ref (h 0), .int x1, .int x2]) ++ List.replicate (3 - (lg_sl ([.ref (h 0), .int x1, .int x2])).length) Slot.unset).toArray = ls at hl ⊢
  have hl : lv_has ls 3 [(0, .ref (h 0)), (1, .int x1), (2, .int x2)] := hl
  obtain ⟨hI1, hI2, hI3, hI4, hI5, hI6⟩ := id hI
  refine lv_aload_n hx hb dX4_join_0 rfl (lv_at hl 0 rfl) ?_
  refine lv_iload_n hx hb dX4_join_1 rfl (lv_at hl 1 rfl) ?_
  refine vy_callv (vy_runV (As := [.int x1]) (rest := []) ⟨hx, hb, hml, hown, hts⟩ (kX4_requireLot l hl9 dC dI g h u _ x1) (cwV 1 hts (gV wd_114 wd_115 wd_116 wd_92 wcX4_requireLot) rfl rfl rfl (by decide +kernel) ⟨(Nat.le_of_ble_eq_true rfl), (Nat.le_of_ble_eq_true rfl)⟩) ⟨fun a U g mk q => by obtain ⟨q0, q1, qP, qK, qZ⟩ := q; exact ⟨q0, q1, qP, va_K.moved (u := U) (U := U.calling g mk a) (Vm.Alike.refl U.vm) qK, zz_same (u := U) (H := U.heap) rfl rfl qZ⟩, va_recv hK hP (ci := 3) (q0 := 0) rfl (cw_at0 _ _ _), fun U hU hW => ⟨rfl, hU, by rw [hU]; exact hP, va_K.moved hW.alike hK, by rw [hU]; exact zz_to hZ hS (fun q h => hA q (Nat.le_trans hS.1 h)) hW⟩⟩ rfl rfl hl.1 rfl (lv_room (Nat.le_of_ble_eq_true rfl)) dX4_join_2 ⟨(Nat.le_of_ble_eq_true rfl), (Nat.le_of_ble_eq_true rfl)⟩) hS (fun q h1 h2 => absurd h2 (Nat.not_le.mpr h1)) (fun q h => hA q (Nat.le_trans hS.1 h)) (fun q h1 h2 => absurd h2 (Nat.not_le.mpr h1)) (fun E ce q9 _ t H1 locs1 ht hvm hw hB hz1 hk1 hS hce hcv hcl => ?_) (fun _ t H1 locs1 ht hvm hw hB hz1 hk1 hS => ?_)
  · skip
    have c_1 : ¬ fX4_requireLot u x1 = 0 := by rw [hw]; decide
    subst hB
    have hP := hP.kept (fun k q hq => hk1 q.1 (hP k q hq).lt (Nat.not_le.mpr (hP k q hq).lt))
    exact vy_out (vx_out (fun x hx => (hxt x hx).elim) hlocks hce hcv hcl (fun t ht ha => ⟨u, trivial, ⟨⟨1, (by unfold fX4_join; rw [if_neg c_1]), rfl⟩, by rw [ht]; exact hP, hD⟩, hS.F ht⟩) hS.2.2 (Nat.le_of_ble_eq_true rfl) (Nat.le_of_ble_eq_true rfl))
  · skip
    have hH1 : H1 = _ := ht.symm.trans hB
    subst hH1
    have c_1 : fX4_requireLot u x1 = 0 := hw
    have t_2 := rl_lo c_1
    have t_3 := rl_hi c_1
    refine lv_aload_n hx hb dX4_join_5 rfl (lv_at hl 0 rfl) ?_
    refine lv_iload_n hx hb dX4_join_6 rfl (lv_at hl 2 rfl) ?_
    refine vy_callv (vy_runV (As := [.int x2]) (rest := []) ⟨hx, hb, hml, hown, hts⟩ (kX4_requireLot l hl9 dC dI g h u _ x2) (cwV 1 hts (gV wd_114 wd_115 wd_116 wd_92 wcX4_requireLot) rfl rfl rfl (by decide +kernel) ⟨(Nat.le_of_ble_eq_true rfl), (Nat.le_of_ble_eq_true rfl)⟩) ⟨fun a U g mk q => by obtain ⟨q0, q1, qP, qK, qZ⟩ := q; exact ⟨q0, q1, qP, va_K.moved (u := U) (U := U.calling g mk a) (Vm.Alike.refl U.vm) qK, zz_same (u := U) (H := U.heap) rfl rfl qZ⟩, va_recv hK hP (ci := 3) (q0 := 0) rfl (cw_at0 _ _ _), fun U hU hW => ⟨rfl, hU, by rw [hU]; exact hP, va_K.moved hW.alike hK, by rw [hU]; exact zz_to hZ hS (fun q h => hA q (Nat.le_trans hS.1 h)) hW⟩⟩ rfl rfl hl.1 rfl (lv_room (Nat.le_of_ble_eq_true rfl)) dX4_join_7 ⟨(Nat.le_of_ble_eq_true rfl), (Nat.le_of_ble_eq_true rfl)⟩) hS (fun q h1 h2 => absurd h2 (Nat.not_le.mpr h1)) (fun q h => hA q (Nat.le_trans hS.1 h)) (fun q h1 h2 => absurd h2 (Nat.not_le.mpr h1)) (fun E ce q9 _ t H1 locs1 ht hvm hw hB hz1 hk1 hS hce hcv hcl => ?_) (fun _ t H1 locs1 ht hvm hw hB hz1 hk1 hS => ?_)
    · skip
      have c_4 : ¬ fX4_requireLot u x2 = 0 := by rw [hw]; decide
      subst hB
      have hP := hP.kept (fun k q hq => hk1 q.1 (hP k q hq).lt (Nat.not_le.mpr (hP k q hq).lt))
      exact vy_out (vx_out (fun x hx => (hxt x hx).elim) hlocks hce hcv hcl (fun t ht ha => ⟨u, trivial, ⟨⟨1, (by unfold fX4_join; rw [if_pos c_1, if_neg c_4]), rfl⟩, by rw [ht]; exact hP, hD⟩, hS.F ht⟩) hS.2.2 (Nat.le_of_ble_eq_true rfl) (Nat.le_of_ble_eq_true rfl))
    · skip
      have hH1 : H1 = _ := ht.symm.trans hB
      subst hH1
      have c_4 : fX4_requireLot u x2 = 0 := hw
      have t_5 := rl_lo c_4
      have t_6 := rl_hi c_4
      refine lv_iload_n hx hb dX4_join_10 rfl (lv_at hl 1 rfl) ?_
      refine lv_iload_n hx hb dX4_join_11 rfl (lv_at hl 2 rfl) ?_
      refine lv_icmp_eq (tgt := 55) hx hb dX4_join_12 (by decide) (fun c_7 => ?_) (fun c_7 => ?_)
      · skip
        have t_8 : x1.toInt = x2.toInt := i_eq c_7 rfl rfl
        refine lv_iconst (v := 0) hx hb dX4_join_55 (by decide) ?_
        refine vy_callv (vy_runS (As := [.int 0]) (rest := []) ⟨hx, hb, hml, hown, hts⟩ (kX4_requireState l hl9 dC dI _ 0) (cwS 1 hts (gS wd_119 wd_120 wd_92 wcX4_requireState) rfl rfl rfl (by decide +kernel) ⟨(Nat.le_of_ble_eq_true rfl), (Nat.le_of_ble_eq_true rfl)⟩) ⟨fun a U g mk q => by obtain ⟨q0, q1, qZ⟩ := q; exact ⟨q0, q1, zz_same (u := U) (H := U.heap) rfl rfl qZ⟩, fun U hU hW => ⟨rfl, hU, by rw [hU]; exact zz_to hZ hS (fun q h => hA q (Nat.le_trans hS.1 h)) hW⟩⟩ rfl rfl hl.1 rfl (lv_room (Nat.le_of_ble_eq_true rfl)) dX4_join_56 ⟨(Nat.le_of_ble_eq_true rfl), (Nat.le_of_ble_eq_true rfl)⟩) hS (fun q h1 h2 => absurd h2 (Nat.not_le.mpr h1)) (fun q h => hA q (Nat.le_trans hS.1 h)) (fun q h1 h2 => absurd h2 (Nat.not_le.mpr h1)) (fun E ce q9 _ t H1 locs1 ht hvm hw hB hz1 hk1 hS hce hcv hcl => ?_) (fun _ t H1 locs1 ht hvm hw hB hz1 hk1 hS => ?_)
        · skip
          subst hB
          have hP := hP.kept (fun k q hq => hk1 q.1 (hP k q hq).lt (Nat.not_le.mpr (hP k q hq).lt))
          exact vy_out (vx_out (fun x hx => (hxt x hx).elim) hlocks hce hcv hcl (fun t ht ha => ⟨u, trivial, ⟨⟨3, (by unfold fX4_join; rw [if_pos c_1, if_pos c_4, if_pos c_7]), rfl⟩, by rw [ht]; exact hP, hD⟩, hS.F ht⟩) hS.2.2 (Nat.le_of_ble_eq_true rfl) (Nat.le_of_ble_eq_true rfl))
        · skip
          exact absurd hw (by decide)
      · skip
        have t_10 : x1.toInt ≠ x2.toInt := i_ne c_7 rfl rfl
        refine lv_aload_n hx hb dX4_join_15 rfl (lv_at hl 0 rfl) ?_
        refine va_get (D := (dC, dI)) (C := RX4) (T := TX4) (N := 9) (v := .ref (h 1)) hx hb hts (fi_X4 _) hown hK hP 0 (cw_at0 _ _ _) rfl 0 (by decide) (hts _ (List.mem_cons_of_mem _ wd_11)) (fun _ h9 => h9) rfl dX4_join_16 ?_
        refine va_get (D := (dC, dI)) (C := RX1) (T := TX1) (N := 9) (v := .ref (h 12)) hx hb hts (fi_X1 _) hown hK hP 1 (cw_at1 _ _ _) rfl 4 (by decide) (hts _ (List.mem_cons_of_mem _ wd_118)) (fun _ h9 => h9) rfl dX4_join_19 ?_
        refine lv_iload_n hx hb dX4_join_22 rfl (lv_at hl 1 rfl) ?_
        refine va_zald (f := k_open u) hx hb hK hP 12 1 (cw_at12 _ _ _) rfl (vp_in_iff.mpr (by omega)) dX4_join_23 ?_
        refine lv_if_eq (tgt := 55) hx hb dX4_join_24 (by decide) (fun c_11 => ?_) (fun c_11 => ?_)
        · skip
          have t_12 : (k_open u x1.toNatClampNeg).toInt = 0 := i_eq c_11 rfl (by decide)
          refine lv_iconst (v := 0) hx hb dX4_join_55 (by decide) ?_
          refine vy_callv (vy_runS (As := [.int 0]) (rest := []) ⟨hx, hb, hml, hown, hts⟩ (kX4_requireState l hl9 dC dI _ 0) (cwS 1 hts (gS wd_119 wd_120 wd_92 wcX4_requireState) rfl rfl rfl (by decide +kernel) ⟨(Nat.le_of_ble_eq_true rfl), (Nat.le_of_ble_eq_true rfl)⟩) ⟨fun a U g mk q => by obtain ⟨q0, q1, qZ⟩ := q; exact ⟨q0, q1, zz_same (u := U) (H := U.heap) rfl rfl qZ⟩, fun U hU hW => ⟨rfl, hU, by rw [hU]; exact zz_to hZ hS (fun q h => hA q (Nat.le_trans hS.1 h)) hW⟩⟩ rfl rfl hl.1 rfl (lv_room (Nat.le_of_ble_eq_true rfl)) dX4_join_56 ⟨(Nat.le_of_ble_eq_true rfl), (Nat.le_of_ble_eq_true rfl)⟩) hS (fun q h1 h2 => absurd h2 (Nat.not_le.mpr h1)) (fun q h => hA q (Nat.le_trans hS.1 h)) (fun q h1 h2 => absurd h2 (Nat.not_le.mpr h1)) (fun E ce q9 _ t H1 locs1 ht hvm hw hB hz1 hk1 hS hce hcv hcl => ?_) (fun _ t H1 locs1 ht hvm hw hB hz1 hk1 hS => ?_)
          · skip
            subst hB
            have hP := hP.kept (fun k q hq => hk1 q.1 (hP k q hq).lt (Nat.not_le.mpr (hP k q hq).lt))
            exact vy_out (vx_out (fun x hx => (hxt x hx).elim) hlocks hce hcv hcl (fun t ht ha => ⟨u, trivial, ⟨⟨3, (by unfold fX4_join; rw [if_pos c_1, if_pos c_4, if_neg c_7, if_pos c_11]), rfl⟩, by rw [ht]; exact hP, hD⟩, hS.F ht⟩) hS.2.2 (Nat.le_of_ble_eq_true rfl) (Nat.le_of_ble_eq_true rfl))
          · skip
            exact absurd hw (by decide)
        · skip
          have t_14 : (k_open u x1.toNatClampNeg).toInt ≠ 0 := i_ne c_11 rfl (by decide)
          refine lv_aload_n hx hb dX4_join_27 rfl (lv_at hl 0 rfl) ?_
          refine va_get (D := (dC, dI)) (C := RX4) (T := TX4) (N := 9) (v := .ref (h 1)) hx hb hts (fi_X4 _) hown hK hP 0 (cw_at0 _ _ _) rfl 0 (by decide) (hts _ (List.mem_cons_of_mem _ wd_11)) (fun _ h9 => h9) rfl dX4_join_28 ?_
          refine va_get (D := (dC, dI)) (C := RX1) (T := TX1) (N := 9) (v := .ref (h 12)) hx hb hts (fi_X1 _) hown hK hP 1 (cw_at1 _ _ _) rfl 4 (by decide) (hts _ (List.mem_cons_of_mem _ wd_118)) (fun _ h9 => h9) rfl dX4_join_31 ?_
          refine lv_iload_n hx hb dX4_join_34 rfl (lv_at hl 2 rfl) ?_
          refine va_zald (f := k_open u) hx hb hK hP 12 1 (cw_at12 _ _ _) rfl (vp_in_iff.mpr (by omega)) dX4_join_35 ?_
          refine lv_if_eq (tgt := 55) hx hb dX4_join_36 (by decide) (fun c_15 => ?_) (fun c_15 => ?_)
          · skip
            have t_16 : (k_open u x2.toNatClampNeg).toInt = 0 := i_eq c_15 rfl (by decide)
            refine lv_iconst (v := 0) hx hb dX4_join_55 (by decide) ?_
            refine vy_callv (vy_runS (As := [.int 0]) (rest := []) ⟨hx, hb, hml, hown, hts⟩ (kX4_requireState l hl9 dC dI _ 0) (cwS 1 hts (gS wd_119 wd_120 wd_92 wcX4_requireState) rfl rfl rfl (by decide +kernel) ⟨(Nat.le_of_ble_eq_true rfl), (Nat.le_of_ble_eq_true rfl)⟩) ⟨fun a U g mk q => by obtain ⟨q0, q1, qZ⟩ := q; exact ⟨q0, q1, zz_same (u := U) (H := U.heap) rfl rfl qZ⟩, fun U hU hW => ⟨rfl, hU, by rw [hU]; exact zz_to hZ hS (fun q h => hA q (Nat.le_trans hS.1 h)) hW⟩⟩ rfl rfl hl.1 rfl (lv_room (Nat.le_of_ble_eq_true rfl)) dX4_join_56 ⟨(Nat.le_of_ble_eq_true rfl), (Nat.le_of_ble_eq_true rfl)⟩) hS (fun q h1 h2 => absurd h2 (Nat.not_le.mpr h1)) (fun q h => hA q (Nat.le_trans hS.1 h)) (fun q h1 h2 => absurd h2 (Nat.not_le.mpr h1)) (fun E ce q9 _ t H1 locs1 ht hvm hw hB hz1 hk1 hS hce hcv hcl => ?_) (fun _ t H1 locs1 ht hvm hw hB hz1 hk1 hS => ?_)
            · skip
              subst hB
              have hP := hP.kept (fun k q hq => hk1 q.1 (hP k q hq).lt (Nat.not_le.mpr (hP k q hq).lt))
              exact vy_out (vx_out (fun x hx => (hxt x hx).elim) hlocks hce hcv hcl (fun t ht ha => ⟨u, trivial, ⟨⟨3, (by unfold fX4_join; rw [if_pos c_1, if_pos c_4, if_neg c_7, if_neg c_11, if_pos c_15]), rfl⟩, by rw [ht]; exact hP, hD⟩, hS.F ht⟩) hS.2.2 (Nat.le_of_ble_eq_true rfl) (Nat.le_of_ble_eq_true rfl))
            · skip
              exact absurd hw (by decide)
          · skip
            have t_18 : (k_open u x2.toNatClampNeg).toInt ≠ 0 := i_ne c_15 rfl (by decide)
            refine lv_aload_n hx hb dX4_join_39 rfl (lv_at hl 0 rfl) ?_
            refine va_get (D := (dC, dI)) (C := RX4) (T := TX4) (N := 9) (v := .ref (h 1)) hx hb hts (fi_X4 _) hown hK hP 0 (cw_at0 _ _ _) rfl 0 (by decide) (hts _ (List.mem_cons_of_mem _ wd_11)) (fun _ h9 => h9) rfl dX4_join_40 ?_
            refine lv_iload_n hx hb dX4_join_43 rfl (lv_at hl 1 rfl) ?_
            refine lv_iload_n hx hb dX4_join_44 rfl (lv_at hl 2 rfl) ?_
            refine vp_callSi (W.runV (As := [.int x1, .int x2]) (rest := []) ⟨hx, hb, hml, hown, hts⟩ (kX1_areAlike l dC dI g h u x1 x2 (by omega) (by omega)) (cwV 2 hts (gV wd_144 wd_145 wd_146 wd_28 wcX1_areAlike) rfl rfl rfl (by decide +kernel) ⟨(Nat.le_of_ble_eq_true rfl), (Nat.le_of_ble_eq_true rfl)⟩) ⟨fun a U g mk q => by obtain ⟨q0, qP, qK⟩ := q; exact ⟨q0, qP, va_K.moved (u := U) (U := U.calling g mk a) (Vm.Alike.refl U.vm) qK⟩, va_recv hK hP (ci := 0) (q0 := 1) rfl (cw_at1 _ _ _), fun U hU hW => ⟨rfl, by rw [hU]; exact hP, va_K.moved hW.alike hK⟩⟩ rfl rfl hl.1 rfl (lv_room (Nat.le_of_ble_eq_true rfl)) dX4_join_45 ⟨(Nat.le_of_ble_eq_true rfl), (Nat.le_of_ble_eq_true rfl)⟩) (fun r_19 hw => ?_)
            subst hw
            refine lv_if_eq (tgt := 55) hx hb dX4_join_48 (by decide) (fun c_20 => ?_) (fun c_20 => ?_)
            · skip
              have t_21 : (fX1_areAlike u x1 x2).toInt = 0 := i_eq c_20 rfl (by decide)
              refine lv_iconst (v := 0) hx hb dX4_join_55 (by decide) ?_
              refine vy_callv (vy_runS (As := [.int 0]) (rest := []) ⟨hx, hb, hml, hown, hts⟩ (kX4_requireState l hl9 dC dI _ 0) (cwS 1 hts (gS wd_119 wd_120 wd_92 wcX4_requireState) rfl rfl rfl (by decide +kernel) ⟨(Nat.le_of_ble_eq_true rfl), (Nat.le_of_ble_eq_true rfl)⟩) ⟨fun a U g mk q => by obtain ⟨q0, q1, qZ⟩ := q; exact ⟨q0, q1, zz_same (u := U) (H := U.heap) rfl rfl qZ⟩, fun U hU hW => ⟨rfl, hU, by rw [hU]; exact zz_to hZ hS (fun q h => hA q (Nat.le_trans hS.1 h)) hW⟩⟩ rfl rfl hl.1 rfl (lv_room (Nat.le_of_ble_eq_true rfl)) dX4_join_56 ⟨(Nat.le_of_ble_eq_true rfl), (Nat.le_of_ble_eq_true rfl)⟩) hS (fun q h1 h2 => absurd h2 (Nat.not_le.mpr h1)) (fun q h => hA q (Nat.le_trans hS.1 h)) (fun q h1 h2 => absurd h2 (Nat.not_le.mpr h1)) (fun E ce q9 _ t H1 locs1 ht hvm hw hB hz1 hk1 hS hce hcv hcl => ?_) (fun _ t H1 locs1 ht hvm hw hB hz1 hk1 hS => ?_)
              · skip
                subst hB
                have hP := hP.kept (fun k q hq => hk1 q.1 (hP k q hq).lt (Nat.not_le.mpr (hP k q hq).lt))
                exact vy_out (vx_out (fun x hx => (hxt x hx).elim) hlocks hce hcv hcl (fun t ht ha => ⟨u, trivial, ⟨⟨3, (by unfold fX4_join; rw [if_pos c_1, if_pos c_4, if_neg c_7, if_neg c_11, if_neg c_15, if_pos c_20]), rfl⟩, by rw [ht]; exact hP, hD⟩, hS.F ht⟩) hS.2.2 (Nat.le_of_ble_eq_true rfl) (Nat.le_of_ble_eq_true rfl))
              · skip
                exact absurd hw (by decide)
            · skip
              have t_23 : (fX1_areAlike u x1 x2).toInt ≠ 0 := i_ne c_20 rfl (by decide)
              refine lv_iconst (v := 1) hx hb dX4_join_51 (by decide) ?_
              refine lv_goto (tgt := 56) hx hb dX4_join_52 (by decide) ?_
              refine vy_callv (vy_runS (As := [.int 1]) (rest := []) ⟨hx, hb, hml, hown, hts⟩ (kX4_requireState l hl9 dC dI _ 1) (cwS 1 hts (gS wd_119 wd_120 wd_92 wcX4_requireState) rfl rfl rfl (by decide +kernel) ⟨(Nat.le_of_ble_eq_true rfl), (Nat.le_of_ble_eq_true rfl)⟩) ⟨fun a U g mk q => by obtain ⟨q0, q1, qZ⟩ := q; exact ⟨q0, q1, zz_same (u := U) (H := U.heap) rfl rfl qZ⟩, fun U hU hW => ⟨rfl, hU, by rw [hU]; exact zz_to hZ hS (fun q h => hA q (Nat.le_trans hS.1 h)) hW⟩⟩ rfl rfl hl.1 rfl (lv_room (Nat.le_of_ble_eq_true rfl)) dX4_join_56 ⟨(Nat.le_of_ble_eq_true rfl), (Nat.le_of_ble_eq_true rfl)⟩) hS (fun q h1 h2 => absurd h2 (Nat.not_le.mpr h1)) (fun q h => hA q (Nat.le_trans hS.1 h)) (fun q h1 h2 => absurd h2 (Nat.not_le.mpr h1)) (fun E ce q9 _ t H1 locs1 ht hvm hw hB hz1 hk1 hS hce hcv hcl => ?_) (fun _ t H1 locs1 ht hvm hw hB hz1 hk1 hS => ?_)
              · skip
                exact absurd hw (by decide)
              · skip
                have hH1 : H1 = _ := ht.symm.trans hB
                subst hH1
                refine lv_aload_n hx hb dX4_join_59 rfl (lv_at hl 0 rfl) ?_
                refine va_get (D := (dC, dI)) (C := RX4) (T := TX4) (N := 9) (v := .ref (h 3)) hx hb hts (fi_X4 _) hown hK hP 0 (cw_at0 _ _ _) rfl 2 (by decide) (hts _ (List.mem_cons_of_mem _ wd_87)) (fun _ h9 => h9) rfl dX4_join_60 ?_
                refine lv_iconst (v := 2) hx hb dX4_join_63 (by decide) ?_
                refine vp_callSi (W.runV (As := [.int 2]) (rest := []) ⟨hx, hb, hml, hown, hts⟩ (kX2_haveRoomFor l dC dI g h u 2) (cwV 1 hts (gV wd_102 wd_103 wd_104 wd_105 wcX2_haveRoomFor) rfl rfl rfl (by decide +kernel) ⟨(Nat.le_of_ble_eq_true rfl), (Nat.le_of_ble_eq_true rfl)⟩) ⟨fun a U g mk q => by obtain ⟨q0, qP, qK⟩ := q; exact ⟨q0, qP, va_K.moved (u := U) (U := U.calling g mk a) (Vm.Alike.refl U.vm) qK⟩, va_recv hK hP (ci := 1) (q0 := 3) rfl (cw_at3 _ _ _), fun U hU hW => ⟨rfl, by rw [hU]; exact hP, va_K.moved hW.alike hK⟩⟩ rfl rfl hl.1 rfl (lv_room (Nat.le_of_ble_eq_true rfl)) dX4_join_64 ⟨(Nat.le_of_ble_eq_true rfl), (Nat.le_of_ble_eq_true rfl)⟩) (fun r_25 hw => ?_)
                subst hw
                refine vy_callv (vy_runS (As := [.int (fX2_haveRoomFor u 2)]) (rest := []) ⟨hx, hb, hml, hown, hts⟩ (kX4_requireRoom l hl9 dC dI _ (fX2_haveRoomFor u 2)) (cwS 1 hts (gS wd_99 wd_100 wd_92 wcX4_requireRoom) rfl rfl rfl (by decide +kernel) ⟨(Nat.le_of_ble_eq_true rfl), (Nat.le_of_ble_eq_true rfl)⟩) ⟨fun a U g mk q => by obtain ⟨q0, q1, qZ⟩ := q; exact ⟨q0, q1, zz_same (u := U) (H := U.heap) rfl rfl qZ⟩, fun U hU hW => ⟨rfl, hU, by rw [hU]; exact zz_to hZ hS (fun q h => hA q (Nat.le_trans hS.1 h)) hW⟩⟩ rfl rfl hl.1 rfl (lv_room (Nat.le_of_ble_eq_true rfl)) dX4_join_67 ⟨(Nat.le_of_ble_eq_true rfl), (Nat.le_of_ble_eq_true rfl)⟩) hS (fun q h1 h2 => absurd h2 (Nat.not_le.mpr h1)) (fun q h => hA q (Nat.le_trans hS.1 h)) (fun q h1 h2 => absurd h2 (Nat.not_le.mpr h1)) (fun E ce q9 _ t H1 locs1 ht hvm hw hB hz1 hk1 hS hce hcv hcl => ?_) (fun _ t H1 locs1 ht hvm hw hB hz1 hk1 hS => ?_)
                · skip
                  have c_26 : ¬ fX4_requireRoom (fX2_haveRoomFor u 2) = 0 := by rw [hw]; decide
                  subst hB
                  have hP := hP.kept (fun k q hq => hk1 q.1 (hP k q hq).lt (Nat.not_le.mpr (hP k q hq).lt))
                  exact vy_out (vx_out (fun x hx => (hxt x hx).elim) hlocks hce hcv hcl (fun t ht ha => ⟨u, trivial, ⟨⟨4, (by unfold fX4_join; rw [if_pos c_1, if_pos c_4, if_neg c_7, if_neg c_11, if_neg c_15, if_neg c_20, if_neg c_26]), rfl⟩, by rw [ht]; exact hP, hD⟩, hS.F ht⟩) hS.2.2 (Nat.le_of_ble_eq_true rfl) (Nat.le_of_ble_eq_true rfl))
                · skip
                  have hH1 : H1 = _ := ht.symm.trans hB
                  subst hH1
                  have c_26 : fX4_requireRoom (fX2_haveRoomFor u 2) = 0 := hw
                  have t_27 := hr_roomq2 c_26 hI3
                  refine lv_aload_n hx hb dX4_join_70 rfl (lv_at hl 0 rfl) ?_
                  refine va_get (D := (dC, dI)) (C := RX4) (T := TX4) (N := 9) (v := .ref (h 1)) hx hb hts (fi_X4 _) hown hK hP 0 (cw_at0 _ _ _) rfl 0 (by decide) (hts _ (List.mem_cons_of_mem _ wd_11)) (fun _ h9 => h9) rfl dX4_join_71 ?_
                  refine lv_iload_n hx hb dX4_join_74 rfl (lv_at hl 1 rfl) ?_
                  refine lv_iload_n hx hb dX4_join_75 rfl (lv_at hl 2 rfl) ?_
                  have hFc := va_free (wc := cw g h u) hD hS hA [0, 1, 2, 3, 4, 5, 6, 7, 8, 9, 10, 11, 12, 13, 14, 15, 16, 17, 18, 19, 20, 21, 22, 23] rfl
                  refine va_callv (va_runV (As := [.int x1, .int x2]) (rest := []) ⟨hx, hb, hml, hown, hts⟩ (kX1_closeInto l dC dI g h u _ x1 x2 (by omega) (by omega)) (cwV 2 hts (gV wd_148 wd_149 wd_150 wd_28 wcX1_closeInto) rfl rfl rfl (by decide +kernel) ⟨(Nat.le_of_ble_eq_true rfl), (Nat.le_of_ble_eq_true rfl)⟩) ⟨fun a U g mk q => by obtain ⟨q0, q1, qP, qK, qD⟩ := q; exact ⟨q0, q1, qP, va_K.moved (u := U) (U := U.calling g mk a) (Vm.Alike.refl U.vm) qK, qD⟩, va_recv hK hP (ci := 0) (q0 := 1) rfl (cw_at1 _ _ _), fun U hU hW => ⟨rfl, by rw [hU], by rw [hU]; exact hP, va_K.moved hW.alike hK, hD.weaken (fun _ _ _ _ => trivial)⟩⟩ rfl rfl hl.1 rfl (lv_room (Nat.le_of_ble_eq_true rfl)) dX4_join_76 ⟨(Nat.le_of_ble_eq_true rfl), (Nat.le_of_ble_eq_true rfl)⟩) hS (fun q _ h => hFc q h) hFc (fun u_28 t H locs ht hvm hw hB hz1 hk1 hS => ?_)
                  obtain ⟨hP, hD⟩ := hB
                  rw [ht] at hP
                  have hD := hD.weaken (fun _ _ _ h => hFc _ h)
                  have e_30 : u_28 = fX1_closeInto u x1 x2 := hw
                  clear hw
                  refine lv_aload_n hx hb dX4_join_79 rfl (lv_at hl 0 rfl) ?_
                  refine va_get (D := (dC, dI)) (C := RX4) (T := TX4) (N := 9) (v := .ref (h 2)) hx hb hts (fi_X4 _) hown hK hP 0 (cw_at0 _ _ _) rfl 1 (by decide) (hts _ (List.mem_cons_of_mem _ wd_13)) (fun _ h9 => h9) rfl dX4_join_80 ?_
                  refine lv_iload_n hx hb dX4_join_83 rfl (lv_at hl 2 rfl) ?_
                  refine lv_iload_n hx hb dX4_join_84 rfl (lv_at hl 1 rfl) ?_
                  have hFc := va_free (wc := cw g h u_28) hD hS hA [0, 1, 2, 3, 4, 5, 6, 7, 8, 9, 10, 11, 12, 13, 14, 15, 16, 17, 18, 19, 20, 21, 22, 23] rfl
                  refine va_callv (va_runV (As := [.int x2, .int x1]) (rest := []) ⟨hx, hb, hml, hown, hts⟩ (kX3_moveAll l dC dI g h u_28 _ x2 x1 (by subst e_30; show 0 ≤ (k_umade u).toInt ∧ (k_umade u).toInt ≤ 120; omega)) (cwV 2 hts (gV wd_152 wd_153 wd_154 wd_49 wcX3_moveAll) rfl rfl rfl (by decide +kernel) ⟨(Nat.le_of_ble_eq_true rfl), (Nat.le_of_ble_eq_true rfl)⟩) ⟨fun a U g mk q => by obtain ⟨q0, q1, qP, qK, qD⟩ := q; exact ⟨q0, q1, qP, va_K.moved (u := U) (U := U.calling g mk a) (Vm.Alike.refl U.vm) qK, qD⟩, va_recv hK hP (ci := 2) (q0 := 2) rfl (cw_at2 _ _ _), fun U hU hW => ⟨rfl, by rw [hU], by rw [hU]; exact hP, va_K.moved hW.alike hK, hD.weaken (fun _ _ _ _ => trivial)⟩⟩ rfl rfl hl.1 rfl (lv_room (Nat.le_of_ble_eq_true rfl)) dX4_join_85 ⟨(Nat.le_of_ble_eq_true rfl), (Nat.le_of_ble_eq_true rfl)⟩) hS (fun q _ h => hFc q h) hFc (fun u_31 t H locs ht hvm hw hB hz1 hk1 hS => ?_)
                  obtain ⟨hP, hD⟩ := hB
                  rw [ht] at hP
                  have hD := hD.weaken (fun _ _ _ h => hFc _ h)
                  have e_33 : u_31 = fX3_moveAll u_28 x2 x1 := hw
                  clear hw
                  refine lv_aload_n hx hb dX4_join_88 rfl (lv_at hl 0 rfl) ?_
                  refine va_get (D := (dC, dI)) (C := RX4) (T := TX4) (N := 9) (v := .ref (h 3)) hx hb hts (fi_X4 _) hown hK hP 0 (cw_at0 _ _ _) rfl 2 (by decide) (hts _ (List.mem_cons_of_mem _ wd_87)) (fun _ h9 => h9) rfl dX4_join_89 ?_
                  refine lv_iload_n hx hb dX4_join_92 rfl (lv_at hl 1 rfl) ?_
                  refine lv_iconst (v := 4) hx hb dX4_join_93 (by decide) ?_
                  refine lv_iload_n hx hb dX4_join_94 rfl (lv_at hl 2 rfl) ?_
                  have hFc := va_free (wc := cw g h u_31) hD hS hA [0, 1, 2, 3, 4, 5, 6, 7, 8, 9, 10, 11, 12, 13, 14, 15, 16, 17, 18, 19, 20, 21, 22, 23] rfl
                  refine va_callv (va_runV (As := [.int x1, .int 4, .int x2]) (rest := []) ⟨hx, hb, hml, hown, hts⟩ (kX2_write l dC dI g h u_31 _ x1 4 x2 (by subst e_33; subst e_30; rw [mv_rwrit]; show 0 ≤ (k_rwrit u).toInt ∧ (k_rwrit u).toInt < 400; omega)) (cwV 3 hts (gV wd_108 wd_109 wd_110 wd_105 wcX2_write) rfl rfl rfl (by decide +kernel) ⟨(Nat.le_of_ble_eq_true rfl), (Nat.le_of_ble_eq_true rfl)⟩) ⟨fun a U g mk q => by obtain ⟨q0, q1, qP, qK, qD⟩ := q; exact ⟨q0, q1, qP, va_K.moved (u := U) (U := U.calling g mk a) (Vm.Alike.refl U.vm) qK, qD⟩, va_recv hK hP (ci := 1) (q0 := 3) rfl (cw_at3 _ _ _), fun U hU hW => ⟨rfl, by rw [hU], by rw [hU]; exact hP, va_K.moved hW.alike hK, hD.weaken (fun _ _ _ _ => trivial)⟩⟩ rfl rfl hl.1 rfl (lv_room (Nat.le_of_ble_eq_true rfl)) dX4_join_95 ⟨(Nat.le_of_ble_eq_true rfl), (Nat.le_of_ble_eq_true rfl)⟩) hS (fun q _ h => hFc q h) hFc (fun u_34 t H locs ht hvm hw hB hz1 hk1 hS => ?_)
                  obtain ⟨hP, hD⟩ := hB
                  rw [ht] at hP
                  have hD := hD.weaken (fun _ _ _ h => hFc _ h)
                  have e_36 : u_34 = fX2_write u_31 x1 4 x2 := hw
                  clear hw
                  refine lv_aload_n hx hb dX4_join_98 rfl (lv_at hl 0 rfl) ?_
                  refine va_get (D := (dC, dI)) (C := RX4) (T := TX4) (N := 9) (v := .ref (h 3)) hx hb hts (fi_X4 _) hown hK hP 0 (cw_at0 _ _ _) rfl 2 (by decide) (hts _ (List.mem_cons_of_mem _ wd_87)) (fun _ h9 => h9) rfl dX4_join_99 ?_
                  refine lv_iload_n hx hb dX4_join_102 rfl (lv_at hl 2 rfl) ?_
                  refine lv_iconst (v := 5) hx hb dX4_join_103 (by decide) ?_
                  refine lv_iload_n hx hb dX4_join_104 rfl (lv_at hl 1 rfl) ?_
                  have hFc := va_free (wc := cw g h u_34) hD hS hA [0, 1, 2, 3, 4, 5, 6, 7, 8, 9, 10, 11, 12, 13, 14, 15, 16, 17, 18, 19, 20, 21, 22, 23] rfl
                  refine va_callv (va_runV (As := [.int x2, .int 5, .int x1]) (rest := []) ⟨hx, hb, hml, hown, hts⟩ (kX2_write l dC dI g h u_34 _ x2 5 x1 (by subst e_36; subst e_33; subst e_30; rw [wr_rwrit, mv_rwrit]; have hm2 := i_inc (x := k_rwrit u) (by omega); show 0 ≤ (k_rwrit u + 1).toInt ∧ (k_rwrit u + 1).toInt < 400; omega)) (cwV 3 hts (gV wd_108 wd_109 wd_110 wd_105 wcX2_write) rfl rfl rfl (by decide +kernel) ⟨(Nat.le_of_ble_eq_true rfl), (Nat.le_of_ble_eq_true rfl)⟩) ⟨fun a U g mk q => by obtain ⟨q0, q1, qP, qK, qD⟩ := q; exact ⟨q0, q1, qP, va_K.moved (u := U) (U := U.calling g mk a) (Vm.Alike.refl U.vm) qK, qD⟩, va_recv hK hP (ci := 1) (q0 := 3) rfl (cw_at3 _ _ _), fun U hU hW => ⟨rfl, by rw [hU], by rw [hU]; exact hP, va_K.moved hW.alike hK, hD.weaken (fun _ _ _ _ => trivial)⟩⟩ rfl rfl hl.1 rfl (lv_room (Nat.le_of_ble_eq_true rfl)) dX4_join_105 ⟨(Nat.le_of_ble_eq_true rfl), (Nat.le_of_ble_eq_true rfl)⟩) hS (fun q _ h => hFc q h) hFc (fun u_37 t H locs ht hvm hw hB hz1 hk1 hS => ?_)
                  obtain ⟨hP, hD⟩ := hB
                  rw [ht] at hP
                  have hD := hD.weaken (fun _ _ _ h => hFc _ h)
                  have e_39 : u_37 = fX2_write u_34 x2 5 x1 := hw
                  clear hw
                  exact vy_ret (W.vret hx hb hr (fun t ht hW => ⟨⟨u_37, rfl, (by subst e_39; subst e_36; subst e_33; subst e_30; unfold fX4_join; rw [if_pos c_1, if_pos c_4, if_neg c_7, if_neg c_11, if_neg c_15, if_neg c_20, if_pos c_26]), by rw [ht]; exact hP, hD⟩, hS.F ht⟩) hS.2.2 dX4_join_108)
set_option maxHeartbeats 4000000 in
set_option maxRecDepth 100000 in
theorem kX4_unit (l : Launch) (hl9 : l.stackTraces = false) (dC : Nat → ClassId) (dI : Nat → Nat → Nat) (g : cG) (h : Nat → Nat) (u : cS) (sz : Nat) (x1 : Int32) (hI : cInv u) : vy_Met l yX4_unit wsX4_unit ({ frames := 7, cells := 1, slots := 6, locals := 103 }) (va_Pc [.ref (h 0), .int x1] (fun U => U.heap.size = sz ∧ va_P (dC, dI) vwCl (cw g h u) U.heap ∧ va_K (dC, dI) vwCl (cTys g) U ∧ va_D (fun _ => True) (cw g h u) ∧ zz (va_A (cw g h u) sz) U U.heap)) (va_Qi (fun (r : Int32) u2 => fX4_unit u x1 = (0, r, u2)) (fun (u2 : cS) (t : State) => va_P (dC, dI) vwCl (cw g h u2) t.heap ∧ va_D (va_A (cw g h u) sz) (cw g h u2)) (va_A (cw g h u) sz)) (vx_X (fun _ => True) (fun E (u2 : cS) t => (∃ k : Nat, fX4_unit u x1 = (k, 0, u2) ∧ ex_is k E) ∧ va_P (dC, dI) vwCl (cw g h u2) t.heap ∧ va_D (va_A (cw g h u) sz) (cw g h u2)) (va_A (cw g h u) sz)) 0 0 1 6 (va_A (cw g h u) sz) := by
  refine vy_ofW (cc := cX4_unit) (maxL := 3) (ret := (some .int)) (by decide) rfl ?_
  intro p e s m args below meth c s₁ B hml hxt hv
  obtain ⟨rfl, hsz, hP, hK, hD0, hZ⟩ := hv
  have hx := B.exec
  have hb := B.bytes
  have hr := B.returns
  have hts := atoms_spec (ws := wsX4_unit) B.pre
  have hown : s.vm.findClass RX4 = some m.cls := findClass_of_methodNamed B.named
  have hlocks := B.notSynchronized
  subst hsz
  have hD := hD0.self (sz := s.heap.size)
  generalize hAe : va_A (cw g h u) s.heap.size = A at hD hZ ⊢
  have hA : ∀ q : Nat, s.heap.size ≤ q → A q := fun q h => by rw [← hAe]; exact Or.inr h
  have hS : va_S A s.heap s.heap [] := va_S.rf
  have hl := lv_entry ([.ref (h 0), .int x1]) (n := 3) (Nat.le_of_ble_eq_true rfl)
  rw [lg_entry_eq]
  generalize (lg_sl ([.ref (h 0), .int x1]) ++ List.replicate (3 - (lg_sl ([.ref (h 0), .int x1])).length) Slot.unset).toArray = ls at hl ⊢
  have hl : lv_has ls 3 [(0, .ref (h 0)), (1, .int x1)] := hl
  obtain ⟨hI1, hI2, hI3, hI4, hI5, hI6⟩ := id hI
  have z_0 : (0 : Int32).toInt = 0 := by decide
  have z_1 : (1 : Int32).toInt = 1 := by decide
  refine lv_aload_n hx hb dX4_unit_0 rfl (lv_at hl 0 rfl) ?_
  refine lv_iload_n hx hb dX4_unit_1 rfl (lv_at hl 1 rfl) ?_
  refine vy_callv (vy_runV (As := [.int x1]) (rest := []) ⟨hx, hb, hml, hown, hts⟩ (kX4_requireLot l hl9 dC dI g h u _ x1) (cwV 1 hts (gV wd_114 wd_115 wd_116 wd_92 wcX4_requireLot) rfl rfl rfl (by decide +kernel) ⟨(Nat.le_of_ble_eq_true rfl), (Nat.le_of_ble_eq_true rfl)⟩) ⟨fun a U g mk q => by obtain ⟨q0, q1, qP, qK, qZ⟩ := q; exact ⟨q0, q1, qP, va_K.moved (u := U) (U := U.calling g mk a) (Vm.Alike.refl U.vm) qK, zz_same (u := U) (H := U.heap) rfl rfl qZ⟩, va_recv hK hP (ci := 3) (q0 := 0) rfl (cw_at0 _ _ _), fun U hU hW => ⟨rfl, hU, by rw [hU]; exact hP, va_K.moved hW.alike hK, by rw [hU]; exact zz_to hZ hS (fun q h => hA q (Nat.le_trans hS.1 h)) hW⟩⟩ rfl rfl hl.1 rfl (lv_room (Nat.le_of_ble_eq_true rfl)) dX4_unit_2 ⟨(Nat.le_of_ble_eq_true rfl), (Nat.le_of_ble_eq_true rfl)⟩) hS (fun q h1 h2 => absurd h2 (Nat.not_le.mpr h1)) (fun q h => hA q (Nat.le_trans hS.1 h)) (fun q h1 h2 => absurd h2 (Nat.not_le.mpr h1)) (fun E ce q9 _ t H1 locs1 ht hvm hw hB hz1 hk1 hS hce hcv hcl => ?_) (fun _ t H1 locs1 ht hvm hw hB hz1 hk1 hS => ?_)
  · skip
    have c_1 : ¬ fX4_requireLot u x1 = 0 := by rw [hw]; decide
    subst hB
    have hP := hP.kept (fun k q hq => hk1 q.1 (hP k q hq).lt (Nat.not_le.mpr (hP k q hq).lt))
    exact vy_out (vx_out (fun x hx => (hxt x hx).elim) hlocks hce hcv hcl (fun t ht ha => ⟨u, trivial, ⟨⟨1, (by unfold fX4_unit; rw [if_neg c_1]), rfl⟩, by rw [ht]; exact hP, hD⟩, hS.F ht⟩) hS.2.2 (Nat.le_of_ble_eq_true rfl) (Nat.le_of_ble_eq_true rfl))
  · skip
    have hH1 : H1 = _ := ht.symm.trans hB
    subst hH1
    have c_1 : fX4_requireLot u x1 = 0 := hw
    have t_2 := rl_lo c_1
    have t_3 := rl_hi c_1
    refine lv_aload_n hx hb dX4_unit_5 rfl (lv_at hl 0 rfl) ?_
    refine va_get (D := (dC, dI)) (C := RX4) (T := TX4) (N := 9) (v := .ref (h 1)) hx hb hts (fi_X4 _) hown hK hP 0 (cw_at0 _ _ _) rfl 0 (by decide) (hts _ (List.mem_cons_of_mem _ wd_11)) (fun _ h9 => h9) rfl dX4_unit_6 ?_
    refine va_get (D := (dC, dI)) (C := RX1) (T := TX1) (N := 9) (v := .ref (h 12)) hx hb hts (fi_X1 _) hown hK hP 1 (cw_at1 _ _ _) rfl 4 (by decide) (hts _ (List.mem_cons_of_mem _ wd_118)) (fun _ h9 => h9) rfl dX4_unit_9 ?_
    refine lv_iload_n hx hb dX4_unit_12 rfl (lv_at hl 1 rfl) ?_
    refine va_zald (f := k_open u) hx hb hK hP 12 1 (cw_at12 _ _ _) rfl (vp_in_iff.mpr (by omega)) dX4_unit_13 ?_
    refine vy_callv (vy_runS (As := [.int (k_open u x1.toNatClampNeg)]) (rest := []) ⟨hx, hb, hml, hown, hts⟩ (kX4_requireState l hl9 dC dI _ (k_open u x1.toNatClampNeg)) (cwS 1 hts (gS wd_119 wd_120 wd_92 wcX4_requireState) rfl rfl rfl (by decide +kernel) ⟨(Nat.le_of_ble_eq_true rfl), (Nat.le_of_ble_eq_true rfl)⟩) ⟨fun a U g mk q => by obtain ⟨q0, q1, qZ⟩ := q; exact ⟨q0, q1, zz_same (u := U) (H := U.heap) rfl rfl qZ⟩, fun U hU hW => ⟨rfl, hU, by rw [hU]; exact zz_to hZ hS (fun q h => hA q (Nat.le_trans hS.1 h)) hW⟩⟩ rfl rfl hl.1 rfl (lv_room (Nat.le_of_ble_eq_true rfl)) dX4_unit_14 ⟨(Nat.le_of_ble_eq_true rfl), (Nat.le_of_ble_eq_true rfl)⟩) hS (fun q h1 h2 => absurd h2 (Nat.not_le.mpr h1)) (fun q h => hA q (Nat.le_trans hS.1 h)) (fun q h1 h2 => absurd h2 (Nat.not_le.mpr h1)) (fun E ce q9 _ t H1 locs1 ht hvm hw hB hz1 hk1 hS hce hcv hcl => ?_) (fun _ t H1 locs1 ht hvm hw hB hz1 hk1 hS => ?_)
    · skip
      have c_4 : ¬ fX4_requireState (k_open u x1.toNatClampNeg) = 0 := by rw [hw]; decide
      subst hB
      have hP := hP.kept (fun k q hq => hk1 q.1 (hP k q hq).lt (Nat.not_le.mpr (hP k q hq).lt))
      exact vy_out (vx_out (fun x hx => (hxt x hx).elim) hlocks hce hcv hcl (fun t ht ha => ⟨u, trivial, ⟨⟨3, (by unfold fX4_unit; rw [if_pos c_1, if_neg c_4]), rfl⟩, by rw [ht]; exact hP, hD⟩, hS.F ht⟩) hS.2.2 (Nat.le_of_ble_eq_true rfl) (Nat.le_of_ble_eq_true rfl))
    · skip
      have hH1 : H1 = _ := ht.symm.trans hB
      subst hH1
      have c_4 : fX4_requireState (k_open u x1.toNatClampNeg) = 0 := hw
      refine lv_aload_n hx hb dX4_unit_17 rfl (lv_at hl 0 rfl) ?_
      refine va_get (D := (dC, dI)) (C := RX4) (T := TX4) (N := 9) (v := .ref (h 2)) hx hb hts (fi_X4 _) hown hK hP 0 (cw_at0 _ _ _) rfl 1 (by decide) (hts _ (List.mem_cons_of_mem _ wd_13)) (fun _ h9 => h9) rfl dX4_unit_18 ?_
      refine vp_callSi (W.runV (As := []) (rest := []) ⟨hx, hb, hml, hown, hts⟩ (kX3_haveRoom l dC dI g h u) (cwV 0 hts (gV wd_156 wd_157 wd_158 wd_49 wcX3_haveRoom) rfl rfl rfl (by decide +kernel) ⟨(Nat.le_of_ble_eq_true rfl), (Nat.le_of_ble_eq_true rfl)⟩) ⟨fun a U g mk q => by obtain ⟨q0, qP, qK⟩ := q; exact ⟨q0, qP, va_K.moved (u := U) (U := U.calling g mk a) (Vm.Alike.refl U.vm) qK⟩, va_recv hK hP (ci := 2) (q0 := 2) rfl (cw_at2 _ _ _), fun U hU hW => ⟨rfl, by rw [hU]; exact hP, va_K.moved hW.alike hK⟩⟩ rfl rfl hl.1 rfl (lv_room (Nat.le_of_ble_eq_true rfl)) dX4_unit_21 ⟨(Nat.le_of_ble_eq_true rfl), (Nat.le_of_ble_eq_true rfl)⟩) (fun r_5 hw => ?_)
      subst hw
      refine lv_if_eq (tgt := 42) hx hb dX4_unit_24 (by decide) (fun c_6 => ?_) (fun c_6 => ?_)
      · skip
        have t_7 : (fX3_haveRoom u).toInt = 0 := i_eq c_6 rfl (by decide)
        refine lv_iconst (v := 0) hx hb dX4_unit_42 (by decide) ?_
        refine vy_callv (vy_runS (As := [.int 0]) (rest := []) ⟨hx, hb, hml, hown, hts⟩ (kX4_requireRoom l hl9 dC dI _ 0) (cwS 1 hts (gS wd_99 wd_100 wd_92 wcX4_requireRoom) rfl rfl rfl (by decide +kernel) ⟨(Nat.le_of_ble_eq_true rfl), (Nat.le_of_ble_eq_true rfl)⟩) ⟨fun a U g mk q => by obtain ⟨q0, q1, qZ⟩ := q; exact ⟨q0, q1, zz_same (u := U) (H := U.heap) rfl rfl qZ⟩, fun U hU hW => ⟨rfl, hU, by rw [hU]; exact zz_to hZ hS (fun q h => hA q (Nat.le_trans hS.1 h)) hW⟩⟩ rfl rfl hl.1 rfl (lv_room (Nat.le_of_ble_eq_true rfl)) dX4_unit_43 ⟨(Nat.le_of_ble_eq_true rfl), (Nat.le_of_ble_eq_true rfl)⟩) hS (fun q h1 h2 => absurd h2 (Nat.not_le.mpr h1)) (fun q h => hA q (Nat.le_trans hS.1 h)) (fun q h1 h2 => absurd h2 (Nat.not_le.mpr h1)) (fun E ce q9 _ t H1 locs1 ht hvm hw hB hz1 hk1 hS hce hcv hcl => ?_) (fun _ t H1 locs1 ht hvm hw hB hz1 hk1 hS => ?_)
        · skip
          subst hB
          have hP := hP.kept (fun k q hq => hk1 q.1 (hP k q hq).lt (Nat.not_le.mpr (hP k q hq).lt))
          exact vy_out (vx_out (fun x hx => (hxt x hx).elim) hlocks hce hcv hcl (fun t ht ha => ⟨u, trivial, ⟨⟨4, (by unfold fX4_unit; rw [if_pos c_1, if_pos c_4, if_pos c_6]), rfl⟩, by rw [ht]; exact hP, hD⟩, hS.F ht⟩) hS.2.2 (Nat.le_of_ble_eq_true rfl) (Nat.le_of_ble_eq_true rfl))
        · skip
          exact absurd hw (by decide)
      · skip
        have t_9 : (fX3_haveRoom u).toInt ≠ 0 := i_ne c_6 rfl (by decide)
        have t_10 := hu_room c_6
        refine lv_aload_n hx hb dX4_unit_27 rfl (lv_at hl 0 rfl) ?_
        refine va_get (D := (dC, dI)) (C := RX4) (T := TX4) (N := 9) (v := .ref (h 3)) hx hb hts (fi_X4 _) hown hK hP 0 (cw_at0 _ _ _) rfl 2 (by decide) (hts _ (List.mem_cons_of_mem _ wd_87)) (fun _ h9 => h9) rfl dX4_unit_28 ?_
        refine lv_iconst (v := 1) hx hb dX4_unit_31 (by decide) ?_
        refine vp_callSi (W.runV (As := [.int 1]) (rest := []) ⟨hx, hb, hml, hown, hts⟩ (kX2_haveRoomFor l dC dI g h u 1) (cwV 1 hts (gV wd_102 wd_103 wd_104 wd_105 wcX2_haveRoomFor) rfl rfl rfl (by decide +kernel) ⟨(Nat.le_of_ble_eq_true rfl), (Nat.le_of_ble_eq_true rfl)⟩) ⟨fun a U g mk q => by obtain ⟨q0, qP, qK⟩ := q; exact ⟨q0, qP, va_K.moved (u := U) (U := U.calling g mk a) (Vm.Alike.refl U.vm) qK⟩, va_recv hK hP (ci := 1) (q0 := 3) rfl (cw_at3 _ _ _), fun U hU hW => ⟨rfl, by rw [hU]; exact hP, va_K.moved hW.alike hK⟩⟩ rfl rfl hl.1 rfl (lv_room (Nat.le_of_ble_eq_true rfl)) dX4_unit_32 ⟨(Nat.le_of_ble_eq_true rfl), (Nat.le_of_ble_eq_true rfl)⟩) (fun r_11 hw => ?_)
        subst hw
        refine lv_if_eq (tgt := 42) hx hb dX4_unit_35 (by decide) (fun c_12 => ?_) (fun c_12 => ?_)
        · skip
          have t_13 : (fX2_haveRoomFor u 1).toInt = 0 := i_eq c_12 rfl (by decide)
          refine lv_iconst (v := 0) hx hb dX4_unit_42 (by decide) ?_
          refine vy_callv (vy_runS (As := [.int 0]) (rest := []) ⟨hx, hb, hml, hown, hts⟩ (kX4_requireRoom l hl9 dC dI _ 0) (cwS 1 hts (gS wd_99 wd_100 wd_92 wcX4_requireRoom) rfl rfl rfl (by decide +kernel) ⟨(Nat.le_of_ble_eq_true rfl), (Nat.le_of_ble_eq_true rfl)⟩) ⟨fun a U g mk q => by obtain ⟨q0, q1, qZ⟩ := q; exact ⟨q0, q1, zz_same (u := U) (H := U.heap) rfl rfl qZ⟩, fun U hU hW => ⟨rfl, hU, by rw [hU]; exact zz_to hZ hS (fun q h => hA q (Nat.le_trans hS.1 h)) hW⟩⟩ rfl rfl hl.1 rfl (lv_room (Nat.le_of_ble_eq_true rfl)) dX4_unit_43 ⟨(Nat.le_of_ble_eq_true rfl), (Nat.le_of_ble_eq_true rfl)⟩) hS (fun q h1 h2 => absurd h2 (Nat.not_le.mpr h1)) (fun q h => hA q (Nat.le_trans hS.1 h)) (fun q h1 h2 => absurd h2 (Nat.not_le.mpr h1)) (fun E ce q9 _ t H1 locs1 ht hvm hw hB hz1 hk1 hS hce hcv hcl => ?_) (fun _ t H1 locs1 ht hvm hw hB hz1 hk1 hS => ?_)
          · skip
            subst hB
            have hP := hP.kept (fun k q hq => hk1 q.1 (hP k q hq).lt (Nat.not_le.mpr (hP k q hq).lt))
            exact vy_out (vx_out (fun x hx => (hxt x hx).elim) hlocks hce hcv hcl (fun t ht ha => ⟨u, trivial, ⟨⟨4, (by unfold fX4_unit; rw [if_pos c_1, if_pos c_4, if_neg c_6, if_pos c_12]), rfl⟩, by rw [ht]; exact hP, hD⟩, hS.F ht⟩) hS.2.2 (Nat.le_of_ble_eq_true rfl) (Nat.le_of_ble_eq_true rfl))
          · skip
            exact absurd hw (by decide)
        · skip
          have t_15 : (fX2_haveRoomFor u 1).toInt ≠ 0 := i_ne c_12 rfl (by decide)
          have t_16 := hr_room1 c_12 hI3
          refine lv_iconst (v := 1) hx hb dX4_unit_38 (by decide) ?_
          refine lv_goto (tgt := 43) hx hb dX4_unit_39 (by decide) ?_
          refine vy_callv (vy_runS (As := [.int 1]) (rest := []) ⟨hx, hb, hml, hown, hts⟩ (kX4_requireRoom l hl9 dC dI _ 1) (cwS 1 hts (gS wd_99 wd_100 wd_92 wcX4_requireRoom) rfl rfl rfl (by decide +kernel) ⟨(Nat.le_of_ble_eq_true rfl), (Nat.le_of_ble_eq_true rfl)⟩) ⟨fun a U g mk q => by obtain ⟨q0, q1, qZ⟩ := q; exact ⟨q0, q1, zz_same (u := U) (H := U.heap) rfl rfl qZ⟩, fun U hU hW => ⟨rfl, hU, by rw [hU]; exact zz_to hZ hS (fun q h => hA q (Nat.le_trans hS.1 h)) hW⟩⟩ rfl rfl hl.1 rfl (lv_room (Nat.le_of_ble_eq_true rfl)) dX4_unit_43 ⟨(Nat.le_of_ble_eq_true rfl), (Nat.le_of_ble_eq_true rfl)⟩) hS (fun q h1 h2 => absurd h2 (Nat.not_le.mpr h1)) (fun q h => hA q (Nat.le_trans hS.1 h)) (fun q h1 h2 => absurd h2 (Nat.not_le.mpr h1)) (fun E ce q9 _ t H1 locs1 ht hvm hw hB hz1 hk1 hS hce hcv hcl => ?_) (fun _ t H1 locs1 ht hvm hw hB hz1 hk1 hS => ?_)
          · skip
            exact absurd hw (by decide)
          · skip
            have hH1 : H1 = _ := ht.symm.trans hB
            subst hH1
            refine lv_aload_n hx hb dX4_unit_46 rfl (lv_at hl 0 rfl) ?_
            refine va_get (D := (dC, dI)) (C := RX4) (T := TX4) (N := 9) (v := .ref (h 2)) hx hb hts (fi_X4 _) hown hK hP 0 (cw_at0 _ _ _) rfl 1 (by decide) (hts _ (List.mem_cons_of_mem _ wd_13)) (fun _ h9 => h9) rfl dX4_unit_47 ?_
            refine lv_iload_n hx hb dX4_unit_50 rfl (lv_at hl 1 rfl) ?_
            have hFc := va_free (wc := cw g h u) hD hS hA [0, 1, 2, 3, 4, 5, 6, 7, 8, 9, 10, 11, 12, 13, 14, 15, 16, 17, 18, 19, 20, 21, 22, 23] rfl
            refine va_calli (va_runV (As := [.int x1]) (rest := []) ⟨hx, hb, hml, hown, hts⟩ (kX3_add l dC dI g h u _ x1 (by omega)) (cwV 1 hts (gV wd_160 wd_161 wd_162 wd_49 wcX3_add) rfl rfl rfl (by decide +kernel) ⟨(Nat.le_of_ble_eq_true rfl), (Nat.le_of_ble_eq_true rfl)⟩) ⟨fun a U g mk q => by obtain ⟨q0, q1, qP, qK, qD⟩ := q; exact ⟨q0, q1, qP, va_K.moved (u := U) (U := U.calling g mk a) (Vm.Alike.refl U.vm) qK, qD⟩, va_recv hK hP (ci := 2) (q0 := 2) rfl (cw_at2 _ _ _), fun U hU hW => ⟨rfl, by rw [hU], by rw [hU]; exact hP, va_K.moved hW.alike hK, hD.weaken (fun _ _ _ _ => trivial)⟩⟩ rfl rfl hl.1 rfl (lv_room (Nat.le_of_ble_eq_true rfl)) dX4_unit_51 ⟨(Nat.le_of_ble_eq_true rfl), (Nat.le_of_ble_eq_true rfl)⟩) hS (fun q _ h => hFc q h) hFc (fun r_19 u_18 t H locs ht hvm hw hB hz1 hk1 hS => ?_)
            obtain ⟨hP, hD⟩ := hB
            rw [ht] at hP
            have hD := hD.weaken (fun _ _ _ h => hFc _ h)
            have e_20 : r_19 = (fX3_add u x1).1 := congrArg Prod.fst hw
            have e_21 : u_18 = (fX3_add u x1).2 := congrArg Prod.snd hw
            clear hw
            refine lv_istore_n (lv' := [(2, .int r_19), (0, .ref (h 0)), (1, .int x1)]) hx hb dX4_unit_54 rfl hl (by decide) rfl (fun ls hl => ?_)
            refine lv_aload_n hx hb dX4_unit_55 rfl (lv_at hl 1 rfl) ?_
            refine va_get (D := (dC, dI)) (C := RX4) (T := TX4) (N := 9) (v := .ref (h 3)) hx hb hts (fi_X4 _) hown hK hP 0 (cw_at0 _ _ _) rfl 2 (by decide) (hts _ (List.mem_cons_of_mem _ wd_87)) (fun _ h9 => h9) rfl dX4_unit_56 ?_
            refine lv_iload_n hx hb dX4_unit_59 rfl (lv_at hl 2 rfl) ?_
            refine lv_bipush (v := 10) hx hb dX4_unit_60 (by decide) ?_
            refine lv_iload_n hx hb dX4_unit_62 rfl (lv_at hl 0 rfl) ?_
            have hFc := va_free (wc := cw g h u_18) hD hS hA [0, 1, 2, 3, 4, 5, 6, 7, 8, 9, 10, 11, 12, 13, 14, 15, 16, 17, 18, 19, 20, 21, 22, 23] rfl
            refine va_callv (va_runV (As := [.int x1, .int 10, .int r_19]) (rest := []) ⟨hx, hb, hml, hown, hts⟩ (kX2_write l dC dI g h u_18 _ x1 10 r_19 (by subst e_21; subst e_20; show 0 ≤ (k_rwrit u).toInt ∧ (k_rwrit u).toInt < 400; omega)) (cwV 3 hts (gV wd_108 wd_109 wd_110 wd_105 wcX2_write) rfl rfl rfl (by decide +kernel) ⟨(Nat.le_of_ble_eq_true rfl), (Nat.le_of_ble_eq_true rfl)⟩) ⟨fun a U g mk q => by obtain ⟨q0, q1, qP, qK, qD⟩ := q; exact ⟨q0, q1, qP, va_K.moved (u := U) (U := U.calling g mk a) (Vm.Alike.refl U.vm) qK, qD⟩, va_recv hK hP (ci := 1) (q0 := 3) rfl (cw_at3 _ _ _), fun U hU hW => ⟨rfl, by rw [hU], by rw [hU]; exact hP, va_K.moved hW.alike hK, hD.weaken (fun _ _ _ _ => trivial)⟩⟩ rfl rfl hl.1 rfl (lv_room (Nat.le_of_ble_eq_true rfl)) dX4_unit_63 ⟨(Nat.le_of_ble_eq_true rfl), (Nat.le_of_ble_eq_true rfl)⟩) hS (fun q _ h => hFc q h) hFc (fun u_22 t H locs ht hvm hw hB hz1 hk1 hS => ?_)
            obtain ⟨hP, hD⟩ := hB
            rw [ht] at hP
            have hD := hD.weaken (fun _ _ _ h => hFc _ h)
            have e_24 : u_22 = fX2_write u_18 x1 10 r_19 := hw
            clear hw
            refine lv_iload_n hx hb dX4_unit_66 rfl (lv_at hl 0 rfl) ?_
            exact vy_ret (W.iret (v := r_19) hx hb hr (fun t ht hW => ⟨⟨r_19, u_22, rfl, (by subst e_24; subst e_21; subst e_20; unfold fX4_unit; rw [if_pos c_1, if_pos c_4, if_neg c_6, if_neg c_12]), by rw [ht]; exact hP, hD⟩, hS.F ht⟩) hS.2.2 dX4_unit_67)