set_option maxHeartbeats 4000000 in
set_option maxRecDepth 100000 in
theorem kX4_put (l : Launch) (hl9 : l.stackTraces = false) (dC : Nat → ClassId) (dI : Nat → Nat → Nat) (g : cG) (h : Nat → Nat) (u : cS) (sz : Nat) (x1 : Int32) (x2 : Int32) (hI : cInv u) : vy_Met l yX4_put wsX4_put ({ frames := 7, cells := 1, slots := 6, locals := 104 }) (va_Pc [.ref (h 0), .int x1, .int x2] (fun U => U.heap.size = sz ∧ va_P (dC, dI) vwCl (cw g h u) U.heap ∧ va_K (dC, dI) vwCl (cTys g) U ∧ va_D (fun _ => True) (cw g h u) ∧ zz (va_A (cw g h u) sz) U U.heap)) (va_Qv (fun u2 => fX4_put u x1 x2 = (0, 0, u2)) (fun (u2 : cS) (t : State) => va_P (dC, dI) vwCl (cw g h u2) t.heap ∧ va_D (va_A (cw g h u) sz) (cw g h u2)) (va_A (cw g h u) sz)) (vx_X (fun _ => True) (fun E (u2 : cS) t => (∃ k : Nat, fX4_put u x1 x2 = (k, 0, u2) ∧ ex_is k E) ∧ va_P (dC, dI) vwCl (cw g h u2) t.heap ∧ va_D (va_A (cw g h u) sz) (cw g h u2)) (va_A (cw g h u) sz)) 0 0 1 6 (va_A (cw g h u) sz) := by
  refine vy_ofW (cc := cX4_put) (maxL := 4) (ret := none) (by decide) rfl ?_
  intro p e s m args below meth c s₁ B hml hxt hv
  obtain ⟨rfl, hsz, hP, hK, hD0, hZ⟩ := hv
  have hx := B.exec
  have hb := B.bytes
  have hr := B.returns
  have hts := atoms_spec (ws := wsX4_put) B.pre
  have hown : s.vm.findClass RX4 = some m.cls := findClass_of_methodNamed B.named
  have hlocks := B.notSynchronized
  subst hsz
  have hD := hD0.self (sz := s.heap.size)
  generalize hAe : va_A (cw g h u) s.heap.size = A at hD hZ ⊢
  have hA : ∀ q : Nat, s.heap.size ≤ q → A q := fun q h => by rw [← hAe]; exact Or.inr h
  have hS : va_S A s.heap s.heap [] := va_S.rf
  have hl := lv_entry ([.ref (h 0), .int x1, .int x2]) (n := 4) (Nat.le_of_ble_eq_true rfl)
  rw [lg_entry_eq]
  generalize (lg_sl ([.ref (h 0), .int x1, .int x2]) ++ List.replicate (4 - (lg_sl ([.ref (h 0), .int x1, .int x2])).length) Slot.unset).toArray = ls at hl ⊢
  have hl : lv_has ls 4 [(0, .ref (h 0)), (1, .int x1), (2, .int x2)] := hl
  obtain ⟨hI1, hI2, hI3, hI4, hI5, hI6⟩ := id hI
  have z_0 : (0 : Int32).toInt = 0 := by decide
  have z_1 : (19 : Int32).toInt = 19 := by decide
  refine lv_aload_n hx hb dX4_put_0 rfl (lv_at hl 0 rfl) ?_
  refine lv_iload_n hx hb dX4_put_1 rfl (lv_at hl 1 rfl) ?_
  refine vy_callv (vy_runV (As := [.int x1]) (rest := []) ⟨hx, hb, hml, hown, hts⟩ (kX4_requireUnit l hl9 dC dI g h u _ x1) (cwV 1 hts (gV wd_164 wd_165 wd_166 wd_92 wcX4_requireUnit) rfl rfl rfl (by decide +kernel) ⟨(Nat.le_of_ble_eq_true rfl), (Nat.le_of_ble_eq_true rfl)⟩) ⟨fun a U g mk q => by obtain ⟨q0, q1, qP, qK, qZ⟩ := q; exact ⟨q0, q1, qP, va_K.moved (u := U) (U := U.calling g mk a) (Vm.Alike.refl U.vm) qK, zz_same (u := U) (H := U.heap) rfl rfl qZ⟩, va_recv hK hP (ci := 3) (q0 := 0) rfl (cw_at0 _ _ _), fun U hU hW => ⟨rfl, hU, by rw [hU]; exact hP, va_K.moved hW.alike hK, by rw [hU]; exact zz_to hZ hS (fun q h => hA q (Nat.le_trans hS.1 h)) hW⟩⟩ rfl rfl hl.1 rfl (lv_room (Nat.le_of_ble_eq_true rfl)) dX4_put_2 ⟨(Nat.le_of_ble_eq_true rfl), (Nat.le_of_ble_eq_true rfl)⟩) hS (fun q h1 h2 => absurd h2 (Nat.not_le.mpr h1)) (fun q h => hA q (Nat.le_trans hS.1 h)) (fun q h1 h2 => absurd h2 (Nat.not_le.mpr h1)) (fun E ce q9 _ t H1 locs1 ht hvm hw hB hz1 hk1 hS hce hcv hcl => ?_) (fun _ t H1 locs1 ht hvm hw hB hz1 hk1 hS => ?_)
  · skip
    have c_1 : ¬ fX4_requireUnit u x1 = 0 := by rw [hw]; decide
    subst hB
    have hP := hP.kept (fun k q hq => hk1 q.1 (hP k q hq).lt (Nat.not_le.mpr (hP k q hq).lt))
    exact vy_out (vx_out (fun x hx => (hxt x hx).elim) hlocks hce hcv hcl (fun t ht ha => ⟨u, trivial, ⟨⟨1, (by unfold fX4_put; rw [if_neg c_1]), rfl⟩, by rw [ht]; exact hP, hD⟩, hS.F ht⟩) hS.2.2 (Nat.le_of_ble_eq_true rfl) (Nat.le_of_ble_eq_true rfl))
  · skip
    have hH1 : H1 = _ := ht.symm.trans hB
    subst hH1
    have c_1 : fX4_requireUnit u x1 = 0 := hw
    have t_2 := ru_lo c_1
    have t_3 := ru_hi c_1
    refine lv_iload_n hx hb dX4_put_5 rfl (lv_at hl 2 rfl) ?_
    refine lv_iconst (v := 0) hx hb dX4_put_6 (by decide) ?_
    refine lv_bipush (v := 19) hx hb dX4_put_7 (by decide) ?_
    refine vy_callv (vy_runS (As := [.int x2, .int 0, .int 19]) (rest := []) ⟨hx, hb, hml, hown, hts⟩ (kX4_requireRange l hl9 dC dI _ x2 0 19) (cwS 3 hts (gS wd_90 wd_91 wd_92 wcX4_requireRange) rfl rfl rfl (by decide +kernel) ⟨(Nat.le_of_ble_eq_true rfl), (Nat.le_of_ble_eq_true rfl)⟩) ⟨fun a U g mk q => by obtain ⟨q0, q1, qZ⟩ := q; exact ⟨q0, q1, zz_same (u := U) (H := U.heap) rfl rfl qZ⟩, fun U hU hW => ⟨rfl, hU, by rw [hU]; exact zz_to hZ hS (fun q h => hA q (Nat.le_trans hS.1 h)) hW⟩⟩ rfl rfl hl.1 rfl (lv_room (Nat.le_of_ble_eq_true rfl)) dX4_put_9 ⟨(Nat.le_of_ble_eq_true rfl), (Nat.le_of_ble_eq_true rfl)⟩) hS (fun q h1 h2 => absurd h2 (Nat.not_le.mpr h1)) (fun q h => hA q (Nat.le_trans hS.1 h)) (fun q h1 h2 => absurd h2 (Nat.not_le.mpr h1)) (fun E ce q9 _ t H1 locs1 ht hvm hw hB hz1 hk1 hS hce hcv hcl => ?_) (fun _ t H1 locs1 ht hvm hw hB hz1 hk1 hS => ?_)
    · skip
      have c_4 : ¬ fX4_requireRange x2 0 19 = 0 := by rw [hw]; decide
      subst hB
      have hP := hP.kept (fun k q hq => hk1 q.1 (hP k q hq).lt (Nat.not_le.mpr (hP k q hq).lt))
      exact vy_out (vx_out (fun x hx => (hxt x hx).elim) hlocks hce hcv hcl (fun t ht ha => ⟨u, trivial, ⟨⟨2, (by unfold fX4_put; rw [if_pos c_1, if_neg c_4]), rfl⟩, by rw [ht]; exact hP, hD⟩, hS.F ht⟩) hS.2.2 (Nat.le_of_ble_eq_true rfl) (Nat.le_of_ble_eq_true rfl))
    · skip
      have hH1 : H1 = _ := ht.symm.trans hB
      subst hH1
      have c_4 : fX4_requireRange x2 0 19 = 0 := hw
      have t_5 := rr_lo c_4
      have t_6 := rr_hi c_4
      refine lv_aload_n hx hb dX4_put_12 rfl (lv_at hl 0 rfl) ?_
      refine va_get (D := (dC, dI)) (C := RX4) (T := TX4) (N := 9) (v := .ref (h 2)) hx hb hts (fi_X4 _) hown hK hP 0 (cw_at0 _ _ _) rfl 1 (by decide) (hts _ (List.mem_cons_of_mem _ wd_13)) (fun _ h9 => h9) rfl dX4_put_13 ?_
      refine lv_iload_n hx hb dX4_put_16 rfl (lv_at hl 1 rfl) ?_
      refine vp_callSi (W.runV (As := [.int x1]) (rest := []) ⟨hx, hb, hml, hown, hts⟩ (kX3_isGone l dC dI g h u x1 (by omega)) (cwV 1 hts (gV wd_168 wd_47 wd_48 wd_49 wcX3_isGone) rfl rfl rfl (by decide +kernel) ⟨(Nat.le_of_ble_eq_true rfl), (Nat.le_of_ble_eq_true rfl)⟩) ⟨fun a U g mk q => by obtain ⟨q0, qP, qK⟩ := q; exact ⟨q0, qP, va_K.moved (u := U) (U := U.calling g mk a) (Vm.Alike.refl U.vm) qK⟩, va_recv hK hP (ci := 2) (q0 := 2) rfl (cw_at2 _ _ _), fun U hU hW => ⟨rfl, by rw [hU]; exact hP, va_K.moved hW.alike hK⟩⟩ rfl rfl hl.1 rfl (lv_room (Nat.le_of_ble_eq_true rfl)) dX4_put_17 ⟨(Nat.le_of_ble_eq_true rfl), (Nat.le_of_ble_eq_true rfl)⟩) (fun r_7 hw => ?_)
      subst hw
      refine lv_if_ne (tgt := 40) hx hb dX4_put_20 (by decide) (fun c_8 => ?_) (fun c_8 => ?_)
      · skip
        have t_9 : (fX3_isGone u x1).toInt ≠ 0 := i_ne c_8 rfl (by decide)
        refine lv_iconst (v := 0) hx hb dX4_put_40 (by decide) ?_
        refine vy_callv (vy_runS (As := [.int 0]) (rest := []) ⟨hx, hb, hml, hown, hts⟩ (kX4_requireState l hl9 dC dI _ 0) (cwS 1 hts (gS wd_119 wd_120 wd_92 wcX4_requireState) rfl rfl rfl (by decide +kernel) ⟨(Nat.le_of_ble_eq_true rfl), (Nat.le_of_ble_eq_true rfl)⟩) ⟨fun a U g mk q => by obtain ⟨q0, q1, qZ⟩ := q; exact ⟨q0, q1, zz_same (u := U) (H := U.heap) rfl rfl qZ⟩, fun U hU hW => ⟨rfl, hU, by rw [hU]; exact zz_to hZ hS (fun q h => hA q (Nat.le_trans hS.1 h)) hW⟩⟩ rfl rfl hl.1 rfl (lv_room (Nat.le_of_ble_eq_true rfl)) dX4_put_41 ⟨(Nat.le_of_ble_eq_true rfl), (Nat.le_of_ble_eq_true rfl)⟩) hS (fun q h1 h2 => absurd h2 (Nat.not_le.mpr h1)) (fun q h => hA q (Nat.le_trans hS.1 h)) (fun q h1 h2 => absurd h2 (Nat.not_le.mpr h1)) (fun E ce q9 _ t H1 locs1 ht hvm hw hB hz1 hk1 hS hce hcv hcl => ?_) (fun _ t H1 locs1 ht hvm hw hB hz1 hk1 hS => ?_)
        · skip
          subst hB
          have hP := hP.kept (fun k q hq => hk1 q.1 (hP k q hq).lt (Nat.not_le.mpr (hP k q hq).lt))
          exact vy_out (vx_out (fun x hx => (hxt x hx).elim) hlocks hce hcv hcl (fun t ht ha => ⟨u, trivial, ⟨⟨3, (by unfold fX4_put; rw [if_pos c_1, if_pos c_4, if_neg c_8]), rfl⟩, by rw [ht]; exact hP, hD⟩, hS.F ht⟩) hS.2.2 (Nat.le_of_ble_eq_true rfl) (Nat.le_of_ble_eq_true rfl))
        · skip
          exact absurd hw (by decide)
      · skip
        have t_11 : (fX3_isGone u x1).toInt = 0 := i_eq c_8 rfl (by decide)
        refine lv_aload_n hx hb dX4_put_23 rfl (lv_at hl 0 rfl) ?_
        refine va_get (D := (dC, dI)) (C := RX4) (T := TX4) (N := 9) (v := .ref (h 2)) hx hb hts (fi_X4 _) hown hK hP 0 (cw_at0 _ _ _) rfl 1 (by decide) (hts _ (List.mem_cons_of_mem _ wd_13)) (fun _ h9 => h9) rfl dX4_put_24 ?_
        refine va_get (D := (dC, dI)) (C := RX3) (T := TX3) (N := 7) (v := .ref (h 17)) hx hb hts (fi_X3 _) hown hK hP 2 (cw_at2 _ _ _) rfl 1 (by decide) (hts _ (List.mem_cons_of_mem _ wd_82)) (fun _ h9 => h9) rfl dX4_put_27 ?_
        refine lv_iload_n hx hb dX4_put_30 rfl (lv_at hl 1 rfl) ?_
        refine va_iald (f := k_ubin u) hx hb hK hP 17 0 (cw_at17 _ _ _) rfl (vp_in_iff.mpr (by omega)) dX4_put_31 ?_
        refine lv_iload_n hx hb dX4_put_32 rfl (lv_at hl 2 rfl) ?_
        refine lv_icmp_eq (tgt := 40) hx hb dX4_put_33 (by decide) (fun c_12 => ?_) (fun c_12 => ?_)
        · skip
          have t_13 : (k_ubin u x1.toNatClampNeg).toInt = x2.toInt := i_eq c_12 rfl rfl
          refine lv_iconst (v := 0) hx hb dX4_put_40 (by decide) ?_
          refine vy_callv (vy_runS (As := [.int 0]) (rest := []) ⟨hx, hb, hml, hown, hts⟩ (kX4_requireState l hl9 dC dI _ 0) (cwS 1 hts (gS wd_119 wd_120 wd_92 wcX4_requireState) rfl rfl rfl (by decide +kernel) ⟨(Nat.le_of_ble_eq_true rfl), (Nat.le_of_ble_eq_true rfl)⟩) ⟨fun a U g mk q => by obtain ⟨q0, q1, qZ⟩ := q; exact ⟨q0, q1, zz_same (u := U) (H := U.heap) rfl rfl qZ⟩, fun U hU hW => ⟨rfl, hU, by rw [hU]; exact zz_to hZ hS (fun q h => hA q (Nat.le_trans hS.1 h)) hW⟩⟩ rfl rfl hl.1 rfl (lv_room (Nat.le_of_ble_eq_true rfl)) dX4_put_41 ⟨(Nat.le_of_ble_eq_true rfl), (Nat.le_of_ble_eq_true rfl)⟩) hS (fun q h1 h2 => absurd h2 (Nat.not_le.mpr h1)) (fun q h => hA q (Nat.le_trans hS.1 h)) (fun q h1 h2 => absurd h2 (Nat.not_le.mpr h1)) (fun E ce q9 _ t H1 locs1 ht hvm hw hB hz1 hk1 hS hce hcv hcl => ?_) (fun _ t H1 locs1 ht hvm hw hB hz1 hk1 hS => ?_)
          · skip
            subst hB
            have hP := hP.kept (fun k q hq => hk1 q.1 (hP k q hq).lt (Nat.not_le.mpr (hP k q hq).lt))
            exact vy_out (vx_out (fun x hx => (hxt x hx).elim) hlocks hce hcv hcl (fun t ht ha => ⟨u, trivial, ⟨⟨3, (by unfold fX4_put; rw [if_pos c_1, if_pos c_4, if_pos c_8, if_pos c_12]), rfl⟩, by rw [ht]; exact hP, hD⟩, hS.F ht⟩) hS.2.2 (Nat.le_of_ble_eq_true rfl) (Nat.le_of_ble_eq_true rfl))
          · skip
            exact absurd hw (by decide)
        · skip
          have t_15 : (k_ubin u x1.toNatClampNeg).toInt ≠ x2.toInt := i_ne c_12 rfl rfl
          refine lv_iconst (v := 1) hx hb dX4_put_36 (by decide) ?_
          refine lv_goto (tgt := 41) hx hb dX4_put_37 (by decide) ?_
          refine vy_callv (vy_runS (As := [.int 1]) (rest := []) ⟨hx, hb, hml, hown, hts⟩ (kX4_requireState l hl9 dC dI _ 1) (cwS 1 hts (gS wd_119 wd_120 wd_92 wcX4_requireState) rfl rfl rfl (by decide +kernel) ⟨(Nat.le_of_ble_eq_true rfl), (Nat.le_of_ble_eq_true rfl)⟩) ⟨fun a U g mk q => by obtain ⟨q0, q1, qZ⟩ := q; exact ⟨q0, q1, zz_same (u := U) (H := U.heap) rfl rfl qZ⟩, fun U hU hW => ⟨rfl, hU, by rw [hU]; exact zz_to hZ hS (fun q h => hA q (Nat.le_trans hS.1 h)) hW⟩⟩ rfl rfl hl.1 rfl (lv_room (Nat.le_of_ble_eq_true rfl)) dX4_put_41 ⟨(Nat.le_of_ble_eq_true rfl), (Nat.le_of_ble_eq_true rfl)⟩) hS (fun q h1 h2 => absurd h2 (Nat.not_le.mpr h1)) (fun q h => hA q (Nat.le_trans hS.1 h)) (fun q h1 h2 => absurd h2 (Nat.not_le.mpr h1)) (fun E ce q9 _ t H1 locs1 ht hvm hw hB hz1 hk1 hS hce hcv hcl => ?_) (fun _ t H1 locs1 ht hvm hw hB hz1 hk1 hS => ?_)
          · skip
            exact absurd hw (by decide)
          · skip
            have hH1 : H1 = _ := ht.symm.trans hB
            subst hH1
            refine lv_aload_n hx hb dX4_put_44 rfl (lv_at hl 0 rfl) ?_
            refine lv_iload_n hx hb dX4_put_45 rfl (lv_at hl 1 rfl) ?_
            refine lv_iload_n hx hb dX4_put_46 rfl (lv_at hl 2 rfl) ?_
            refine vp_callSi (W.runV (As := [.int x1, .int x2]) (rest := []) ⟨hx, hb, hml, hown, hts⟩ (kX4_lotThatHinders l dC dI g h u x1 x2 (by omega) hI) (cwV 2 hts (gV wd_169 wd_170 wd_171 wd_92 wcX4_lotThatHinders) rfl rfl rfl (by decide +kernel) ⟨(Nat.le_of_ble_eq_true rfl), (Nat.le_of_ble_eq_true rfl)⟩) ⟨fun a U g mk q => by obtain ⟨q0, qP, qK⟩ := q; exact ⟨q0, qP, va_K.moved (u := U) (U := U.calling g mk a) (Vm.Alike.refl U.vm) qK⟩, va_recv hK hP (ci := 3) (q0 := 0) rfl (cw_at0 _ _ _), fun U hU hW => ⟨rfl, by rw [hU]; exact hP, va_K.moved hW.alike hK⟩⟩ rfl rfl hl.1 rfl (lv_room (Nat.le_of_ble_eq_true rfl)) dX4_put_47 ⟨(Nat.le_of_ble_eq_true rfl), (Nat.le_of_ble_eq_true rfl)⟩) (fun r_17 hw => ?_)
            subst hw
            refine lv_istore_n (lv' := [(3, .int (fX4_lotThatHinders u x1 x2)), (0, .ref (h 0)), (1, .int x1), (2, .int x2)]) hx hb dX4_put_50 rfl hl (by decide) rfl (fun ls hl => ?_)
            refine lv_iload_n hx hb dX4_put_51 rfl (lv_at hl 0 rfl) ?_
            refine lv_if_eq (tgt := 83) hx hb dX4_put_52 (by decide) (fun c_18 => ?_) (fun c_18 => ?_)
            · skip
              have t_19 : (fX4_lotThatHinders u x1 x2).toInt = 0 := i_eq c_18 rfl (by decide)
              refine lv_aload_n hx hb dX4_put_83 rfl (lv_at hl 1 rfl) ?_
              refine va_get (D := (dC, dI)) (C := RX4) (T := TX4) (N := 9) (v := .ref (h 2)) hx hb hts (fi_X4 _) hown hK hP 0 (cw_at0 _ _ _) rfl 1 (by decide) (hts _ (List.mem_cons_of_mem _ wd_13)) (fun _ h9 => h9) rfl dX4_put_84 ?_
              refine va_get (D := (dC, dI)) (C := RX3) (T := TX3) (N := 7) (v := .ref (h 17)) hx hb hts (fi_X3 _) hown hK hP 2 (cw_at2 _ _ _) rfl 1 (by decide) (hts _ (List.mem_cons_of_mem _ wd_82)) (fun _ h9 => h9) rfl dX4_put_87 ?_
              refine lv_iload_n hx hb dX4_put_90 rfl (lv_at hl 2 rfl) ?_
              refine lv_iload_n hx hb dX4_put_91 rfl (lv_at hl 3 rfl) ?_
              refine va_iast (f := k_ubin u) hx hb hK hP hD hS 17 0 (cw_at17 _ _ _) rfl (vp_in_iff.mpr (by omega)) dX4_put_92 (fun H locs hP hD hS => ?_)
              have hP : va_P (dC, dI) vwCl (cw g h (s_ubin u (upd (k_ubin u) x1.toNatClampNeg x2))) H := hP
              have hD : va_D A (cw g h (s_ubin u (upd (k_ubin u) x1.toNatClampNeg x2))) := hD
              exact vy_ret (W.vret hx hb hr (fun t ht hW => ⟨⟨(s_ubin u (upd (k_ubin u) x1.toNatClampNeg x2)), rfl, (by unfold fX4_put; rw [if_pos c_1, if_pos c_4, if_pos c_8, if_neg c_12, if_pos c_18]), by rw [ht]; exact hP, hD⟩, hS.F ht⟩) hS.2.2 dX4_put_93)
            · skip
              have t_20 : (fX4_lotThatHinders u x1 x2).toInt ≠ 0 := i_ne c_18 rfl (by decide)
              refine lv_aload_n hx hb dX4_put_55 rfl (lv_at hl 1 rfl) ?_
              refine lv_aload_n hx hb dX4_put_56 rfl (lv_at hl 1 rfl) ?_
              refine va_get (D := (dC, dI)) (C := RX4) (T := TX4) (N := 9) (v := .ref (h 2)) hx hb hts (fi_X4 _) hown hK hP 0 (cw_at0 _ _ _) rfl 1 (by decide) (hts _ (List.mem_cons_of_mem _ wd_13)) (fun _ h9 => h9) rfl dX4_put_57 ?_
              refine va_get (D := (dC, dI)) (C := RX3) (T := TX3) (N := 7) (v := .ref (h 16)) hx hb hts (fi_X3 _) hown hK hP 2 (cw_at2 _ _ _) rfl 0 (by decide) (hts _ (List.mem_cons_of_mem _ wd_79)) (fun _ h9 => h9) rfl dX4_put_60 ?_
              refine lv_iload_n hx hb dX4_put_63 rfl (lv_at hl 2 rfl) ?_
              refine va_iald (f := k_ulot u) hx hb hK hP 16 0 (cw_at16 _ _ _) rfl (vp_in_iff.mpr (by omega)) dX4_put_64 ?_
              refine va_put (D := (dC, dI)) (C := RX4) (T := TX4) (N := 9) (v := .int (k_ulot u x1.toNatClampNeg)) (ty := .int) hx hb hts (fi_X4 _) tyX4 tyX4_ok nmX4 hown hK hP hD hS 0 (cw_at0 _ _ _) rfl 7 (by decide) (hts _ (List.mem_cons_of_mem _ wd_173)) (fun _ h9 => h9) rfl (by decide +kernel) rfl rfl (Nat.le_of_ble_eq_true rfl) dX4_put_65 (fun H locs hP hD hS => ?_)
              have hP : va_P (dC, dI) vwCl (cw g h (s_refused u (k_ulot u x1.toNatClampNeg))) H := hP
              have hD : va_D A (cw g h (s_refused u (k_ulot u x1.toNatClampNeg))) := hD
              refine lv_aload_n hx hb dX4_put_68 rfl (lv_at hl 1 rfl) ?_
              refine lv_iload_n hx hb dX4_put_69 rfl (lv_at hl 0 rfl) ?_
              refine va_put (D := (dC, dI)) (C := RX4) (T := TX4) (N := 9) (v := .int (fX4_lotThatHinders u x1 x2)) (ty := .int) hx hb hts (fi_X4 _) tyX4 tyX4_ok nmX4 hown hK hP hD hS 0 (cw_at0 _ _ _) rfl 8 (by decide) (hts _ (List.mem_cons_of_mem _ wd_174)) (fun _ h9 => h9) rfl (by decide +kernel) rfl rfl (Nat.le_of_ble_eq_true rfl) dX4_put_70 (fun H locs hP hD hS => ?_)
              have hP : va_P (dC, dI) vwCl (cw g h (s_hinder (s_refused u (k_ulot u x1.toNatClampNeg)) (fX4_lotThatHinders u x1 x2))) H := hP
              have hD : va_D A (cw g h (s_hinder (s_refused u (k_ulot u x1.toNatClampNeg)) (fX4_lotThatHinders u x1 x2))) := hD
              obtain ⟨sa_21, hsa_21⟩ := zz_st hZ (own := RX4) (k := 148) (tx := "it may not lie with what is there") (by decide +kernel)
              exact vy_thr (vx_throwS (own := RX4) (cls := "java/lang/IllegalStateException") (names := ["java/lang/RuntimeException", "java/lang/Exception"]) hx hb hl9 hown (by decide +kernel) (by decide +kernel) (hts _ (List.mem_cons_of_mem _ wd_5)) (hts _ (List.mem_cons_of_mem _ wd_6)) hsa_21 (vx_hat (L := vx_atS RX4 150 "java/lang/IllegalStateException" ["java/lang/RuntimeException", "java/lang/Exception"]) (B := [.castable "java/lang/IllegalStateException" "java/lang/IllegalStateException", .declares ⟨"java/lang/RuntimeException", "<init>", "(Ljava/lang/String;)V"⟩, .declares ⟨"java/lang/Exception", "<init>", "(Ljava/lang/String;)V"⟩, .declares ⟨"java/lang/Throwable", "<init>", "(Ljava/lang/String;)V"⟩]) (fun w hw => hts w (List.mem_cons_of_mem _ (at_3 w hw))) bt_3 (zz_ws hZ (by decide +kernel))) gt_3 (zz_U hZ) (zz_N hZ) hS (hl.1.trans hml.symm) dX4_put_73 dX4_put_76 dX4_put_77 dX4_put_79 dX4_put_82 (fun x hx => (hxt x hx).elim) (Nat.le_of_ble_eq_true rfl) (Nat.le_of_ble_eq_true rfl) (Nat.le_of_ble_eq_true rfl) (Nat.le_of_ble_eq_true rfl) hlocks (fun t ha hsz hk => ⟨(s_hinder (s_refused u (k_ulot u x1.toNatClampNeg)) (fX4_lotThatHinders u x1 x2)), trivial, ⟨⟨3, (by unfold fX4_put; rw [if_pos c_1, if_pos c_4, if_pos c_8, if_neg c_12, if_neg c_18]), rfl⟩, hP.kept (fun k q hq => hk q.1 (hP k q hq).lt), hD⟩, Nat.le_trans hS.1 hsz, fun q h1 h2 => (hk q (Nat.lt_of_lt_of_le h1 hS.1)).trans (hS.2.1 q h1 h2)⟩) hS.2.2 (Nat.le_of_ble_eq_true rfl) (Nat.le_of_ble_eq_true rfl))
set_option maxHeartbeats 4000000 in
set_option maxRecDepth 100000 in
theorem kX4_mixed (l : Launch) (hl9 : l.stackTraces = false) (dC : Nat → ClassId) (dI : Nat → Nat → Nat) (g : cG) (h : Nat → Nat) (u : cS) (sz : Nat) (x1 : Int32) (hI : cInv u) : vy_Met l yX4_mixed wsX4_mixed ({ frames := 7, cells := 1, slots := 6, locals := 104 }) (va_Pc [.ref (h 0), .int x1] (fun U => U.heap.size = sz ∧ va_P (dC, dI) vwCl (cw g h u) U.heap ∧ va_K (dC, dI) vwCl (cTys g) U ∧ va_D (fun _ => True) (cw g h u) ∧ zz (va_A (cw g h u) sz) U U.heap)) (va_Qi (fun (r : Int32) u2 => fX4_mixed u x1 = (0, r, u2)) (fun (u2 : cS) (t : State) => va_P (dC, dI) vwCl (cw g h u2) t.heap ∧ va_D (va_A (cw g h u) sz) (cw g h u2)) (va_A (cw g h u) sz)) (vx_X (fun _ => True) (fun E (u2 : cS) t => (∃ k : Nat, fX4_mixed u x1 = (k, 0, u2) ∧ ex_is k E) ∧ va_P (dC, dI) vwCl (cw g h u2) t.heap ∧ va_D (va_A (cw g h u) sz) (cw g h u2)) (va_A (cw g h u) sz)) 0 0 1 6 (va_A (cw g h u) sz) := by
  refine vy_ofW (cc := cX4_mixed) (maxL := 2) (ret := (some .int)) (by decide) rfl ?_
  intro p e s m args below meth c s₁ B hml hxt hv
  obtain ⟨rfl, hsz, hP, hK, hD0, hZ⟩ := hv
  have hx := B.exec
  have hb := B.bytes
  have hr := B.returns
  have hts := atoms_spec (ws := wsX4_mixed) B.pre
  have hown : s.vm.findClass RX4 = some m.cls := findClass_of_methodNamed B.named
  have hlocks := B.notSynchronized
  subst hsz
  have hD := hD0.self (sz := s.heap.size)
  generalize hAe : va_A (cw g h u) s.heap.size = A at hD hZ ⊢
  have hA : ∀ q : Nat, s.heap.size ≤ q → A q := fun q h => by rw [← hAe]; exact Or.inr h
  have hS : va_S A s.heap s.heap [] := va_S.rf
  have hl := lv_entry ([.ref (h 0), .int x1]) (n := 2) (Nat.le_of_ble_eq_true rfl)
  rw [lg_entry_eq]
  generalize (lg_sl ([.ref (h 0), .int x1]) ++ List.replicate (2 - (lg_sl ([.ref (h 0), .int x1])).length) Slot.unset).toArray = ls at hl ⊢
  have hl : lv_has ls 2 [(0, .ref (h 0)), (1, .int x1)] := hl
  obtain ⟨hI1, hI2, hI3, hI4, hI5, hI6⟩ := id hI
  have z_0 : (0 : Int32).toInt = 0 := by decide
  have z_1 : (1 : Int32).toInt = 1 := by decide
  refine lv_iload_n hx hb dX4_mixed_0 rfl (lv_at hl 1 rfl) ?_
  refine lv_iconst (v := 0) hx hb dX4_mixed_1 (by decide) ?_
  refine lv_iconst (v := 1) hx hb dX4_mixed_2 (by decide) ?_
  refine vy_callv (vy_runS (As := [.int x1, .int 0, .int 1]) (rest := []) ⟨hx, hb, hml, hown, hts⟩ (kX4_requireRange l hl9 dC dI _ x1 0 1) (cwS 3 hts (gS wd_90 wd_91 wd_92 wcX4_requireRange) rfl rfl rfl (by decide +kernel) ⟨(Nat.le_of_ble_eq_true rfl), (Nat.le_of_ble_eq_true rfl)⟩) ⟨fun a U g mk q => by obtain ⟨q0, q1, qZ⟩ := q; exact ⟨q0, q1, zz_same (u := U) (H := U.heap) rfl rfl qZ⟩, fun U hU hW => ⟨rfl, hU, by rw [hU]; exact zz_to hZ hS (fun q h => hA q (Nat.le_trans hS.1 h)) hW⟩⟩ rfl rfl hl.1 rfl (lv_room (Nat.le_of_ble_eq_true rfl)) dX4_mixed_3 ⟨(Nat.le_of_ble_eq_true rfl), (Nat.le_of_ble_eq_true rfl)⟩) hS (fun q h1 h2 => absurd h2 (Nat.not_le.mpr h1)) (fun q h => hA q (Nat.le_trans hS.1 h)) (fun q h1 h2 => absurd h2 (Nat.not_le.mpr h1)) (fun E ce q9 _ t H1 locs1 ht hvm hw hB hz1 hk1 hS hce hcv hcl => ?_) (fun _ t H1 locs1 ht hvm hw hB hz1 hk1 hS => ?_)
  · skip
    have c_1 : ¬ fX4_requireRange x1 0 1 = 0 := by rw [hw]; decide
    subst hB
    have hP := hP.kept (fun k q hq => hk1 q.1 (hP k q hq).lt (Nat.not_le.mpr (hP k q hq).lt))
    exact vy_out (vx_out (fun x hx => (hxt x hx).elim) hlocks hce hcv hcl (fun t ht ha => ⟨u, trivial, ⟨⟨2, (by unfold fX4_mixed; rw [if_neg c_1]), rfl⟩, by rw [ht]; exact hP, hD⟩, hS.F ht⟩) hS.2.2 (Nat.le_of_ble_eq_true rfl) (Nat.le_of_ble_eq_true rfl))
  · skip
    have hH1 : H1 = _ := ht.symm.trans hB
    subst hH1
    have c_1 : fX4_requireRange x1 0 1 = 0 := hw
    have t_2 := rr_lo c_1
    have t_3 := rr_hi c_1
    refine lv_iload_n hx hb dX4_mixed_6 rfl (lv_at hl 1 rfl) ?_
    refine lv_if_ne (tgt := 17) hx hb dX4_mixed_7 (by decide) (fun c_4 => ?_) (fun c_4 => ?_)
    · skip
      have t_5 : x1.toInt ≠ 0 := i_ne c_4 rfl (by decide)
      refine lv_aload_n hx hb dX4_mixed_17 rfl (lv_at hl 0 rfl) ?_
      refine va_get (D := (dC, dI)) (C := RX4) (T := TX4) (N := 9) (v := .int (k_hinder u)) hx hb hts (fi_X4 _) hown hK hP 0 (cw_at0 _ _ _) rfl 8 (by decide) (hts _ (List.mem_cons_of_mem _ wd_174)) (fun _ h9 => h9) rfl dX4_mixed_18 ?_
      exact vy_ret (W.iret (v := k_hinder u) hx hb hr (fun t ht hW => ⟨⟨(k_hinder u), u, rfl, (by unfold fX4_mixed; rw [if_pos c_1, if_neg c_4]), by rw [ht]; exact hP, hD⟩, hS.F ht⟩) hS.2.2 dX4_mixed_21)
    · skip
      have t_6 : x1.toInt = 0 := i_eq c_4 rfl (by decide)
      refine lv_aload_n hx hb dX4_mixed_10 rfl (lv_at hl 0 rfl) ?_
      refine va_get (D := (dC, dI)) (C := RX4) (T := TX4) (N := 9) (v := .int (k_refused u)) hx hb hts (fi_X4 _) hown hK hP 0 (cw_at0 _ _ _) rfl 7 (by decide) (hts _ (List.mem_cons_of_mem _ wd_173)) (fun _ h9 => h9) rfl dX4_mixed_11 ?_
      refine lv_goto (tgt := 21) hx hb dX4_mixed_14 (by decide) ?_
      exact vy_ret (W.iret (v := k_refused u) hx hb hr (fun t ht hW => ⟨⟨(k_refused u), u, rfl, (by unfold fX4_mixed; rw [if_pos c_1, if_pos c_4]), by rw [ht]; exact hP, hD⟩, hS.F ht⟩) hS.2.2 dX4_mixed_21)
set_option maxHeartbeats 4000000 in
set_option maxRecDepth 100000 in
theorem kX4_ship (l : Launch) (hl9 : l.stackTraces = false) (dC : Nat → ClassId) (dI : Nat → Nat → Nat) (g : cG) (h : Nat → Nat) (u : cS) (sz : Nat) (x1 : Int32) (x2 : Int32) (x3 : Int32) (hI : cInv u) : vy_Met l yX4_ship wsX4_ship ({ frames := 7, cells := 1, slots := 6, locals := 104 }) (va_Pc [.ref (h 0), .int x1, .int x2, .int x3] (fun U => U.heap.size = sz ∧ va_P (dC, dI) vwCl (cw g h u) U.heap ∧ va_K (dC, dI) vwCl (cTys g) U ∧ va_D (fun _ => True) (cw g h u) ∧ zz (va_A (cw g h u) sz) U U.heap)) (va_Qv (fun u2 => fX4_ship u x1 x2 x3 = (0, 0, u2)) (fun (u2 : cS) (t : State) => va_P (dC, dI) vwCl (cw g h u2) t.heap ∧ va_D (va_A (cw g h u) sz) (cw g h u2)) (va_A (cw g h u) sz)) (vx_X (fun _ => True) (fun E (u2 : cS) t => (∃ k : Nat, fX4_ship u x1 x2 x3 = (k, 0, u2) ∧ ex_is k E) ∧ va_P (dC, dI) vwCl (cw g h u2) t.heap ∧ va_D (va_A (cw g h u) sz) (cw g h u2)) (va_A (cw g h u) sz)) 0 0 1 6 (va_A (cw g h u) sz) := by
  refine vy_ofW (cc := cX4_ship) (maxL := 5) (ret := none) (by decide) rfl ?_
  intro p e s m args below meth c s₁ B hml hxt hv
  obtain ⟨rfl, hsz, hP, hK, hD0, hZ⟩ := hv
  have hx := B.exec
  have hb := B.bytes
  have hr := B.returns
  have hts := atoms_spec (ws := wsX4_ship) B.pre
  have hown : s.vm.findClass RX4 = some m.cls := findClass_of_methodNamed B.named
  have hlocks := B.notSynchronized
  subst hsz
  have hD := hD0.self (sz := s.heap.size)
  generalize hAe : va_A (cw g h u) s.heap.size = A at hD hZ ⊢
  have hA : ∀ q : Nat, s.heap.size ≤ q → A q := fun q h => by rw [← hAe]; exact Or.inr h
  have hS : va_S A s.heap s.heap [] := va_S.rf
  have hl := lv_entry ([.ref (h 0), .int x1, .int x2, .int x3]) (n := 5) (Nat.le_of_ble_eq_true rfl)
  rw [lg_entry_eq]
  generalize (lg_sl ([.ref (h 0), .int x1, .int x2, .int x3]) ++ List.replicate (5 - (lg_sl ([.ref (h 0), .int x1, .int x2, .int x3])).length) Slot.unset).toArray = ls at hl ⊢
  have hl : lv_has ls 5 [(0, .ref (h 0)), (1, .int x1), (2, .int x2), (3, .int x3)] := hl
  obtain ⟨hI1, hI2, hI3, hI4, hI5, hI6⟩ := id hI
  have z_0 : (0 : Int32).toInt = 0 := by decide
  have z_1 : (7 : Int32).toInt = 7 := by decide
  have z_2 : (36524 : Int32).toInt = 36524 := by decide
  refine lv_aload_n hx hb dX4_ship_0 rfl (lv_at hl 0 rfl) ?_
  refine lv_iload_n hx hb dX4_ship_1 rfl (lv_at hl 1 rfl) ?_
  refine vy_callv (vy_runV (As := [.int x1]) (rest := []) ⟨hx, hb, hml, hown, hts⟩ (kX4_requireUnit l hl9 dC dI g h u _ x1) (cwV 1 hts (gV wd_164 wd_165 wd_166 wd_92 wcX4_requireUnit) rfl rfl rfl (by decide +kernel) ⟨(Nat.le_of_ble_eq_true rfl), (Nat.le_of_ble_eq_true rfl)⟩) ⟨fun a U g mk q => by obtain ⟨q0, q1, qP, qK, qZ⟩ := q; exact ⟨q0, q1, qP, va_K.moved (u := U) (U := U.calling g mk a) (Vm.Alike.refl U.vm) qK, zz_same (u := U) (H := U.heap) rfl rfl qZ⟩, va_recv hK hP (ci := 3) (q0 := 0) rfl (cw_at0 _ _ _), fun U hU hW => ⟨rfl, hU, by rw [hU]; exact hP, va_K.moved hW.alike hK, by rw [hU]; exact zz_to hZ hS (fun q h => hA q (Nat.le_trans hS.1 h)) hW⟩⟩ rfl rfl hl.1 rfl (lv_room (Nat.le_of_ble_eq_true rfl)) dX4_ship_2 ⟨(Nat.le_of_ble_eq_true rfl), (Nat.le_of_ble_eq_true rfl)⟩) hS (fun q h1 h2 => absurd h2 (Nat.not_le.mpr h1)) (fun q h => hA q (Nat.le_trans hS.1 h)) (fun q h1 h2 => absurd h2 (Nat.not_le.mpr h1)) (fun E ce q9 _ t H1 locs1 ht hvm hw hB hz1 hk1 hS hce hcv hcl => ?_) (fun _ t H1 locs1 ht hvm hw hB hz1 hk1 hS => ?_)
  · skip
    have c_1 : ¬ fX4_requireUnit u x1 = 0 := by rw [hw]; decide
    subst hB
    have hP := hP.kept (fun k q hq => hk1 q.1 (hP k q hq).lt (Nat.not_le.mpr (hP k q hq).lt))
    exact vy_out (vx_out (fun x hx => (hxt x hx).elim) hlocks hce hcv hcl (fun t ht ha => ⟨u, trivial, ⟨⟨1, (by unfold fX4_ship; rw [if_neg c_1]), rfl⟩, by rw [ht]; exact hP, hD⟩, hS.F ht⟩) hS.2.2 (Nat.le_of_ble_eq_true rfl) (Nat.le_of_ble_eq_true rfl))
  · skip
    have hH1 : H1 = _ := ht.symm.trans hB
    subst hH1
    have c_1 : fX4_requireUnit u x1 = 0 := hw
    have t_2 := ru_lo c_1
    have t_3 := ru_hi c_1
    refine lv_iload_n hx hb dX4_ship_5 rfl (lv_at hl 2 rfl) ?_
    refine lv_iconst (v := 0) hx hb dX4_ship_6 (by decide) ?_
    refine lv_bipush (v := 7) hx hb dX4_ship_7 (by decide) ?_
    refine vy_callv (vy_runS (As := [.int x2, .int 0, .int 7]) (rest := []) ⟨hx, hb, hml, hown, hts⟩ (kX4_requireRange l hl9 dC dI _ x2 0 7) (cwS 3 hts (gS wd_90 wd_91 wd_92 wcX4_requireRange) rfl rfl rfl (by decide +kernel) ⟨(Nat.le_of_ble_eq_true rfl), (Nat.le_of_ble_eq_true rfl)⟩) ⟨fun a U g mk q => by obtain ⟨q0, q1, qZ⟩ := q; exact ⟨q0, q1, zz_same (u := U) (H := U.heap) rfl rfl qZ⟩, fun U hU hW => ⟨rfl, hU, by rw [hU]; exact zz_to hZ hS (fun q h => hA q (Nat.le_trans hS.1 h)) hW⟩⟩ rfl rfl hl.1 rfl (lv_room (Nat.le_of_ble_eq_true rfl)) dX4_ship_9 ⟨(Nat.le_of_ble_eq_true rfl), (Nat.le_of_ble_eq_true rfl)⟩) hS (fun q h1 h2 => absurd h2 (Nat.not_le.mpr h1)) (fun q h => hA q (Nat.le_trans hS.1 h)) (fun q h1 h2 => absurd h2 (Nat.not_le.mpr h1)) (fun E ce q9 _ t H1 locs1 ht hvm hw hB hz1 hk1 hS hce hcv hcl => ?_) (fun _ t H1 locs1 ht hvm hw hB hz1 hk1 hS => ?_)
    · skip
      have c_4 : ¬ fX4_requireRange x2 0 7 = 0 := by rw [hw]; decide
      subst hB
      have hP := hP.kept (fun k q hq => hk1 q.1 (hP k q hq).lt (Nat.not_le.mpr (hP k q hq).lt))
      exact vy_out (vx_out (fun x hx => (hxt x hx).elim) hlocks hce hcv hcl (fun t ht ha => ⟨u, trivial, ⟨⟨2, (by unfold fX4_ship; rw [if_pos c_1, if_neg c_4]), rfl⟩, by rw [ht]; exact hP, hD⟩, hS.F ht⟩) hS.2.2 (Nat.le_of_ble_eq_true rfl) (Nat.le_of_ble_eq_true rfl))
    · skip
      have hH1 : H1 = _ := ht.symm.trans hB
      subst hH1
      have c_4 : fX4_requireRange x2 0 7 = 0 := hw
      have t_5 := rr_lo c_4
      have t_6 := rr_hi c_4
      refine lv_iload_n hx hb dX4_ship_12 rfl (lv_at hl 3 rfl) ?_
      refine lv_iconst (v := 0) hx hb dX4_ship_13 (by decide) ?_
      refine lv_ldc (v := 36524) hx hb hown (hts _ (List.mem_cons_of_mem _ wd_94)) dX4_ship_14 ?_
      refine vy_callv (vy_runS (As := [.int x3, .int 0, .int 36524]) (rest := []) ⟨hx, hb, hml, hown, hts⟩ (kX4_requireRange l hl9 dC dI _ x3 0 36524) (cwS 3 hts (gS wd_90 wd_91 wd_92 wcX4_requireRange) rfl rfl rfl (by decide +kernel) ⟨(Nat.le_of_ble_eq_true rfl), (Nat.le_of_ble_eq_true rfl)⟩) ⟨fun a U g mk q => by obtain ⟨q0, q1, qZ⟩ := q; exact ⟨q0, q1, zz_same (u := U) (H := U.heap) rfl rfl qZ⟩, fun U hU hW => ⟨rfl, hU, by rw [hU]; exact zz_to hZ hS (fun q h => hA q (Nat.le_trans hS.1 h)) hW⟩⟩ rfl rfl hl.1 rfl (lv_room (Nat.le_of_ble_eq_true rfl)) dX4_ship_16 ⟨(Nat.le_of_ble_eq_true rfl), (Nat.le_of_ble_eq_true rfl)⟩) hS (fun q h1 h2 => absurd h2 (Nat.not_le.mpr h1)) (fun q h => hA q (Nat.le_trans hS.1 h)) (fun q h1 h2 => absurd h2 (Nat.not_le.mpr h1)) (fun E ce q9 _ t H1 locs1 ht hvm hw hB hz1 hk1 hS hce hcv hcl => ?_) (fun _ t H1 locs1 ht hvm hw hB hz1 hk1 hS => ?_)
      · skip
        have c_7 : ¬ fX4_requireRange x3 0 36524 = 0 := by rw [hw]; decide
        subst hB
        have hP := hP.kept (fun k q hq => hk1 q.1 (hP k q hq).lt (Nat.not_le.mpr (hP k q hq).lt))
        exact vy_out (vx_out (fun x hx => (hxt x hx).elim) hlocks hce hcv hcl (fun t ht ha => ⟨u, trivial, ⟨⟨2, (by unfold fX4_ship; rw [if_pos c_1, if_pos c_4, if_neg c_7]), rfl⟩, by rw [ht]; exact hP, hD⟩, hS.F ht⟩) hS.2.2 (Nat.le_of_ble_eq_true rfl) (Nat.le_of_ble_eq_true rfl))
      · skip
        have hH1 : H1 = _ := ht.symm.trans hB
        subst hH1
        have c_7 : fX4_requireRange x3 0 36524 = 0 := hw
        have t_8 := rr_lo c_7
        have t_9 := rr_hi c_7
        refine lv_aload_n hx hb dX4_ship_19 rfl (lv_at hl 0 rfl) ?_
        refine va_get (D := (dC, dI)) (C := RX4) (T := TX4) (N := 9) (v := .ref (h 2)) hx hb hts (fi_X4 _) hown hK hP 0 (cw_at0 _ _ _) rfl 1 (by decide) (hts _ (List.mem_cons_of_mem _ wd_13)) (fun _ h9 => h9) rfl dX4_ship_20 ?_
        refine va_get (D := (dC, dI)) (C := RX3) (T := TX3) (N := 7) (v := .ref (h 16)) hx hb hts (fi_X3 _) hown hK hP 2 (cw_at2 _ _ _) rfl 0 (by decide) (hts _ (List.mem_cons_of_mem _ wd_79)) (fun _ h9 => h9) rfl dX4_ship_23 ?_
        refine lv_iload_n hx hb dX4_ship_26 rfl (lv_at hl 1 rfl) ?_
        refine va_iald (f := k_ulot u) hx hb hK hP 16 0 (cw_at16 _ _ _) rfl (vp_in_iff.mpr (by omega)) dX4_ship_27 ?_
        refine lv_istore (lv' := [(4, .int (k_ulot u x1.toNatClampNeg)), (0, .ref (h 0)), (1, .int x1), (2, .int x2), (3, .int x3)]) hx hb dX4_ship_28 hl (by decide) rfl (fun ls hl => ?_)
        refine lv_aload_n hx hb dX4_ship_30 rfl (lv_at hl 1 rfl) ?_
        refine va_get (D := (dC, dI)) (C := RX4) (T := TX4) (N := 9) (v := .ref (h 2)) hx hb hts (fi_X4 _) hown hK hP 0 (cw_at0 _ _ _) rfl 1 (by decide) (hts _ (List.mem_cons_of_mem _ wd_13)) (fun _ h9 => h9) rfl dX4_ship_31 ?_
        refine lv_iload_n hx hb dX4_ship_34 rfl (lv_at hl 2 rfl) ?_
        refine vp_callSi (W.runV (As := [.int x1]) (rest := []) ⟨hx, hb, hml, hown, hts⟩ (kX3_isGone l dC dI g h u x1 (by omega)) (cwV 1 hts (gV wd_168 wd_47 wd_48 wd_49 wcX3_isGone) rfl rfl rfl (by decide +kernel) ⟨(Nat.le_of_ble_eq_true rfl), (Nat.le_of_ble_eq_true rfl)⟩) ⟨fun a U g mk q => by obtain ⟨q0, qP, qK⟩ := q; exact ⟨q0, qP, va_K.moved (u := U) (U := U.calling g mk a) (Vm.Alike.refl U.vm) qK⟩, va_recv hK hP (ci := 2) (q0 := 2) rfl (cw_at2 _ _ _), fun U hU hW => ⟨rfl, by rw [hU]; exact hP, va_K.moved hW.alike hK⟩⟩ rfl rfl hl.1 rfl (lv_room (Nat.le_of_ble_eq_true rfl)) dX4_ship_35 ⟨(Nat.le_of_ble_eq_true rfl), (Nat.le_of_ble_eq_true rfl)⟩) (fun r_10 hw => ?_)
        subst hw
        refine lv_if_ne (tgt := 56) hx hb dX4_ship_38 (by decide) (fun c_11 => ?_) (fun c_11 => ?_)
        · skip
          have t_12 : (fX3_isGone u x1).toInt ≠ 0 := i_ne c_11 rfl (by decide)
          refine lv_iconst (v := 0) hx hb dX4_ship_56 (by decide) ?_
          refine vy_callv (vy_runS (As := [.int 0]) (rest := []) ⟨hx, hb, hml, hown, hts⟩ (kX4_requireState l hl9 dC dI _ 0) (cwS 1 hts (gS wd_119 wd_120 wd_92 wcX4_requireState) rfl rfl rfl (by decide +kernel) ⟨(Nat.le_of_ble_eq_true rfl), (Nat.le_of_ble_eq_true rfl)⟩) ⟨fun a U g mk q => by obtain ⟨q0, q1, qZ⟩ := q; exact ⟨q0, q1, zz_same (u := U) (H := U.heap) rfl rfl qZ⟩, fun U hU hW => ⟨rfl, hU, by rw [hU]; exact zz_to hZ hS (fun q h => hA q (Nat.le_trans hS.1 h)) hW⟩⟩ rfl rfl hl.1 rfl (lv_room (Nat.le_of_ble_eq_true rfl)) dX4_ship_57 ⟨(Nat.le_of_ble_eq_true rfl), (Nat.le_of_ble_eq_true rfl)⟩) hS (fun q h1 h2 => absurd h2 (Nat.not_le.mpr h1)) (fun q h => hA q (Nat.le_trans hS.1 h)) (fun q h1 h2 => absurd h2 (Nat.not_le.mpr h1)) (fun E ce q9 _ t H1 locs1 ht hvm hw hB hz1 hk1 hS hce hcv hcl => ?_) (fun _ t H1 locs1 ht hvm hw hB hz1 hk1 hS => ?_)
          · skip
            subst hB
            have hP := hP.kept (fun k q hq => hk1 q.1 (hP k q hq).lt (Nat.not_le.mpr (hP k q hq).lt))
            exact vy_out (vx_out (fun x hx => (hxt x hx).elim) hlocks hce hcv hcl (fun t ht ha => ⟨u, trivial, ⟨⟨3, (by unfold fX4_ship; rw [if_pos c_1, if_pos c_4, if_pos c_7, if_neg c_11]), rfl⟩, by rw [ht]; exact hP, hD⟩, hS.F ht⟩) hS.2.2 (Nat.le_of_ble_eq_true rfl) (Nat.le_of_ble_eq_true rfl))
          · skip
            exact absurd hw (by decide)
        · skip
          have t_14 : (fX3_isGone u x1).toInt = 0 := i_eq c_11 rfl (by decide)
          refine lv_aload_n hx hb dX4_ship_41 rfl (lv_at hl 1 rfl) ?_
          refine lv_iload hx hb dX4_ship_42 (lv_at hl 0 rfl) ?_
          refine lv_iload_n hx hb dX4_ship_44 rfl (lv_at hl 3 rfl) ?_
          refine lv_iload_n hx hb dX4_ship_45 rfl (lv_at hl 4 rfl) ?_
          refine vp_callSi (W.runV (As := [.int (k_ulot u x1.toNatClampNeg), .int x2, .int x3]) (rest := []) ⟨hx, hb, hml, hown, hts⟩ (kX4_mayGo l dC dI g h u (k_ulot u x1.toNatClampNeg) x2 x3 (hI5 _) (by omega)) (cwV 3 hts (gV wd_136 wd_137 wd_138 wd_92 wcX4_mayGo) rfl rfl rfl (by decide +kernel) ⟨(Nat.le_of_ble_eq_true rfl), (Nat.le_of_ble_eq_true rfl)⟩) ⟨fun a U g mk q => by obtain ⟨q0, qP, qK⟩ := q; exact ⟨q0, qP, va_K.moved (u := U) (U := U.calling g mk a) (Vm.Alike.refl U.vm) qK⟩, va_recv hK hP (ci := 3) (q0 := 0) rfl (cw_at0 _ _ _), fun U hU hW => ⟨rfl, by rw [hU]; exact hP, va_K.moved hW.alike hK⟩⟩ rfl rfl hl.1 rfl (lv_room (Nat.le_of_ble_eq_true rfl)) dX4_ship_46 ⟨(Nat.le_of_ble_eq_true rfl), (Nat.le_of_ble_eq_true rfl)⟩) (fun r_15 hw => ?_)
          subst hw
          refine lv_if_eq (tgt := 56) hx hb dX4_ship_49 (by decide) (fun c_16 => ?_) (fun c_16 => ?_)
          · skip
            have t_17 : (fX4_mayGo u (k_ulot u x1.toNatClampNeg) x2 x3).toInt = 0 := i_eq c_16 rfl (by decide)
            refine lv_iconst (v := 0) hx hb dX4_ship_56 (by decide) ?_
            refine vy_callv (vy_runS (As := [.int 0]) (rest := []) ⟨hx, hb, hml, hown, hts⟩ (kX4_requireState l hl9 dC dI _ 0) (cwS 1 hts (gS wd_119 wd_120 wd_92 wcX4_requireState) rfl rfl rfl (by decide +kernel) ⟨(Nat.le_of_ble_eq_true rfl), (Nat.le_of_ble_eq_true rfl)⟩) ⟨fun a U g mk q => by obtain ⟨q0, q1, qZ⟩ := q; exact ⟨q0, q1, zz_same (u := U) (H := U.heap) rfl rfl qZ⟩, fun U hU hW => ⟨rfl, hU, by rw [hU]; exact zz_to hZ hS (fun q h => hA q (Nat.le_trans hS.1 h)) hW⟩⟩ rfl rfl hl.1 rfl (lv_room (Nat.le_of_ble_eq_true rfl)) dX4_ship_57 ⟨(Nat.le_of_ble_eq_true rfl), (Nat.le_of_ble_eq_true rfl)⟩) hS (fun q h1 h2 => absurd h2 (Nat.not_le.mpr h1)) (fun q h => hA q (Nat.le_trans hS.1 h)) (fun q h1 h2 => absurd h2 (Nat.not_le.mpr h1)) (fun E ce q9 _ t H1 locs1 ht hvm hw hB hz1 hk1 hS hce hcv hcl => ?_) (fun _ t H1 locs1 ht hvm hw hB hz1 hk1 hS => ?_)
            · skip
              subst hB
              have hP := hP.kept (fun k q hq => hk1 q.1 (hP k q hq).lt (Nat.not_le.mpr (hP k q hq).lt))
              exact vy_out (vx_out (fun x hx => (hxt x hx).elim) hlocks hce hcv hcl (fun t ht ha => ⟨u, trivial, ⟨⟨3, (by unfold fX4_ship; rw [if_pos c_1, if_pos c_4, if_pos c_7, if_pos c_11, if_pos c_16]), rfl⟩, by rw [ht]; exact hP, hD⟩, hS.F ht⟩) hS.2.2 (Nat.le_of_ble_eq_true rfl) (Nat.le_of_ble_eq_true rfl))
            · skip
              exact absurd hw (by decide)
          · skip
            have t_19 : (fX4_mayGo u (k_ulot u x1.toNatClampNeg) x2 x3).toInt ≠ 0 := i_ne c_16 rfl (by decide)
            refine lv_iconst (v := 1) hx hb dX4_ship_52 (by decide) ?_
            refine lv_goto (tgt := 57) hx hb dX4_ship_53 (by decide) ?_
            refine vy_callv (vy_runS (As := [.int 1]) (rest := []) ⟨hx, hb, hml, hown, hts⟩ (kX4_requireState l hl9 dC dI _ 1) (cwS 1 hts (gS wd_119 wd_120 wd_92 wcX4_requireState) rfl rfl rfl (by decide +kernel) ⟨(Nat.le_of_ble_eq_true rfl), (Nat.le_of_ble_eq_true rfl)⟩) ⟨fun a U g mk q => by obtain ⟨q0, q1, qZ⟩ := q; exact ⟨q0, q1, zz_same (u := U) (H := U.heap) rfl rfl qZ⟩, fun U hU hW => ⟨rfl, hU, by rw [hU]; exact zz_to hZ hS (fun q h => hA q (Nat.le_trans hS.1 h)) hW⟩⟩ rfl rfl hl.1 rfl (lv_room (Nat.le_of_ble_eq_true rfl)) dX4_ship_57 ⟨(Nat.le_of_ble_eq_true rfl), (Nat.le_of_ble_eq_true rfl)⟩) hS (fun q h1 h2 => absurd h2 (Nat.not_le.mpr h1)) (fun q h => hA q (Nat.le_trans hS.1 h)) (fun q h1 h2 => absurd h2 (Nat.not_le.mpr h1)) (fun E ce q9 _ t H1 locs1 ht hvm hw hB hz1 hk1 hS hce hcv hcl => ?_) (fun _ t H1 locs1 ht hvm hw hB hz1 hk1 hS => ?_)
            · skip
              exact absurd hw (by decide)
            · skip
              have hH1 : H1 = _ := ht.symm.trans hB
              subst hH1
              refine lv_aload_n hx hb dX4_ship_60 rfl (lv_at hl 1 rfl) ?_
              refine va_get (D := (dC, dI)) (C := RX4) (T := TX4) (N := 9) (v := .ref (h 3)) hx hb hts (fi_X4 _) hown hK hP 0 (cw_at0 _ _ _) rfl 2 (by decide) (hts _ (List.mem_cons_of_mem _ wd_87)) (fun _ h9 => h9) rfl dX4_ship_61 ?_
              refine lv_iconst (v := 1) hx hb dX4_ship_64 (by decide) ?_
              refine vp_callSi (W.runV (As := [.int 1]) (rest := []) ⟨hx, hb, hml, hown, hts⟩ (kX2_haveRoomFor l dC dI g h u 1) (cwV 1 hts (gV wd_102 wd_103 wd_104 wd_105 wcX2_haveRoomFor) rfl rfl rfl (by decide +kernel) ⟨(Nat.le_of_ble_eq_true rfl), (Nat.le_of_ble_eq_true rfl)⟩) ⟨fun a U g mk q => by obtain ⟨q0, qP, qK⟩ := q; exact ⟨q0, qP, va_K.moved (u := U) (U := U.calling g mk a) (Vm.Alike.refl U.vm) qK⟩, va_recv hK hP (ci := 1) (q0 := 3) rfl (cw_at3 _ _ _), fun U hU hW => ⟨rfl, by rw [hU]; exact hP, va_K.moved hW.alike hK⟩⟩ rfl rfl hl.1 rfl (lv_room (Nat.le_of_ble_eq_true rfl)) dX4_ship_65 ⟨(Nat.le_of_ble_eq_true rfl), (Nat.le_of_ble_eq_true rfl)⟩) (fun r_21 hw => ?_)
              subst hw
              refine vy_callv (vy_runS (As := [.int (fX2_haveRoomFor u 1)]) (rest := []) ⟨hx, hb, hml, hown, hts⟩ (kX4_requireRoom l hl9 dC dI _ (fX2_haveRoomFor u 1)) (cwS 1 hts (gS wd_99 wd_100 wd_92 wcX4_requireRoom) rfl rfl rfl (by decide +kernel) ⟨(Nat.le_of_ble_eq_true rfl), (Nat.le_of_ble_eq_true rfl)⟩) ⟨fun a U g mk q => by obtain ⟨q0, q1, qZ⟩ := q; exact ⟨q0, q1, zz_same (u := U) (H := U.heap) rfl rfl qZ⟩, fun U hU hW => ⟨rfl, hU, by rw [hU]; exact zz_to hZ hS (fun q h => hA q (Nat.le_trans hS.1 h)) hW⟩⟩ rfl rfl hl.1 rfl (lv_room (Nat.le_of_ble_eq_true rfl)) dX4_ship_68 ⟨(Nat.le_of_ble_eq_true rfl), (Nat.le_of_ble_eq_true rfl)⟩) hS (fun q h1 h2 => absurd h2 (Nat.not_le.mpr h1)) (fun q h => hA q (Nat.le_trans hS.1 h)) (fun q h1 h2 => absurd h2 (Nat.not_le.mpr h1)) (fun E ce q9 _ t H1 locs1 ht hvm hw hB hz1 hk1 hS hce hcv hcl => ?_) (fun _ t H1 locs1 ht hvm hw hB hz1 hk1 hS => ?_)
              · skip
                have c_22 : ¬ fX4_requireRoom (fX2_haveRoomFor u 1) = 0 := by rw [hw]; decide
                subst hB
                have hP := hP.kept (fun k q hq => hk1 q.1 (hP k q hq).lt (Nat.not_le.mpr (hP k q hq).lt))
                exact vy_out (vx_out (fun x hx => (hxt x hx).elim) hlocks hce hcv hcl (fun t ht ha => ⟨u, trivial, ⟨⟨4, (by unfold fX4_ship; rw [if_pos c_1, if_pos c_4, if_pos c_7, if_pos c_11, if_neg c_16, if_neg c_22]), rfl⟩, by rw [ht]; exact hP, hD⟩, hS.F ht⟩) hS.2.2 (Nat.le_of_ble_eq_true rfl) (Nat.le_of_ble_eq_true rfl))
              · skip
                have hH1 : H1 = _ := ht.symm.trans hB
                subst hH1
                have c_22 : fX4_requireRoom (fX2_haveRoomFor u 1) = 0 := hw
                have t_23 := hr_roomq1 c_22 hI3
                refine lv_aload_n hx hb dX4_ship_71 rfl (lv_at hl 1 rfl) ?_
                refine va_get (D := (dC, dI)) (C := RX4) (T := TX4) (N := 9) (v := .ref (h 2)) hx hb hts (fi_X4 _) hown hK hP 0 (cw_at0 _ _ _) rfl 1 (by decide) (hts _ (List.mem_cons_of_mem _ wd_13)) (fun _ h9 => h9) rfl dX4_ship_72 ?_
                refine lv_iload_n hx hb dX4_ship_75 rfl (lv_at hl 2 rfl) ?_
                refine lv_iload_n hx hb dX4_ship_76 rfl (lv_at hl 3 rfl) ?_
                refine lv_iload_n hx hb dX4_ship_77 rfl (lv_at hl 4 rfl) ?_
                have hFc := va_free (wc := cw g h u) hD hS hA [0, 1, 2, 3, 4, 5, 6, 7, 8, 9, 10, 11, 12, 13, 14, 15, 16, 17, 18, 19, 20, 21, 22, 23] rfl
                refine va_callv (va_runV (As := [.int x1, .int x2, .int x3]) (rest := []) ⟨hx, hb, hml, hown, hts⟩ (kX3_send l dC dI g h u _ x1 x2 x3 (by omega)) (cwV 3 hts (gV wd_175 wd_176 wd_177 wd_49 wcX3_send) rfl rfl rfl (by decide +kernel) ⟨(Nat.le_of_ble_eq_true rfl), (Nat.le_of_ble_eq_true rfl)⟩) ⟨fun a U g mk q => by obtain ⟨q0, q1, qP, qK, qD⟩ := q; exact ⟨q0, q1, qP, va_K.moved (u := U) (U := U.calling g mk a) (Vm.Alike.refl U.vm) qK, qD⟩, va_recv hK hP (ci := 2) (q0 := 2) rfl (cw_at2 _ _ _), fun U hU hW => ⟨rfl, by rw [hU], by rw [hU]; exact hP, va_K.moved hW.alike hK, hD.weaken (fun _ _ _ _ => trivial)⟩⟩ rfl rfl hl.1 rfl (lv_room (Nat.le_of_ble_eq_true rfl)) dX4_ship_78 ⟨(Nat.le_of_ble_eq_true rfl), (Nat.le_of_ble_eq_true rfl)⟩) hS (fun q _ h => hFc q h) hFc (fun u_24 t H locs ht hvm hw hB hz1 hk1 hS => ?_)
                obtain ⟨hP, hD⟩ := hB
                rw [ht] at hP
                have hD := hD.weaken (fun _ _ _ h => hFc _ h)
                have e_26 : u_24 = fX3_send u x1 x2 x3 := hw
                clear hw
                refine lv_aload_n hx hb dX4_ship_81 rfl (lv_at hl 1 rfl) ?_
                refine va_get (D := (dC, dI)) (C := RX4) (T := TX4) (N := 9) (v := .ref (h 3)) hx hb hts (fi_X4 _) hown hK hP 0 (cw_at0 _ _ _) rfl 2 (by decide) (hts _ (List.mem_cons_of_mem _ wd_87)) (fun _ h9 => h9) rfl dX4_ship_82 ?_
                refine lv_iload hx hb dX4_ship_85 (lv_at hl 0 rfl) ?_
                refine lv_bipush (v := 11) hx hb dX4_ship_87 (by decide) ?_
                refine lv_iload_n hx hb dX4_ship_89 rfl (lv_at hl 2 rfl) ?_
                have hFc := va_free (wc := cw g h u_24) hD hS hA [0, 1, 2, 3, 4, 5, 6, 7, 8, 9, 10, 11, 12, 13, 14, 15, 16, 17, 18, 19, 20, 21, 22, 23] rfl
                refine va_callv (va_runV (As := [.int (k_ulot u x1.toNatClampNeg), .int 11, .int x1]) (rest := []) ⟨hx, hb, hml, hown, hts⟩ (kX2_write l dC dI g h u_24 _ (k_ulot u x1.toNatClampNeg) 11 x1 (by subst e_26; show 0 ≤ (k_rwrit u).toInt ∧ (k_rwrit u).toInt < 400; omega)) (cwV 3 hts (gV wd_108 wd_109 wd_110 wd_105 wcX2_write) rfl rfl rfl (by decide +kernel) ⟨(Nat.le_of_ble_eq_true rfl), (Nat.le_of_ble_eq_true rfl)⟩) ⟨fun a U g mk q => by obtain ⟨q0, q1, qP, qK, qD⟩ := q; exact ⟨q0, q1, qP, va_K.moved (u := U) (U := U.calling g mk a) (Vm.Alike.refl U.vm) qK, qD⟩, va_recv hK hP (ci := 1) (q0 := 3) rfl (cw_at3 _ _ _), fun U hU hW => ⟨rfl, by rw [hU], by rw [hU]; exact hP, va_K.moved hW.alike hK, hD.weaken (fun _ _ _ _ => trivial)⟩⟩ rfl rfl hl.1 rfl (lv_room (Nat.le_of_ble_eq_true rfl)) dX4_ship_90 ⟨(Nat.le_of_ble_eq_true rfl), (Nat.le_of_ble_eq_true rfl)⟩) hS (fun q _ h => hFc q h) hFc (fun u_27 t H locs ht hvm hw hB hz1 hk1 hS => ?_)
                obtain ⟨hP, hD⟩ := hB
                rw [ht] at hP
                have hD := hD.weaken (fun _ _ _ h => hFc _ h)
                have e_29 : u_27 = fX2_write u_24 (k_ulot u x1.toNatClampNeg) 11 x1 := hw
                clear hw
                exact vy_ret (W.vret hx hb hr (fun t ht hW => ⟨⟨u_27, rfl, (by subst e_29; subst e_26; unfold fX4_ship; rw [if_pos c_1, if_pos c_4, if_pos c_7, if_pos c_11, if_neg c_16, if_pos c_22]), by rw [ht]; exact hP, hD⟩, hS.F ht⟩) hS.2.2 dX4_ship_93)
set_option maxHeartbeats 4000000 in
set_option maxRecDepth 100000 in
theorem kX4_recall (l : Launch) (hl9 : l.stackTraces = false) (dC : Nat → ClassId) (dI : Nat → Nat → Nat) (g : cG) (h : Nat → Nat) (u : cS) (sz : Nat) (x1 : Int32) (x2 : Int32) (hI : cInv u) : vy_Met l yX4_recall wsX4_recall ({ frames := 7, cells := 1, slots := 6, locals := 103 }) (va_Pc [.ref (h 0), .int x1, .int x2] (fun U => U.heap.size = sz ∧ va_P (dC, dI) vwCl (cw g h u) U.heap ∧ va_K (dC, dI) vwCl (cTys g) U ∧ va_D (fun _ => True) (cw g h u) ∧ zz (va_A (cw g h u) sz) U U.heap)) (va_Qi (fun (r : Int32) u2 => fX4_recall u x1 x2 = (0, r, u2)) (fun (u2 : cS) (t : State) => va_P (dC, dI) vwCl (cw g h u2) t.heap ∧ va_D (va_A (cw g h u) sz) (cw g h u2)) (va_A (cw g h u) sz)) (vx_X (fun _ => True) (fun E (u2 : cS) t => (∃ k : Nat, fX4_recall u x1 x2 = (k, 0, u2) ∧ ex_is k E) ∧ va_P (dC, dI) vwCl (cw g h u2) t.heap ∧ va_D (va_A (cw g h u) sz) (cw g h u2)) (va_A (cw g h u) sz)) 0 0 1 6 (va_A (cw g h u) sz) := by
  refine vy_ofW (cc := cX4_recall) (maxL := 3) (ret := (some .int)) (by decide) rfl ?_
  intro p e s m args below meth c s₁ B hml hxt hv
  obtain ⟨rfl, hsz, hP, hK, hD0, hZ⟩ := hv
  have hx := B.exec
  have hb := B.bytes
  have hr := B.returns
  have hts := atoms_spec (ws := wsX4_recall) B.pre
  have hown : s.vm.findClass RX4 = some m.cls := findClass_of_methodNamed B.named
  have hlocks := B.notSynchronized
  subst hsz
  have hD := hD0.self (sz := s.heap.size)
  generalize hAe : va_A (cw g h u) s.heap.size = A at hD hZ ⊢
  have hA : ∀ q : Nat, s.heap.size ≤ q → A q := fun q h => by rw [← hAe]; exact Or.inr h
  have hS : va_S A s.heap s.heap [] := va_S.rf
  have hl := lv_entry ([.ref (h 0), .int x1, .int x2]) (n := 3) (Nat.le_of_ble_eq_true rfl)
  rw [lg_entry_eq]
  generalize (lg_sl ([.ref (h 0), .int x1, .int x2]) ++ List.replicate (3 - (lg_sl ([.ref (h 0), .int x1, .int x2])).length) Slot.unset).toArray = ls at hl ⊢
  have hl : lv_has ls 3 [(0, .ref (h 0)), (1, .int x1), (2, .int x2)] := hl
  obtain ⟨hI1, hI2, hI3, hI4, hI5, hI6⟩ := id hI
  refine lv_aload_n hx hb dX4_recall_0 rfl (lv_at hl 0 rfl) ?_
  refine lv_iload_n hx hb dX4_recall_1 rfl (lv_at hl 1 rfl) ?_
  refine vy_callv (vy_runV (As := [.int x1]) (rest := []) ⟨hx, hb, hml, hown, hts⟩ (kX4_requireLot l hl9 dC dI g h u _ x1) (cwV 1 hts (gV wd_114 wd_115 wd_116 wd_92 wcX4_requireLot) rfl rfl rfl (by decide +kernel) ⟨(Nat.le_of_ble_eq_true rfl), (Nat.le_of_ble_eq_true rfl)⟩) ⟨fun a U g mk q => by obtain ⟨q0, q1, qP, qK, qZ⟩ := q; exact ⟨q0, q1, qP, va_K.moved (u := U) (U := U.calling g mk a) (Vm.Alike.refl U.vm) qK, zz_same (u := U) (H := U.heap) rfl rfl qZ⟩, va_recv hK hP (ci := 3) (q0 := 0) rfl (cw_at0 _ _ _), fun U hU hW => ⟨rfl, hU, by rw [hU]; exact hP, va_K.moved hW.alike hK, by rw [hU]; exact zz_to hZ hS (fun q h => hA q (Nat.le_trans hS.1 h)) hW⟩⟩ rfl rfl hl.1 rfl (lv_room (Nat.le_of_ble_eq_true rfl)) dX4_recall_2 ⟨(Nat.le_of_ble_eq_true rfl), (Nat.le_of_ble_eq_true rfl)⟩) hS (fun q h1 h2 => absurd h2 (Nat.not_le.mpr h1)) (fun q h => hA q (Nat.le_trans hS.1 h)) (fun q h1 h2 => absurd h2 (Nat.not_le.mpr h1)) (fun E ce q9 _ t H1 locs1 ht hvm hw hB hz1 hk1 hS hce hcv hcl => ?_) (fun _ t H1 locs1 ht hvm hw hB hz1 hk1 hS => ?_)
  · skip
    have c_1 : ¬ fX4_requireLot u x1 = 0 := by rw [hw]; decide
    subst hB
    have hP := hP.kept (fun k q hq => hk1 q.1 (hP k q hq).lt (Nat.not_le.mpr (hP k q hq).lt))
    exact vy_out (vx_out (fun x hx => (hxt x hx).elim) hlocks hce hcv hcl (fun t ht ha => ⟨u, trivial, ⟨⟨1, (by unfold fX4_recall; rw [if_neg c_1]), rfl⟩, by rw [ht]; exact hP, hD⟩, hS.F ht⟩) hS.2.2 (Nat.le_of_ble_eq_true rfl) (Nat.le_of_ble_eq_true rfl))
  · skip
    have hH1 : H1 = _ := ht.symm.trans hB
    subst hH1
    have c_1 : fX4_requireLot u x1 = 0 := hw
    have t_2 := rl_lo c_1
    have t_3 := rl_hi c_1
    refine lv_iload_n hx hb dX4_recall_5 rfl (lv_at hl 2 rfl) ?_
    refine vy_callv (vy_runS (As := [.int x2]) (rest := []) ⟨hx, hb, hml, hown, hts⟩ (kX4_requireNotNegative l hl9 dC dI _ x2) (cwS 1 hts (gS wd_128 wd_129 wd_92 wcX4_requireNotNegative) rfl rfl rfl (by decide +kernel) ⟨(Nat.le_of_ble_eq_true rfl), (Nat.le_of_ble_eq_true rfl)⟩) ⟨fun a U g mk q => by obtain ⟨q0, q1, qZ⟩ := q; exact ⟨q0, q1, zz_same (u := U) (H := U.heap) rfl rfl qZ⟩, fun U hU hW => ⟨rfl, hU, by rw [hU]; exact zz_to hZ hS (fun q h => hA q (Nat.le_trans hS.1 h)) hW⟩⟩ rfl rfl hl.1 rfl (lv_room (Nat.le_of_ble_eq_true rfl)) dX4_recall_6 ⟨(Nat.le_of_ble_eq_true rfl), (Nat.le_of_ble_eq_true rfl)⟩) hS (fun q h1 h2 => absurd h2 (Nat.not_le.mpr h1)) (fun q h => hA q (Nat.le_trans hS.1 h)) (fun q h1 h2 => absurd h2 (Nat.not_le.mpr h1)) (fun E ce q9 _ t H1 locs1 ht hvm hw hB hz1 hk1 hS hce hcv hcl => ?_) (fun _ t H1 locs1 ht hvm hw hB hz1 hk1 hS => ?_)
    · skip
      have c_4 : ¬ fX4_requireNotNegative x2 = 0 := by rw [hw]; decide
      subst hB
      have hP := hP.kept (fun k q hq => hk1 q.1 (hP k q hq).lt (Nat.not_le.mpr (hP k q hq).lt))
      exact vy_out (vx_out (fun x hx => (hxt x hx).elim) hlocks hce hcv hcl (fun t ht ha => ⟨u, trivial, ⟨⟨2, (by unfold fX4_recall; rw [if_pos c_1, if_neg c_4]), rfl⟩, by rw [ht]; exact hP, hD⟩, hS.F ht⟩) hS.2.2 (Nat.le_of_ble_eq_true rfl) (Nat.le_of_ble_eq_true rfl))
    · skip
      have hH1 : H1 = _ := ht.symm.trans hB
      subst hH1
      have c_4 : fX4_requireNotNegative x2 = 0 := hw
      refine lv_aload_n hx hb dX4_recall_9 rfl (lv_at hl 0 rfl) ?_
      refine va_get (D := (dC, dI)) (C := RX4) (T := TX4) (N := 9) (v := .ref (h 2)) hx hb hts (fi_X4 _) hown hK hP 0 (cw_at0 _ _ _) rfl 1 (by decide) (hts _ (List.mem_cons_of_mem _ wd_13)) (fun _ h9 => h9) rfl dX4_recall_10 ?_
      refine lv_aload_n hx hb dX4_recall_13 rfl (lv_at hl 0 rfl) ?_
      refine va_get (D := (dC, dI)) (C := RX4) (T := TX4) (N := 9) (v := .ref (h 1)) hx hb hts (fi_X4 _) hown hK hP 0 (cw_at0 _ _ _) rfl 0 (by decide) (hts _ (List.mem_cons_of_mem _ wd_11)) (fun _ h9 => h9) rfl dX4_recall_14 ?_
      refine lv_iload_n hx hb dX4_recall_17 rfl (lv_at hl 1 rfl) ?_
      refine vp_callSl (W.runV (As := [.int x1]) (rest := [.ref (h 2)]) ⟨hx, hb, hml, hown, hts⟩ (kX1_familyOf l dC dI g h u x1 hI) (cwV 1 hts (gV wd_179 wd_180 wd_181 wd_28 wcX1_familyOf) rfl rfl rfl (by decide +kernel) ⟨(Nat.le_of_ble_eq_true rfl), (Nat.le_of_ble_eq_true rfl)⟩) ⟨fun a U g mk q => by obtain ⟨q0, qP, qK⟩ := q; exact ⟨q0, qP, va_K.moved (u := U) (U := U.calling g mk a) (Vm.Alike.refl U.vm) qK⟩, va_recv hK hP (ci := 0) (q0 := 1) rfl (cw_at1 _ _ _), fun U hU hW => ⟨rfl, by rw [hU]; exact hP, va_K.moved hW.alike hK⟩⟩ rfl rfl hl.1 rfl (lv_room (Nat.le_of_ble_eq_true rfl)) dX4_recall_18 ⟨(Nat.le_of_ble_eq_true rfl), (Nat.le_of_ble_eq_true rfl)⟩) (fun r_5 hw => ?_)
      subst hw
      refine lv_iload_n hx hb dX4_recall_21 rfl (lv_at hl 2 rfl) ?_
      refine vp_callSi (W.runV (As := [.long (fX1_familyOf u x1), .int x2]) (rest := []) ⟨hx, hb, hml, hown, hts⟩ (kX3_everOfFamily l dC dI g h u (fX1_familyOf u x1) x2 hI) (cwV 2 hts (gV wd_183 wd_184 wd_185 wd_49 wcX3_everOfFamily) rfl rfl rfl (by decide +kernel) ⟨(Nat.le_of_ble_eq_true rfl), (Nat.le_of_ble_eq_true rfl)⟩) ⟨fun a U g mk q => by obtain ⟨q0, qP, qK⟩ := q; exact ⟨q0, qP, va_K.moved (u := U) (U := U.calling g mk a) (Vm.Alike.refl U.vm) qK⟩, va_recv hK hP (ci := 2) (q0 := 2) rfl (cw_at2 _ _ _), fun U hU hW => ⟨rfl, by rw [hU]; exact hP, va_K.moved hW.alike hK⟩⟩ rfl rfl hl.1 rfl (lv_room (Nat.le_of_ble_eq_true rfl)) dX4_recall_22 ⟨(Nat.le_of_ble_eq_true rfl), (Nat.le_of_ble_eq_true rfl)⟩) (fun r_6 hw => ?_)
      subst hw
      exact vy_ret (W.iret (v := fX3_everOfFamily u (fX1_familyOf u x1) x2) hx hb hr (fun t ht hW => ⟨⟨(fX3_everOfFamily u (fX1_familyOf u x1) x2), u, rfl, (by unfold fX4_recall; rw [if_pos c_1, if_pos c_4]), by rw [ht]; exact hP, hD⟩, hS.F ht⟩) hS.2.2 dX4_recall_25)
set_option maxHeartbeats 4000000 in
set_option maxRecDepth 100000 in
theorem kX4_where (l : Launch) (hl9 : l.stackTraces = false) (dC : Nat → ClassId) (dI : Nat → Nat → Nat) (g : cG) (h : Nat → Nat) (u : cS) (sz : Nat) (x1 : Int32) (x2 : Int32) (hI : cInv u) : vy_Met l yX4_where wsX4_where ({ frames := 7, cells := 1, slots := 6, locals := 103 }) (va_Pc [.ref (h 0), .int x1, .int x2] (fun U => U.heap.size = sz ∧ va_P (dC, dI) vwCl (cw g h u) U.heap ∧ va_K (dC, dI) vwCl (cTys g) U ∧ va_D (fun _ => True) (cw g h u) ∧ zz (va_A (cw g h u) sz) U U.heap)) (va_Qi (fun (r : Int32) u2 => fX4_where u x1 x2 = (0, r, u2)) (fun (u2 : cS) (t : State) => va_P (dC, dI) vwCl (cw g h u2) t.heap ∧ va_D (va_A (cw g h u) sz) (cw g h u2)) (va_A (cw g h u) sz)) (vx_X (fun _ => True) (fun E (u2 : cS) t => (∃ k : Nat, fX4_where u x1 x2 = (k, 0, u2) ∧ ex_is k E) ∧ va_P (dC, dI) vwCl (cw g h u2) t.heap ∧ va_D (va_A (cw g h u) sz) (cw g h u2)) (va_A (cw g h u) sz)) 0 0 1 6 (va_A (cw g h u) sz) := by
  refine vy_ofW (cc := cX4_where) (maxL := 3) (ret := (some .int)) (by decide) rfl ?_
  intro p e s m args below meth c s₁ B hml hxt hv
  obtain ⟨rfl, hsz, hP, hK, hD0, hZ⟩ := hv
  have hx := B.exec
  have hb := B.bytes
  have hr := B.returns
  have hts := atoms_spec (ws := wsX4_where) B.pre
  have hown : s.vm.findClass RX4 = some m.cls := findClass_of_methodNamed B.named
  have hlocks := B.notSynchronized
  subst hsz
  have hD := hD0.self (sz := s.heap.size)
  generalize hAe : va_A (cw g h u) s.heap.size = A at hD hZ ⊢
  have hA : ∀ q : Nat, s.heap.size ≤ q → A q := fun q h => by rw [← hAe]; exact Or.inr h
  have hS : va_S A s.heap s.heap [] := va_S.rf
  have hl := lv_entry ([.ref (h 0), .int x1, .int x2]) (n := 3) (Nat.le_of_ble_eq_true rfl)
  rw [lg_entry_eq]
  generalize (lg_sl ([.ref (h 0), .int x1, .int x2]) ++ List.replicate (3 - (lg_sl ([.ref (h 0), .int x1, .int x2])).length) Slot.unset).toArray = ls at hl ⊢
  have hl : lv_has ls 3 [(0, .ref (h 0)), (1, .int x1), (2, .int x2)] := hl
  obtain ⟨hI1, hI2, hI3, hI4, hI5, hI6⟩ := id hI
  refine lv_aload_n hx hb dX4_where_0 rfl (lv_at hl 0 rfl) ?_
  refine lv_iload_n hx hb dX4_where_1 rfl (lv_at hl 1 rfl) ?_
  refine vy_callv (vy_runV (As := [.int x1]) (rest := []) ⟨hx, hb, hml, hown, hts⟩ (kX4_requireUnit l hl9 dC dI g h u _ x1) (cwV 1 hts (gV wd_164 wd_165 wd_166 wd_92 wcX4_requireUnit) rfl rfl rfl (by decide +kernel) ⟨(Nat.le_of_ble_eq_true rfl), (Nat.le_of_ble_eq_true rfl)⟩) ⟨fun a U g mk q => by obtain ⟨q0, q1, qP, qK, qZ⟩ := q; exact ⟨q0, q1, qP, va_K.moved (u := U) (U := U.calling g mk a) (Vm.Alike.refl U.vm) qK, zz_same (u := U) (H := U.heap) rfl rfl qZ⟩, va_recv hK hP (ci := 3) (q0 := 0) rfl (cw_at0 _ _ _), fun U hU hW => ⟨rfl, hU, by rw [hU]; exact hP, va_K.moved hW.alike hK, by rw [hU]; exact zz_to hZ hS (fun q h => hA q (Nat.le_trans hS.1 h)) hW⟩⟩ rfl rfl hl.1 rfl (lv_room (Nat.le_of_ble_eq_true rfl)) dX4_where_2 ⟨(Nat.le_of_ble_eq_true rfl), (Nat.le_of_ble_eq_true rfl)⟩) hS (fun q h1 h2 => absurd h2 (Nat.not_le.mpr h1)) (fun q h => hA q (Nat.le_trans hS.1 h)) (fun q h1 h2 => absurd h2 (Nat.not_le.mpr h1)) (fun E ce q9 _ t H1 locs1 ht hvm hw hB hz1 hk1 hS hce hcv hcl => ?_) (fun _ t H1 locs1 ht hvm hw hB hz1 hk1 hS => ?_)
  · skip
    have c_1 : ¬ fX4_requireUnit u x1 = 0 := by rw [hw]; decide
    subst hB
    have hP := hP.kept (fun k q hq => hk1 q.1 (hP k q hq).lt (Nat.not_le.mpr (hP k q hq).lt))
    exact vy_out (vx_out (fun x hx => (hxt x hx).elim) hlocks hce hcv hcl (fun t ht ha => ⟨u, trivial, ⟨⟨1, (by unfold fX4_where; rw [if_neg c_1]), rfl⟩, by rw [ht]; exact hP, hD⟩, hS.F ht⟩) hS.2.2 (Nat.le_of_ble_eq_true rfl) (Nat.le_of_ble_eq_true rfl))
  · skip
    have hH1 : H1 = _ := ht.symm.trans hB
    subst hH1
    have c_1 : fX4_requireUnit u x1 = 0 := hw
    have t_2 := ru_lo c_1
    have t_3 := ru_hi c_1
    refine lv_iload_n hx hb dX4_where_5 rfl (lv_at hl 2 rfl) ?_
    by_cases c_4 : x2 = 0
    · skip
      refine lv_tableIn (tgt := 36) hx hb dX4_where_6 (by rw [c_4]; decide) (by rw [c_4]; decide) (by rw [c_4]; rfl) (by decide) ?_
      refine lv_aload_n hx hb dX4_where_36 rfl (lv_at hl 0 rfl) ?_
      refine va_get (D := (dC, dI)) (C := RX4) (T := TX4) (N := 9) (v := .ref (h 2)) hx hb hts (fi_X4 _) hown hK hP 0 (cw_at0 _ _ _) rfl 1 (by decide) (hts _ (List.mem_cons_of_mem _ wd_13)) (fun _ h9 => h9) rfl dX4_where_37 ?_
      refine va_get (D := (dC, dI)) (C := RX3) (T := TX3) (N := 7) (v := .ref (h 16)) hx hb hts (fi_X3 _) hown hK hP 2 (cw_at2 _ _ _) rfl 0 (by decide) (hts _ (List.mem_cons_of_mem _ wd_79)) (fun _ h9 => h9) rfl dX4_where_40 ?_
      refine lv_iload_n hx hb dX4_where_43 rfl (lv_at hl 1 rfl) ?_
      refine va_iald (f := k_ulot u) hx hb hK hP 16 0 (cw_at16 _ _ _) rfl (vp_in_iff.mpr (by omega)) dX4_where_44 ?_
      exact vy_ret (W.iret (v := k_ulot u x1.toNatClampNeg) hx hb hr (fun t ht hW => ⟨⟨(k_ulot u x1.toNatClampNeg), u, rfl, (by unfold fX4_where; rw [if_pos c_1, if_pos c_4]), by rw [ht]; exact hP, hD⟩, hS.F ht⟩) hS.2.2 dX4_where_45)
    by_cases c_5 : x2 = 1
    · skip
      refine lv_tableIn (tgt := 46) hx hb dX4_where_6 (by rw [c_5]; decide) (by rw [c_5]; decide) (by rw [c_5]; rfl) (by decide) ?_
      refine lv_aload_n hx hb dX4_where_46 rfl (lv_at hl 0 rfl) ?_
      refine va_get (D := (dC, dI)) (C := RX4) (T := TX4) (N := 9) (v := .ref (h 2)) hx hb hts (fi_X4 _) hown hK hP 0 (cw_at0 _ _ _) rfl 1 (by decide) (hts _ (List.mem_cons_of_mem _ wd_13)) (fun _ h9 => h9) rfl dX4_where_47 ?_
      refine va_get (D := (dC, dI)) (C := RX3) (T := TX3) (N := 7) (v := .ref (h 17)) hx hb hts (fi_X3 _) hown hK hP 2 (cw_at2 _ _ _) rfl 1 (by decide) (hts _ (List.mem_cons_of_mem _ wd_82)) (fun _ h9 => h9) rfl dX4_where_50 ?_
      refine lv_iload_n hx hb dX4_where_53 rfl (lv_at hl 1 rfl) ?_
      refine va_iald (f := k_ubin u) hx hb hK hP 17 0 (cw_at17 _ _ _) rfl (vp_in_iff.mpr (by omega)) dX4_where_54 ?_
      exact vy_ret (W.iret (v := k_ubin u x1.toNatClampNeg) hx hb hr (fun t ht hW => ⟨⟨(k_ubin u x1.toNatClampNeg), u, rfl, (by unfold fX4_where; rw [if_pos c_1, if_neg c_4, if_pos c_5]), by rw [ht]; exact hP, hD⟩, hS.F ht⟩) hS.2.2 dX4_where_55)
    by_cases c_6 : x2 = 2
    · skip
      refine lv_tableIn (tgt := 56) hx hb dX4_where_6 (by rw [c_6]; decide) (by rw [c_6]; decide) (by rw [c_6]; rfl) (by decide) ?_
      refine lv_aload_n hx hb dX4_where_56 rfl (lv_at hl 0 rfl) ?_
      refine va_get (D := (dC, dI)) (C := RX4) (T := TX4) (N := 9) (v := .ref (h 2)) hx hb hts (fi_X4 _) hown hK hP 0 (cw_at0 _ _ _) rfl 1 (by decide) (hts _ (List.mem_cons_of_mem _ wd_13)) (fun _ h9 => h9) rfl dX4_where_57 ?_
      refine va_get (D := (dC, dI)) (C := RX3) (T := TX3) (N := 7) (v := .ref (h 18)) hx hb hts (fi_X3 _) hown hK hP 2 (cw_at2 _ _ _) rfl 2 (by decide) (hts _ (List.mem_cons_of_mem _ wd_187)) (fun _ h9 => h9) rfl dX4_where_60 ?_
      refine lv_iload_n hx hb dX4_where_63 rfl (lv_at hl 1 rfl) ?_
      refine va_iald (f := k_ucust u) hx hb hK hP 18 0 (cw_at18 _ _ _) rfl (vp_in_iff.mpr (by omega)) dX4_where_64 ?_
      exact vy_ret (W.iret (v := k_ucust u x1.toNatClampNeg) hx hb hr (fun t ht hW => ⟨⟨(k_ucust u x1.toNatClampNeg), u, rfl, (by unfold fX4_where; rw [if_pos c_1, if_neg c_4, if_neg c_5, if_pos c_6]), by rw [ht]; exact hP, hD⟩, hS.F ht⟩) hS.2.2 dX4_where_65)
    by_cases c_7 : x2 = 3
    · skip
      refine lv_tableIn (tgt := 66) hx hb dX4_where_6 (by rw [c_7]; decide) (by rw [c_7]; decide) (by rw [c_7]; rfl) (by decide) ?_
      refine lv_aload_n hx hb dX4_where_66 rfl (lv_at hl 0 rfl) ?_
      refine va_get (D := (dC, dI)) (C := RX4) (T := TX4) (N := 9) (v := .ref (h 2)) hx hb hts (fi_X4 _) hown hK hP 0 (cw_at0 _ _ _) rfl 1 (by decide) (hts _ (List.mem_cons_of_mem _ wd_13)) (fun _ h9 => h9) rfl dX4_where_67 ?_
      refine va_get (D := (dC, dI)) (C := RX3) (T := TX3) (N := 7) (v := .ref (h 19)) hx hb hts (fi_X3 _) hown hK hP 2 (cw_at2 _ _ _) rfl 3 (by decide) (hts _ (List.mem_cons_of_mem _ wd_188)) (fun _ h9 => h9) rfl dX4_where_70 ?_
      refine lv_iload_n hx hb dX4_where_73 rfl (lv_at hl 1 rfl) ?_
      refine va_iald (f := k_uday u) hx hb hK hP 19 0 (cw_at19 _ _ _) rfl (vp_in_iff.mpr (by omega)) dX4_where_74 ?_
      exact vy_ret (W.iret (v := k_uday u x1.toNatClampNeg) hx hb hr (fun t ht hW => ⟨⟨(k_uday u x1.toNatClampNeg), u, rfl, (by unfold fX4_where; rw [if_pos c_1, if_neg c_4, if_neg c_5, if_neg c_6, if_pos c_7]), by rw [ht]; exact hP, hD⟩, hS.F ht⟩) hS.2.2 dX4_where_75)
    refine lv_tableOut (tgt := 76) hx hb dX4_where_6 (i_out x2 (by decide) (by intro k h1 h2; intro hk; rcases (show k = 0 ∨ k = 1 ∨ k = 2 ∨ k = 3 by omega) with rfl | rfl | rfl | rfl <;> first | exact c_4 (i_of hk (by decide)) | exact c_5 (i_of hk (by decide)) | exact c_6 (i_of hk (by decide)) | exact c_7 (i_of hk (by decide)))) (by decide) ?_
    obtain ⟨sa_8, hsa_8⟩ := zz_st hZ (own := RX4) (k := 172) (tx := "what is not 0 .. 3") (by decide +kernel)
    exact vy_thr (vx_throwS (own := RX4) (cls := "java/lang/IllegalArgumentException") (names := ["java/lang/RuntimeException", "java/lang/Exception"]) hx hb hl9 hown (by decide +kernel) (by decide +kernel) (hts _ (List.mem_cons_of_mem _ wd_3)) (hts _ (List.mem_cons_of_mem _ wd_4)) hsa_8 (vx_hat (L := vx_atS RX4 174 "java/lang/IllegalArgumentException" ["java/lang/RuntimeException", "java/lang/Exception"]) (B := [.castable "java/lang/IllegalArgumentException" "java/lang/IllegalArgumentException", .declares ⟨"java/lang/RuntimeException", "<init>", "(Ljava/lang/String;)V"⟩, .declares ⟨"java/lang/Exception", "<init>", "(Ljava/lang/String;)V"⟩, .declares ⟨"java/lang/Throwable", "<init>", "(Ljava/lang/String;)V"⟩]) (fun w hw => hts w (List.mem_cons_of_mem _ (at_2 w hw))) bt_2 (zz_ws hZ (by decide +kernel))) gt_2 (zz_U hZ) (zz_N hZ) hS (hl.1.trans hml.symm) dX4_where_76 dX4_where_79 dX4_where_80 dX4_where_82 dX4_where_85 (fun x hx => (hxt x hx).elim) (Nat.le_of_ble_eq_true rfl) (Nat.le_of_ble_eq_true rfl) (Nat.le_of_ble_eq_true rfl) (Nat.le_of_ble_eq_true rfl) hlocks (fun t ha hsz hk => ⟨u, trivial, ⟨⟨2, (by unfold fX4_where; rw [if_pos c_1, if_neg c_4, if_neg c_5, if_neg c_6, if_neg c_7]), rfl⟩, hP.kept (fun k q hq => hk q.1 (hP k q hq).lt), hD⟩, Nat.le_trans hS.1 hsz, fun q h1 h2 => (hk q (Nat.lt_of_lt_of_le h1 hS.1)).trans (hS.2.1 q h1 h2)⟩) hS.2.2 (Nat.le_of_ble_eq_true rfl) (Nat.le_of_ble_eq_true rfl))
set_option maxHeartbeats 4000000 in
set_option maxRecDepth 100000 in
theorem kX4_history (l : Launch) (hl9 : l.stackTraces = false) (dC : Nat → ClassId) (dI : Nat → Nat → Nat) (g : cG) (h : Nat → Nat) (u : cS) (sz : Nat) (x1 : Int32) (x2 : Int32) (x3 : Int32) (hI : cInv u) : vy_Met l yX4_history wsX4_history ({ frames := 7, cells := 1, slots := 6, locals := 104 }) (va_Pc [.ref (h 0), .int x1, .int x2, .int x3] (fun U => U.heap.size = sz ∧ va_P (dC, dI) vwCl (cw g h u) U.heap ∧ va_K (dC, dI) vwCl (cTys g) U ∧ va_D (fun _ => True) (cw g h u) ∧ zz (va_A (cw g h u) sz) U U.heap)) (va_Qi (fun (r : Int32) u2 => fX4_history u x1 x2 x3 = (0, r, u2)) (fun (u2 : cS) (t : State) => va_P (dC, dI) vwCl (cw g h u2) t.heap ∧ va_D (va_A (cw g h u) sz) (cw g h u2)) (va_A (cw g h u) sz)) (vx_X (fun _ => True) (fun E (u2 : cS) t => (∃ k : Nat, fX4_history u x1 x2 x3 = (k, 0, u2) ∧ ex_is k E) ∧ va_P (dC, dI) vwCl (cw g h u2) t.heap ∧ va_D (va_A (cw g h u) sz) (cw g h u2)) (va_A (cw g h u) sz)) 0 0 1 6 (va_A (cw g h u) sz) := by
  refine vy_ofW (cc := cX4_history) (maxL := 5) (ret := (some .int)) (by decide) rfl ?_
  intro p e s m args below meth c s₁ B hml hxt hv
  obtain ⟨rfl, hsz, hP, hK, hD0, hZ⟩ := hv
  have hx := B.exec
  have hb := B.bytes
  have hr := B.returns
  have hts := atoms_spec (ws := wsX4_history) B.pre
  have hown : s.vm.findClass RX4 = some m.cls := findClass_of_methodNamed B.named
  have hlocks := B.notSynchronized
  subst hsz
  have hD := hD0.self (sz := s.heap.size)
  generalize hAe : va_A (cw g h u) s.heap.size = A at hD hZ ⊢
  have hA : ∀ q : Nat, s.heap.size ≤ q → A q := fun q h => by rw [← hAe]; exact Or.inr h
  have hS : va_S A s.heap s.heap [] := va_S.rf
  have hl := lv_entry ([.ref (h 0), .int x1, .int x2, .int x3]) (n := 5) (Nat.le_of_ble_eq_true rfl)
  rw [lg_entry_eq]
  generalize (lg_sl ([.ref (h 0), .int x1, .int x2, .int x3]) ++ List.replicate (5 - (lg_sl ([.ref (h 0), .int x1, .int x2, .int x3])).length) Slot.unset).toArray = ls at hl ⊢
  have hl : lv_has ls 5 [(0, .ref (h 0)), (1, .int x1), (2, .int x2), (3, .int x3)] := hl
  obtain ⟨hI1, hI2, hI3, hI4, hI5, hI6⟩ := id hI
  have z_0 : (0 : Int32).toInt = 0 := by decide
  have z_1 : (1 : Int32).toInt = 1 := by decide
  refine lv_aload_n hx hb dX4_history_0 rfl (lv_at hl 0 rfl) ?_
  refine lv_iload_n hx hb dX4_history_1 rfl (lv_at hl 1 rfl) ?_
  refine vy_callv (vy_runV (As := [.int x1]) (rest := []) ⟨hx, hb, hml, hown, hts⟩ (kX4_requireLot l hl9 dC dI g h u _ x1) (cwV 1 hts (gV wd_114 wd_115 wd_116 wd_92 wcX4_requireLot) rfl rfl rfl (by decide +kernel) ⟨(Nat.le_of_ble_eq_true rfl), (Nat.le_of_ble_eq_true rfl)⟩) ⟨fun a U g mk q => by obtain ⟨q0, q1, qP, qK, qZ⟩ := q; exact ⟨q0, q1, qP, va_K.moved (u := U) (U := U.calling g mk a) (Vm.Alike.refl U.vm) qK, zz_same (u := U) (H := U.heap) rfl rfl qZ⟩, va_recv hK hP (ci := 3) (q0 := 0) rfl (cw_at0 _ _ _), fun U hU hW => ⟨rfl, hU, by rw [hU]; exact hP, va_K.moved hW.alike hK, by rw [hU]; exact zz_to hZ hS (fun q h => hA q (Nat.le_trans hS.1 h)) hW⟩⟩ rfl rfl hl.1 rfl (lv_room (Nat.le_of_ble_eq_true rfl)) dX4_history_2 ⟨(Nat.le_of_ble_eq_true rfl), (Nat.le_of_ble_eq_true rfl)⟩) hS (fun q h1 h2 => absurd h2 (Nat.not_le.mpr h1)) (fun q h => hA q (Nat.le_trans hS.1 h)) (fun q h1 h2 => absurd h2 (Nat.not_le.mpr h1)) (fun E ce q9 _ t H1 locs1 ht hvm hw hB hz1 hk1 hS hce hcv hcl => ?_) (fun _ t H1 locs1 ht hvm hw hB hz1 hk1 hS => ?_)
  · skip
    have c_1 : ¬ fX4_requireLot u x1 = 0 := by rw [hw]; decide
    subst hB
    have hP := hP.kept (fun k q hq => hk1 q.1 (hP k q hq).lt (Nat.not_le.mpr (hP k q hq).lt))
    exact vy_out (vx_out (fun x hx => (hxt x hx).elim) hlocks hce hcv hcl (fun t ht ha => ⟨u, trivial, ⟨⟨1, (by unfold fX4_history; rw [if_neg c_1]), rfl⟩, by rw [ht]; exact hP, hD⟩, hS.F ht⟩) hS.2.2 (Nat.le_of_ble_eq_true rfl) (Nat.le_of_ble_eq_true rfl))
  · skip
    have hH1 : H1 = _ := ht.symm.trans hB
    subst hH1
    have c_1 : fX4_requireLot u x1 = 0 := hw
    have t_2 := rl_lo c_1
    have t_3 := rl_hi c_1
    refine lv_aload_n hx hb dX4_history_5 rfl (lv_at hl 0 rfl) ?_
    refine va_get (D := (dC, dI)) (C := RX4) (T := TX4) (N := 9) (v := .ref (h 3)) hx hb hts (fi_X4 _) hown hK hP 0 (cw_at0 _ _ _) rfl 2 (by decide) (hts _ (List.mem_cons_of_mem _ wd_87)) (fun _ h9 => h9) rfl dX4_history_6 ?_
    refine lv_iload_n hx hb dX4_history_9 rfl (lv_at hl 1 rfl) ?_
    refine lv_iload_n hx hb dX4_history_10 rfl (lv_at hl 2 rfl) ?_
    refine vp_callSi (W.runV (As := [.int x1, .int x2]) (rest := []) ⟨hx, hb, hml, hown, hts⟩ (kX2_find l dC dI g h u x1 x2 hI) (cwV 2 hts (gV wd_189 wd_190 wd_191 wd_105 wcX2_find) rfl rfl rfl (by decide +kernel) ⟨(Nat.le_of_ble_eq_true rfl), (Nat.le_of_ble_eq_true rfl)⟩) ⟨fun a U g mk q => by obtain ⟨q0, qP, qK⟩ := q; exact ⟨q0, qP, va_K.moved (u := U) (U := U.calling g mk a) (Vm.Alike.refl U.vm) qK⟩, va_recv hK hP (ci := 1) (q0 := 3) rfl (cw_at3 _ _ _), fun U hU hW => ⟨rfl, by rw [hU]; exact hP, va_K.moved hW.alike hK⟩⟩ rfl rfl hl.1 rfl (lv_room (Nat.le_of_ble_eq_true rfl)) dX4_history_11 ⟨(Nat.le_of_ble_eq_true rfl), (Nat.le_of_ble_eq_true rfl)⟩) (fun r_4 hw => ?_)
    subst hw
    refine lv_istore (lv' := [(4, .int (fX2_find u x1 x2)), (0, .ref (h 0)), (1, .int x1), (2, .int x2), (3, .int x3)]) hx hb dX4_history_14 hl (by decide) rfl (fun ls hl => ?_)
    refine lv_iload hx hb dX4_history_16 (lv_at hl 0 rfl) ?_
    refine lv_iconst (v := (-1)) hx hb dX4_history_18 (by decide) ?_
    refine lv_icmp_ne (tgt := 32) hx hb dX4_history_19 (by decide) (fun c_5 => ?_) (fun c_5 => ?_)
    · skip
      have t_6 : (fX2_find u x1 x2).toInt ≠ -1 := i_ne c_5 rfl (by decide)
      refine lv_iload_n hx hb dX4_history_32 rfl (lv_at hl 4 rfl) ?_
      refine lv_iconst (v := 0) hx hb dX4_history_33 (by decide) ?_
      refine lv_iconst (v := 1) hx hb dX4_history_34 (by decide) ?_
      refine vy_callv (vy_runS (As := [.int x3, .int 0, .int 1]) (rest := []) ⟨hx, hb, hml, hown, hts⟩ (kX4_requireRange l hl9 dC dI _ x3 0 1) (cwS 3 hts (gS wd_90 wd_91 wd_92 wcX4_requireRange) rfl rfl rfl (by decide +kernel) ⟨(Nat.le_of_ble_eq_true rfl), (Nat.le_of_ble_eq_true rfl)⟩) ⟨fun a U g mk q => by obtain ⟨q0, q1, qZ⟩ := q; exact ⟨q0, q1, zz_same (u := U) (H := U.heap) rfl rfl qZ⟩, fun U hU hW => ⟨rfl, hU, by rw [hU]; exact zz_to hZ hS (fun q h => hA q (Nat.le_trans hS.1 h)) hW⟩⟩ rfl rfl hl.1 rfl (lv_room (Nat.le_of_ble_eq_true rfl)) dX4_history_35 ⟨(Nat.le_of_ble_eq_true rfl), (Nat.le_of_ble_eq_true rfl)⟩) hS (fun q h1 h2 => absurd h2 (Nat.not_le.mpr h1)) (fun q h => hA q (Nat.le_trans hS.1 h)) (fun q h1 h2 => absurd h2 (Nat.not_le.mpr h1)) (fun E ce q9 _ t H1 locs1 ht hvm hw hB hz1 hk1 hS hce hcv hcl => ?_) (fun _ t H1 locs1 ht hvm hw hB hz1 hk1 hS => ?_)
      · skip
        have c_7 : ¬ fX4_requireRange x3 0 1 = 0 := by rw [hw]; decide
        subst hB
        have hP := hP.kept (fun k q hq => hk1 q.1 (hP k q hq).lt (Nat.not_le.mpr (hP k q hq).lt))
        exact vy_out (vx_out (fun x hx => (hxt x hx).elim) hlocks hce hcv hcl (fun t ht ha => ⟨u, trivial, ⟨⟨2, (by unfold fX4_history; rw [if_pos c_1, if_neg c_5, if_neg c_7]), rfl⟩, by rw [ht]; exact hP, hD⟩, hS.F ht⟩) hS.2.2 (Nat.le_of_ble_eq_true rfl) (Nat.le_of_ble_eq_true rfl))
      · skip
        have hH1 : H1 = _ := ht.symm.trans hB
        subst hH1
        have c_7 : fX4_requireRange x3 0 1 = 0 := hw
        have t_8 := rr_lo c_7
        have t_9 := rr_hi c_7
        refine lv_iload_n hx hb dX4_history_38 rfl (lv_at hl 4 rfl) ?_
        refine lv_if_ne (tgt := 55) hx hb dX4_history_39 (by decide) (fun c_10 => ?_) (fun c_10 => ?_)
        · skip
          have t_11 : x3.toInt ≠ 0 := i_ne c_10 rfl (by decide)
          refine lv_aload_n hx hb dX4_history_55 rfl (lv_at hl 1 rfl) ?_
          refine va_get (D := (dC, dI)) (C := RX4) (T := TX4) (N := 9) (v := .ref (h 3)) hx hb hts (fi_X4 _) hown hK hP 0 (cw_at0 _ _ _) rfl 2 (by decide) (hts _ (List.mem_cons_of_mem _ wd_87)) (fun _ h9 => h9) rfl dX4_history_56 ?_
          refine va_get (D := (dC, dI)) (C := RX2) (T := TX2) (N := 4) (v := .ref (h 23)) hx hb hts (fi_X2 _) hown hK hP 3 (cw_at3 _ _ _) rfl 2 (by decide) (hts _ (List.mem_cons_of_mem _ wd_193)) (fun _ h9 => h9) rfl dX4_history_59 ?_
          refine lv_iload hx hb dX4_history_62 (lv_at hl 0 rfl) ?_
          refine va_iald (f := k_rnum u) hx hb hK hP 23 0 (cw_at23 _ _ _) rfl (vp_in_iff.mpr (find_rg hI (by assumption))) dX4_history_64 ?_
          exact vy_ret (W.iret (v := k_rnum u (fX2_find u x1 x2).toNatClampNeg) hx hb hr (fun t ht hW => ⟨⟨(k_rnum u (fX2_find u x1 x2).toNatClampNeg), u, rfl, (by unfold fX4_history; rw [if_pos c_1, if_neg c_5, if_pos c_7, if_neg c_10]), by rw [ht]; exact hP, hD⟩, hS.F ht⟩) hS.2.2 dX4_history_65)
        · skip
          have t_12 : x3.toInt = 0 := i_eq c_10 rfl (by decide)
          refine lv_aload_n hx hb dX4_history_42 rfl (lv_at hl 1 rfl) ?_
          refine va_get (D := (dC, dI)) (C := RX4) (T := TX4) (N := 9) (v := .ref (h 3)) hx hb hts (fi_X4 _) hown hK hP 0 (cw_at0 _ _ _) rfl 2 (by decide) (hts _ (List.mem_cons_of_mem _ wd_87)) (fun _ h9 => h9) rfl dX4_history_43 ?_
          refine va_get (D := (dC, dI)) (C := RX2) (T := TX2) (N := 4) (v := .ref (h 22)) hx hb hts (fi_X2 _) hown hK hP 3 (cw_at3 _ _ _) rfl 1 (by decide) (hts _ (List.mem_cons_of_mem _ wd_194)) (fun _ h9 => h9) rfl dX4_history_46 ?_
          refine lv_iload hx hb dX4_history_49 (lv_at hl 0 rfl) ?_
          refine va_iald (f := k_rkind u) hx hb hK hP 22 0 (cw_at22 _ _ _) rfl (vp_in_iff.mpr (find_rg hI (by assumption))) dX4_history_51 ?_
          refine lv_goto (tgt := 65) hx hb dX4_history_52 (by decide) ?_
          exact vy_ret (W.iret (v := k_rkind u (fX2_find u x1 x2).toNatClampNeg) hx hb hr (fun t ht hW => ⟨⟨(k_rkind u (fX2_find u x1 x2).toNatClampNeg), u, rfl, (by unfold fX4_history; rw [if_pos c_1, if_neg c_5, if_pos c_7, if_pos c_10]), by rw [ht]; exact hP, hD⟩, hS.F ht⟩) hS.2.2 dX4_history_65)
    · skip
      have t_13 : (fX2_find u x1 x2).toInt = -1 := i_eq c_5 rfl (by decide)
      obtain ⟨sa_14, hsa_14⟩ := zz_st hZ (own := RX4) (k := 180) (tx := "no such row") (by decide +kernel)
      exact vy_thr (nx_throwS hx hb hl9 hown (hts _ (List.mem_cons_of_mem _ wd_9)) (hts _ (List.mem_cons_of_mem _ wd_10)) hsa_14 (vx_hat (L := nx_at) (B := [.castable "java/util/NoSuchElementException" "java/util/NoSuchElementException", .declares ⟨"java/lang/RuntimeException", "<init>", "(Ljava/lang/String;)V"⟩, .declares ⟨"java/lang/Exception", "<init>", "(Ljava/lang/String;)V"⟩, .declares ⟨"java/lang/Throwable", "<init>", "(Ljava/lang/String;)V"⟩]) (fun w hw => hts w (List.mem_cons_of_mem _ (at_1 w hw))) bt_1 (zz_ws hZ (by decide +kernel))) gt_1 (zz_U hZ) (zz_N hZ) hS (hl.1.trans hml.symm) dX4_history_22 dX4_history_25 dX4_history_26 dX4_history_28 dX4_history_31 (fun x hx => (hxt x hx).elim) (Nat.le_of_ble_eq_true rfl) (Nat.le_of_ble_eq_true rfl) (Nat.le_of_ble_eq_true rfl) (Nat.le_of_ble_eq_true rfl) hlocks (fun t ha hsz hk => ⟨u, trivial, ⟨⟨1, (by unfold fX4_history; rw [if_pos c_1, if_pos c_5]), rfl⟩, hP.kept (fun k q hq => hk q.1 (hP k q hq).lt), hD⟩, Nat.le_trans hS.1 hsz, fun q h1 h2 => (hk q (Nat.lt_of_lt_of_le h1 hS.1)).trans (hS.2.1 q h1 h2)⟩) hS.2.2 (Nat.le_of_ble_eq_true rfl) (Nat.le_of_ble_eq_true rfl))