set_option maxHeartbeats 4000000 in
set_option maxRecDepth 100000 in
theorem kX4_told (l : Launch) (hl9 : l.stackTraces = false) (dC : Nat → ClassId) (dI : Nat → Nat → Nat) (g : cG) (h : Nat → Nat) (u : cS) (sz : Nat) (x1 : Int32) (x2 : Int32) (hI : cInv u) : vy_Met l yX4_told wsX4_told ({ frames := 7, cells := 1, slots := 6, locals := 103 }) (va_Pc [.ref (h 0), .int x1, .int x2] (fun U => U.heap.size = sz ∧ va_P (dC, dI) vwCl (cw g h u) U.heap ∧ va_K (dC, dI) vwCl (cTys g) U ∧ va_D (fun _ => True) (cw g h u) ∧ zz (va_A (cw g h u) sz) U U.heap)) (va_Qi (fun (r : Int32) u2 => fX4_told u x1 x2 = (0, r, u2)) (fun (u2 : cS) (t : State) => va_P (dC, dI) vwCl (cw g h u2) t.heap ∧ va_D (va_A (cw g h u) sz) (cw g h u2)) (va_A (cw g h u) sz)) (vx_X (fun _ => True) (fun E (u2 : cS) t => (∃ k : Nat, fX4_told u x1 x2 = (k, 0, u2) ∧ ex_is k E) ∧ va_P (dC, dI) vwCl (cw g h u2) t.heap ∧ va_D (va_A (cw g h u) sz) (cw g h u2)) (va_A (cw g h u) sz)) 0 0 1 6 (va_A (cw g h u) sz) := by
  refine vy_ofW (cc := cX4_told) (maxL := 3) (ret := (some .int)) (by decide) rfl ?_
  intro p e s m args below meth c s₁ B hml hxt hv
  obtain ⟨rfl, hsz, hP, hK, hD0, hZ⟩ := hv
  have hx := B.exec
  have hb := B.bytes
  have hr := B.returns
  have hts := atoms_spec (ws := wsX4_told) B.pre
  have hown : s.vm.findClass RX4 = some m.cls := findClass_of_methodNamed B.named
  have hlocks := B.notSynchronized
  subst hsz
  have hD := hD0.self (sz := s.heap.size)
  generalize hAe : va_A (cw g h u) s.heap.size = A at hD hZ ⊢
  have hA : ∀ q : Nat, s.heap.size ≤ q → A q := fun q h => by rw [← hAe]; exact Or.inr h
  have hS : va_S A s.heap s.heap [] := va_S.rf
  have hl := lv_entry ([.ref (h 0), .int x1, .int x2]) (n := 3) (Nat.le_of_ble_eq_true rfl)
  rw [lg_entry_eq]
  generalize (lg_sl ([.ref (h 0), .int x1, .int x2]) ++ List.replicate (3 - (lg_sl ([.ref (h 0), .int x1, .int x2])).length) Slot.unset).toArray = ls at hl ⊢
  have hl : lv_has ls 3 [(0, .ref (h 0)), (1, .int x1), (2, .int x2)] := hl
  obtain ⟨hI1, hI2, hI3, hI4, hI5, hI6⟩ := id hI
  refine lv_aload_n hx hb dX4_told_0 rfl (lv_at hl 0 rfl) ?_
  refine lv_iload_n hx hb dX4_told_1 rfl (lv_at hl 1 rfl) ?_
  refine vy_callv (vy_runV (As := [.int x1]) (rest := []) ⟨hx, hb, hml, hown, hts⟩ (kX4_requireLot l hl9 dC dI g h u _ x1) (cwV 1 hts (gV wd_114 wd_115 wd_116 wd_92 wcX4_requireLot) rfl rfl rfl (by decide +kernel) ⟨(Nat.le_of_ble_eq_true rfl), (Nat.le_of_ble_eq_true rfl)⟩) ⟨fun a U g mk q => by obtain ⟨q0, q1, qP, qK, qZ⟩ := q; exact ⟨q0, q1, qP, va_K.moved (u := U) (U := U.calling g mk a) (Vm.Alike.refl U.vm) qK, zz_same (u := U) (H := U.heap) rfl rfl qZ⟩, va_recv hK hP (ci := 3) (q0 := 0) rfl (cw_at0 _ _ _), fun U hU hW => ⟨rfl, hU, by rw [hU]; exact hP, va_K.moved hW.alike hK, by rw [hU]; exact zz_to hZ hS (fun q h => hA q (Nat.le_trans hS.1 h)) hW⟩⟩ rfl rfl hl.1 rfl (lv_room (Nat.le_of_ble_eq_true rfl)) dX4_told_2 ⟨(Nat.le_of_ble_eq_true rfl), (Nat.le_of_ble_eq_true rfl)⟩) hS (fun q h1 h2 => absurd h2 (Nat.not_le.mpr h1)) (fun q h => hA q (Nat.le_trans hS.1 h)) (fun q h1 h2 => absurd h2 (Nat.not_le.mpr h1)) (fun E ce q9 _ t H1 locs1 ht hvm hw hB hz1 hk1 hS hce hcv hcl => ?_) (fun _ t H1 locs1 ht hvm hw hB hz1 hk1 hS => ?_)
  · skip
    have c_1 : ¬ fX4_requireLot u x1 = 0 := by rw [hw]; decide
    subst hB
    have hP := hP.kept (fun k q hq => hk1 q.1 (hP k q hq).lt (Nat.not_le.mpr (hP k q hq).lt))
    exact vy_out (vx_out (fun x hx => (hxt x hx).elim) hlocks hce hcv hcl (fun t ht ha => ⟨u, trivial, ⟨⟨1, (by unfold fX4_told; rw [if_neg c_1]), rfl⟩, by rw [ht]; exact hP, hD⟩, hS.F ht⟩) hS.2.2 (Nat.le_of_ble_eq_true rfl) (Nat.le_of_ble_eq_true rfl))
  · skip
    have hH1 : H1 = _ := ht.symm.trans hB
    subst hH1
    have c_1 : fX4_requireLot u x1 = 0 := hw
    have t_2 := rl_lo c_1
    have t_3 := rl_hi c_1
    refine lv_iload_n hx hb dX4_told_5 rfl (lv_at hl 2 rfl) ?_
    by_cases c_4 : x2 = 0
    · skip
      refine lv_tableIn (tgt := 52) hx hb dX4_told_6 (by rw [c_4]; decide) (by rw [c_4]; decide) (by rw [c_4]; rfl) (by decide) ?_
      refine lv_aload_n hx hb dX4_told_52 rfl (lv_at hl 0 rfl) ?_
      refine va_get (D := (dC, dI)) (C := RX4) (T := TX4) (N := 9) (v := .ref (h 1)) hx hb hts (fi_X4 _) hown hK hP 0 (cw_at0 _ _ _) rfl 0 (by decide) (hts _ (List.mem_cons_of_mem _ wd_11)) (fun _ h9 => h9) rfl dX4_told_53 ?_
      refine va_get (D := (dC, dI)) (C := RX1) (T := TX1) (N := 9) (v := .ref (h 8)) hx hb hts (fi_X1 _) hown hK hP 1 (cw_at1 _ _ _) rfl 0 (by decide) (hts _ (List.mem_cons_of_mem _ wd_195)) (fun _ h9 => h9) rfl dX4_told_56 ?_
      refine lv_iload_n hx hb dX4_told_59 rfl (lv_at hl 1 rfl) ?_
      refine va_iald (f := k_goods u) hx hb hK hP 8 0 (cw_at8 _ _ _) rfl (vp_in_iff.mpr (by omega)) dX4_told_60 ?_
      exact vy_ret (W.iret (v := k_goods u x1.toNatClampNeg) hx hb hr (fun t ht hW => ⟨⟨(k_goods u x1.toNatClampNeg), u, rfl, (by unfold fX4_told; rw [if_pos c_1, if_pos c_4]), by rw [ht]; exact hP, hD⟩, hS.F ht⟩) hS.2.2 dX4_told_61)
    by_cases c_5 : x2 = 1
    · skip
      refine lv_tableIn (tgt := 62) hx hb dX4_told_6 (by rw [c_5]; decide) (by rw [c_5]; decide) (by rw [c_5]; rfl) (by decide) ?_
      refine lv_aload_n hx hb dX4_told_62 rfl (lv_at hl 0 rfl) ?_
      refine va_get (D := (dC, dI)) (C := RX4) (T := TX4) (N := 9) (v := .ref (h 1)) hx hb hts (fi_X4 _) hown hK hP 0 (cw_at0 _ _ _) rfl 0 (by decide) (hts _ (List.mem_cons_of_mem _ wd_11)) (fun _ h9 => h9) rfl dX4_told_63 ?_
      refine va_get (D := (dC, dI)) (C := RX1) (T := TX1) (N := 9) (v := .ref (h 9)) hx hb hts (fi_X1 _) hown hK hP 1 (cw_at1 _ _ _) rfl 1 (by decide) (hts _ (List.mem_cons_of_mem _ wd_81)) (fun _ h9 => h9) rfl dX4_told_66 ?_
      refine lv_iload_n hx hb dX4_told_69 rfl (lv_at hl 1 rfl) ?_
      refine va_iald (f := k_owners u) hx hb hK hP 9 0 (cw_at9 _ _ _) rfl (vp_in_iff.mpr (by omega)) dX4_told_70 ?_
      exact vy_ret (W.iret (v := k_owners u x1.toNatClampNeg) hx hb hr (fun t ht hW => ⟨⟨(k_owners u x1.toNatClampNeg), u, rfl, (by unfold fX4_told; rw [if_pos c_1, if_neg c_4, if_pos c_5]), by rw [ht]; exact hP, hD⟩, hS.F ht⟩) hS.2.2 dX4_told_71)
    by_cases c_6 : x2 = 2
    · skip
      refine lv_tableIn (tgt := 72) hx hb dX4_told_6 (by rw [c_6]; decide) (by rw [c_6]; decide) (by rw [c_6]; rfl) (by decide) ?_
      refine lv_aload_n hx hb dX4_told_72 rfl (lv_at hl 0 rfl) ?_
      refine va_get (D := (dC, dI)) (C := RX4) (T := TX4) (N := 9) (v := .ref (h 1)) hx hb hts (fi_X4 _) hown hK hP 0 (cw_at0 _ _ _) rfl 0 (by decide) (hts _ (List.mem_cons_of_mem _ wd_11)) (fun _ h9 => h9) rfl dX4_told_73 ?_
      refine va_get (D := (dC, dI)) (C := RX1) (T := TX1) (N := 9) (v := .ref (h 10)) hx hb hts (fi_X1 _) hown hK hP 1 (cw_at1 _ _ _) rfl 2 (by decide) (hts _ (List.mem_cons_of_mem _ wd_77)) (fun _ h9 => h9) rfl dX4_told_76 ?_
      refine lv_iload_n hx hb dX4_told_79 rfl (lv_at hl 1 rfl) ?_
      refine va_iald (f := k_last u) hx hb hK hP 10 0 (cw_at10 _ _ _) rfl (vp_in_iff.mpr (by omega)) dX4_told_80 ?_
      exact vy_ret (W.iret (v := k_last u x1.toNatClampNeg) hx hb hr (fun t ht hW => ⟨⟨(k_last u x1.toNatClampNeg), u, rfl, (by unfold fX4_told; rw [if_pos c_1, if_neg c_4, if_neg c_5, if_pos c_6]), by rw [ht]; exact hP, hD⟩, hS.F ht⟩) hS.2.2 dX4_told_81)
    by_cases c_7 : x2 = 3
    · skip
      refine lv_tableIn (tgt := 82) hx hb dX4_told_6 (by rw [c_7]; decide) (by rw [c_7]; decide) (by rw [c_7]; rfl) (by decide) ?_
      refine lv_aload_n hx hb dX4_told_82 rfl (lv_at hl 0 rfl) ?_
      refine va_get (D := (dC, dI)) (C := RX4) (T := TX4) (N := 9) (v := .ref (h 1)) hx hb hts (fi_X4 _) hown hK hP 0 (cw_at0 _ _ _) rfl 0 (by decide) (hts _ (List.mem_cons_of_mem _ wd_11)) (fun _ h9 => h9) rfl dX4_told_83 ?_
      refine va_get (D := (dC, dI)) (C := RX1) (T := TX1) (N := 9) (v := .ref (h 11)) hx hb hts (fi_X1 _) hown hK hP 1 (cw_at1 _ _ _) rfl 3 (by decide) (hts _ (List.mem_cons_of_mem _ wd_76)) (fun _ h9 => h9) rfl dX4_told_86 ?_
      refine lv_iload_n hx hb dX4_told_89 rfl (lv_at hl 1 rfl) ?_
      refine va_iald (f := k_arr u) hx hb hK hP 11 0 (cw_at11 _ _ _) rfl (vp_in_iff.mpr (by omega)) dX4_told_90 ?_
      exact vy_ret (W.iret (v := k_arr u x1.toNatClampNeg) hx hb hr (fun t ht hW => ⟨⟨(k_arr u x1.toNatClampNeg), u, rfl, (by unfold fX4_told; rw [if_pos c_1, if_neg c_4, if_neg c_5, if_neg c_6, if_pos c_7]), by rw [ht]; exact hP, hD⟩, hS.F ht⟩) hS.2.2 dX4_told_91)
    by_cases c_8 : x2 = 4
    · skip
      refine lv_tableIn (tgt := 92) hx hb dX4_told_6 (by rw [c_8]; decide) (by rw [c_8]; decide) (by rw [c_8]; rfl) (by decide) ?_
      refine lv_aload_n hx hb dX4_told_92 rfl (lv_at hl 0 rfl) ?_
      refine va_get (D := (dC, dI)) (C := RX4) (T := TX4) (N := 9) (v := .ref (h 1)) hx hb hts (fi_X4 _) hown hK hP 0 (cw_at0 _ _ _) rfl 0 (by decide) (hts _ (List.mem_cons_of_mem _ wd_11)) (fun _ h9 => h9) rfl dX4_told_93 ?_
      refine va_get (D := (dC, dI)) (C := RX1) (T := TX1) (N := 9) (v := .ref (h 12)) hx hb hts (fi_X1 _) hown hK hP 1 (cw_at1 _ _ _) rfl 4 (by decide) (hts _ (List.mem_cons_of_mem _ wd_118)) (fun _ h9 => h9) rfl dX4_told_96 ?_
      refine lv_iload_n hx hb dX4_told_99 rfl (lv_at hl 1 rfl) ?_
      refine va_zald (f := k_open u) hx hb hK hP 12 1 (cw_at12 _ _ _) rfl (vp_in_iff.mpr (by omega)) dX4_told_100 ?_
      refine lv_if_eq (tgt := 108) hx hb dX4_told_101 (by decide) (fun c_9 => ?_) (fun c_9 => ?_)
      · skip
        have t_10 : (k_open u x1.toNatClampNeg).toInt = 0 := i_eq c_9 rfl (by decide)
        refine lv_iconst (v := 0) hx hb dX4_told_108 (by decide) ?_
        exact vy_ret (W.iret (v := 0) hx hb hr (fun t ht hW => ⟨⟨0, u, rfl, (by unfold fX4_told; rw [if_pos c_1, if_neg c_4, if_neg c_5, if_neg c_6, if_neg c_7, if_pos c_8, if_pos c_9]), by rw [ht]; exact hP, hD⟩, hS.F ht⟩) hS.2.2 dX4_told_109)
      · skip
        have t_11 : (k_open u x1.toNatClampNeg).toInt ≠ 0 := i_ne c_9 rfl (by decide)
        refine lv_iconst (v := 1) hx hb dX4_told_104 (by decide) ?_
        refine lv_goto (tgt := 109) hx hb dX4_told_105 (by decide) ?_
        exact vy_ret (W.iret (v := 1) hx hb hr (fun t ht hW => ⟨⟨1, u, rfl, (by unfold fX4_told; rw [if_pos c_1, if_neg c_4, if_neg c_5, if_neg c_6, if_neg c_7, if_pos c_8, if_neg c_9]), by rw [ht]; exact hP, hD⟩, hS.F ht⟩) hS.2.2 dX4_told_109)
    by_cases c_12 : x2 = 5
    · skip
      refine lv_tableIn (tgt := 110) hx hb dX4_told_6 (by rw [c_12]; decide) (by rw [c_12]; decide) (by rw [c_12]; rfl) (by decide) ?_
      refine lv_aload_n hx hb dX4_told_110 rfl (lv_at hl 0 rfl) ?_
      refine va_get (D := (dC, dI)) (C := RX4) (T := TX4) (N := 9) (v := .ref (h 1)) hx hb hts (fi_X4 _) hown hK hP 0 (cw_at0 _ _ _) rfl 0 (by decide) (hts _ (List.mem_cons_of_mem _ wd_11)) (fun _ h9 => h9) rfl dX4_told_111 ?_
      refine va_get (D := (dC, dI)) (C := RX1) (T := TX1) (N := 9) (v := .ref (h 13)) hx hb hts (fi_X1 _) hown hK hP 1 (cw_at1 _ _ _) rfl 5 (by decide) (hts _ (List.mem_cons_of_mem _ wd_122)) (fun _ h9 => h9) rfl dX4_told_114 ?_
      refine lv_iload_n hx hb dX4_told_117 rfl (lv_at hl 1 rfl) ?_
      refine va_iald (f := k_reas u) hx hb hK hP 13 0 (cw_at13 _ _ _) rfl (vp_in_iff.mpr (by omega)) dX4_told_118 ?_
      exact vy_ret (W.iret (v := k_reas u x1.toNatClampNeg) hx hb hr (fun t ht hW => ⟨⟨(k_reas u x1.toNatClampNeg), u, rfl, (by unfold fX4_told; rw [if_pos c_1, if_neg c_4, if_neg c_5, if_neg c_6, if_neg c_7, if_neg c_8, if_pos c_12]), by rw [ht]; exact hP, hD⟩, hS.F ht⟩) hS.2.2 dX4_told_119)
    by_cases c_13 : x2 = 6
    · skip
      refine lv_tableIn (tgt := 120) hx hb dX4_told_6 (by rw [c_13]; decide) (by rw [c_13]; decide) (by rw [c_13]; rfl) (by decide) ?_
      refine lv_aload_n hx hb dX4_told_120 rfl (lv_at hl 0 rfl) ?_
      refine va_get (D := (dC, dI)) (C := RX4) (T := TX4) (N := 9) (v := .ref (h 1)) hx hb hts (fi_X4 _) hown hK hP 0 (cw_at0 _ _ _) rfl 0 (by decide) (hts _ (List.mem_cons_of_mem _ wd_11)) (fun _ h9 => h9) rfl dX4_told_121 ?_
      refine va_get (D := (dC, dI)) (C := RX1) (T := TX1) (N := 9) (v := .ref (h 14)) hx hb hts (fi_X1 _) hown hK hP 1 (cw_at1 _ _ _) rfl 6 (by decide) (hts _ (List.mem_cons_of_mem _ wd_127)) (fun _ h9 => h9) rfl dX4_told_124 ?_
      refine lv_iload_n hx hb dX4_told_127 rfl (lv_at hl 1 rfl) ?_
      refine va_zald (f := k_quar u) hx hb hK hP 14 1 (cw_at14 _ _ _) rfl (vp_in_iff.mpr (by omega)) dX4_told_128 ?_
      refine lv_if_eq (tgt := 136) hx hb dX4_told_129 (by decide) (fun c_14 => ?_) (fun c_14 => ?_)
      · skip
        have t_15 : (k_quar u x1.toNatClampNeg).toInt = 0 := i_eq c_14 rfl (by decide)
        refine lv_iconst (v := 0) hx hb dX4_told_136 (by decide) ?_
        exact vy_ret (W.iret (v := 0) hx hb hr (fun t ht hW => ⟨⟨0, u, rfl, (by unfold fX4_told; rw [if_pos c_1, if_neg c_4, if_neg c_5, if_neg c_6, if_neg c_7, if_neg c_8, if_neg c_12, if_pos c_13, if_pos c_14]), by rw [ht]; exact hP, hD⟩, hS.F ht⟩) hS.2.2 dX4_told_137)
      · skip
        have t_16 : (k_quar u x1.toNatClampNeg).toInt ≠ 0 := i_ne c_14 rfl (by decide)
        refine lv_iconst (v := 1) hx hb dX4_told_132 (by decide) ?_
        refine lv_goto (tgt := 137) hx hb dX4_told_133 (by decide) ?_
        exact vy_ret (W.iret (v := 1) hx hb hr (fun t ht hW => ⟨⟨1, u, rfl, (by unfold fX4_told; rw [if_pos c_1, if_neg c_4, if_neg c_5, if_neg c_6, if_neg c_7, if_neg c_8, if_neg c_12, if_pos c_13, if_neg c_14]), by rw [ht]; exact hP, hD⟩, hS.F ht⟩) hS.2.2 dX4_told_137)
    by_cases c_17 : x2 = 7
    · skip
      refine lv_tableIn (tgt := 138) hx hb dX4_told_6 (by rw [c_17]; decide) (by rw [c_17]; decide) (by rw [c_17]; rfl) (by decide) ?_
      refine lv_aload_n hx hb dX4_told_138 rfl (lv_at hl 0 rfl) ?_
      refine va_get (D := (dC, dI)) (C := RX4) (T := TX4) (N := 9) (v := .ref (h 2)) hx hb hts (fi_X4 _) hown hK hP 0 (cw_at0 _ _ _) rfl 1 (by decide) (hts _ (List.mem_cons_of_mem _ wd_13)) (fun _ h9 => h9) rfl dX4_told_139 ?_
      refine lv_iload_n hx hb dX4_told_142 rfl (lv_at hl 1 rfl) ?_
      refine vp_callSi (W.runV (As := [.int x1]) (rest := []) ⟨hx, hb, hml, hown, hts⟩ (kX3_leftOf l dC dI g h u x1 hI) (cwV 1 hts (gV wd_196 wd_197 wd_198 wd_49 wcX3_leftOf) rfl rfl rfl (by decide +kernel) ⟨(Nat.le_of_ble_eq_true rfl), (Nat.le_of_ble_eq_true rfl)⟩) ⟨fun a U g mk q => by obtain ⟨q0, qP, qK⟩ := q; exact ⟨q0, qP, va_K.moved (u := U) (U := U.calling g mk a) (Vm.Alike.refl U.vm) qK⟩, va_recv hK hP (ci := 2) (q0 := 2) rfl (cw_at2 _ _ _), fun U hU hW => ⟨rfl, by rw [hU]; exact hP, va_K.moved hW.alike hK⟩⟩ rfl rfl hl.1 rfl (lv_room (Nat.le_of_ble_eq_true rfl)) dX4_told_143 ⟨(Nat.le_of_ble_eq_true rfl), (Nat.le_of_ble_eq_true rfl)⟩) (fun r_18 hw => ?_)
      subst hw
      exact vy_ret (W.iret (v := fX3_leftOf u x1) hx hb hr (fun t ht hW => ⟨⟨(fX3_leftOf u x1), u, rfl, (by unfold fX4_told; rw [if_pos c_1, if_neg c_4, if_neg c_5, if_neg c_6, if_neg c_7, if_neg c_8, if_neg c_12, if_neg c_13, if_pos c_17]), by rw [ht]; exact hP, hD⟩, hS.F ht⟩) hS.2.2 dX4_told_146)
    refine lv_tableOut (tgt := 147) hx hb dX4_told_6 (i_out x2 (by decide) (by intro k h1 h2; intro hk; rcases (show k = 0 ∨ k = 1 ∨ k = 2 ∨ k = 3 ∨ k = 4 ∨ k = 5 ∨ k = 6 ∨ k = 7 by omega) with rfl | rfl | rfl | rfl | rfl | rfl | rfl | rfl <;> first | exact c_4 (i_of hk (by decide)) | exact c_5 (i_of hk (by decide)) | exact c_6 (i_of hk (by decide)) | exact c_7 (i_of hk (by decide)) | exact c_8 (i_of hk (by decide)) | exact c_12 (i_of hk (by decide)) | exact c_13 (i_of hk (by decide)) | exact c_17 (i_of hk (by decide)))) (by decide) ?_
    obtain ⟨sa_19, hsa_19⟩ := zz_st hZ (own := RX4) (k := 204) (tx := "what is not 0 .. 7") (by decide +kernel)
    exact vy_thr (vx_throwS (own := RX4) (cls := "java/lang/IllegalArgumentException") (names := ["java/lang/RuntimeException", "java/lang/Exception"]) hx hb hl9 hown (by decide +kernel) (by decide +kernel) (hts _ (List.mem_cons_of_mem _ wd_3)) (hts _ (List.mem_cons_of_mem _ wd_4)) hsa_19 (vx_hat (L := vx_atS RX4 174 "java/lang/IllegalArgumentException" ["java/lang/RuntimeException", "java/lang/Exception"]) (B := [.castable "java/lang/IllegalArgumentException" "java/lang/IllegalArgumentException", .declares ⟨"java/lang/RuntimeException", "<init>", "(Ljava/lang/String;)V"⟩, .declares ⟨"java/lang/Exception", "<init>", "(Ljava/lang/String;)V"⟩, .declares ⟨"java/lang/Throwable", "<init>", "(Ljava/lang/String;)V"⟩]) (fun w hw => hts w (List.mem_cons_of_mem _ (at_2 w hw))) bt_2 (zz_ws hZ (by decide +kernel))) gt_2 (zz_U hZ) (zz_N hZ) hS (hl.1.trans hml.symm) dX4_told_147 dX4_told_150 dX4_told_151 dX4_told_153 dX4_told_156 (fun x hx => (hxt x hx).elim) (Nat.le_of_ble_eq_true rfl) (Nat.le_of_ble_eq_true rfl) (Nat.le_of_ble_eq_true rfl) (Nat.le_of_ble_eq_true rfl) hlocks (fun t ha hsz hk => ⟨u, trivial, ⟨⟨2, (by unfold fX4_told; rw [if_pos c_1, if_neg c_4, if_neg c_5, if_neg c_6, if_neg c_7, if_neg c_8, if_neg c_12, if_neg c_13, if_neg c_17]), rfl⟩, hP.kept (fun k q hq => hk q.1 (hP k q hq).lt), hD⟩, Nat.le_trans hS.1 hsz, fun q h1 h2 => (hk q (Nat.lt_of_lt_of_le h1 hS.1)).trans (hS.2.1 q h1 h2)⟩) hS.2.2 (Nat.le_of_ble_eq_true rfl) (Nat.le_of_ble_eq_true rfl))
set_option maxHeartbeats 4000000 in
set_option maxRecDepth 100000 in
theorem kX4_day (l : Launch) (hl9 : l.stackTraces = false) (dC : Nat → ClassId) (dI : Nat → Nat → Nat) (g : cG) (h : Nat → Nat) (u : cS) (sz : Nat) (x1 : Int32) (x2 : Int32) (hI : cInv u) : vy_Met l yX4_day wsX4_day ({ frames := 7, cells := 1, slots := 6, locals := 104 }) (va_Pc [.ref (h 0), .int x1, .int x2] (fun U => U.heap.size = sz ∧ va_P (dC, dI) vwCl (cw g h u) U.heap ∧ va_K (dC, dI) vwCl (cTys g) U ∧ va_D (fun _ => True) (cw g h u) ∧ zz (va_A (cw g h u) sz) U U.heap)) (va_Qi (fun (r : Int32) u2 => fX4_day u x1 x2 = (0, r, u2)) (fun (u2 : cS) (t : State) => va_P (dC, dI) vwCl (cw g h u2) t.heap ∧ va_D (va_A (cw g h u) sz) (cw g h u2)) (va_A (cw g h u) sz)) (vx_X (fun _ => True) (fun E (u2 : cS) t => (∃ k : Nat, fX4_day u x1 x2 = (k, 0, u2) ∧ ex_is k E) ∧ va_P (dC, dI) vwCl (cw g h u2) t.heap ∧ va_D (va_A (cw g h u) sz) (cw g h u2)) (va_A (cw g h u) sz)) 0 0 1 6 (va_A (cw g h u) sz) := by
  refine vy_ofW (cc := cX4_day) (maxL := 6) (ret := (some .int)) (by decide) rfl ?_
  intro p e s m args below meth c s₁ B hml hxt hv
  obtain ⟨rfl, hsz, hP, hK, hD0, hZ⟩ := hv
  have hx := B.exec
  have hb := B.bytes
  have hr := B.returns
  have hts := atoms_spec (ws := wsX4_day) B.pre
  have hown : s.vm.findClass RX4 = some m.cls := findClass_of_methodNamed B.named
  have hlocks := B.notSynchronized
  subst hsz
  have hD := hD0.self (sz := s.heap.size)
  generalize hAe : va_A (cw g h u) s.heap.size = A at hD hZ ⊢
  have hA : ∀ q : Nat, s.heap.size ≤ q → A q := fun q h => by rw [← hAe]; exact Or.inr h
  have hS : va_S A s.heap s.heap [] := va_S.rf
  have hl := lv_entry ([.ref (h 0), .int x1, .int x2]) (n := 6) (Nat.le_of_ble_eq_true rfl)
  rw [lg_entry_eq]
  generalize (lg_sl ([.ref (h 0), .int x1, .int x2]) ++ List.replicate (6 - (lg_sl ([.ref (h 0), .int x1, .int x2])).length) Slot.unset).toArray = ls at hl ⊢
  have hl : lv_has ls 6 [(0, .ref (h 0)), (1, .int x1), (2, .int x2)] := hl
  obtain ⟨hI1, hI2, hI3, hI4, hI5, hI6⟩ := id hI
  have z_0 : (0 : Int32).toInt = 0 := by decide
  have z_1 : (2 : Int32).toInt = 2 := by decide
  have z_2 : (999999 : Int32).toInt = 999999 := by decide
  have z_3 : (99999 : Int32).toInt = 99999 := by decide
  refine lv_iload_n hx hb dX4_day_0 rfl (lv_at hl 1 rfl) ?_
  refine lv_iconst (v := 0) hx hb dX4_day_1 (by decide) ?_
  refine lv_iconst (v := 2) hx hb dX4_day_2 (by decide) ?_
  refine vy_callv (vy_runS (As := [.int x1, .int 0, .int 2]) (rest := []) ⟨hx, hb, hml, hown, hts⟩ (kX4_requireRange l hl9 dC dI _ x1 0 2) (cwS 3 hts (gS wd_90 wd_91 wd_92 wcX4_requireRange) rfl rfl rfl (by decide +kernel) ⟨(Nat.le_of_ble_eq_true rfl), (Nat.le_of_ble_eq_true rfl)⟩) ⟨fun a U g mk q => by obtain ⟨q0, q1, qZ⟩ := q; exact ⟨q0, q1, zz_same (u := U) (H := U.heap) rfl rfl qZ⟩, fun U hU hW => ⟨rfl, hU, by rw [hU]; exact zz_to hZ hS (fun q h => hA q (Nat.le_trans hS.1 h)) hW⟩⟩ rfl rfl hl.1 rfl (lv_room (Nat.le_of_ble_eq_true rfl)) dX4_day_3 ⟨(Nat.le_of_ble_eq_true rfl), (Nat.le_of_ble_eq_true rfl)⟩) hS (fun q h1 h2 => absurd h2 (Nat.not_le.mpr h1)) (fun q h => hA q (Nat.le_trans hS.1 h)) (fun q h1 h2 => absurd h2 (Nat.not_le.mpr h1)) (fun E ce q9 _ t H1 locs1 ht hvm hw hB hz1 hk1 hS hce hcv hcl => ?_) (fun _ t H1 locs1 ht hvm hw hB hz1 hk1 hS => ?_)
  · skip
    have c_1 : ¬ fX4_requireRange x1 0 2 = 0 := by rw [hw]; decide
    subst hB
    have hP := hP.kept (fun k q hq => hk1 q.1 (hP k q hq).lt (Nat.not_le.mpr (hP k q hq).lt))
    exact vy_out (vx_out (fun x hx => (hxt x hx).elim) hlocks hce hcv hcl (fun t ht ha => ⟨u, trivial, ⟨⟨2, (by unfold fX4_day; rw [if_neg c_1]), rfl⟩, by rw [ht]; exact hP, hD⟩, hS.F ht⟩) hS.2.2 (Nat.le_of_ble_eq_true rfl) (Nat.le_of_ble_eq_true rfl))
  · skip
    have hH1 : H1 = _ := ht.symm.trans hB
    subst hH1
    have c_1 : fX4_requireRange x1 0 2 = 0 := hw
    have t_2 := rr_lo c_1
    have t_3 := rr_hi c_1
    refine lv_iload_n hx hb dX4_day_6 rfl (lv_at hl 2 rfl) ?_
    refine lv_iconst (v := 0) hx hb dX4_day_7 (by decide) ?_
    refine lv_iload_n hx hb dX4_day_8 rfl (lv_at hl 1 rfl) ?_
    refine lv_iconst (v := 2) hx hb dX4_day_9 (by decide) ?_
    refine lv_icmp_ne (tgt := 18) hx hb dX4_day_10 (by decide) (fun c_4 => ?_) (fun c_4 => ?_)
    · skip
      have t_5 : x1.toInt ≠ 2 := i_ne c_4 rfl (by decide)
      refine lv_ldc (v := 999999) hx hb hown (hts _ (List.mem_cons_of_mem _ wd_200)) dX4_day_18 ?_
      refine vy_callv (vy_runS (As := [.int x2, .int 0, .int 999999]) (rest := []) ⟨hx, hb, hml, hown, hts⟩ (kX4_requireRange l hl9 dC dI _ x2 0 999999) (cwS 3 hts (gS wd_90 wd_91 wd_92 wcX4_requireRange) rfl rfl rfl (by decide +kernel) ⟨(Nat.le_of_ble_eq_true rfl), (Nat.le_of_ble_eq_true rfl)⟩) ⟨fun a U g mk q => by obtain ⟨q0, q1, qZ⟩ := q; exact ⟨q0, q1, zz_same (u := U) (H := U.heap) rfl rfl qZ⟩, fun U hU hW => ⟨rfl, hU, by rw [hU]; exact zz_to hZ hS (fun q h => hA q (Nat.le_trans hS.1 h)) hW⟩⟩ rfl rfl hl.1 rfl (lv_room (Nat.le_of_ble_eq_true rfl)) dX4_day_20 ⟨(Nat.le_of_ble_eq_true rfl), (Nat.le_of_ble_eq_true rfl)⟩) hS (fun q h1 h2 => absurd h2 (Nat.not_le.mpr h1)) (fun q h => hA q (Nat.le_trans hS.1 h)) (fun q h1 h2 => absurd h2 (Nat.not_le.mpr h1)) (fun E ce q9 _ t H1 locs1 ht hvm hw hB hz1 hk1 hS hce hcv hcl => ?_) (fun _ t H1 locs1 ht hvm hw hB hz1 hk1 hS => ?_)
      · skip
        have c_6 : ¬ fX4_requireRange x2 0 999999 = 0 := by rw [hw]; decide
        subst hB
        have hP := hP.kept (fun k q hq => hk1 q.1 (hP k q hq).lt (Nat.not_le.mpr (hP k q hq).lt))
        exact vy_out (vx_out (fun x hx => (hxt x hx).elim) hlocks hce hcv hcl (fun t ht ha => ⟨u, trivial, ⟨⟨2, (by unfold fX4_day; rw [if_pos c_1, if_neg c_4, if_neg c_6]), rfl⟩, by rw [ht]; exact hP, hD⟩, hS.F ht⟩) hS.2.2 (Nat.le_of_ble_eq_true rfl) (Nat.le_of_ble_eq_true rfl))
      · skip
        have hH1 : H1 = _ := ht.symm.trans hB
        subst hH1
        have c_6 : fX4_requireRange x2 0 999999 = 0 := hw
        have t_7 := rr_lo c_6
        have t_8 := rr_hi c_6
        refine lv_iload_n hx hb dX4_day_23 rfl (lv_at hl 1 rfl) ?_
        refine lv_iconst (v := 2) hx hb dX4_day_24 (by decide) ?_
        refine lv_icmp_ne (tgt := 42) hx hb dX4_day_25 (by decide) (fun c_9 => ?_) (fun c_9 => ?_)
        · skip
          refine lv_iload_n hx hb dX4_day_42 rfl (lv_at hl 2 rfl) ?_
          refine lv_sipush (v := 10000) hx hb dX4_day_43 (by decide) ?_
          refine lv_idiv hx hb dX4_day_46 (by decide) ?_
          refine lv_istore_n (lv' := [(3, .int (x2 / 10000)), (0, .ref (h 0)), (1, .int x1), (2, .int x2)]) hx hb dX4_day_47 rfl hl (by decide) rfl (fun ls hl => ?_)
          refine lv_iload_n hx hb dX4_day_48 rfl (lv_at hl 3 rfl) ?_
          refine lv_bipush (v := 100) hx hb dX4_day_49 (by decide) ?_
          refine lv_idiv hx hb dX4_day_51 (by decide) ?_
          refine lv_bipush (v := 100) hx hb dX4_day_52 (by decide) ?_
          refine lv_irem hx hb dX4_day_54 (by decide) ?_
          refine lv_istore (lv' := [(4, .int ((x2 / 100) - (x2 / 100) / 100 * 100)), (3, .int (x2 / 10000)), (0, .ref (h 0)), (1, .int x1), (2, .int x2)]) hx hb dX4_day_55 hl (by decide) rfl (fun ls hl => ?_)
          refine lv_iload_n hx hb dX4_day_57 rfl (lv_at hl 4 rfl) ?_
          refine lv_bipush (v := 100) hx hb dX4_day_58 (by decide) ?_
          refine lv_irem hx hb dX4_day_60 (by decide) ?_
          refine lv_istore (lv' := [(5, .int (x2 - x2 / 100 * 100)), (4, .int ((x2 / 100) - (x2 / 100) / 100 * 100)), (3, .int (x2 / 10000)), (0, .ref (h 0)), (1, .int x1), (2, .int x2)]) hx hb dX4_day_61 hl (by decide) rfl (fun ls hl => ?_)
          refine lv_iload_n hx hb dX4_day_63 rfl (lv_at hl 4 rfl) ?_
          refine lv_iconst (v := 1) hx hb dX4_day_64 (by decide) ?_
          refine lv_icmp_ne (tgt := 79) hx hb dX4_day_65 (by decide) (fun c_10 => ?_) (fun c_10 => ?_)
          · skip
            have t_11 : x1.toInt ≠ 1 := i_ne c_10 rfl (by decide)
            refine lv_iload_n hx hb dX4_day_79 rfl (lv_at hl 2 rfl) ?_
            refine lv_iload hx hb dX4_day_80 (lv_at hl 1 rfl) ?_
            refine lv_iload hx hb dX4_day_82 (lv_at hl 0 rfl) ?_
            refine vp_callSi (W.runS (As := [.int (x2 / 10000), .int ((x2 / 100) - (x2 / 100) / 100 * 100), .int (x2 - x2 / 100 * 100)]) (rest := []) ⟨hx, hb, hml, hown, hts⟩ (kX0_fromMonthDay l dC dI (x2 / 10000) ((x2 / 100) - (x2 / 100) / 100 * 100) (x2 - x2 / 100 * 100)) (va_cwS 3 hts (gT wd_201 wd_202 wd_58 wcX0_fromMonthDay) rfl rfl rfl (by decide +kernel) ⟨(Nat.le_of_ble_eq_true rfl), (Nat.le_of_ble_eq_true rfl)⟩) ⟨fun a U g mk q => by obtain ⟨q0, qZ⟩ := q; exact ⟨q0, zr_same (u := U) (H := U.heap) rfl rfl qZ⟩, fun U hU hW => ⟨rfl, by show zr U U.heap; rw [hU]; exact zr_to hZ hS hW⟩⟩ rfl rfl hl.1 rfl (lv_room (Nat.le_of_ble_eq_true rfl)) dX4_day_84 ⟨(Nat.le_of_ble_eq_true rfl), (Nat.le_of_ble_eq_true rfl)⟩) (fun r_12 hw => ?_)
            subst hw
            exact vy_ret (W.iret (v := fX0_fromMonthDay (x2 / 10000) ((x2 / 100) - (x2 / 100) / 100 * 100) (x2 - x2 / 100 * 100)) hx hb hr (fun t ht hW => ⟨⟨(fX0_fromMonthDay (x2 / 10000) ((x2 / 100) - (x2 / 100) / 100 * 100) (x2 - x2 / 100 * 100)), u, rfl, (by unfold fX4_day; rw [if_pos c_1, if_neg c_4, if_pos c_6, if_neg c_10]), by rw [ht]; exact hP, hD⟩, hS.F ht⟩) hS.2.2 dX4_day_87)
          · skip
            have t_13 : x1.toInt = 1 := i_eq c_10 rfl (by decide)
            refine lv_iload hx hb dX4_day_68 (lv_at hl 0 rfl) ?_
            refine lv_iload hx hb dX4_day_70 (lv_at hl 1 rfl) ?_
            refine lv_iload_n hx hb dX4_day_72 rfl (lv_at hl 2 rfl) ?_
            refine vp_callSi (W.runS (As := [.int (x2 - x2 / 100 * 100), .int ((x2 / 100) - (x2 / 100) / 100 * 100), .int (x2 / 10000)]) (rest := []) ⟨hx, hb, hml, hown, hts⟩ (kX0_fromMonthDay l dC dI (x2 - x2 / 100 * 100) ((x2 / 100) - (x2 / 100) / 100 * 100) (x2 / 10000)) (va_cwS 3 hts (gT wd_201 wd_202 wd_58 wcX0_fromMonthDay) rfl rfl rfl (by decide +kernel) ⟨(Nat.le_of_ble_eq_true rfl), (Nat.le_of_ble_eq_true rfl)⟩) ⟨fun a U g mk q => by obtain ⟨q0, qZ⟩ := q; exact ⟨q0, zr_same (u := U) (H := U.heap) rfl rfl qZ⟩, fun U hU hW => ⟨rfl, by show zr U U.heap; rw [hU]; exact zr_to hZ hS hW⟩⟩ rfl rfl hl.1 rfl (lv_room (Nat.le_of_ble_eq_true rfl)) dX4_day_73 ⟨(Nat.le_of_ble_eq_true rfl), (Nat.le_of_ble_eq_true rfl)⟩) (fun r_14 hw => ?_)
            subst hw
            refine lv_goto (tgt := 87) hx hb dX4_day_76 (by decide) ?_
            exact vy_ret (W.iret (v := fX0_fromMonthDay (x2 - x2 / 100 * 100) ((x2 / 100) - (x2 / 100) / 100 * 100) (x2 / 10000)) hx hb hr (fun t ht hW => ⟨⟨(fX0_fromMonthDay (x2 - x2 / 100 * 100) ((x2 / 100) - (x2 / 100) / 100 * 100) (x2 / 10000)), u, rfl, (by unfold fX4_day; rw [if_pos c_1, if_neg c_4, if_pos c_6, if_pos c_10]), by rw [ht]; exact hP, hD⟩, hS.F ht⟩) hS.2.2 dX4_day_87)
        · skip
          exact absurd c_9 c_4
    · skip
      have t_15 : x1.toInt = 2 := i_eq c_4 rfl (by decide)
      refine lv_ldc (v := 99999) hx hb hown (hts _ (List.mem_cons_of_mem _ wd_204)) dX4_day_13 ?_
      refine lv_goto (tgt := 20) hx hb dX4_day_15 (by decide) ?_
      refine vy_callv (vy_runS (As := [.int x2, .int 0, .int 99999]) (rest := []) ⟨hx, hb, hml, hown, hts⟩ (kX4_requireRange l hl9 dC dI _ x2 0 99999) (cwS 3 hts (gS wd_90 wd_91 wd_92 wcX4_requireRange) rfl rfl rfl (by decide +kernel) ⟨(Nat.le_of_ble_eq_true rfl), (Nat.le_of_ble_eq_true rfl)⟩) ⟨fun a U g mk q => by obtain ⟨q0, q1, qZ⟩ := q; exact ⟨q0, q1, zz_same (u := U) (H := U.heap) rfl rfl qZ⟩, fun U hU hW => ⟨rfl, hU, by rw [hU]; exact zz_to hZ hS (fun q h => hA q (Nat.le_trans hS.1 h)) hW⟩⟩ rfl rfl hl.1 rfl (lv_room (Nat.le_of_ble_eq_true rfl)) dX4_day_20 ⟨(Nat.le_of_ble_eq_true rfl), (Nat.le_of_ble_eq_true rfl)⟩) hS (fun q h1 h2 => absurd h2 (Nat.not_le.mpr h1)) (fun q h => hA q (Nat.le_trans hS.1 h)) (fun q h1 h2 => absurd h2 (Nat.not_le.mpr h1)) (fun E ce q9 _ t H1 locs1 ht hvm hw hB hz1 hk1 hS hce hcv hcl => ?_) (fun _ t H1 locs1 ht hvm hw hB hz1 hk1 hS => ?_)
      · skip
        have c_16 : ¬ fX4_requireRange x2 0 99999 = 0 := by rw [hw]; decide
        subst hB
        have hP := hP.kept (fun k q hq => hk1 q.1 (hP k q hq).lt (Nat.not_le.mpr (hP k q hq).lt))
        exact vy_out (vx_out (fun x hx => (hxt x hx).elim) hlocks hce hcv hcl (fun t ht ha => ⟨u, trivial, ⟨⟨2, (by unfold fX4_day; rw [if_pos c_1, if_pos c_4, if_neg c_16]), rfl⟩, by rw [ht]; exact hP, hD⟩, hS.F ht⟩) hS.2.2 (Nat.le_of_ble_eq_true rfl) (Nat.le_of_ble_eq_true rfl))
      · skip
        have hH1 : H1 = _ := ht.symm.trans hB
        subst hH1
        have c_16 : fX4_requireRange x2 0 99999 = 0 := hw
        have t_17 := rr_lo c_16
        have t_18 := rr_hi c_16
        refine lv_iload_n hx hb dX4_day_23 rfl (lv_at hl 1 rfl) ?_
        refine lv_iconst (v := 2) hx hb dX4_day_24 (by decide) ?_
        refine lv_icmp_ne (tgt := 42) hx hb dX4_day_25 (by decide) (fun c_19 => ?_) (fun c_19 => ?_)
        · skip
          exact absurd c_4 c_19
        · skip
          refine lv_iload_n hx hb dX4_day_28 rfl (lv_at hl 2 rfl) ?_
          refine lv_sipush (v := 1000) hx hb dX4_day_29 (by decide) ?_
          refine lv_idiv hx hb dX4_day_32 (by decide) ?_
          refine lv_iload_n hx hb dX4_day_33 rfl (lv_at hl 2 rfl) ?_
          refine lv_sipush (v := 1000) hx hb dX4_day_34 (by decide) ?_
          refine lv_irem hx hb dX4_day_37 (by decide) ?_
          refine vp_callSi (W.runS (As := [.int (x2 / 1000), .int (x2 - x2 / 1000 * 1000)]) (rest := []) ⟨hx, hb, hml, hown, hts⟩ (kX0_fromYearDay l dC dI (x2 / 1000) (x2 - x2 / 1000 * 1000)) (va_cwS 2 hts (gT wd_205 wd_64 wd_58 wcX0_fromYearDay) rfl rfl rfl (by decide +kernel) ⟨(Nat.le_of_ble_eq_true rfl), (Nat.le_of_ble_eq_true rfl)⟩) ⟨fun a U g mk q => by obtain ⟨q0, qZ⟩ := q; exact ⟨q0, zr_same (u := U) (H := U.heap) rfl rfl qZ⟩, fun U hU hW => ⟨rfl, by show zr U U.heap; rw [hU]; exact zr_to hZ hS hW⟩⟩ rfl rfl hl.1 rfl (lv_room (Nat.le_of_ble_eq_true rfl)) dX4_day_38 ⟨(Nat.le_of_ble_eq_true rfl), (Nat.le_of_ble_eq_true rfl)⟩) (fun r_20 hw => ?_)
          subst hw
          exact vy_ret (W.iret (v := fX0_fromYearDay (x2 / 1000) (x2 - x2 / 1000 * 1000)) hx hb hr (fun t ht hW => ⟨⟨(fX0_fromYearDay (x2 / 1000) (x2 - x2 / 1000 * 1000)), u, rfl, (by unfold fX4_day; rw [if_pos c_1, if_pos c_4, if_pos c_16]), by rw [ht]; exact hP, hD⟩, hS.F ht⟩) hS.2.2 dX4_day_41)
set_option maxHeartbeats 4000000 in
set_option maxRecDepth 100000 in
theorem kX4_date (l : Launch) (hl9 : l.stackTraces = false) (dC : Nat → ClassId) (dI : Nat → Nat → Nat) (g : cG) (h : Nat → Nat) (u : cS) (sz : Nat) (x1 : Int32) (x2 : Int32) (hI : cInv u) : vy_Met l yX4_date wsX4_date ({ frames := 7, cells := 1, slots := 6, locals := 104 }) (va_Pc [.ref (h 0), .int x1, .int x2] (fun U => U.heap.size = sz ∧ va_P (dC, dI) vwCl (cw g h u) U.heap ∧ va_K (dC, dI) vwCl (cTys g) U ∧ va_D (fun _ => True) (cw g h u) ∧ zz (va_A (cw g h u) sz) U U.heap)) (va_Qi (fun (r : Int32) u2 => fX4_date u x1 x2 = (0, r, u2)) (fun (u2 : cS) (t : State) => va_P (dC, dI) vwCl (cw g h u2) t.heap ∧ va_D (va_A (cw g h u) sz) (cw g h u2)) (va_A (cw g h u) sz)) (vx_X (fun _ => True) (fun E (u2 : cS) t => (∃ k : Nat, fX4_date u x1 x2 = (k, 0, u2) ∧ ex_is k E) ∧ va_P (dC, dI) vwCl (cw g h u2) t.heap ∧ va_D (va_A (cw g h u) sz) (cw g h u2)) (va_A (cw g h u) sz)) 0 0 1 6 (va_A (cw g h u) sz) := by
  refine vy_ofW (cc := cX4_date) (maxL := 7) (ret := (some .int)) (by decide) rfl ?_
  intro p e s m args below meth c s₁ B hml hxt hv
  obtain ⟨rfl, hsz, hP, hK, hD0, hZ⟩ := hv
  have hx := B.exec
  have hb := B.bytes
  have hr := B.returns
  have hts := atoms_spec (ws := wsX4_date) B.pre
  have hown : s.vm.findClass RX4 = some m.cls := findClass_of_methodNamed B.named
  have hlocks := B.notSynchronized
  subst hsz
  have hD := hD0.self (sz := s.heap.size)
  generalize hAe : va_A (cw g h u) s.heap.size = A at hD hZ ⊢
  have hA : ∀ q : Nat, s.heap.size ≤ q → A q := fun q h => by rw [← hAe]; exact Or.inr h
  have hS : va_S A s.heap s.heap [] := va_S.rf
  have hl := lv_entry ([.ref (h 0), .int x1, .int x2]) (n := 7) (Nat.le_of_ble_eq_true rfl)
  rw [lg_entry_eq]
  generalize (lg_sl ([.ref (h 0), .int x1, .int x2]) ++ List.replicate (7 - (lg_sl ([.ref (h 0), .int x1, .int x2])).length) Slot.unset).toArray = ls at hl ⊢
  have hl : lv_has ls 7 [(0, .ref (h 0)), (1, .int x1), (2, .int x2)] := hl
  obtain ⟨hI1, hI2, hI3, hI4, hI5, hI6⟩ := id hI
  have z_0 : (0 : Int32).toInt = 0 := by decide
  have z_1 : (2 : Int32).toInt = 2 := by decide
  have z_2 : (36524 : Int32).toInt = 36524 := by decide
  refine lv_iload_n hx hb dX4_date_0 rfl (lv_at hl 1 rfl) ?_
  refine lv_iconst (v := 0) hx hb dX4_date_1 (by decide) ?_
  refine lv_iconst (v := 2) hx hb dX4_date_2 (by decide) ?_
  refine vy_callv (vy_runS (As := [.int x1, .int 0, .int 2]) (rest := []) ⟨hx, hb, hml, hown, hts⟩ (kX4_requireRange l hl9 dC dI _ x1 0 2) (cwS 3 hts (gS wd_90 wd_91 wd_92 wcX4_requireRange) rfl rfl rfl (by decide +kernel) ⟨(Nat.le_of_ble_eq_true rfl), (Nat.le_of_ble_eq_true rfl)⟩) ⟨fun a U g mk q => by obtain ⟨q0, q1, qZ⟩ := q; exact ⟨q0, q1, zz_same (u := U) (H := U.heap) rfl rfl qZ⟩, fun U hU hW => ⟨rfl, hU, by rw [hU]; exact zz_to hZ hS (fun q h => hA q (Nat.le_trans hS.1 h)) hW⟩⟩ rfl rfl hl.1 rfl (lv_room (Nat.le_of_ble_eq_true rfl)) dX4_date_3 ⟨(Nat.le_of_ble_eq_true rfl), (Nat.le_of_ble_eq_true rfl)⟩) hS (fun q h1 h2 => absurd h2 (Nat.not_le.mpr h1)) (fun q h => hA q (Nat.le_trans hS.1 h)) (fun q h1 h2 => absurd h2 (Nat.not_le.mpr h1)) (fun E ce q9 _ t H1 locs1 ht hvm hw hB hz1 hk1 hS hce hcv hcl => ?_) (fun _ t H1 locs1 ht hvm hw hB hz1 hk1 hS => ?_)
  · skip
    have c_1 : ¬ fX4_requireRange x1 0 2 = 0 := by rw [hw]; decide
    subst hB
    have hP := hP.kept (fun k q hq => hk1 q.1 (hP k q hq).lt (Nat.not_le.mpr (hP k q hq).lt))
    exact vy_out (vx_out (fun x hx => (hxt x hx).elim) hlocks hce hcv hcl (fun t ht ha => ⟨u, trivial, ⟨⟨2, (by unfold fX4_date; rw [if_neg c_1]), rfl⟩, by rw [ht]; exact hP, hD⟩, hS.F ht⟩) hS.2.2 (Nat.le_of_ble_eq_true rfl) (Nat.le_of_ble_eq_true rfl))
  · skip
    have hH1 : H1 = _ := ht.symm.trans hB
    subst hH1
    have c_1 : fX4_requireRange x1 0 2 = 0 := hw
    have t_2 := rr_lo c_1
    have t_3 := rr_hi c_1
    refine lv_iload_n hx hb dX4_date_6 rfl (lv_at hl 2 rfl) ?_
    refine lv_iconst (v := 0) hx hb dX4_date_7 (by decide) ?_
    refine lv_ldc (v := 36524) hx hb hown (hts _ (List.mem_cons_of_mem _ wd_94)) dX4_date_8 ?_
    refine vy_callv (vy_runS (As := [.int x2, .int 0, .int 36524]) (rest := []) ⟨hx, hb, hml, hown, hts⟩ (kX4_requireRange l hl9 dC dI _ x2 0 36524) (cwS 3 hts (gS wd_90 wd_91 wd_92 wcX4_requireRange) rfl rfl rfl (by decide +kernel) ⟨(Nat.le_of_ble_eq_true rfl), (Nat.le_of_ble_eq_true rfl)⟩) ⟨fun a U g mk q => by obtain ⟨q0, q1, qZ⟩ := q; exact ⟨q0, q1, zz_same (u := U) (H := U.heap) rfl rfl qZ⟩, fun U hU hW => ⟨rfl, hU, by rw [hU]; exact zz_to hZ hS (fun q h => hA q (Nat.le_trans hS.1 h)) hW⟩⟩ rfl rfl hl.1 rfl (lv_room (Nat.le_of_ble_eq_true rfl)) dX4_date_10 ⟨(Nat.le_of_ble_eq_true rfl), (Nat.le_of_ble_eq_true rfl)⟩) hS (fun q h1 h2 => absurd h2 (Nat.not_le.mpr h1)) (fun q h => hA q (Nat.le_trans hS.1 h)) (fun q h1 h2 => absurd h2 (Nat.not_le.mpr h1)) (fun E ce q9 _ t H1 locs1 ht hvm hw hB hz1 hk1 hS hce hcv hcl => ?_) (fun _ t H1 locs1 ht hvm hw hB hz1 hk1 hS => ?_)
    · skip
      have c_4 : ¬ fX4_requireRange x2 0 36524 = 0 := by rw [hw]; decide
      subst hB
      have hP := hP.kept (fun k q hq => hk1 q.1 (hP k q hq).lt (Nat.not_le.mpr (hP k q hq).lt))
      exact vy_out (vx_out (fun x hx => (hxt x hx).elim) hlocks hce hcv hcl (fun t ht ha => ⟨u, trivial, ⟨⟨2, (by unfold fX4_date; rw [if_pos c_1, if_neg c_4]), rfl⟩, by rw [ht]; exact hP, hD⟩, hS.F ht⟩) hS.2.2 (Nat.le_of_ble_eq_true rfl) (Nat.le_of_ble_eq_true rfl))
    · skip
      have hH1 : H1 = _ := ht.symm.trans hB
      subst hH1
      have c_4 : fX4_requireRange x2 0 36524 = 0 := hw
      have t_5 := rr_lo c_4
      have t_6 := rr_hi c_4
      refine lv_iload_n hx hb dX4_date_13 rfl (lv_at hl 2 rfl) ?_
      refine vp_callSi (W.runS (As := [.int x2]) (rest := []) ⟨hx, hb, hml, hown, hts⟩ (kX0_yearOf l dC dI x2) (va_cwS 1 hts (gT wd_206 wd_207 wd_58 wcX0_yearOf) rfl rfl rfl (by decide +kernel) ⟨(Nat.le_of_ble_eq_true rfl), (Nat.le_of_ble_eq_true rfl)⟩) ⟨fun a U g mk q => by obtain ⟨q0, qT⟩ := q; exact ⟨q0, qT⟩, fun U hU hW => ⟨rfl, trivial⟩⟩ rfl rfl hl.1 rfl (lv_room (Nat.le_of_ble_eq_true rfl)) dX4_date_14 ⟨(Nat.le_of_ble_eq_true rfl), (Nat.le_of_ble_eq_true rfl)⟩) (fun r_7 hw => ?_)
      subst hw
      refine lv_istore_n (lv' := [(3, .int (fX0_yearOf x2)), (0, .ref (h 0)), (1, .int x1), (2, .int x2)]) hx hb dX4_date_17 rfl hl (by decide) rfl (fun ls hl => ?_)
      refine lv_iload_n hx hb dX4_date_18 rfl (lv_at hl 3 rfl) ?_
      refine lv_iload_n hx hb dX4_date_19 rfl (lv_at hl 0 rfl) ?_
      refine vp_callSi (W.runS (As := [.int (fX0_yearOf x2)]) (rest := [.int x2]) ⟨hx, hb, hml, hown, hts⟩ (kX0_startOfYear l dC dI (fX0_yearOf x2)) (va_cwS 1 hts (gT wd_209 wd_61 wd_58 wcX0_startOfYear) rfl rfl rfl (by decide +kernel) ⟨(Nat.le_of_ble_eq_true rfl), (Nat.le_of_ble_eq_true rfl)⟩) ⟨fun a U g mk q => by obtain ⟨q0, qT⟩ := q; exact ⟨q0, qT⟩, fun U hU hW => ⟨rfl, trivial⟩⟩ rfl rfl hl.1 rfl (lv_room (Nat.le_of_ble_eq_true rfl)) dX4_date_20 ⟨(Nat.le_of_ble_eq_true rfl), (Nat.le_of_ble_eq_true rfl)⟩) (fun r_8 hw => ?_)
      subst hw
      refine lv_isub hx hb dX4_date_23 ?_
      refine lv_iconst (v := 1) hx hb dX4_date_24 (by decide) ?_
      refine lv_iadd hx hb dX4_date_25 ?_
      refine lv_istore (lv' := [(4, .int ((x2 - (fX0_startOfYear (fX0_yearOf x2))) + 1)), (3, .int (fX0_yearOf x2)), (0, .ref (h 0)), (1, .int x1), (2, .int x2)]) hx hb dX4_date_26 hl (by decide) rfl (fun ls hl => ?_)
      refine lv_iload_n hx hb dX4_date_28 rfl (lv_at hl 3 rfl) ?_
      refine lv_iconst (v := 2) hx hb dX4_date_29 (by decide) ?_
      refine lv_icmp_ne (tgt := 42) hx hb dX4_date_30 (by decide) (fun c_9 => ?_) (fun c_9 => ?_)
      · skip
        have t_10 : x1.toInt ≠ 2 := i_ne c_9 rfl (by decide)
        refine lv_iload_n hx hb dX4_date_42 rfl (lv_at hl 1 rfl) ?_
        refine lv_iload hx hb dX4_date_43 (lv_at hl 0 rfl) ?_
        refine vp_callSi (W.runS (As := [.int (fX0_yearOf x2), .int ((x2 - (fX0_startOfYear (fX0_yearOf x2))) + 1)]) (rest := []) ⟨hx, hb, hml, hown, hts⟩ (kX0_monthOf l dC dI (fX0_yearOf x2) ((x2 - (fX0_startOfYear (fX0_yearOf x2))) + 1)) (va_cwS 2 hts (gT wd_210 wd_211 wd_58 wcX0_monthOf) rfl rfl rfl (by decide +kernel) ⟨(Nat.le_of_ble_eq_true rfl), (Nat.le_of_ble_eq_true rfl)⟩) ⟨fun a U g mk q => by obtain ⟨q0, qZ⟩ := q; exact ⟨q0, zr_same (u := U) (H := U.heap) rfl rfl qZ⟩, fun U hU hW => ⟨rfl, by show zr U U.heap; rw [hU]; exact zr_to hZ hS hW⟩⟩ rfl rfl hl.1 rfl (lv_room (Nat.le_of_ble_eq_true rfl)) dX4_date_45 ⟨(Nat.le_of_ble_eq_true rfl), (Nat.le_of_ble_eq_true rfl)⟩) (fun r_11 hw => ?_)
        subst hw
        refine lv_istore (lv' := [(5, .int (fX0_monthOf (fX0_yearOf x2) ((x2 - (fX0_startOfYear (fX0_yearOf x2))) + 1))), (4, .int ((x2 - (fX0_startOfYear (fX0_yearOf x2))) + 1)), (3, .int (fX0_yearOf x2)), (0, .ref (h 0)), (1, .int x1), (2, .int x2)]) hx hb dX4_date_48 hl (by decide) rfl (fun ls hl => ?_)
        refine lv_iload hx hb dX4_date_50 (lv_at hl 1 rfl) ?_
        refine lv_iload_n hx hb dX4_date_52 rfl (lv_at hl 2 rfl) ?_
        refine lv_iload hx hb dX4_date_53 (lv_at hl 0 rfl) ?_
        refine vp_callSi (W.runS (As := [.int (fX0_yearOf x2), .int (fX0_monthOf (fX0_yearOf x2) ((x2 - (fX0_startOfYear (fX0_yearOf x2))) + 1))]) (rest := [.int ((x2 - (fX0_startOfYear (fX0_yearOf x2))) + 1)]) ⟨hx, hb, hml, hown, hts⟩ (kX0_daysBefore l dC dI (fX0_yearOf x2) (fX0_monthOf (fX0_yearOf x2) ((x2 - (fX0_startOfYear (fX0_yearOf x2))) + 1)) (month_rg _ _)) (va_cwS 2 hts (gT wd_213 wd_57 wd_58 wcX0_daysBefore) rfl rfl rfl (by decide +kernel) ⟨(Nat.le_of_ble_eq_true rfl), (Nat.le_of_ble_eq_true rfl)⟩) ⟨fun a U g mk q => by obtain ⟨q0, qZ⟩ := q; exact ⟨q0, zr_same (u := U) (H := U.heap) rfl rfl qZ⟩, fun U hU hW => ⟨rfl, by show zr U U.heap; rw [hU]; exact zr_to hZ hS hW⟩⟩ rfl rfl hl.1 rfl (lv_room (Nat.le_of_ble_eq_true rfl)) dX4_date_55 ⟨(Nat.le_of_ble_eq_true rfl), (Nat.le_of_ble_eq_true rfl)⟩) (fun r_12 hw => ?_)
        subst hw
        refine lv_isub hx hb dX4_date_58 ?_
        refine lv_istore (lv' := [(6, .int (((x2 - (fX0_startOfYear (fX0_yearOf x2))) + 1) - (fX0_daysBefore (fX0_yearOf x2) (fX0_monthOf (fX0_yearOf x2) ((x2 - (fX0_startOfYear (fX0_yearOf x2))) + 1))))), (5, .int (fX0_monthOf (fX0_yearOf x2) ((x2 - (fX0_startOfYear (fX0_yearOf x2))) + 1))), (4, .int ((x2 - (fX0_startOfYear (fX0_yearOf x2))) + 1)), (3, .int (fX0_yearOf x2)), (0, .ref (h 0)), (1, .int x1), (2, .int x2)]) hx hb dX4_date_59 hl (by decide) rfl (fun ls hl => ?_)
        refine lv_iload_n hx hb dX4_date_61 rfl (lv_at hl 5 rfl) ?_
        refine lv_iconst (v := 1) hx hb dX4_date_62 (by decide) ?_
        refine lv_icmp_ne (tgt := 83) hx hb dX4_date_63 (by decide) (fun c_13 => ?_) (fun c_13 => ?_)
        · skip
          have t_14 : x1.toInt ≠ 1 := i_ne c_13 rfl (by decide)
          refine lv_iload_n hx hb dX4_date_83 rfl (lv_at hl 3 rfl) ?_
          refine lv_sipush (v := 10000) hx hb dX4_date_84 (by decide) ?_
          refine lv_imul hx hb dX4_date_87 ?_
          refine lv_iload hx hb dX4_date_88 (lv_at hl 1 rfl) ?_
          refine lv_bipush (v := 100) hx hb dX4_date_90 (by decide) ?_
          refine lv_imul hx hb dX4_date_92 ?_
          refine lv_iadd hx hb dX4_date_93 ?_
          refine lv_iload hx hb dX4_date_94 (lv_at hl 0 rfl) ?_
          refine lv_iadd hx hb dX4_date_96 ?_
          exact vy_ret (W.iret (v := (((fX0_yearOf x2) * 10000) + ((fX0_monthOf (fX0_yearOf x2) ((x2 - (fX0_startOfYear (fX0_yearOf x2))) + 1)) * 100)) + (((x2 - (fX0_startOfYear (fX0_yearOf x2))) + 1) - (fX0_daysBefore (fX0_yearOf x2) (fX0_monthOf (fX0_yearOf x2) ((x2 - (fX0_startOfYear (fX0_yearOf x2))) + 1))))) hx hb hr (fun t ht hW => ⟨⟨((((fX0_yearOf x2) * 10000) + ((fX0_monthOf (fX0_yearOf x2) ((x2 - (fX0_startOfYear (fX0_yearOf x2))) + 1)) * 100)) + (((x2 - (fX0_startOfYear (fX0_yearOf x2))) + 1) - (fX0_daysBefore (fX0_yearOf x2) (fX0_monthOf (fX0_yearOf x2) ((x2 - (fX0_startOfYear (fX0_yearOf x2))) + 1))))), u, rfl, (by unfold fX4_date; rw [if_pos c_1, if_pos c_4, if_neg c_9, if_neg c_13]), by rw [ht]; exact hP, hD⟩, hS.F ht⟩) hS.2.2 dX4_date_97)
        · skip
          have t_15 : x1.toInt = 1 := i_eq c_13 rfl (by decide)
          refine lv_iload hx hb dX4_date_66 (lv_at hl 0 rfl) ?_
          refine lv_sipush (v := 10000) hx hb dX4_date_68 (by decide) ?_
          refine lv_imul hx hb dX4_date_71 ?_
          refine lv_iload hx hb dX4_date_72 (lv_at hl 1 rfl) ?_
          refine lv_bipush (v := 100) hx hb dX4_date_74 (by decide) ?_
          refine lv_imul hx hb dX4_date_76 ?_
          refine lv_iadd hx hb dX4_date_77 ?_
          refine lv_iload_n hx hb dX4_date_78 rfl (lv_at hl 3 rfl) ?_
          refine lv_iadd hx hb dX4_date_79 ?_
          refine lv_goto (tgt := 97) hx hb dX4_date_80 (by decide) ?_
          exact vy_ret (W.iret (v := (((((x2 - (fX0_startOfYear (fX0_yearOf x2))) + 1) - (fX0_daysBefore (fX0_yearOf x2) (fX0_monthOf (fX0_yearOf x2) ((x2 - (fX0_startOfYear (fX0_yearOf x2))) + 1)))) * 10000) + ((fX0_monthOf (fX0_yearOf x2) ((x2 - (fX0_startOfYear (fX0_yearOf x2))) + 1)) * 100)) + (fX0_yearOf x2)) hx hb hr (fun t ht hW => ⟨⟨((((((x2 - (fX0_startOfYear (fX0_yearOf x2))) + 1) - (fX0_daysBefore (fX0_yearOf x2) (fX0_monthOf (fX0_yearOf x2) ((x2 - (fX0_startOfYear (fX0_yearOf x2))) + 1)))) * 10000) + ((fX0_monthOf (fX0_yearOf x2) ((x2 - (fX0_startOfYear (fX0_yearOf x2))) + 1)) * 100)) + (fX0_yearOf x2)), u, rfl, (by unfold fX4_date; rw [if_pos c_1, if_pos c_4, if_neg c_9, if_pos c_13]), by rw [ht]; exact hP, hD⟩, hS.F ht⟩) hS.2.2 dX4_date_97)
      · skip
        have t_16 : x1.toInt = 2 := i_eq c_9 rfl (by decide)
        refine lv_iload_n hx hb dX4_date_33 rfl (lv_at hl 1 rfl) ?_
        refine lv_sipush (v := 1000) hx hb dX4_date_34 (by decide) ?_
        refine lv_imul hx hb dX4_date_37 ?_
        refine lv_iload hx hb dX4_date_38 (lv_at hl 0 rfl) ?_
        refine lv_iadd hx hb dX4_date_40 ?_
        exact vy_ret (W.iret (v := ((fX0_yearOf x2) * 1000) + ((x2 - (fX0_startOfYear (fX0_yearOf x2))) + 1)) hx hb hr (fun t ht hW => ⟨⟨(((fX0_yearOf x2) * 1000) + ((x2 - (fX0_startOfYear (fX0_yearOf x2))) + 1)), u, rfl, (by unfold fX4_date; rw [if_pos c_1, if_pos c_4, if_pos c_9]), by rw [ht]; exact hP, hD⟩, hS.F ht⟩) hS.2.2 dX4_date_41)