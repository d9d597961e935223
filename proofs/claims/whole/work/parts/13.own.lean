set_option maxHeartbeats 4000000 in
set_option maxRecDepth 100000 in
theorem kX4_mayGo (l : Launch) (dC : Nat → ClassId) (dI : Nat → Nat → Nat) (g : cG) (h : Nat → Nat) (u : cS) (x1 : Int32) (x2 : Int32) (x3 : Int32) (h1 : 0 ≤ x1.toInt ∧ x1.toInt ≤ 40) (h2 : 0 ≤ x2.toInt ∧ x2.toInt ≤ 7) : Met l yX4_mayGo wsX4_mayGo ({ frames := 1, cells := 0, slots := 0, locals := 21 }) (va_Pc [.ref (h 0), .int x1, .int x2, .int x3] (fun U => va_P (dC, dI) vwCl (cw g h u) U.heap ∧ va_K (dC, dI) vwCl (cTys g) U)) (vp_Si (fun r => r = fX4_mayGo u x1 x2 x3)) 0 0 (fun _ => False) := by
  refine Met.ofW (cc := cX4_mayGo) (maxL := 4) (ret := (some .boolean)) (by decide) rfl ?_
  intro p e s m args below meth c s₁ B hml hv
  obtain ⟨rfl, hP, hK⟩ := hv
  have hx := B.exec
  have hb := B.bytes
  have hr := B.returns
  have hts := atoms_spec (ws := wsX4_mayGo) B.pre
  have hown : s.vm.findClass RX4 = some m.cls := findClass_of_methodNamed B.named
  have hlocks := B.notSynchronized
  have hS : va_S (fun _ => False) s.heap s.heap [] := va_S.rf
  have hl := lv_entry ([.ref (h 0), .int x1, .int x2, .int x3]) (n := 4) (Nat.le_of_ble_eq_true rfl)
  rw [lg_entry_eq]
  generalize (lg_sl ([.ref (h 0), .int x1, .int x2, .int x3]) ++ List.replicate (4 - (lg_sl ([.ref (h 0), .int x1, .int x2, .int x3])).length) Slot.unset).toArray = ls at hl ⊢
  have hl : lv_has ls 4 [(0, .ref (h 0)), (1, .int x1), (2, .int x2), (3, .int x3)] := hl
  refine lv_aload_n hx hb dX4_mayGo_0 rfl (lv_at hl 0 rfl) ?_
  refine va_get (D := (dC, dI)) (C := RX4) (T := TX4) (N := 9) (v := .ref (h 1)) hx hb hts (fi_X4 _) hown hK hP 0 (cw_at0 _ _ _) rfl 0 (by decide) (hts _ (List.mem_cons_of_mem _ wd_11)) (fun _ h9 => h9) rfl dX4_mayGo_1 ?_
  refine lv_iload_n hx hb dX4_mayGo_4 rfl (lv_at hl 1 rfl) ?_
  refine vp_callSi (W.runV (As := [.int x1]) (rest := []) ⟨hx, hb, hml, hown, hts⟩ (kX1_mayBeTaken l dC dI g h u x1 (by omega)) (cwV 1 hts (gV wd_75 wd_26 wd_27 wd_28 wcX1_mayBeTaken) rfl rfl rfl (by decide +kernel) ⟨(Nat.le_of_ble_eq_true rfl), (Nat.le_of_ble_eq_true rfl)⟩) ⟨fun a U g mk q => by obtain ⟨q0, qP, qK⟩ := q; exact ⟨q0, qP, va_K.moved (u := U) (U := U.calling g mk a) (Vm.Alike.refl U.vm) qK⟩, va_recv hK hP (ci := 0) (q0 := 1) rfl (cw_at1 _ _ _), fun U hU hW => ⟨rfl, by rw [hU]; exact hP, va_K.moved hW.alike hK⟩⟩ rfl rfl hl.1 rfl (lv_room (Nat.le_of_ble_eq_true rfl)) dX4_mayGo_5 ⟨(Nat.le_of_ble_eq_true rfl), (Nat.le_of_ble_eq_true rfl)⟩) (fun r_1 hw => ?_)
  subst hw
  refine lv_if_eq (tgt := 63) hx hb dX4_mayGo_8 (by decide) (fun c_2 => ?_) (fun c_2 => ?_)
  · skip
    have t_3 : (fX1_mayBeTaken u x1).toInt = 0 := i_eq c_2 rfl (by decide)
    refine lv_iconst (v := 0) hx hb dX4_mayGo_63 (by decide) ?_
    exact W.zret (v := 0) hx hb hr rfl (fun t ht hW => ⟨0, rfl, (by unfold fX4_mayGo; rw [if_pos c_2]), ht⟩) (fun _ h => nomatch h) dX4_mayGo_64
  · skip
    have t_4 : (fX1_mayBeTaken u x1).toInt ≠ 0 := i_ne c_2 rfl (by decide)
    refine lv_iload_n hx hb dX4_mayGo_11 rfl (lv_at hl 3 rfl) ?_
    refine lv_aload_n hx hb dX4_mayGo_12 rfl (lv_at hl 0 rfl) ?_
    refine va_get (D := (dC, dI)) (C := RX4) (T := TX4) (N := 9) (v := .ref (h 1)) hx hb hts (fi_X4 _) hown hK hP 0 (cw_at0 _ _ _) rfl 0 (by decide) (hts _ (List.mem_cons_of_mem _ wd_11)) (fun _ h9 => h9) rfl dX4_mayGo_13 ?_
    refine va_get (D := (dC, dI)) (C := RX1) (T := TX1) (N := 9) (v := .ref (h 11)) hx hb hts (fi_X1 _) hown hK hP 1 (cw_at1 _ _ _) rfl 3 (by decide) (hts _ (List.mem_cons_of_mem _ wd_76)) (fun _ h9 => h9) rfl dX4_mayGo_16 ?_
    refine lv_iload_n hx hb dX4_mayGo_19 rfl (lv_at hl 1 rfl) ?_
    refine va_iald (f := k_arr u) hx hb hK hP 11 0 (cw_at11 _ _ _) rfl (vp_in_iff.mpr (by omega)) dX4_mayGo_20 ?_
    refine lv_icmp_lt (tgt := 63) hx hb dX4_mayGo_21 (by decide) (fun c_5 => ?_) (fun c_5 => ?_)
    · skip
      have t_6 : x3.toInt < (k_arr u x1.toNatClampNeg).toInt := i_lt c_5 rfl rfl
      refine lv_iconst (v := 0) hx hb dX4_mayGo_63 (by decide) ?_
      exact W.zret (v := 0) hx hb hr rfl (fun t ht hW => ⟨0, rfl, (by unfold fX4_mayGo; rw [if_neg c_2, if_pos c_5]), ht⟩) (fun _ h => nomatch h) dX4_mayGo_64
    · skip
      have t_7 : (k_arr u x1.toNatClampNeg).toInt ≤ x3.toInt := i_nlt c_5 rfl rfl
      refine lv_iload_n hx hb dX4_mayGo_24 rfl (lv_at hl 3 rfl) ?_
      refine lv_aload_n hx hb dX4_mayGo_25 rfl (lv_at hl 0 rfl) ?_
      refine va_get (D := (dC, dI)) (C := RX4) (T := TX4) (N := 9) (v := .ref (h 1)) hx hb hts (fi_X4 _) hown hK hP 0 (cw_at0 _ _ _) rfl 0 (by decide) (hts _ (List.mem_cons_of_mem _ wd_11)) (fun _ h9 => h9) rfl dX4_mayGo_26 ?_
      refine va_get (D := (dC, dI)) (C := RX1) (T := TX1) (N := 9) (v := .ref (h 10)) hx hb hts (fi_X1 _) hown hK hP 1 (cw_at1 _ _ _) rfl 2 (by decide) (hts _ (List.mem_cons_of_mem _ wd_77)) (fun _ h9 => h9) rfl dX4_mayGo_29 ?_
      refine lv_iload_n hx hb dX4_mayGo_32 rfl (lv_at hl 1 rfl) ?_
      refine va_iald (f := k_last u) hx hb hK hP 10 0 (cw_at10 _ _ _) rfl (vp_in_iff.mpr (by omega)) dX4_mayGo_33 ?_
      refine lv_icmp_gt (tgt := 63) hx hb dX4_mayGo_34 (by decide) (fun c_8 => ?_) (fun c_8 => ?_)
      · skip
        have t_9 : (k_last u x1.toNatClampNeg).toInt < x3.toInt := i_lt c_8 rfl rfl
        refine lv_iconst (v := 0) hx hb dX4_mayGo_63 (by decide) ?_
        exact W.zret (v := 0) hx hb hr rfl (fun t ht hW => ⟨0, rfl, (by unfold fX4_mayGo; rw [if_neg c_2, if_neg c_5, if_pos c_8]), ht⟩) (fun _ h => nomatch h) dX4_mayGo_64
      · skip
        have t_10 : x3.toInt ≤ (k_last u x1.toNatClampNeg).toInt := i_nlt c_8 rfl rfl
        refine lv_aload_n hx hb dX4_mayGo_37 rfl (lv_at hl 0 rfl) ?_
        refine va_get (D := (dC, dI)) (C := RX4) (T := TX4) (N := 9) (v := .ref (h 1)) hx hb hts (fi_X4 _) hown hK hP 0 (cw_at0 _ _ _) rfl 0 (by decide) (hts _ (List.mem_cons_of_mem _ wd_11)) (fun _ h9 => h9) rfl dX4_mayGo_38 ?_
        refine va_get (D := (dC, dI)) (C := RX1) (T := TX1) (N := 9) (v := .ref (h 10)) hx hb hts (fi_X1 _) hown hK hP 1 (cw_at1 _ _ _) rfl 2 (by decide) (hts _ (List.mem_cons_of_mem _ wd_77)) (fun _ h9 => h9) rfl dX4_mayGo_41 ?_
        refine lv_iload_n hx hb dX4_mayGo_44 rfl (lv_at hl 1 rfl) ?_
        refine va_iald (f := k_last u) hx hb hK hP 10 0 (cw_at10 _ _ _) rfl (vp_in_iff.mpr (by omega)) dX4_mayGo_45 ?_
        refine lv_iload_n hx hb dX4_mayGo_46 rfl (lv_at hl 3 rfl) ?_
        refine lv_isub hx hb dX4_mayGo_47 ?_
        refine lv_iconst (v := 1) hx hb dX4_mayGo_48 (by decide) ?_
        refine lv_iadd hx hb dX4_mayGo_49 ?_
        refine lv_aload_n hx hb dX4_mayGo_50 rfl (lv_at hl 0 rfl) ?_
        refine va_get (D := (dC, dI)) (C := RX4) (T := TX4) (N := 9) (v := .ref (h 6)) hx hb hts (fi_X4 _) hown hK hP 0 (cw_at0 _ _ _) rfl 5 (by decide) (hts _ (List.mem_cons_of_mem _ wd_78)) (fun _ h9 => h9) rfl dX4_mayGo_51 ?_
        refine lv_iload_n hx hb dX4_mayGo_54 rfl (lv_at hl 2 rfl) ?_
        refine va_iald (f := k_want u) hx hb hK hP 6 0 (cw_at6 _ _ _) rfl (vp_in_iff.mpr (by omega)) dX4_mayGo_55 ?_
        refine lv_icmp_lt (tgt := 63) hx hb dX4_mayGo_56 (by decide) (fun c_11 => ?_) (fun c_11 => ?_)
        · skip
          have t_12 : (((k_last u x1.toNatClampNeg) - x3) + 1).toInt < (k_want u x2.toNatClampNeg).toInt := i_lt c_11 rfl rfl
          refine lv_iconst (v := 0) hx hb dX4_mayGo_63 (by decide) ?_
          exact W.zret (v := 0) hx hb hr rfl (fun t ht hW => ⟨0, rfl, (by unfold fX4_mayGo; rw [if_neg c_2, if_neg c_5, if_neg c_8, if_pos c_11]), ht⟩) (fun _ h => nomatch h) dX4_mayGo_64
        · skip
          have t_13 : (k_want u x2.toNatClampNeg).toInt ≤ (((k_last u x1.toNatClampNeg) - x3) + 1).toInt := i_nlt c_11 rfl rfl
          refine lv_iconst (v := 1) hx hb dX4_mayGo_59 (by decide) ?_
          refine lv_goto (tgt := 64) hx hb dX4_mayGo_60 (by decide) ?_
          exact W.zret (v := 1) hx hb hr rfl (fun t ht hW => ⟨1, rfl, (by unfold fX4_mayGo; rw [if_neg c_2, if_neg c_5, if_neg c_8, if_neg c_11]), ht⟩) (fun _ h => nomatch h) dX4_mayGo_64
set_option maxHeartbeats 4000000 in
set_option maxRecDepth 100000 in
theorem kX4_lotThatHinders (l : Launch) (dC : Nat → ClassId) (dI : Nat → Nat → Nat) (g : cG) (h : Nat → Nat) (u : cS) (x1 : Int32) (x2 : Int32) (h1 : 0 ≤ x1.toInt ∧ x1.toInt ≤ 120) (hI : cInv u) : Met l yX4_lotThatHinders wsX4_lotThatHinders ({ frames := 2, cells := 0, slots := 0, locals := 44 }) (va_Pc [.ref (h 0), .int x1, .int x2] (fun U => va_P (dC, dI) vwCl (cw g h u) U.heap ∧ va_K (dC, dI) vwCl (cTys g) U)) (vp_Si (fun r => r = fX4_lotThatHinders u x1 x2)) 0 0 (fun _ => False) := by
  refine Met.ofW (cc := cX4_lotThatHinders) (maxL := 6) (ret := (some .int)) (by decide) rfl ?_
  intro p e s m args below meth c s₁ B hml hv
  obtain ⟨rfl, hP, hK⟩ := hv
  have hx := B.exec
  have hb := B.bytes
  have hr := B.returns
  have hts := atoms_spec (ws := wsX4_lotThatHinders) B.pre
  have hown : s.vm.findClass RX4 = some m.cls := findClass_of_methodNamed B.named
  have hlocks := B.notSynchronized
  have hS : va_S (fun _ => False) s.heap s.heap [] := va_S.rf
  have hl := lv_entry ([.ref (h 0), .int x1, .int x2]) (n := 6) (Nat.le_of_ble_eq_true rfl)
  rw [lg_entry_eq]
  generalize (lg_sl ([.ref (h 0), .int x1, .int x2]) ++ List.replicate (6 - (lg_sl ([.ref (h 0), .int x1, .int x2])).length) Slot.unset).toArray = ls at hl ⊢
  have hl : lv_has ls 6 [(0, .ref (h 0)), (1, .int x1), (2, .int x2)] := hl
  obtain ⟨hI1, hI2, hI3, hI4, hI5, hI6⟩ := id hI
  have z_0 : (1 : Int32).toInt = 1 := by decide
  refine lv_aload_n hx hb dX4_lotThatHinders_0 rfl (lv_at hl 0 rfl) ?_
  refine va_get (D := (dC, dI)) (C := RX4) (T := TX4) (N := 9) (v := .ref (h 2)) hx hb hts (fi_X4 _) hown hK hP 0 (cw_at0 _ _ _) rfl 1 (by decide) (hts _ (List.mem_cons_of_mem _ wd_13)) (fun _ h9 => h9) rfl dX4_lotThatHinders_1 ?_
  refine va_get (D := (dC, dI)) (C := RX3) (T := TX3) (N := 7) (v := .ref (h 16)) hx hb hts (fi_X3 _) hown hK hP 2 (cw_at2 _ _ _) rfl 0 (by decide) (hts _ (List.mem_cons_of_mem _ wd_79)) (fun _ h9 => h9) rfl dX4_lotThatHinders_4 ?_
  refine lv_iload_n hx hb dX4_lotThatHinders_7 rfl (lv_at hl 1 rfl) ?_
  refine va_iald (f := k_ulot u) hx hb hK hP 16 0 (cw_at16 _ _ _) rfl (vp_in_iff.mpr (by omega)) dX4_lotThatHinders_8 ?_
  refine lv_istore_n (lv' := [(3, .int (k_ulot u x1.toNatClampNeg)), (0, .ref (h 0)), (1, .int x1), (2, .int x2)]) hx hb dX4_lotThatHinders_9 rfl hl (by decide) rfl (fun ls hl => ?_)
  refine lv_aload_n hx hb dX4_lotThatHinders_10 rfl (lv_at hl 1 rfl) ?_
  refine va_get (D := (dC, dI)) (C := RX4) (T := TX4) (N := 9) (v := .ref (h 5)) hx hb hts (fi_X4 _) hown hK hP 0 (cw_at0 _ _ _) rfl 4 (by decide) (hts _ (List.mem_cons_of_mem _ wd_80)) (fun _ h9 => h9) rfl dX4_lotThatHinders_11 ?_
  refine lv_aload_n hx hb dX4_lotThatHinders_14 rfl (lv_at hl 1 rfl) ?_
  refine va_get (D := (dC, dI)) (C := RX4) (T := TX4) (N := 9) (v := .ref (h 1)) hx hb hts (fi_X4 _) hown hK hP 0 (cw_at0 _ _ _) rfl 0 (by decide) (hts _ (List.mem_cons_of_mem _ wd_11)) (fun _ h9 => h9) rfl dX4_lotThatHinders_15 ?_
  refine va_get (D := (dC, dI)) (C := RX1) (T := TX1) (N := 9) (v := .ref (h 9)) hx hb hts (fi_X1 _) hown hK hP 1 (cw_at1 _ _ _) rfl 1 (by decide) (hts _ (List.mem_cons_of_mem _ wd_81)) (fun _ h9 => h9) rfl dX4_lotThatHinders_18 ?_
  refine lv_iload_n hx hb dX4_lotThatHinders_21 rfl (lv_at hl 0 rfl) ?_
  refine va_iald (f := k_owners u) hx hb hK hP 9 0 (cw_at9 _ _ _) rfl (vp_in_iff.mpr (i_rgl (hI5 _) (by decide))) dX4_lotThatHinders_22 ?_
  refine va_iald (f := k_mix u) hx hb hK hP 5 0 (cw_at5 _ _ _) rfl (vp_in_iff.mpr (i_rg (hI4 _) (by decide))) dX4_lotThatHinders_23 ?_
  refine lv_istore (lv' := [(4, .int (k_mix u (k_owners u (k_ulot u x1.toNatClampNeg).toNatClampNeg).toNatClampNeg)), (3, .int (k_ulot u x1.toNatClampNeg)), (0, .ref (h 0)), (1, .int x1), (2, .int x2)]) hx hb dX4_lotThatHinders_24 hl (by decide) rfl (fun ls hl => ?_)
  refine lv_iconst (v := 1) hx hb dX4_lotThatHinders_26 (by decide) ?_
  refine lv_istore (lv' := [(5, .int 1), (4, .int (k_mix u (k_owners u (k_ulot u x1.toNatClampNeg).toNatClampNeg).toNatClampNeg)), (3, .int (k_ulot u x1.toNatClampNeg)), (0, .ref (h 0)), (1, .int x1), (2, .int x2)]) hx hb dX4_lotThatHinders_27 hl (by decide) rfl (fun ls hl => ?_)
  refine lp_ind (W p l e _ s m _ below meth c _ _ _ _ _) (fun n ls => ∃ (i : Int32), ((k_umade u).toInt - i.toInt + 1 < (n : Int)) ∧ (1 ≤ i.toInt ∧ i.toInt ≤ 121 ∧ i.toInt ≤ (k_umade u).toInt + 1) ∧ fX4_lotThatHinders u x1 x2 = lpX4_lotThatHinders u x1 x2 n i ∧ lv_has ls 6 [(5, .int i), (0, .ref (h 0)), (1, .int x1), (2, .int x2), (3, .int (k_ulot u x1.toNatClampNeg)), (4, .int (k_mix u (k_owners u (k_ulot u x1.toNatClampNeg).toNatClampNeg).toNatClampNeg))]) m 29 (fun ls hI0 => ?_) (fun n ls hI0 ih => ?_) 121 _ ⟨1, (by omega), (by omega), rfl, lv_sub hl [0, 3, 4, 5, 2, 1] rfl⟩
  · skip
    obtain ⟨i, hn, hi, he, hl⟩ := hI0
    exact absurd hn (by omega)
  · skip
    obtain ⟨i, hn, hi, he, hl⟩ := hI0
    have he_3 := he
    have ih_2 := ih
    refine lv_iload hx hb dX4_lotThatHinders_29 (lv_at hl 0 rfl) ?_
    refine lv_aload_n hx hb dX4_lotThatHinders_31 rfl (lv_at hl 1 rfl) ?_
    refine va_get (D := (dC, dI)) (C := RX4) (T := TX4) (N := 9) (v := .ref (h 2)) hx hb hts (fi_X4 _) hown hK hP 0 (cw_at0 _ _ _) rfl 1 (by decide) (hts _ (List.mem_cons_of_mem _ wd_13)) (fun _ h9 => h9) rfl dX4_lotThatHinders_32 ?_
    refine va_get (D := (dC, dI)) (C := RX3) (T := TX3) (N := 7) (v := .int (k_umade u)) hx hb hts (fi_X3 _) hown hK hP 2 (cw_at2 _ _ _) rfl 5 (by decide) (hts _ (List.mem_cons_of_mem _ wd_14)) (fun _ h9 => h9) rfl dX4_lotThatHinders_35 ?_
    refine lv_icmp_gt (tgt := 95) hx hb dX4_lotThatHinders_38 (by decide) (fun c_4 => ?_) (fun c_4 => ?_)
    · skip
      have t_5 : (k_umade u).toInt < i.toInt := i_lt c_4 rfl rfl
      refine lv_iconst (v := 0) hx hb dX4_lotThatHinders_95 (by decide) ?_
      exact W.iret (v := 0) hx hb hr (fun t ht hW => ⟨0, rfl, (by rw [he_3, lpX4_lotThatHinders_eq, if_pos c_4]), ht⟩) (fun _ h => nomatch h) dX4_lotThatHinders_96
    · skip
      have t_6 : i.toInt ≤ (k_umade u).toInt := i_nlt c_4 rfl rfl
      refine lv_aload_n hx hb dX4_lotThatHinders_41 rfl (lv_at hl 1 rfl) ?_
      refine va_get (D := (dC, dI)) (C := RX4) (T := TX4) (N := 9) (v := .ref (h 2)) hx hb hts (fi_X4 _) hown hK hP 0 (cw_at0 _ _ _) rfl 1 (by decide) (hts _ (List.mem_cons_of_mem _ wd_13)) (fun _ h9 => h9) rfl dX4_lotThatHinders_42 ?_
      refine va_get (D := (dC, dI)) (C := RX3) (T := TX3) (N := 7) (v := .ref (h 17)) hx hb hts (fi_X3 _) hown hK hP 2 (cw_at2 _ _ _) rfl 1 (by decide) (hts _ (List.mem_cons_of_mem _ wd_82)) (fun _ h9 => h9) rfl dX4_lotThatHinders_45 ?_
      refine lv_iload hx hb dX4_lotThatHinders_48 (lv_at hl 0 rfl) ?_
      refine va_iald (f := k_ubin u) hx hb hK hP 17 0 (cw_at17 _ _ _) rfl (vp_in_iff.mpr (by omega)) dX4_lotThatHinders_50 ?_
      refine lv_iload_n hx hb dX4_lotThatHinders_51 rfl (lv_at hl 3 rfl) ?_
      refine lv_icmp_ne (tgt := 89) hx hb dX4_lotThatHinders_52 (by decide) (fun c_7 => ?_) (fun c_7 => ?_)
      · skip
        have t_8 : (k_ubin u i.toNatClampNeg).toInt ≠ x2.toInt := i_ne c_7 rfl rfl
        refine lv_iinc (v := i + 1) (lv' := [(5, .int (i + 1)), (0, .ref (h 0)), (1, .int x1), (2, .int x2), (3, .int (k_ulot u x1.toNatClampNeg)), (4, .int (k_mix u (k_owners u (k_ulot u x1.toNatClampNeg).toNatClampNeg).toNatClampNeg))]) hx hb dX4_lotThatHinders_89 hl (k := 0) rfl rfl (by decide) rfl (fun ls hl => ?_)
        refine lv_goto (tgt := 29) hx hb dX4_lotThatHinders_92 (by decide) ?_
        have hb1 := i_inc (x := i) (by omega)
        exact ih_2 _ ⟨(i + 1), (by omega), (by omega), (by rw [he_3, lpX4_lotThatHinders_eq, if_neg c_4, if_neg c_7]), lv_sub hl [0, 1, 2, 3, 4, 5] rfl⟩
      · skip
        have t_9 : (k_ubin u i.toNatClampNeg).toInt = x2.toInt := i_eq c_7 rfl rfl
        refine lv_aload_n hx hb dX4_lotThatHinders_55 rfl (lv_at hl 1 rfl) ?_
        refine va_get (D := (dC, dI)) (C := RX4) (T := TX4) (N := 9) (v := .ref (h 1)) hx hb hts (fi_X4 _) hown hK hP 0 (cw_at0 _ _ _) rfl 0 (by decide) (hts _ (List.mem_cons_of_mem _ wd_11)) (fun _ h9 => h9) rfl dX4_lotThatHinders_56 ?_
        refine lv_iload_n hx hb dX4_lotThatHinders_59 rfl (lv_at hl 4 rfl) ?_
        refine lv_aload_n hx hb dX4_lotThatHinders_60 rfl (lv_at hl 1 rfl) ?_
        refine va_get (D := (dC, dI)) (C := RX4) (T := TX4) (N := 9) (v := .ref (h 2)) hx hb hts (fi_X4 _) hown hK hP 0 (cw_at0 _ _ _) rfl 1 (by decide) (hts _ (List.mem_cons_of_mem _ wd_13)) (fun _ h9 => h9) rfl dX4_lotThatHinders_61 ?_
        refine va_get (D := (dC, dI)) (C := RX3) (T := TX3) (N := 7) (v := .ref (h 16)) hx hb hts (fi_X3 _) hown hK hP 2 (cw_at2 _ _ _) rfl 0 (by decide) (hts _ (List.mem_cons_of_mem _ wd_79)) (fun _ h9 => h9) rfl dX4_lotThatHinders_64 ?_
        refine lv_iload hx hb dX4_lotThatHinders_67 (lv_at hl 0 rfl) ?_
        refine va_iald (f := k_ulot u) hx hb hK hP 16 0 (cw_at16 _ _ _) rfl (vp_in_iff.mpr (by omega)) dX4_lotThatHinders_69 ?_
        refine lv_iload hx hb dX4_lotThatHinders_70 (lv_at hl 5 rfl) ?_
        refine vp_callSi (W.runV (As := [.int (k_ulot u x1.toNatClampNeg), .int (k_ulot u i.toNatClampNeg), .int (k_mix u (k_owners u (k_ulot u x1.toNatClampNeg).toNatClampNeg).toNatClampNeg)]) (rest := []) ⟨hx, hb, hml, hown, hts⟩ (kX1_lieTooFarApart l dC dI g h u (k_ulot u x1.toNatClampNeg) (k_ulot u i.toNatClampNeg) (k_mix u (k_owners u (k_ulot u x1.toNatClampNeg).toNatClampNeg).toNatClampNeg) (hI5 _) (hI5 _)) (cwV 3 hts (gV wd_83 wd_84 wd_85 wd_28 wcX1_lieTooFarApart) rfl rfl rfl (by decide +kernel) ⟨(Nat.le_of_ble_eq_true rfl), (Nat.le_of_ble_eq_true rfl)⟩) ⟨fun a U g mk q => by obtain ⟨q0, qP, qK⟩ := q; exact ⟨q0, qP, va_K.moved (u := U) (U := U.calling g mk a) (Vm.Alike.refl U.vm) qK⟩, va_recv hK hP (ci := 0) (q0 := 1) rfl (cw_at1 _ _ _), fun U hU hW => ⟨rfl, by rw [hU]; exact hP, va_K.moved hW.alike hK⟩⟩ rfl rfl hl.1 rfl (lv_room (Nat.le_of_ble_eq_true rfl)) dX4_lotThatHinders_72 ⟨(Nat.le_of_ble_eq_true rfl), (Nat.le_of_ble_eq_true rfl)⟩) (fun r_10 hw => ?_)
        subst hw
        refine lv_if_eq (tgt := 89) hx hb dX4_lotThatHinders_75 (by decide) (fun c_11 => ?_) (fun c_11 => ?_)
        · skip
          have t_12 : (fX1_lieTooFarApart u (k_ulot u x1.toNatClampNeg) (k_ulot u i.toNatClampNeg) (k_mix u (k_owners u (k_ulot u x1.toNatClampNeg).toNatClampNeg).toNatClampNeg)).toInt = 0 := i_eq c_11 rfl (by decide)
          refine lv_iinc (v := i + 1) (lv' := [(5, .int (i + 1)), (0, .ref (h 0)), (1, .int x1), (2, .int x2), (3, .int (k_ulot u x1.toNatClampNeg)), (4, .int (k_mix u (k_owners u (k_ulot u x1.toNatClampNeg).toNatClampNeg).toNatClampNeg))]) hx hb dX4_lotThatHinders_89 hl (k := 0) rfl rfl (by decide) rfl (fun ls hl => ?_)
          refine lv_goto (tgt := 29) hx hb dX4_lotThatHinders_92 (by decide) ?_
          have hb1 := i_inc (x := i) (by omega)
          exact ih_2 _ ⟨(i + 1), (by omega), (by omega), (by rw [he_3, lpX4_lotThatHinders_eq, if_neg c_4, if_pos c_7, if_pos c_11]), lv_sub hl [0, 1, 2, 3, 4, 5] rfl⟩
        · skip
          have t_13 : (fX1_lieTooFarApart u (k_ulot u x1.toNatClampNeg) (k_ulot u i.toNatClampNeg) (k_mix u (k_owners u (k_ulot u x1.toNatClampNeg).toNatClampNeg).toNatClampNeg)).toInt ≠ 0 := i_ne c_11 rfl (by decide)
          refine lv_aload_n hx hb dX4_lotThatHinders_78 rfl (lv_at hl 1 rfl) ?_
          refine va_get (D := (dC, dI)) (C := RX4) (T := TX4) (N := 9) (v := .ref (h 2)) hx hb hts (fi_X4 _) hown hK hP 0 (cw_at0 _ _ _) rfl 1 (by decide) (hts _ (List.mem_cons_of_mem _ wd_13)) (fun _ h9 => h9) rfl dX4_lotThatHinders_79 ?_
          refine va_get (D := (dC, dI)) (C := RX3) (T := TX3) (N := 7) (v := .ref (h 16)) hx hb hts (fi_X3 _) hown hK hP 2 (cw_at2 _ _ _) rfl 0 (by decide) (hts _ (List.mem_cons_of_mem _ wd_79)) (fun _ h9 => h9) rfl dX4_lotThatHinders_82 ?_
          refine lv_iload hx hb dX4_lotThatHinders_85 (lv_at hl 0 rfl) ?_
          refine va_iald (f := k_ulot u) hx hb hK hP 16 0 (cw_at16 _ _ _) rfl (vp_in_iff.mpr (by omega)) dX4_lotThatHinders_87 ?_
          exact W.iret (v := k_ulot u i.toNatClampNeg) hx hb hr (fun t ht hW => ⟨(k_ulot u i.toNatClampNeg), rfl, (by rw [he_3, lpX4_lotThatHinders_eq, if_neg c_4, if_pos c_7, if_neg c_11]), ht⟩) (fun _ h => nomatch h) dX4_lotThatHinders_88
set_option maxHeartbeats 4000000 in
set_option maxRecDepth 100000 in
theorem kX4_count (l : Launch) (dC : Nat → ClassId) (dI : Nat → Nat → Nat) (g : cG) (h : Nat → Nat) (u : cS) (x1 : Int32) : Met l yX4_count wsX4_count ({ frames := 0, cells := 0, slots := 0, locals := 0 }) (va_Pc [.ref (h 0), .int x1] (fun U => va_P (dC, dI) vwCl (cw g h u) U.heap ∧ va_K (dC, dI) vwCl (cTys g) U)) (vp_Si (fun r => r = fX4_count u x1)) 0 0 (fun _ => False) := by
  refine Met.ofW (cc := cX4_count) (maxL := 2) (ret := (some .int)) (by decide) rfl ?_
  intro p e s m args below meth c s₁ B hml hv
  obtain ⟨rfl, hP, hK⟩ := hv
  have hx := B.exec
  have hb := B.bytes
  have hr := B.returns
  have hts := atoms_spec (ws := wsX4_count) B.pre
  have hown : s.vm.findClass RX4 = some m.cls := findClass_of_methodNamed B.named
  have hlocks := B.notSynchronized
  have hS : va_S (fun _ => False) s.heap s.heap [] := va_S.rf
  have hl := lv_entry ([.ref (h 0), .int x1]) (n := 2) (Nat.le_of_ble_eq_true rfl)
  rw [lg_entry_eq]
  generalize (lg_sl ([.ref (h 0), .int x1]) ++ List.replicate (2 - (lg_sl ([.ref (h 0), .int x1])).length) Slot.unset).toArray = ls at hl ⊢
  have hl : lv_has ls 2 [(0, .ref (h 0)), (1, .int x1)] := hl
  refine lv_iload_n hx hb dX4_count_0 rfl (lv_at hl 1 rfl) ?_
  by_cases c_1 : x1 = 0
  · skip
    refine lv_tableIn (tgt := 32) hx hb dX4_count_1 (by rw [c_1]; decide) (by rw [c_1]; decide) (by rw [c_1]; rfl) (by decide) ?_
    refine lv_aload_n hx hb dX4_count_32 rfl (lv_at hl 0 rfl) ?_
    refine va_get (D := (dC, dI)) (C := RX4) (T := TX4) (N := 9) (v := .ref (h 1)) hx hb hts (fi_X4 _) hown hK hP 0 (cw_at0 _ _ _) rfl 0 (by decide) (hts _ (List.mem_cons_of_mem _ wd_11)) (fun _ h9 => h9) rfl dX4_count_33 ?_
    refine va_get (D := (dC, dI)) (C := RX1) (T := TX1) (N := 9) (v := .int (k_lmade u)) hx hb hts (fi_X1 _) hown hK hP 1 (cw_at1 _ _ _) rfl 8 (by decide) (hts _ (List.mem_cons_of_mem _ wd_12)) (fun _ h9 => h9) rfl dX4_count_36 ?_
    exact W.iret (v := k_lmade u) hx hb hr (fun t ht hW => ⟨(k_lmade u), rfl, (by unfold fX4_count; rw [if_pos c_1]), ht⟩) (fun _ h => nomatch h) dX4_count_39
  by_cases c_2 : x1 = 1
  · skip
    refine lv_tableIn (tgt := 40) hx hb dX4_count_1 (by rw [c_2]; decide) (by rw [c_2]; decide) (by rw [c_2]; rfl) (by decide) ?_
    refine lv_aload_n hx hb dX4_count_40 rfl (lv_at hl 0 rfl) ?_
    refine va_get (D := (dC, dI)) (C := RX4) (T := TX4) (N := 9) (v := .ref (h 2)) hx hb hts (fi_X4 _) hown hK hP 0 (cw_at0 _ _ _) rfl 1 (by decide) (hts _ (List.mem_cons_of_mem _ wd_13)) (fun _ h9 => h9) rfl dX4_count_41 ?_
    refine va_get (D := (dC, dI)) (C := RX3) (T := TX3) (N := 7) (v := .int (k_umade u)) hx hb hts (fi_X3 _) hown hK hP 2 (cw_at2 _ _ _) rfl 5 (by decide) (hts _ (List.mem_cons_of_mem _ wd_14)) (fun _ h9 => h9) rfl dX4_count_44 ?_
    exact W.iret (v := k_umade u) hx hb hr (fun t ht hW => ⟨(k_umade u), rfl, (by unfold fX4_count; rw [if_neg c_1, if_pos c_2]), ht⟩) (fun _ h => nomatch h) dX4_count_47
  by_cases c_3 : x1 = 2
  · skip
    refine lv_tableIn (tgt := 48) hx hb dX4_count_1 (by rw [c_3]; decide) (by rw [c_3]; decide) (by rw [c_3]; rfl) (by decide) ?_
    refine lv_aload_n hx hb dX4_count_48 rfl (lv_at hl 0 rfl) ?_
    refine va_get (D := (dC, dI)) (C := RX4) (T := TX4) (N := 9) (v := .ref (h 3)) hx hb hts (fi_X4 _) hown hK hP 0 (cw_at0 _ _ _) rfl 2 (by decide) (hts _ (List.mem_cons_of_mem _ wd_87)) (fun _ h9 => h9) rfl dX4_count_49 ?_
    refine va_get (D := (dC, dI)) (C := RX2) (T := TX2) (N := 4) (v := .int (k_rwrit u)) hx hb hts (fi_X2 _) hown hK hP 3 (cw_at3 _ _ _) rfl 3 (by decide) (hts _ (List.mem_cons_of_mem _ wd_88)) (fun _ h9 => h9) rfl dX4_count_52 ?_
    exact W.iret (v := k_rwrit u) hx hb hr (fun t ht hW => ⟨(k_rwrit u), rfl, (by unfold fX4_count; rw [if_neg c_1, if_neg c_2, if_pos c_3]), ht⟩) (fun _ h => nomatch h) dX4_count_55
  by_cases c_4 : x1 = 3
  · skip
    refine lv_tableIn (tgt := 56) hx hb dX4_count_1 (by rw [c_4]; decide) (by rw [c_4]; decide) (by rw [c_4]; rfl) (by decide) ?_
    refine lv_aload_n hx hb dX4_count_56 rfl (lv_at hl 0 rfl) ?_
    refine va_get (D := (dC, dI)) (C := RX4) (T := TX4) (N := 9) (v := .ref (h 2)) hx hb hts (fi_X4 _) hown hK hP 0 (cw_at0 _ _ _) rfl 1 (by decide) (hts _ (List.mem_cons_of_mem _ wd_13)) (fun _ h9 => h9) rfl dX4_count_57 ?_
    refine va_get (D := (dC, dI)) (C := RX3) (T := TX3) (N := 7) (v := .int (k_ugone u)) hx hb hts (fi_X3 _) hown hK hP 2 (cw_at2 _ _ _) rfl 6 (by decide) (hts _ (List.mem_cons_of_mem _ wd_89)) (fun _ h9 => h9) rfl dX4_count_60 ?_
    exact W.iret (v := k_ugone u) hx hb hr (fun t ht hW => ⟨(k_ugone u), rfl, (by unfold fX4_count; rw [if_neg c_1, if_neg c_2, if_neg c_3, if_pos c_4]), ht⟩) (fun _ h => nomatch h) dX4_count_63
  refine lv_tableOut (tgt := 64) hx hb dX4_count_1 (i_out x1 (by decide) (by intro k h1 h2; intro hk; rcases (show k = 0 ∨ k = 1 ∨ k = 2 ∨ k = 3 by omega) with rfl | rfl | rfl | rfl <;> first | exact c_1 (i_of hk (by decide)) | exact c_2 (i_of hk (by decide)) | exact c_3 (i_of hk (by decide)) | exact c_4 (i_of hk (by decide)))) (by decide) ?_
  refine lv_iconst (v := (-1)) hx hb dX4_count_64 (by decide) ?_
  exact W.iret (v := (-1)) hx hb hr (fun t ht hW => ⟨(-1), rfl, (by unfold fX4_count; rw [if_neg c_1, if_neg c_2, if_neg c_3, if_neg c_4]), ht⟩) (fun _ h => nomatch h) dX4_count_65