set_option maxHeartbeats 4000000 in
set_option maxRecDepth 100000 in
theorem kX5_put (l : Launch) (dC : Nat → ClassId) (dI : Nat → Nat → Nat) (g : cG) (h : Nat → Nat) (u : mS) (sz : Nat) (x1 : Int32) (x2 : Int32) (hI : mInv u) : Met l yX5_put wsX5_put ({ frames := 2, cells := 0, slots := 0, locals := 43 }) (va_Pc [.ref (h 0), .int x1, .int x2] (fun U => U.heap.size = sz ∧ va_P (dC, dI) vwCl (mw g h u) U.heap ∧ va_K (dC, dI) vwCl (cTys g) U ∧ va_D (fun _ => True) (mw g h u))) (va_Qv (fun u2 => u2 = fX5_put u x1 x2) (fun (u2 : mS) (t : State) => va_P (dC, dI) vwCl (mw g h u2) t.heap ∧ va_D (va_A (mw g h u) sz) (mw g h u2)) (va_A (mw g h u) sz)) 0 0 (va_A (mw g h u) sz) := by
  refine Met.ofW (cc := cX5_put) (maxL := 4) (ret := none) (by decide) rfl ?_
  intro p e s m args below meth c s₁ B hml hv
  obtain ⟨rfl, hsz, hP, hK, hD0⟩ := hv
  have hx := B.exec
  have hb := B.bytes
  have hr := B.returns
  have hts := atoms_spec (ws := wsX5_put) B.pre
  have hown : s.vm.findClass RX5 = some m.cls := findClass_of_methodNamed B.named
  have hlocks := B.notSynchronized
  subst hsz
  have hD := hD0.self (sz := s.heap.size)
  generalize hAe : va_A (mw g h u) s.heap.size = A at hD ⊢
  have hA : ∀ q : Nat, s.heap.size ≤ q → A q := fun q h => by rw [← hAe]; exact Or.inr h
  have hS : va_S A s.heap s.heap [] := va_S.rf
  have hl := lv_entry ([.ref (h 0), .int x1, .int x2]) (n := 4) (Nat.le_of_ble_eq_true rfl)
  rw [lg_entry_eq]
  generalize (lg_sl ([.ref (h 0), .int x1, .int x2]) ++ List.replicate (4 - (lg_sl ([.ref (h 0), .int x1, .int x2])).length) Slot.unset).toArray = ls at hl ⊢
  have hl : lv_has ls 4 [(0, .ref (h 0)), (1, .int x1), (2, .int x2)] := hl
  obtain ⟨hI1, hI2, hI3, hI4, hI5, hI6, hI7⟩ := id hI
  have z_0 : (0 : Int32).toInt = 0 := by decide
  have z_1 : (19 : Int32).toInt = 19 := by decide
  have z_2 : (1 : Int32).toInt = 1 := by decide
  refine lp_multi (fun H locs => W p l e _ s m _ below meth c H locs _ _ _) (fun n H locs ls => ∃ (i : Int32) (v : mS), ((k_munits v).toInt - i.toInt + 1 < (n : Int)) ∧ (1 ≤ i.toInt ∧ i.toInt ≤ 121 ∧ i.toInt ≤ (k_munits v).toInt + 1) ∧ (k_mcode v = 0 → 1 ≤ x1.toInt ∧ x1.toInt ≤ 120) ∧ (mInv v) ∧ fX5_put u x1 x2 = lpX5_put x1 x2 n i v ∧ va_P (dC, dI) vwCl (mw g h v) H ∧ va_D A (mw g h v) ∧ va_S A s.heap H locs ∧ lv_has ls 4 [(3, .int i), (0, .ref (h 0)), (1, .int x1), (2, .int x2)]) m 67 121 (fun H locs ls hI0 => ?_) (fun n H locs ls hI0 ih => ?_) (fun LP => ?_)
  · skip
    obtain ⟨i, v, hn, hi, hxp, hv, he, hP, hD, hS, hl⟩ := hI0
    exact absurd hn (by omega)
  · skip
    obtain ⟨i, v, hn, hi, hxp, hv, he, hP, hD, hS, hl⟩ := hI0
    have he_3 := he
    have ih_2 := ih
    obtain ⟨hI1v, hI2v, hI3v, hI4v, hI5v, hI6v, hI7v⟩ := id hv
    refine lv_iload_n hx hb dX5_put_67 rfl (lv_at hl 0 rfl) ?_
    refine lv_aload_n hx hb dX5_put_68 rfl (lv_at hl 1 rfl) ?_
    refine va_get (D := (dC, dI)) (C := RX5) (T := TX5) (N := 26) (v := .int (k_munits v)) hx hb hts (fi_X5 _) hown hK hP 0 (mw_at0 _ _ _) rfl 14 (by decide) (hts _ (List.mem_cons_of_mem _ wd_243)) (fun _ h9 => h9) rfl dX5_put_69 ?_
    refine lv_icmp_gt (tgt := 149) hx hb dX5_put_72 (by decide) (fun c_4 => ?_) (fun c_4 => ?_)
    · skip
      have t_5 : (k_munits v).toInt < i.toInt := i_lt c_4 rfl rfl
      refine lv_aload_n hx hb dX5_put_149 rfl (lv_at hl 1 rfl) ?_
      refine va_get (D := (dC, dI)) (C := RX5) (T := TX5) (N := 26) (v := .int (k_mcode v)) hx hb hts (fi_X5 _) hown hK hP 0 (mw_at0 _ _ _) rfl 0 (by decide) (hts _ (List.mem_cons_of_mem _ wd_237)) (fun _ h9 => h9) rfl dX5_put_150 ?_
      refine lv_if_ne (tgt := 163) hx hb dX5_put_153 (by decide) (fun c_6 => ?_) (fun c_6 => ?_)
      · skip
        have t_7 : (k_mcode v).toInt ≠ 0 := i_ne c_6 rfl (by decide)
        exact W.vret hx hb hr (fun t ht hW => ⟨⟨v, rfl, (by rw [he_3, lpX5_put_eq, if_pos c_4, if_neg c_6]), by rw [ht]; exact hP, hD⟩, hS.F ht⟩) hS.2.2 dX5_put_163
      · skip
        have t_8 : (k_mcode v).toInt = 0 := i_eq c_6 rfl (by decide)
        have t_9 := hxp c_6
        refine lv_aload_n hx hb dX5_put_156 rfl (lv_at hl 1 rfl) ?_
        refine va_get (D := (dC, dI)) (C := RX5) (T := TX5) (N := 26) (v := .ref (h 14)) hx hb hts (fi_X5 _) hown hK hP 0 (mw_at0 _ _ _) rfl 16 (by decide) (hts _ (List.mem_cons_of_mem _ wd_300)) (fun _ h9 => h9) rfl dX5_put_157 ?_
        refine lv_iload_n hx hb dX5_put_160 rfl (lv_at hl 2 rfl) ?_
        refine lv_iload_n hx hb dX5_put_161 rfl (lv_at hl 3 rfl) ?_
        refine va_iast (f := k_mbin v) hx hb hK hP hD hS 14 0 (mw_at14 _ _ _) rfl (vp_in_iff.mpr (by omega)) dX5_put_162 (fun H locs hP hD hS => ?_)
        have hP : va_P (dC, dI) vwCl (mw g h (s_mbin v (upd (k_mbin v) x1.toNatClampNeg x2))) H := hP
        have hD : va_D A (mw g h (s_mbin v (upd (k_mbin v) x1.toNatClampNeg x2))) := hD
        exact W.vret hx hb hr (fun t ht hW => ⟨⟨(s_mbin v (upd (k_mbin v) x1.toNatClampNeg x2)), rfl, (by rw [he_3, lpX5_put_eq, if_pos c_4, if_pos c_6]), by rw [ht]; exact hP, hD⟩, hS.F ht⟩) hS.2.2 dX5_put_163
    · skip
      have t_10 : i.toInt ≤ (k_munits v).toInt := i_nlt c_4 rfl rfl
      refine lv_aload_n hx hb dX5_put_75 rfl (lv_at hl 1 rfl) ?_
      refine va_get (D := (dC, dI)) (C := RX5) (T := TX5) (N := 26) (v := .int (k_mcode v)) hx hb hts (fi_X5 _) hown hK hP 0 (mw_at0 _ _ _) rfl 0 (by decide) (hts _ (List.mem_cons_of_mem _ wd_237)) (fun _ h9 => h9) rfl dX5_put_76 ?_
      refine lv_if_ne (tgt := 149) hx hb dX5_put_79 (by decide) (fun c_11 => ?_) (fun c_11 => ?_)
      · skip
        have t_12 : (k_mcode v).toInt ≠ 0 := i_ne c_11 rfl (by decide)
        refine lv_aload_n hx hb dX5_put_149 rfl (lv_at hl 1 rfl) ?_
        refine va_get (D := (dC, dI)) (C := RX5) (T := TX5) (N := 26) (v := .int (k_mcode v)) hx hb hts (fi_X5 _) hown hK hP 0 (mw_at0 _ _ _) rfl 0 (by decide) (hts _ (List.mem_cons_of_mem _ wd_237)) (fun _ h9 => h9) rfl dX5_put_150 ?_
        refine lv_if_ne (tgt := 163) hx hb dX5_put_153 (by decide) (fun c_13 => ?_) (fun c_13 => ?_)
        · skip
          exact W.vret hx hb hr (fun t ht hW => ⟨⟨v, rfl, (by rw [he_3, lpX5_put_eq, if_neg c_4, if_neg c_11]), by rw [ht]; exact hP, hD⟩, hS.F ht⟩) hS.2.2 dX5_put_163
        · skip
          exact absurd c_13 c_11
      · skip
        have t_14 : (k_mcode v).toInt = 0 := i_eq c_11 rfl (by decide)
        have t_15 := hxp c_11
        refine lv_aload_n hx hb dX5_put_82 rfl (lv_at hl 1 rfl) ?_
        refine va_get (D := (dC, dI)) (C := RX5) (T := TX5) (N := 26) (v := .ref (h 14)) hx hb hts (fi_X5 _) hown hK hP 0 (mw_at0 _ _ _) rfl 16 (by decide) (hts _ (List.mem_cons_of_mem _ wd_300)) (fun _ h9 => h9) rfl dX5_put_83 ?_
        refine lv_iload_n hx hb dX5_put_86 rfl (lv_at hl 0 rfl) ?_
        refine va_iald (f := k_mbin v) hx hb hK hP 14 0 (mw_at14 _ _ _) rfl (vp_in_iff.mpr (by omega)) dX5_put_87 ?_
        refine lv_iload_n hx hb dX5_put_88 rfl (lv_at hl 3 rfl) ?_
        refine lv_icmp_ne (tgt := 143) hx hb dX5_put_89 (by decide) (fun c_16 => ?_) (fun c_16 => ?_)
        · skip
          have t_17 : (k_mbin v i.toNatClampNeg).toInt ≠ x2.toInt := i_ne c_16 rfl rfl
          refine lv_iinc (v := i + 1) (lv' := [(3, .int (i + 1)), (0, .ref (h 0)), (1, .int x1), (2, .int x2)]) hx hb dX5_put_143 hl (k := 0) rfl rfl (by decide) rfl (fun ls hl => ?_)
          refine lv_goto (tgt := 67) hx hb dX5_put_146 (by decide) ?_
          have hb1 := i_inc (x := i) (by omega)
          exact ih_2 _ _ _ ⟨(i + 1), v, (by have e9 : k_munits v = k_munits v := rfl; rw [e9]; omega), (by have e9 : k_munits v = k_munits v := rfl; rw [e9]; omega), hxp, hv, (by rw [he_3, lpX5_put_eq, if_neg c_4, if_pos c_11, if_neg c_16]), hP, hD, hS, lv_sub hl [0, 1, 2, 3] rfl⟩
        · skip
          have t_18 : (k_mbin v i.toNatClampNeg).toInt = x2.toInt := i_eq c_16 rfl rfl
          refine lv_aload_n hx hb dX5_put_92 rfl (lv_at hl 1 rfl) ?_
          refine lv_aload_n hx hb dX5_put_93 rfl (lv_at hl 1 rfl) ?_
          refine va_get (D := (dC, dI)) (C := RX5) (T := TX5) (N := 26) (v := .ref (h 13)) hx hb hts (fi_X5 _) hown hK hP 0 (mw_at0 _ _ _) rfl 15 (by decide) (hts _ (List.mem_cons_of_mem _ wd_299)) (fun _ h9 => h9) rfl dX5_put_94 ?_
          refine lv_iload_n hx hb dX5_put_97 rfl (lv_at hl 2 rfl) ?_
          refine va_iald (f := k_mlotOf v) hx hb hK hP 13 0 (mw_at13 _ _ _) rfl (vp_in_iff.mpr (by omega)) dX5_put_98 ?_
          refine lv_aload_n hx hb dX5_put_99 rfl (lv_at hl 1 rfl) ?_
          refine va_get (D := (dC, dI)) (C := RX5) (T := TX5) (N := 26) (v := .ref (h 13)) hx hb hts (fi_X5 _) hown hK hP 0 (mw_at0 _ _ _) rfl 15 (by decide) (hts _ (List.mem_cons_of_mem _ wd_299)) (fun _ h9 => h9) rfl dX5_put_100 ?_
          refine lv_iload_n hx hb dX5_put_103 rfl (lv_at hl 0 rfl) ?_
          refine va_iald (f := k_mlotOf v) hx hb hK hP 13 0 (mw_at13 _ _ _) rfl (vp_in_iff.mpr (by omega)) dX5_put_104 ?_
          refine vp_callSi (W.runV (As := [.int (k_mlotOf v x1.toNatClampNeg), .int (k_mlotOf v i.toNatClampNeg)]) (rest := []) ⟨hx, hb, hml, hown, hts⟩ (kX5_mayMix l dC dI g h v (k_mlotOf v x1.toNatClampNeg) (k_mlotOf v i.toNatClampNeg) (hI5v _) (hI5v _) hv) (cwV 2 hts (gV wd_316 wd_317 wd_318 wd_241 wcX5_mayMix) rfl rfl rfl (by decide +kernel) ⟨(Nat.le_of_ble_eq_true rfl), (Nat.le_of_ble_eq_true rfl)⟩) ⟨fun a U g mk q => by obtain ⟨q0, qP, qK⟩ := q; exact ⟨q0, qP, va_K.moved (u := U) (U := U.calling g mk a) (Vm.Alike.refl U.vm) qK⟩, va_recv hK hP (ci := 4) (q0 := 0) rfl (mw_at0 _ _ _), fun U hU hW => ⟨rfl, by rw [hU]; exact hP, va_K.moved hW.alike hK⟩⟩ rfl rfl hl.1 rfl (lv_room (Nat.le_of_ble_eq_true rfl)) dX5_put_105 ⟨(Nat.le_of_ble_eq_true rfl), (Nat.le_of_ble_eq_true rfl)⟩) (fun r_19 hw => ?_)
          subst hw
          refine lv_if_eq (tgt := 114) hx hb dX5_put_108 (by decide) (fun c_20 => ?_) (fun c_20 => ?_)
          · skip
            have t_21 : (fX5_mayMix v (k_mlotOf v x1.toNatClampNeg) (k_mlotOf v i.toNatClampNeg)).toInt = 0 := i_eq c_20 rfl (by decide)
            refine lv_aload_n hx hb dX5_put_114 rfl (lv_at hl 1 rfl) ?_
            refine va_get (D := (dC, dI)) (C := RX5) (T := TX5) (N := 26) (v := .ref (h 21)) hx hb hts (fi_X5 _) hown hK hP 0 (mw_at0 _ _ _) rfl 24 (by decide) (hts _ (List.mem_cons_of_mem _ wd_303)) (fun _ h9 => h9) rfl dX5_put_115 ?_
            refine lv_iconst (v := 0) hx hb dX5_put_118 (by decide) ?_
            refine lv_aload_n hx hb dX5_put_119 rfl (lv_at hl 1 rfl) ?_
            refine va_get (D := (dC, dI)) (C := RX5) (T := TX5) (N := 26) (v := .ref (h 13)) hx hb hts (fi_X5 _) hown hK hP 0 (mw_at0 _ _ _) rfl 15 (by decide) (hts _ (List.mem_cons_of_mem _ wd_299)) (fun _ h9 => h9) rfl dX5_put_120 ?_
            refine lv_iload_n hx hb dX5_put_123 rfl (lv_at hl 2 rfl) ?_
            refine va_iald (f := k_mlotOf v) hx hb hK hP 13 0 (mw_at13 _ _ _) rfl (vp_in_iff.mpr (by omega)) dX5_put_124 ?_
            refine va_iast (f := k_mmixed v) hx hb hK hP hD hS 21 0 (mw_at21 _ _ _) rfl (vp_in_iff.mpr (by decide)) dX5_put_125 (fun H locs hP hD hS => ?_)
            have hP : va_P (dC, dI) vwCl (mw g h (s_mmixed v (upd (k_mmixed v) (0 : Int32).toNatClampNeg (k_mlotOf v x1.toNatClampNeg)))) H := hP
            have hD : va_D A (mw g h (s_mmixed v (upd (k_mmixed v) (0 : Int32).toNatClampNeg (k_mlotOf v x1.toNatClampNeg)))) := hD
            obtain ⟨u_22, e_23⟩ : ∃ z, z = s_mmixed v (upd (k_mmixed v) (0 : Int32).toNatClampNeg (k_mlotOf v x1.toNatClampNeg)) := ⟨_, rfl⟩
            rw [← e_23] at hP hD
            refine lv_aload_n hx hb dX5_put_126 rfl (lv_at hl 1 rfl) ?_
            refine va_get (D := (dC, dI)) (C := RX5) (T := TX5) (N := 26) (v := .ref (h 21)) hx hb hts (fi_X5 _) hown hK hP 0 (mw_at0 _ _ _) rfl 24 (by decide) (hts _ (List.mem_cons_of_mem _ wd_303)) (fun _ h9 => h9) rfl dX5_put_127 ?_
            refine lv_iconst (v := 1) hx hb dX5_put_130 (by decide) ?_
            refine lv_aload_n hx hb dX5_put_131 rfl (lv_at hl 1 rfl) ?_
            refine va_get (D := (dC, dI)) (C := RX5) (T := TX5) (N := 26) (v := .ref (h 13)) hx hb hts (fi_X5 _) hown hK hP 0 (mw_at0 _ _ _) rfl 15 (by decide) (hts _ (List.mem_cons_of_mem _ wd_299)) (fun _ h9 => h9) rfl dX5_put_132 ?_
            refine lv_iload_n hx hb dX5_put_135 rfl (lv_at hl 0 rfl) ?_
            refine va_iald (f := k_mlotOf u_22) hx hb hK hP 13 0 (mw_at13 _ _ _) rfl (vp_in_iff.mpr (by omega)) dX5_put_136 ?_
            refine va_iast (f := k_mmixed u_22) hx hb hK hP hD hS 21 0 (mw_at21 _ _ _) rfl (vp_in_iff.mpr (by decide)) dX5_put_137 (fun H locs hP hD hS => ?_)
            have hP : va_P (dC, dI) vwCl (mw g h (s_mmixed u_22 (upd (k_mmixed u_22) (1 : Int32).toNatClampNeg (k_mlotOf u_22 i.toNatClampNeg)))) H := hP
            have hD : va_D A (mw g h (s_mmixed u_22 (upd (k_mmixed u_22) (1 : Int32).toNatClampNeg (k_mlotOf u_22 i.toNatClampNeg)))) := hD
            obtain ⟨u_24, e_25⟩ : ∃ z, z = s_mmixed u_22 (upd (k_mmixed u_22) (1 : Int32).toNatClampNeg (k_mlotOf u_22 i.toNatClampNeg)) := ⟨_, rfl⟩
            rw [← e_25] at hP hD
            refine lv_aload_n hx hb dX5_put_138 rfl (lv_at hl 1 rfl) ?_
            refine lv_iconst (v := 3) hx hb dX5_put_139 (by decide) ?_
            refine va_put (D := (dC, dI)) (C := RX5) (T := TX5) (N := 26) (v := .int 3) (ty := .int) hx hb hts (fi_X5 _) tyX5 tyX5_ok nmX5 hown hK hP hD hS 0 (mw_at0 _ _ _) rfl 0 (by decide) (hts _ (List.mem_cons_of_mem _ wd_237)) (fun _ h9 => h9) rfl (by decide +kernel) rfl rfl (Nat.le_of_ble_eq_true rfl) dX5_put_140 (fun H locs hP hD hS => ?_)
            have hP : va_P (dC, dI) vwCl (mw g h (s_mcode u_24 3)) H := hP
            have hD : va_D A (mw g h (s_mcode u_24 3)) := hD
            refine lv_iinc (v := i + 1) (lv' := [(3, .int (i + 1)), (0, .ref (h 0)), (1, .int x1), (2, .int x2)]) hx hb dX5_put_143 hl (k := 0) rfl rfl (by decide) rfl (fun ls hl => ?_)
            refine lv_goto (tgt := 67) hx hb dX5_put_146 (by decide) ?_
            have hb1 := i_inc (x := i) (by omega)
            exact ih_2 _ _ _ ⟨(i + 1), (s_mcode u_24 3), (by subst e_25; subst e_23; have e9 : k_munits (s_mcode (s_mmixed (s_mmixed v (upd (k_mmixed v) (0 : Int32).toNatClampNeg (k_mlotOf v x1.toNatClampNeg))) (upd (k_mmixed (s_mmixed v (upd (k_mmixed v) (0 : Int32).toNatClampNeg (k_mlotOf v x1.toNatClampNeg)))) (1 : Int32).toNatClampNeg (k_mlotOf (s_mmixed v (upd (k_mmixed v) (0 : Int32).toNatClampNeg (k_mlotOf v x1.toNatClampNeg))) i.toNatClampNeg))) 3) = k_munits v := rfl; rw [e9]; omega), (by subst e_25; subst e_23; have e9 : k_munits (s_mcode (s_mmixed (s_mmixed v (upd (k_mmixed v) (0 : Int32).toNatClampNeg (k_mlotOf v x1.toNatClampNeg))) (upd (k_mmixed (s_mmixed v (upd (k_mmixed v) (0 : Int32).toNatClampNeg (k_mlotOf v x1.toNatClampNeg)))) (1 : Int32).toNatClampNeg (k_mlotOf (s_mmixed v (upd (k_mmixed v) (0 : Int32).toNatClampNeg (k_mlotOf v x1.toNatClampNeg))) i.toNatClampNeg))) 3) = k_munits v := rfl; rw [e9]; omega), (fun h9 => absurd (show (3 : Int32) = 0 from h9) (by decide)), (by subst e_25; subst e_23; exact mi_put hv), (by subst e_25; subst e_23; rw [he_3, lpX5_put_eq, if_neg c_4, if_pos c_11, if_pos c_16, if_pos c_20]), hP, hD, hS, lv_sub hl [0, 1, 2, 3] rfl⟩
          · skip
            have t_26 : (fX5_mayMix v (k_mlotOf v x1.toNatClampNeg) (k_mlotOf v i.toNatClampNeg)).toInt ≠ 0 := i_ne c_20 rfl (by decide)
            refine lv_goto (tgt := 143) hx hb dX5_put_111 (by decide) ?_
            refine lv_iinc (v := i + 1) (lv' := [(3, .int (i + 1)), (0, .ref (h 0)), (1, .int x1), (2, .int x2)]) hx hb dX5_put_143 hl (k := 0) rfl rfl (by decide) rfl (fun ls hl => ?_)
            refine lv_goto (tgt := 67) hx hb dX5_put_146 (by decide) ?_
            have hb1 := i_inc (x := i) (by omega)
            exact ih_2 _ _ _ ⟨(i + 1), v, (by have e9 : k_munits v = k_munits v := rfl; rw [e9]; omega), (by have e9 : k_munits v = k_munits v := rfl; rw [e9]; omega), hxp, hv, (by rw [he_3, lpX5_put_eq, if_neg c_4, if_pos c_11, if_pos c_16, if_neg c_20]), hP, hD, hS, lv_sub hl [0, 1, 2, 3] rfl⟩
  · skip
    refine lv_aload_n hx hb dX5_put_0 rfl (lv_at hl 0 rfl) ?_
    refine lv_aload_n hx hb dX5_put_1 rfl (lv_at hl 0 rfl) ?_
    refine lv_iload_n hx hb dX5_put_2 rfl (lv_at hl 1 rfl) ?_
    refine vp_callSi (W.runV (As := [.int x1]) (rest := [.ref (h 0)]) ⟨hx, hb, hml, hown, hts⟩ (kX5_isUnit l dC dI g h u x1) (cwV 1 hts (gV wd_304 wd_305 wd_306 wd_241 wcX5_isUnit) rfl rfl rfl (by decide +kernel) ⟨(Nat.le_of_ble_eq_true rfl), (Nat.le_of_ble_eq_true rfl)⟩) ⟨fun a U g mk q => by obtain ⟨q0, qP, qK⟩ := q; exact ⟨q0, qP, va_K.moved (u := U) (U := U.calling g mk a) (Vm.Alike.refl U.vm) qK⟩, va_recv hK hP (ci := 4) (q0 := 0) rfl (mw_at0 _ _ _), fun U hU hW => ⟨rfl, by rw [hU]; exact hP, va_K.moved hW.alike hK⟩⟩ rfl rfl hl.1 rfl (lv_room (Nat.le_of_ble_eq_true rfl)) dX5_put_3 ⟨(Nat.le_of_ble_eq_true rfl), (Nat.le_of_ble_eq_true rfl)⟩) (fun r_27 hw => ?_)
    subst hw
    refine lv_if_ne (tgt := 13) hx hb dX5_put_6 (by decide) (fun c_28 => ?_) (fun c_28 => ?_)
    · skip
      have t_29 : (fX5_isUnit u x1).toInt ≠ 0 := i_ne c_28 rfl (by decide)
      have t_30 := iu_lo c_28
      have t_31 := iu_hi c_28
      refine lv_iload_n hx hb dX5_put_13 rfl (lv_at hl 2 rfl) ?_
      refine lv_iconst (v := 0) hx hb dX5_put_14 (by decide) ?_
      refine lv_bipush (v := 19) hx hb dX5_put_15 (by decide) ?_
      refine vp_callSi (W.runS (As := [.int x2, .int 0, .int 19]) (rest := [.ref (h 0)]) ⟨hx, hb, hml, hown, hts⟩ (kX5_in l dC dI x2 0 19) (cwS 3 hts (gS wd_239 wd_240 wd_241 wcX5_in) rfl rfl rfl (by decide +kernel) ⟨(Nat.le_of_ble_eq_true rfl), (Nat.le_of_ble_eq_true rfl)⟩) ⟨fun a U g mk q => by obtain ⟨q0, qT⟩ := q; exact ⟨q0, qT⟩, fun U hU hW => ⟨rfl, trivial⟩⟩ rfl rfl hl.1 rfl (lv_room (Nat.le_of_ble_eq_true rfl)) dX5_put_17 ⟨(Nat.le_of_ble_eq_true rfl), (Nat.le_of_ble_eq_true rfl)⟩) (fun r_32 hw => ?_)
      subst hw
      refine lv_if_ne (tgt := 27) hx hb dX5_put_20 (by decide) (fun c_33 => ?_) (fun c_33 => ?_)
      · skip
        have t_34 : (fX5_in x2 0 19).toInt ≠ 0 := i_ne c_33 rfl (by decide)
        have t_35 := in_lo c_33
        have t_36 := in_hi c_33
        refine lv_iconst (v := 0) hx hb dX5_put_27 (by decide) ?_
        refine va_put (D := (dC, dI)) (C := RX5) (T := TX5) (N := 26) (v := .int 0) (ty := .int) hx hb hts (fi_X5 _) tyX5 tyX5_ok nmX5 hown hK hP hD hS 0 (mw_at0 _ _ _) rfl 0 (by decide) (hts _ (List.mem_cons_of_mem _ wd_237)) (fun _ h9 => h9) rfl (by decide +kernel) rfl rfl (Nat.le_of_ble_eq_true rfl) dX5_put_28 (fun H locs hP hD hS => ?_)
        have hP : va_P (dC, dI) vwCl (mw g h (s_mcode u 0)) H := hP
        have hD : va_D A (mw g h (s_mcode u 0)) := hD
        refine lv_aload_n hx hb dX5_put_31 rfl (lv_at hl 0 rfl) ?_
        refine va_get (D := (dC, dI)) (C := RX5) (T := TX5) (N := 26) (v := .int 0) hx hb hts (fi_X5 _) hown hK hP 0 (mw_at0 _ _ _) rfl 0 (by decide) (hts _ (List.mem_cons_of_mem _ wd_237)) (fun _ h9 => h9) rfl dX5_put_32 ?_
        refine lv_if_ne (tgt := 65) hx hb dX5_put_35 (by decide) (fun c_37 => ?_) (fun c_37 => ?_)
        · skip
          exact absurd (by decide) c_37
        · skip
          refine lv_aload_n hx hb dX5_put_38 rfl (lv_at hl 0 rfl) ?_
          refine lv_aload_n hx hb dX5_put_39 rfl (lv_at hl 0 rfl) ?_
          refine lv_iload_n hx hb dX5_put_40 rfl (lv_at hl 1 rfl) ?_
          refine vp_callSi (W.runV (As := [.int x1]) (rest := [.ref (h 0)]) ⟨hx, hb, hml, hown, hts⟩ (kX5_isGone l dC dI g h (s_mcode u 0) x1 (by omega)) (cwV 1 hts (gV wd_308 wd_309 wd_310 wd_241 wcX5_isGone) rfl rfl rfl (by decide +kernel) ⟨(Nat.le_of_ble_eq_true rfl), (Nat.le_of_ble_eq_true rfl)⟩) ⟨fun a U g mk q => by obtain ⟨q0, qP, qK⟩ := q; exact ⟨q0, qP, va_K.moved (u := U) (U := U.calling g mk a) (Vm.Alike.refl U.vm) qK⟩, va_recv hK hP (ci := 4) (q0 := 0) rfl (mw_at0 _ _ _), fun U hU hW => ⟨rfl, by rw [hU]; exact hP, va_K.moved hW.alike hK⟩⟩ rfl rfl hl.1 rfl (lv_room (Nat.le_of_ble_eq_true rfl)) dX5_put_41 ⟨(Nat.le_of_ble_eq_true rfl), (Nat.le_of_ble_eq_true rfl)⟩) (fun r_38 hw => ?_)
          subst hw
          refine lv_if_ne (tgt := 57) hx hb dX5_put_44 (by decide) (fun c_39 => ?_) (fun c_39 => ?_)
          · skip
            have t_40 : (fX5_isGone (s_mcode u 0) x1).toInt ≠ 0 := i_ne c_39 rfl (by decide)
            refine lv_iconst (v := 3) hx hb dX5_put_57 (by decide) ?_
            refine lv_goto (tgt := 62) hx hb dX5_put_58 (by decide) ?_
            refine va_put (D := (dC, dI)) (C := RX5) (T := TX5) (N := 26) (v := .int 3) (ty := .int) hx hb hts (fi_X5 _) tyX5 tyX5_ok nmX5 hown hK hP hD hS 0 (mw_at0 _ _ _) rfl 0 (by decide) (hts _ (List.mem_cons_of_mem _ wd_237)) (fun _ h9 => h9) rfl (by decide +kernel) rfl rfl (Nat.le_of_ble_eq_true rfl) dX5_put_62 (fun H locs hP hD hS => ?_)
            have hP : va_P (dC, dI) vwCl (mw g h (s_mcode u 3)) H := hP
            have hD : va_D A (mw g h (s_mcode u 3)) := hD
            refine lv_iconst (v := 1) hx hb dX5_put_65 (by decide) ?_
            refine lv_istore_n (lv' := [(3, .int 1), (0, .ref (h 0)), (1, .int x1), (2, .int x2)]) hx hb dX5_put_66 rfl hl (by decide) rfl (fun ls hl => ?_)
            exact LP _ _ _ ⟨1, (s_mcode u 3), (by have e9 : k_munits (s_mcode u 3) = k_munits u := rfl; rw [e9]; omega), (by have e9 : k_munits (s_mcode u 3) = k_munits u := rfl; rw [e9]; omega), (fun h9 => absurd (show (3 : Int32) = 0 from h9) (by decide)), (mi_code hI), (by unfold fX5_put; rw [if_neg c_28, if_neg c_33, if_neg c_39]), hP, hD, hS, lv_sub hl [0, 1, 2, 3] rfl⟩
          · skip
            have t_41 : (fX5_isGone (s_mcode u 0) x1).toInt = 0 := i_eq c_39 rfl (by decide)
            refine lv_aload_n hx hb dX5_put_47 rfl (lv_at hl 0 rfl) ?_
            refine va_get (D := (dC, dI)) (C := RX5) (T := TX5) (N := 26) (v := .ref (h 14)) hx hb hts (fi_X5 _) hown hK hP 0 (mw_at0 _ _ _) rfl 16 (by decide) (hts _ (List.mem_cons_of_mem _ wd_300)) (fun _ h9 => h9) rfl dX5_put_48 ?_
            refine lv_iload_n hx hb dX5_put_51 rfl (lv_at hl 1 rfl) ?_
            refine va_iald (f := k_mbin u) hx hb hK hP 14 0 (mw_at14 _ _ _) rfl (vp_in_iff.mpr (by omega)) dX5_put_52 ?_
            refine lv_iload_n hx hb dX5_put_53 rfl (lv_at hl 2 rfl) ?_
            refine lv_icmp_ne (tgt := 61) hx hb dX5_put_54 (by decide) (fun c_42 => ?_) (fun c_42 => ?_)
            · skip
              have t_43 : (k_mbin u x1.toNatClampNeg).toInt ≠ x2.toInt := i_ne c_42 rfl rfl
              refine lv_iconst (v := 0) hx hb dX5_put_61 (by decide) ?_
              refine va_put (D := (dC, dI)) (C := RX5) (T := TX5) (N := 26) (v := .int 0) (ty := .int) hx hb hts (fi_X5 _) tyX5 tyX5_ok nmX5 hown hK hP hD hS 0 (mw_at0 _ _ _) rfl 0 (by decide) (hts _ (List.mem_cons_of_mem _ wd_237)) (fun _ h9 => h9) rfl (by decide +kernel) rfl rfl (Nat.le_of_ble_eq_true rfl) dX5_put_62 (fun H locs hP hD hS => ?_)
              have hP : va_P (dC, dI) vwCl (mw g h (s_mcode u 0)) H := hP
              have hD : va_D A (mw g h (s_mcode u 0)) := hD
              refine lv_iconst (v := 1) hx hb dX5_put_65 (by decide) ?_
              refine lv_istore_n (lv' := [(3, .int 1), (0, .ref (h 0)), (1, .int x1), (2, .int x2)]) hx hb dX5_put_66 rfl hl (by decide) rfl (fun ls hl => ?_)
              exact LP _ _ _ ⟨1, (s_mcode u 0), (by have e9 : k_munits (s_mcode u 0) = k_munits u := rfl; rw [e9]; omega), (by have e9 : k_munits (s_mcode u 0) = k_munits u := rfl; rw [e9]; omega), (fun _ => ⟨by omega, by omega⟩), (mi_code hI), (by unfold fX5_put; rw [if_neg c_28, if_neg c_33, if_pos c_39, if_neg c_42]), hP, hD, hS, lv_sub hl [0, 1, 2, 3] rfl⟩
            · skip
              have t_44 : (k_mbin u x1.toNatClampNeg).toInt = x2.toInt := i_eq c_42 rfl rfl
              refine lv_iconst (v := 3) hx hb dX5_put_57 (by decide) ?_
              refine lv_goto (tgt := 62) hx hb dX5_put_58 (by decide) ?_
              refine va_put (D := (dC, dI)) (C := RX5) (T := TX5) (N := 26) (v := .int 3) (ty := .int) hx hb hts (fi_X5 _) tyX5 tyX5_ok nmX5 hown hK hP hD hS 0 (mw_at0 _ _ _) rfl 0 (by decide) (hts _ (List.mem_cons_of_mem _ wd_237)) (fun _ h9 => h9) rfl (by decide +kernel) rfl rfl (Nat.le_of_ble_eq_true rfl) dX5_put_62 (fun H locs hP hD hS => ?_)
              have hP : va_P (dC, dI) vwCl (mw g h (s_mcode u 3)) H := hP
              have hD : va_D A (mw g h (s_mcode u 3)) := hD
              refine lv_iconst (v := 1) hx hb dX5_put_65 (by decide) ?_
              refine lv_istore_n (lv' := [(3, .int 1), (0, .ref (h 0)), (1, .int x1), (2, .int x2)]) hx hb dX5_put_66 rfl hl (by decide) rfl (fun ls hl => ?_)
              exact LP _ _ _ ⟨1, (s_mcode u 3), (by have e9 : k_munits (s_mcode u 3) = k_munits u := rfl; rw [e9]; omega), (by have e9 : k_munits (s_mcode u 3) = k_munits u := rfl; rw [e9]; omega), (fun h9 => absurd (show (3 : Int32) = 0 from h9) (by decide)), (mi_code hI), (by unfold fX5_put; rw [if_neg c_28, if_neg c_33, if_pos c_39, if_pos c_42]), hP, hD, hS, lv_sub hl [0, 1, 2, 3] rfl⟩
      · skip
        have t_45 : (fX5_in x2 0 19).toInt = 0 := i_eq c_33 rfl (by decide)
        refine lv_iconst (v := 2) hx hb dX5_put_23 (by decide) ?_
        refine lv_goto (tgt := 28) hx hb dX5_put_24 (by decide) ?_
        refine va_put (D := (dC, dI)) (C := RX5) (T := TX5) (N := 26) (v := .int 2) (ty := .int) hx hb hts (fi_X5 _) tyX5 tyX5_ok nmX5 hown hK hP hD hS 0 (mw_at0 _ _ _) rfl 0 (by decide) (hts _ (List.mem_cons_of_mem _ wd_237)) (fun _ h9 => h9) rfl (by decide +kernel) rfl rfl (Nat.le_of_ble_eq_true rfl) dX5_put_28 (fun H locs hP hD hS => ?_)
        have hP : va_P (dC, dI) vwCl (mw g h (s_mcode u 2)) H := hP
        have hD : va_D A (mw g h (s_mcode u 2)) := hD
        refine lv_aload_n hx hb dX5_put_31 rfl (lv_at hl 0 rfl) ?_
        refine va_get (D := (dC, dI)) (C := RX5) (T := TX5) (N := 26) (v := .int 2) hx hb hts (fi_X5 _) hown hK hP 0 (mw_at0 _ _ _) rfl 0 (by decide) (hts _ (List.mem_cons_of_mem _ wd_237)) (fun _ h9 => h9) rfl dX5_put_32 ?_
        refine lv_if_ne (tgt := 65) hx hb dX5_put_35 (by decide) (fun c_46 => ?_) (fun c_46 => ?_)
        · skip
          refine lv_iconst (v := 1) hx hb dX5_put_65 (by decide) ?_
          refine lv_istore_n (lv' := [(3, .int 1), (0, .ref (h 0)), (1, .int x1), (2, .int x2)]) hx hb dX5_put_66 rfl hl (by decide) rfl (fun ls hl => ?_)
          exact LP _ _ _ ⟨1, (s_mcode u 2), (by have e9 : k_munits (s_mcode u 2) = k_munits u := rfl; rw [e9]; omega), (by have e9 : k_munits (s_mcode u 2) = k_munits u := rfl; rw [e9]; omega), (fun h9 => absurd (show (2 : Int32) = 0 from h9) (by decide)), (mi_code hI), (by unfold fX5_put; rw [if_neg c_28, if_pos c_33]), hP, hD, hS, lv_sub hl [0, 1, 2, 3] rfl⟩
        · skip
          exact absurd c_46 (by decide)
    · skip
      have t_47 : (fX5_isUnit u x1).toInt = 0 := i_eq c_28 rfl (by decide)
      refine lv_iconst (v := 1) hx hb dX5_put_9 (by decide) ?_
      refine lv_goto (tgt := 28) hx hb dX5_put_10 (by decide) ?_
      refine va_put (D := (dC, dI)) (C := RX5) (T := TX5) (N := 26) (v := .int 1) (ty := .int) hx hb hts (fi_X5 _) tyX5 tyX5_ok nmX5 hown hK hP hD hS 0 (mw_at0 _ _ _) rfl 0 (by decide) (hts _ (List.mem_cons_of_mem _ wd_237)) (fun _ h9 => h9) rfl (by decide +kernel) rfl rfl (Nat.le_of_ble_eq_true rfl) dX5_put_28 (fun H locs hP hD hS => ?_)
      have hP : va_P (dC, dI) vwCl (mw g h (s_mcode u 1)) H := hP
      have hD : va_D A (mw g h (s_mcode u 1)) := hD
      refine lv_aload_n hx hb dX5_put_31 rfl (lv_at hl 0 rfl) ?_
      refine va_get (D := (dC, dI)) (C := RX5) (T := TX5) (N := 26) (v := .int 1) hx hb hts (fi_X5 _) hown hK hP 0 (mw_at0 _ _ _) rfl 0 (by decide) (hts _ (List.mem_cons_of_mem _ wd_237)) (fun _ h9 => h9) rfl dX5_put_32 ?_
      refine lv_if_ne (tgt := 65) hx hb dX5_put_35 (by decide) (fun c_48 => ?_) (fun c_48 => ?_)
      · skip
        refine lv_iconst (v := 1) hx hb dX5_put_65 (by decide) ?_
        refine lv_istore_n (lv' := [(3, .int 1), (0, .ref (h 0)), (1, .int x1), (2, .int x2)]) hx hb dX5_put_66 rfl hl (by decide) rfl (fun ls hl => ?_)
        exact LP _ _ _ ⟨1, (s_mcode u 1), (by have e9 : k_munits (s_mcode u 1) = k_munits u := rfl; rw [e9]; omega), (by have e9 : k_munits (s_mcode u 1) = k_munits u := rfl; rw [e9]; omega), (fun h9 => absurd (show (1 : Int32) = 0 from h9) (by decide)), (mi_code hI), (by unfold fX5_put; rw [if_pos c_28]), hP, hD, hS, lv_sub hl [0, 1, 2, 3] rfl⟩
      · skip
        exact absurd c_48 (by decide)