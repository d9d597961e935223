set_option maxHeartbeats 4000000 in
set_option maxRecDepth 100000 in
theorem kX5_recall (l : Launch) (dC : Nat → ClassId) (dI : Nat → Nat → Nat) (g : cG) (h : Nat → Nat) (u : mS) (sz : Nat) (x1 : Int32) (x2 : Int32) (hI : mInv u) : Met l yX5_recall wsX5_recall ({ frames := 2, cells := 0, slots := 0, locals := 43 }) (va_Pc [.ref (h 0), .int x1, .int x2] (fun U => U.heap.size = sz ∧ va_P (dC, dI) vwCl (mw g h u) U.heap ∧ va_K (dC, dI) vwCl (cTys g) U ∧ va_D (fun _ => True) (mw g h u))) (va_Qi (fun (r : Int32) u2 => (r, u2) = fX5_recall u x1 x2) (fun (u2 : mS) (t : State) => va_P (dC, dI) vwCl (mw g h u2) t.heap ∧ va_D (va_A (mw g h u) sz) (mw g h u2)) (va_A (mw g h u) sz)) 0 0 (va_A (mw g h u) sz) := by
  refine Met.ofW (cc := cX5_recall) (maxL := 7) (ret := (some .int)) (by decide) rfl ?_
  intro p e s m args below meth c s₁ B hml hv
  obtain ⟨rfl, hsz, hP, hK, hD0⟩ := hv
  have hx := B.exec
  have hb := B.bytes
  have hr := B.returns
  have hts := atoms_spec (ws := wsX5_recall) B.pre
  have hown : s.vm.findClass RX5 = some m.cls := findClass_of_methodNamed B.named
  have hlocks := B.notSynchronized
  subst hsz
  have hD := hD0.self (sz := s.heap.size)
  generalize hAe : va_A (mw g h u) s.heap.size = A at hD ⊢
  have hA : ∀ q : Nat, s.heap.size ≤ q → A q := fun q h => by rw [← hAe]; exact Or.inr h
  have hS : va_S A s.heap s.heap [] := va_S.rf
  have hl := lv_entry ([.ref (h 0), .int x1, .int x2]) (n := 7) (Nat.le_of_ble_eq_true rfl)
  rw [lg_entry_eq]
  generalize (lg_sl ([.ref (h 0), .int x1, .int x2]) ++ List.replicate (7 - (lg_sl ([.ref (h 0), .int x1, .int x2])).length) Slot.unset).toArray = ls at hl ⊢
  have hl : lv_has ls 7 [(0, .ref (h 0)), (1, .int x1), (2, .int x2)] := hl
  obtain ⟨hI1, hI2, hI3, hI4, hI5, hI6, hI7⟩ := id hI
  have z_0 : (0 : Int32).toInt = 0 := by decide
  have z_1 : (1 : Int32).toInt = 1 := by decide
  refine lv_aload_n hx hb dX5_recall_0 rfl (lv_at hl 0 rfl) ?_
  refine lv_aload_n hx hb dX5_recall_1 rfl (lv_at hl 0 rfl) ?_
  refine lv_iload_n hx hb dX5_recall_2 rfl (lv_at hl 1 rfl) ?_
  refine vp_callSi (W.runV (As := [.int x1]) (rest := [.ref (h 0)]) ⟨hx, hb, hml, hown, hts⟩ (kX5_isLot l dC dI g h u x1) (cwV 1 hts (gV wd_288 wd_289 wd_290 wd_241 wcX5_isLot) rfl rfl rfl (by decide +kernel) ⟨(Nat.le_of_ble_eq_true rfl), (Nat.le_of_ble_eq_true rfl)⟩) ⟨fun a U g mk q => by obtain ⟨q0, qP, qK⟩ := q; exact ⟨q0, qP, va_K.moved (u := U) (U := U.calling g mk a) (Vm.Alike.refl U.vm) qK⟩, va_recv hK hP (ci := 4) (q0 := 0) rfl (mw_at0 _ _ _), fun U hU hW => ⟨rfl, by rw [hU]; exact hP, va_K.moved hW.alike hK⟩⟩ rfl rfl hl.1 rfl (lv_room (Nat.le_of_ble_eq_true rfl)) dX5_recall_3 ⟨(Nat.le_of_ble_eq_true rfl), (Nat.le_of_ble_eq_true rfl)⟩) (fun r_1 hw => ?_)
  subst hw
  refine lv_if_ne (tgt := 13) hx hb dX5_recall_6 (by decide) (fun c_2 => ?_) (fun c_2 => ?_)
  · skip
    have t_3 : (fX5_isLot u x1).toInt ≠ 0 := i_ne c_2 rfl (by decide)
    have t_4 := il_lo c_2
    have t_5 := il_hi c_2
    refine lv_iload_n hx hb dX5_recall_13 rfl (lv_at hl 2 rfl) ?_
    refine lv_if_ge (tgt := 21) hx hb dX5_recall_14 (by decide) (fun c_6 => ?_) (fun c_6 => ?_)
    · skip
      have t_7 : 0 ≤ x2.toInt := i_le c_6 (by decide) rfl
      refine lv_iconst (v := 0) hx hb dX5_recall_21 (by decide) ?_
      refine va_put (D := (dC, dI)) (C := RX5) (T := TX5) (N := 26) (v := .int 0) (ty := .int) hx hb hts (fi_X5 _) tyX5 tyX5_ok nmX5 hown hK hP hD hS 0 (mw_at0 _ _ _) rfl 0 (by decide) (hts _ (List.mem_cons_of_mem _ wd_237)) (fun _ h9 => h9) rfl (by decide +kernel) rfl rfl (Nat.le_of_ble_eq_true rfl) dX5_recall_22 (fun H locs hP hD hS => ?_)
      have hP : va_P (dC, dI) vwCl (mw g h (s_mcode u 0)) H := hP
      have hD : va_D A (mw g h (s_mcode u 0)) := hD
      refine lv_aload_n hx hb dX5_recall_25 rfl (lv_at hl 0 rfl) ?_
      refine va_get (D := (dC, dI)) (C := RX5) (T := TX5) (N := 26) (v := .int 0) hx hb hts (fi_X5 _) hown hK hP 0 (mw_at0 _ _ _) rfl 0 (by decide) (hts _ (List.mem_cons_of_mem _ wd_237)) (fun _ h9 => h9) rfl dX5_recall_26 ?_
      refine lv_if_le (tgt := 34) hx hb dX5_recall_29 (by decide) (fun c_8 => ?_) (fun c_8 => ?_)
      · skip
        refine lv_aload_n hx hb dX5_recall_34 rfl (lv_at hl 0 rfl) ?_
        refine lv_iload_n hx hb dX5_recall_35 rfl (lv_at hl 1 rfl) ?_
        have hFc := va_free (wc := mw g h (s_mcode u 0)) hD hS hA [0, 1, 2, 3, 4, 5, 6, 7, 8, 9, 10, 11, 12, 13, 14, 15, 16, 17, 18, 19, 20, 21, 22] rfl
        refine va_callv (va_runV (As := [.int x1]) (rest := []) ⟨hx, hb, hml, hown, hts⟩ (kX5_findFamily l dC dI g h (s_mcode u 0) _ x1 hI) (cwV 1 hts (gV wd_320 wd_321 wd_322 wd_241 wcX5_findFamily) rfl rfl rfl (by decide +kernel) ⟨(Nat.le_of_ble_eq_true rfl), (Nat.le_of_ble_eq_true rfl)⟩) ⟨fun a U g mk q => by obtain ⟨q0, q1, qP, qK, qD⟩ := q; exact ⟨q0, q1, qP, va_K.moved (u := U) (U := U.calling g mk a) (Vm.Alike.refl U.vm) qK, qD⟩, va_recv hK hP (ci := 4) (q0 := 0) rfl (mw_at0 _ _ _), fun U hU hW => ⟨rfl, by rw [hU], by rw [hU]; exact hP, va_K.moved hW.alike hK, hD.weaken (fun _ _ _ _ => trivial)⟩⟩ rfl rfl hl.1 rfl (lv_room (Nat.le_of_ble_eq_true rfl)) dX5_recall_36 ⟨(Nat.le_of_ble_eq_true rfl), (Nat.le_of_ble_eq_true rfl)⟩) hS (fun q _ h => hFc q h) hFc (fun w1 t H locs ht hvm hw hB hz1 hk1 hS => ?_)
        obtain ⟨hP, hD⟩ := hB
        rw [ht] at hP
        have hD := hD.weaken (fun _ _ _ h => hFc _ h)
        have e_10 : w1 = fX5_findFamily (s_mcode u 0) x1 := hw
        clear hw
        have hJ : mInv w1 := by rw [e_10]; exact ff_inv (mi_code hI) _
        obtain ⟨hI1w1, hI2w1, hI3w1, hI4w1, hI5w1, hI6w1, hI7w1⟩ := id hJ
        refine lv_iload_n hx hb dX5_recall_39 rfl (lv_at hl 2 rfl) ?_
        refine lv_istore_n (lv' := [(3, .int x2), (0, .ref (h 0)), (1, .int x1), (2, .int x2)]) hx hb dX5_recall_40 rfl hl (by decide) rfl (fun ls hl => ?_)
        refine lv_iconst (v := 1) hx hb dX5_recall_41 (by decide) ?_
        refine lv_istore (lv' := [(4, .int 1), (3, .int x2), (0, .ref (h 0)), (1, .int x1), (2, .int x2)]) hx hb dX5_recall_42 hl (by decide) rfl (fun ls hl => ?_)
        refine lp_ind (W p l e _ s m _ below meth c _ _ _ _ _) (fun n ls => ∃ (i : Int32) (a : Int32), ((k_munits w1).toInt - i.toInt + 1 < (n : Int)) ∧ (1 ≤ i.toInt ∧ i.toInt ≤ 121 ∧ i.toInt ≤ (k_munits w1).toInt + 1) ∧ fX5_recall u x1 x2 = loX5_recall w1 n i a ∧ lv_has ls 7 [(4, .int i), (3, .int a), (0, .ref (h 0)), (1, .int x1), (2, .int x2)]) m 44 (fun ls hI0 => ?_) (fun n ls hI0 ih => ?_) 121 _ ⟨1, x2, (by omega), (by omega), (by subst e_10; unfold fX5_recall; rw [if_neg c_2, if_pos c_6]), lv_sub hl [0, 1, 2, 3, 4] rfl⟩
        · skip
          obtain ⟨i, a, hn, hi, he, hl⟩ := hI0
          exact absurd hn (by omega)
        · skip
          obtain ⟨i, a, hn, hi, he, hl⟩ := hI0
          have he_13 := he
          have ih_12 := ih
          refine lv_iload hx hb dX5_recall_44 (lv_at hl 0 rfl) ?_
          refine lv_aload_n hx hb dX5_recall_46 rfl (lv_at hl 2 rfl) ?_
          refine va_get (D := (dC, dI)) (C := RX5) (T := TX5) (N := 26) (v := .int (k_munits w1)) hx hb hts (fi_X5 _) hown hK hP 0 (mw_at0 _ _ _) rfl 14 (by decide) (hts _ (List.mem_cons_of_mem _ wd_243)) (fun _ h9 => h9) rfl dX5_recall_47 ?_
          refine lv_icmp_gt (tgt := 136) hx hb dX5_recall_50 (by decide) (fun c_14 => ?_) (fun c_14 => ?_)
          · skip
            have t_15 : (k_munits w1).toInt < i.toInt := i_lt c_14 rfl rfl
            refine lv_iconst (v := (-1)) hx hb dX5_recall_136 (by decide) ?_
            exact W.iret (v := (-1)) hx hb hr (fun t ht hW => ⟨⟨(-1), w1, rfl, (by rw [he_13, loX5_recall_eq, if_pos c_14]), by rw [ht]; exact hP, hD⟩, hS.F ht⟩) hS.2.2 dX5_recall_137
          · skip
            have t_16 : i.toInt ≤ (k_munits w1).toInt := i_nlt c_14 rfl rfl
            refine lv_iconst (v := 0) hx hb dX5_recall_53 (by decide) ?_
            refine lv_istore (lv' := [(5, .int 0), (4, .int i), (3, .int a), (0, .ref (h 0)), (1, .int x1), (2, .int x2)]) hx hb dX5_recall_54 hl (by decide) rfl (fun ls hl => ?_)
            refine lv_iconst (v := 1) hx hb dX5_recall_56 (by decide) ?_
            refine lv_istore (lv' := [(6, .int 1), (5, .int 0), (4, .int i), (3, .int a), (0, .ref (h 0)), (1, .int x1), (2, .int x2)]) hx hb dX5_recall_57 hl (by decide) rfl (fun ls hl => ?_)
            refine lp_ind (W p l e _ s m _ below meth c _ _ _ _ _) (fun n2 ls => ∃ (k : Int32) (b : Int32), ((k_mlots w1).toInt - k.toInt + 1 < (n2 : Int)) ∧ (1 ≤ k.toInt ∧ k.toInt ≤ 41 ∧ k.toInt ≤ (k_mlots w1).toInt + 1) ∧ fX5_recall u x1 x2 = (if liX5_recall w1 i n2 k b = 0 then loX5_recall w1 n (i + 1) a else if a = 0 then (i, w1) else loX5_recall w1 n (i + 1) (a + (-1))) ∧ lv_has ls 7 [(6, .int k), (5, .int b), (0, .ref (h 0)), (1, .int x1), (2, .int x2), (3, .int a), (4, .int i)]) m 59 (fun ls hI0 => ?_) (fun n2 ls hI0 ih => ?_) 41 _ ⟨1, 0, (by omega), (by omega), (by rw [he_13, loX5_recall_eq, if_neg c_14]), lv_sub hl [0, 1, 4, 5, 6, 3, 2] rfl⟩
            · skip
              obtain ⟨k, b, hn2, hk, he, hl⟩ := hI0
              exact absurd hn2 (by omega)
            · skip
              obtain ⟨k, b, hn2, hk, he, hl⟩ := hI0
              have he_19 := he
              have ih_18 := ih
              refine lv_iload hx hb dX5_recall_59 (lv_at hl 0 rfl) ?_
              refine lv_aload_n hx hb dX5_recall_61 rfl (lv_at hl 2 rfl) ?_
              refine va_get (D := (dC, dI)) (C := RX5) (T := TX5) (N := 26) (v := .int (k_mlots w1)) hx hb hts (fi_X5 _) hown hK hP 0 (mw_at0 _ _ _) rfl 1 (by decide) (hts _ (List.mem_cons_of_mem _ wd_238)) (fun _ h9 => h9) rfl dX5_recall_62 ?_
              refine lv_icmp_gt (tgt := 112) hx hb dX5_recall_65 (by decide) (fun c_20 => ?_) (fun c_20 => ?_)
              · skip
                have t_21 : (k_mlots w1).toInt < k.toInt := i_lt c_20 rfl rfl
                have he_22 : fX5_recall u x1 x2 = (if b = 0 then loX5_recall w1 n (i + 1) a else if a = 0 then (i, w1) else loX5_recall w1 n (i + 1) (a + (-1))) := (by rw [he_19, liX5_recall_eq, if_pos c_20])
                refine lv_iload hx hb dX5_recall_112 (lv_at hl 1 rfl) ?_
                refine lv_if_ne (tgt := 120) hx hb dX5_recall_114 (by decide) (fun c_23 => ?_) (fun c_23 => ?_)
                · skip
                  have t_24 : b.toInt ≠ 0 := i_ne c_23 rfl (by decide)
                  refine lv_iload_n hx hb dX5_recall_120 rfl (lv_at hl 5 rfl) ?_
                  refine lv_if_ne (tgt := 127) hx hb dX5_recall_121 (by decide) (fun c_25 => ?_) (fun c_25 => ?_)
                  · skip
                    have t_26 : a.toInt ≠ 0 := i_ne c_25 rfl (by decide)
                    refine lv_iinc (v := a + (-1)) (lv' := [(3, .int (a + (-1))), (6, .int k), (5, .int b), (0, .ref (h 0)), (1, .int x1), (2, .int x2), (4, .int i)]) hx hb dX5_recall_127 hl (k := 5) rfl rfl (by decide) rfl (fun ls hl => ?_)
                    refine lv_iinc (v := i + 1) (lv' := [(4, .int (i + 1)), (3, .int (a + (-1))), (6, .int k), (5, .int b), (0, .ref (h 0)), (1, .int x1), (2, .int x2)]) hx hb dX5_recall_130 hl (k := 6) rfl rfl (by decide) rfl (fun ls hl => ?_)
                    refine lv_goto (tgt := 44) hx hb dX5_recall_133 (by decide) ?_
                    have hb1 := i_inc (x := i) (by omega)
                    exact ih_12 _ ⟨(i + 1), (a + (-1)), (by omega), (by omega), (by rw [he_22, if_neg c_23, if_neg c_25]), lv_sub hl [0, 1, 4, 5, 6] rfl⟩
                  · skip
                    have t_27 : a.toInt = 0 := i_eq c_25 rfl (by decide)
                    refine lv_iload hx hb dX5_recall_124 (lv_at hl 6 rfl) ?_
                    exact W.iret (v := i) hx hb hr (fun t ht hW => ⟨⟨i, w1, rfl, (by rw [he_22, if_neg c_23, if_pos c_25]), by rw [ht]; exact hP, hD⟩, hS.F ht⟩) hS.2.2 dX5_recall_126
                · skip
                  have t_28 : b.toInt = 0 := i_eq c_23 rfl (by decide)
                  refine lv_goto (tgt := 130) hx hb dX5_recall_117 (by decide) ?_
                  refine lv_iinc (v := i + 1) (lv' := [(4, .int (i + 1)), (6, .int k), (5, .int b), (0, .ref (h 0)), (1, .int x1), (2, .int x2), (3, .int a)]) hx hb dX5_recall_130 hl (k := 6) rfl rfl (by decide) rfl (fun ls hl => ?_)
                  refine lv_goto (tgt := 44) hx hb dX5_recall_133 (by decide) ?_
                  have hb1 := i_inc (x := i) (by omega)
                  exact ih_12 _ ⟨(i + 1), a, (by omega), (by omega), (by rw [he_22, if_pos c_23]), lv_sub hl [0, 6, 3, 4, 5] rfl⟩
              · skip
                have t_29 : k.toInt ≤ (k_mlots w1).toInt := i_nlt c_20 rfl rfl
                refine lv_iload hx hb dX5_recall_68 (lv_at hl 1 rfl) ?_
                refine lv_if_ne (tgt := 99) hx hb dX5_recall_70 (by decide) (fun c_30 => ?_) (fun c_30 => ?_)
                · skip
                  have t_31 : b.toInt ≠ 0 := i_ne c_30 rfl (by decide)
                  refine lv_iconst (v := 1) hx hb dX5_recall_99 (by decide) ?_
                  refine lv_goto (tgt := 104) hx hb dX5_recall_100 (by decide) ?_
                  refine lv_istore (lv' := [(5, .int 1), (6, .int k), (0, .ref (h 0)), (1, .int x1), (2, .int x2), (3, .int a), (4, .int i)]) hx hb dX5_recall_104 hl (by decide) rfl (fun ls hl => ?_)
                  refine lv_iinc (v := k + 1) (lv' := [(6, .int (k + 1)), (5, .int 1), (0, .ref (h 0)), (1, .int x1), (2, .int x2), (3, .int a), (4, .int i)]) hx hb dX5_recall_106 hl (k := 1) rfl rfl (by decide) rfl (fun ls hl => ?_)
                  refine lv_goto (tgt := 59) hx hb dX5_recall_109 (by decide) ?_
                  have hb2 := i_inc (x := k) (by omega)
                  exact ih_18 _ ⟨(k + 1), 1, (by omega), (by omega), (by rw [he_19, liX5_recall_eq, if_neg c_20, if_neg c_30]), lv_sub hl [0, 1, 2, 3, 4, 5, 6] rfl⟩
                · skip
                  have t_32 : b.toInt = 0 := i_eq c_30 rfl (by decide)
                  refine lv_aload_n hx hb dX5_recall_73 rfl (lv_at hl 2 rfl) ?_
                  refine va_get (D := (dC, dI)) (C := RX5) (T := TX5) (N := 26) (v := .ref (h 22)) hx hb hts (fi_X5 _) hown hK hP 0 (mw_at0 _ _ _) rfl 25 (by decide) (hts _ (List.mem_cons_of_mem _ wd_277)) (fun _ h9 => h9) rfl dX5_recall_74 ?_
                  refine lv_iload hx hb dX5_recall_77 (lv_at hl 0 rfl) ?_
                  refine va_zald (f := k_mfam w1) hx hb hK hP 22 1 (mw_at22 _ _ _) rfl (vp_in_iff.mpr (by omega)) dX5_recall_79 ?_
                  refine lv_if_eq (tgt := 103) hx hb dX5_recall_80 (by decide) (fun c_33 => ?_) (fun c_33 => ?_)
                  · skip
                    have t_34 : (k_mfam w1 k.toNatClampNeg).toInt = 0 := i_eq c_33 rfl (by decide)
                    refine lv_iconst (v := 0) hx hb dX5_recall_103 (by decide) ?_
                    refine lv_istore (lv' := [(5, .int 0), (6, .int k), (0, .ref (h 0)), (1, .int x1), (2, .int x2), (3, .int a), (4, .int i)]) hx hb dX5_recall_104 hl (by decide) rfl (fun ls hl => ?_)
                    refine lv_iinc (v := k + 1) (lv' := [(6, .int (k + 1)), (5, .int 0), (0, .ref (h 0)), (1, .int x1), (2, .int x2), (3, .int a), (4, .int i)]) hx hb dX5_recall_106 hl (k := 1) rfl rfl (by decide) rfl (fun ls hl => ?_)
                    refine lv_goto (tgt := 59) hx hb dX5_recall_109 (by decide) ?_
                    have hb2 := i_inc (x := k) (by omega)
                    exact ih_18 _ ⟨(k + 1), 0, (by omega), (by omega), (by rw [he_19, liX5_recall_eq, if_neg c_20, if_pos c_30, if_pos c_33]), lv_sub hl [0, 1, 2, 3, 4, 5, 6] rfl⟩
                  · skip
                    have t_35 : (k_mfam w1 k.toNatClampNeg).toInt ≠ 0 := i_ne c_33 rfl (by decide)
                    refine lv_aload_n hx hb dX5_recall_83 rfl (lv_at hl 2 rfl) ?_
                    refine va_get (D := (dC, dI)) (C := RX5) (T := TX5) (N := 26) (v := .ref (h 17)) hx hb hts (fi_X5 _) hown hK hP 0 (mw_at0 _ _ _) rfl 19 (by decide) (hts _ (List.mem_cons_of_mem _ wd_302)) (fun _ h9 => h9) rfl dX5_recall_84 ?_
                    refine lv_bipush (v := 41) hx hb dX5_recall_87 (by decide) ?_
                    refine lv_iload hx hb dX5_recall_89 (lv_at hl 6 rfl) ?_
                    refine lv_imul hx hb dX5_recall_91 ?_
                    refine lv_iload hx hb dX5_recall_92 (lv_at hl 0 rfl) ?_
                    refine lv_iadd hx hb dX5_recall_94 ?_
                    refine va_zald (f := k_mwas w1) hx hb hK hP 17 1 (mw_at17 _ _ _) rfl (was_in (by omega) (by omega)) dX5_recall_95 ?_
                    refine lv_if_eq (tgt := 103) hx hb dX5_recall_96 (by decide) (fun c_36 => ?_) (fun c_36 => ?_)
                    · skip
                      have t_37 : (k_mwas w1 ((41 * i) + k).toNatClampNeg).toInt = 0 := i_eq c_36 rfl (by decide)
                      refine lv_iconst (v := 0) hx hb dX5_recall_103 (by decide) ?_
                      refine lv_istore (lv' := [(5, .int 0), (6, .int k), (0, .ref (h 0)), (1, .int x1), (2, .int x2), (3, .int a), (4, .int i)]) hx hb dX5_recall_104 hl (by decide) rfl (fun ls hl => ?_)
                      refine lv_iinc (v := k + 1) (lv' := [(6, .int (k + 1)), (5, .int 0), (0, .ref (h 0)), (1, .int x1), (2, .int x2), (3, .int a), (4, .int i)]) hx hb dX5_recall_106 hl (k := 1) rfl rfl (by decide) rfl (fun ls hl => ?_)
                      refine lv_goto (tgt := 59) hx hb dX5_recall_109 (by decide) ?_
                      have hb2 := i_inc (x := k) (by omega)
                      exact ih_18 _ ⟨(k + 1), 0, (by omega), (by omega), (by rw [he_19, liX5_recall_eq, if_neg c_20, if_pos c_30, if_neg c_33, if_pos c_36]), lv_sub hl [0, 1, 2, 3, 4, 5, 6] rfl⟩
                    · skip
                      have t_38 : (k_mwas w1 ((41 * i) + k).toNatClampNeg).toInt ≠ 0 := i_ne c_36 rfl (by decide)
                      refine lv_iconst (v := 1) hx hb dX5_recall_99 (by decide) ?_
                      refine lv_goto (tgt := 104) hx hb dX5_recall_100 (by decide) ?_
                      refine lv_istore (lv' := [(5, .int 1), (6, .int k), (0, .ref (h 0)), (1, .int x1), (2, .int x2), (3, .int a), (4, .int i)]) hx hb dX5_recall_104 hl (by decide) rfl (fun ls hl => ?_)
                      refine lv_iinc (v := k + 1) (lv' := [(6, .int (k + 1)), (5, .int 1), (0, .ref (h 0)), (1, .int x1), (2, .int x2), (3, .int a), (4, .int i)]) hx hb dX5_recall_106 hl (k := 1) rfl rfl (by decide) rfl (fun ls hl => ?_)
                      refine lv_goto (tgt := 59) hx hb dX5_recall_109 (by decide) ?_
                      have hb2 := i_inc (x := k) (by omega)
                      exact ih_18 _ ⟨(k + 1), 1, (by omega), (by omega), (by rw [he_19, liX5_recall_eq, if_neg c_20, if_pos c_30, if_neg c_33, if_neg c_36]), lv_sub hl [0, 1, 2, 3, 4, 5, 6] rfl⟩
      · skip
        exact absurd (by decide) c_8
    · skip
      have t_39 : x2.toInt < 0 := i_nle c_6 (by decide) rfl
      refine lv_iconst (v := 2) hx hb dX5_recall_17 (by decide) ?_
      refine lv_goto (tgt := 22) hx hb dX5_recall_18 (by decide) ?_
      refine va_put (D := (dC, dI)) (C := RX5) (T := TX5) (N := 26) (v := .int 2) (ty := .int) hx hb hts (fi_X5 _) tyX5 tyX5_ok nmX5 hown hK hP hD hS 0 (mw_at0 _ _ _) rfl 0 (by decide) (hts _ (List.mem_cons_of_mem _ wd_237)) (fun _ h9 => h9) rfl (by decide +kernel) rfl rfl (Nat.le_of_ble_eq_true rfl) dX5_recall_22 (fun H locs hP hD hS => ?_)
      have hP : va_P (dC, dI) vwCl (mw g h (s_mcode u 2)) H := hP
      have hD : va_D A (mw g h (s_mcode u 2)) := hD
      refine lv_aload_n hx hb dX5_recall_25 rfl (lv_at hl 0 rfl) ?_
      refine va_get (D := (dC, dI)) (C := RX5) (T := TX5) (N := 26) (v := .int 2) hx hb hts (fi_X5 _) hown hK hP 0 (mw_at0 _ _ _) rfl 0 (by decide) (hts _ (List.mem_cons_of_mem _ wd_237)) (fun _ h9 => h9) rfl dX5_recall_26 ?_
      refine lv_if_le (tgt := 34) hx hb dX5_recall_29 (by decide) (fun c_40 => ?_) (fun c_40 => ?_)
      · skip
        exact absurd c_40 (by decide)
      · skip
        refine lv_iconst (v := 0) hx hb dX5_recall_32 (by decide) ?_
        exact W.iret (v := 0) hx hb hr (fun t ht hW => ⟨⟨0, (s_mcode u 2), rfl, (by unfold fX5_recall; rw [if_neg c_2, if_neg c_6]), by rw [ht]; exact hP, hD⟩, hS.F ht⟩) hS.2.2 dX5_recall_33
  · skip
    have t_41 : (fX5_isLot u x1).toInt = 0 := i_eq c_2 rfl (by decide)
    refine lv_iconst (v := 1) hx hb dX5_recall_9 (by decide) ?_
    refine lv_goto (tgt := 22) hx hb dX5_recall_10 (by decide) ?_
    refine va_put (D := (dC, dI)) (C := RX5) (T := TX5) (N := 26) (v := .int 1) (ty := .int) hx hb hts (fi_X5 _) tyX5 tyX5_ok nmX5 hown hK hP hD hS 0 (mw_at0 _ _ _) rfl 0 (by decide) (hts _ (List.mem_cons_of_mem _ wd_237)) (fun _ h9 => h9) rfl (by decide +kernel) rfl rfl (Nat.le_of_ble_eq_true rfl) dX5_recall_22 (fun H locs hP hD hS => ?_)
    have hP : va_P (dC, dI) vwCl (mw g h (s_mcode u 1)) H := hP
    have hD : va_D A (mw g h (s_mcode u 1)) := hD
    refine lv_aload_n hx hb dX5_recall_25 rfl (lv_at hl 0 rfl) ?_
    refine va_get (D := (dC, dI)) (C := RX5) (T := TX5) (N := 26) (v := .int 1) hx hb hts (fi_X5 _) hown hK hP 0 (mw_at0 _ _ _) rfl 0 (by decide) (hts _ (List.mem_cons_of_mem _ wd_237)) (fun _ h9 => h9) rfl dX5_recall_26 ?_
    refine lv_if_le (tgt := 34) hx hb dX5_recall_29 (by decide) (fun c_42 => ?_) (fun c_42 => ?_)
    · skip
      exact absurd c_42 (by decide)
    · skip
      refine lv_iconst (v := 0) hx hb dX5_recall_32 (by decide) ?_
      exact W.iret (v := 0) hx hb hr (fun t ht hW => ⟨⟨0, (s_mcode u 1), rfl, (by unfold fX5_recall; rw [if_pos c_2]), by rw [ht]; exact hP, hD⟩, hS.F ht⟩) hS.2.2 dX5_recall_33