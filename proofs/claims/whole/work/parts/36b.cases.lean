set_option maxHeartbeats 4000000 in
set_option maxRecDepth 100000 in
theorem lc_quarantine {p : Program} {l : Launch} {e : Env} {s : State} {m : MethodId} {below : List Frame} {meth : Method} {c : Code} {b L : Nat} {xs : Nat → Int32} {dC : Nat → ClassId} {dI : Nat → Nat → Nat} {g : cG} {h h2 : Nat → Nat} {o : Nat} (X0 : lw_X p l s m meth c b L xs) (Rl : cS → mS → Prop) (hRc : ∀ (u : cS) (v : mS), Rl u v → cInv u) (hRm : ∀ (u : cS) (v : mS), Rl u v → mInv v) (hst : ∀ (u : cS) (v : mS) (x1 : Int32) (x2 : Int32), Rl u v → (x2 = 0 ∨ x2 = 1) → k_mcode (fX5_quarantine v x1 x2) = wk [1, 3, 4] (fX4_quarantine u x1 x2).1 ∧ Rl (fX4_quarantine u x1 x2).2.2 (fX5_quarantine v x1 x2)) (hL : L ≤ 2560) (hK : va_K (dC, dI) vwCl (cTys g) s) (j : Nat) (x4 : Int32) (hx4 : x4.toInt = 5 * (j : Int)) (hj : 5 * j + 5 ≤ L) (u : cS) (v : mS) (f : Nat → Int64) (hR : Rl u v) (H : Heap) (locs : List Loc) (hP : va_P (dC, dI) vwCl (LW g h h2 o u v f) H) (hD : va_D (fun q : Nat => s.heap.size ≤ q) (LW g h h2 o u v f)) (hS : va_S (fun q : Nat => s.heap.size ≤ q) s.heap H locs) (ls : Array Slot) (hl : lv_has ls 7 [(0, .ref b), (1, .ref (h 0)), (2, .ref (h2 0)), (3, .ref o), (4, .int x4)])
    (K : ∀ (u : cS) (v : mS) (f : Nat → Int64) (H : Heap) (locs : List Loc) (ls : Array Slot), Rl u v → va_P (dC, dI) vwCl (LW g h h2 o u v f) H → va_D (fun q : Nat => s.heap.size ≤ q) (LW g h h2 o u v f) → va_S (fun q : Nat => s.heap.size ≤ q) s.heap H locs → lv_has ls 7 [(0, .ref b), (1, .ref (h 0)), (2, .ref (h2 0)), (3, .ref o), (4, .int x4)] → W p l e room_1 s m #[Value.ref b] below meth c H locs (48 + (j + 1)) (9269 + 6 * (j + 1)) (lw_Z below #[Value.ref b] s) (F0 m 1552 ls [])) :
    W p l e room_1 s m #[Value.ref b] below meth c H locs (48 + j) (9269 + 6 * j) (lw_Z below #[Value.ref b] s) (F0 m 552 ls []) := by
  obtain ⟨⟨hx, hb, hr, hml, hown, hts, hX, hbl, hlocks, hgv⟩, hl9, hZ, hN⟩ := X0
  have hA : ∀ q : Nat, s.heap.size ≤ q → (fun q : Nat => s.heap.size ≤ q) q := fun _ h => h
  have hbA : ¬ (fun q : Nat => s.heap.size ≤ q) b := Nat.not_le.mpr hbl
  have n1 : (1 : Int32).toInt = 1 := by decide
  have e1 := i_add (x := x4) (y := 1) (by omega) (by omega)
  have i1 : vp_in (x4 + 1) L := vp_in_iff.mpr (by omega)
  have n2 : (2 : Int32).toInt = 2 := by decide
  have e2 := i_add (x := x4) (y := 2) (by omega) (by omega)
  have i2 : vp_in (x4 + 2) L := vp_in_iff.mpr (by omega)
  have n3 : (3 : Int32).toInt = 3 := by decide
  have e3 := i_add (x := x4) (y := 3) (by omega) (by omega)
  have i3 : vp_in (x4 + 3) L := vp_in_iff.mpr (by omega)
  have n4 : (4 : Int32).toInt = 4 := by decide
  have e4 := i_add (x := x4) (y := 4) (by omega) (by omega)
  have i4 : vp_in (x4 + 4) L := vp_in_iff.mpr (by omega)
  by_cases hz : (xs (x4 + 2).toNatClampNeg) = 0
  · skip
    refine lv_aload_n hx hb dL_law_552 rfl (lv_at hl 1 rfl) ?_
    refine lv_aload_n hx hb dL_law_553 rfl (lv_at hl 0 rfl) ?_
    refine lv_iload hx hb dL_law_554 (lv_at hl 4 rfl) ?_
    refine lv_iconst (v := 1) hx hb dL_law_556 (by decide) ?_
    refine lv_iadd hx hb dL_law_557 ?_
    refine va_sld hx hb hX hbl hbA hS i1 dL_law_558 ?_
    refine lv_aload_n hx hb dL_law_559 rfl (lv_at hl 0 rfl) ?_
    refine lv_iload hx hb dL_law_560 (lv_at hl 4 rfl) ?_
    refine lv_iconst (v := 2) hx hb dL_law_562 (by decide) ?_
    refine lv_iadd hx hb dL_law_563 ?_
    refine va_sld hx hb hX hbl hbA hS i2 dL_law_564 ?_
    refine lv_if_eq (tgt := 572) hx hb dL_law_565 (by decide) (fun _ => ?_) (fun c_9 => absurd hz c_9)
    refine lv_iconst (v := 0) hx hb dL_law_572 (by decide) ?_
    have hPc := hP.sub (ws' := cw g h u) [0, 1, 2, 3, 4, 5, 6, 7, 8, 9, 10, 11, 12, 13, 14, 15, 16, 17, 18, 19, 20, 21, 22, 23] rfl
    have hDc := hD.sub (ws' := cw g h u) [0, 1, 2, 3, 4, 5, 6, 7, 8, 9, 10, 11, 12, 13, 14, 15, 16, 17, 18, 19, 20, 21, 22, 23] (by decide) rfl
    have hFc := va_free (wc := cw g h u) hD hS hA [0, 1, 2, 3, 4, 5, 6, 7, 8, 9, 10, 11, 12, 13, 14, 15, 16, 17, 18, 19, 20, 21, 22, 23] rfl
    refine va_calli (vx_runSW (hh := [(0, 6, 9, 33), (0, 6, 12, 35), (0, 6, 15, 15)]) (As := [.ref (h 0), .int (xs (x4 + 1).toNatClampNeg), .int 0]) (rest := []) ⟨hx, hb, hml, hown, hts⟩ (kL_quarantine l hl9 dC dI g h u _ (xs (x4 + 1).toNatClampNeg) 0 (hRc u v hR)) (vx_cwSW 3 hts (lgT wd_465 wd_466 wd_420 wcL_quarantine) rfl rfl rfl (by decide +kernel) ⟨(Nat.le_of_ble_eq_true rfl), (Nat.le_of_ble_eq_true rfl)⟩) ⟨fun a U g mk q => by obtain ⟨q0, q1, qP, qK, qD, qZ, qN⟩ := q; exact ⟨q0, q1, qP, va_K.moved (u := U) (U := U.calling g mk a) (Vm.Alike.refl U.vm) qK, qD, zz_same (u := U) (H := U.heap) rfl rfl qZ, nn_moved (u := U) (U := U.calling g mk a) (Vm.Alike.refl U.vm) qN⟩, fun U hU hW => ⟨rfl, by rw [hU], by rw [hU]; exact hPc, va_K.moved hW.alike hK, hDc.weaken (fun _ _ _ _ => trivial), by rw [hU]; exact zz_to hZ hS hFc hW, nn_moved hW.alike hN⟩⟩ rfl rfl hl.1 rfl (lv_room (Nat.le_of_ble_eq_true rfl)) dL_law_573 ⟨by show 48 + j + 1 ≤ 1082; omega, by show 9269 + 6 * j + 6 ≤ 17521; omega⟩) hS (fun q _ h => hFc q h) hFc (fun r5 q5 t H1 locs ht hvm hw5 hB hz1 hk1 hS => ?_)
    obtain ⟨hP1, hD1⟩ := hB
    rw [ht] at hP1
    obtain ⟨hP, hD⟩ := va_join (wr := mw g h2 v ++ [(o, .inl (g.2.2, 1, .inr (.inl f)))]) (w1 := cw g h q5) hP hD [0, 1, 2, 3, 4, 5, 6, 7, 8, 9, 10, 11, 12, 13, 14, 15, 16, 17, 18, 19, 20, 21, 22, 23] [24, 25, 26, 27, 28, 29, 30, 31, 32, 33, 34, 35, 36, 37, 38, 39, 40, 41, 42, 43, 44, 45, 46, 47] rfl rfl (by decide) (by decide) hk1 hFc hP1 hD1
    have hP := hP.sub (ws' := LW g h h2 o q5 v f) [24, 25, 26, 27, 28, 29, 30, 31, 32, 33, 34, 35, 36, 37, 38, 39, 40, 41, 42, 43, 44, 45, 46, 47, 0, 1, 2, 3, 4, 5, 6, 7, 8, 9, 10, 11, 12, 13, 14, 15, 16, 17, 18, 19, 20, 21, 22, 23] rfl
    have hD := hD.sub (ws' := LW g h h2 o q5 v f) [24, 25, 26, 27, 28, 29, 30, 31, 32, 33, 34, 35, 36, 37, 38, 39, 40, 41, 42, 43, 44, 45, 46, 47, 0, 1, 2, 3, 4, 5, 6, 7, 8, 9, 10, 11, 12, 13, 14, 15, 16, 17, 18, 19, 20, 21, 22, 23] (by decide) rfl
    refine W.widen (k := 48 + (j + 1)) (n := 9269 + 6 * (j + 1)) (by omega) (by omega) ?_
    refine lv_istore (lv' := [(5, .int r5), (0, .ref b), (1, .ref (h 0)), (2, .ref (h2 0)), (3, .ref o), (4, .int x4)]) hx hb dL_law_576 hl (by decide) rfl (fun ls hl => ?_)
    refine lv_aload_n hx hb dL_law_578 rfl (lv_at hl 3 rfl) ?_
    refine lv_aload_n hx hb dL_law_579 rfl (lv_at hl 1 rfl) ?_
    refine lv_iload hx hb dL_law_580 (lv_at hl 5 rfl) ?_
    refine lv_iconst (v := 1) hx hb dL_law_582 (by decide) ?_
    refine lv_iadd hx hb dL_law_583 ?_
    refine va_sld hx hb hX hbl hbA hS i1 dL_law_584 ?_
    refine lv_aload_n hx hb dL_law_585 rfl (lv_at hl 1 rfl) ?_
    refine lv_iload hx hb dL_law_586 (lv_at hl 5 rfl) ?_
    refine lv_iconst (v := 2) hx hb dL_law_588 (by decide) ?_
    refine lv_iadd hx hb dL_law_589 ?_
    refine va_sld hx hb hX hbl hbA hS i2 dL_law_590 ?_
    refine lv_if_eq (tgt := 598) hx hb dL_law_591 (by decide) (fun _ => ?_) (fun c_9 => absurd hz c_9)
    refine lv_iconst (v := 0) hx hb dL_law_598 (by decide) ?_
    have hPc := hP.sub (ws' := mw g h2 v) [24, 25, 26, 27, 28, 29, 30, 31, 32, 33, 34, 35, 36, 37, 38, 39, 40, 41, 42, 43, 44, 45, 46] rfl
    have hDc := hD.sub (ws' := mw g h2 v) [24, 25, 26, 27, 28, 29, 30, 31, 32, 33, 34, 35, 36, 37, 38, 39, 40, 41, 42, 43, 44, 45, 46] (by decide) rfl
    have hFc := va_free (wc := mw g h2 v) hD hS hA [24, 25, 26, 27, 28, 29, 30, 31, 32, 33, 34, 35, 36, 37, 38, 39, 40, 41, 42, 43, 44, 45, 46] rfl
    refine va_callv (va_runV (As := [.int (xs (x4 + 1).toNatClampNeg), .int 0]) (rest := []) ⟨hx, hb, hml, hown, hts⟩ (kX5_quarantine l dC dI g h2 v _ (xs (x4 + 1).toNatClampNeg) 0 (hRm u v hR)) (cwV 2 hts (lgV wd_468 wd_469 wd_470 wd_241 wcX5_quarantine) rfl rfl rfl (by decide +kernel) ⟨(Nat.le_of_ble_eq_true rfl), (Nat.le_of_ble_eq_true rfl)⟩) ⟨fun a U g mk q => by obtain ⟨q0, q1, qP, qK, qD⟩ := q; exact ⟨q0, q1, qP, va_K.moved (u := U) (U := U.calling g mk a) (Vm.Alike.refl U.vm) qK, qD⟩, va_recv hK hPc (ci := 4) (q0 := 0) rfl (mw_at0 _ _ _), fun U hU hW => ⟨rfl, by rw [hU], by rw [hU]; exact hPc, va_K.moved hW.alike hK, hDc.weaken (fun _ _ _ _ => trivial)⟩⟩ rfl rfl hl.1 rfl (lv_room (Nat.le_of_ble_eq_true rfl)) dL_law_599 ⟨by show 48 + (j + 1) + 0 ≤ 1082; omega, by show 9269 + 6 * (j + 1) + 0 ≤ 17521; omega⟩) hS (fun q _ h => hFc q h) hFc (fun v6 t H1 locs ht hvm hw6 hB hz1 hk1 hS => ?_)
    obtain ⟨hP1, hD1⟩ := hB
    rw [ht] at hP1
    obtain ⟨hP, hD⟩ := va_join (wr := ow g h o q5 f) (w1 := mw g h2 v6) hP hD [24, 25, 26, 27, 28, 29, 30, 31, 32, 33, 34, 35, 36, 37, 38, 39, 40, 41, 42, 43, 44, 45, 46] [0, 1, 2, 3, 4, 5, 6, 7, 8, 9, 10, 11, 12, 13, 14, 15, 16, 17, 18, 19, 20, 21, 22, 23, 47] rfl rfl (by decide) (by decide) hk1 hFc hP1 hD1
    have hP := hP.sub (ws' := LW g h h2 o q5 v6 f) [0, 1, 2, 3, 4, 5, 6, 7, 8, 9, 10, 11, 12, 13, 14, 15, 16, 17, 18, 19, 20, 21, 22, 23, 25, 26, 27, 28, 29, 30, 31, 32, 33, 34, 35, 36, 37, 38, 39, 40, 41, 42, 43, 44, 45, 46, 47, 24] rfl
    have hD := hD.sub (ws' := LW g h h2 o q5 v6 f) [0, 1, 2, 3, 4, 5, 6, 7, 8, 9, 10, 11, 12, 13, 14, 15, 16, 17, 18, 19, 20, 21, 22, 23, 25, 26, 27, 28, 29, 30, 31, 32, 33, 34, 35, 36, 37, 38, 39, 40, 41, 42, 43, 44, 45, 46, 47, 24] (by decide) rfl
    have hq := hst u v (xs (x4 + 1).toNatClampNeg) 0 hR (Or.inl rfl)
    rw [← hw6, ← hw5.1] at hq
    have hq1 := hq.1
    have hq3 := hq.2
    refine lv_aload_n hx hb dL_law_602 rfl (lv_at hl 3 rfl) ?_
    have hPc := hP.sub (ws' := mw g h2 v6) [24, 25, 26, 27, 28, 29, 30, 31, 32, 33, 34, 35, 36, 37, 38, 39, 40, 41, 42, 43, 44, 45, 46] rfl
    refine vp_callSi (W.runV (As := []) (rest := []) ⟨hx, hb, hml, hown, hts⟩ (kX5_thrown l dC dI g h2 v6) (cwV 0 hts (lgV wd_426 wd_427 wd_428 wd_241 wcX5_thrown) rfl rfl rfl (by decide +kernel) ⟨(Nat.le_of_ble_eq_true rfl), (Nat.le_of_ble_eq_true rfl)⟩) ⟨fun a U g mk q => by obtain ⟨q0, qP, qK⟩ := q; exact ⟨q0, qP, va_K.moved (u := U) (U := U.calling g mk a) (Vm.Alike.refl U.vm) qK⟩, va_recv hK hPc (ci := 4) (q0 := 0) rfl (mw_at0 _ _ _), fun U hU hW => ⟨rfl, by rw [hU]; exact hPc, va_K.moved hW.alike hK⟩⟩ rfl rfl hl.1 rfl (lv_room (Nat.le_of_ble_eq_true rfl)) dL_law_603 ⟨by show 48 + (j + 1) + 0 ≤ 1082; omega, by show 9269 + 6 * (j + 1) + 0 ≤ 17521; omega⟩) (fun r7 hw7 => ?_)
    refine lv_iload hx hb dL_law_606 (lv_at hl 0 rfl) ?_
    refine lv_icmp_eq (tgt := 613) hx hb dL_law_608 (by decide) (fun c_1 => ?_) (fun c_1 => absurd (hw7.trans hq1) c_1)
    refine lv_goto (tgt := 1552) hx hb dL_law_613 (by decide) ?_
    have hRR : Rl q5 v6 := by rw [hw5.2]; exact hq3
    exact K q5 v6 f _ _ _ hRR hP hD hS (lv_sub hl [1, 2, 3, 4, 5] rfl)
  · skip
    refine lv_aload_n hx hb dL_law_552 rfl (lv_at hl 1 rfl) ?_
    refine lv_aload_n hx hb dL_law_553 rfl (lv_at hl 0 rfl) ?_
    refine lv_iload hx hb dL_law_554 (lv_at hl 4 rfl) ?_
    refine lv_iconst (v := 1) hx hb dL_law_556 (by decide) ?_
    refine lv_iadd hx hb dL_law_557 ?_
    refine va_sld hx hb hX hbl hbA hS i1 dL_law_558 ?_
    refine lv_aload_n hx hb dL_law_559 rfl (lv_at hl 0 rfl) ?_
    refine lv_iload hx hb dL_law_560 (lv_at hl 4 rfl) ?_
    refine lv_iconst (v := 2) hx hb dL_law_562 (by decide) ?_
    refine lv_iadd hx hb dL_law_563 ?_
    refine va_sld hx hb hX hbl hbA hS i2 dL_law_564 ?_
    refine lv_if_eq (tgt := 572) hx hb dL_law_565 (by decide) (fun c_9 => absurd c_9 hz) (fun _ => ?_)
    refine lv_iconst (v := 1) hx hb dL_law_568 (by decide) ?_
    refine lv_goto (tgt := 573) hx hb dL_law_569 (by decide) ?_
    have hPc := hP.sub (ws' := cw g h u) [0, 1, 2, 3, 4, 5, 6, 7, 8, 9, 10, 11, 12, 13, 14, 15, 16, 17, 18, 19, 20, 21, 22, 23] rfl
    have hDc := hD.sub (ws' := cw g h u) [0, 1, 2, 3, 4, 5, 6, 7, 8, 9, 10, 11, 12, 13, 14, 15, 16, 17, 18, 19, 20, 21, 22, 23] (by decide) rfl
    have hFc := va_free (wc := cw g h u) hD hS hA [0, 1, 2, 3, 4, 5, 6, 7, 8, 9, 10, 11, 12, 13, 14, 15, 16, 17, 18, 19, 20, 21, 22, 23] rfl
    refine va_calli (vx_runSW (hh := [(0, 6, 9, 33), (0, 6, 12, 35), (0, 6, 15, 15)]) (As := [.ref (h 0), .int (xs (x4 + 1).toNatClampNeg), .int 1]) (rest := []) ⟨hx, hb, hml, hown, hts⟩ (kL_quarantine l hl9 dC dI g h u _ (xs (x4 + 1).toNatClampNeg) 1 (hRc u v hR)) (vx_cwSW 3 hts (lgT wd_465 wd_466 wd_420 wcL_quarantine) rfl rfl rfl (by decide +kernel) ⟨(Nat.le_of_ble_eq_true rfl), (Nat.le_of_ble_eq_true rfl)⟩) ⟨fun a U g mk q => by obtain ⟨q0, q1, qP, qK, qD, qZ, qN⟩ := q; exact ⟨q0, q1, qP, va_K.moved (u := U) (U := U.calling g mk a) (Vm.Alike.refl U.vm) qK, qD, zz_same (u := U) (H := U.heap) rfl rfl qZ, nn_moved (u := U) (U := U.calling g mk a) (Vm.Alike.refl U.vm) qN⟩, fun U hU hW => ⟨rfl, by rw [hU], by rw [hU]; exact hPc, va_K.moved hW.alike hK, hDc.weaken (fun _ _ _ _ => trivial), by rw [hU]; exact zz_to hZ hS hFc hW, nn_moved hW.alike hN⟩⟩ rfl rfl hl.1 rfl (lv_room (Nat.le_of_ble_eq_true rfl)) dL_law_573 ⟨by show 48 + j + 1 ≤ 1082; omega, by show 9269 + 6 * j + 6 ≤ 17521; omega⟩) hS (fun q _ h => hFc q h) hFc (fun r5 q5 t H1 locs ht hvm hw5 hB hz1 hk1 hS => ?_)
    obtain ⟨hP1, hD1⟩ := hB
    rw [ht] at hP1
    obtain ⟨hP, hD⟩ := va_join (wr := mw g h2 v ++ [(o, .inl (g.2.2, 1, .inr (.inl f)))]) (w1 := cw g h q5) hP hD [0, 1, 2, 3, 4, 5, 6, 7, 8, 9, 10, 11, 12, 13, 14, 15, 16, 17, 18, 19, 20, 21, 22, 23] [24, 25, 26, 27, 28, 29, 30, 31, 32, 33, 34, 35, 36, 37, 38, 39, 40, 41, 42, 43, 44, 45, 46, 47] rfl rfl (by decide) (by decide) hk1 hFc hP1 hD1
    have hP := hP.sub (ws' := LW g h h2 o q5 v f) [24, 25, 26, 27, 28, 29, 30, 31, 32, 33, 34, 35, 36, 37, 38, 39, 40, 41, 42, 43, 44, 45, 46, 47, 0, 1, 2, 3, 4, 5, 6, 7, 8, 9, 10, 11, 12, 13, 14, 15, 16, 17, 18, 19, 20, 21, 22, 23] rfl
    have hD := hD.sub (ws' := LW g h h2 o q5 v f) [24, 25, 26, 27, 28, 29, 30, 31, 32, 33, 34, 35, 36, 37, 38, 39, 40, 41, 42, 43, 44, 45, 46, 47, 0, 1, 2, 3, 4, 5, 6, 7, 8, 9, 10, 11, 12, 13, 14, 15, 16, 17, 18, 19, 20, 21, 22, 23] (by decide) rfl
    refine W.widen (k := 48 + (j + 1)) (n := 9269 + 6 * (j + 1)) (by omega) (by omega) ?_
    refine lv_istore (lv' := [(5, .int r5), (0, .ref b), (1, .ref (h 0)), (2, .ref (h2 0)), (3, .ref o), (4, .int x4)]) hx hb dL_law_576 hl (by decide) rfl (fun ls hl => ?_)
    refine lv_aload_n hx hb dL_law_578 rfl (lv_at hl 3 rfl) ?_
    refine lv_aload_n hx hb dL_law_579 rfl (lv_at hl 1 rfl) ?_
    refine lv_iload hx hb dL_law_580 (lv_at hl 5 rfl) ?_
    refine lv_iconst (v := 1) hx hb dL_law_582 (by decide) ?_
    refine lv_iadd hx hb dL_law_583 ?_
    refine va_sld hx hb hX hbl hbA hS i1 dL_law_584 ?_
    refine lv_aload_n hx hb dL_law_585 rfl (lv_at hl 1 rfl) ?_
    refine lv_iload hx hb dL_law_586 (lv_at hl 5 rfl) ?_
    refine lv_iconst (v := 2) hx hb dL_law_588 (by decide) ?_
    refine lv_iadd hx hb dL_law_589 ?_
    refine va_sld hx hb hX hbl hbA hS i2 dL_law_590 ?_
    refine lv_if_eq (tgt := 598) hx hb dL_law_591 (by decide) (fun c_9 => absurd c_9 hz) (fun _ => ?_)
    refine lv_iconst (v := 1) hx hb dL_law_594 (by decide) ?_
    refine lv_goto (tgt := 599) hx hb dL_law_595 (by decide) ?_
    have hPc := hP.sub (ws' := mw g h2 v) [24, 25, 26, 27, 28, 29, 30, 31, 32, 33, 34, 35, 36, 37, 38, 39, 40, 41, 42, 43, 44, 45, 46] rfl
    have hDc := hD.sub (ws' := mw g h2 v) [24, 25, 26, 27, 28, 29, 30, 31, 32, 33, 34, 35, 36, 37, 38, 39, 40, 41, 42, 43, 44, 45, 46] (by decide) rfl
    have hFc := va_free (wc := mw g h2 v) hD hS hA [24, 25, 26, 27, 28, 29, 30, 31, 32, 33, 34, 35, 36, 37, 38, 39, 40, 41, 42, 43, 44, 45, 46] rfl
    refine va_callv (va_runV (As := [.int (xs (x4 + 1).toNatClampNeg), .int 1]) (rest := []) ⟨hx, hb, hml, hown, hts⟩ (kX5_quarantine l dC dI g h2 v _ (xs (x4 + 1).toNatClampNeg) 1 (hRm u v hR)) (cwV 2 hts (lgV wd_468 wd_469 wd_470 wd_241 wcX5_quarantine) rfl rfl rfl (by decide +kernel) ⟨(Nat.le_of_ble_eq_true rfl), (Nat.le_of_ble_eq_true rfl)⟩) ⟨fun a U g mk q => by obtain ⟨q0, q1, qP, qK, qD⟩ := q; exact ⟨q0, q1, qP, va_K.moved (u := U) (U := U.calling g mk a) (Vm.Alike.refl U.vm) qK, qD⟩, va_recv hK hPc (ci := 4) (q0 := 0) rfl (mw_at0 _ _ _), fun U hU hW => ⟨rfl, by rw [hU], by rw [hU]; exact hPc, va_K.moved hW.alike hK, hDc.weaken (fun _ _ _ _ => trivial)⟩⟩ rfl rfl hl.1 rfl (lv_room (Nat.le_of_ble_eq_true rfl)) dL_law_599 ⟨by show 48 + (j + 1) + 0 ≤ 1082; omega, by show 9269 + 6 * (j + 1) + 0 ≤ 17521; omega⟩) hS (fun q _ h => hFc q h) hFc (fun v6 t H1 locs ht hvm hw6 hB hz1 hk1 hS => ?_)
    obtain ⟨hP1, hD1⟩ := hB
    rw [ht] at hP1
    obtain ⟨hP, hD⟩ := va_join (wr := ow g h o q5 f) (w1 := mw g h2 v6) hP hD [24, 25, 26, 27, 28, 29, 30, 31, 32, 33, 34, 35, 36, 37, 38, 39, 40, 41, 42, 43, 44, 45, 46] [0, 1, 2, 3, 4, 5, 6, 7, 8, 9, 10, 11, 12, 13, 14, 15, 16, 17, 18, 19, 20, 21, 22, 23, 47] rfl rfl (by decide) (by decide) hk1 hFc hP1 hD1
    have hP := hP.sub (ws' := LW g h h2 o q5 v6 f) [0, 1, 2, 3, 4, 5, 6, 7, 8, 9, 10, 11, 12, 13, 14, 15, 16, 17, 18, 19, 20, 21, 22, 23, 25, 26, 27, 28, 29, 30, 31, 32, 33, 34, 35, 36, 37, 38, 39, 40, 41, 42, 43, 44, 45, 46, 47, 24] rfl
    have hD := hD.sub (ws' := LW g h h2 o q5 v6 f) [0, 1, 2, 3, 4, 5, 6, 7, 8, 9, 10, 11, 12, 13, 14, 15, 16, 17, 18, 19, 20, 21, 22, 23, 25, 26, 27, 28, 29, 30, 31, 32, 33, 34, 35, 36, 37, 38, 39, 40, 41, 42, 43, 44, 45, 46, 47, 24] (by decide) rfl
    have hq := hst u v (xs (x4 + 1).toNatClampNeg) 1 hR (Or.inr rfl)
    rw [← hw6, ← hw5.1] at hq
    have hq1 := hq.1
    have hq3 := hq.2
    refine lv_aload_n hx hb dL_law_602 rfl (lv_at hl 3 rfl) ?_
    have hPc := hP.sub (ws' := mw g h2 v6) [24, 25, 26, 27, 28, 29, 30, 31, 32, 33, 34, 35, 36, 37, 38, 39, 40, 41, 42, 43, 44, 45, 46] rfl
    refine vp_callSi (W.runV (As := []) (rest := []) ⟨hx, hb, hml, hown, hts⟩ (kX5_thrown l dC dI g h2 v6) (cwV 0 hts (lgV wd_426 wd_427 wd_428 wd_241 wcX5_thrown) rfl rfl rfl (by decide +kernel) ⟨(Nat.le_of_ble_eq_true rfl), (Nat.le_of_ble_eq_true rfl)⟩) ⟨fun a U g mk q => by obtain ⟨q0, qP, qK⟩ := q; exact ⟨q0, qP, va_K.moved (u := U) (U := U.calling g mk a) (Vm.Alike.refl U.vm) qK⟩, va_recv hK hPc (ci := 4) (q0 := 0) rfl (mw_at0 _ _ _), fun U hU hW => ⟨rfl, by rw [hU]; exact hPc, va_K.moved hW.alike hK⟩⟩ rfl rfl hl.1 rfl (lv_room (Nat.le_of_ble_eq_true rfl)) dL_law_603 ⟨by show 48 + (j + 1) + 0 ≤ 1082; omega, by show 9269 + 6 * (j + 1) + 0 ≤ 17521; omega⟩) (fun r7 hw7 => ?_)
    refine lv_iload hx hb dL_law_606 (lv_at hl 0 rfl) ?_
    refine lv_icmp_eq (tgt := 613) hx hb dL_law_608 (by decide) (fun c_1 => ?_) (fun c_1 => absurd (hw7.trans hq1) c_1)
    refine lv_goto (tgt := 1552) hx hb dL_law_613 (by decide) ?_
    have hRR : Rl q5 v6 := by rw [hw5.2]; exact hq3
    exact K q5 v6 f _ _ _ hRR hP hD hS (lv_sub hl [1, 2, 3, 4, 5] rfl)
set_option maxHeartbeats 4000000 in
set_option maxRecDepth 100000 in
theorem lc_order {p : Program} {l : Launch} {e : Env} {s : State} {m : MethodId} {below : List Frame} {meth : Method} {c : Code} {b L : Nat} {xs : Nat → Int32} {dC : Nat → ClassId} {dI : Nat → Nat → Nat} {g : cG} {h h2 : Nat → Nat} {o : Nat} (X0 : lw_X p l s m meth c b L xs) (Rl : cS → mS → Prop) (hRc : ∀ (u : cS) (v : mS), Rl u v → cInv u) (hRm : ∀ (u : cS) (v : mS), Rl u v → mInv v) (hst : ∀ (u : cS) (v : mS) (x1 : Int32) (x2 : Int32) (x3 : Int32), Rl u v → k_mcode (fX5_order v x1 x2 x3).2 = wk [2] (fX4_order u x1 x2 x3).1 ∧ ((fX4_order u x1 x2 x3).1 = 0 → (fX4_order u x1 x2 x3).2.1 = (fX5_order v x1 x2 x3).1) ∧ Rl (fX4_order u x1 x2 x3).2.2 (fX5_order v x1 x2 x3).2) (hL : L ≤ 2560) (hK : va_K (dC, dI) vwCl (cTys g) s) (j : Nat) (x4 : Int32) (hx4 : x4.toInt = 5 * (j : Int)) (hj : 5 * j + 5 ≤ L) (u : cS) (v : mS) (f : Nat → Int64) (hR : Rl u v) (H : Heap) (locs : List Loc) (hP : va_P (dC, dI) vwCl (LW g h h2 o u v f) H) (hD : va_D (fun q : Nat => s.heap.size ≤ q) (LW g h h2 o u v f)) (hS : va_S (fun q : Nat => s.heap.size ≤ q) s.heap H locs) (ls : Array Slot) (hl : lv_has ls 7 [(0, .ref b), (1, .ref (h 0)), (2, .ref (h2 0)), (3, .ref o), (4, .int x4)])
    (K : ∀ (u : cS) (v : mS) (f : Nat → Int64) (H : Heap) (locs : List Loc) (ls : Array Slot), Rl u v → va_P (dC, dI) vwCl (LW g h h2 o u v f) H → va_D (fun q : Nat => s.heap.size ≤ q) (LW g h h2 o u v f) → va_S (fun q : Nat => s.heap.size ≤ q) s.heap H locs → lv_has ls 7 [(0, .ref b), (1, .ref (h 0)), (2, .ref (h2 0)), (3, .ref o), (4, .int x4)] → W p l e room_1 s m #[Value.ref b] below meth c H locs (48 + (j + 1)) (9269 + 6 * (j + 1)) (lw_Z below #[Value.ref b] s) (F0 m 1552 ls [])) :
    W p l e room_1 s m #[Value.ref b] below meth c H locs (48 + j) (9269 + 6 * j) (lw_Z below #[Value.ref b] s) (F0 m 616 ls []) := by
  obtain ⟨⟨hx, hb, hr, hml, hown, hts, hX, hbl, hlocks, hgv⟩, hl9, hZ, hN⟩ := X0
  have hA : ∀ q : Nat, s.heap.size ≤ q → (fun q : Nat => s.heap.size ≤ q) q := fun _ h => h
  have hbA : ¬ (fun q : Nat => s.heap.size ≤ q) b := Nat.not_le.mpr hbl
  have n1 : (1 : Int32).toInt = 1 := by decide
  have e1 := i_add (x := x4) (y := 1) (by omega) (by omega)
  have i1 : vp_in (x4 + 1) L := vp_in_iff.mpr (by omega)
  have n2 : (2 : Int32).toInt = 2 := by decide
  have e2 := i_add (x := x4) (y := 2) (by omega) (by omega)
  have i2 : vp_in (x4 + 2) L := vp_in_iff.mpr (by omega)
  have n3 : (3 : Int32).toInt = 3 := by decide
  have e3 := i_add (x := x4) (y := 3) (by omega) (by omega)
  have i3 : vp_in (x4 + 3) L := vp_in_iff.mpr (by omega)
  have n4 : (4 : Int32).toInt = 4 := by decide
  have e4 := i_add (x := x4) (y := 4) (by omega) (by omega)
  have i4 : vp_in (x4 + 4) L := vp_in_iff.mpr (by omega)
  refine lv_aload_n hx hb dL_law_616 rfl (lv_at hl 1 rfl) ?_
  refine lv_aload_n hx hb dL_law_617 rfl (lv_at hl 0 rfl) ?_
  refine lv_iload hx hb dL_law_618 (lv_at hl 4 rfl) ?_
  refine lv_iconst (v := 1) hx hb dL_law_620 (by decide) ?_
  refine lv_iadd hx hb dL_law_621 ?_
  refine va_sld hx hb hX hbl hbA hS i1 dL_law_622 ?_
  refine lv_aload_n hx hb dL_law_623 rfl (lv_at hl 0 rfl) ?_
  refine lv_iload hx hb dL_law_624 (lv_at hl 4 rfl) ?_
  refine lv_iconst (v := 2) hx hb dL_law_626 (by decide) ?_
  refine lv_iadd hx hb dL_law_627 ?_
  refine va_sld hx hb hX hbl hbA hS i2 dL_law_628 ?_
  refine lv_aload_n hx hb dL_law_629 rfl (lv_at hl 0 rfl) ?_
  refine lv_iload hx hb dL_law_630 (lv_at hl 4 rfl) ?_
  refine lv_iconst (v := 3) hx hb dL_law_632 (by decide) ?_
  refine lv_iadd hx hb dL_law_633 ?_
  refine va_sld hx hb hX hbl hbA hS i3 dL_law_634 ?_
  refine lv_aload_n hx hb dL_law_635 rfl (lv_at hl 3 rfl) ?_
  have hPc := hP.sub (ws' := ow g h o u f) [0, 1, 2, 3, 4, 5, 6, 7, 8, 9, 10, 11, 12, 13, 14, 15, 16, 17, 18, 19, 20, 21, 22, 23, 47] rfl
  have hDc := hD.sub (ws' := ow g h o u f) [0, 1, 2, 3, 4, 5, 6, 7, 8, 9, 10, 11, 12, 13, 14, 15, 16, 17, 18, 19, 20, 21, 22, 23, 47] (by decide) rfl
  have hFc := va_free (wc := ow g h o u f) hD hS hA [0, 1, 2, 3, 4, 5, 6, 7, 8, 9, 10, 11, 12, 13, 14, 15, 16, 17, 18, 19, 20, 21, 22, 23, 47] rfl
  refine va_calli (vx_runSW (hh := [(0, 12, 15, 13)]) (As := [.ref (h 0), .int (xs (x4 + 1).toNatClampNeg), .int (xs (x4 + 2).toNatClampNeg), .int (xs (x4 + 3).toNatClampNeg), .ref o]) (rest := []) ⟨hx, hb, hml, hown, hts⟩ (kL_order l hl9 dC dI g h o u f _ (xs (x4 + 1).toNatClampNeg) (xs (x4 + 2).toNatClampNeg) (xs (x4 + 3).toNatClampNeg) (hRc u v hR)) (vx_cwSW 5 hts (lgT wd_472 wd_473 wd_420 wcL_order) rfl rfl rfl (by decide +kernel) ⟨(Nat.le_of_ble_eq_true rfl), (Nat.le_of_ble_eq_true rfl)⟩) ⟨fun a U g mk q => by obtain ⟨q0, q1, qP, qK, qD, qZ, qN⟩ := q; exact ⟨q0, q1, qP, va_K.moved (u := U) (U := U.calling g mk a) (Vm.Alike.refl U.vm) qK, qD, zz_same (u := U) (H := U.heap) rfl rfl qZ, nn_moved (u := U) (U := U.calling g mk a) (Vm.Alike.refl U.vm) qN⟩, fun U hU hW => ⟨rfl, by rw [hU], by rw [hU]; exact hPc, va_K.moved hW.alike hK, hDc.weaken (fun _ _ _ _ => trivial), by rw [hU]; exact zz_to hZ hS hFc hW, nn_moved hW.alike hN⟩⟩ rfl rfl hl.1 rfl (lv_room (Nat.le_of_ble_eq_true rfl)) dL_law_636 ⟨by show 48 + j + 1 ≤ 1082; omega, by show 9269 + 6 * j + 6 ≤ 17521; omega⟩) hS (fun q _ h => hFc q h) hFc (fun r5 q5 t H1 locs ht hvm hw5 hB hz1 hk1 hS => ?_)
  obtain ⟨hP1, hD1⟩ := hB
  rw [ht] at hP1
  obtain ⟨hP, hD⟩ := va_join (wr := mw g h2 v) (w1 := ow g h o q5.1 q5.2) hP hD [0, 1, 2, 3, 4, 5, 6, 7, 8, 9, 10, 11, 12, 13, 14, 15, 16, 17, 18, 19, 20, 21, 22, 23, 47] [24, 25, 26, 27, 28, 29, 30, 31, 32, 33, 34, 35, 36, 37, 38, 39, 40, 41, 42, 43, 44, 45, 46] rfl rfl (by decide) (by decide) hk1 hFc hP1 hD1
  have hP := hP.sub (ws' := LW g h h2 o q5.1 v q5.2) [23, 24, 25, 26, 27, 28, 29, 30, 31, 32, 33, 34, 35, 36, 37, 38, 39, 40, 41, 42, 43, 44, 45, 46, 0, 1, 2, 3, 4, 5, 6, 7, 8, 9, 10, 11, 12, 13, 14, 15, 16, 17, 18, 19, 20, 21, 22, 47] rfl
  have hD := hD.sub (ws' := LW g h h2 o q5.1 v q5.2) [23, 24, 25, 26, 27, 28, 29, 30, 31, 32, 33, 34, 35, 36, 37, 38, 39, 40, 41, 42, 43, 44, 45, 46, 0, 1, 2, 3, 4, 5, 6, 7, 8, 9, 10, 11, 12, 13, 14, 15, 16, 17, 18, 19, 20, 21, 22, 47] (by decide) rfl
  refine W.widen (k := 48 + (j + 1)) (n := 9269 + 6 * (j + 1)) (by omega) (by omega) ?_
  refine lv_istore (lv' := [(5, .int r5), (0, .ref b), (1, .ref (h 0)), (2, .ref (h2 0)), (3, .ref o), (4, .int x4)]) hx hb dL_law_639 hl (by decide) rfl (fun ls hl => ?_)
  refine lv_aload_n hx hb dL_law_641 rfl (lv_at hl 3 rfl) ?_
  refine lv_aload_n hx hb dL_law_642 rfl (lv_at hl 1 rfl) ?_
  refine lv_iload hx hb dL_law_643 (lv_at hl 5 rfl) ?_
  refine lv_iconst (v := 1) hx hb dL_law_645 (by decide) ?_
  refine lv_iadd hx hb dL_law_646 ?_
  refine va_sld hx hb hX hbl hbA hS i1 dL_law_647 ?_
  refine lv_aload_n hx hb dL_law_648 rfl (lv_at hl 1 rfl) ?_
  refine lv_iload hx hb dL_law_649 (lv_at hl 5 rfl) ?_
  refine lv_iconst (v := 2) hx hb dL_law_651 (by decide) ?_
  refine lv_iadd hx hb dL_law_652 ?_
  refine va_sld hx hb hX hbl hbA hS i2 dL_law_653 ?_
  refine lv_aload_n hx hb dL_law_654 rfl (lv_at hl 1 rfl) ?_
  refine lv_iload hx hb dL_law_655 (lv_at hl 5 rfl) ?_
  refine lv_iconst (v := 3) hx hb dL_law_657 (by decide) ?_
  refine lv_iadd hx hb dL_law_658 ?_
  refine va_sld hx hb hX hbl hbA hS i3 dL_law_659 ?_
  have hPc := hP.sub (ws' := mw g h2 v) [24, 25, 26, 27, 28, 29, 30, 31, 32, 33, 34, 35, 36, 37, 38, 39, 40, 41, 42, 43, 44, 45, 46] rfl
  have hDc := hD.sub (ws' := mw g h2 v) [24, 25, 26, 27, 28, 29, 30, 31, 32, 33, 34, 35, 36, 37, 38, 39, 40, 41, 42, 43, 44, 45, 46] (by decide) rfl
  have hFc := va_free (wc := mw g h2 v) hD hS hA [24, 25, 26, 27, 28, 29, 30, 31, 32, 33, 34, 35, 36, 37, 38, 39, 40, 41, 42, 43, 44, 45, 46] rfl
  refine va_calli (va_runV (As := [.int (xs (x4 + 1).toNatClampNeg), .int (xs (x4 + 2).toNatClampNeg), .int (xs (x4 + 3).toNatClampNeg)]) (rest := []) ⟨hx, hb, hml, hown, hts⟩ (kX5_order l dC dI g h2 v _ (xs (x4 + 1).toNatClampNeg) (xs (x4 + 2).toNatClampNeg) (xs (x4 + 3).toNatClampNeg) (hRm u v hR)) (cwV 3 hts (lgV wd_475 wd_476 wd_477 wd_241 wcX5_order) rfl rfl rfl (by decide +kernel) ⟨(Nat.le_of_ble_eq_true rfl), (Nat.le_of_ble_eq_true rfl)⟩) ⟨fun a U g mk q => by obtain ⟨q0, q1, qP, qK, qD⟩ := q; exact ⟨q0, q1, qP, va_K.moved (u := U) (U := U.calling g mk a) (Vm.Alike.refl U.vm) qK, qD⟩, va_recv hK hPc (ci := 4) (q0 := 0) rfl (mw_at0 _ _ _), fun U hU hW => ⟨rfl, by rw [hU], by rw [hU]; exact hPc, va_K.moved hW.alike hK, hDc.weaken (fun _ _ _ _ => trivial)⟩⟩ rfl rfl hl.1 rfl (lv_room (Nat.le_of_ble_eq_true rfl)) dL_law_660 ⟨by show 48 + (j + 1) + 0 ≤ 1082; omega, by show 9269 + 6 * (j + 1) + 0 ≤ 17521; omega⟩) hS (fun q _ h => hFc q h) hFc (fun r6 v6 t H1 locs ht hvm hw6 hB hz1 hk1 hS => ?_)
  obtain ⟨hP1, hD1⟩ := hB
  rw [ht] at hP1
  obtain ⟨hP, hD⟩ := va_join (wr := ow g h o q5.1 q5.2) (w1 := mw g h2 v6) hP hD [24, 25, 26, 27, 28, 29, 30, 31, 32, 33, 34, 35, 36, 37, 38, 39, 40, 41, 42, 43, 44, 45, 46] [0, 1, 2, 3, 4, 5, 6, 7, 8, 9, 10, 11, 12, 13, 14, 15, 16, 17, 18, 19, 20, 21, 22, 23, 47] rfl rfl (by decide) (by decide) hk1 hFc hP1 hD1
  have hP := hP.sub (ws' := LW g h h2 o q5.1 v6 q5.2) [0, 1, 2, 3, 4, 5, 6, 7, 8, 9, 10, 11, 12, 13, 14, 15, 16, 17, 18, 19, 20, 21, 22, 23, 25, 26, 27, 28, 29, 30, 31, 32, 33, 34, 35, 36, 37, 38, 39, 40, 41, 42, 43, 44, 45, 46, 47, 24] rfl
  have hD := hD.sub (ws' := LW g h h2 o q5.1 v6 q5.2) [0, 1, 2, 3, 4, 5, 6, 7, 8, 9, 10, 11, 12, 13, 14, 15, 16, 17, 18, 19, 20, 21, 22, 23, 25, 26, 27, 28, 29, 30, 31, 32, 33, 34, 35, 36, 37, 38, 39, 40, 41, 42, 43, 44, 45, 46, 47, 24] (by decide) rfl
  have hq := hst u v (xs (x4 + 1).toNatClampNeg) (xs (x4 + 2).toNatClampNeg) (xs (x4 + 3).toNatClampNeg) hR
  rw [← hw6, ← hw5.1] at hq
  have hq1 := hq.1
  have hq2 := hq.2.1
  have hq3 := hq.2.2
  refine lv_istore (lv' := [(6, .int r6), (5, .int r5), (0, .ref b), (1, .ref (h 0)), (2, .ref (h2 0)), (3, .ref o), (4, .int x4)]) hx hb dL_law_663 hl (by decide) rfl (fun ls hl => ?_)
  refine lv_aload_n hx hb dL_law_665 rfl (lv_at hl 4 rfl) ?_
  have hPc := hP.sub (ws' := mw g h2 v6) [24, 25, 26, 27, 28, 29, 30, 31, 32, 33, 34, 35, 36, 37, 38, 39, 40, 41, 42, 43, 44, 45, 46] rfl
  refine vp_callSi (W.runV (As := []) (rest := []) ⟨hx, hb, hml, hown, hts⟩ (kX5_thrown l dC dI g h2 v6) (cwV 0 hts (lgV wd_426 wd_427 wd_428 wd_241 wcX5_thrown) rfl rfl rfl (by decide +kernel) ⟨(Nat.le_of_ble_eq_true rfl), (Nat.le_of_ble_eq_true rfl)⟩) ⟨fun a U g mk q => by obtain ⟨q0, qP, qK⟩ := q; exact ⟨q0, qP, va_K.moved (u := U) (U := U.calling g mk a) (Vm.Alike.refl U.vm) qK⟩, va_recv hK hPc (ci := 4) (q0 := 0) rfl (mw_at0 _ _ _), fun U hU hW => ⟨rfl, by rw [hU]; exact hPc, va_K.moved hW.alike hK⟩⟩ rfl rfl hl.1 rfl (lv_room (Nat.le_of_ble_eq_true rfl)) dL_law_666 ⟨by show 48 + (j + 1) + 0 ≤ 1082; omega, by show 9269 + 6 * (j + 1) + 0 ≤ 17521; omega⟩) (fun r7 hw7 => ?_)
  refine lv_iload hx hb dL_law_669 (lv_at hl 1 rfl) ?_
  refine lv_icmp_eq (tgt := 676) hx hb dL_law_671 (by decide) (fun c_1 => ?_) (fun c_1 => absurd (hw7.trans hq1) c_1)
  refine lv_iload hx hb dL_law_676 (lv_at hl 1 rfl) ?_
  refine lv_if_ne (tgt := 693) hx hb dL_law_678 (by decide) (fun c_2 => ?_) (fun c_2 => ?_)
  · skip
    refine lv_goto (tgt := 1552) hx hb dL_law_693 (by decide) ?_
    have hRR : Rl q5.1 v6 := by rw [hw5.2]; exact hq3
    exact K q5.1 v6 q5.2 _ _ _ hRR hP hD hS (lv_sub hl [2, 3, 4, 5, 6] rfl)
  · skip
    have hk0 := wk_0 (by decide) (hw5.1.symm.trans c_2)
    have hv0 := hq2 hk0
    refine lv_aload_n hx hb dL_law_681 rfl (lv_at hl 5 rfl) ?_
    refine lv_iconst (v := 0) hx hb dL_law_682 (by decide) ?_
    refine va_lald (f := q5.2) hx hb hK hP 47 2 (LW_at47 _ _ _ _ _ _ _) rfl (vp_in_iff.mpr (by decide)) dL_law_683 ?_
    refine lv_iload hx hb dL_law_684 (lv_at hl 0 rfl) ?_
    refine lv_i2l (v := r6.toInt64) hx hb dL_law_686 rfl ?_
    refine W.lcmp hx hb dL_law_687 ?_
    have ho : q5.2 (0 : Int32).toNatClampNeg = r6.toInt64 := by
      rw [hw5.2]; show (if (fX4_order u (xs (x4 + 1).toNatClampNeg) (xs (x4 + 2).toNatClampNeg) (xs (x4 + 3).toNatClampNeg)).1 = 0 then vp_updL f (0 : Int32).toNatClampNeg (fX4_order u (xs (x4 + 1).toNatClampNeg) (xs (x4 + 2).toNatClampNeg) (xs (x4 + 3).toNatClampNeg)).2.1.toInt64 else f) _ = r6.toInt64
      rw [if_pos hk0, pk_uLs, hv0]
    rw [ho, lg_self]
    refine lv_if_eq (tgt := 693) hx hb dL_law_688 (by decide) (fun _ => ?_) (fun c_4 => absurd rfl c_4)
    refine lv_goto (tgt := 1552) hx hb dL_law_693 (by decide) ?_
    have hRR : Rl q5.1 v6 := by rw [hw5.2]; exact hq3
    exact K q5.1 v6 q5.2 _ _ _ hRR hP hD hS (lv_sub hl [2, 3, 4, 5, 6] rfl)
set_option maxHeartbeats 4000000 in
set_option maxRecDepth 100000 in
theorem lc_allowed {p : Program} {l : Launch} {e : Env} {s : State} {m : MethodId} {below : List Frame} {meth : Method} {c : Code} {b L : Nat} {xs : Nat → Int32} {dC : Nat → ClassId} {dI : Nat → Nat → Nat} {g : cG} {h h2 : Nat → Nat} {o : Nat} (X0 : lw_X p l s m meth c b L xs) (Rl : cS → mS → Prop) (hRc : ∀ (u : cS) (v : mS), Rl u v → cInv u) (hRm : ∀ (u : cS) (v : mS), Rl u v → mInv v) (hst : ∀ (u : cS) (v : mS) (x1 : Int32) (x2 : Int32) (x3 : Int32), Rl u v → k_mcode (fX5_allowed v x1 x2 x3).2 = wk [1, 2] (fX4_allowed u x1 x2 x3).1 ∧ ((fX4_allowed u x1 x2 x3).1 = 0 → (fX4_allowed u x1 x2 x3).2.1 = (fX5_allowed v x1 x2 x3).1) ∧ Rl (fX4_allowed u x1 x2 x3).2.2 (fX5_allowed v x1 x2 x3).2) (hL : L ≤ 2560) (hK : va_K (dC, dI) vwCl (cTys g) s) (j : Nat) (x4 : Int32) (hx4 : x4.toInt = 5 * (j : Int)) (hj : 5 * j + 5 ≤ L) (u : cS) (v : mS) (f : Nat → Int64) (hR : Rl u v) (H : Heap) (locs : List Loc) (hP : va_P (dC, dI) vwCl (LW g h h2 o u v f) H) (hD : va_D (fun q : Nat => s.heap.size ≤ q) (LW g h h2 o u v f)) (hS : va_S (fun q : Nat => s.heap.size ≤ q) s.heap H locs) (ls : Array Slot) (hl : lv_has ls 7 [(0, .ref b), (1, .ref (h 0)), (2, .ref (h2 0)), (3, .ref o), (4, .int x4)])
    (K : ∀ (u : cS) (v : mS) (f : Nat → Int64) (H : Heap) (locs : List Loc) (ls : Array Slot), Rl u v → va_P (dC, dI) vwCl (LW g h h2 o u v f) H → va_D (fun q : Nat => s.heap.size ≤ q) (LW g h h2 o u v f) → va_S (fun q : Nat => s.heap.size ≤ q) s.heap H locs → lv_has ls 7 [(0, .ref b), (1, .ref (h 0)), (2, .ref (h2 0)), (3, .ref o), (4, .int x4)] → W p l e room_1 s m #[Value.ref b] below meth c H locs (48 + (j + 1)) (9269 + 6 * (j + 1)) (lw_Z below #[Value.ref b] s) (F0 m 1552 ls [])) :
    W p l e room_1 s m #[Value.ref b] below meth c H locs (48 + j) (9269 + 6 * j) (lw_Z below #[Value.ref b] s) (F0 m 696 ls []) := by
  obtain ⟨⟨hx, hb, hr, hml, hown, hts, hX, hbl, hlocks, hgv⟩, hl9, hZ, hN⟩ := X0
  have hA : ∀ q : Nat, s.heap.size ≤ q → (fun q : Nat => s.heap.size ≤ q) q := fun _ h => h
  have hbA : ¬ (fun q : Nat => s.heap.size ≤ q) b := Nat.not_le.mpr hbl
  have n1 : (1 : Int32).toInt = 1 := by decide
  have e1 := i_add (x := x4) (y := 1) (by omega) (by omega)
  have i1 : vp_in (x4 + 1) L := vp_in_iff.mpr (by omega)
  have n2 : (2 : Int32).toInt = 2 := by decide
  have e2 := i_add (x := x4) (y := 2) (by omega) (by omega)
  have i2 : vp_in (x4 + 2) L := vp_in_iff.mpr (by omega)
  have n3 : (3 : Int32).toInt = 3 := by decide
  have e3 := i_add (x := x4) (y := 3) (by omega) (by omega)
  have i3 : vp_in (x4 + 3) L := vp_in_iff.mpr (by omega)
  have n4 : (4 : Int32).toInt = 4 := by decide
  have e4 := i_add (x := x4) (y := 4) (by omega) (by omega)
  have i4 : vp_in (x4 + 4) L := vp_in_iff.mpr (by omega)
  refine lv_aload_n hx hb dL_law_696 rfl (lv_at hl 1 rfl) ?_
  refine lv_aload_n hx hb dL_law_697 rfl (lv_at hl 0 rfl) ?_
  refine lv_iload hx hb dL_law_698 (lv_at hl 4 rfl) ?_
  refine lv_iconst (v := 1) hx hb dL_law_700 (by decide) ?_
  refine lv_iadd hx hb dL_law_701 ?_
  refine va_sld hx hb hX hbl hbA hS i1 dL_law_702 ?_
  refine lv_aload_n hx hb dL_law_703 rfl (lv_at hl 0 rfl) ?_
  refine lv_iload hx hb dL_law_704 (lv_at hl 4 rfl) ?_
  refine lv_iconst (v := 2) hx hb dL_law_706 (by decide) ?_
  refine lv_iadd hx hb dL_law_707 ?_
  refine va_sld hx hb hX hbl hbA hS i2 dL_law_708 ?_
  refine lv_aload_n hx hb dL_law_709 rfl (lv_at hl 0 rfl) ?_
  refine lv_iload hx hb dL_law_710 (lv_at hl 4 rfl) ?_
  refine lv_iconst (v := 3) hx hb dL_law_712 (by decide) ?_
  refine lv_iadd hx hb dL_law_713 ?_
  refine va_sld hx hb hX hbl hbA hS i3 dL_law_714 ?_
  refine lv_aload_n hx hb dL_law_715 rfl (lv_at hl 3 rfl) ?_
  have hPc := hP.sub (ws' := ow g h o u f) [0, 1, 2, 3, 4, 5, 6, 7, 8, 9, 10, 11, 12, 13, 14, 15, 16, 17, 18, 19, 20, 21, 22, 23, 47] rfl
  have hDc := hD.sub (ws' := ow g h o u f) [0, 1, 2, 3, 4, 5, 6, 7, 8, 9, 10, 11, 12, 13, 14, 15, 16, 17, 18, 19, 20, 21, 22, 23, 47] (by decide) rfl
  have hFc := va_free (wc := ow g h o u f) hD hS hA [0, 1, 2, 3, 4, 5, 6, 7, 8, 9, 10, 11, 12, 13, 14, 15, 16, 17, 18, 19, 20, 21, 22, 23, 47] rfl
  refine va_calli (vx_runSW (hh := [(0, 19, 22, 33), (0, 19, 26, 13)]) (As := [.ref (h 0), .int (xs (x4 + 1).toNatClampNeg), .int (xs (x4 + 2).toNatClampNeg), .int (xs (x4 + 3).toNatClampNeg), .ref o]) (rest := []) ⟨hx, hb, hml, hown, hts⟩ (kL_allowed l hl9 dC dI g h o u f _ (xs (x4 + 1).toNatClampNeg) (xs (x4 + 2).toNatClampNeg) (xs (x4 + 3).toNatClampNeg) (hRc u v hR)) (vx_cwSW 5 hts (lgT wd_479 wd_480 wd_420 wcL_allowed) rfl rfl rfl (by decide +kernel) ⟨(Nat.le_of_ble_eq_true rfl), (Nat.le_of_ble_eq_true rfl)⟩) ⟨fun a U g mk q => by obtain ⟨q0, q1, qP, qK, qD, qZ, qN⟩ := q; exact ⟨q0, q1, qP, va_K.moved (u := U) (U := U.calling g mk a) (Vm.Alike.refl U.vm) qK, qD, zz_same (u := U) (H := U.heap) rfl rfl qZ, nn_moved (u := U) (U := U.calling g mk a) (Vm.Alike.refl U.vm) qN⟩, fun U hU hW => ⟨rfl, by rw [hU], by rw [hU]; exact hPc, va_K.moved hW.alike hK, hDc.weaken (fun _ _ _ _ => trivial), by rw [hU]; exact zz_to hZ hS hFc hW, nn_moved hW.alike hN⟩⟩ rfl rfl hl.1 rfl (lv_room (Nat.le_of_ble_eq_true rfl)) dL_law_716 ⟨by show 48 + j + 1 ≤ 1082; omega, by show 9269 + 6 * j + 6 ≤ 17521; omega⟩) hS (fun q _ h => hFc q h) hFc (fun r5 q5 t H1 locs ht hvm hw5 hB hz1 hk1 hS => ?_)
  obtain ⟨hP1, hD1⟩ := hB
  rw [ht] at hP1
  obtain ⟨hP, hD⟩ := va_join (wr := mw g h2 v) (w1 := ow g h o q5.1 q5.2) hP hD [0, 1, 2, 3, 4, 5, 6, 7, 8, 9, 10, 11, 12, 13, 14, 15, 16, 17, 18, 19, 20, 21, 22, 23, 47] [24, 25, 26, 27, 28, 29, 30, 31, 32, 33, 34, 35, 36, 37, 38, 39, 40, 41, 42, 43, 44, 45, 46] rfl rfl (by decide) (by decide) hk1 hFc hP1 hD1
  have hP := hP.sub (ws' := LW g h h2 o q5.1 v q5.2) [23, 24, 25, 26, 27, 28, 29, 30, 31, 32, 33, 34, 35, 36, 37, 38, 39, 40, 41, 42, 43, 44, 45, 46, 0, 1, 2, 3, 4, 5, 6, 7, 8, 9, 10, 11, 12, 13, 14, 15, 16, 17, 18, 19, 20, 21, 22, 47] rfl
  have hD := hD.sub (ws' := LW g h h2 o q5.1 v q5.2) [23, 24, 25, 26, 27, 28, 29, 30, 31, 32, 33, 34, 35, 36, 37, 38, 39, 40, 41, 42, 43, 44, 45, 46, 0, 1, 2, 3, 4, 5, 6, 7, 8, 9, 10, 11, 12, 13, 14, 15, 16, 17, 18, 19, 20, 21, 22, 47] (by decide) rfl
  refine W.widen (k := 48 + (j + 1)) (n := 9269 + 6 * (j + 1)) (by omega) (by omega) ?_
  refine lv_istore (lv' := [(5, .int r5), (0, .ref b), (1, .ref (h 0)), (2, .ref (h2 0)), (3, .ref o), (4, .int x4)]) hx hb dL_law_719 hl (by decide) rfl (fun ls hl => ?_)
  refine lv_aload_n hx hb dL_law_721 rfl (lv_at hl 3 rfl) ?_
  refine lv_aload_n hx hb dL_law_722 rfl (lv_at hl 1 rfl) ?_
  refine lv_iload hx hb dL_law_723 (lv_at hl 5 rfl) ?_
  refine lv_iconst (v := 1) hx hb dL_law_725 (by decide) ?_
  refine lv_iadd hx hb dL_law_726 ?_
  refine va_sld hx hb hX hbl hbA hS i1 dL_law_727 ?_
  refine lv_aload_n hx hb dL_law_728 rfl (lv_at hl 1 rfl) ?_
  refine lv_iload hx hb dL_law_729 (lv_at hl 5 rfl) ?_
  refine lv_iconst (v := 2) hx hb dL_law_731 (by decide) ?_
  refine lv_iadd hx hb dL_law_732 ?_
  refine va_sld hx hb hX hbl hbA hS i2 dL_law_733 ?_
  refine lv_aload_n hx hb dL_law_734 rfl (lv_at hl 1 rfl) ?_
  refine lv_iload hx hb dL_law_735 (lv_at hl 5 rfl) ?_
  refine lv_iconst (v := 3) hx hb dL_law_737 (by decide) ?_
  refine lv_iadd hx hb dL_law_738 ?_
  refine va_sld hx hb hX hbl hbA hS i3 dL_law_739 ?_
  have hPc := hP.sub (ws' := mw g h2 v) [24, 25, 26, 27, 28, 29, 30, 31, 32, 33, 34, 35, 36, 37, 38, 39, 40, 41, 42, 43, 44, 45, 46] rfl
  have hDc := hD.sub (ws' := mw g h2 v) [24, 25, 26, 27, 28, 29, 30, 31, 32, 33, 34, 35, 36, 37, 38, 39, 40, 41, 42, 43, 44, 45, 46] (by decide) rfl
  have hFc := va_free (wc := mw g h2 v) hD hS hA [24, 25, 26, 27, 28, 29, 30, 31, 32, 33, 34, 35, 36, 37, 38, 39, 40, 41, 42, 43, 44, 45, 46] rfl
  refine va_calli (va_runV (As := [.int (xs (x4 + 1).toNatClampNeg), .int (xs (x4 + 2).toNatClampNeg), .int (xs (x4 + 3).toNatClampNeg)]) (rest := []) ⟨hx, hb, hml, hown, hts⟩ (kX5_allowed l dC dI g h2 v _ (xs (x4 + 1).toNatClampNeg) (xs (x4 + 2).toNatClampNeg) (xs (x4 + 3).toNatClampNeg) (hRm u v hR)) (cwV 3 hts (lgV wd_482 wd_483 wd_484 wd_241 wcX5_allowed) rfl rfl rfl (by decide +kernel) ⟨(Nat.le_of_ble_eq_true rfl), (Nat.le_of_ble_eq_true rfl)⟩) ⟨fun a U g mk q => by obtain ⟨q0, q1, qP, qK, qD⟩ := q; exact ⟨q0, q1, qP, va_K.moved (u := U) (U := U.calling g mk a) (Vm.Alike.refl U.vm) qK, qD⟩, va_recv hK hPc (ci := 4) (q0 := 0) rfl (mw_at0 _ _ _), fun U hU hW => ⟨rfl, by rw [hU], by rw [hU]; exact hPc, va_K.moved hW.alike hK, hDc.weaken (fun _ _ _ _ => trivial)⟩⟩ rfl rfl hl.1 rfl (lv_room (Nat.le_of_ble_eq_true rfl)) dL_law_740 ⟨by show 48 + (j + 1) + 0 ≤ 1082; omega, by show 9269 + 6 * (j + 1) + 0 ≤ 17521; omega⟩) hS (fun q _ h => hFc q h) hFc (fun r6 v6 t H1 locs ht hvm hw6 hB hz1 hk1 hS => ?_)
  obtain ⟨hP1, hD1⟩ := hB
  rw [ht] at hP1
  obtain ⟨hP, hD⟩ := va_join (wr := ow g h o q5.1 q5.2) (w1 := mw g h2 v6) hP hD [24, 25, 26, 27, 28, 29, 30, 31, 32, 33, 34, 35, 36, 37, 38, 39, 40, 41, 42, 43, 44, 45, 46] [0, 1, 2, 3, 4, 5, 6, 7, 8, 9, 10, 11, 12, 13, 14, 15, 16, 17, 18, 19, 20, 21, 22, 23, 47] rfl rfl (by decide) (by decide) hk1 hFc hP1 hD1
  have hP := hP.sub (ws' := LW g h h2 o q5.1 v6 q5.2) [0, 1, 2, 3, 4, 5, 6, 7, 8, 9, 10, 11, 12, 13, 14, 15, 16, 17, 18, 19, 20, 21, 22, 23, 25, 26, 27, 28, 29, 30, 31, 32, 33, 34, 35, 36, 37, 38, 39, 40, 41, 42, 43, 44, 45, 46, 47, 24] rfl
  have hD := hD.sub (ws' := LW g h h2 o q5.1 v6 q5.2) [0, 1, 2, 3, 4, 5, 6, 7, 8, 9, 10, 11, 12, 13, 14, 15, 16, 17, 18, 19, 20, 21, 22, 23, 25, 26, 27, 28, 29, 30, 31, 32, 33, 34, 35, 36, 37, 38, 39, 40, 41, 42, 43, 44, 45, 46, 47, 24] (by decide) rfl
  have hq := hst u v (xs (x4 + 1).toNatClampNeg) (xs (x4 + 2).toNatClampNeg) (xs (x4 + 3).toNatClampNeg) hR
  rw [← hw6, ← hw5.1] at hq
  have hq1 := hq.1
  have hq2 := hq.2.1
  have hq3 := hq.2.2
  refine lv_istore (lv' := [(6, .int r6), (5, .int r5), (0, .ref b), (1, .ref (h 0)), (2, .ref (h2 0)), (3, .ref o), (4, .int x4)]) hx hb dL_law_743 hl (by decide) rfl (fun ls hl => ?_)
  refine lv_aload_n hx hb dL_law_745 rfl (lv_at hl 4 rfl) ?_
  have hPc := hP.sub (ws' := mw g h2 v6) [24, 25, 26, 27, 28, 29, 30, 31, 32, 33, 34, 35, 36, 37, 38, 39, 40, 41, 42, 43, 44, 45, 46] rfl
  refine vp_callSi (W.runV (As := []) (rest := []) ⟨hx, hb, hml, hown, hts⟩ (kX5_thrown l dC dI g h2 v6) (cwV 0 hts (lgV wd_426 wd_427 wd_428 wd_241 wcX5_thrown) rfl rfl rfl (by decide +kernel) ⟨(Nat.le_of_ble_eq_true rfl), (Nat.le_of_ble_eq_true rfl)⟩) ⟨fun a U g mk q => by obtain ⟨q0, qP, qK⟩ := q; exact ⟨q0, qP, va_K.moved (u := U) (U := U.calling g mk a) (Vm.Alike.refl U.vm) qK⟩, va_recv hK hPc (ci := 4) (q0 := 0) rfl (mw_at0 _ _ _), fun U hU hW => ⟨rfl, by rw [hU]; exact hPc, va_K.moved hW.alike hK⟩⟩ rfl rfl hl.1 rfl (lv_room (Nat.le_of_ble_eq_true rfl)) dL_law_746 ⟨by show 48 + (j + 1) + 0 ≤ 1082; omega, by show 9269 + 6 * (j + 1) + 0 ≤ 17521; omega⟩) (fun r7 hw7 => ?_)
  refine lv_iload hx hb dL_law_749 (lv_at hl 1 rfl) ?_
  refine lv_icmp_eq (tgt := 756) hx hb dL_law_751 (by decide) (fun c_1 => ?_) (fun c_1 => absurd (hw7.trans hq1) c_1)
  refine lv_iload hx hb dL_law_756 (lv_at hl 1 rfl) ?_
  refine lv_if_ne (tgt := 780) hx hb dL_law_758 (by decide) (fun c_2 => ?_) (fun c_2 => ?_)
  · skip
    refine lv_goto (tgt := 1552) hx hb dL_law_780 (by decide) ?_
    have hRR : Rl q5.1 v6 := by rw [hw5.2]; exact hq3
    exact K q5.1 v6 q5.2 _ _ _ hRR hP hD hS (lv_sub hl [2, 3, 4, 5, 6] rfl)
  · skip
    have hk0 := wk_0 (by decide) (hw5.1.symm.trans c_2)
    have hv0 := hq2 hk0
    refine lv_aload_n hx hb dL_law_761 rfl (lv_at hl 5 rfl) ?_
    refine lv_iconst (v := 0) hx hb dL_law_762 (by decide) ?_
    refine va_lald (f := q5.2) hx hb hK hP 47 2 (LW_at47 _ _ _ _ _ _ _) rfl (vp_in_iff.mpr (by decide)) dL_law_763 ?_
    refine lv_iload hx hb dL_law_764 (lv_at hl 0 rfl) ?_
    refine lv_if_eq (tgt := 773) hx hb dL_law_766 (by decide) (fun c_3 => ?_) (fun c_3 => ?_)
    · skip
      refine lv_lconst (v := 0) hx hb dL_law_773 (by decide) ?_
      refine W.lcmp hx hb dL_law_774 ?_
      have ho : q5.2 (0 : Int32).toNatClampNeg = 0 := by
        rw [hw5.2]; show (if (fX4_allowed u (xs (x4 + 1).toNatClampNeg) (xs (x4 + 2).toNatClampNeg) (xs (x4 + 3).toNatClampNeg)).1 = 0 then vp_updL f (0 : Int32).toNatClampNeg (if (fX4_allowed u (xs (x4 + 1).toNatClampNeg) (xs (x4 + 2).toNatClampNeg) (xs (x4 + 3).toNatClampNeg)).2.1 = 0 then 0 else 1) else f) _ = 0
        rw [if_pos hk0, pk_uLs, hv0, if_pos c_3]
      rw [ho, lg_self]
      refine lv_if_eq (tgt := 780) hx hb dL_law_775 (by decide) (fun _ => ?_) (fun c_4 => absurd rfl c_4)
      refine lv_goto (tgt := 1552) hx hb dL_law_780 (by decide) ?_
      have hRR : Rl q5.1 v6 := by rw [hw5.2]; exact hq3
      exact K q5.1 v6 q5.2 _ _ _ hRR hP hD hS (lv_sub hl [2, 3, 4, 5, 6] rfl)
    · skip
      refine lv_lconst (v := 1) hx hb dL_law_769 (by decide) ?_
      refine lv_goto (tgt := 774) hx hb dL_law_770 (by decide) ?_
      refine W.lcmp hx hb dL_law_774 ?_
      have ho : q5.2 (0 : Int32).toNatClampNeg = 1 := by
        rw [hw5.2]; show (if (fX4_allowed u (xs (x4 + 1).toNatClampNeg) (xs (x4 + 2).toNatClampNeg) (xs (x4 + 3).toNatClampNeg)).1 = 0 then vp_updL f (0 : Int32).toNatClampNeg (if (fX4_allowed u (xs (x4 + 1).toNatClampNeg) (xs (x4 + 2).toNatClampNeg) (xs (x4 + 3).toNatClampNeg)).2.1 = 0 then 0 else 1) else f) _ = 1
        rw [if_pos hk0, pk_uLs, hv0, if_neg c_3]
      rw [ho, lg_self]
      refine lv_if_eq (tgt := 780) hx hb dL_law_775 (by decide) (fun _ => ?_) (fun c_4 => absurd rfl c_4)
      refine lv_goto (tgt := 1552) hx hb dL_law_780 (by decide) ?_
      have hRR : Rl q5.1 v6 := by rw [hw5.2]; exact hq3
      exact K q5.1 v6 q5.2 _ _ _ hRR hP hD hS (lv_sub hl [2, 3, 4, 5, 6] rfl)
set_option maxHeartbeats 4000000 in
set_option maxRecDepth 100000 in
theorem lc_split {p : Program} {l : Launch} {e : Env} {s : State} {m : MethodId} {below : List Frame} {meth : Method} {c : Code} {b L : Nat} {xs : Nat → Int32} {dC : Nat → ClassId} {dI : Nat → Nat → Nat} {g : cG} {h h2 : Nat → Nat} {o : Nat} (X0 : lw_X p l s m meth c b L xs) (Rl : cS → mS → Prop) (hRc : ∀ (u : cS) (v : mS), Rl u v → cInv u) (hRm : ∀ (u : cS) (v : mS), Rl u v → mInv v) (hst : ∀ (u : cS) (v : mS) (x1 : Int32), Rl u v → k_mcode (fX5_split v x1).2 = wk [1, 3, 4] (fX4_split u x1).1 ∧ ((fX4_split u x1).1 = 0 → (fX4_split u x1).2.1 = (fX5_split v x1).1) ∧ Rl (fX4_split u x1).2.2 (fX5_split v x1).2) (hL : L ≤ 2560) (hK : va_K (dC, dI) vwCl (cTys g) s) (j : Nat) (x4 : Int32) (hx4 : x4.toInt = 5 * (j : Int)) (hj : 5 * j + 5 ≤ L) (u : cS) (v : mS) (f : Nat → Int64) (hR : Rl u v) (H : Heap) (locs : List Loc) (hP : va_P (dC, dI) vwCl (LW g h h2 o u v f) H) (hD : va_D (fun q : Nat => s.heap.size ≤ q) (LW g h h2 o u v f)) (hS : va_S (fun q : Nat => s.heap.size ≤ q) s.heap H locs) (ls : Array Slot) (hl : lv_has ls 7 [(0, .ref b), (1, .ref (h 0)), (2, .ref (h2 0)), (3, .ref o), (4, .int x4)])
    (K : ∀ (u : cS) (v : mS) (f : Nat → Int64) (H : Heap) (locs : List Loc) (ls : Array Slot), Rl u v → va_P (dC, dI) vwCl (LW g h h2 o u v f) H → va_D (fun q : Nat => s.heap.size ≤ q) (LW g h h2 o u v f) → va_S (fun q : Nat => s.heap.size ≤ q) s.heap H locs → lv_has ls 7 [(0, .ref b), (1, .ref (h 0)), (2, .ref (h2 0)), (3, .ref o), (4, .int x4)] → W p l e room_1 s m #[Value.ref b] below meth c H locs (48 + (j + 1)) (9269 + 6 * (j + 1)) (lw_Z below #[Value.ref b] s) (F0 m 1552 ls [])) :
    W p l e room_1 s m #[Value.ref b] below meth c H locs (48 + j) (9269 + 6 * j) (lw_Z below #[Value.ref b] s) (F0 m 783 ls []) := by
  obtain ⟨⟨hx, hb, hr, hml, hown, hts, hX, hbl, hlocks, hgv⟩, hl9, hZ, hN⟩ := X0
  have hA : ∀ q : Nat, s.heap.size ≤ q → (fun q : Nat => s.heap.size ≤ q) q := fun _ h => h
  have hbA : ¬ (fun q : Nat => s.heap.size ≤ q) b := Nat.not_le.mpr hbl
  have n1 : (1 : Int32).toInt = 1 := by decide
  have e1 := i_add (x := x4) (y := 1) (by omega) (by omega)
  have i1 : vp_in (x4 + 1) L := vp_in_iff.mpr (by omega)
  have n2 : (2 : Int32).toInt = 2 := by decide
  have e2 := i_add (x := x4) (y := 2) (by omega) (by omega)
  have i2 : vp_in (x4 + 2) L := vp_in_iff.mpr (by omega)
  have n3 : (3 : Int32).toInt = 3 := by decide
  have e3 := i_add (x := x4) (y := 3) (by omega) (by omega)
  have i3 : vp_in (x4 + 3) L := vp_in_iff.mpr (by omega)
  have n4 : (4 : Int32).toInt = 4 := by decide
  have e4 := i_add (x := x4) (y := 4) (by omega) (by omega)
  have i4 : vp_in (x4 + 4) L := vp_in_iff.mpr (by omega)
  refine lv_aload_n hx hb dL_law_783 rfl (lv_at hl 1 rfl) ?_
  refine lv_aload_n hx hb dL_law_784 rfl (lv_at hl 0 rfl) ?_
  refine lv_iload hx hb dL_law_785 (lv_at hl 4 rfl) ?_
  refine lv_iconst (v := 1) hx hb dL_law_787 (by decide) ?_
  refine lv_iadd hx hb dL_law_788 ?_
  refine va_sld hx hb hX hbl hbA hS i1 dL_law_789 ?_
  refine lv_aload_n hx hb dL_law_790 rfl (lv_at hl 3 rfl) ?_
  have hPc := hP.sub (ws' := ow g h o u f) [0, 1, 2, 3, 4, 5, 6, 7, 8, 9, 10, 11, 12, 13, 14, 15, 16, 17, 18, 19, 20, 21, 22, 23, 47] rfl
  have hDc := hD.sub (ws' := ow g h o u f) [0, 1, 2, 3, 4, 5, 6, 7, 8, 9, 10, 11, 12, 13, 14, 15, 16, 17, 18, 19, 20, 21, 22, 23, 47] (by decide) rfl
  have hFc := va_free (wc := ow g h o u f) hD hS hA [0, 1, 2, 3, 4, 5, 6, 7, 8, 9, 10, 11, 12, 13, 14, 15, 16, 17, 18, 19, 20, 21, 22, 23, 47] rfl
  refine va_calli (vx_runSW (hh := [(0, 9, 12, 33), (0, 9, 15, 35), (0, 9, 18, 15)]) (As := [.ref (h 0), .int (xs (x4 + 1).toNatClampNeg), .ref o]) (rest := []) ⟨hx, hb, hml, hown, hts⟩ (kL_split l hl9 dC dI g h o u f _ (xs (x4 + 1).toNatClampNeg) (hRc u v hR)) (vx_cwSW 3 hts (lgT wd_486 wd_487 wd_420 wcL_split) rfl rfl rfl (by decide +kernel) ⟨(Nat.le_of_ble_eq_true rfl), (Nat.le_of_ble_eq_true rfl)⟩) ⟨fun a U g mk q => by obtain ⟨q0, q1, qP, qK, qD, qZ, qN⟩ := q; exact ⟨q0, q1, qP, va_K.moved (u := U) (U := U.calling g mk a) (Vm.Alike.refl U.vm) qK, qD, zz_same (u := U) (H := U.heap) rfl rfl qZ, nn_moved (u := U) (U := U.calling g mk a) (Vm.Alike.refl U.vm) qN⟩, fun U hU hW => ⟨rfl, by rw [hU], by rw [hU]; exact hPc, va_K.moved hW.alike hK, hDc.weaken (fun _ _ _ _ => trivial), by rw [hU]; exact zz_to hZ hS hFc hW, nn_moved hW.alike hN⟩⟩ rfl rfl hl.1 rfl (lv_room (Nat.le_of_ble_eq_true rfl)) dL_law_791 ⟨by show 48 + j + 1 ≤ 1082; omega, by show 9269 + 6 * j + 6 ≤ 17521; omega⟩) hS (fun q _ h => hFc q h) hFc (fun r5 q5 t H1 locs ht hvm hw5 hB hz1 hk1 hS => ?_)
  obtain ⟨hP1, hD1⟩ := hB
  rw [ht] at hP1
  obtain ⟨hP, hD⟩ := va_join (wr := mw g h2 v) (w1 := ow g h o q5.1 q5.2) hP hD [0, 1, 2, 3, 4, 5, 6, 7, 8, 9, 10, 11, 12, 13, 14, 15, 16, 17, 18, 19, 20, 21, 22, 23, 47] [24, 25, 26, 27, 28, 29, 30, 31, 32, 33, 34, 35, 36, 37, 38, 39, 40, 41, 42, 43, 44, 45, 46] rfl rfl (by decide) (by decide) hk1 hFc hP1 hD1
  have hP := hP.sub (ws' := LW g h h2 o q5.1 v q5.2) [23, 24, 25, 26, 27, 28, 29, 30, 31, 32, 33, 34, 35, 36, 37, 38, 39, 40, 41, 42, 43, 44, 45, 46, 0, 1, 2, 3, 4, 5, 6, 7, 8, 9, 10, 11, 12, 13, 14, 15, 16, 17, 18, 19, 20, 21, 22, 47] rfl
  have hD := hD.sub (ws' := LW g h h2 o q5.1 v q5.2) [23, 24, 25, 26, 27, 28, 29, 30, 31, 32, 33, 34, 35, 36, 37, 38, 39, 40, 41, 42, 43, 44, 45, 46, 0, 1, 2, 3, 4, 5, 6, 7, 8, 9, 10, 11, 12, 13, 14, 15, 16, 17, 18, 19, 20, 21, 22, 47] (by decide) rfl
  refine W.widen (k := 48 + (j + 1)) (n := 9269 + 6 * (j + 1)) (by omega) (by omega) ?_
  refine lv_istore (lv' := [(5, .int r5), (0, .ref b), (1, .ref (h 0)), (2, .ref (h2 0)), (3, .ref o), (4, .int x4)]) hx hb dL_law_794 hl (by decide) rfl (fun ls hl => ?_)
  refine lv_aload_n hx hb dL_law_796 rfl (lv_at hl 3 rfl) ?_
  refine lv_aload_n hx hb dL_law_797 rfl (lv_at hl 1 rfl) ?_
  refine lv_iload hx hb dL_law_798 (lv_at hl 5 rfl) ?_
  refine lv_iconst (v := 1) hx hb dL_law_800 (by decide) ?_
  refine lv_iadd hx hb dL_law_801 ?_
  refine va_sld hx hb hX hbl hbA hS i1 dL_law_802 ?_
  have hPc := hP.sub (ws' := mw g h2 v) [24, 25, 26, 27, 28, 29, 30, 31, 32, 33, 34, 35, 36, 37, 38, 39, 40, 41, 42, 43, 44, 45, 46] rfl
  have hDc := hD.sub (ws' := mw g h2 v) [24, 25, 26, 27, 28, 29, 30, 31, 32, 33, 34, 35, 36, 37, 38, 39, 40, 41, 42, 43, 44, 45, 46] (by decide) rfl
  have hFc := va_free (wc := mw g h2 v) hD hS hA [24, 25, 26, 27, 28, 29, 30, 31, 32, 33, 34, 35, 36, 37, 38, 39, 40, 41, 42, 43, 44, 45, 46] rfl
  refine va_calli (va_runV (As := [.int (xs (x4 + 1).toNatClampNeg)]) (rest := []) ⟨hx, hb, hml, hown, hts⟩ (kX5_split l dC dI g h2 v _ (xs (x4 + 1).toNatClampNeg) (hRm u v hR)) (cwV 1 hts (lgV wd_489 wd_490 wd_491 wd_241 wcX5_split) rfl rfl rfl (by decide +kernel) ⟨(Nat.le_of_ble_eq_true rfl), (Nat.le_of_ble_eq_true rfl)⟩) ⟨fun a U g mk q => by obtain ⟨q0, q1, qP, qK, qD⟩ := q; exact ⟨q0, q1, qP, va_K.moved (u := U) (U := U.calling g mk a) (Vm.Alike.refl U.vm) qK, qD⟩, va_recv hK hPc (ci := 4) (q0 := 0) rfl (mw_at0 _ _ _), fun U hU hW => ⟨rfl, by rw [hU], by rw [hU]; exact hPc, va_K.moved hW.alike hK, hDc.weaken (fun _ _ _ _ => trivial)⟩⟩ rfl rfl hl.1 rfl (lv_room (Nat.le_of_ble_eq_true rfl)) dL_law_803 ⟨by show 48 + (j + 1) + 0 ≤ 1082; omega, by show 9269 + 6 * (j + 1) + 0 ≤ 17521; omega⟩) hS (fun q _ h => hFc q h) hFc (fun r6 v6 t H1 locs ht hvm hw6 hB hz1 hk1 hS => ?_)
  obtain ⟨hP1, hD1⟩ := hB
  rw [ht] at hP1
  obtain ⟨hP, hD⟩ := va_join (wr := ow g h o q5.1 q5.2) (w1 := mw g h2 v6) hP hD [24, 25, 26, 27, 28, 29, 30, 31, 32, 33, 34, 35, 36, 37, 38, 39, 40, 41, 42, 43, 44, 45, 46] [0, 1, 2, 3, 4, 5, 6, 7, 8, 9, 10, 11, 12, 13, 14, 15, 16, 17, 18, 19, 20, 21, 22, 23, 47] rfl rfl (by decide) (by decide) hk1 hFc hP1 hD1
  have hP := hP.sub (ws' := LW g h h2 o q5.1 v6 q5.2) [0, 1, 2, 3, 4, 5, 6, 7, 8, 9, 10, 11, 12, 13, 14, 15, 16, 17, 18, 19, 20, 21, 22, 23, 25, 26, 27, 28, 29, 30, 31, 32, 33, 34, 35, 36, 37, 38, 39, 40, 41, 42, 43, 44, 45, 46, 47, 24] rfl
  have hD := hD.sub (ws' := LW g h h2 o q5.1 v6 q5.2) [0, 1, 2, 3, 4, 5, 6, 7, 8, 9, 10, 11, 12, 13, 14, 15, 16, 17, 18, 19, 20, 21, 22, 23, 25, 26, 27, 28, 29, 30, 31, 32, 33, 34, 35, 36, 37, 38, 39, 40, 41, 42, 43, 44, 45, 46, 47, 24] (by decide) rfl
  have hq := hst u v (xs (x4 + 1).toNatClampNeg) hR
  rw [← hw6, ← hw5.1] at hq
  have hq1 := hq.1
  have hq2 := hq.2.1
  have hq3 := hq.2.2
  refine lv_istore (lv' := [(6, .int r6), (5, .int r5), (0, .ref b), (1, .ref (h 0)), (2, .ref (h2 0)), (3, .ref o), (4, .int x4)]) hx hb dL_law_806 hl (by decide) rfl (fun ls hl => ?_)
  refine lv_aload_n hx hb dL_law_808 rfl (lv_at hl 4 rfl) ?_
  have hPc := hP.sub (ws' := mw g h2 v6) [24, 25, 26, 27, 28, 29, 30, 31, 32, 33, 34, 35, 36, 37, 38, 39, 40, 41, 42, 43, 44, 45, 46] rfl
  refine vp_callSi (W.runV (As := []) (rest := []) ⟨hx, hb, hml, hown, hts⟩ (kX5_thrown l dC dI g h2 v6) (cwV 0 hts (lgV wd_426 wd_427 wd_428 wd_241 wcX5_thrown) rfl rfl rfl (by decide +kernel) ⟨(Nat.le_of_ble_eq_true rfl), (Nat.le_of_ble_eq_true rfl)⟩) ⟨fun a U g mk q => by obtain ⟨q0, qP, qK⟩ := q; exact ⟨q0, qP, va_K.moved (u := U) (U := U.calling g mk a) (Vm.Alike.refl U.vm) qK⟩, va_recv hK hPc (ci := 4) (q0 := 0) rfl (mw_at0 _ _ _), fun U hU hW => ⟨rfl, by rw [hU]; exact hPc, va_K.moved hW.alike hK⟩⟩ rfl rfl hl.1 rfl (lv_room (Nat.le_of_ble_eq_true rfl)) dL_law_809 ⟨by show 48 + (j + 1) + 0 ≤ 1082; omega, by show 9269 + 6 * (j + 1) + 0 ≤ 17521; omega⟩) (fun r7 hw7 => ?_)
  refine lv_iload hx hb dL_law_812 (lv_at hl 1 rfl) ?_
  refine lv_icmp_eq (tgt := 819) hx hb dL_law_814 (by decide) (fun c_1 => ?_) (fun c_1 => absurd (hw7.trans hq1) c_1)
  refine lv_iload hx hb dL_law_819 (lv_at hl 1 rfl) ?_
  refine lv_if_ne (tgt := 836) hx hb dL_law_821 (by decide) (fun c_2 => ?_) (fun c_2 => ?_)
  · skip
    refine lv_goto (tgt := 1552) hx hb dL_law_836 (by decide) ?_
    have hRR : Rl q5.1 v6 := by rw [hw5.2]; exact hq3
    exact K q5.1 v6 q5.2 _ _ _ hRR hP hD hS (lv_sub hl [2, 3, 4, 5, 6] rfl)
  · skip
    have hk0 := wk_0 (by decide) (hw5.1.symm.trans c_2)
    have hv0 := hq2 hk0
    refine lv_aload_n hx hb dL_law_824 rfl (lv_at hl 5 rfl) ?_
    refine lv_iconst (v := 0) hx hb dL_law_825 (by decide) ?_
    refine va_lald (f := q5.2) hx hb hK hP 47 2 (LW_at47 _ _ _ _ _ _ _) rfl (vp_in_iff.mpr (by decide)) dL_law_826 ?_
    refine lv_iload hx hb dL_law_827 (lv_at hl 0 rfl) ?_
    refine lv_i2l (v := r6.toInt64) hx hb dL_law_829 rfl ?_
    refine W.lcmp hx hb dL_law_830 ?_
    have ho : q5.2 (0 : Int32).toNatClampNeg = r6.toInt64 := by
      rw [hw5.2]; show (if (fX4_split u (xs (x4 + 1).toNatClampNeg)).1 = 0 then vp_updL f (0 : Int32).toNatClampNeg (fX4_split u (xs (x4 + 1).toNatClampNeg)).2.1.toInt64 else f) _ = r6.toInt64
      rw [if_pos hk0, pk_uLs, hv0]
    rw [ho, lg_self]
    refine lv_if_eq (tgt := 836) hx hb dL_law_831 (by decide) (fun _ => ?_) (fun c_4 => absurd rfl c_4)
    refine lv_goto (tgt := 1552) hx hb dL_law_836 (by decide) ?_
    have hRR : Rl q5.1 v6 := by rw [hw5.2]; exact hq3
    exact K q5.1 v6 q5.2 _ _ _ hRR hP hD hS (lv_sub hl [2, 3, 4, 5, 6] rfl)
set_option maxHeartbeats 4000000 in
set_option maxRecDepth 100000 in
theorem lc_join {p : Program} {l : Launch} {e : Env} {s : State} {m : MethodId} {below : List Frame} {meth : Method} {c : Code} {b L : Nat} {xs : Nat → Int32} {dC : Nat → ClassId} {dI : Nat → Nat → Nat} {g : cG} {h h2 : Nat → Nat} {o : Nat} (X0 : lw_X p l s m meth c b L xs) (Rl : cS → mS → Prop) (hRc : ∀ (u : cS) (v : mS), Rl u v → cInv u) (hRm : ∀ (u : cS) (v : mS), Rl u v → mInv v) (hst : ∀ (u : cS) (v : mS) (x1 : Int32) (x2 : Int32), Rl u v → k_mcode (fX5_join v x1 x2) = wk [1, 3, 4] (fX4_join u x1 x2).1 ∧ Rl (fX4_join u x1 x2).2.2 (fX5_join v x1 x2)) (hL : L ≤ 2560) (hK : va_K (dC, dI) vwCl (cTys g) s) (j : Nat) (x4 : Int32) (hx4 : x4.toInt = 5 * (j : Int)) (hj : 5 * j + 5 ≤ L) (u : cS) (v : mS) (f : Nat → Int64) (hR : Rl u v) (H : Heap) (locs : List Loc) (hP : va_P (dC, dI) vwCl (LW g h h2 o u v f) H) (hD : va_D (fun q : Nat => s.heap.size ≤ q) (LW g h h2 o u v f)) (hS : va_S (fun q : Nat => s.heap.size ≤ q) s.heap H locs) (ls : Array Slot) (hl : lv_has ls 7 [(0, .ref b), (1, .ref (h 0)), (2, .ref (h2 0)), (3, .ref o), (4, .int x4)])
    (K : ∀ (u : cS) (v : mS) (f : Nat → Int64) (H : Heap) (locs : List Loc) (ls : Array Slot), Rl u v → va_P (dC, dI) vwCl (LW g h h2 o u v f) H → va_D (fun q : Nat => s.heap.size ≤ q) (LW g h h2 o u v f) → va_S (fun q : Nat => s.heap.size ≤ q) s.heap H locs → lv_has ls 7 [(0, .ref b), (1, .ref (h 0)), (2, .ref (h2 0)), (3, .ref o), (4, .int x4)] → W p l e room_1 s m #[Value.ref b] below meth c H locs (48 + (j + 1)) (9269 + 6 * (j + 1)) (lw_Z below #[Value.ref b] s) (F0 m 1552 ls [])) :
    W p l e room_1 s m #[Value.ref b] below meth c H locs (48 + j) (9269 + 6 * j) (lw_Z below #[Value.ref b] s) (F0 m 839 ls []) := by
  obtain ⟨⟨hx, hb, hr, hml, hown, hts, hX, hbl, hlocks, hgv⟩, hl9, hZ, hN⟩ := X0
  have hA : ∀ q : Nat, s.heap.size ≤ q → (fun q : Nat => s.heap.size ≤ q) q := fun _ h => h
  have hbA : ¬ (fun q : Nat => s.heap.size ≤ q) b := Nat.not_le.mpr hbl
  have n1 : (1 : Int32).toInt = 1 := by decide
  have e1 := i_add (x := x4) (y := 1) (by omega) (by omega)
  have i1 : vp_in (x4 + 1) L := vp_in_iff.mpr (by omega)
  have n2 : (2 : Int32).toInt = 2 := by decide
  have e2 := i_add (x := x4) (y := 2) (by omega) (by omega)
  have i2 : vp_in (x4 + 2) L := vp_in_iff.mpr (by omega)
  have n3 : (3 : Int32).toInt = 3 := by decide
  have e3 := i_add (x := x4) (y := 3) (by omega) (by omega)
  have i3 : vp_in (x4 + 3) L := vp_in_iff.mpr (by omega)
  have n4 : (4 : Int32).toInt = 4 := by decide
  have e4 := i_add (x := x4) (y := 4) (by omega) (by omega)
  have i4 : vp_in (x4 + 4) L := vp_in_iff.mpr (by omega)
  refine lv_aload_n hx hb dL_law_839 rfl (lv_at hl 1 rfl) ?_
  refine lv_aload_n hx hb dL_law_840 rfl (lv_at hl 0 rfl) ?_
  refine lv_iload hx hb dL_law_841 (lv_at hl 4 rfl) ?_
  refine lv_iconst (v := 1) hx hb dL_law_843 (by decide) ?_
  refine lv_iadd hx hb dL_law_844 ?_
  refine va_sld hx hb hX hbl hbA hS i1 dL_law_845 ?_
  refine lv_aload_n hx hb dL_law_846 rfl (lv_at hl 0 rfl) ?_
  refine lv_iload hx hb dL_law_847 (lv_at hl 4 rfl) ?_
  refine lv_iconst (v := 2) hx hb dL_law_849 (by decide) ?_
  refine lv_iadd hx hb dL_law_850 ?_
  refine va_sld hx hb hX hbl hbA hS i2 dL_law_851 ?_
  have hPc := hP.sub (ws' := cw g h u) [0, 1, 2, 3, 4, 5, 6, 7, 8, 9, 10, 11, 12, 13, 14, 15, 16, 17, 18, 19, 20, 21, 22, 23] rfl
  have hDc := hD.sub (ws' := cw g h u) [0, 1, 2, 3, 4, 5, 6, 7, 8, 9, 10, 11, 12, 13, 14, 15, 16, 17, 18, 19, 20, 21, 22, 23] (by decide) rfl
  have hFc := va_free (wc := cw g h u) hD hS hA [0, 1, 2, 3, 4, 5, 6, 7, 8, 9, 10, 11, 12, 13, 14, 15, 16, 17, 18, 19, 20, 21, 22, 23] rfl
  refine va_calli (vx_runSW (hh := [(0, 6, 9, 33), (0, 6, 12, 35), (0, 6, 15, 15)]) (As := [.ref (h 0), .int (xs (x4 + 1).toNatClampNeg), .int (xs (x4 + 2).toNatClampNeg)]) (rest := []) ⟨hx, hb, hml, hown, hts⟩ (kL_join l hl9 dC dI g h u _ (xs (x4 + 1).toNatClampNeg) (xs (x4 + 2).toNatClampNeg) (hRc u v hR)) (vx_cwSW 3 hts (lgT wd_493 wd_494 wd_420 wcL_join) rfl rfl rfl (by decide +kernel) ⟨(Nat.le_of_ble_eq_true rfl), (Nat.le_of_ble_eq_true rfl)⟩) ⟨fun a U g mk q => by obtain ⟨q0, q1, qP, qK, qD, qZ, qN⟩ := q; exact ⟨q0, q1, qP, va_K.moved (u := U) (U := U.calling g mk a) (Vm.Alike.refl U.vm) qK, qD, zz_same (u := U) (H := U.heap) rfl rfl qZ, nn_moved (u := U) (U := U.calling g mk a) (Vm.Alike.refl U.vm) qN⟩, fun U hU hW => ⟨rfl, by rw [hU], by rw [hU]; exact hPc, va_K.moved hW.alike hK, hDc.weaken (fun _ _ _ _ => trivial), by rw [hU]; exact zz_to hZ hS hFc hW, nn_moved hW.alike hN⟩⟩ rfl rfl hl.1 rfl (lv_room (Nat.le_of_ble_eq_true rfl)) dL_law_852 ⟨by show 48 + j + 1 ≤ 1082; omega, by show 9269 + 6 * j + 6 ≤ 17521; omega⟩) hS (fun q _ h => hFc q h) hFc (fun r5 q5 t H1 locs ht hvm hw5 hB hz1 hk1 hS => ?_)
  obtain ⟨hP1, hD1⟩ := hB
  rw [ht] at hP1
  obtain ⟨hP, hD⟩ := va_join (wr := mw g h2 v ++ [(o, .inl (g.2.2, 1, .inr (.inl f)))]) (w1 := cw g h q5) hP hD [0, 1, 2, 3, 4, 5, 6, 7, 8, 9, 10, 11, 12, 13, 14, 15, 16, 17, 18, 19, 20, 21, 22, 23] [24, 25, 26, 27, 28, 29, 30, 31, 32, 33, 34, 35, 36, 37, 38, 39, 40, 41, 42, 43, 44, 45, 46, 47] rfl rfl (by decide) (by decide) hk1 hFc hP1 hD1
  have hP := hP.sub (ws' := LW g h h2 o q5 v f) [24, 25, 26, 27, 28, 29, 30, 31, 32, 33, 34, 35, 36, 37, 38, 39, 40, 41, 42, 43, 44, 45, 46, 47, 0, 1, 2, 3, 4, 5, 6, 7, 8, 9, 10, 11, 12, 13, 14, 15, 16, 17, 18, 19, 20, 21, 22, 23] rfl
  have hD := hD.sub (ws' := LW g h h2 o q5 v f) [24, 25, 26, 27, 28, 29, 30, 31, 32, 33, 34, 35, 36, 37, 38, 39, 40, 41, 42, 43, 44, 45, 46, 47, 0, 1, 2, 3, 4, 5, 6, 7, 8, 9, 10, 11, 12, 13, 14, 15, 16, 17, 18, 19, 20, 21, 22, 23] (by decide) rfl
  refine W.widen (k := 48 + (j + 1)) (n := 9269 + 6 * (j + 1)) (by omega) (by omega) ?_
  refine lv_istore (lv' := [(5, .int r5), (0, .ref b), (1, .ref (h 0)), (2, .ref (h2 0)), (3, .ref o), (4, .int x4)]) hx hb dL_law_855 hl (by decide) rfl (fun ls hl => ?_)
  refine lv_aload_n hx hb dL_law_857 rfl (lv_at hl 3 rfl) ?_
  refine lv_aload_n hx hb dL_law_858 rfl (lv_at hl 1 rfl) ?_
  refine lv_iload hx hb dL_law_859 (lv_at hl 5 rfl) ?_
  refine lv_iconst (v := 1) hx hb dL_law_861 (by decide) ?_
  refine lv_iadd hx hb dL_law_862 ?_
  refine va_sld hx hb hX hbl hbA hS i1 dL_law_863 ?_
  refine lv_aload_n hx hb dL_law_864 rfl (lv_at hl 1 rfl) ?_
  refine lv_iload hx hb dL_law_865 (lv_at hl 5 rfl) ?_
  refine lv_iconst (v := 2) hx hb dL_law_867 (by decide) ?_
  refine lv_iadd hx hb dL_law_868 ?_
  refine va_sld hx hb hX hbl hbA hS i2 dL_law_869 ?_
  have hPc := hP.sub (ws' := mw g h2 v) [24, 25, 26, 27, 28, 29, 30, 31, 32, 33, 34, 35, 36, 37, 38, 39, 40, 41, 42, 43, 44, 45, 46] rfl
  have hDc := hD.sub (ws' := mw g h2 v) [24, 25, 26, 27, 28, 29, 30, 31, 32, 33, 34, 35, 36, 37, 38, 39, 40, 41, 42, 43, 44, 45, 46] (by decide) rfl
  have hFc := va_free (wc := mw g h2 v) hD hS hA [24, 25, 26, 27, 28, 29, 30, 31, 32, 33, 34, 35, 36, 37, 38, 39, 40, 41, 42, 43, 44, 45, 46] rfl
  refine va_callv (va_runV (As := [.int (xs (x4 + 1).toNatClampNeg), .int (xs (x4 + 2).toNatClampNeg)]) (rest := []) ⟨hx, hb, hml, hown, hts⟩ (kX5_join l dC dI g h2 v _ (xs (x4 + 1).toNatClampNeg) (xs (x4 + 2).toNatClampNeg) (hRm u v hR)) (cwV 2 hts (lgV wd_496 wd_497 wd_498 wd_241 wcX5_join) rfl rfl rfl (by decide +kernel) ⟨(Nat.le_of_ble_eq_true rfl), (Nat.le_of_ble_eq_true rfl)⟩) ⟨fun a U g mk q => by obtain ⟨q0, q1, qP, qK, qD⟩ := q; exact ⟨q0, q1, qP, va_K.moved (u := U) (U := U.calling g mk a) (Vm.Alike.refl U.vm) qK, qD⟩, va_recv hK hPc (ci := 4) (q0 := 0) rfl (mw_at0 _ _ _), fun U hU hW => ⟨rfl, by rw [hU], by rw [hU]; exact hPc, va_K.moved hW.alike hK, hDc.weaken (fun _ _ _ _ => trivial)⟩⟩ rfl rfl hl.1 rfl (lv_room (Nat.le_of_ble_eq_true rfl)) dL_law_870 ⟨by show 48 + (j + 1) + 0 ≤ 1082; omega, by show 9269 + 6 * (j + 1) + 0 ≤ 17521; omega⟩) hS (fun q _ h => hFc q h) hFc (fun v6 t H1 locs ht hvm hw6 hB hz1 hk1 hS => ?_)
  obtain ⟨hP1, hD1⟩ := hB
  rw [ht] at hP1
  obtain ⟨hP, hD⟩ := va_join (wr := ow g h o q5 f) (w1 := mw g h2 v6) hP hD [24, 25, 26, 27, 28, 29, 30, 31, 32, 33, 34, 35, 36, 37, 38, 39, 40, 41, 42, 43, 44, 45, 46] [0, 1, 2, 3, 4, 5, 6, 7, 8, 9, 10, 11, 12, 13, 14, 15, 16, 17, 18, 19, 20, 21, 22, 23, 47] rfl rfl (by decide) (by decide) hk1 hFc hP1 hD1
  have hP := hP.sub (ws' := LW g h h2 o q5 v6 f) [0, 1, 2, 3, 4, 5, 6, 7, 8, 9, 10, 11, 12, 13, 14, 15, 16, 17, 18, 19, 20, 21, 22, 23, 25, 26, 27, 28, 29, 30, 31, 32, 33, 34, 35, 36, 37, 38, 39, 40, 41, 42, 43, 44, 45, 46, 47, 24] rfl
  have hD := hD.sub (ws' := LW g h h2 o q5 v6 f) [0, 1, 2, 3, 4, 5, 6, 7, 8, 9, 10, 11, 12, 13, 14, 15, 16, 17, 18, 19, 20, 21, 22, 23, 25, 26, 27, 28, 29, 30, 31, 32, 33, 34, 35, 36, 37, 38, 39, 40, 41, 42, 43, 44, 45, 46, 47, 24] (by decide) rfl
  have hq := hst u v (xs (x4 + 1).toNatClampNeg) (xs (x4 + 2).toNatClampNeg) hR
  rw [← hw6, ← hw5.1] at hq
  have hq1 := hq.1
  have hq3 := hq.2
  refine lv_aload_n hx hb dL_law_873 rfl (lv_at hl 3 rfl) ?_
  have hPc := hP.sub (ws' := mw g h2 v6) [24, 25, 26, 27, 28, 29, 30, 31, 32, 33, 34, 35, 36, 37, 38, 39, 40, 41, 42, 43, 44, 45, 46] rfl
  refine vp_callSi (W.runV (As := []) (rest := []) ⟨hx, hb, hml, hown, hts⟩ (kX5_thrown l dC dI g h2 v6) (cwV 0 hts (lgV wd_426 wd_427 wd_428 wd_241 wcX5_thrown) rfl rfl rfl (by decide +kernel) ⟨(Nat.le_of_ble_eq_true rfl), (Nat.le_of_ble_eq_true rfl)⟩) ⟨fun a U g mk q => by obtain ⟨q0, qP, qK⟩ := q; exact ⟨q0, qP, va_K.moved (u := U) (U := U.calling g mk a) (Vm.Alike.refl U.vm) qK⟩, va_recv hK hPc (ci := 4) (q0 := 0) rfl (mw_at0 _ _ _), fun U hU hW => ⟨rfl, by rw [hU]; exact hPc, va_K.moved hW.alike hK⟩⟩ rfl rfl hl.1 rfl (lv_room (Nat.le_of_ble_eq_true rfl)) dL_law_874 ⟨by show 48 + (j + 1) + 0 ≤ 1082; omega, by show 9269 + 6 * (j + 1) + 0 ≤ 17521; omega⟩) (fun r7 hw7 => ?_)
  refine lv_iload hx hb dL_law_877 (lv_at hl 0 rfl) ?_
  refine lv_icmp_eq (tgt := 884) hx hb dL_law_879 (by decide) (fun c_1 => ?_) (fun c_1 => absurd (hw7.trans hq1) c_1)
  refine lv_goto (tgt := 1552) hx hb dL_law_884 (by decide) ?_
  have hRR : Rl q5 v6 := by rw [hw5.2]; exact hq3
  exact K q5 v6 f _ _ _ hRR hP hD hS (lv_sub hl [1, 2, 3, 4, 5] rfl)
set_option maxHeartbeats 4000000 in
set_option maxRecDepth 100000 in
theorem lc_unit {p : Program} {l : Launch} {e : Env} {s : State} {m : MethodId} {below : List Frame} {meth : Method} {c : Code} {b L : Nat} {xs : Nat → Int32} {dC : Nat → ClassId} {dI : Nat → Nat → Nat} {g : cG} {h h2 : Nat → Nat} {o : Nat} (X0 : lw_X p l s m meth c b L xs) (Rl : cS → mS → Prop) (hRc : ∀ (u : cS) (v : mS), Rl u v → cInv u) (hRm : ∀ (u : cS) (v : mS), Rl u v → mInv v) (hst : ∀ (u : cS) (v : mS) (x1 : Int32), Rl u v → k_mcode (fX5_unit v x1).2 = wk [1, 3, 4] (fX4_unit u x1).1 ∧ ((fX4_unit u x1).1 = 0 → (fX4_unit u x1).2.1 = (fX5_unit v x1).1) ∧ Rl (fX4_unit u x1).2.2 (fX5_unit v x1).2) (hL : L ≤ 2560) (hK : va_K (dC, dI) vwCl (cTys g) s) (j : Nat) (x4 : Int32) (hx4 : x4.toInt = 5 * (j : Int)) (hj : 5 * j + 5 ≤ L) (u : cS) (v : mS) (f : Nat → Int64) (hR : Rl u v) (H : Heap) (locs : List Loc) (hP : va_P (dC, dI) vwCl (LW g h h2 o u v f) H) (hD : va_D (fun q : Nat => s.heap.size ≤ q) (LW g h h2 o u v f)) (hS : va_S (fun q : Nat => s.heap.size ≤ q) s.heap H locs) (ls : Array Slot) (hl : lv_has ls 7 [(0, .ref b), (1, .ref (h 0)), (2, .ref (h2 0)), (3, .ref o), (4, .int x4)])
    (K : ∀ (u : cS) (v : mS) (f : Nat → Int64) (H : Heap) (locs : List Loc) (ls : Array Slot), Rl u v → va_P (dC, dI) vwCl (LW g h h2 o u v f) H → va_D (fun q : Nat => s.heap.size ≤ q) (LW g h h2 o u v f) → va_S (fun q : Nat => s.heap.size ≤ q) s.heap H locs → lv_has ls 7 [(0, .ref b), (1, .ref (h 0)), (2, .ref (h2 0)), (3, .ref o), (4, .int x4)] → W p l e room_1 s m #[Value.ref b] below meth c H locs (48 + (j + 1)) (9269 + 6 * (j + 1)) (lw_Z below #[Value.ref b] s) (F0 m 1552 ls [])) :
    W p l e room_1 s m #[Value.ref b] below meth c H locs (48 + j) (9269 + 6 * j) (lw_Z below #[Value.ref b] s) (F0 m 887 ls []) := by
  obtain ⟨⟨hx, hb, hr, hml, hown, hts, hX, hbl, hlocks, hgv⟩, hl9, hZ, hN⟩ := X0
  have hA : ∀ q : Nat, s.heap.size ≤ q → (fun q : Nat => s.heap.size ≤ q) q := fun _ h => h
  have hbA : ¬ (fun q : Nat => s.heap.size ≤ q) b := Nat.not_le.mpr hbl
  have n1 : (1 : Int32).toInt = 1 := by decide
  have e1 := i_add (x := x4) (y := 1) (by omega) (by omega)
  have i1 : vp_in (x4 + 1) L := vp_in_iff.mpr (by omega)
  have n2 : (2 : Int32).toInt = 2 := by decide
  have e2 := i_add (x := x4) (y := 2) (by omega) (by omega)
  have i2 : vp_in (x4 + 2) L := vp_in_iff.mpr (by omega)
  have n3 : (3 : Int32).toInt = 3 := by decide
  have e3 := i_add (x := x4) (y := 3) (by omega) (by omega)
  have i3 : vp_in (x4 + 3) L := vp_in_iff.mpr (by omega)
  have n4 : (4 : Int32).toInt = 4 := by decide
  have e4 := i_add (x := x4) (y := 4) (by omega) (by omega)
  have i4 : vp_in (x4 + 4) L := vp_in_iff.mpr (by omega)
  refine lv_aload_n hx hb dL_law_887 rfl (lv_at hl 1 rfl) ?_
  refine lv_aload_n hx hb dL_law_888 rfl (lv_at hl 0 rfl) ?_
  refine lv_iload hx hb dL_law_889 (lv_at hl 4 rfl) ?_
  refine lv_iconst (v := 1) hx hb dL_law_891 (by decide) ?_
  refine lv_iadd hx hb dL_law_892 ?_
  refine va_sld hx hb hX hbl hbA hS i1 dL_law_893 ?_
  refine lv_aload_n hx hb dL_law_894 rfl (lv_at hl 3 rfl) ?_
  have hPc := hP.sub (ws' := ow g h o u f) [0, 1, 2, 3, 4, 5, 6, 7, 8, 9, 10, 11, 12, 13, 14, 15, 16, 17, 18, 19, 20, 21, 22, 23, 47] rfl
  have hDc := hD.sub (ws' := ow g h o u f) [0, 1, 2, 3, 4, 5, 6, 7, 8, 9, 10, 11, 12, 13, 14, 15, 16, 17, 18, 19, 20, 21, 22, 23, 47] (by decide) rfl
  have hFc := va_free (wc := ow g h o u f) hD hS hA [0, 1, 2, 3, 4, 5, 6, 7, 8, 9, 10, 11, 12, 13, 14, 15, 16, 17, 18, 19, 20, 21, 22, 23, 47] rfl
  refine va_calli (vx_runSW (hh := [(0, 9, 12, 33), (0, 9, 15, 35), (0, 9, 18, 15)]) (As := [.ref (h 0), .int (xs (x4 + 1).toNatClampNeg), .ref o]) (rest := []) ⟨hx, hb, hml, hown, hts⟩ (kL_unit l hl9 dC dI g h o u f _ (xs (x4 + 1).toNatClampNeg) (hRc u v hR)) (vx_cwSW 3 hts (lgT wd_500 wd_501 wd_420 wcL_unit) rfl rfl rfl (by decide +kernel) ⟨(Nat.le_of_ble_eq_true rfl), (Nat.le_of_ble_eq_true rfl)⟩) ⟨fun a U g mk q => by obtain ⟨q0, q1, qP, qK, qD, qZ, qN⟩ := q; exact ⟨q0, q1, qP, va_K.moved (u := U) (U := U.calling g mk a) (Vm.Alike.refl U.vm) qK, qD, zz_same (u := U) (H := U.heap) rfl rfl qZ, nn_moved (u := U) (U := U.calling g mk a) (Vm.Alike.refl U.vm) qN⟩, fun U hU hW => ⟨rfl, by rw [hU], by rw [hU]; exact hPc, va_K.moved hW.alike hK, hDc.weaken (fun _ _ _ _ => trivial), by rw [hU]; exact zz_to hZ hS hFc hW, nn_moved hW.alike hN⟩⟩ rfl rfl hl.1 rfl (lv_room (Nat.le_of_ble_eq_true rfl)) dL_law_895 ⟨by show 48 + j + 1 ≤ 1082; omega, by show 9269 + 6 * j + 6 ≤ 17521; omega⟩) hS (fun q _ h => hFc q h) hFc (fun r5 q5 t H1 locs ht hvm hw5 hB hz1 hk1 hS => ?_)
  obtain ⟨hP1, hD1⟩ := hB
  rw [ht] at hP1
  obtain ⟨hP, hD⟩ := va_join (wr := mw g h2 v) (w1 := ow g h o q5.1 q5.2) hP hD [0, 1, 2, 3, 4, 5, 6, 7, 8, 9, 10, 11, 12, 13, 14, 15, 16, 17, 18, 19, 20, 21, 22, 23, 47] [24, 25, 26, 27, 28, 29, 30, 31, 32, 33, 34, 35, 36, 37, 38, 39, 40, 41, 42, 43, 44, 45, 46] rfl rfl (by decide) (by decide) hk1 hFc hP1 hD1
  have hP := hP.sub (ws' := LW g h h2 o q5.1 v q5.2) [23, 24, 25, 26, 27, 28, 29, 30, 31, 32, 33, 34, 35, 36, 37, 38, 39, 40, 41, 42, 43, 44, 45, 46, 0, 1, 2, 3, 4, 5, 6, 7, 8, 9, 10, 11, 12, 13, 14, 15, 16, 17, 18, 19, 20, 21, 22, 47] rfl
  have hD := hD.sub (ws' := LW g h h2 o q5.1 v q5.2) [23, 24, 25, 26, 27, 28, 29, 30, 31, 32, 33, 34, 35, 36, 37, 38, 39, 40, 41, 42, 43, 44, 45, 46, 0, 1, 2, 3, 4, 5, 6, 7, 8, 9, 10, 11, 12, 13, 14, 15, 16, 17, 18, 19, 20, 21, 22, 47] (by decide) rfl
  refine W.widen (k := 48 + (j + 1)) (n := 9269 + 6 * (j + 1)) (by omega) (by omega) ?_
  refine lv_istore (lv' := [(5, .int r5), (0, .ref b), (1, .ref (h 0)), (2, .ref (h2 0)), (3, .ref o), (4, .int x4)]) hx hb dL_law_898 hl (by decide) rfl (fun ls hl => ?_)
  refine lv_aload_n hx hb dL_law_900 rfl (lv_at hl 3 rfl) ?_
  refine lv_aload_n hx hb dL_law_901 rfl (lv_at hl 1 rfl) ?_
  refine lv_iload hx hb dL_law_902 (lv_at hl 5 rfl) ?_
  refine lv_iconst (v := 1) hx hb dL_law_904 (by decide) ?_
  refine lv_iadd hx hb dL_law_905 ?_
  refine va_sld hx hb hX hbl hbA hS i1 dL_law_906 ?_
  have hPc := hP.sub (ws' := mw g h2 v) [24, 25, 26, 27, 28, 29, 30, 31, 32, 33, 34, 35, 36, 37, 38, 39, 40, 41, 42, 43, 44, 45, 46] rfl
  have hDc := hD.sub (ws' := mw g h2 v) [24, 25, 26, 27, 28, 29, 30, 31, 32, 33, 34, 35, 36, 37, 38, 39, 40, 41, 42, 43, 44, 45, 46] (by decide) rfl
  have hFc := va_free (wc := mw g h2 v) hD hS hA [24, 25, 26, 27, 28, 29, 30, 31, 32, 33, 34, 35, 36, 37, 38, 39, 40, 41, 42, 43, 44, 45, 46] rfl
  refine va_calli (va_runV (As := [.int (xs (x4 + 1).toNatClampNeg)]) (rest := []) ⟨hx, hb, hml, hown, hts⟩ (kX5_unit l dC dI g h2 v _ (xs (x4 + 1).toNatClampNeg) (hRm u v hR)) (cwV 1 hts (lgV wd_503 wd_504 wd_505 wd_241 wcX5_unit) rfl rfl rfl (by decide +kernel) ⟨(Nat.le_of_ble_eq_true rfl), (Nat.le_of_ble_eq_true rfl)⟩) ⟨fun a U g mk q => by obtain ⟨q0, q1, qP, qK, qD⟩ := q; exact ⟨q0, q1, qP, va_K.moved (u := U) (U := U.calling g mk a) (Vm.Alike.refl U.vm) qK, qD⟩, va_recv hK hPc (ci := 4) (q0 := 0) rfl (mw_at0 _ _ _), fun U hU hW => ⟨rfl, by rw [hU], by rw [hU]; exact hPc, va_K.moved hW.alike hK, hDc.weaken (fun _ _ _ _ => trivial)⟩⟩ rfl rfl hl.1 rfl (lv_room (Nat.le_of_ble_eq_true rfl)) dL_law_907 ⟨by show 48 + (j + 1) + 0 ≤ 1082; omega, by show 9269 + 6 * (j + 1) + 0 ≤ 17521; omega⟩) hS (fun q _ h => hFc q h) hFc (fun r6 v6 t H1 locs ht hvm hw6 hB hz1 hk1 hS => ?_)
  obtain ⟨hP1, hD1⟩ := hB
  rw [ht] at hP1
  obtain ⟨hP, hD⟩ := va_join (wr := ow g h o q5.1 q5.2) (w1 := mw g h2 v6) hP hD [24, 25, 26, 27, 28, 29, 30, 31, 32, 33, 34, 35, 36, 37, 38, 39, 40, 41, 42, 43, 44, 45, 46] [0, 1, 2, 3, 4, 5, 6, 7, 8, 9, 10, 11, 12, 13, 14, 15, 16, 17, 18, 19, 20, 21, 22, 23, 47] rfl rfl (by decide) (by decide) hk1 hFc hP1 hD1
  have hP := hP.sub (ws' := LW g h h2 o q5.1 v6 q5.2) [0, 1, 2, 3, 4, 5, 6, 7, 8, 9, 10, 11, 12, 13, 14, 15, 16, 17, 18, 19, 20, 21, 22, 23, 25, 26, 27, 28, 29, 30, 31, 32, 33, 34, 35, 36, 37, 38, 39, 40, 41, 42, 43, 44, 45, 46, 47, 24] rfl
  have hD := hD.sub (ws' := LW g h h2 o q5.1 v6 q5.2) [0, 1, 2, 3, 4, 5, 6, 7, 8, 9, 10, 11, 12, 13, 14, 15, 16, 17, 18, 19, 20, 21, 22, 23, 25, 26, 27, 28, 29, 30, 31, 32, 33, 34, 35, 36, 37, 38, 39, 40, 41, 42, 43, 44, 45, 46, 47, 24] (by decide) rfl
  have hq := hst u v (xs (x4 + 1).toNatClampNeg) hR
  rw [← hw6, ← hw5.1] at hq
  have hq1 := hq.1
  have hq2 := hq.2.1
  have hq3 := hq.2.2
  refine lv_istore (lv' := [(6, .int r6), (5, .int r5), (0, .ref b), (1, .ref (h 0)), (2, .ref (h2 0)), (3, .ref o), (4, .int x4)]) hx hb dL_law_910 hl (by decide) rfl (fun ls hl => ?_)
  refine lv_aload_n hx hb dL_law_912 rfl (lv_at hl 4 rfl) ?_
  have hPc := hP.sub (ws' := mw g h2 v6) [24, 25, 26, 27, 28, 29, 30, 31, 32, 33, 34, 35, 36, 37, 38, 39, 40, 41, 42, 43, 44, 45, 46] rfl
  refine vp_callSi (W.runV (As := []) (rest := []) ⟨hx, hb, hml, hown, hts⟩ (kX5_thrown l dC dI g h2 v6) (cwV 0 hts (lgV wd_426 wd_427 wd_428 wd_241 wcX5_thrown) rfl rfl rfl (by decide +kernel) ⟨(Nat.le_of_ble_eq_true rfl), (Nat.le_of_ble_eq_true rfl)⟩) ⟨fun a U g mk q => by obtain ⟨q0, qP, qK⟩ := q; exact ⟨q0, qP, va_K.moved (u := U) (U := U.calling g mk a) (Vm.Alike.refl U.vm) qK⟩, va_recv hK hPc (ci := 4) (q0 := 0) rfl (mw_at0 _ _ _), fun U hU hW => ⟨rfl, by rw [hU]; exact hPc, va_K.moved hW.alike hK⟩⟩ rfl rfl hl.1 rfl (lv_room (Nat.le_of_ble_eq_true rfl)) dL_law_913 ⟨by show 48 + (j + 1) + 0 ≤ 1082; omega, by show 9269 + 6 * (j + 1) + 0 ≤ 17521; omega⟩) (fun r7 hw7 => ?_)
  refine lv_iload hx hb dL_law_916 (lv_at hl 1 rfl) ?_
  refine lv_icmp_eq (tgt := 923) hx hb dL_law_918 (by decide) (fun c_1 => ?_) (fun c_1 => absurd (hw7.trans hq1) c_1)
  refine lv_iload hx hb dL_law_923 (lv_at hl 1 rfl) ?_
  refine lv_if_ne (tgt := 940) hx hb dL_law_925 (by decide) (fun c_2 => ?_) (fun c_2 => ?_)
  · skip
    refine lv_goto (tgt := 1552) hx hb dL_law_940 (by decide) ?_
    have hRR : Rl q5.1 v6 := by rw [hw5.2]; exact hq3
    exact K q5.1 v6 q5.2 _ _ _ hRR hP hD hS (lv_sub hl [2, 3, 4, 5, 6] rfl)
  · skip
    have hk0 := wk_0 (by decide) (hw5.1.symm.trans c_2)
    have hv0 := hq2 hk0
    refine lv_aload_n hx hb dL_law_928 rfl (lv_at hl 5 rfl) ?_
    refine lv_iconst (v := 0) hx hb dL_law_929 (by decide) ?_
    refine va_lald (f := q5.2) hx hb hK hP 47 2 (LW_at47 _ _ _ _ _ _ _) rfl (vp_in_iff.mpr (by decide)) dL_law_930 ?_
    refine lv_iload hx hb dL_law_931 (lv_at hl 0 rfl) ?_
    refine lv_i2l (v := r6.toInt64) hx hb dL_law_933 rfl ?_
    refine W.lcmp hx hb dL_law_934 ?_
    have ho : q5.2 (0 : Int32).toNatClampNeg = r6.toInt64 := by
      rw [hw5.2]; show (if (fX4_unit u (xs (x4 + 1).toNatClampNeg)).1 = 0 then vp_updL f (0 : Int32).toNatClampNeg (fX4_unit u (xs (x4 + 1).toNatClampNeg)).2.1.toInt64 else f) _ = r6.toInt64
      rw [if_pos hk0, pk_uLs, hv0]
    rw [ho, lg_self]
    refine lv_if_eq (tgt := 940) hx hb dL_law_935 (by decide) (fun _ => ?_) (fun c_4 => absurd rfl c_4)
    refine lv_goto (tgt := 1552) hx hb dL_law_940 (by decide) ?_
    have hRR : Rl q5.1 v6 := by rw [hw5.2]; exact hq3
    exact K q5.1 v6 q5.2 _ _ _ hRR hP hD hS (lv_sub hl [2, 3, 4, 5, 6] rfl)