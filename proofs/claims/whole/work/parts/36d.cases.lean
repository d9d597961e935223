set_option maxHeartbeats 4000000 in
set_option maxRecDepth 100000 in
theorem lc_told {p : Program} {l : Launch} {e : Env} {s : State} {m : MethodId} {below : List Frame} {meth : Method} {c : Code} {b L : Nat} {xs : Nat → Int32} {dC : Nat → ClassId} {dI : Nat → Nat → Nat} {g : cG} {h h2 : Nat → Nat} {o : Nat} (X0 : lw_X p l s m meth c b L xs) (Rl : cS → mS → Prop) (hRc : ∀ (u : cS) (v : mS), Rl u v → cInv u) (hRm : ∀ (u : cS) (v : mS), Rl u v → mInv v) (hst : ∀ (u : cS) (v : mS) (x1 : Int32) (x2 : Int32), Rl u v → k_mcode (fX5_told v x1 x2).2 = wk [1, 2] (fX4_told u x1 x2).1 ∧ ((fX4_told u x1 x2).1 = 0 → (fX4_told u x1 x2).2.1 = (fX5_told v x1 x2).1) ∧ Rl (fX4_told u x1 x2).2.2 (fX5_told v x1 x2).2) (hL : L ≤ 2560) (hK : va_K (dC, dI) vwCl (cTys g) s) (j : Nat) (x4 : Int32) (hx4 : x4.toInt = 5 * (j : Int)) (hj : 5 * j + 5 ≤ L) (u : cS) (v : mS) (f : Nat → Int64) (hR : Rl u v) (H : Heap) (locs : List Loc) (hP : va_P (dC, dI) vwCl (LW g h h2 o u v f) H) (hD : va_D (fun q : Nat => s.heap.size ≤ q) (LW g h h2 o u v f)) (hS : va_S (fun q : Nat => s.heap.size ≤ q) s.heap H locs) (ls : Array Slot) (hl : lv_has ls 7 [(0, .ref b), (1, .ref (h 0)), (2, .ref (h2 0)), (3, .ref o), (4, .int x4)])
    (K : ∀ (u : cS) (v : mS) (f : Nat → Int64) (H : Heap) (locs : List Loc) (ls : Array Slot), Rl u v → va_P (dC, dI) vwCl (LW g h h2 o u v f) H → va_D (fun q : Nat => s.heap.size ≤ q) (LW g h h2 o u v f) → va_S (fun q : Nat => s.heap.size ≤ q) s.heap H locs → lv_has ls 7 [(0, .ref b), (1, .ref (h 0)), (2, .ref (h2 0)), (3, .ref o), (4, .int x4)] → W p l e room_1 s m #[Value.ref b] below meth c H locs (48 + (j + 1)) (9269 + 6 * (j + 1)) (lw_Z below #[Value.ref b] s) (F0 m 1552 ls [])) :
    W p l e room_1 s m #[Value.ref b] below meth c H locs (48 + j) (9269 + 6 * j) (lw_Z below #[Value.ref b] s) (F0 m 1323 ls []) := by
  obtain ⟨⟨hx, hb, hr, hml, hown, hts, hX, hbl, hlocks, hgv⟩, hl9, hZ, hN⟩ := X0
  have hA : ∀ q : Nat, s.heap.size ≤ q → (fun q : Nat => s.heap.size ≤ q) q := fun _ h => h
  have hbA : ¬ (fun q : Nat => s.heap.size ≤ q) b := Nat.not_le.mpr hbl
  have n1 : (1 : Int32).toInt = 1 := by decide
  have e1 := i_add (x := x4) (y := 1) (by omega) (by omega)
  have i1 : vp_in (x4 + 1) L := vp_in_iff.mpr (by omega)
  have n2 : (2 : Int32).toInt = 2 := by decide
  have e2 := i_add (x := x4) (y := 2) (by omega) (by omega)
  have i2 : vp_in (x4 + 2) L := vp_in_iff.mpr (by omega)
  have n3 : (3 : Int32).toInt = 3 := by decide
  have e3 := i_add (x := x4) (y := 3) (by omega) (by omega)
  have i3 : vp_in (x4 + 3) L := vp_in_iff.mpr (by omega)
  have n4 : (4 : Int32).toInt = 4 := by decide
  have e4 := i_add (x := x4) (y := 4) (by omega) (by omega)
  have i4 : vp_in (x4 + 4) L := vp_in_iff.mpr (by omega)
  refine lv_aload_n hx hb dL_law_1323 rfl (lv_at hl 1 rfl) ?_
  refine lv_aload_n hx hb dL_law_1324 rfl (lv_at hl 0 rfl) ?_
  refine lv_iload hx hb dL_law_1325 (lv_at hl 4 rfl) ?_
  refine lv_iconst (v := 1) hx hb dL_law_1327 (by decide) ?_
  refine lv_iadd hx hb dL_law_1328 ?_
  refine va_sld hx hb hX hbl hbA hS i1 dL_law_1329 ?_
  refine lv_aload_n hx hb dL_law_1330 rfl (lv_at hl 0 rfl) ?_
  refine lv_iload hx hb dL_law_1331 (lv_at hl 4 rfl) ?_
  refine lv_iconst (v := 2) hx hb dL_law_1333 (by decide) ?_
  refine lv_iadd hx hb dL_law_1334 ?_
  refine va_sld hx hb hX hbl hbA hS i2 dL_law_1335 ?_
  refine lv_aload_n hx hb dL_law_1336 rfl (lv_at hl 3 rfl) ?_
  have hPc := hP.sub (ws' := ow g h o u f) [0, 1, 2, 3, 4, 5, 6, 7, 8, 9, 10, 11, 12, 13, 14, 15, 16, 17, 18, 19, 20, 21, 22, 23, 47] rfl
  have hDc := hD.sub (ws' := ow g h o u f) [0, 1, 2, 3, 4, 5, 6, 7, 8, 9, 10, 11, 12, 13, 14, 15, 16, 17, 18, 19, 20, 21, 22, 23, 47] (by decide) rfl
  have hFc := va_free (wc := ow g h o u f) hD hS hA [0, 1, 2, 3, 4, 5, 6, 7, 8, 9, 10, 11, 12, 13, 14, 15, 16, 17, 18, 19, 20, 21, 22, 23, 47] rfl
  refine va_calli (vx_runSW (hh := [(0, 10, 13, 33), (0, 10, 17, 13)]) (As := [.ref (h 0), .int (xs (x4 + 1).toNatClampNeg), .int (xs (x4 + 2).toNatClampNeg), .ref o]) (rest := []) ⟨hx, hb, hml, hown, hts⟩ (kL_told l hl9 dC dI g h o u f _ (xs (x4 + 1).toNatClampNeg) (xs (x4 + 2).toNatClampNeg) (hRc u v hR)) (vx_cwSW 4 hts (lgT wd_549 wd_550 wd_420 wcL_told) rfl rfl rfl (by decide +kernel) ⟨(Nat.le_of_ble_eq_true rfl), (Nat.le_of_ble_eq_true rfl)⟩) ⟨fun a U g mk q => by obtain ⟨q0, q1, qP, qK, qD, qZ, qN⟩ := q; exact ⟨q0, q1, qP, va_K.moved (u := U) (U := U.calling g mk a) (Vm.Alike.refl U.vm) qK, qD, zz_same (u := U) (H := U.heap) rfl rfl qZ, nn_moved (u := U) (U := U.calling g mk a) (Vm.Alike.refl U.vm) qN⟩, fun U hU hW => ⟨rfl, by rw [hU], by rw [hU]; exact hPc, va_K.moved hW.alike hK, hDc.weaken (fun _ _ _ _ => trivial), by rw [hU]; exact zz_to hZ hS hFc hW, nn_moved hW.alike hN⟩⟩ rfl rfl hl.1 rfl (lv_room (Nat.le_of_ble_eq_true rfl)) dL_law_1337 ⟨by show 48 + j + 1 ≤ 1082; omega, by show 9269 + 6 * j + 6 ≤ 17521; omega⟩) hS (fun q _ h => hFc q h) hFc (fun r5 q5 t H1 locs ht hvm hw5 hB hz1 hk1 hS => ?_)
  obtain ⟨hP1, hD1⟩ := hB
  rw [ht] at hP1
  obtain ⟨hP, hD⟩ := va_join (wr := mw g h2 v) (w1 := ow g h o q5.1 q5.2) hP hD [0, 1, 2, 3, 4, 5, 6, 7, 8, 9, 10, 11, 12, 13, 14, 15, 16, 17, 18, 19, 20, 21, 22, 23, 47] [24, 25, 26, 27, 28, 29, 30, 31, 32, 33, 34, 35, 36, 37, 38, 39, 40, 41, 42, 43, 44, 45, 46] rfl rfl (by decide) (by decide) hk1 hFc hP1 hD1
  have hP := hP.sub (ws' := LW g h h2 o q5.1 v q5.2) [23, 24, 25, 26, 27, 28, 29, 30, 31, 32, 33, 34, 35, 36, 37, 38, 39, 40, 41, 42, 43, 44, 45, 46, 0, 1, 2, 3, 4, 5, 6, 7, 8, 9, 10, 11, 12, 13, 14, 15, 16, 17, 18, 19, 20, 21, 22, 47] rfl
  have hD := hD.sub (ws' := LW g h h2 o q5.1 v q5.2) [23, 24, 25, 26, 27, 28, 29, 30, 31, 32, 33, 34, 35, 36, 37, 38, 39, 40, 41, 42, 43, 44, 45, 46, 0, 1, 2, 3, 4, 5, 6, 7, 8, 9, 10, 11, 12, 13, 14, 15, 16, 17, 18, 19, 20, 21, 22, 47] (by decide) rfl
  refine W.widen (k := 48 + (j + 1)) (n := 9269 + 6 * (j + 1)) (by omega) (by omega) ?_
  refine lv_istore (lv' := [(5, .int r5), (0, .ref b), (1, .ref (h 0)), (2, .ref (h2 0)), (3, .ref o), (4, .int x4)]) hx hb dL_law_1340 hl (by decide) rfl (fun ls hl => ?_)
  refine lv_aload_n hx hb dL_law_1342 rfl (lv_at hl 3 rfl) ?_
  refine lv_aload_n hx hb dL_law_1343 rfl (lv_at hl 1 rfl) ?_
  refine lv_iload hx hb dL_law_1344 (lv_at hl 5 rfl) ?_
  refine lv_iconst (v := 1) hx hb dL_law_1346 (by decide) ?_
  refine lv_iadd hx hb dL_law_1347 ?_
  refine va_sld hx hb hX hbl hbA hS i1 dL_law_1348 ?_
  refine lv_aload_n hx hb dL_law_1349 rfl (lv_at hl 1 rfl) ?_
  refine lv_iload hx hb dL_law_1350 (lv_at hl 5 rfl) ?_
  refine lv_iconst (v := 2) hx hb dL_law_1352 (by decide) ?_
  refine lv_iadd hx hb dL_law_1353 ?_
  refine va_sld hx hb hX hbl hbA hS i2 dL_law_1354 ?_
  have hPc := hP.sub (ws' := mw g h2 v) [24, 25, 26, 27, 28, 29, 30, 31, 32, 33, 34, 35, 36, 37, 38, 39, 40, 41, 42, 43, 44, 45, 46] rfl
  have hDc := hD.sub (ws' := mw g h2 v) [24, 25, 26, 27, 28, 29, 30, 31, 32, 33, 34, 35, 36, 37, 38, 39, 40, 41, 42, 43, 44, 45, 46] (by decide) rfl
  have hFc := va_free (wc := mw g h2 v) hD hS hA [24, 25, 26, 27, 28, 29, 30, 31, 32, 33, 34, 35, 36, 37, 38, 39, 40, 41, 42, 43, 44, 45, 46] rfl
  refine va_calli (va_runV (As := [.int (xs (x4 + 1).toNatClampNeg), .int (xs (x4 + 2).toNatClampNeg)]) (rest := []) ⟨hx, hb, hml, hown, hts⟩ (kX5_told l dC dI g h2 v _ (xs (x4 + 1).toNatClampNeg) (xs (x4 + 2).toNatClampNeg) (hRm u v hR)) (cwV 2 hts (lgV wd_552 wd_553 wd_554 wd_241 wcX5_told) rfl rfl rfl (by decide +kernel) ⟨(Nat.le_of_ble_eq_true rfl), (Nat.le_of_ble_eq_true rfl)⟩) ⟨fun a U g mk q => by obtain ⟨q0, q1, qP, qK, qD⟩ := q; exact ⟨q0, q1, qP, va_K.moved (u := U) (U := U.calling g mk a) (Vm.Alike.refl U.vm) qK, qD⟩, va_recv hK hPc (ci := 4) (q0 := 0) rfl (mw_at0 _ _ _), fun U hU hW => ⟨rfl, by rw [hU], by rw [hU]; exact hPc, va_K.moved hW.alike hK, hDc.weaken (fun _ _ _ _ => trivial)⟩⟩ rfl rfl hl.1 rfl (lv_room (Nat.le_of_ble_eq_true rfl)) dL_law_1355 ⟨by show 48 + (j + 1) + 0 ≤ 1082; omega, by show 9269 + 6 * (j + 1) + 0 ≤ 17521; omega⟩) hS (fun q _ h => hFc q h) hFc (fun r6 v6 t H1 locs ht hvm hw6 hB hz1 hk1 hS => ?_)
  obtain ⟨hP1, hD1⟩ := hB
  rw [ht] at hP1
  obtain ⟨hP, hD⟩ := va_join (wr := ow g h o q5.1 q5.2) (w1 := mw g h2 v6) hP hD [24, 25, 26, 27, 28, 29, 30, 31, 32, 33, 34, 35, 36, 37, 38, 39, 40, 41, 42, 43, 44, 45, 46] [0, 1, 2, 3, 4, 5, 6, 7, 8, 9, 10, 11, 12, 13, 14, 15, 16, 17, 18, 19, 20, 21, 22, 23, 47] rfl rfl (by decide) (by decide) hk1 hFc hP1 hD1
  have hP := hP.sub (ws' := LW g h h2 o q5.1 v6 q5.2) [0, 1, 2, 3, 4, 5, 6, 7, 8, 9, 10, 11, 12, 13, 14, 15, 16, 17, 18, 19, 20, 21, 22, 23, 25, 26, 27, 28, 29, 30, 31, 32, 33, 34, 35, 36, 37, 38, 39, 40, 41, 42, 43, 44, 45, 46, 47, 24] rfl
  have hD := hD.sub (ws' := LW g h h2 o q5.1 v6 q5.2) [0, 1, 2, 3, 4, 5, 6, 7, 8, 9, 10, 11, 12, 13, 14, 15, 16, 17, 18, 19, 20, 21, 22, 23, 25, 26, 27, 28, 29, 30, 31, 32, 33, 34, 35, 36, 37, 38, 39, 40, 41, 42, 43, 44, 45, 46, 47, 24] (by decide) rfl
  have hq := hst u v (xs (x4 + 1).toNatClampNeg) (xs (x4 + 2).toNatClampNeg) hR
  rw [← hw6, ← hw5.1] at hq
  have hq1 := hq.1
  have hq2 := hq.2.1
  have hq3 := hq.2.2
  refine lv_istore (lv' := [(6, .int r6), (5, .int r5), (0, .ref b), (1, .ref (h 0)), (2, .ref (h2 0)), (3, .ref o), (4, .int x4)]) hx hb dL_law_1358 hl (by decide) rfl (fun ls hl => ?_)
  refine lv_aload_n hx hb dL_law_1360 rfl (lv_at hl 4 rfl) ?_
  have hPc := hP.sub (ws' := mw g h2 v6) [24, 25, 26, 27, 28, 29, 30, 31, 32, 33, 34, 35, 36, 37, 38, 39, 40, 41, 42, 43, 44, 45, 46] rfl
  refine vp_callSi (W.runV (As := []) (rest := []) ⟨hx, hb, hml, hown, hts⟩ (kX5_thrown l dC dI g h2 v6) (cwV 0 hts (lgV wd_426 wd_427 wd_428 wd_241 wcX5_thrown) rfl rfl rfl (by decide +kernel) ⟨(Nat.le_of_ble_eq_true rfl), (Nat.le_of_ble_eq_true rfl)⟩) ⟨fun a U g mk q => by obtain ⟨q0, qP, qK⟩ := q; exact ⟨q0, qP, va_K.moved (u := U) (U := U.calling g mk a) (Vm.Alike.refl U.vm) qK⟩, va_recv hK hPc (ci := 4) (q0 := 0) rfl (mw_at0 _ _ _), fun U hU hW => ⟨rfl, by rw [hU]; exact hPc, va_K.moved hW.alike hK⟩⟩ rfl rfl hl.1 rfl (lv_room (Nat.le_of_ble_eq_true rfl)) dL_law_1361 ⟨by show 48 + (j + 1) + 0 ≤ 1082; omega, by show 9269 + 6 * (j + 1) + 0 ≤ 17521; omega⟩) (fun r7 hw7 => ?_)
  refine lv_iload hx hb dL_law_1364 (lv_at hl 1 rfl) ?_
  refine lv_icmp_eq (tgt := 1371) hx hb dL_law_1366 (by decide) (fun c_1 => ?_) (fun c_1 => absurd (hw7.trans hq1) c_1)
  refine lv_iload hx hb dL_law_1371 (lv_at hl 1 rfl) ?_
  refine lv_if_ne (tgt := 1388) hx hb dL_law_1373 (by decide) (fun c_2 => ?_) (fun c_2 => ?_)
  · skip
    refine lv_goto (tgt := 1552) hx hb dL_law_1388 (by decide) ?_
    have hRR : Rl q5.1 v6 := by rw [hw5.2]; exact hq3
    exact K q5.1 v6 q5.2 _ _ _ hRR hP hD hS (lv_sub hl [2, 3, 4, 5, 6] rfl)
  · skip
    have hk0 := wk_0 (by decide) (hw5.1.symm.trans c_2)
    have hv0 := hq2 hk0
    refine lv_aload_n hx hb dL_law_1376 rfl (lv_at hl 5 rfl) ?_
    refine lv_iconst (v := 0) hx hb dL_law_1377 (by decide) ?_
    refine va_lald (f := q5.2) hx hb hK hP 47 2 (LW_at47 _ _ _ _ _ _ _) rfl (vp_in_iff.mpr (by decide)) dL_law_1378 ?_
    refine lv_iload hx hb dL_law_1379 (lv_at hl 0 rfl) ?_
    refine lv_i2l (v := r6.toInt64) hx hb dL_law_1381 rfl ?_
    refine W.lcmp hx hb dL_law_1382 ?_
    have ho : q5.2 (0 : Int32).toNatClampNeg = r6.toInt64 := by
      rw [hw5.2]; show (if (fX4_told u (xs (x4 + 1).toNatClampNeg) (xs (x4 + 2).toNatClampNeg)).1 = 0 then vp_updL f (0 : Int32).toNatClampNeg (fX4_told u (xs (x4 + 1).toNatClampNeg) (xs (x4 + 2).toNatClampNeg)).2.1.toInt64 else f) _ = r6.toInt64
      rw [if_pos hk0, pk_uLs, hv0]
    rw [ho, lg_self]
    refine lv_if_eq (tgt := 1388) hx hb dL_law_1383 (by decide) (fun _ => ?_) (fun c_4 => absurd rfl c_4)
    refine lv_goto (tgt := 1552) hx hb dL_law_1388 (by decide) ?_
    have hRR : Rl q5.1 v6 := by rw [hw5.2]; exact hq3
    exact K q5.1 v6 q5.2 _ _ _ hRR hP hD hS (lv_sub hl [2, 3, 4, 5, 6] rfl)
set_option maxHeartbeats 4000000 in
set_option maxRecDepth 100000 in
theorem lc_day {p : Program} {l : Launch} {e : Env} {s : State} {m : MethodId} {below : List Frame} {meth : Method} {c : Code} {b L : Nat} {xs : Nat → Int32} {dC : Nat → ClassId} {dI : Nat → Nat → Nat} {g : cG} {h h2 : Nat → Nat} {o : Nat} (X0 : lw_X p l s m meth c b L xs) (Rl : cS → mS → Prop) (hRc : ∀ (u : cS) (v : mS), Rl u v → cInv u) (hRm : ∀ (u : cS) (v : mS), Rl u v → mInv v) (hst : ∀ (u : cS) (v : mS) (x1 : Int32) (x2 : Int32), Rl u v → k_mcode (fX5_day v x1 x2).2 = wk [2] (fX4_day u x1 x2).1 ∧ ((fX4_day u x1 x2).1 = 0 → (fX4_day u x1 x2).2.1 = (fX5_day v x1 x2).1) ∧ Rl (fX4_day u x1 x2).2.2 (fX5_day v x1 x2).2) (hL : L ≤ 2560) (hK : va_K (dC, dI) vwCl (cTys g) s) (j : Nat) (x4 : Int32) (hx4 : x4.toInt = 5 * (j : Int)) (hj : 5 * j + 5 ≤ L) (u : cS) (v : mS) (f : Nat → Int64) (hR : Rl u v) (H : Heap) (locs : List Loc) (hP : va_P (dC, dI) vwCl (LW g h h2 o u v f) H) (hD : va_D (fun q : Nat => s.heap.size ≤ q) (LW g h h2 o u v f)) (hS : va_S (fun q : Nat => s.heap.size ≤ q) s.heap H locs) (ls : Array Slot) (hl : lv_has ls 7 [(0, .ref b), (1, .ref (h 0)), (2, .ref (h2 0)), (3, .ref o), (4, .int x4)])
    (K : ∀ (u : cS) (v : mS) (f : Nat → Int64) (H : Heap) (locs : List Loc) (ls : Array Slot), Rl u v → va_P (dC, dI) vwCl (LW g h h2 o u v f) H → va_D (fun q : Nat => s.heap.size ≤ q) (LW g h h2 o u v f) → va_S (fun q : Nat => s.heap.size ≤ q) s.heap H locs → lv_has ls 7 [(0, .ref b), (1, .ref (h 0)), (2, .ref (h2 0)), (3, .ref o), (4, .int x4)] → W p l e room_1 s m #[Value.ref b] below meth c H locs (48 + (j + 1)) (9269 + 6 * (j + 1)) (lw_Z below #[Value.ref b] s) (F0 m 1552 ls [])) :
    W p l e room_1 s m #[Value.ref b] below meth c H locs (48 + j) (9269 + 6 * j) (lw_Z below #[Value.ref b] s) (F0 m 1391 ls []) := by
  obtain ⟨⟨hx, hb, hr, hml, hown, hts, hX, hbl, hlocks, hgv⟩, hl9, hZ, hN⟩ := X0
  have hA : ∀ q : Nat, s.heap.size ≤ q → (fun q : Nat => s.heap.size ≤ q) q := fun _ h => h
  have hbA : ¬ (fun q : Nat => s.heap.size ≤ q) b := Nat.not_le.mpr hbl
  have n1 : (1 : Int32).toInt = 1 := by decide
  have e1 := i_add (x := x4) (y := 1) (by omega) (by omega)
  have i1 : vp_in (x4 + 1) L := vp_in_iff.mpr (by omega)
  have n2 : (2 : Int32).toInt = 2 := by decide
  have e2 := i_add (x := x4) (y := 2) (by omega) (by omega)
  have i2 : vp_in (x4 + 2) L := vp_in_iff.mpr (by omega)
  have n3 : (3 : Int32).toInt = 3 := by decide
  have e3 := i_add (x := x4) (y := 3) (by omega) (by omega)
  have i3 : vp_in (x4 + 3) L := vp_in_iff.mpr (by omega)
  have n4 : (4 : Int32).toInt = 4 := by decide
  have e4 := i_add (x := x4) (y := 4) (by omega) (by omega)
  have i4 : vp_in (x4 + 4) L := vp_in_iff.mpr (by omega)
  refine lv_aload_n hx hb dL_law_1391 rfl (lv_at hl 1 rfl) ?_
  refine lv_aload_n hx hb dL_law_1392 rfl (lv_at hl 0 rfl) ?_
  refine lv_iload hx hb dL_law_1393 (lv_at hl 4 rfl) ?_
  refine lv_iconst (v := 1) hx hb dL_law_1395 (by decide) ?_
  refine lv_iadd hx hb dL_law_1396 ?_
  refine va_sld hx hb hX hbl hbA hS i1 dL_law_1397 ?_
  refine lv_aload_n hx hb dL_law_1398 rfl (lv_at hl 0 rfl) ?_
  refine lv_iload hx hb dL_law_1399 (lv_at hl 4 rfl) ?_
  refine lv_iconst (v := 2) hx hb dL_law_1401 (by decide) ?_
  refine lv_iadd hx hb dL_law_1402 ?_
  refine va_sld hx hb hX hbl hbA hS i2 dL_law_1403 ?_
  refine lv_aload_n hx hb dL_law_1404 rfl (lv_at hl 3 rfl) ?_
  have hPc := hP.sub (ws' := ow g h o u f) [0, 1, 2, 3, 4, 5, 6, 7, 8, 9, 10, 11, 12, 13, 14, 15, 16, 17, 18, 19, 20, 21, 22, 23, 47] rfl
  have hDc := hD.sub (ws' := ow g h o u f) [0, 1, 2, 3, 4, 5, 6, 7, 8, 9, 10, 11, 12, 13, 14, 15, 16, 17, 18, 19, 20, 21, 22, 23, 47] (by decide) rfl
  have hFc := va_free (wc := ow g h o u f) hD hS hA [0, 1, 2, 3, 4, 5, 6, 7, 8, 9, 10, 11, 12, 13, 14, 15, 16, 17, 18, 19, 20, 21, 22, 23, 47] rfl
  refine va_calli (vx_runSW (hh := [(0, 10, 13, 13)]) (As := [.ref (h 0), .int (xs (x4 + 1).toNatClampNeg), .int (xs (x4 + 2).toNatClampNeg), .ref o]) (rest := []) ⟨hx, hb, hml, hown, hts⟩ (kL_day l hl9 dC dI g h o u f _ (xs (x4 + 1).toNatClampNeg) (xs (x4 + 2).toNatClampNeg) (hRc u v hR)) (vx_cwSW 4 hts (lgT wd_556 wd_557 wd_420 wcL_day) rfl rfl rfl (by decide +kernel) ⟨(Nat.le_of_ble_eq_true rfl), (Nat.le_of_ble_eq_true rfl)⟩) ⟨fun a U g mk q => by obtain ⟨q0, q1, qP, qK, qD, qZ, qN⟩ := q; exact ⟨q0, q1, qP, va_K.moved (u := U) (U := U.calling g mk a) (Vm.Alike.refl U.vm) qK, qD, zz_same (u := U) (H := U.heap) rfl rfl qZ, nn_moved (u := U) (U := U.calling g mk a) (Vm.Alike.refl U.vm) qN⟩, fun U hU hW => ⟨rfl, by rw [hU], by rw [hU]; exact hPc, va_K.moved hW.alike hK, hDc.weaken (fun _ _ _ _ => trivial), by rw [hU]; exact zz_to hZ hS hFc hW, nn_moved hW.alike hN⟩⟩ rfl rfl hl.1 rfl (lv_room (Nat.le_of_ble_eq_true rfl)) dL_law_1405 ⟨by show 48 + j + 1 ≤ 1082; omega, by show 9269 + 6 * j + 6 ≤ 17521; omega⟩) hS (fun q _ h => hFc q h) hFc (fun r5 q5 t H1 locs ht hvm hw5 hB hz1 hk1 hS => ?_)
  obtain ⟨hP1, hD1⟩ := hB
  rw [ht] at hP1
  obtain ⟨hP, hD⟩ := va_join (wr := mw g h2 v) (w1 := ow g h o q5.1 q5.2) hP hD [0, 1, 2, 3, 4, 5, 6, 7, 8, 9, 10, 11, 12, 13, 14, 15, 16, 17, 18, 19, 20, 21, 22, 23, 47] [24, 25, 26, 27, 28, 29, 30, 31, 32, 33, 34, 35, 36, 37, 38, 39, 40, 41, 42, 43, 44, 45, 46] rfl rfl (by decide) (by decide) hk1 hFc hP1 hD1
  have hP := hP.sub (ws' := LW g h h2 o q5.1 v q5.2) [23, 24, 25, 26, 27, 28, 29, 30, 31, 32, 33, 34, 35, 36, 37, 38, 39, 40, 41, 42, 43, 44, 45, 46, 0, 1, 2, 3, 4, 5, 6, 7, 8, 9, 10, 11, 12, 13, 14, 15, 16, 17, 18, 19, 20, 21, 22, 47] rfl
  have hD := hD.sub (ws' := LW g h h2 o q5.1 v q5.2) [23, 24, 25, 26, 27, 28, 29, 30, 31, 32, 33, 34, 35, 36, 37, 38, 39, 40, 41, 42, 43, 44, 45, 46, 0, 1, 2, 3, 4, 5, 6, 7, 8, 9, 10, 11, 12, 13, 14, 15, 16, 17, 18, 19, 20, 21, 22, 47] (by decide) rfl
  refine W.widen (k := 48 + (j + 1)) (n := 9269 + 6 * (j + 1)) (by omega) (by omega) ?_
  refine lv_istore (lv' := [(5, .int r5), (0, .ref b), (1, .ref (h 0)), (2, .ref (h2 0)), (3, .ref o), (4, .int x4)]) hx hb dL_law_1408 hl (by decide) rfl (fun ls hl => ?_)
  refine lv_aload_n hx hb dL_law_1410 rfl (lv_at hl 3 rfl) ?_
  refine lv_aload_n hx hb dL_law_1411 rfl (lv_at hl 1 rfl) ?_
  refine lv_iload hx hb dL_law_1412 (lv_at hl 5 rfl) ?_
  refine lv_iconst (v := 1) hx hb dL_law_1414 (by decide) ?_
  refine lv_iadd hx hb dL_law_1415 ?_
  refine va_sld hx hb hX hbl hbA hS i1 dL_law_1416 ?_
  refine lv_aload_n hx hb dL_law_1417 rfl (lv_at hl 1 rfl) ?_
  refine lv_iload hx hb dL_law_1418 (lv_at hl 5 rfl) ?_
  refine lv_iconst (v := 2) hx hb dL_law_1420 (by decide) ?_
  refine lv_iadd hx hb dL_law_1421 ?_
  refine va_sld hx hb hX hbl hbA hS i2 dL_law_1422 ?_
  have hPc := hP.sub (ws' := mw g h2 v) [24, 25, 26, 27, 28, 29, 30, 31, 32, 33, 34, 35, 36, 37, 38, 39, 40, 41, 42, 43, 44, 45, 46] rfl
  have hDc := hD.sub (ws' := mw g h2 v) [24, 25, 26, 27, 28, 29, 30, 31, 32, 33, 34, 35, 36, 37, 38, 39, 40, 41, 42, 43, 44, 45, 46] (by decide) rfl
  have hFc := va_free (wc := mw g h2 v) hD hS hA [24, 25, 26, 27, 28, 29, 30, 31, 32, 33, 34, 35, 36, 37, 38, 39, 40, 41, 42, 43, 44, 45, 46] rfl
  refine va_calli (va_runV (As := [.int (xs (x4 + 1).toNatClampNeg), .int (xs (x4 + 2).toNatClampNeg)]) (rest := []) ⟨hx, hb, hml, hown, hts⟩ (kX5_day l dC dI g h2 v _ (xs (x4 + 1).toNatClampNeg) (xs (x4 + 2).toNatClampNeg) (hRm u v hR)) (cwV 2 hts (lgV wd_559 wd_560 wd_561 wd_241 wcX5_day) rfl rfl rfl (by decide +kernel) ⟨(Nat.le_of_ble_eq_true rfl), (Nat.le_of_ble_eq_true rfl)⟩) ⟨fun a U g mk q => by obtain ⟨q0, q1, qP, qK, qD⟩ := q; exact ⟨q0, q1, qP, va_K.moved (u := U) (U := U.calling g mk a) (Vm.Alike.refl U.vm) qK, qD⟩, va_recv hK hPc (ci := 4) (q0 := 0) rfl (mw_at0 _ _ _), fun U hU hW => ⟨rfl, by rw [hU], by rw [hU]; exact hPc, va_K.moved hW.alike hK, hDc.weaken (fun _ _ _ _ => trivial)⟩⟩ rfl rfl hl.1 rfl (lv_room (Nat.le_of_ble_eq_true rfl)) dL_law_1423 ⟨by show 48 + (j + 1) + 0 ≤ 1082; omega, by show 9269 + 6 * (j + 1) + 0 ≤ 17521; omega⟩) hS (fun q _ h => hFc q h) hFc (fun r6 v6 t H1 locs ht hvm hw6 hB hz1 hk1 hS => ?_)
  obtain ⟨hP1, hD1⟩ := hB
  rw [ht] at hP1
  obtain ⟨hP, hD⟩ := va_join (wr := ow g h o q5.1 q5.2) (w1 := mw g h2 v6) hP hD [24, 25, 26, 27, 28, 29, 30, 31, 32, 33, 34, 35, 36, 37, 38, 39, 40, 41, 42, 43, 44, 45, 46] [0, 1, 2, 3, 4, 5, 6, 7, 8, 9, 10, 11, 12, 13, 14, 15, 16, 17, 18, 19, 20, 21, 22, 23, 47] rfl rfl (by decide) (by decide) hk1 hFc hP1 hD1
  have hP := hP.sub (ws' := LW g h h2 o q5.1 v6 q5.2) [0, 1, 2, 3, 4, 5, 6, 7, 8, 9, 10, 11, 12, 13, 14, 15, 16, 17, 18, 19, 20, 21, 22, 23, 25, 26, 27, 28, 29, 30, 31, 32, 33, 34, 35, 36, 37, 38, 39, 40, 41, 42, 43, 44, 45, 46, 47, 24] rfl
  have hD := hD.sub (ws' := LW g h h2 o q5.1 v6 q5.2) [0, 1, 2, 3, 4, 5, 6, 7, 8, 9, 10, 11, 12, 13, 14, 15, 16, 17, 18, 19, 20, 21, 22, 23, 25, 26, 27, 28, 29, 30, 31, 32, 33, 34, 35, 36, 37, 38, 39, 40, 41, 42, 43, 44, 45, 46, 47, 24] (by decide) rfl
  have hq := hst u v (xs (x4 + 1).toNatClampNeg) (xs (x4 + 2).toNatClampNeg) hR
  rw [← hw6, ← hw5.1] at hq
  have hq1 := hq.1
  have hq2 := hq.2.1
  have hq3 := hq.2.2
  refine lv_istore (lv' := [(6, .int r6), (5, .int r5), (0, .ref b), (1, .ref (h 0)), (2, .ref (h2 0)), (3, .ref o), (4, .int x4)]) hx hb dL_law_1426 hl (by decide) rfl (fun ls hl => ?_)
  refine lv_aload_n hx hb dL_law_1428 rfl (lv_at hl 4 rfl) ?_
  have hPc := hP.sub (ws' := mw g h2 v6) [24, 25, 26, 27, 28, 29, 30, 31, 32, 33, 34, 35, 36, 37, 38, 39, 40, 41, 42, 43, 44, 45, 46] rfl
  refine vp_callSi (W.runV (As := []) (rest := []) ⟨hx, hb, hml, hown, hts⟩ (kX5_thrown l dC dI g h2 v6) (cwV 0 hts (lgV wd_426 wd_427 wd_428 wd_241 wcX5_thrown) rfl rfl rfl (by decide +kernel) ⟨(Nat.le_of_ble_eq_true rfl), (Nat.le_of_ble_eq_true rfl)⟩) ⟨fun a U g mk q => by obtain ⟨q0, qP, qK⟩ := q; exact ⟨q0, qP, va_K.moved (u := U) (U := U.calling g mk a) (Vm.Alike.refl U.vm) qK⟩, va_recv hK hPc (ci := 4) (q0 := 0) rfl (mw_at0 _ _ _), fun U hU hW => ⟨rfl, by rw [hU]; exact hPc, va_K.moved hW.alike hK⟩⟩ rfl rfl hl.1 rfl (lv_room (Nat.le_of_ble_eq_true rfl)) dL_law_1429 ⟨by show 48 + (j + 1) + 0 ≤ 1082; omega, by show 9269 + 6 * (j + 1) + 0 ≤ 17521; omega⟩) (fun r7 hw7 => ?_)
  refine lv_iload hx hb dL_law_1432 (lv_at hl 1 rfl) ?_
  refine lv_icmp_eq (tgt := 1439) hx hb dL_law_1434 (by decide) (fun c_1 => ?_) (fun c_1 => absurd (hw7.trans hq1) c_1)
  refine lv_iload hx hb dL_law_1439 (lv_at hl 1 rfl) ?_
  refine lv_if_ne (tgt := 1456) hx hb dL_law_1441 (by decide) (fun c_2 => ?_) (fun c_2 => ?_)
  · skip
    refine lv_goto (tgt := 1552) hx hb dL_law_1456 (by decide) ?_
    have hRR : Rl q5.1 v6 := by rw [hw5.2]; exact hq3
    exact K q5.1 v6 q5.2 _ _ _ hRR hP hD hS (lv_sub hl [2, 3, 4, 5, 6] rfl)
  · skip
    have hk0 := wk_0 (by decide) (hw5.1.symm.trans c_2)
    have hv0 := hq2 hk0
    refine lv_aload_n hx hb dL_law_1444 rfl (lv_at hl 5 rfl) ?_
    refine lv_iconst (v := 0) hx hb dL_law_1445 (by decide) ?_
    refine va_lald (f := q5.2) hx hb hK hP 47 2 (LW_at47 _ _ _ _ _ _ _) rfl (vp_in_iff.mpr (by decide)) dL_law_1446 ?_
    refine lv_iload hx hb dL_law_1447 (lv_at hl 0 rfl) ?_
    refine lv_i2l (v := r6.toInt64) hx hb dL_law_1449 rfl ?_
    refine W.lcmp hx hb dL_law_1450 ?_
    have ho : q5.2 (0 : Int32).toNatClampNeg = r6.toInt64 := by
      rw [hw5.2]; show (if (fX4_day u (xs (x4 + 1).toNatClampNeg) (xs (x4 + 2).toNatClampNeg)).1 = 0 then vp_updL f (0 : Int32).toNatClampNeg (fX4_day u (xs (x4 + 1).toNatClampNeg) (xs (x4 + 2).toNatClampNeg)).2.1.toInt64 else f) _ = r6.toInt64
      rw [if_pos hk0, pk_uLs, hv0]
    rw [ho, lg_self]
    refine lv_if_eq (tgt := 1456) hx hb dL_law_1451 (by decide) (fun _ => ?_) (fun c_4 => absurd rfl c_4)
    refine lv_goto (tgt := 1552) hx hb dL_law_1456 (by decide) ?_
    have hRR : Rl q5.1 v6 := by rw [hw5.2]; exact hq3
    exact K q5.1 v6 q5.2 _ _ _ hRR hP hD hS (lv_sub hl [2, 3, 4, 5, 6] rfl)
set_option maxHeartbeats 4000000 in
set_option maxRecDepth 100000 in
theorem lc_date {p : Program} {l : Launch} {e : Env} {s : State} {m : MethodId} {below : List Frame} {meth : Method} {c : Code} {b L : Nat} {xs : Nat → Int32} {dC : Nat → ClassId} {dI : Nat → Nat → Nat} {g : cG} {h h2 : Nat → Nat} {o : Nat} (X0 : lw_X p l s m meth c b L xs) (Rl : cS → mS → Prop) (hRc : ∀ (u : cS) (v : mS), Rl u v → cInv u) (hRm : ∀ (u : cS) (v : mS), Rl u v → mInv v) (hst : ∀ (u : cS) (v : mS) (x1 : Int32) (x2 : Int32), Rl u v → k_mcode (fX5_date v x1 x2).2 = wk [2] (fX4_date u x1 x2).1 ∧ ((fX4_date u x1 x2).1 = 0 → (fX4_date u x1 x2).2.1 = (fX5_date v x1 x2).1) ∧ Rl (fX4_date u x1 x2).2.2 (fX5_date v x1 x2).2) (hL : L ≤ 2560) (hK : va_K (dC, dI) vwCl (cTys g) s) (j : Nat) (x4 : Int32) (hx4 : x4.toInt = 5 * (j : Int)) (hj : 5 * j + 5 ≤ L) (u : cS) (v : mS) (f : Nat → Int64) (hR : Rl u v) (H : Heap) (locs : List Loc) (hP : va_P (dC, dI) vwCl (LW g h h2 o u v f) H) (hD : va_D (fun q : Nat => s.heap.size ≤ q) (LW g h h2 o u v f)) (hS : va_S (fun q : Nat => s.heap.size ≤ q) s.heap H locs) (ls : Array Slot) (hl : lv_has ls 7 [(0, .ref b), (1, .ref (h 0)), (2, .ref (h2 0)), (3, .ref o), (4, .int x4)])
    (K : ∀ (u : cS) (v : mS) (f : Nat → Int64) (H : Heap) (locs : List Loc) (ls : Array Slot), Rl u v → va_P (dC, dI) vwCl (LW g h h2 o u v f) H → va_D (fun q : Nat => s.heap.size ≤ q) (LW g h h2 o u v f) → va_S (fun q : Nat => s.heap.size ≤ q) s.heap H locs → lv_has ls 7 [(0, .ref b), (1, .ref (h 0)), (2, .ref (h2 0)), (3, .ref o), (4, .int x4)] → W p l e room_1 s m #[Value.ref b] below meth c H locs (48 + (j + 1)) (9269 + 6 * (j + 1)) (lw_Z below #[Value.ref b] s) (F0 m 1552 ls [])) :
    W p l e room_1 s m #[Value.ref b] below meth c H locs (48 + j) (9269 + 6 * j) (lw_Z below #[Value.ref b] s) (F0 m 1459 ls []) := by
  obtain ⟨⟨hx, hb, hr, hml, hown, hts, hX, hbl, hlocks, hgv⟩, hl9, hZ, hN⟩ := X0
  have hA : ∀ q : Nat, s.heap.size ≤ q → (fun q : Nat => s.heap.size ≤ q) q := fun _ h => h
  have hbA : ¬ (fun q : Nat => s.heap.size ≤ q) b := Nat.not_le.mpr hbl
  have n1 : (1 : Int32).toInt = 1 := by decide
  have e1 := i_add (x := x4) (y := 1) (by omega) (by omega)
  have i1 : vp_in (x4 + 1) L := vp_in_iff.mpr (by omega)
  have n2 : (2 : Int32).toInt = 2 := by decide
  have e2 := i_add (x := x4) (y := 2) (by omega) (by omega)
  have i2 : vp_in (x4 + 2) L := vp_in_iff.mpr (by omega)
  have n3 : (3 : Int32).toInt = 3 := by decide
  have e3 := i_add (x := x4) (y := 3) (by omega) (by omega)
  have i3 : vp_in (x4 + 3) L := vp_in_iff.mpr (by omega)
  have n4 : (4 : Int32).toInt = 4 := by decide
  have e4 := i_add (x := x4) (y := 4) (by omega) (by omega)
  have i4 : vp_in (x4 + 4) L := vp_in_iff.mpr (by omega)
  refine lv_aload_n hx hb dL_law_1459 rfl (lv_at hl 1 rfl) ?_
  refine lv_aload_n hx hb dL_law_1460 rfl (lv_at hl 0 rfl) ?_
  refine lv_iload hx hb dL_law_1461 (lv_at hl 4 rfl) ?_
  refine lv_iconst (v := 1) hx hb dL_law_1463 (by decide) ?_
  refine lv_iadd hx hb dL_law_1464 ?_
  refine va_sld hx hb hX hbl hbA hS i1 dL_law_1465 ?_
  refine lv_aload_n hx hb dL_law_1466 rfl (lv_at hl 0 rfl) ?_
  refine lv_iload hx hb dL_law_1467 (lv_at hl 4 rfl) ?_
  refine lv_iconst (v := 2) hx hb dL_law_1469 (by decide) ?_
  refine lv_iadd hx hb dL_law_1470 ?_
  refine va_sld hx hb hX hbl hbA hS i2 dL_law_1471 ?_
  refine lv_aload_n hx hb dL_law_1472 rfl (lv_at hl 3 rfl) ?_
  have hPc := hP.sub (ws' := ow g h o u f) [0, 1, 2, 3, 4, 5, 6, 7, 8, 9, 10, 11, 12, 13, 14, 15, 16, 17, 18, 19, 20, 21, 22, 23, 47] rfl
  have hDc := hD.sub (ws' := ow g h o u f) [0, 1, 2, 3, 4, 5, 6, 7, 8, 9, 10, 11, 12, 13, 14, 15, 16, 17, 18, 19, 20, 21, 22, 23, 47] (by decide) rfl
  have hFc := va_free (wc := ow g h o u f) hD hS hA [0, 1, 2, 3, 4, 5, 6, 7, 8, 9, 10, 11, 12, 13, 14, 15, 16, 17, 18, 19, 20, 21, 22, 23, 47] rfl
  refine va_calli (vx_runSW (hh := [(0, 10, 13, 13)]) (As := [.ref (h 0), .int (xs (x4 + 1).toNatClampNeg), .int (xs (x4 + 2).toNatClampNeg), .ref o]) (rest := []) ⟨hx, hb, hml, hown, hts⟩ (kL_date l hl9 dC dI g h o u f _ (xs (x4 + 1).toNatClampNeg) (xs (x4 + 2).toNatClampNeg) (hRc u v hR)) (vx_cwSW 4 hts (lgT wd_563 wd_564 wd_420 wcL_date) rfl rfl rfl (by decide +kernel) ⟨(Nat.le_of_ble_eq_true rfl), (Nat.le_of_ble_eq_true rfl)⟩) ⟨fun a U g mk q => by obtain ⟨q0, q1, qP, qK, qD, qZ, qN⟩ := q; exact ⟨q0, q1, qP, va_K.moved (u := U) (U := U.calling g mk a) (Vm.Alike.refl U.vm) qK, qD, zz_same (u := U) (H := U.heap) rfl rfl qZ, nn_moved (u := U) (U := U.calling g mk a) (Vm.Alike.refl U.vm) qN⟩, fun U hU hW => ⟨rfl, by rw [hU], by rw [hU]; exact hPc, va_K.moved hW.alike hK, hDc.weaken (fun _ _ _ _ => trivial), by rw [hU]; exact zz_to hZ hS hFc hW, nn_moved hW.alike hN⟩⟩ rfl rfl hl.1 rfl (lv_room (Nat.le_of_ble_eq_true rfl)) dL_law_1473 ⟨by show 48 + j + 1 ≤ 1082; omega, by show 9269 + 6 * j + 6 ≤ 17521; omega⟩) hS (fun q _ h => hFc q h) hFc (fun r5 q5 t H1 locs ht hvm hw5 hB hz1 hk1 hS => ?_)
  obtain ⟨hP1, hD1⟩ := hB
  rw [ht] at hP1
  obtain ⟨hP, hD⟩ := va_join (wr := mw g h2 v) (w1 := ow g h o q5.1 q5.2) hP hD [0, 1, 2, 3, 4, 5, 6, 7, 8, 9, 10, 11, 12, 13, 14, 15, 16, 17, 18, 19, 20, 21, 22, 23, 47] [24, 25, 26, 27, 28, 29, 30, 31, 32, 33, 34, 35, 36, 37, 38, 39, 40, 41, 42, 43, 44, 45, 46] rfl rfl (by decide) (by decide) hk1 hFc hP1 hD1
  have hP := hP.sub (ws' := LW g h h2 o q5.1 v q5.2) [23, 24, 25, 26, 27, 28, 29, 30, 31, 32, 33, 34, 35, 36, 37, 38, 39, 40, 41, 42, 43, 44, 45, 46, 0, 1, 2, 3, 4, 5, 6, 7, 8, 9, 10, 11, 12, 13, 14, 15, 16, 17, 18, 19, 20, 21, 22, 47] rfl
  have hD := hD.sub (ws' := LW g h h2 o q5.1 v q5.2) [23, 24, 25, 26, 27, 28, 29, 30, 31, 32, 33, 34, 35, 36, 37, 38, 39, 40, 41, 42, 43, 44, 45, 46, 0, 1, 2, 3, 4, 5, 6, 7, 8, 9, 10, 11, 12, 13, 14, 15, 16, 17, 18, 19, 20, 21, 22, 47] (by decide) rfl
  refine W.widen (k := 48 + (j + 1)) (n := 9269 + 6 * (j + 1)) (by omega) (by omega) ?_
  refine lv_istore (lv' := [(5, .int r5), (0, .ref b), (1, .ref (h 0)), (2, .ref (h2 0)), (3, .ref o), (4, .int x4)]) hx hb dL_law_1476 hl (by decide) rfl (fun ls hl => ?_)
  refine lv_aload_n hx hb dL_law_1478 rfl (lv_at hl 3 rfl) ?_
  refine lv_aload_n hx hb dL_law_1479 rfl (lv_at hl 1 rfl) ?_
  refine lv_iload hx hb dL_law_1480 (lv_at hl 5 rfl) ?_
  refine lv_iconst (v := 1) hx hb dL_law_1482 (by decide) ?_
  refine lv_iadd hx hb dL_law_1483 ?_
  refine va_sld hx hb hX hbl hbA hS i1 dL_law_1484 ?_
  refine lv_aload_n hx hb dL_law_1485 rfl (lv_at hl 1 rfl) ?_
  refine lv_iload hx hb dL_law_1486 (lv_at hl 5 rfl) ?_
  refine lv_iconst (v := 2) hx hb dL_law_1488 (by decide) ?_
  refine lv_iadd hx hb dL_law_1489 ?_
  refine va_sld hx hb hX hbl hbA hS i2 dL_law_1490 ?_
  have hPc := hP.sub (ws' := mw g h2 v) [24, 25, 26, 27, 28, 29, 30, 31, 32, 33, 34, 35, 36, 37, 38, 39, 40, 41, 42, 43, 44, 45, 46] rfl
  have hDc := hD.sub (ws' := mw g h2 v) [24, 25, 26, 27, 28, 29, 30, 31, 32, 33, 34, 35, 36, 37, 38, 39, 40, 41, 42, 43, 44, 45, 46] (by decide) rfl
  have hFc := va_free (wc := mw g h2 v) hD hS hA [24, 25, 26, 27, 28, 29, 30, 31, 32, 33, 34, 35, 36, 37, 38, 39, 40, 41, 42, 43, 44, 45, 46] rfl
  refine va_calli (va_runV (As := [.int (xs (x4 + 1).toNatClampNeg), .int (xs (x4 + 2).toNatClampNeg)]) (rest := []) ⟨hx, hb, hml, hown, hts⟩ (kX5_date l dC dI g h2 v _ (xs (x4 + 1).toNatClampNeg) (xs (x4 + 2).toNatClampNeg) (hRm u v hR)) (cwV 2 hts (lgV wd_566 wd_567 wd_568 wd_241 wcX5_date) rfl rfl rfl (by decide +kernel) ⟨(Nat.le_of_ble_eq_true rfl), (Nat.le_of_ble_eq_true rfl)⟩) ⟨fun a U g mk q => by obtain ⟨q0, q1, qP, qK, qD⟩ := q; exact ⟨q0, q1, qP, va_K.moved (u := U) (U := U.calling g mk a) (Vm.Alike.refl U.vm) qK, qD⟩, va_recv hK hPc (ci := 4) (q0 := 0) rfl (mw_at0 _ _ _), fun U hU hW => ⟨rfl, by rw [hU], by rw [hU]; exact hPc, va_K.moved hW.alike hK, hDc.weaken (fun _ _ _ _ => trivial)⟩⟩ rfl rfl hl.1 rfl (lv_room (Nat.le_of_ble_eq_true rfl)) dL_law_1491 ⟨by show 48 + (j + 1) + 0 ≤ 1082; omega, by show 9269 + 6 * (j + 1) + 0 ≤ 17521; omega⟩) hS (fun q _ h => hFc q h) hFc (fun r6 v6 t H1 locs ht hvm hw6 hB hz1 hk1 hS => ?_)
  obtain ⟨hP1, hD1⟩ := hB
  rw [ht] at hP1
  obtain ⟨hP, hD⟩ := va_join (wr := ow g h o q5.1 q5.2) (w1 := mw g h2 v6) hP hD [24, 25, 26, 27, 28, 29, 30, 31, 32, 33, 34, 35, 36, 37, 38, 39, 40, 41, 42, 43, 44, 45, 46] [0, 1, 2, 3, 4, 5, 6, 7, 8, 9, 10, 11, 12, 13, 14, 15, 16, 17, 18, 19, 20, 21, 22, 23, 47] rfl rfl (by decide) (by decide) hk1 hFc hP1 hD1
  have hP := hP.sub (ws' := LW g h h2 o q5.1 v6 q5.2) [0, 1, 2, 3, 4, 5, 6, 7, 8, 9, 10, 11, 12, 13, 14, 15, 16, 17, 18, 19, 20, 21, 22, 23, 25, 26, 27, 28, 29, 30, 31, 32, 33, 34, 35, 36, 37, 38, 39, 40, 41, 42, 43, 44, 45, 46, 47, 24] rfl
  have hD := hD.sub (ws' := LW g h h2 o q5.1 v6 q5.2) [0, 1, 2, 3, 4, 5, 6, 7, 8, 9, 10, 11, 12, 13, 14, 15, 16, 17, 18, 19, 20, 21, 22, 23, 25, 26, 27, 28, 29, 30, 31, 32, 33, 34, 35, 36, 37, 38, 39, 40, 41, 42, 43, 44, 45, 46, 47, 24] (by decide) rfl
  have hq := hst u v (xs (x4 + 1).toNatClampNeg) (xs (x4 + 2).toNatClampNeg) hR
  rw [← hw6, ← hw5.1] at hq
  have hq1 := hq.1
  have hq2 := hq.2.1
  have hq3 := hq.2.2
  refine lv_istore (lv' := [(6, .int r6), (5, .int r5), (0, .ref b), (1, .ref (h 0)), (2, .ref (h2 0)), (3, .ref o), (4, .int x4)]) hx hb dL_law_1494 hl (by decide) rfl (fun ls hl => ?_)
  refine lv_aload_n hx hb dL_law_1496 rfl (lv_at hl 4 rfl) ?_
  have hPc := hP.sub (ws' := mw g h2 v6) [24, 25, 26, 27, 28, 29, 30, 31, 32, 33, 34, 35, 36, 37, 38, 39, 40, 41, 42, 43, 44, 45, 46] rfl
  refine vp_callSi (W.runV (As := []) (rest := []) ⟨hx, hb, hml, hown, hts⟩ (kX5_thrown l dC dI g h2 v6) (cwV 0 hts (lgV wd_426 wd_427 wd_428 wd_241 wcX5_thrown) rfl rfl rfl (by decide +kernel) ⟨(Nat.le_of_ble_eq_true rfl), (Nat.le_of_ble_eq_true rfl)⟩) ⟨fun a U g mk q => by obtain ⟨q0, qP, qK⟩ := q; exact ⟨q0, qP, va_K.moved (u := U) (U := U.calling g mk a) (Vm.Alike.refl U.vm) qK⟩, va_recv hK hPc (ci := 4) (q0 := 0) rfl (mw_at0 _ _ _), fun U hU hW => ⟨rfl, by rw [hU]; exact hPc, va_K.moved hW.alike hK⟩⟩ rfl rfl hl.1 rfl (lv_room (Nat.le_of_ble_eq_true rfl)) dL_law_1497 ⟨by show 48 + (j + 1) + 0 ≤ 1082; omega, by show 9269 + 6 * (j + 1) + 0 ≤ 17521; omega⟩) (fun r7 hw7 => ?_)
  refine lv_iload hx hb dL_law_1500 (lv_at hl 1 rfl) ?_
  refine lv_icmp_eq (tgt := 1507) hx hb dL_law_1502 (by decide) (fun c_1 => ?_) (fun c_1 => absurd (hw7.trans hq1) c_1)
  refine lv_iload hx hb dL_law_1507 (lv_at hl 1 rfl) ?_
  refine lv_if_ne (tgt := 1524) hx hb dL_law_1509 (by decide) (fun c_2 => ?_) (fun c_2 => ?_)
  · skip
    refine lv_goto (tgt := 1552) hx hb dL_law_1524 (by decide) ?_
    have hRR : Rl q5.1 v6 := by rw [hw5.2]; exact hq3
    exact K q5.1 v6 q5.2 _ _ _ hRR hP hD hS (lv_sub hl [2, 3, 4, 5, 6] rfl)
  · skip
    have hk0 := wk_0 (by decide) (hw5.1.symm.trans c_2)
    have hv0 := hq2 hk0
    refine lv_aload_n hx hb dL_law_1512 rfl (lv_at hl 5 rfl) ?_
    refine lv_iconst (v := 0) hx hb dL_law_1513 (by decide) ?_
    refine va_lald (f := q5.2) hx hb hK hP 47 2 (LW_at47 _ _ _ _ _ _ _) rfl (vp_in_iff.mpr (by decide)) dL_law_1514 ?_
    refine lv_iload hx hb dL_law_1515 (lv_at hl 0 rfl) ?_
    refine lv_i2l (v := r6.toInt64) hx hb dL_law_1517 rfl ?_
    refine W.lcmp hx hb dL_law_1518 ?_
    have ho : q5.2 (0 : Int32).toNatClampNeg = r6.toInt64 := by
      rw [hw5.2]; show (if (fX4_date u (xs (x4 + 1).toNatClampNeg) (xs (x4 + 2).toNatClampNeg)).1 = 0 then vp_updL f (0 : Int32).toNatClampNeg (fX4_date u (xs (x4 + 1).toNatClampNeg) (xs (x4 + 2).toNatClampNeg)).2.1.toInt64 else f) _ = r6.toInt64
      rw [if_pos hk0, pk_uLs, hv0]
    rw [ho, lg_self]
    refine lv_if_eq (tgt := 1524) hx hb dL_law_1519 (by decide) (fun _ => ?_) (fun c_4 => absurd rfl c_4)
    refine lv_goto (tgt := 1552) hx hb dL_law_1524 (by decide) ?_
    have hRR : Rl q5.1 v6 := by rw [hw5.2]; exact hq3
    exact K q5.1 v6 q5.2 _ _ _ hRR hP hD hS (lv_sub hl [2, 3, 4, 5, 6] rfl)
set_option maxHeartbeats 4000000 in
set_option maxRecDepth 100000 in
theorem lc_count {p : Program} {l : Launch} {e : Env} {s : State} {m : MethodId} {below : List Frame} {meth : Method} {c : Code} {b L : Nat} {xs : Nat → Int32} {dC : Nat → ClassId} {dI : Nat → Nat → Nat} {g : cG} {h h2 : Nat → Nat} {o : Nat} (X0 : lw_X p l s m meth c b L xs) (Rl : cS → mS → Prop) (hRc : ∀ (u : cS) (v : mS), Rl u v → cInv u) (hRm : ∀ (u : cS) (v : mS), Rl u v → mInv v) (hst : ∀ (u : cS) (v : mS) (x1 : Int32), Rl u v → fX4_count u x1 = (fX5_count v x1).1 ∧ Rl u (fX5_count v x1).2) (hL : L ≤ 2560) (hK : va_K (dC, dI) vwCl (cTys g) s) (j : Nat) (x4 : Int32) (hx4 : x4.toInt = 5 * (j : Int)) (hj : 5 * j + 5 ≤ L) (u : cS) (v : mS) (f : Nat → Int64) (hR : Rl u v) (H : Heap) (locs : List Loc) (hP : va_P (dC, dI) vwCl (LW g h h2 o u v f) H) (hD : va_D (fun q : Nat => s.heap.size ≤ q) (LW g h h2 o u v f)) (hS : va_S (fun q : Nat => s.heap.size ≤ q) s.heap H locs) (ls : Array Slot) (hl : lv_has ls 7 [(0, .ref b), (1, .ref (h 0)), (2, .ref (h2 0)), (3, .ref o), (4, .int x4)])
    (K : ∀ (u : cS) (v : mS) (f : Nat → Int64) (H : Heap) (locs : List Loc) (ls : Array Slot), Rl u v → va_P (dC, dI) vwCl (LW g h h2 o u v f) H → va_D (fun q : Nat => s.heap.size ≤ q) (LW g h h2 o u v f) → va_S (fun q : Nat => s.heap.size ≤ q) s.heap H locs → lv_has ls 7 [(0, .ref b), (1, .ref (h 0)), (2, .ref (h2 0)), (3, .ref o), (4, .int x4)] → W p l e room_1 s m #[Value.ref b] below meth c H locs (48 + (j + 1)) (9269 + 6 * (j + 1)) (lw_Z below #[Value.ref b] s) (F0 m 1552 ls [])) :
    W p l e room_1 s m #[Value.ref b] below meth c H locs (48 + j) (9269 + 6 * j) (lw_Z below #[Value.ref b] s) (F0 m 1527 ls []) := by
  obtain ⟨⟨hx, hb, hr, hml, hown, hts, hX, hbl, hlocks, hgv⟩, hl9, hZ, hN⟩ := X0
  have hA : ∀ q : Nat, s.heap.size ≤ q → (fun q : Nat => s.heap.size ≤ q) q := fun _ h => h
  have hbA : ¬ (fun q : Nat => s.heap.size ≤ q) b := Nat.not_le.mpr hbl
  have n1 : (1 : Int32).toInt = 1 := by decide
  have e1 := i_add (x := x4) (y := 1) (by omega) (by omega)
  have i1 : vp_in (x4 + 1) L := vp_in_iff.mpr (by omega)
  have n2 : (2 : Int32).toInt = 2 := by decide
  have e2 := i_add (x := x4) (y := 2) (by omega) (by omega)
  have i2 : vp_in (x4 + 2) L := vp_in_iff.mpr (by omega)
  have n3 : (3 : Int32).toInt = 3 := by decide
  have e3 := i_add (x := x4) (y := 3) (by omega) (by omega)
  have i3 : vp_in (x4 + 3) L := vp_in_iff.mpr (by omega)
  have n4 : (4 : Int32).toInt = 4 := by decide
  have e4 := i_add (x := x4) (y := 4) (by omega) (by omega)
  have i4 : vp_in (x4 + 4) L := vp_in_iff.mpr (by omega)
  refine lv_aload_n hx hb dL_law_1527 rfl (lv_at hl 1 rfl) ?_
  refine lv_aload_n hx hb dL_law_1528 rfl (lv_at hl 0 rfl) ?_
  refine lv_iload hx hb dL_law_1529 (lv_at hl 4 rfl) ?_
  refine lv_iconst (v := 1) hx hb dL_law_1531 (by decide) ?_
  refine lv_iadd hx hb dL_law_1532 ?_
  refine va_sld hx hb hX hbl hbA hS i1 dL_law_1533 ?_
  have hPc := hP.sub (ws' := cw g h u) [0, 1, 2, 3, 4, 5, 6, 7, 8, 9, 10, 11, 12, 13, 14, 15, 16, 17, 18, 19, 20, 21, 22, 23] rfl
  refine vp_callSi (W.runV (As := [.int (xs (x4 + 1).toNatClampNeg)]) (rest := []) ⟨hx, hb, hml, hown, hts⟩ (kX4_count l dC dI g h u (xs (x4 + 1).toNatClampNeg)) (cwV 1 hts (lgV wd_570 wd_571 wd_572 wd_92 wcX4_count) rfl rfl rfl (by decide +kernel) ⟨(Nat.le_of_ble_eq_true rfl), (Nat.le_of_ble_eq_true rfl)⟩) ⟨fun a U g mk q => by obtain ⟨q0, qP, qK⟩ := q; exact ⟨q0, qP, va_K.moved (u := U) (U := U.calling g mk a) (Vm.Alike.refl U.vm) qK⟩, va_recv hK hPc (ci := 3) (q0 := 0) rfl (cw_at0 _ _ _), fun U hU hW => ⟨rfl, by rw [hU]; exact hPc, va_K.moved hW.alike hK⟩⟩ rfl rfl hl.1 rfl (lv_room (Nat.le_of_ble_eq_true rfl)) dL_law_1534 ⟨by show 48 + j + 0 ≤ 1082; omega, by show 9269 + 6 * j + 0 ≤ 17521; omega⟩) (fun r5 hw5 => ?_)
  refine lv_aload_n hx hb dL_law_1537 rfl (lv_at hl 2 rfl) ?_
  refine lv_aload_n hx hb dL_law_1538 rfl (lv_at hl 0 rfl) ?_
  refine lv_iload hx hb dL_law_1539 (lv_at hl 4 rfl) ?_
  refine lv_iconst (v := 1) hx hb dL_law_1541 (by decide) ?_
  refine lv_iadd hx hb dL_law_1542 ?_
  refine va_sld hx hb hX hbl hbA hS i1 dL_law_1543 ?_
  have hPc := hP.sub (ws' := mw g h2 v) [24, 25, 26, 27, 28, 29, 30, 31, 32, 33, 34, 35, 36, 37, 38, 39, 40, 41, 42, 43, 44, 45, 46] rfl
  have hDc := hD.sub (ws' := mw g h2 v) [24, 25, 26, 27, 28, 29, 30, 31, 32, 33, 34, 35, 36, 37, 38, 39, 40, 41, 42, 43, 44, 45, 46] (by decide) rfl
  have hFc := va_free (wc := mw g h2 v) hD hS hA [24, 25, 26, 27, 28, 29, 30, 31, 32, 33, 34, 35, 36, 37, 38, 39, 40, 41, 42, 43, 44, 45, 46] rfl
  refine va_calli (va_runV (As := [.int (xs (x4 + 1).toNatClampNeg)]) (rest := [.int r5]) ⟨hx, hb, hml, hown, hts⟩ (kX5_count l dC dI g h2 v _ (xs (x4 + 1).toNatClampNeg) (hRm u v hR)) (cwV 1 hts (lgV wd_574 wd_575 wd_576 wd_241 wcX5_count) rfl rfl rfl (by decide +kernel) ⟨(Nat.le_of_ble_eq_true rfl), (Nat.le_of_ble_eq_true rfl)⟩) ⟨fun a U g mk q => by obtain ⟨q0, q1, qP, qK, qD⟩ := q; exact ⟨q0, q1, qP, va_K.moved (u := U) (U := U.calling g mk a) (Vm.Alike.refl U.vm) qK, qD⟩, va_recv hK hPc (ci := 4) (q0 := 0) rfl (mw_at0 _ _ _), fun U hU hW => ⟨rfl, by rw [hU], by rw [hU]; exact hPc, va_K.moved hW.alike hK, hDc.weaken (fun _ _ _ _ => trivial)⟩⟩ rfl rfl hl.1 rfl (lv_room (Nat.le_of_ble_eq_true rfl)) dL_law_1544 ⟨by show 48 + j + 0 ≤ 1082; omega, by show 9269 + 6 * j + 0 ≤ 17521; omega⟩) hS (fun q _ h => hFc q h) hFc (fun r6 v6 t H1 locs ht hvm hw6 hB hz1 hk1 hS => ?_)
  obtain ⟨hP1, hD1⟩ := hB
  rw [ht] at hP1
  obtain ⟨hP, hD⟩ := va_join (wr := ow g h o u f) (w1 := mw g h2 v6) hP hD [24, 25, 26, 27, 28, 29, 30, 31, 32, 33, 34, 35, 36, 37, 38, 39, 40, 41, 42, 43, 44, 45, 46] [0, 1, 2, 3, 4, 5, 6, 7, 8, 9, 10, 11, 12, 13, 14, 15, 16, 17, 18, 19, 20, 21, 22, 23, 47] rfl rfl (by decide) (by decide) hk1 hFc hP1 hD1
  have hP := hP.sub (ws' := LW g h h2 o u v6 f) [0, 1, 2, 3, 4, 5, 6, 7, 8, 9, 10, 11, 12, 13, 14, 15, 16, 17, 18, 19, 20, 21, 22, 23, 25, 26, 27, 28, 29, 30, 31, 32, 33, 34, 35, 36, 37, 38, 39, 40, 41, 42, 43, 44, 45, 46, 47, 24] rfl
  have hD := hD.sub (ws' := LW g h h2 o u v6 f) [0, 1, 2, 3, 4, 5, 6, 7, 8, 9, 10, 11, 12, 13, 14, 15, 16, 17, 18, 19, 20, 21, 22, 23, 25, 26, 27, 28, 29, 30, 31, 32, 33, 34, 35, 36, 37, 38, 39, 40, 41, 42, 43, 44, 45, 46, 47, 24] (by decide) rfl
  have hq := hst u v (xs (x4 + 1).toNatClampNeg) hR
  rw [← hw6, ← hw5] at hq
  refine lv_icmp_eq (tgt := 1552) hx hb dL_law_1547 (by decide) (fun c_1 => ?_) (fun c_1 => absurd hq.1 c_1)
  refine W.widen (k := 48 + (j + 1)) (n := 9269 + 6 * (j + 1)) (by omega) (by omega) ?_
  have hRR : Rl u v6 := hq.2
  exact K u v6 f _ _ _ hRR hP hD hS (lv_sub hl [0, 1, 2, 3, 4] rfl)