set_option maxHeartbeats 4000000 in
set_option maxRecDepth 100000 in
theorem lc_put {p : Program} {l : Launch} {e : Env} {s : State} {m : MethodId} {below : List Frame} {meth : Method} {c : Code} {b L : Nat} {xs : Nat → Int32} {dC : Nat → ClassId} {dI : Nat → Nat → Nat} {g : cG} {h h2 : Nat → Nat} {o : Nat} (X0 : lw_X p l s m meth c b L xs) (Rl : cS → mS → Prop) (hRc : ∀ (u : cS) (v : mS), Rl u v → cInv u) (hRm : ∀ (u : cS) (v : mS), Rl u v → mInv v) (hst : ∀ (u : cS) (v : mS) (x1 : Int32) (x2 : Int32), Rl u v → k_mcode (fX5_put v x1 x2) = wk [1, 2, 3] (fX4_put u x1 x2).1 ∧ Rl (fX4_put u x1 x2).2.2 (fX5_put v x1 x2)) (hL : L ≤ 2560) (hK : va_K (dC, dI) vwCl (cTys g) s) (j : Nat) (x4 : Int32) (hx4 : x4.toInt = 5 * (j : Int)) (hj : 5 * j + 5 ≤ L) (u : cS) (v : mS) (f : Nat → Int64) (hR : Rl u v) (H : Heap) (locs : List Loc) (hP : va_P (dC, dI) vwCl (LW g h h2 o u v f) H) (hD : va_D (fun q : Nat => s.heap.size ≤ q) (LW g h h2 o u v f)) (hS : va_S (fun q : Nat => s.heap.size ≤ q) s.heap H locs) (ls : Array Slot) (hl : lv_has ls 7 [(0, .ref b), (1, .ref (h 0)), (2, .ref (h2 0)), (3, .ref o), (4, .int x4)])
    (K : ∀ (u : cS) (v : mS) (f : Nat → Int64) (H : Heap) (locs : List Loc) (ls : Array Slot), Rl u v → va_P (dC, dI) vwCl (LW g h h2 o u v f) H → va_D (fun q : Nat => s.heap.size ≤ q) (LW g h h2 o u v f) → va_S (fun q : Nat => s.heap.size ≤ q) s.heap H locs → lv_has ls 7 [(0, .ref b), (1, .ref (h 0)), (2, .ref (h2 0)), (3, .ref o), (4, .int x4)] → W p l e room_1 s m #[Value.ref b] below meth c H locs (48 + (j + 1)) (9269 + 6 * (j + 1)) (lw_Z below #[Value.ref b] s) (F0 m 1552 ls [])) :
    W p l e room_1 s m #[Value.ref b] below meth c H locs (48 + j) (9269 + 6 * j) (lw_Z below #[Value.ref b] s) (F0 m 943 ls []) := by
  obtain ⟨⟨hx, hb, hr, hml, hown, hts, hX, hbl, hlocks, hgv⟩, hl9, hZ, hN⟩ := X0
  have hA : ∀ q : Nat, s.heap.size ≤ q → (fun q : Nat => s.heap.size ≤ q) q := fun _ h => h
  have hbA : ¬ (fun q : Nat => s.heap.size ≤ q) b := Nat.not_le.mpr hbl
  have n1 : (1 : Int32).toInt = 1 := by decide
  have e1 := i_add (x := x4) (y := 1) (by omega) (by omega)
  have i1 : vp_in (x4 + 1) L := vp_in_iff.mpr (by omega)
  have n2 : (2 : Int32).toInt = 2 := by decide
  have e2 := i_add (x := x4) (y := 2) (by omega) (by omega)
  have i2 : vp_in (x4 + 2) L := vp_in_iff.mpr (by omega)
  have n3 : (3 : Int32).toInt = 3 := by decide
  have e3 := i_add (x := x4) (y := 3) (by omega) (by omega)
  have i3 : vp_in (x4 + 3) L := vp_in_iff.mpr (by omega)
  have n4 : (4 : Int32).toInt = 4 := by decide
  have e4 := i_add (x := x4) (y := 4) (by omega) (by omega)
  have i4 : vp_in (x4 + 4) L := vp_in_iff.mpr (by omega)
  refine lv_aload_n hx hb dL_law_943 rfl (lv_at hl 1 rfl) ?_
  refine lv_aload_n hx hb dL_law_944 rfl (lv_at hl 0 rfl) ?_
  refine lv_iload hx hb dL_law_945 (lv_at hl 4 rfl) ?_
  refine lv_iconst (v := 1) hx hb dL_law_947 (by decide) ?_
  refine lv_iadd hx hb dL_law_948 ?_
  refine va_sld hx hb hX hbl hbA hS i1 dL_law_949 ?_
  refine lv_aload_n hx hb dL_law_950 rfl (lv_at hl 0 rfl) ?_
  refine lv_iload hx hb dL_law_951 (lv_at hl 4 rfl) ?_
  refine lv_iconst (v := 2) hx hb dL_law_953 (by decide) ?_
  refine lv_iadd hx hb dL_law_954 ?_
  refine va_sld hx hb hX hbl hbA hS i2 dL_law_955 ?_
  have hPc := hP.sub (ws' := cw g h u) [0, 1, 2, 3, 4, 5, 6, 7, 8, 9, 10, 11, 12, 13, 14, 15, 16, 17, 18, 19, 20, 21, 22, 23] rfl
  have hDc := hD.sub (ws' := cw g h u) [0, 1, 2, 3, 4, 5, 6, 7, 8, 9, 10, 11, 12, 13, 14, 15, 16, 17, 18, 19, 20, 21, 22, 23] (by decide) rfl
  have hFc := va_free (wc := cw g h u) hD hS hA [0, 1, 2, 3, 4, 5, 6, 7, 8, 9, 10, 11, 12, 13, 14, 15, 16, 17, 18, 19, 20, 21, 22, 23] rfl
  refine va_calli (vx_runSW (hh := [(0, 6, 9, 33), (0, 6, 12, 13), (0, 6, 15, 35)]) (As := [.ref (h 0), .int (xs (x4 + 1).toNatClampNeg), .int (xs (x4 + 2).toNatClampNeg)]) (rest := []) ⟨hx, hb, hml, hown, hts⟩ (kL_put l hl9 dC dI g h u _ (xs (x4 + 1).toNatClampNeg) (xs (x4 + 2).toNatClampNeg) (hRc u v hR)) (vx_cwSW 3 hts (lgT wd_507 wd_508 wd_420 wcL_put) rfl rfl rfl (by decide +kernel) ⟨(Nat.le_of_ble_eq_true rfl), (Nat.le_of_ble_eq_true rfl)⟩) ⟨fun a U g mk q => by obtain ⟨q0, q1, qP, qK, qD, qZ, qN⟩ := q; exact ⟨q0, q1, qP, va_K.moved (u := U) (U := U.calling g mk a) (Vm.Alike.refl U.vm) qK, qD, zz_same (u := U) (H := U.heap) rfl rfl qZ, nn_moved (u := U) (U := U.calling g mk a) (Vm.Alike.refl U.vm) qN⟩, fun U hU hW => ⟨rfl, by rw [hU], by rw [hU]; exact hPc, va_K.moved hW.alike hK, hDc.weaken (fun _ _ _ _ => trivial), by rw [hU]; exact zz_to hZ hS hFc hW, nn_moved hW.alike hN⟩⟩ rfl rfl hl.1 rfl (lv_room (Nat.le_of_ble_eq_true rfl)) dL_law_956 ⟨by show 48 + j + 1 ≤ 1082; omega, by show 9269 + 6 * j + 6 ≤ 17521; omega⟩) hS (fun q _ h => hFc q h) hFc (fun r5 q5 t H1 locs ht hvm hw5 hB hz1 hk1 hS => ?_)
  obtain ⟨hP1, hD1⟩ := hB
  rw [ht] at hP1
  obtain ⟨hP, hD⟩ := va_join (wr := mw g h2 v ++ [(o, .inl (g.2.2, 1, .inr (.inl f)))]) (w1 := cw g h q5) hP hD [0, 1, 2, 3, 4, 5, 6, 7, 8, 9, 10, 11, 12, 13, 14, 15, 16, 17, 18, 19, 20, 21, 22, 23] [24, 25, 26, 27, 28, 29, 30, 31, 32, 33, 34, 35, 36, 37, 38, 39, 40, 41, 42, 43, 44, 45, 46, 47] rfl rfl (by decide) (by decide) hk1 hFc hP1 hD1
  have hP := hP.sub (ws' := LW g h h2 o q5 v f) [24, 25, 26, 27, 28, 29, 30, 31, 32, 33, 34, 35, 36, 37, 38, 39, 40, 41, 42, 43, 44, 45, 46, 47, 0, 1, 2, 3, 4, 5, 6, 7, 8, 9, 10, 11, 12, 13, 14, 15, 16, 17, 18, 19, 20, 21, 22, 23] rfl
  have hD := hD.sub (ws' := LW g h h2 o q5 v f) [24, 25, 26, 27, 28, 29, 30, 31, 32, 33, 34, 35, 36, 37, 38, 39, 40, 41, 42, 43, 44, 45, 46, 47, 0, 1, 2, 3, 4, 5, 6, 7, 8, 9, 10, 11, 12, 13, 14, 15, 16, 17, 18, 19, 20, 21, 22, 23] (by decide) rfl
  refine W.widen (k := 48 + (j + 1)) (n := 9269 + 6 * (j + 1)) (by omega) (by omega) ?_
  refine lv_istore (lv' := [(5, .int r5), (0, .ref b), (1, .ref (h 0)), (2, .ref (h2 0)), (3, .ref o), (4, .int x4)]) hx hb dL_law_959 hl (by decide) rfl (fun ls hl => ?_)
  refine lv_aload_n hx hb dL_law_961 rfl (lv_at hl 3 rfl) ?_
  refine lv_aload_n hx hb dL_law_962 rfl (lv_at hl 1 rfl) ?_
  refine lv_iload hx hb dL_law_963 (lv_at hl 5 rfl) ?_
  refine lv_iconst (v := 1) hx hb dL_law_965 (by decide) ?_
  refine lv_iadd hx hb dL_law_966 ?_
  refine va_sld hx hb hX hbl hbA hS i1 dL_law_967 ?_
  refine lv_aload_n hx hb dL_law_968 rfl (lv_at hl 1 rfl) ?_
  refine lv_iload hx hb dL_law_969 (lv_at hl 5 rfl) ?_
  refine lv_iconst (v := 2) hx hb dL_law_971 (by decide) ?_
  refine lv_iadd hx hb dL_law_972 ?_
  refine va_sld hx hb hX hbl hbA hS i2 dL_law_973 ?_
  have hPc := hP.sub (ws' := mw g h2 v) [24, 25, 26, 27, 28, 29, 30, 31, 32, 33, 34, 35, 36, 37, 38, 39, 40, 41, 42, 43, 44, 45, 46] rfl
  have hDc := hD.sub (ws' := mw g h2 v) [24, 25, 26, 27, 28, 29, 30, 31, 32, 33, 34, 35, 36, 37, 38, 39, 40, 41, 42, 43, 44, 45, 46] (by decide) rfl
  have hFc := va_free (wc := mw g h2 v) hD hS hA [24, 25, 26, 27, 28, 29, 30, 31, 32, 33, 34, 35, 36, 37, 38, 39, 40, 41, 42, 43, 44, 45, 46] rfl
  refine va_callv (va_runV (As := [.int (xs (x4 + 1).toNatClampNeg), .int (xs (x4 + 2).toNatClampNeg)]) (rest := []) ⟨hx, hb, hml, hown, hts⟩ (kX5_put l dC dI g h2 v _ (xs (x4 + 1).toNatClampNeg) (xs (x4 + 2).toNatClampNeg) (hRm u v hR)) (cwV 2 hts (lgV wd_510 wd_511 wd_512 wd_241 wcX5_put) rfl rfl rfl (by decide +kernel) ⟨(Nat.le_of_ble_eq_true rfl), (Nat.le_of_ble_eq_true rfl)⟩) ⟨fun a U g mk q => by obtain ⟨q0, q1, qP, qK, qD⟩ := q; exact ⟨q0, q1, qP, va_K.moved (u := U) (U := U.calling g mk a) (Vm.Alike.refl U.vm) qK, qD⟩, va_recv hK hPc (ci := 4) (q0 := 0) rfl (mw_at0 _ _ _), fun U hU hW => ⟨rfl, by rw [hU], by rw [hU]; exact hPc, va_K.moved hW.alike hK, hDc.weaken (fun _ _ _ _ => trivial)⟩⟩ rfl rfl hl.1 rfl (lv_room (Nat.le_of_ble_eq_true rfl)) dL_law_974 ⟨by show 48 + (j + 1) + 0 ≤ 1082; omega, by show 9269 + 6 * (j + 1) + 0 ≤ 17521; omega⟩) hS (fun q _ h => hFc q h) hFc (fun v6 t H1 locs ht hvm hw6 hB hz1 hk1 hS => ?_)
  obtain ⟨hP1, hD1⟩ := hB
  rw [ht] at hP1
  obtain ⟨hP, hD⟩ := va_join (wr := ow g h o q5 f) (w1 := mw g h2 v6) hP hD [24, 25, 26, 27, 28, 29, 30, 31, 32, 33, 34, 35, 36, 37, 38, 39, 40, 41, 42, 43, 44, 45, 46] [0, 1, 2, 3, 4, 5, 6, 7, 8, 9, 10, 11, 12, 13, 14, 15, 16, 17, 18, 19, 20, 21, 22, 23, 47] rfl rfl (by decide) (by decide) hk1 hFc hP1 hD1
  have hP := hP.sub (ws' := LW g h h2 o q5 v6 f) [0, 1, 2, 3, 4, 5, 6, 7, 8, 9, 10, 11, 12, 13, 14, 15, 16, 17, 18, 19, 20, 21, 22, 23, 25, 26, 27, 28, 29, 30, 31, 32, 33, 34, 35, 36, 37, 38, 39, 40, 41, 42, 43, 44, 45, 46, 47, 24] rfl
  have hD := hD.sub (ws' := LW g h h2 o q5 v6 f) [0, 1, 2, 3, 4, 5, 6, 7, 8, 9, 10, 11, 12, 13, 14, 15, 16, 17, 18, 19, 20, 21, 22, 23, 25, 26, 27, 28, 29, 30, 31, 32, 33, 34, 35, 36, 37, 38, 39, 40, 41, 42, 43, 44, 45, 46, 47, 24] (by decide) rfl
  have hq := hst u v (xs (x4 + 1).toNatClampNeg) (xs (x4 + 2).toNatClampNeg) hR
  rw [← hw6, ← hw5.1] at hq
  have hq1 := hq.1
  have hq3 := hq.2
  refine lv_aload_n hx hb dL_law_977 rfl (lv_at hl 3 rfl) ?_
  have hPc := hP.sub (ws' := mw g h2 v6) [24, 25, 26, 27, 28, 29, 30, 31, 32, 33, 34, 35, 36, 37, 38, 39, 40, 41, 42, 43, 44, 45, 46] rfl
  refine vp_callSi (W.runV (As := []) (rest := []) ⟨hx, hb, hml, hown, hts⟩ (kX5_thrown l dC dI g h2 v6) (cwV 0 hts (lgV wd_426 wd_427 wd_428 wd_241 wcX5_thrown) rfl rfl rfl (by decide +kernel) ⟨(Nat.le_of_ble_eq_true rfl), (Nat.le_of_ble_eq_true rfl)⟩) ⟨fun a U g mk q => by obtain ⟨q0, qP, qK⟩ := q; exact ⟨q0, qP, va_K.moved (u := U) (U := U.calling g mk a) (Vm.Alike.refl U.vm) qK⟩, va_recv hK hPc (ci := 4) (q0 := 0) rfl (mw_at0 _ _ _), fun U hU hW => ⟨rfl, by rw [hU]; exact hPc, va_K.moved hW.alike hK⟩⟩ rfl rfl hl.1 rfl (lv_room (Nat.le_of_ble_eq_true rfl)) dL_law_978 ⟨by show 48 + (j + 1) + 0 ≤ 1082; omega, by show 9269 + 6 * (j + 1) + 0 ≤ 17521; omega⟩) (fun r7 hw7 => ?_)
  refine lv_iload hx hb dL_law_981 (lv_at hl 0 rfl) ?_
  refine lv_icmp_eq (tgt := 988) hx hb dL_law_983 (by decide) (fun c_1 => ?_) (fun c_1 => absurd (hw7.trans hq1) c_1)
  refine lv_goto (tgt := 1552) hx hb dL_law_988 (by decide) ?_
  have hRR : Rl q5 v6 := by rw [hw5.2]; exact hq3
  exact K q5 v6 f _ _ _ hRR hP hD hS (lv_sub hl [1, 2, 3, 4, 5] rfl)
set_option maxHeartbeats 4000000 in
set_option maxRecDepth 100000 in
theorem lc_mixed {p : Program} {l : Launch} {e : Env} {s : State} {m : MethodId} {below : List Frame} {meth : Method} {c : Code} {b L : Nat} {xs : Nat → Int32} {dC : Nat → ClassId} {dI : Nat → Nat → Nat} {g : cG} {h h2 : Nat → Nat} {o : Nat} (X0 : lw_X p l s m meth c b L xs) (Rl : cS → mS → Prop) (hRc : ∀ (u : cS) (v : mS), Rl u v → cInv u) (hRm : ∀ (u : cS) (v : mS), Rl u v → mInv v) (hst : ∀ (u : cS) (v : mS) (x1 : Int32), Rl u v → k_mcode (fX5_mixed v x1).2 = wk [2] (fX4_mixed u x1).1 ∧ ((fX4_mixed u x1).1 = 0 → (fX4_mixed u x1).2.1 = (fX5_mixed v x1).1) ∧ Rl (fX4_mixed u x1).2.2 (fX5_mixed v x1).2) (hL : L ≤ 2560) (hK : va_K (dC, dI) vwCl (cTys g) s) (j : Nat) (x4 : Int32) (hx4 : x4.toInt = 5 * (j : Int)) (hj : 5 * j + 5 ≤ L) (u : cS) (v : mS) (f : Nat → Int64) (hR : Rl u v) (H : Heap) (locs : List Loc) (hP : va_P (dC, dI) vwCl (LW g h h2 o u v f) H) (hD : va_D (fun q : Nat => s.heap.size ≤ q) (LW g h h2 o u v f)) (hS : va_S (fun q : Nat => s.heap.size ≤ q) s.heap H locs) (ls : Array Slot) (hl : lv_has ls 7 [(0, .ref b), (1, .ref (h 0)), (2, .ref (h2 0)), (3, .ref o), (4, .int x4)])
    (K : ∀ (u : cS) (v : mS) (f : Nat → Int64) (H : Heap) (locs : List Loc) (ls : Array Slot), Rl u v → va_P (dC, dI) vwCl (LW g h h2 o u v f) H → va_D (fun q : Nat => s.heap.size ≤ q) (LW g h h2 o u v f) → va_S (fun q : Nat => s.heap.size ≤ q) s.heap H locs → lv_has ls 7 [(0, .ref b), (1, .ref (h 0)), (2, .ref (h2 0)), (3, .ref o), (4, .int x4)] → W p l e room_1 s m #[Value.ref b] below meth c H locs (48 + (j + 1)) (9269 + 6 * (j + 1)) (lw_Z below #[Value.ref b] s) (F0 m 1552 ls [])) :
    W p l e room_1 s m #[Value.ref b] below meth c H locs (48 + j) (9269 + 6 * j) (lw_Z below #[Value.ref b] s) (F0 m 991 ls []) := by
  obtain ⟨⟨hx, hb, hr, hml, hown, hts, hX, hbl, hlocks, hgv⟩, hl9, hZ, hN⟩ := X0
  have hA : ∀ q : Nat, s.heap.size ≤ q → (fun q : Nat => s.heap.size ≤ q) q := fun _ h => h
  have hbA : ¬ (fun q : Nat => s.heap.size ≤ q) b := Nat.not_le.mpr hbl
  have n1 : (1 : Int32).toInt = 1 := by decide
  have e1 := i_add (x := x4) (y := 1) (by omega) (by omega)
  have i1 : vp_in (x4 + 1) L := vp_in_iff.mpr (by omega)
  have n2 : (2 : Int32).toInt = 2 := by decide
  have e2 := i_add (x := x4) (y := 2) (by omega) (by omega)
  have i2 : vp_in (x4 + 2) L := vp_in_iff.mpr (by omega)
  have n3 : (3 : Int32).toInt = 3 := by decide
  have e3 := i_add (x := x4) (y := 3) (by omega) (by omega)
  have i3 : vp_in (x4 + 3) L := vp_in_iff.mpr (by omega)
  have n4 : (4 : Int32).toInt = 4 := by decide
  have e4 := i_add (x := x4) (y := 4) (by omega) (by omega)
  have i4 : vp_in (x4 + 4) L := vp_in_iff.mpr (by omega)
  refine lv_aload_n hx hb dL_law_991 rfl (lv_at hl 1 rfl) ?_
  refine lv_aload_n hx hb dL_law_992 rfl (lv_at hl 0 rfl) ?_
  refine lv_iload hx hb dL_law_993 (lv_at hl 4 rfl) ?_
  refine lv_iconst (v := 1) hx hb dL_law_995 (by decide) ?_
  refine lv_iadd hx hb dL_law_996 ?_
  refine va_sld hx hb hX hbl hbA hS i1 dL_law_997 ?_
  refine lv_aload_n hx hb dL_law_998 rfl (lv_at hl 3 rfl) ?_
  have hPc := hP.sub (ws' := ow g h o u f) [0, 1, 2, 3, 4, 5, 6, 7, 8, 9, 10, 11, 12, 13, 14, 15, 16, 17, 18, 19, 20, 21, 22, 23, 47] rfl
  have hDc := hD.sub (ws' := ow g h o u f) [0, 1, 2, 3, 4, 5, 6, 7, 8, 9, 10, 11, 12, 13, 14, 15, 16, 17, 18, 19, 20, 21, 22, 23, 47] (by decide) rfl
  have hFc := va_free (wc := ow g h o u f) hD hS hA [0, 1, 2, 3, 4, 5, 6, 7, 8, 9, 10, 11, 12, 13, 14, 15, 16, 17, 18, 19, 20, 21, 22, 23, 47] rfl
  refine va_calli (vx_runSW (hh := [(0, 9, 12, 13)]) (As := [.ref (h 0), .int (xs (x4 + 1).toNatClampNeg), .ref o]) (rest := []) ⟨hx, hb, hml, hown, hts⟩ (kL_mixed l hl9 dC dI g h o u f _ (xs (x4 + 1).toNatClampNeg) (hRc u v hR)) (vx_cwSW 3 hts (lgT wd_514 wd_515 wd_420 wcL_mixed) rfl rfl rfl (by decide +kernel) ⟨(Nat.le_of_ble_eq_true rfl), (Nat.le_of_ble_eq_true rfl)⟩) ⟨fun a U g mk q => by obtain ⟨q0, q1, qP, qK, qD, qZ, qN⟩ := q; exact ⟨q0, q1, qP, va_K.moved (u := U) (U := U.calling g mk a) (Vm.Alike.refl U.vm) qK, qD, zz_same (u := U) (H := U.heap) rfl rfl qZ, nn_moved (u := U) (U := U.calling g mk a) (Vm.Alike.refl U.vm) qN⟩, fun U hU hW => ⟨rfl, by rw [hU], by rw [hU]; exact hPc, va_K.moved hW.alike hK, hDc.weaken (fun _ _ _ _ => trivial), by rw [hU]; exact zz_to hZ hS hFc hW, nn_moved hW.alike hN⟩⟩ rfl rfl hl.1 rfl (lv_room (Nat.le_of_ble_eq_true rfl)) dL_law_999 ⟨by show 48 + j + 1 ≤ 1082; omega, by show 9269 + 6 * j + 6 ≤ 17521; omega⟩) hS (fun q _ h => hFc q h) hFc (fun r5 q5 t H1 locs ht hvm hw5 hB hz1 hk1 hS => ?_)
  obtain ⟨hP1, hD1⟩ := hB
  rw [ht] at hP1
  obtain ⟨hP, hD⟩ := va_join (wr := mw g h2 v) (w1 := ow g h o q5.1 q5.2) hP hD [0, 1, 2, 3, 4, 5, 6, 7, 8, 9, 10, 11, 12, 13, 14, 15, 16, 17, 18, 19, 20, 21, 22, 23, 47] [24, 25, 26, 27, 28, 29, 30, 31, 32, 33, 34, 35, 36, 37, 38, 39, 40, 41, 42, 43, 44, 45, 46] rfl rfl (by decide) (by decide) hk1 hFc hP1 hD1
  have hP := hP.sub (ws' := LW g h h2 o q5.1 v q5.2) [23, 24, 25, 26, 27, 28, 29, 30, 31, 32, 33, 34, 35, 36, 37, 38, 39, 40, 41, 42, 43, 44, 45, 46, 0, 1, 2, 3, 4, 5, 6, 7, 8, 9, 10, 11, 12, 13, 14, 15, 16, 17, 18, 19, 20, 21, 22, 47] rfl
  have hD := hD.sub (ws' := LW g h h2 o q5.1 v q5.2) [23, 24, 25, 26, 27, 28, 29, 30, 31, 32, 33, 34, 35, 36, 37, 38, 39, 40, 41, 42, 43, 44, 45, 46, 0, 1, 2, 3, 4, 5, 6, 7, 8, 9, 10, 11, 12, 13, 14, 15, 16, 17, 18, 19, 20, 21, 22, 47] (by decide) rfl
  refine W.widen (k := 48 + (j + 1)) (n := 9269 + 6 * (j + 1)) (by omega) (by omega) ?_
  refine lv_istore (lv' := [(5, .int r5), (0, .ref b), (1, .ref (h 0)), (2, .ref (h2 0)), (3, .ref o), (4, .int x4)]) hx hb dL_law_1002 hl (by decide) rfl (fun ls hl => ?_)
  refine lv_aload_n hx hb dL_law_1004 rfl (lv_at hl 3 rfl) ?_
  refine lv_aload_n hx hb dL_law_1005 rfl (lv_at hl 1 rfl) ?_
  refine lv_iload hx hb dL_law_1006 (lv_at hl 5 rfl) ?_
  refine lv_iconst (v := 1) hx hb dL_law_1008 (by decide) ?_
  refine lv_iadd hx hb dL_law_1009 ?_
  refine va_sld hx hb hX hbl hbA hS i1 dL_law_1010 ?_
  have hPc := hP.sub (ws' := mw g h2 v) [24, 25, 26, 27, 28, 29, 30, 31, 32, 33, 34, 35, 36, 37, 38, 39, 40, 41, 42, 43, 44, 45, 46] rfl
  have hDc := hD.sub (ws' := mw g h2 v) [24, 25, 26, 27, 28, 29, 30, 31, 32, 33, 34, 35, 36, 37, 38, 39, 40, 41, 42, 43, 44, 45, 46] (by decide) rfl
  have hFc := va_free (wc := mw g h2 v) hD hS hA [24, 25, 26, 27, 28, 29, 30, 31, 32, 33, 34, 35, 36, 37, 38, 39, 40, 41, 42, 43, 44, 45, 46] rfl
  refine va_calli (va_runV (As := [.int (xs (x4 + 1).toNatClampNeg)]) (rest := []) ⟨hx, hb, hml, hown, hts⟩ (kX5_mixed l dC dI g h2 v _ (xs (x4 + 1).toNatClampNeg) (hRm u v hR)) (cwV 1 hts (lgV wd_517 wd_518 wd_519 wd_241 wcX5_mixed) rfl rfl rfl (by decide +kernel) ⟨(Nat.le_of_ble_eq_true rfl), (Nat.le_of_ble_eq_true rfl)⟩) ⟨fun a U g mk q => by obtain ⟨q0, q1, qP, qK, qD⟩ := q; exact ⟨q0, q1, qP, va_K.moved (u := U) (U := U.calling g mk a) (Vm.Alike.refl U.vm) qK, qD⟩, va_recv hK hPc (ci := 4) (q0 := 0) rfl (mw_at0 _ _ _), fun U hU hW => ⟨rfl, by rw [hU], by rw [hU]; exact hPc, va_K.moved hW.alike hK, hDc.weaken (fun _ _ _ _ => trivial)⟩⟩ rfl rfl hl.1 rfl (lv_room (Nat.le_of_ble_eq_true rfl)) dL_law_1011 ⟨by show 48 + (j + 1) + 0 ≤ 1082; omega, by show 9269 + 6 * (j + 1) + 0 ≤ 17521; omega⟩) hS (fun q _ h => hFc q h) hFc (fun r6 v6 t H1 locs ht hvm hw6 hB hz1 hk1 hS => ?_)
  obtain ⟨hP1, hD1⟩ := hB
  rw [ht] at hP1
  obtain ⟨hP, hD⟩ := va_join (wr := ow g h o q5.1 q5.2) (w1 := mw g h2 v6) hP hD [24, 25, 26, 27, 28, 29, 30, 31, 32, 33, 34, 35, 36, 37, 38, 39, 40, 41, 42, 43, 44, 45, 46] [0, 1, 2, 3, 4, 5, 6, 7, 8, 9, 10, 11, 12, 13, 14, 15, 16, 17, 18, 19, 20, 21, 22, 23, 47] rfl rfl (by decide) (by decide) hk1 hFc hP1 hD1
  have hP := hP.sub (ws' := LW g h h2 o q5.1 v6 q5.2) [0, 1, 2, 3, 4, 5, 6, 7, 8, 9, 10, 11, 12, 13, 14, 15, 16, 17, 18, 19, 20, 21, 22, 23, 25, 26, 27, 28, 29, 30, 31, 32, 33, 34, 35, 36, 37, 38, 39, 40, 41, 42, 43, 44, 45, 46, 47, 24] rfl
  have hD := hD.sub (ws' := LW g h h2 o q5.1 v6 q5.2) [0, 1, 2, 3, 4, 5, 6, 7, 8, 9, 10, 11, 12, 13, 14, 15, 16, 17, 18, 19, 20, 21, 22, 23, 25, 26, 27, 28, 29, 30, 31, 32, 33, 34, 35, 36, 37, 38, 39, 40, 41, 42, 43, 44, 45, 46, 47, 24] (by decide) rfl
  have hq := hst u v (xs (x4 + 1).toNatClampNeg) hR
  rw [← hw6, ← hw5.1] at hq
  have hq1 := hq.1
  have hq2 := hq.2.1
  have hq3 := hq.2.2
  refine lv_istore (lv' := [(6, .int r6), (5, .int r5), (0, .ref b), (1, .ref (h 0)), (2, .ref (h2 0)), (3, .ref o), (4, .int x4)]) hx hb dL_law_1014 hl (by decide) rfl (fun ls hl => ?_)
  refine lv_aload_n hx hb dL_law_1016 rfl (lv_at hl 4 rfl) ?_
  have hPc := hP.sub (ws' := mw g h2 v6) [24, 25, 26, 27, 28, 29, 30, 31, 32, 33, 34, 35, 36, 37, 38, 39, 40, 41, 42, 43, 44, 45, 46] rfl
  refine vp_callSi (W.runV (As := []) (rest := []) ⟨hx, hb, hml, hown, hts⟩ (kX5_thrown l dC dI g h2 v6) (cwV 0 hts (lgV wd_426 wd_427 wd_428 wd_241 wcX5_thrown) rfl rfl rfl (by decide +kernel) ⟨(Nat.le_of_ble_eq_true rfl), (Nat.le_of_ble_eq_true rfl)⟩) ⟨fun a U g mk q => by obtain ⟨q0, qP, qK⟩ := q; exact ⟨q0, qP, va_K.moved (u := U) (U := U.calling g mk a) (Vm.Alike.refl U.vm) qK⟩, va_recv hK hPc (ci := 4) (q0 := 0) rfl (mw_at0 _ _ _), fun U hU hW => ⟨rfl, by rw [hU]; exact hPc, va_K.moved hW.alike hK⟩⟩ rfl rfl hl.1 rfl (lv_room (Nat.le_of_ble_eq_true rfl)) dL_law_1017 ⟨by show 48 + (j + 1) + 0 ≤ 1082; omega, by show 9269 + 6 * (j + 1) + 0 ≤ 17521; omega⟩) (fun r7 hw7 => ?_)
  refine lv_iload hx hb dL_law_1020 (lv_at hl 1 rfl) ?_
  refine lv_icmp_eq (tgt := 1027) hx hb dL_law_1022 (by decide) (fun c_1 => ?_) (fun c_1 => absurd (hw7.trans hq1) c_1)
  refine lv_iload hx hb dL_law_1027 (lv_at hl 1 rfl) ?_
  refine lv_if_ne (tgt := 1044) hx hb dL_law_1029 (by decide) (fun c_2 => ?_) (fun c_2 => ?_)
  · skip
    refine lv_goto (tgt := 1552) hx hb dL_law_1044 (by decide) ?_
    have hRR : Rl q5.1 v6 := by rw [hw5.2]; exact hq3
    exact K q5.1 v6 q5.2 _ _ _ hRR hP hD hS (lv_sub hl [2, 3, 4, 5, 6] rfl)
  · skip
    have hk0 := wk_0 (by decide) (hw5.1.symm.trans c_2)
    have hv0 := hq2 hk0
    refine lv_aload_n hx hb dL_law_1032 rfl (lv_at hl 5 rfl) ?_
    refine lv_iconst (v := 0) hx hb dL_law_1033 (by decide) ?_
    refine va_lald (f := q5.2) hx hb hK hP 47 2 (LW_at47 _ _ _ _ _ _ _) rfl (vp_in_iff.mpr (by decide)) dL_law_1034 ?_
    refine lv_iload hx hb dL_law_1035 (lv_at hl 0 rfl) ?_
    refine lv_i2l (v := r6.toInt64) hx hb dL_law_1037 rfl ?_
    refine W.lcmp hx hb dL_law_1038 ?_
    have ho : q5.2 (0 : Int32).toNatClampNeg = r6.toInt64 := by
      rw [hw5.2]; show (if (fX4_mixed u (xs (x4 + 1).toNatClampNeg)).1 = 0 then vp_updL f (0 : Int32).toNatClampNeg (fX4_mixed u (xs (x4 + 1).toNatClampNeg)).2.1.toInt64 else f) _ = r6.toInt64
      rw [if_pos hk0, pk_uLs, hv0]
    rw [ho, lg_self]
    refine lv_if_eq (tgt := 1044) hx hb dL_law_1039 (by decide) (fun _ => ?_) (fun c_4 => absurd rfl c_4)
    refine lv_goto (tgt := 1552) hx hb dL_law_1044 (by decide) ?_
    have hRR : Rl q5.1 v6 := by rw [hw5.2]; exact hq3
    exact K q5.1 v6 q5.2 _ _ _ hRR hP hD hS (lv_sub hl [2, 3, 4, 5, 6] rfl)
set_option maxHeartbeats 4000000 in
set_option maxRecDepth 100000 in
theorem lc_ship {p : Program} {l : Launch} {e : Env} {s : State} {m : MethodId} {below : List Frame} {meth : Method} {c : Code} {b L : Nat} {xs : Nat → Int32} {dC : Nat → ClassId} {dI : Nat → Nat → Nat} {g : cG} {h h2 : Nat → Nat} {o : Nat} (X0 : lw_X p l s m meth c b L xs) (Rl : cS → mS → Prop) (hRc : ∀ (u : cS) (v : mS), Rl u v → cInv u) (hRm : ∀ (u : cS) (v : mS), Rl u v → mInv v) (hst : ∀ (u : cS) (v : mS) (x1 : Int32) (x2 : Int32) (x3 : Int32), Rl u v → k_mcode (fX5_ship v x1 x2 x3) = wk [1, 2, 3, 4] (fX4_ship u x1 x2 x3).1 ∧ Rl (fX4_ship u x1 x2 x3).2.2 (fX5_ship v x1 x2 x3)) (hL : L ≤ 2560) (hK : va_K (dC, dI) vwCl (cTys g) s) (j : Nat) (x4 : Int32) (hx4 : x4.toInt = 5 * (j : Int)) (hj : 5 * j + 5 ≤ L) (u : cS) (v : mS) (f : Nat → Int64) (hR : Rl u v) (H : Heap) (locs : List Loc) (hP : va_P (dC, dI) vwCl (LW g h h2 o u v f) H) (hD : va_D (fun q : Nat => s.heap.size ≤ q) (LW g h h2 o u v f)) (hS : va_S (fun q : Nat => s.heap.size ≤ q) s.heap H locs) (ls : Array Slot) (hl : lv_has ls 7 [(0, .ref b), (1, .ref (h 0)), (2, .ref (h2 0)), (3, .ref o), (4, .int x4)])
    (K : ∀ (u : cS) (v : mS) (f : Nat → Int64) (H : Heap) (locs : List Loc) (ls : Array Slot), Rl u v → va_P (dC, dI) vwCl (LW g h h2 o u v f) H → va_D (fun q : Nat => s.heap.size ≤ q) (LW g h h2 o u v f) → va_S (fun q : Nat => s.heap.size ≤ q) s.heap H locs → lv_has ls 7 [(0, .ref b), (1, .ref (h 0)), (2, .ref (h2 0)), (3, .ref o), (4, .int x4)] → W p l e room_1 s m #[Value.ref b] below meth c H locs (48 + (j + 1)) (9269 + 6 * (j + 1)) (lw_Z below #[Value.ref b] s) (F0 m 1552 ls [])) :
    W p l e room_1 s m #[Value.ref b] below meth c H locs (48 + j) (9269 + 6 * j) (lw_Z below #[Value.ref b] s) (F0 m 1047 ls []) := by
  obtain ⟨⟨hx, hb, hr, hml, hown, hts, hX, hbl, hlocks, hgv⟩, hl9, hZ, hN⟩ := X0
  have hA : ∀ q : Nat, s.heap.size ≤ q → (fun q : Nat => s.heap.size ≤ q) q := fun _ h => h
  have hbA : ¬ (fun q : Nat => s.heap.size ≤ q) b := Nat.not_le.mpr hbl
  have n1 : (1 : Int32).toInt = 1 := by decide
  have e1 := i_add (x := x4) (y := 1) (by omega) (by omega)
  have i1 : vp_in (x4 + 1) L := vp_in_iff.mpr (by omega)
  have n2 : (2 : Int32).toInt = 2 := by decide
  have e2 := i_add (x := x4) (y := 2) (by omega) (by omega)
  have i2 : vp_in (x4 + 2) L := vp_in_iff.mpr (by omega)
  have n3 : (3 : Int32).toInt = 3 := by decide
  have e3 := i_add (x := x4) (y := 3) (by omega) (by omega)
  have i3 : vp_in (x4 + 3) L := vp_in_iff.mpr (by omega)
  have n4 : (4 : Int32).toInt = 4 := by decide
  have e4 := i_add (x := x4) (y := 4) (by omega) (by omega)
  have i4 : vp_in (x4 + 4) L := vp_in_iff.mpr (by omega)
  refine lv_aload_n hx hb dL_law_1047 rfl (lv_at hl 1 rfl) ?_
  refine lv_aload_n hx hb dL_law_1048 rfl (lv_at hl 0 rfl) ?_
  refine lv_iload hx hb dL_law_1049 (lv_at hl 4 rfl) ?_
  refine lv_iconst (v := 1) hx hb dL_law_1051 (by decide) ?_
  refine lv_iadd hx hb dL_law_1052 ?_
  refine va_sld hx hb hX hbl hbA hS i1 dL_law_1053 ?_
  refine lv_aload_n hx hb dL_law_1054 rfl (lv_at hl 0 rfl) ?_
  refine lv_iload hx hb dL_law_1055 (lv_at hl 4 rfl) ?_
  refine lv_iconst (v := 2) hx hb dL_law_1057 (by decide) ?_
  refine lv_iadd hx hb dL_law_1058 ?_
  refine va_sld hx hb hX hbl hbA hS i2 dL_law_1059 ?_
  refine lv_aload_n hx hb dL_law_1060 rfl (lv_at hl 0 rfl) ?_
  refine lv_iload hx hb dL_law_1061 (lv_at hl 4 rfl) ?_
  refine lv_iconst (v := 3) hx hb dL_law_1063 (by decide) ?_
  refine lv_iadd hx hb dL_law_1064 ?_
  refine va_sld hx hb hX hbl hbA hS i3 dL_law_1065 ?_
  have hPc := hP.sub (ws' := cw g h u) [0, 1, 2, 3, 4, 5, 6, 7, 8, 9, 10, 11, 12, 13, 14, 15, 16, 17, 18, 19, 20, 21, 22, 23] rfl
  have hDc := hD.sub (ws' := cw g h u) [0, 1, 2, 3, 4, 5, 6, 7, 8, 9, 10, 11, 12, 13, 14, 15, 16, 17, 18, 19, 20, 21, 22, 23] (by decide) rfl
  have hFc := va_free (wc := cw g h u) hD hS hA [0, 1, 2, 3, 4, 5, 6, 7, 8, 9, 10, 11, 12, 13, 14, 15, 16, 17, 18, 19, 20, 21, 22, 23] rfl
  refine va_calli (vx_runSW (hh := [(0, 7, 10, 33), (0, 7, 14, 13), (0, 7, 18, 35), (0, 7, 22, 15)]) (As := [.ref (h 0), .int (xs (x4 + 1).toNatClampNeg), .int (xs (x4 + 2).toNatClampNeg), .int (xs (x4 + 3).toNatClampNeg)]) (rest := []) ⟨hx, hb, hml, hown, hts⟩ (kL_ship l hl9 dC dI g h u _ (xs (x4 + 1).toNatClampNeg) (xs (x4 + 2).toNatClampNeg) (xs (x4 + 3).toNatClampNeg) (hRc u v hR)) (vx_cwSW 4 hts (lgT wd_521 wd_522 wd_420 wcL_ship) rfl rfl rfl (by decide +kernel) ⟨(Nat.le_of_ble_eq_true rfl), (Nat.le_of_ble_eq_true rfl)⟩) ⟨fun a U g mk q => by obtain ⟨q0, q1, qP, qK, qD, qZ, qN⟩ := q; exact ⟨q0, q1, qP, va_K.moved (u := U) (U := U.calling g mk a) (Vm.Alike.refl U.vm) qK, qD, zz_same (u := U) (H := U.heap) rfl rfl qZ, nn_moved (u := U) (U := U.calling g mk a) (Vm.Alike.refl U.vm) qN⟩, fun U hU hW => ⟨rfl, by rw [hU], by rw [hU]; exact hPc, va_K.moved hW.alike hK, hDc.weaken (fun _ _ _ _ => trivial), by rw [hU]; exact zz_to hZ hS hFc hW, nn_moved hW.alike hN⟩⟩ rfl rfl hl.1 rfl (lv_room (Nat.le_of_ble_eq_true rfl)) dL_law_1066 ⟨by show 48 + j + 1 ≤ 1082; omega, by show 9269 + 6 * j + 6 ≤ 17521; omega⟩) hS (fun q _ h => hFc q h) hFc (fun r5 q5 t H1 locs ht hvm hw5 hB hz1 hk1 hS => ?_)
  obtain ⟨hP1, hD1⟩ := hB
  rw [ht] at hP1
  obtain ⟨hP, hD⟩ := va_join (wr := mw g h2 v ++ [(o, .inl (g.2.2, 1, .inr (.inl f)))]) (w1 := cw g h q5) hP hD [0, 1, 2, 3, 4, 5, 6, 7, 8, 9, 10, 11, 12, 13, 14, 15, 16, 17, 18, 19, 20, 21, 22, 23] [24, 25, 26, 27, 28, 29, 30, 31, 32, 33, 34, 35, 36, 37, 38, 39, 40, 41, 42, 43, 44, 45, 46, 47] rfl rfl (by decide) (by decide) hk1 hFc hP1 hD1
  have hP := hP.sub (ws' := LW g h h2 o q5 v f) [24, 25, 26, 27, 28, 29, 30, 31, 32, 33, 34, 35, 36, 37, 38, 39, 40, 41, 42, 43, 44, 45, 46, 47, 0, 1, 2, 3, 4, 5, 6, 7, 8, 9, 10, 11, 12, 13, 14, 15, 16, 17, 18, 19, 20, 21, 22, 23] rfl
  have hD := hD.sub (ws' := LW g h h2 o q5 v f) [24, 25, 26, 27, 28, 29, 30, 31, 32, 33, 34, 35, 36, 37, 38, 39, 40, 41, 42, 43, 44, 45, 46, 47, 0, 1, 2, 3, 4, 5, 6, 7, 8, 9, 10, 11, 12, 13, 14, 15, 16, 17, 18, 19, 20, 21, 22, 23] (by decide) rfl
  refine W.widen (k := 48 + (j + 1)) (n := 9269 + 6 * (j + 1)) (by omega) (by omega) ?_
  refine lv_istore (lv' := [(5, .int r5), (0, .ref b), (1, .ref (h 0)), (2, .ref (h2 0)), (3, .ref o), (4, .int x4)]) hx hb dL_law_1069 hl (by decide) rfl (fun ls hl => ?_)
  refine lv_aload_n hx hb dL_law_1071 rfl (lv_at hl 3 rfl) ?_
  refine lv_aload_n hx hb dL_law_1072 rfl (lv_at hl 1 rfl) ?_
  refine lv_iload hx hb dL_law_1073 (lv_at hl 5 rfl) ?_
  refine lv_iconst (v := 1) hx hb dL_law_1075 (by decide) ?_
  refine lv_iadd hx hb dL_law_1076 ?_
  refine va_sld hx hb hX hbl hbA hS i1 dL_law_1077 ?_
  refine lv_aload_n hx hb dL_law_1078 rfl (lv_at hl 1 rfl) ?_
  refine lv_iload hx hb dL_law_1079 (lv_at hl 5 rfl) ?_
  refine lv_iconst (v := 2) hx hb dL_law_1081 (by decide) ?_
  refine lv_iadd hx hb dL_law_1082 ?_
  refine va_sld hx hb hX hbl hbA hS i2 dL_law_1083 ?_
  refine lv_aload_n hx hb dL_law_1084 rfl (lv_at hl 1 rfl) ?_
  refine lv_iload hx hb dL_law_1085 (lv_at hl 5 rfl) ?_
  refine lv_iconst (v := 3) hx hb dL_law_1087 (by decide) ?_
  refine lv_iadd hx hb dL_law_1088 ?_
  refine va_sld hx hb hX hbl hbA hS i3 dL_law_1089 ?_
  have hPc := hP.sub (ws' := mw g h2 v) [24, 25, 26, 27, 28, 29, 30, 31, 32, 33, 34, 35, 36, 37, 38, 39, 40, 41, 42, 43, 44, 45, 46] rfl
  have hDc := hD.sub (ws' := mw g h2 v) [24, 25, 26, 27, 28, 29, 30, 31, 32, 33, 34, 35, 36, 37, 38, 39, 40, 41, 42, 43, 44, 45, 46] (by decide) rfl
  have hFc := va_free (wc := mw g h2 v) hD hS hA [24, 25, 26, 27, 28, 29, 30, 31, 32, 33, 34, 35, 36, 37, 38, 39, 40, 41, 42, 43, 44, 45, 46] rfl
  refine va_callv (va_runV (As := [.int (xs (x4 + 1).toNatClampNeg), .int (xs (x4 + 2).toNatClampNeg), .int (xs (x4 + 3).toNatClampNeg)]) (rest := []) ⟨hx, hb, hml, hown, hts⟩ (kX5_ship l dC dI g h2 v _ (xs (x4 + 1).toNatClampNeg) (xs (x4 + 2).toNatClampNeg) (xs (x4 + 3).toNatClampNeg) (hRm u v hR)) (cwV 3 hts (lgV wd_524 wd_525 wd_526 wd_241 wcX5_ship) rfl rfl rfl (by decide +kernel) ⟨(Nat.le_of_ble_eq_true rfl), (Nat.le_of_ble_eq_true rfl)⟩) ⟨fun a U g mk q => by obtain ⟨q0, q1, qP, qK, qD⟩ := q; exact ⟨q0, q1, qP, va_K.moved (u := U) (U := U.calling g mk a) (Vm.Alike.refl U.vm) qK, qD⟩, va_recv hK hPc (ci := 4) (q0 := 0) rfl (mw_at0 _ _ _), fun U hU hW => ⟨rfl, by rw [hU], by rw [hU]; exact hPc, va_K.moved hW.alike hK, hDc.weaken (fun _ _ _ _ => trivial)⟩⟩ rfl rfl hl.1 rfl (lv_room (Nat.le_of_ble_eq_true rfl)) dL_law_1090 ⟨by show 48 + (j + 1) + 0 ≤ 1082; omega, by show 9269 + 6 * (j + 1) + 0 ≤ 17521; omega⟩) hS (fun q _ h => hFc q h) hFc (fun v6 t H1 locs ht hvm hw6 hB hz1 hk1 hS => ?_)
  obtain ⟨hP1, hD1⟩ := hB
  rw [ht] at hP1
  obtain ⟨hP, hD⟩ := va_join (wr := ow g h o q5 f) (w1 := mw g h2 v6) hP hD [24, 25, 26, 27, 28, 29, 30, 31, 32, 33, 34, 35, 36, 37, 38, 39, 40, 41, 42, 43, 44, 45, 46] [0, 1, 2, 3, 4, 5, 6, 7, 8, 9, 10, 11, 12, 13, 14, 15, 16, 17, 18, 19, 20, 21, 22, 23, 47] rfl rfl (by decide) (by decide) hk1 hFc hP1 hD1
  have hP := hP.sub (ws' := LW g h h2 o q5 v6 f) [0, 1, 2, 3, 4, 5, 6, 7, 8, 9, 10, 11, 12, 13, 14, 15, 16, 17, 18, 19, 20, 21, 22, 23, 25, 26, 27, 28, 29, 30, 31, 32, 33, 34, 35, 36, 37, 38, 39, 40, 41, 42, 43, 44, 45, 46, 47, 24] rfl
  have hD := hD.sub (ws' := LW g h h2 o q5 v6 f) [0, 1, 2, 3, 4, 5, 6, 7, 8, 9, 10, 11, 12, 13, 14, 15, 16, 17, 18, 19, 20, 21, 22, 23, 25, 26, 27, 28, 29, 30, 31, 32, 33, 34, 35, 36, 37, 38, 39, 40, 41, 42, 43, 44, 45, 46, 47, 24] (by decide) rfl
  have hq := hst u v (xs (x4 + 1).toNatClampNeg) (xs (x4 + 2).toNatClampNeg) (xs (x4 + 3).toNatClampNeg) hR
  rw [← hw6, ← hw5.1] at hq
  have hq1 := hq.1
  have hq3 := hq.2
  refine lv_aload_n hx hb dL_law_1093 rfl (lv_at hl 3 rfl) ?_
  have hPc := hP.sub (ws' := mw g h2 v6) [24, 25, 26, 27, 28, 29, 30, 31, 32, 33, 34, 35, 36, 37, 38, 39, 40, 41, 42, 43, 44, 45, 46] rfl
  refine vp_callSi (W.runV (As := []) (rest := []) ⟨hx, hb, hml, hown, hts⟩ (kX5_thrown l dC dI g h2 v6) (cwV 0 hts (lgV wd_426 wd_427 wd_428 wd_241 wcX5_thrown) rfl rfl rfl (by decide +kernel) ⟨(Nat.le_of_ble_eq_true rfl), (Nat.le_of_ble_eq_true rfl)⟩) ⟨fun a U g mk q => by obtain ⟨q0, qP, qK⟩ := q; exact ⟨q0, qP, va_K.moved (u := U) (U := U.calling g mk a) (Vm.Alike.refl U.vm) qK⟩, va_recv hK hPc (ci := 4) (q0 := 0) rfl (mw_at0 _ _ _), fun U hU hW => ⟨rfl, by rw [hU]; exact hPc, va_K.moved hW.alike hK⟩⟩ rfl rfl hl.1 rfl (lv_room (Nat.le_of_ble_eq_true rfl)) dL_law_1094 ⟨by show 48 + (j + 1) + 0 ≤ 1082; omega, by show 9269 + 6 * (j + 1) + 0 ≤ 17521; omega⟩) (fun r7 hw7 => ?_)
  refine lv_iload hx hb dL_law_1097 (lv_at hl 0 rfl) ?_
  refine lv_icmp_eq (tgt := 1104) hx hb dL_law_1099 (by decide) (fun c_1 => ?_) (fun c_1 => absurd (hw7.trans hq1) c_1)
  refine lv_goto (tgt := 1552) hx hb dL_law_1104 (by decide) ?_
  have hRR : Rl q5 v6 := by rw [hw5.2]; exact hq3
  exact K q5 v6 f _ _ _ hRR hP hD hS (lv_sub hl [1, 2, 3, 4, 5] rfl)
set_option maxHeartbeats 4000000 in
set_option maxRecDepth 100000 in
theorem lc_recall {p : Program} {l : Launch} {e : Env} {s : State} {m : MethodId} {below : List Frame} {meth : Method} {c : Code} {b L : Nat} {xs : Nat → Int32} {dC : Nat → ClassId} {dI : Nat → Nat → Nat} {g : cG} {h h2 : Nat → Nat} {o : Nat} (X0 : lw_X p l s m meth c b L xs) (Rl : cS → mS → Prop) (hRc : ∀ (u : cS) (v : mS), Rl u v → cInv u) (hRm : ∀ (u : cS) (v : mS), Rl u v → mInv v) (hst : ∀ (u : cS) (v : mS) (x1 : Int32) (x2 : Int32), Rl u v → k_mcode (fX5_recall v x1 x2).2 = wk [1, 2] (fX4_recall u x1 x2).1 ∧ ((fX4_recall u x1 x2).1 = 0 → (fX4_recall u x1 x2).2.1 = (fX5_recall v x1 x2).1) ∧ Rl (fX4_recall u x1 x2).2.2 (fX5_recall v x1 x2).2) (hL : L ≤ 2560) (hK : va_K (dC, dI) vwCl (cTys g) s) (j : Nat) (x4 : Int32) (hx4 : x4.toInt = 5 * (j : Int)) (hj : 5 * j + 5 ≤ L) (u : cS) (v : mS) (f : Nat → Int64) (hR : Rl u v) (H : Heap) (locs : List Loc) (hP : va_P (dC, dI) vwCl (LW g h h2 o u v f) H) (hD : va_D (fun q : Nat => s.heap.size ≤ q) (LW g h h2 o u v f)) (hS : va_S (fun q : Nat => s.heap.size ≤ q) s.heap H locs) (ls : Array Slot) (hl : lv_has ls 7 [(0, .ref b), (1, .ref (h 0)), (2, .ref (h2 0)), (3, .ref o), (4, .int x4)])
    (K : ∀ (u : cS) (v : mS) (f : Nat → Int64) (H : Heap) (locs : List Loc) (ls : Array Slot), Rl u v → va_P (dC, dI) vwCl (LW g h h2 o u v f) H → va_D (fun q : Nat => s.heap.size ≤ q) (LW g h h2 o u v f) → va_S (fun q : Nat => s.heap.size ≤ q) s.heap H locs → lv_has ls 7 [(0, .ref b), (1, .ref (h 0)), (2, .ref (h2 0)), (3, .ref o), (4, .int x4)] → W p l e room_1 s m #[Value.ref b] below meth c H locs (48 + (j + 1)) (9269 + 6 * (j + 1)) (lw_Z below #[Value.ref b] s) (F0 m 1552 ls [])) :
    W p l e room_1 s m #[Value.ref b] below meth c H locs (48 + j) (9269 + 6 * j) (lw_Z below #[Value.ref b] s) (F0 m 1107 ls []) := by
  obtain ⟨⟨hx, hb, hr, hml, hown, hts, hX, hbl, hlocks, hgv⟩, hl9, hZ, hN⟩ := X0
  have hA : ∀ q : Nat, s.heap.size ≤ q → (fun q : Nat => s.heap.size ≤ q) q := fun _ h => h
  have hbA : ¬ (fun q : Nat => s.heap.size ≤ q) b := Nat.not_le.mpr hbl
  have n1 : (1 : Int32).toInt = 1 := by decide
  have e1 := i_add (x := x4) (y := 1) (by omega) (by omega)
  have i1 : vp_in (x4 + 1) L := vp_in_iff.mpr (by omega)
  have n2 : (2 : Int32).toInt = 2 := by decide
  have e2 := i_add (x := x4) (y := 2) (by omega) (by omega)
  have i2 : vp_in (x4 + 2) L := vp_in_iff.mpr (by omega)
  have n3 : (3 : Int32).toInt = 3 := by decide
  have e3 := i_add (x := x4) (y := 3) (by omega) (by omega)
  have i3 : vp_in (x4 + 3) L := vp_in_iff.mpr (by omega)
  have n4 : (4 : Int32).toInt = 4 := by decide
  have e4 := i_add (x := x4) (y := 4) (by omega) (by omega)
  have i4 : vp_in (x4 + 4) L := vp_in_iff.mpr (by omega)
  refine lv_aload_n hx hb dL_law_1107 rfl (lv_at hl 1 rfl) ?_
  refine lv_aload_n hx hb dL_law_1108 rfl (lv_at hl 0 rfl) ?_
  refine lv_iload hx hb dL_law_1109 (lv_at hl 4 rfl) ?_
  refine lv_iconst (v := 1) hx hb dL_law_1111 (by decide) ?_
  refine lv_iadd hx hb dL_law_1112 ?_
  refine va_sld hx hb hX hbl hbA hS i1 dL_law_1113 ?_
  refine lv_aload_n hx hb dL_law_1114 rfl (lv_at hl 0 rfl) ?_
  refine lv_iload hx hb dL_law_1115 (lv_at hl 4 rfl) ?_
  refine lv_iconst (v := 2) hx hb dL_law_1117 (by decide) ?_
  refine lv_iadd hx hb dL_law_1118 ?_
  refine va_sld hx hb hX hbl hbA hS i2 dL_law_1119 ?_
  refine lv_aload_n hx hb dL_law_1120 rfl (lv_at hl 3 rfl) ?_
  have hPc := hP.sub (ws' := ow g h o u f) [0, 1, 2, 3, 4, 5, 6, 7, 8, 9, 10, 11, 12, 13, 14, 15, 16, 17, 18, 19, 20, 21, 22, 23, 47] rfl
  have hDc := hD.sub (ws' := ow g h o u f) [0, 1, 2, 3, 4, 5, 6, 7, 8, 9, 10, 11, 12, 13, 14, 15, 16, 17, 18, 19, 20, 21, 22, 23, 47] (by decide) rfl
  have hFc := va_free (wc := ow g h o u f) hD hS hA [0, 1, 2, 3, 4, 5, 6, 7, 8, 9, 10, 11, 12, 13, 14, 15, 16, 17, 18, 19, 20, 21, 22, 23, 47] rfl
  refine va_calli (vx_runSW (hh := [(0, 10, 13, 33), (0, 10, 17, 13)]) (As := [.ref (h 0), .int (xs (x4 + 1).toNatClampNeg), .int (xs (x4 + 2).toNatClampNeg), .ref o]) (rest := []) ⟨hx, hb, hml, hown, hts⟩ (kL_recall l hl9 dC dI g h o u f _ (xs (x4 + 1).toNatClampNeg) (xs (x4 + 2).toNatClampNeg) (hRc u v hR)) (vx_cwSW 4 hts (lgT wd_528 wd_529 wd_420 wcL_recall) rfl rfl rfl (by decide +kernel) ⟨(Nat.le_of_ble_eq_true rfl), (Nat.le_of_ble_eq_true rfl)⟩) ⟨fun a U g mk q => by obtain ⟨q0, q1, qP, qK, qD, qZ, qN⟩ := q; exact ⟨q0, q1, qP, va_K.moved (u := U) (U := U.calling g mk a) (Vm.Alike.refl U.vm) qK, qD, zz_same (u := U) (H := U.heap) rfl rfl qZ, nn_moved (u := U) (U := U.calling g mk a) (Vm.Alike.refl U.vm) qN⟩, fun U hU hW => ⟨rfl, by rw [hU], by rw [hU]; exact hPc, va_K.moved hW.alike hK, hDc.weaken (fun _ _ _ _ => trivial), by rw [hU]; exact zz_to hZ hS hFc hW, nn_moved hW.alike hN⟩⟩ rfl rfl hl.1 rfl (lv_room (Nat.le_of_ble_eq_true rfl)) dL_law_1121 ⟨by show 48 + j + 1 ≤ 1082; omega, by show 9269 + 6 * j + 6 ≤ 17521; omega⟩) hS (fun q _ h => hFc q h) hFc (fun r5 q5 t H1 locs ht hvm hw5 hB hz1 hk1 hS => ?_)
  obtain ⟨hP1, hD1⟩ := hB
  rw [ht] at hP1
  obtain ⟨hP, hD⟩ := va_join (wr := mw g h2 v) (w1 := ow g h o q5.1 q5.2) hP hD [0, 1, 2, 3, 4, 5, 6, 7, 8, 9, 10, 11, 12, 13, 14, 15, 16, 17, 18, 19, 20, 21, 22, 23, 47] [24, 25, 26, 27, 28, 29, 30, 31, 32, 33, 34, 35, 36, 37, 38, 39, 40, 41, 42, 43, 44, 45, 46] rfl rfl (by decide) (by decide) hk1 hFc hP1 hD1
  have hP := hP.sub (ws' := LW g h h2 o q5.1 v q5.2) [23, 24, 25, 26, 27, 28, 29, 30, 31, 32, 33, 34, 35, 36, 37, 38, 39, 40, 41, 42, 43, 44, 45, 46, 0, 1, 2, 3, 4, 5, 6, 7, 8, 9, 10, 11, 12, 13, 14, 15, 16, 17, 18, 19, 20, 21, 22, 47] rfl
  have hD := hD.sub (ws' := LW g h h2 o q5.1 v q5.2) [23, 24, 25, 26, 27, 28, 29, 30, 31, 32, 33, 34, 35, 36, 37, 38, 39, 40, 41, 42, 43, 44, 45, 46, 0, 1, 2, 3, 4, 5, 6, 7, 8, 9, 10, 11, 12, 13, 14, 15, 16, 17, 18, 19, 20, 21, 22, 47] (by decide) rfl
  refine W.widen (k := 48 + (j + 1)) (n := 9269 + 6 * (j + 1)) (by omega) (by omega) ?_
  refine lv_istore (lv' := [(5, .int r5), (0, .ref b), (1, .ref (h 0)), (2, .ref (h2 0)), (3, .ref o), (4, .int x4)]) hx hb dL_law_1124 hl (by decide) rfl (fun ls hl => ?_)
  refine lv_aload_n hx hb dL_law_1126 rfl (lv_at hl 3 rfl) ?_
  refine lv_aload_n hx hb dL_law_1127 rfl (lv_at hl 1 rfl) ?_
  refine lv_iload hx hb dL_law_1128 (lv_at hl 5 rfl) ?_
  refine lv_iconst (v := 1) hx hb dL_law_1130 (by decide) ?_
  refine lv_iadd hx hb dL_law_1131 ?_
  refine va_sld hx hb hX hbl hbA hS i1 dL_law_1132 ?_
  refine lv_aload_n hx hb dL_law_1133 rfl (lv_at hl 1 rfl) ?_
  refine lv_iload hx hb dL_law_1134 (lv_at hl 5 rfl) ?_
  refine lv_iconst (v := 2) hx hb dL_law_1136 (by decide) ?_
  refine lv_iadd hx hb dL_law_1137 ?_
  refine va_sld hx hb hX hbl hbA hS i2 dL_law_1138 ?_
  have hPc := hP.sub (ws' := mw g h2 v) [24, 25, 26, 27, 28, 29, 30, 31, 32, 33, 34, 35, 36, 37, 38, 39, 40, 41, 42, 43, 44, 45, 46] rfl
  have hDc := hD.sub (ws' := mw g h2 v) [24, 25, 26, 27, 28, 29, 30, 31, 32, 33, 34, 35, 36, 37, 38, 39, 40, 41, 42, 43, 44, 45, 46] (by decide) rfl
  have hFc := va_free (wc := mw g h2 v) hD hS hA [24, 25, 26, 27, 28, 29, 30, 31, 32, 33, 34, 35, 36, 37, 38, 39, 40, 41, 42, 43, 44, 45, 46] rfl
  refine va_calli (va_runV (As := [.int (xs (x4 + 1).toNatClampNeg), .int (xs (x4 + 2).toNatClampNeg)]) (rest := []) ⟨hx, hb, hml, hown, hts⟩ (kX5_recall l dC dI g h2 v _ (xs (x4 + 1).toNatClampNeg) (xs (x4 + 2).toNatClampNeg) (hRm u v hR)) (cwV 2 hts (lgV wd_531 wd_532 wd_533 wd_241 wcX5_recall) rfl rfl rfl (by decide +kernel) ⟨(Nat.le_of_ble_eq_true rfl), (Nat.le_of_ble_eq_true rfl)⟩) ⟨fun a U g mk q => by obtain ⟨q0, q1, qP, qK, qD⟩ := q; exact ⟨q0, q1, qP, va_K.moved (u := U) (U := U.calling g mk a) (Vm.Alike.refl U.vm) qK, qD⟩, va_recv hK hPc (ci := 4) (q0 := 0) rfl (mw_at0 _ _ _), fun U hU hW => ⟨rfl, by rw [hU], by rw [hU]; exact hPc, va_K.moved hW.alike hK, hDc.weaken (fun _ _ _ _ => trivial)⟩⟩ rfl rfl hl.1 rfl (lv_room (Nat.le_of_ble_eq_true rfl)) dL_law_1139 ⟨by show 48 + (j + 1) + 0 ≤ 1082; omega, by show 9269 + 6 * (j + 1) + 0 ≤ 17521; omega⟩) hS (fun q _ h => hFc q h) hFc (fun r6 v6 t H1 locs ht hvm hw6 hB hz1 hk1 hS => ?_)
  obtain ⟨hP1, hD1⟩ := hB
  rw [ht] at hP1
  obtain ⟨hP, hD⟩ := va_join (wr := ow g h o q5.1 q5.2) (w1 := mw g h2 v6) hP hD [24, 25, 26, 27, 28, 29, 30, 31, 32, 33, 34, 35, 36, 37, 38, 39, 40, 41, 42, 43, 44, 45, 46] [0, 1, 2, 3, 4, 5, 6, 7, 8, 9, 10, 11, 12, 13, 14, 15, 16, 17, 18, 19, 20, 21, 22, 23, 47] rfl rfl (by decide) (by decide) hk1 hFc hP1 hD1
  have hP := hP.sub (ws' := LW g h h2 o q5.1 v6 q5.2) [0, 1, 2, 3, 4, 5, 6, 7, 8, 9, 10, 11, 12, 13, 14, 15, 16, 17, 18, 19, 20, 21, 22, 23, 25, 26, 27, 28, 29, 30, 31, 32, 33, 34, 35, 36, 37, 38, 39, 40, 41, 42, 43, 44, 45, 46, 47, 24] rfl
  have hD := hD.sub (ws' := LW g h h2 o q5.1 v6 q5.2) [0, 1, 2, 3, 4, 5, 6, 7, 8, 9, 10, 11, 12, 13, 14, 15, 16, 17, 18, 19, 20, 21, 22, 23, 25, 26, 27, 28, 29, 30, 31, 32, 33, 34, 35, 36, 37, 38, 39, 40, 41, 42, 43, 44, 45, 46, 47, 24] (by decide) rfl
  have hq := hst u v (xs (x4 + 1).toNatClampNeg) (xs (x4 + 2).toNatClampNeg) hR
  rw [← hw6, ← hw5.1] at hq
  have hq1 := hq.1
  have hq2 := hq.2.1
  have hq3 := hq.2.2
  refine lv_istore (lv' := [(6, .int r6), (5, .int r5), (0, .ref b), (1, .ref (h 0)), (2, .ref (h2 0)), (3, .ref o), (4, .int x4)]) hx hb dL_law_1142 hl (by decide) rfl (fun ls hl => ?_)
  refine lv_aload_n hx hb dL_law_1144 rfl (lv_at hl 4 rfl) ?_
  have hPc := hP.sub (ws' := mw g h2 v6) [24, 25, 26, 27, 28, 29, 30, 31, 32, 33, 34, 35, 36, 37, 38, 39, 40, 41, 42, 43, 44, 45, 46] rfl
  refine vp_callSi (W.runV (As := []) (rest := []) ⟨hx, hb, hml, hown, hts⟩ (kX5_thrown l dC dI g h2 v6) (cwV 0 hts (lgV wd_426 wd_427 wd_428 wd_241 wcX5_thrown) rfl rfl rfl (by decide +kernel) ⟨(Nat.le_of_ble_eq_true rfl), (Nat.le_of_ble_eq_true rfl)⟩) ⟨fun a U g mk q => by obtain ⟨q0, qP, qK⟩ := q; exact ⟨q0, qP, va_K.moved (u := U) (U := U.calling g mk a) (Vm.Alike.refl U.vm) qK⟩, va_recv hK hPc (ci := 4) (q0 := 0) rfl (mw_at0 _ _ _), fun U hU hW => ⟨rfl, by rw [hU]; exact hPc, va_K.moved hW.alike hK⟩⟩ rfl rfl hl.1 rfl (lv_room (Nat.le_of_ble_eq_true rfl)) dL_law_1145 ⟨by show 48 + (j + 1) + 0 ≤ 1082; omega, by show 9269 + 6 * (j + 1) + 0 ≤ 17521; omega⟩) (fun r7 hw7 => ?_)
  refine lv_iload hx hb dL_law_1148 (lv_at hl 1 rfl) ?_
  refine lv_icmp_eq (tgt := 1155) hx hb dL_law_1150 (by decide) (fun c_1 => ?_) (fun c_1 => absurd (hw7.trans hq1) c_1)
  refine lv_iload hx hb dL_law_1155 (lv_at hl 1 rfl) ?_
  refine lv_if_ne (tgt := 1172) hx hb dL_law_1157 (by decide) (fun c_2 => ?_) (fun c_2 => ?_)
  · skip
    refine lv_goto (tgt := 1552) hx hb dL_law_1172 (by decide) ?_
    have hRR : Rl q5.1 v6 := by rw [hw5.2]; exact hq3
    exact K q5.1 v6 q5.2 _ _ _ hRR hP hD hS (lv_sub hl [2, 3, 4, 5, 6] rfl)
  · skip
    have hk0 := wk_0 (by decide) (hw5.1.symm.trans c_2)
    have hv0 := hq2 hk0
    refine lv_aload_n hx hb dL_law_1160 rfl (lv_at hl 5 rfl) ?_
    refine lv_iconst (v := 0) hx hb dL_law_1161 (by decide) ?_
    refine va_lald (f := q5.2) hx hb hK hP 47 2 (LW_at47 _ _ _ _ _ _ _) rfl (vp_in_iff.mpr (by decide)) dL_law_1162 ?_
    refine lv_iload hx hb dL_law_1163 (lv_at hl 0 rfl) ?_
    refine lv_i2l (v := r6.toInt64) hx hb dL_law_1165 rfl ?_
    refine W.lcmp hx hb dL_law_1166 ?_
    have ho : q5.2 (0 : Int32).toNatClampNeg = r6.toInt64 := by
      rw [hw5.2]; show (if (fX4_recall u (xs (x4 + 1).toNatClampNeg) (xs (x4 + 2).toNatClampNeg)).1 = 0 then vp_updL f (0 : Int32).toNatClampNeg (fX4_recall u (xs (x4 + 1).toNatClampNeg) (xs (x4 + 2).toNatClampNeg)).2.1.toInt64 else f) _ = r6.toInt64
      rw [if_pos hk0, pk_uLs, hv0]
    rw [ho, lg_self]
    refine lv_if_eq (tgt := 1172) hx hb dL_law_1167 (by decide) (fun _ => ?_) (fun c_4 => absurd rfl c_4)
    refine lv_goto (tgt := 1552) hx hb dL_law_1172 (by decide) ?_
    have hRR : Rl q5.1 v6 := by rw [hw5.2]; exact hq3
    exact K q5.1 v6 q5.2 _ _ _ hRR hP hD hS (lv_sub hl [2, 3, 4, 5, 6] rfl)
set_option maxHeartbeats 4000000 in
set_option maxRecDepth 100000 in
theorem lc_where {p : Program} {l : Launch} {e : Env} {s : State} {m : MethodId} {below : List Frame} {meth : Method} {c : Code} {b L : Nat} {xs : Nat → Int32} {dC : Nat → ClassId} {dI : Nat → Nat → Nat} {g : cG} {h h2 : Nat → Nat} {o : Nat} (X0 : lw_X p l s m meth c b L xs) (Rl : cS → mS → Prop) (hRc : ∀ (u : cS) (v : mS), Rl u v → cInv u) (hRm : ∀ (u : cS) (v : mS), Rl u v → mInv v) (hst : ∀ (u : cS) (v : mS) (x1 : Int32) (x2 : Int32), Rl u v → k_mcode (fX5_where v x1 x2).2 = wk [1, 2] (fX4_where u x1 x2).1 ∧ ((fX4_where u x1 x2).1 = 0 → (fX4_where u x1 x2).2.1 = (fX5_where v x1 x2).1) ∧ Rl (fX4_where u x1 x2).2.2 (fX5_where v x1 x2).2) (hL : L ≤ 2560) (hK : va_K (dC, dI) vwCl (cTys g) s) (j : Nat) (x4 : Int32) (hx4 : x4.toInt = 5 * (j : Int)) (hj : 5 * j + 5 ≤ L) (u : cS) (v : mS) (f : Nat → Int64) (hR : Rl u v) (H : Heap) (locs : List Loc) (hP : va_P (dC, dI) vwCl (LW g h h2 o u v f) H) (hD : va_D (fun q : Nat => s.heap.size ≤ q) (LW g h h2 o u v f)) (hS : va_S (fun q : Nat => s.heap.size ≤ q) s.heap H locs) (ls : Array Slot) (hl : lv_has ls 7 [(0, .ref b), (1, .ref (h 0)), (2, .ref (h2 0)), (3, .ref o), (4, .int x4)])
    (K : ∀ (u : cS) (v : mS) (f : Nat → Int64) (H : Heap) (locs : List Loc) (ls : Array Slot), Rl u v → va_P (dC, dI) vwCl (LW g h h2 o u v f) H → va_D (fun q : Nat => s.heap.size ≤ q) (LW g h h2 o u v f) → va_S (fun q : Nat => s.heap.size ≤ q) s.heap H locs → lv_has ls 7 [(0, .ref b), (1, .ref (h 0)), (2, .ref (h2 0)), (3, .ref o), (4, .int x4)] → W p l e room_1 s m #[Value.ref b] below meth c H locs (48 + (j + 1)) (9269 + 6 * (j + 1)) (lw_Z below #[Value.ref b] s) (F0 m 1552 ls [])) :
    W p l e room_1 s m #[Value.ref b] below meth c H locs (48 + j) (9269 + 6 * j) (lw_Z below #[Value.ref b] s) (F0 m 1175 ls []) := by
  obtain ⟨⟨hx, hb, hr, hml, hown, hts, hX, hbl, hlocks, hgv⟩, hl9, hZ, hN⟩ := X0
  have hA : ∀ q : Nat, s.heap.size ≤ q → (fun q : Nat => s.heap.size ≤ q) q := fun _ h => h
  have hbA : ¬ (fun q : Nat => s.heap.size ≤ q) b := Nat.not_le.mpr hbl
  have n1 : (1 : Int32).toInt = 1 := by decide
  have e1 := i_add (x := x4) (y := 1) (by omega) (by omega)
  have i1 : vp_in (x4 + 1) L := vp_in_iff.mpr (by omega)
  have n2 : (2 : Int32).toInt = 2 := by decide
  have e2 := i_add (x := x4) (y := 2) (by omega) (by omega)
  have i2 : vp_in (x4 + 2) L := vp_in_iff.mpr (by omega)
  have n3 : (3 : Int32).toInt = 3 := by decide
  have e3 := i_add (x := x4) (y := 3) (by omega) (by omega)
  have i3 : vp_in (x4 + 3) L := vp_in_iff.mpr (by omega)
  have n4 : (4 : Int32).toInt = 4 := by decide
  have e4 := i_add (x := x4) (y := 4) (by omega) (by omega)
  have i4 : vp_in (x4 + 4) L := vp_in_iff.mpr (by omega)
  refine lv_aload_n hx hb dL_law_1175 rfl (lv_at hl 1 rfl) ?_
  refine lv_aload_n hx hb dL_law_1176 rfl (lv_at hl 0 rfl) ?_
  refine lv_iload hx hb dL_law_1177 (lv_at hl 4 rfl) ?_
  refine lv_iconst (v := 1) hx hb dL_law_1179 (by decide) ?_
  refine lv_iadd hx hb dL_law_1180 ?_
  refine va_sld hx hb hX hbl hbA hS i1 dL_law_1181 ?_
  refine lv_aload_n hx hb dL_law_1182 rfl (lv_at hl 0 rfl) ?_
  refine lv_iload hx hb dL_law_1183 (lv_at hl 4 rfl) ?_
  refine lv_iconst (v := 2) hx hb dL_law_1185 (by decide) ?_
  refine lv_iadd hx hb dL_law_1186 ?_
  refine va_sld hx hb hX hbl hbA hS i2 dL_law_1187 ?_
  refine lv_aload_n hx hb dL_law_1188 rfl (lv_at hl 3 rfl) ?_
  have hPc := hP.sub (ws' := ow g h o u f) [0, 1, 2, 3, 4, 5, 6, 7, 8, 9, 10, 11, 12, 13, 14, 15, 16, 17, 18, 19, 20, 21, 22, 23, 47] rfl
  have hDc := hD.sub (ws' := ow g h o u f) [0, 1, 2, 3, 4, 5, 6, 7, 8, 9, 10, 11, 12, 13, 14, 15, 16, 17, 18, 19, 20, 21, 22, 23, 47] (by decide) rfl
  have hFc := va_free (wc := ow g h o u f) hD hS hA [0, 1, 2, 3, 4, 5, 6, 7, 8, 9, 10, 11, 12, 13, 14, 15, 16, 17, 18, 19, 20, 21, 22, 23, 47] rfl
  refine va_calli (vx_runSW (hh := [(0, 10, 13, 33), (0, 10, 17, 13)]) (As := [.ref (h 0), .int (xs (x4 + 1).toNatClampNeg), .int (xs (x4 + 2).toNatClampNeg), .ref o]) (rest := []) ⟨hx, hb, hml, hown, hts⟩ (kL_where l hl9 dC dI g h o u f _ (xs (x4 + 1).toNatClampNeg) (xs (x4 + 2).toNatClampNeg) (hRc u v hR)) (vx_cwSW 4 hts (lgT wd_535 wd_536 wd_420 wcL_where) rfl rfl rfl (by decide +kernel) ⟨(Nat.le_of_ble_eq_true rfl), (Nat.le_of_ble_eq_true rfl)⟩) ⟨fun a U g mk q => by obtain ⟨q0, q1, qP, qK, qD, qZ, qN⟩ := q; exact ⟨q0, q1, qP, va_K.moved (u := U) (U := U.calling g mk a) (Vm.Alike.refl U.vm) qK, qD, zz_same (u := U) (H := U.heap) rfl rfl qZ, nn_moved (u := U) (U := U.calling g mk a) (Vm.Alike.refl U.vm) qN⟩, fun U hU hW => ⟨rfl, by rw [hU], by rw [hU]; exact hPc, va_K.moved hW.alike hK, hDc.weaken (fun _ _ _ _ => trivial), by rw [hU]; exact zz_to hZ hS hFc hW, nn_moved hW.alike hN⟩⟩ rfl rfl hl.1 rfl (lv_room (Nat.le_of_ble_eq_true rfl)) dL_law_1189 ⟨by show 48 + j + 1 ≤ 1082; omega, by show 9269 + 6 * j + 6 ≤ 17521; omega⟩) hS (fun q _ h => hFc q h) hFc (fun r5 q5 t H1 locs ht hvm hw5 hB hz1 hk1 hS => ?_)
  obtain ⟨hP1, hD1⟩ := hB
  rw [ht] at hP1
  obtain ⟨hP, hD⟩ := va_join (wr := mw g h2 v) (w1 := ow g h o q5.1 q5.2) hP hD [0, 1, 2, 3, 4, 5, 6, 7, 8, 9, 10, 11, 12, 13, 14, 15, 16, 17, 18, 19, 20, 21, 22, 23, 47] [24, 25, 26, 27, 28, 29, 30, 31, 32, 33, 34, 35, 36, 37, 38, 39, 40, 41, 42, 43, 44, 45, 46] rfl rfl (by decide) (by decide) hk1 hFc hP1 hD1
  have hP := hP.sub (ws' := LW g h h2 o q5.1 v q5.2) [23, 24, 25, 26, 27, 28, 29, 30, 31, 32, 33, 34, 35, 36, 37, 38, 39, 40, 41, 42, 43, 44, 45, 46, 0, 1, 2, 3, 4, 5, 6, 7, 8, 9, 10, 11, 12, 13, 14, 15, 16, 17, 18, 19, 20, 21, 22, 47] rfl
  have hD := hD.sub (ws' := LW g h h2 o q5.1 v q5.2) [23, 24, 25, 26, 27, 28, 29, 30, 31, 32, 33, 34, 35, 36, 37, 38, 39, 40, 41, 42, 43, 44, 45, 46, 0, 1, 2, 3, 4, 5, 6, 7, 8, 9, 10, 11, 12, 13, 14, 15, 16, 17, 18, 19, 20, 21, 22, 47] (by decide) rfl
  refine W.widen (k := 48 + (j + 1)) (n := 9269 + 6 * (j + 1)) (by omega) (by omega) ?_
  refine lv_istore (lv' := [(5, .int r5), (0, .ref b), (1, .ref (h 0)), (2, .ref (h2 0)), (3, .ref o), (4, .int x4)]) hx hb dL_law_1192 hl (by decide) rfl (fun ls hl => ?_)
  refine lv_aload_n hx hb dL_law_1194 rfl (lv_at hl 3 rfl) ?_
  refine lv_aload_n hx hb dL_law_1195 rfl (lv_at hl 1 rfl) ?_
  refine lv_iload hx hb dL_law_1196 (lv_at hl 5 rfl) ?_
  refine lv_iconst (v := 1) hx hb dL_law_1198 (by decide) ?_
  refine lv_iadd hx hb dL_law_1199 ?_
  refine va_sld hx hb hX hbl hbA hS i1 dL_law_1200 ?_
  refine lv_aload_n hx hb dL_law_1201 rfl (lv_at hl 1 rfl) ?_
  refine lv_iload hx hb dL_law_1202 (lv_at hl 5 rfl) ?_
  refine lv_iconst (v := 2) hx hb dL_law_1204 (by decide) ?_
  refine lv_iadd hx hb dL_law_1205 ?_
  refine va_sld hx hb hX hbl hbA hS i2 dL_law_1206 ?_
  have hPc := hP.sub (ws' := mw g h2 v) [24, 25, 26, 27, 28, 29, 30, 31, 32, 33, 34, 35, 36, 37, 38, 39, 40, 41, 42, 43, 44, 45, 46] rfl
  have hDc := hD.sub (ws' := mw g h2 v) [24, 25, 26, 27, 28, 29, 30, 31, 32, 33, 34, 35, 36, 37, 38, 39, 40, 41, 42, 43, 44, 45, 46] (by decide) rfl
  have hFc := va_free (wc := mw g h2 v) hD hS hA [24, 25, 26, 27, 28, 29, 30, 31, 32, 33, 34, 35, 36, 37, 38, 39, 40, 41, 42, 43, 44, 45, 46] rfl
  refine va_calli (va_runV (As := [.int (xs (x4 + 1).toNatClampNeg), .int (xs (x4 + 2).toNatClampNeg)]) (rest := []) ⟨hx, hb, hml, hown, hts⟩ (kX5_where l dC dI g h2 v _ (xs (x4 + 1).toNatClampNeg) (xs (x4 + 2).toNatClampNeg) (hRm u v hR)) (cwV 2 hts (lgV wd_538 wd_539 wd_540 wd_241 wcX5_where) rfl rfl rfl (by decide +kernel) ⟨(Nat.le_of_ble_eq_true rfl), (Nat.le_of_ble_eq_true rfl)⟩) ⟨fun a U g mk q => by obtain ⟨q0, q1, qP, qK, qD⟩ := q; exact ⟨q0, q1, qP, va_K.moved (u := U) (U := U.calling g mk a) (Vm.Alike.refl U.vm) qK, qD⟩, va_recv hK hPc (ci := 4) (q0 := 0) rfl (mw_at0 _ _ _), fun U hU hW => ⟨rfl, by rw [hU], by rw [hU]; exact hPc, va_K.moved hW.alike hK, hDc.weaken (fun _ _ _ _ => trivial)⟩⟩ rfl rfl hl.1 rfl (lv_room (Nat.le_of_ble_eq_true rfl)) dL_law_1207 ⟨by show 48 + (j + 1) + 0 ≤ 1082; omega, by show 9269 + 6 * (j + 1) + 0 ≤ 17521; omega⟩) hS (fun q _ h => hFc q h) hFc (fun r6 v6 t H1 locs ht hvm hw6 hB hz1 hk1 hS => ?_)
  obtain ⟨hP1, hD1⟩ := hB
  rw [ht] at hP1
  obtain ⟨hP, hD⟩ := va_join (wr := ow g h o q5.1 q5.2) (w1 := mw g h2 v6) hP hD [24, 25, 26, 27, 28, 29, 30, 31, 32, 33, 34, 35, 36, 37, 38, 39, 40, 41, 42, 43, 44, 45, 46] [0, 1, 2, 3, 4, 5, 6, 7, 8, 9, 10, 11, 12, 13, 14, 15, 16, 17, 18, 19, 20, 21, 22, 23, 47] rfl rfl (by decide) (by decide) hk1 hFc hP1 hD1
  have hP := hP.sub (ws' := LW g h h2 o q5.1 v6 q5.2) [0, 1, 2, 3, 4, 5, 6, 7, 8, 9, 10, 11, 12, 13, 14, 15, 16, 17, 18, 19, 20, 21, 22, 23, 25, 26, 27, 28, 29, 30, 31, 32, 33, 34, 35, 36, 37, 38, 39, 40, 41, 42, 43, 44, 45, 46, 47, 24] rfl
  have hD := hD.sub (ws' := LW g h h2 o q5.1 v6 q5.2) [0, 1, 2, 3, 4, 5, 6, 7, 8, 9, 10, 11, 12, 13, 14, 15, 16, 17, 18, 19, 20, 21, 22, 23, 25, 26, 27, 28, 29, 30, 31, 32, 33, 34, 35, 36, 37, 38, 39, 40, 41, 42, 43, 44, 45, 46, 47, 24] (by decide) rfl
  have hq := hst u v (xs (x4 + 1).toNatClampNeg) (xs (x4 + 2).toNatClampNeg) hR
  rw [← hw6, ← hw5.1] at hq
  have hq1 := hq.1
  have hq2 := hq.2.1
  have hq3 := hq.2.2
  refine lv_istore (lv' := [(6, .int r6), (5, .int r5), (0, .ref b), (1, .ref (h 0)), (2, .ref (h2 0)), (3, .ref o), (4, .int x4)]) hx hb dL_law_1210 hl (by decide) rfl (fun ls hl => ?_)
  refine lv_aload_n hx hb dL_law_1212 rfl (lv_at hl 4 rfl) ?_
  have hPc := hP.sub (ws' := mw g h2 v6) [24, 25, 26, 27, 28, 29, 30, 31, 32, 33, 34, 35, 36, 37, 38, 39, 40, 41, 42, 43, 44, 45, 46] rfl
  refine vp_callSi (W.runV (As := []) (rest := []) ⟨hx, hb, hml, hown, hts⟩ (kX5_thrown l dC dI g h2 v6) (cwV 0 hts (lgV wd_426 wd_427 wd_428 wd_241 wcX5_thrown) rfl rfl rfl (by decide +kernel) ⟨(Nat.le_of_ble_eq_true rfl), (Nat.le_of_ble_eq_true rfl)⟩) ⟨fun a U g mk q => by obtain ⟨q0, qP, qK⟩ := q; exact ⟨q0, qP, va_K.moved (u := U) (U := U.calling g mk a) (Vm.Alike.refl U.vm) qK⟩, va_recv hK hPc (ci := 4) (q0 := 0) rfl (mw_at0 _ _ _), fun U hU hW => ⟨rfl, by rw [hU]; exact hPc, va_K.moved hW.alike hK⟩⟩ rfl rfl hl.1 rfl (lv_room (Nat.le_of_ble_eq_true rfl)) dL_law_1213 ⟨by show 48 + (j + 1) + 0 ≤ 1082; omega, by show 9269 + 6 * (j + 1) + 0 ≤ 17521; omega⟩) (fun r7 hw7 => ?_)
  refine lv_iload hx hb dL_law_1216 (lv_at hl 1 rfl) ?_
  refine lv_icmp_eq (tgt := 1223) hx hb dL_law_1218 (by decide) (fun c_1 => ?_) (fun c_1 => absurd (hw7.trans hq1) c_1)
  refine lv_iload hx hb dL_law_1223 (lv_at hl 1 rfl) ?_
  refine lv_if_ne (tgt := 1240) hx hb dL_law_1225 (by decide) (fun c_2 => ?_) (fun c_2 => ?_)
  · skip
    refine lv_goto (tgt := 1552) hx hb dL_law_1240 (by decide) ?_
    have hRR : Rl q5.1 v6 := by rw [hw5.2]; exact hq3
    exact K q5.1 v6 q5.2 _ _ _ hRR hP hD hS (lv_sub hl [2, 3, 4, 5, 6] rfl)
  · skip
    have hk0 := wk_0 (by decide) (hw5.1.symm.trans c_2)
    have hv0 := hq2 hk0
    refine lv_aload_n hx hb dL_law_1228 rfl (lv_at hl 5 rfl) ?_
    refine lv_iconst (v := 0) hx hb dL_law_1229 (by decide) ?_
    refine va_lald (f := q5.2) hx hb hK hP 47 2 (LW_at47 _ _ _ _ _ _ _) rfl (vp_in_iff.mpr (by decide)) dL_law_1230 ?_
    refine lv_iload hx hb dL_law_1231 (lv_at hl 0 rfl) ?_
    refine lv_i2l (v := r6.toInt64) hx hb dL_law_1233 rfl ?_
    refine W.lcmp hx hb dL_law_1234 ?_
    have ho : q5.2 (0 : Int32).toNatClampNeg = r6.toInt64 := by
      rw [hw5.2]; show (if (fX4_where u (xs (x4 + 1).toNatClampNeg) (xs (x4 + 2).toNatClampNeg)).1 = 0 then vp_updL f (0 : Int32).toNatClampNeg (fX4_where u (xs (x4 + 1).toNatClampNeg) (xs (x4 + 2).toNatClampNeg)).2.1.toInt64 else f) _ = r6.toInt64
      rw [if_pos hk0, pk_uLs, hv0]
    rw [ho, lg_self]
    refine lv_if_eq (tgt := 1240) hx hb dL_law_1235 (by decide) (fun _ => ?_) (fun c_4 => absurd rfl c_4)
    refine lv_goto (tgt := 1552) hx hb dL_law_1240 (by decide) ?_
    have hRR : Rl q5.1 v6 := by rw [hw5.2]; exact hq3
    exact K q5.1 v6 q5.2 _ _ _ hRR hP hD hS (lv_sub hl [2, 3, 4, 5, 6] rfl)
set_option maxHeartbeats 4000000 in
set_option maxRecDepth 100000 in
theorem lc_history {p : Program} {l : Launch} {e : Env} {s : State} {m : MethodId} {below : List Frame} {meth : Method} {c : Code} {b L : Nat} {xs : Nat → Int32} {dC : Nat → ClassId} {dI : Nat → Nat → Nat} {g : cG} {h h2 : Nat → Nat} {o : Nat} (X0 : lw_X p l s m meth c b L xs) (Rl : cS → mS → Prop) (hRc : ∀ (u : cS) (v : mS), Rl u v → cInv u) (hRm : ∀ (u : cS) (v : mS), Rl u v → mInv v) (hst : ∀ (u : cS) (v : mS) (x1 : Int32) (x2 : Int32) (x3 : Int32), Rl u v → k_mcode (fX5_history v x1 x2 x3).2 = wk [1, 2] (fX4_history u x1 x2 x3).1 ∧ ((fX4_history u x1 x2 x3).1 = 0 → (fX4_history u x1 x2 x3).2.1 = (fX5_history v x1 x2 x3).1) ∧ Rl (fX4_history u x1 x2 x3).2.2 (fX5_history v x1 x2 x3).2) (hL : L ≤ 2560) (hK : va_K (dC, dI) vwCl (cTys g) s) (j : Nat) (x4 : Int32) (hx4 : x4.toInt = 5 * (j : Int)) (hj : 5 * j + 5 ≤ L) (u : cS) (v : mS) (f : Nat → Int64) (hR : Rl u v) (H : Heap) (locs : List Loc) (hP : va_P (dC, dI) vwCl (LW g h h2 o u v f) H) (hD : va_D (fun q : Nat => s.heap.size ≤ q) (LW g h h2 o u v f)) (hS : va_S (fun q : Nat => s.heap.size ≤ q) s.heap H locs) (ls : Array Slot) (hl : lv_has ls 7 [(0, .ref b), (1, .ref (h 0)), (2, .ref (h2 0)), (3, .ref o), (4, .int x4)])
    (K : ∀ (u : cS) (v : mS) (f : Nat → Int64) (H : Heap) (locs : List Loc) (ls : Array Slot), Rl u v → va_P (dC, dI) vwCl (LW g h h2 o u v f) H → va_D (fun q : Nat => s.heap.size ≤ q) (LW g h h2 o u v f) → va_S (fun q : Nat => s.heap.size ≤ q) s.heap H locs → lv_has ls 7 [(0, .ref b), (1, .ref (h 0)), (2, .ref (h2 0)), (3, .ref o), (4, .int x4)] → W p l e room_1 s m #[Value.ref b] below meth c H locs (48 + (j + 1)) (9269 + 6 * (j + 1)) (lw_Z below #[Value.ref b] s) (F0 m 1552 ls [])) :
    W p l e room_1 s m #[Value.ref b] below meth c H locs (48 + j) (9269 + 6 * j) (lw_Z below #[Value.ref b] s) (F0 m 1243 ls []) := by
  obtain ⟨⟨hx, hb, hr, hml, hown, hts, hX, hbl, hlocks, hgv⟩, hl9, hZ, hN⟩ := X0
  have hA : ∀ q : Nat, s.heap.size ≤ q → (fun q : Nat => s.heap.size ≤ q) q := fun _ h => h
  have hbA : ¬ (fun q : Nat => s.heap.size ≤ q) b := Nat.not_le.mpr hbl
  have n1 : (1 : Int32).toInt = 1 := by decide
  have e1 := i_add (x := x4) (y := 1) (by omega) (by omega)
  have i1 : vp_in (x4 + 1) L := vp_in_iff.mpr (by omega)
  have n2 : (2 : Int32).toInt = 2 := by decide
  have e2 := i_add (x := x4) (y := 2) (by omega) (by omega)
  have i2 : vp_in (x4 + 2) L := vp_in_iff.mpr (by omega)
  have n3 : (3 : Int32).toInt = 3 := by decide
  have e3 := i_add (x := x4) (y := 3) (by omega) (by omega)
  have i3 : vp_in (x4 + 3) L := vp_in_iff.mpr (by omega)
  have n4 : (4 : Int32).toInt = 4 := by decide
  have e4 := i_add (x := x4) (y := 4) (by omega) (by omega)
  have i4 : vp_in (x4 + 4) L := vp_in_iff.mpr (by omega)
  refine lv_aload_n hx hb dL_law_1243 rfl (lv_at hl 1 rfl) ?_
  refine lv_aload_n hx hb dL_law_1244 rfl (lv_at hl 0 rfl) ?_
  refine lv_iload hx hb dL_law_1245 (lv_at hl 4 rfl) ?_
  refine lv_iconst (v := 1) hx hb dL_law_1247 (by decide) ?_
  refine lv_iadd hx hb dL_law_1248 ?_
  refine va_sld hx hb hX hbl hbA hS i1 dL_law_1249 ?_
  refine lv_aload_n hx hb dL_law_1250 rfl (lv_at hl 0 rfl) ?_
  refine lv_iload hx hb dL_law_1251 (lv_at hl 4 rfl) ?_
  refine lv_iconst (v := 2) hx hb dL_law_1253 (by decide) ?_
  refine lv_iadd hx hb dL_law_1254 ?_
  refine va_sld hx hb hX hbl hbA hS i2 dL_law_1255 ?_
  refine lv_aload_n hx hb dL_law_1256 rfl (lv_at hl 0 rfl) ?_
  refine lv_iload hx hb dL_law_1257 (lv_at hl 4 rfl) ?_
  refine lv_iconst (v := 3) hx hb dL_law_1259 (by decide) ?_
  refine lv_iadd hx hb dL_law_1260 ?_
  refine va_sld hx hb hX hbl hbA hS i3 dL_law_1261 ?_
  refine lv_aload_n hx hb dL_law_1262 rfl (lv_at hl 3 rfl) ?_
  have hPc := hP.sub (ws' := ow g h o u f) [0, 1, 2, 3, 4, 5, 6, 7, 8, 9, 10, 11, 12, 13, 14, 15, 16, 17, 18, 19, 20, 21, 22, 23, 47] rfl
  have hDc := hD.sub (ws' := ow g h o u f) [0, 1, 2, 3, 4, 5, 6, 7, 8, 9, 10, 11, 12, 13, 14, 15, 16, 17, 18, 19, 20, 21, 22, 23, 47] (by decide) rfl
  have hFc := va_free (wc := ow g h o u f) hD hS hA [0, 1, 2, 3, 4, 5, 6, 7, 8, 9, 10, 11, 12, 13, 14, 15, 16, 17, 18, 19, 20, 21, 22, 23, 47] rfl
  refine va_calli (vx_runSW (hh := [(0, 12, 15, 33), (0, 12, 19, 13)]) (As := [.ref (h 0), .int (xs (x4 + 1).toNatClampNeg), .int (xs (x4 + 2).toNatClampNeg), .int (xs (x4 + 3).toNatClampNeg), .ref o]) (rest := []) ⟨hx, hb, hml, hown, hts⟩ (kL_history l hl9 dC dI g h o u f _ (xs (x4 + 1).toNatClampNeg) (xs (x4 + 2).toNatClampNeg) (xs (x4 + 3).toNatClampNeg) (hRc u v hR)) (vx_cwSW 5 hts (lgT wd_542 wd_543 wd_420 wcL_history) rfl rfl rfl (by decide +kernel) ⟨(Nat.le_of_ble_eq_true rfl), (Nat.le_of_ble_eq_true rfl)⟩) ⟨fun a U g mk q => by obtain ⟨q0, q1, qP, qK, qD, qZ, qN⟩ := q; exact ⟨q0, q1, qP, va_K.moved (u := U) (U := U.calling g mk a) (Vm.Alike.refl U.vm) qK, qD, zz_same (u := U) (H := U.heap) rfl rfl qZ, nn_moved (u := U) (U := U.calling g mk a) (Vm.Alike.refl U.vm) qN⟩, fun U hU hW => ⟨rfl, by rw [hU], by rw [hU]; exact hPc, va_K.moved hW.alike hK, hDc.weaken (fun _ _ _ _ => trivial), by rw [hU]; exact zz_to hZ hS hFc hW, nn_moved hW.alike hN⟩⟩ rfl rfl hl.1 rfl (lv_room (Nat.le_of_ble_eq_true rfl)) dL_law_1263 ⟨by show 48 + j + 1 ≤ 1082; omega, by show 9269 + 6 * j + 6 ≤ 17521; omega⟩) hS (fun q _ h => hFc q h) hFc (fun r5 q5 t H1 locs ht hvm hw5 hB hz1 hk1 hS => ?_)
  obtain ⟨hP1, hD1⟩ := hB
  rw [ht] at hP1
  obtain ⟨hP, hD⟩ := va_join (wr := mw g h2 v) (w1 := ow g h o q5.1 q5.2) hP hD [0, 1, 2, 3, 4, 5, 6, 7, 8, 9, 10, 11, 12, 13, 14, 15, 16, 17, 18, 19, 20, 21, 22, 23, 47] [24, 25, 26, 27, 28, 29, 30, 31, 32, 33, 34, 35, 36, 37, 38, 39, 40, 41, 42, 43, 44, 45, 46] rfl rfl (by decide) (by decide) hk1 hFc hP1 hD1
  have hP := hP.sub (ws' := LW g h h2 o q5.1 v q5.2) [23, 24, 25, 26, 27, 28, 29, 30, 31, 32, 33, 34, 35, 36, 37, 38, 39, 40, 41, 42, 43, 44, 45, 46, 0, 1, 2, 3, 4, 5, 6, 7, 8, 9, 10, 11, 12, 13, 14, 15, 16, 17, 18, 19, 20, 21, 22, 47] rfl
  have hD := hD.sub (ws' := LW g h h2 o q5.1 v q5.2) [23, 24, 25, 26, 27, 28, 29, 30, 31, 32, 33, 34, 35, 36, 37, 38, 39, 40, 41, 42, 43, 44, 45, 46, 0, 1, 2, 3, 4, 5, 6, 7, 8, 9, 10, 11, 12, 13, 14, 15, 16, 17, 18, 19, 20, 21, 22, 47] (by decide) rfl
  refine W.widen (k := 48 + (j + 1)) (n := 9269 + 6 * (j + 1)) (by omega) (by omega) ?_
  refine lv_istore (lv' := [(5, .int r5), (0, .ref b), (1, .ref (h 0)), (2, .ref (h2 0)), (3, .ref o), (4, .int x4)]) hx hb dL_law_1266 hl (by decide) rfl (fun ls hl => ?_)
  refine lv_aload_n hx hb dL_law_1268 rfl (lv_at hl 3 rfl) ?_
  refine lv_aload_n hx hb dL_law_1269 rfl (lv_at hl 1 rfl) ?_
  refine lv_iload hx hb dL_law_1270 (lv_at hl 5 rfl) ?_
  refine lv_iconst (v := 1) hx hb dL_law_1272 (by decide) ?_
  refine lv_iadd hx hb dL_law_1273 ?_
  refine va_sld hx hb hX hbl hbA hS i1 dL_law_1274 ?_
  refine lv_aload_n hx hb dL_law_1275 rfl (lv_at hl 1 rfl) ?_
  refine lv_iload hx hb dL_law_1276 (lv_at hl 5 rfl) ?_
  refine lv_iconst (v := 2) hx hb dL_law_1278 (by decide) ?_
  refine lv_iadd hx hb dL_law_1279 ?_
  refine va_sld hx hb hX hbl hbA hS i2 dL_law_1280 ?_
  refine lv_aload_n hx hb dL_law_1281 rfl (lv_at hl 1 rfl) ?_
  refine lv_iload hx hb dL_law_1282 (lv_at hl 5 rfl) ?_
  refine lv_iconst (v := 3) hx hb dL_law_1284 (by decide) ?_
  refine lv_iadd hx hb dL_law_1285 ?_
  refine va_sld hx hb hX hbl hbA hS i3 dL_law_1286 ?_
  have hPc := hP.sub (ws' := mw g h2 v) [24, 25, 26, 27, 28, 29, 30, 31, 32, 33, 34, 35, 36, 37, 38, 39, 40, 41, 42, 43, 44, 45, 46] rfl
  have hDc := hD.sub (ws' := mw g h2 v) [24, 25, 26, 27, 28, 29, 30, 31, 32, 33, 34, 35, 36, 37, 38, 39, 40, 41, 42, 43, 44, 45, 46] (by decide) rfl
  have hFc := va_free (wc := mw g h2 v) hD hS hA [24, 25, 26, 27, 28, 29, 30, 31, 32, 33, 34, 35, 36, 37, 38, 39, 40, 41, 42, 43, 44, 45, 46] rfl
  refine va_calli (va_runV (As := [.int (xs (x4 + 1).toNatClampNeg), .int (xs (x4 + 2).toNatClampNeg), .int (xs (x4 + 3).toNatClampNeg)]) (rest := []) ⟨hx, hb, hml, hown, hts⟩ (kX5_history l dC dI g h2 v _ (xs (x4 + 1).toNatClampNeg) (xs (x4 + 2).toNatClampNeg) (xs (x4 + 3).toNatClampNeg) (hRm u v hR)) (cwV 3 hts (lgV wd_545 wd_546 wd_547 wd_241 wcX5_history) rfl rfl rfl (by decide +kernel) ⟨(Nat.le_of_ble_eq_true rfl), (Nat.le_of_ble_eq_true rfl)⟩) ⟨fun a U g mk q => by obtain ⟨q0, q1, qP, qK, qD⟩ := q; exact ⟨q0, q1, qP, va_K.moved (u := U) (U := U.calling g mk a) (Vm.Alike.refl U.vm) qK, qD⟩, va_recv hK hPc (ci := 4) (q0 := 0) rfl (mw_at0 _ _ _), fun U hU hW => ⟨rfl, by rw [hU], by rw [hU]; exact hPc, va_K.moved hW.alike hK, hDc.weaken (fun _ _ _ _ => trivial)⟩⟩ rfl rfl hl.1 rfl (lv_room (Nat.le_of_ble_eq_true rfl)) dL_law_1287 ⟨by show 48 + (j + 1) + 0 ≤ 1082; omega, by show 9269 + 6 * (j + 1) + 0 ≤ 17521; omega⟩) hS (fun q _ h => hFc q h) hFc (fun r6 v6 t H1 locs ht hvm hw6 hB hz1 hk1 hS => ?_)
  obtain ⟨hP1, hD1⟩ := hB
  rw [ht] at hP1
  obtain ⟨hP, hD⟩ := va_join (wr := ow g h o q5.1 q5.2) (w1 := mw g h2 v6) hP hD [24, 25, 26, 27, 28, 29, 30, 31, 32, 33, 34, 35, 36, 37, 38, 39, 40, 41, 42, 43, 44, 45, 46] [0, 1, 2, 3, 4, 5, 6, 7, 8, 9, 10, 11, 12, 13, 14, 15, 16, 17, 18, 19, 20, 21, 22, 23, 47] rfl rfl (by decide) (by decide) hk1 hFc hP1 hD1
  have hP := hP.sub (ws' := LW g h h2 o q5.1 v6 q5.2) [0, 1, 2, 3, 4, 5, 6, 7, 8, 9, 10, 11, 12, 13, 14, 15, 16, 17, 18, 19, 20, 21, 22, 23, 25, 26, 27, 28, 29, 30, 31, 32, 33, 34, 35, 36, 37, 38, 39, 40, 41, 42, 43, 44, 45, 46, 47, 24] rfl
  have hD := hD.sub (ws' := LW g h h2 o q5.1 v6 q5.2) [0, 1, 2, 3, 4, 5, 6, 7, 8, 9, 10, 11, 12, 13, 14, 15, 16, 17, 18, 19, 20, 21, 22, 23, 25, 26, 27, 28, 29, 30, 31, 32, 33, 34, 35, 36, 37, 38, 39, 40, 41, 42, 43, 44, 45, 46, 47, 24] (by decide) rfl
  have hq := hst u v (xs (x4 + 1).toNatClampNeg) (xs (x4 + 2).toNatClampNeg) (xs (x4 + 3).toNatClampNeg) hR
  rw [← hw6, ← hw5.1] at hq
  have hq1 := hq.1
  have hq2 := hq.2.1
  have hq3 := hq.2.2
  refine lv_istore (lv' := [(6, .int r6), (5, .int r5), (0, .ref b), (1, .ref (h 0)), (2, .ref (h2 0)), (3, .ref o), (4, .int x4)]) hx hb dL_law_1290 hl (by decide) rfl (fun ls hl => ?_)
  refine lv_aload_n hx hb dL_law_1292 rfl (lv_at hl 4 rfl) ?_
  have hPc := hP.sub (ws' := mw g h2 v6) [24, 25, 26, 27, 28, 29, 30, 31, 32, 33, 34, 35, 36, 37, 38, 39, 40, 41, 42, 43, 44, 45, 46] rfl
  refine vp_callSi (W.runV (As := []) (rest := []) ⟨hx, hb, hml, hown, hts⟩ (kX5_thrown l dC dI g h2 v6) (cwV 0 hts (lgV wd_426 wd_427 wd_428 wd_241 wcX5_thrown) rfl rfl rfl (by decide +kernel) ⟨(Nat.le_of_ble_eq_true rfl), (Nat.le_of_ble_eq_true rfl)⟩) ⟨fun a U g mk q => by obtain ⟨q0, qP, qK⟩ := q; exact ⟨q0, qP, va_K.moved (u := U) (U := U.calling g mk a) (Vm.Alike.refl U.vm) qK⟩, va_recv hK hPc (ci := 4) (q0 := 0) rfl (mw_at0 _ _ _), fun U hU hW => ⟨rfl, by rw [hU]; exact hPc, va_K.moved hW.alike hK⟩⟩ rfl rfl hl.1 rfl (lv_room (Nat.le_of_ble_eq_true rfl)) dL_law_1293 ⟨by show 48 + (j + 1) + 0 ≤ 1082; omega, by show 9269 + 6 * (j + 1) + 0 ≤ 17521; omega⟩) (fun r7 hw7 => ?_)
  refine lv_iload hx hb dL_law_1296 (lv_at hl 1 rfl) ?_
  refine lv_icmp_eq (tgt := 1303) hx hb dL_law_1298 (by decide) (fun c_1 => ?_) (fun c_1 => absurd (hw7.trans hq1) c_1)
  refine lv_iload hx hb dL_law_1303 (lv_at hl 1 rfl) ?_
  refine lv_if_ne (tgt := 1320) hx hb dL_law_1305 (by decide) (fun c_2 => ?_) (fun c_2 => ?_)
  · skip
    refine lv_goto (tgt := 1552) hx hb dL_law_1320 (by decide) ?_
    have hRR : Rl q5.1 v6 := by rw [hw5.2]; exact hq3
    exact K q5.1 v6 q5.2 _ _ _ hRR hP hD hS (lv_sub hl [2, 3, 4, 5, 6] rfl)
  · skip
    have hk0 := wk_0 (by decide) (hw5.1.symm.trans c_2)
    have hv0 := hq2 hk0
    refine lv_aload_n hx hb dL_law_1308 rfl (lv_at hl 5 rfl) ?_
    refine lv_iconst (v := 0) hx hb dL_law_1309 (by decide) ?_
    refine va_lald (f := q5.2) hx hb hK hP 47 2 (LW_at47 _ _ _ _ _ _ _) rfl (vp_in_iff.mpr (by decide)) dL_law_1310 ?_
    refine lv_iload hx hb dL_law_1311 (lv_at hl 0 rfl) ?_
    refine lv_i2l (v := r6.toInt64) hx hb dL_law_1313 rfl ?_
    refine W.lcmp hx hb dL_law_1314 ?_
    have ho : q5.2 (0 : Int32).toNatClampNeg = r6.toInt64 := by
      rw [hw5.2]; show (if (fX4_history u (xs (x4 + 1).toNatClampNeg) (xs (x4 + 2).toNatClampNeg) (xs (x4 + 3).toNatClampNeg)).1 = 0 then vp_updL f (0 : Int32).toNatClampNeg (fX4_history u (xs (x4 + 1).toNatClampNeg) (xs (x4 + 2).toNatClampNeg) (xs (x4 + 3).toNatClampNeg)).2.1.toInt64 else f) _ = r6.toInt64
      rw [if_pos hk0, pk_uLs, hv0]
    rw [ho, lg_self]
    refine lv_if_eq (tgt := 1320) hx hb dL_law_1315 (by decide) (fun _ => ?_) (fun c_4 => absurd rfl c_4)
    refine lv_goto (tgt := 1552) hx hb dL_law_1320 (by decide) ?_
    have hRR : Rl q5.1 v6 := by rw [hw5.2]; exact hq3
    exact K q5.1 v6 q5.2 _ _ _ hRR hP hD hS (lv_sub hl [2, 3, 4, 5, 6] rfl)