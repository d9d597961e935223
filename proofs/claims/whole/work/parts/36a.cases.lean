set_option maxHeartbeats 4000000 in
set_option maxRecDepth 100000 in
theorem lc_lot {p : Program} {l : Launch} {e : Env} {s : State} {m : MethodId} {below : List Frame} {meth : Method} {c : Code} {b L : Nat} {xs : Nat → Int32} {dC : Nat → ClassId} {dI : Nat → Nat → Nat} {g : cG} {h h2 : Nat → Nat} {o : Nat} (X0 : lw_X p l s m meth c b L xs) (Rl : cS → mS → Prop) (hRc : ∀ (u : cS) (v : mS), Rl u v → cInv u) (hRm : ∀ (u : cS) (v : mS), Rl u v → mInv v) (hst : ∀ (u : cS) (v : mS) (x1 : Int32) (x2 : Int32) (x3 : Int32) (x4 : Int32), Rl u v → k_mcode (fX5_lot v x1 x2 x3 x4).2 = wk [2, 4] (fX4_lot u x1 x2 x3 x4).1 ∧ ((fX4_lot u x1 x2 x3 x4).1 = 0 → (fX4_lot u x1 x2 x3 x4).2.1 = (fX5_lot v x1 x2 x3 x4).1) ∧ Rl (fX4_lot u x1 x2 x3 x4).2.2 (fX5_lot v x1 x2 x3 x4).2) (hL : L ≤ 2560) (hK : va_K (dC, dI) vwCl (cTys g) s) (j : Nat) (x4 : Int32) (hx4 : x4.toInt = 5 * (j : Int)) (hj : 5 * j + 5 ≤ L) (u : cS) (v : mS) (f : Nat → Int64) (hR : Rl u v) (H : Heap) (locs : List Loc) (hP : va_P (dC, dI) vwCl (LW g h h2 o u v f) H) (hD : va_D (fun q : Nat => s.heap.size ≤ q) (LW g h h2 o u v f)) (hS : va_S (fun q : Nat => s.heap.size ≤ q) s.heap H locs) (ls : Array Slot) (hl : lv_has ls 7 [(0, .ref b), (1, .ref (h 0)), (2, .ref (h2 0)), (3, .ref o), (4, .int x4)])
    (K : ∀ (u : cS) (v : mS) (f : Nat → Int64) (H : Heap) (locs : List Loc) (ls : Array Slot), Rl u v → va_P (dC, dI) vwCl (LW g h h2 o u v f) H → va_D (fun q : Nat => s.heap.size ≤ q) (LW g h h2 o u v f) → va_S (fun q : Nat => s.heap.size ≤ q) s.heap H locs → lv_has ls 7 [(0, .ref b), (1, .ref (h 0)), (2, .ref (h2 0)), (3, .ref o), (4, .int x4)] → W p l e room_1 s m #[Value.ref b] below meth c H locs (48 + (j + 1)) (9269 + 6 * (j + 1)) (lw_Z below #[Value.ref b] s) (F0 m 1552 ls [])) :
    W p l e room_1 s m #[Value.ref b] below meth c H locs (48 + j) (9269 + 6 * j) (lw_Z below #[Value.ref b] s) (F0 m 140 ls []) := by
  obtain ⟨⟨hx, hb, hr, hml, hown, hts, hX, hbl, hlocks, hgv⟩, hl9, hZ, hN⟩ := X0
  have hA : ∀ q : Nat, s.heap.size ≤ q → (fun q : Nat => s.heap.size ≤ q) q := fun _ h => h
  have hbA : ¬ (fun q : Nat => s.heap.size ≤ q) b := Nat.not_le.mpr hbl
  have n1 : (1 : Int32).toInt = 1 := by decide
  have e1 := i_add (x := x4) (y := 1) (by omega) (by omega)
  have i1 : vp_in (x4 + 1) L := vp_in_iff.mpr (by omega)
  have n2 : (2 : Int32).toInt = 2 := by decide
  have e2 := i_add (x := x4) (y := 2) (by omega) (by omega)
  have i2 : vp_in (x4 + 2) L := vp_in_iff.mpr (by omega)
  have n3 : (3 : Int32).toInt = 3 := by decide
  have e3 := i_add (x := x4) (y := 3) (by omega) (by omega)
  have i3 : vp_in (x4 + 3) L := vp_in_iff.mpr (by omega)
  have n4 : (4 : Int32).toInt = 4 := by decide
  have e4 := i_add (x := x4) (y := 4) (by omega) (by omega)
  have i4 : vp_in (x4 + 4) L := vp_in_iff.mpr (by omega)
  refine lv_aload_n hx hb dL_law_140 rfl (lv_at hl 1 rfl) ?_
  refine lv_aload_n hx hb dL_law_141 rfl (lv_at hl 0 rfl) ?_
  refine lv_iload hx hb dL_law_142 (lv_at hl 4 rfl) ?_
  refine lv_iconst (v := 1) hx hb dL_law_144 (by decide) ?_
  refine lv_iadd hx hb dL_law_145 ?_
  refine va_sld hx hb hX hbl hbA hS i1 dL_law_146 ?_
  refine lv_aload_n hx hb dL_law_147 rfl (lv_at hl 0 rfl) ?_
  refine lv_iload hx hb dL_law_148 (lv_at hl 4 rfl) ?_
  refine lv_iconst (v := 2) hx hb dL_law_150 (by decide) ?_
  refine lv_iadd hx hb dL_law_151 ?_
  refine va_sld hx hb hX hbl hbA hS i2 dL_law_152 ?_
  refine lv_aload_n hx hb dL_law_153 rfl (lv_at hl 0 rfl) ?_
  refine lv_iload hx hb dL_law_154 (lv_at hl 4 rfl) ?_
  refine lv_iconst (v := 3) hx hb dL_law_156 (by decide) ?_
  refine lv_iadd hx hb dL_law_157 ?_
  refine va_sld hx hb hX hbl hbA hS i3 dL_law_158 ?_
  refine lv_aload_n hx hb dL_law_159 rfl (lv_at hl 0 rfl) ?_
  refine lv_iload hx hb dL_law_160 (lv_at hl 4 rfl) ?_
  refine lv_iconst (v := 4) hx hb dL_law_162 (by decide) ?_
  refine lv_iadd hx hb dL_law_163 ?_
  refine va_sld hx hb hX hbl hbA hS i4 dL_law_164 ?_
  refine lv_aload_n hx hb dL_law_165 rfl (lv_at hl 3 rfl) ?_
  have hPc := hP.sub (ws' := ow g h o u f) [0, 1, 2, 3, 4, 5, 6, 7, 8, 9, 10, 11, 12, 13, 14, 15, 16, 17, 18, 19, 20, 21, 22, 23, 47] rfl
  have hDc := hD.sub (ws' := ow g h o u f) [0, 1, 2, 3, 4, 5, 6, 7, 8, 9, 10, 11, 12, 13, 14, 15, 16, 17, 18, 19, 20, 21, 22, 23, 47] (by decide) rfl
  have hFc := va_free (wc := ow g h o u f) hD hS hA [0, 1, 2, 3, 4, 5, 6, 7, 8, 9, 10, 11, 12, 13, 14, 15, 16, 17, 18, 19, 20, 21, 22, 23, 47] rfl
  refine va_calli (vx_runSW (hh := [(0, 14, 17, 13), (0, 14, 21, 15)]) (As := [.ref (h 0), .int (xs (x4 + 1).toNatClampNeg), .int (xs (x4 + 2).toNatClampNeg), .int (xs (x4 + 3).toNatClampNeg), .int (xs (x4 + 4).toNatClampNeg), .ref o]) (rest := []) ⟨hx, hb, hml, hown, hts⟩ (kL_lot l hl9 dC dI g h o u f _ (xs (x4 + 1).toNatClampNeg) (xs (x4 + 2).toNatClampNeg) (xs (x4 + 3).toNatClampNeg) (xs (x4 + 4).toNatClampNeg) (hRc u v hR)) (vx_cwSW 6 hts (lgT wd_418 wd_419 wd_420 wcL_lot) rfl rfl rfl (by decide +kernel) ⟨(Nat.le_of_ble_eq_true rfl), (Nat.le_of_ble_eq_true rfl)⟩) ⟨fun a U g mk q => by obtain ⟨q0, q1, qP, qK, qD, qZ, qN⟩ := q; exact ⟨q0, q1, qP, va_K.moved (u := U) (U := U.calling g mk a) (Vm.Alike.refl U.vm) qK, qD, zz_same (u := U) (H := U.heap) rfl rfl qZ, nn_moved (u := U) (U := U.calling g mk a) (Vm.Alike.refl U.vm) qN⟩, fun U hU hW => ⟨rfl, by rw [hU], by rw [hU]; exact hPc, va_K.moved hW.alike hK, hDc.weaken (fun _ _ _ _ => trivial), by rw [hU]; exact zz_to hZ hS hFc hW, nn_moved hW.alike hN⟩⟩ rfl rfl hl.1 rfl (lv_room (Nat.le_of_ble_eq_true rfl)) dL_law_166 ⟨by show 48 + j + 1 ≤ 1082; omega, by show 9269 + 6 * j + 6 ≤ 17521; omega⟩) hS (fun q _ h => hFc q h) hFc (fun r5 q5 t H1 locs ht hvm hw5 hB hz1 hk1 hS => ?_)
  obtain ⟨hP1, hD1⟩ := hB
  rw [ht] at hP1
  obtain ⟨hP, hD⟩ := va_join (wr := mw g h2 v) (w1 := ow g h o q5.1 q5.2) hP hD [0, 1, 2, 3, 4, 5, 6, 7, 8, 9, 10, 11, 12, 13, 14, 15, 16, 17, 18, 19, 20, 21, 22, 23, 47] [24, 25, 26, 27, 28, 29, 30, 31, 32, 33, 34, 35, 36, 37, 38, 39, 40, 41, 42, 43, 44, 45, 46] rfl rfl (by decide) (by decide) hk1 hFc hP1 hD1
  have hP := hP.sub (ws' := LW g h h2 o q5.1 v q5.2) [23, 24, 25, 26, 27, 28, 29, 30, 31, 32, 33, 34, 35, 36, 37, 38, 39, 40, 41, 42, 43, 44, 45, 46, 0, 1, 2, 3, 4, 5, 6, 7, 8, 9, 10, 11, 12, 13, 14, 15, 16, 17, 18, 19, 20, 21, 22, 47] rfl
  have hD := hD.sub (ws' := LW g h h2 o q5.1 v q5.2) [23, 24, 25, 26, 27, 28, 29, 30, 31, 32, 33, 34, 35, 36, 37, 38, 39, 40, 41, 42, 43, 44, 45, 46, 0, 1, 2, 3, 4, 5, 6, 7, 8, 9, 10, 11, 12, 13, 14, 15, 16, 17, 18, 19, 20, 21, 22, 47] (by decide) rfl
  refine W.widen (k := 48 + (j + 1)) (n := 9269 + 6 * (j + 1)) (by omega) (by omega) ?_
  refine lv_istore (lv' := [(5, .int r5), (0, .ref b), (1, .ref (h 0)), (2, .ref (h2 0)), (3, .ref o), (4, .int x4)]) hx hb dL_law_169 hl (by decide) rfl (fun ls hl => ?_)
  refine lv_aload_n hx hb dL_law_171 rfl (lv_at hl 3 rfl) ?_
  refine lv_aload_n hx hb dL_law_172 rfl (lv_at hl 1 rfl) ?_
  refine lv_iload hx hb dL_law_173 (lv_at hl 5 rfl) ?_
  refine lv_iconst (v := 1) hx hb dL_law_175 (by decide) ?_
  refine lv_iadd hx hb dL_law_176 ?_
  refine va_sld hx hb hX hbl hbA hS i1 dL_law_177 ?_
  refine lv_aload_n hx hb dL_law_178 rfl (lv_at hl 1 rfl) ?_
  refine lv_iload hx hb dL_law_179 (lv_at hl 5 rfl) ?_
  refine lv_iconst (v := 2) hx hb dL_law_181 (by decide) ?_
  refine lv_iadd hx hb dL_law_182 ?_
  refine va_sld hx hb hX hbl hbA hS i2 dL_law_183 ?_
  refine lv_aload_n hx hb dL_law_184 rfl (lv_at hl 1 rfl) ?_
  refine lv_iload hx hb dL_law_185 (lv_at hl 5 rfl) ?_
  refine lv_iconst (v := 3) hx hb dL_law_187 (by decide) ?_
  refine lv_iadd hx hb dL_law_188 ?_
  refine va_sld hx hb hX hbl hbA hS i3 dL_law_189 ?_
  refine lv_aload_n hx hb dL_law_190 rfl (lv_at hl 1 rfl) ?_
  refine lv_iload hx hb dL_law_191 (lv_at hl 5 rfl) ?_
  refine lv_iconst (v := 4) hx hb dL_law_193 (by decide) ?_
  refine lv_iadd hx hb dL_law_194 ?_
  refine va_sld hx hb hX hbl hbA hS i4 dL_law_195 ?_
  have hPc := hP.sub (ws' := mw g h2 v) [24, 25, 26, 27, 28, 29, 30, 31, 32, 33, 34, 35, 36, 37, 38, 39, 40, 41, 42, 43, 44, 45, 46] rfl
  have hDc := hD.sub (ws' := mw g h2 v) [24, 25, 26, 27, 28, 29, 30, 31, 32, 33, 34, 35, 36, 37, 38, 39, 40, 41, 42, 43, 44, 45, 46] (by decide) rfl
  have hFc := va_free (wc := mw g h2 v) hD hS hA [24, 25, 26, 27, 28, 29, 30, 31, 32, 33, 34, 35, 36, 37, 38, 39, 40, 41, 42, 43, 44, 45, 46] rfl
  refine va_calli (va_runV (As := [.int (xs (x4 + 1).toNatClampNeg), .int (xs (x4 + 2).toNatClampNeg), .int (xs (x4 + 3).toNatClampNeg), .int (xs (x4 + 4).toNatClampNeg)]) (rest := []) ⟨hx, hb, hml, hown, hts⟩ (kX5_lot l dC dI g h2 v _ (xs (x4 + 1).toNatClampNeg) (xs (x4 + 2).toNatClampNeg) (xs (x4 + 3).toNatClampNeg) (xs (x4 + 4).toNatClampNeg) (hRm u v hR)) (cwV 4 hts (lgV wd_422 wd_423 wd_424 wd_241 wcX5_lot) rfl rfl rfl (by decide +kernel) ⟨(Nat.le_of_ble_eq_true rfl), (Nat.le_of_ble_eq_true rfl)⟩) ⟨fun a U g mk q => by obtain ⟨q0, q1, qP, qK, qD⟩ := q; exact ⟨q0, q1, qP, va_K.moved (u := U) (U := U.calling g mk a) (Vm.Alike.refl U.vm) qK, qD⟩, va_recv hK hPc (ci := 4) (q0 := 0) rfl (mw_at0 _ _ _), fun U hU hW => ⟨rfl, by rw [hU], by rw [hU]; exact hPc, va_K.moved hW.alike hK, hDc.weaken (fun _ _ _ _ => trivial)⟩⟩ rfl rfl hl.1 rfl (lv_room (Nat.le_of_ble_eq_true rfl)) dL_law_196 ⟨by show 48 + (j + 1) + 0 ≤ 1082; omega, by show 9269 + 6 * (j + 1) + 0 ≤ 17521; omega⟩) hS (fun q _ h => hFc q h) hFc (fun r6 v6 t H1 locs ht hvm hw6 hB hz1 hk1 hS => ?_)
  obtain ⟨hP1, hD1⟩ := hB
  rw [ht] at hP1
  obtain ⟨hP, hD⟩ := va_join (wr := ow g h o q5.1 q5.2) (w1 := mw g h2 v6) hP hD [24, 25, 26, 27, 28, 29, 30, 31, 32, 33, 34, 35, 36, 37, 38, 39, 40, 41, 42, 43, 44, 45, 46] [0, 1, 2, 3, 4, 5, 6, 7, 8, 9, 10, 11, 12, 13, 14, 15, 16, 17, 18, 19, 20, 21, 22, 23, 47] rfl rfl (by decide) (by decide) hk1 hFc hP1 hD1
  have hP := hP.sub (ws' := LW g h h2 o q5.1 v6 q5.2) [0, 1, 2, 3, 4, 5, 6, 7, 8, 9, 10, 11, 12, 13, 14, 15, 16, 17, 18, 19, 20, 21, 22, 23, 25, 26, 27, 28, 29, 30, 31, 32, 33, 34, 35, 36, 37, 38, 39, 40, 41, 42, 43, 44, 45, 46, 47, 24] rfl
  have hD := hD.sub (ws' := LW g h h2 o q5.1 v6 q5.2) [0, 1, 2, 3, 4, 5, 6, 7, 8, 9, 10, 11, 12, 13, 14, 15, 16, 17, 18, 19, 20, 21, 22, 23, 25, 26, 27, 28, 29, 30, 31, 32, 33, 34, 35, 36, 37, 38, 39, 40, 41, 42, 43, 44, 45, 46, 47, 24] (by decide) rfl
  have hq := hst u v (xs (x4 + 1).toNatClampNeg) (xs (x4 + 2).toNatClampNeg) (xs (x4 + 3).toNatClampNeg) (xs (x4 + 4).toNatClampNeg) hR
  rw [← hw6, ← hw5.1] at hq
  have hq1 := hq.1
  have hq2 := hq.2.1
  have hq3 := hq.2.2
  refine lv_istore (lv' := [(6, .int r6), (5, .int r5), (0, .ref b), (1, .ref (h 0)), (2, .ref (h2 0)), (3, .ref o), (4, .int x4)]) hx hb dL_law_199 hl (by decide) rfl (fun ls hl => ?_)
  refine lv_aload_n hx hb dL_law_201 rfl (lv_at hl 4 rfl) ?_
  have hPc := hP.sub (ws' := mw g h2 v6) [24, 25, 26, 27, 28, 29, 30, 31, 32, 33, 34, 35, 36, 37, 38, 39, 40, 41, 42, 43, 44, 45, 46] rfl
  refine vp_callSi (W.runV (As := []) (rest := []) ⟨hx, hb, hml, hown, hts⟩ (kX5_thrown l dC dI g h2 v6) (cwV 0 hts (lgV wd_426 wd_427 wd_428 wd_241 wcX5_thrown) rfl rfl rfl (by decide +kernel) ⟨(Nat.le_of_ble_eq_true rfl), (Nat.le_of_ble_eq_true rfl)⟩) ⟨fun a U g mk q => by obtain ⟨q0, qP, qK⟩ := q; exact ⟨q0, qP, va_K.moved (u := U) (U := U.calling g mk a) (Vm.Alike.refl U.vm) qK⟩, va_recv hK hPc (ci := 4) (q0 := 0) rfl (mw_at0 _ _ _), fun U hU hW => ⟨rfl, by rw [hU]; exact hPc, va_K.moved hW.alike hK⟩⟩ rfl rfl hl.1 rfl (lv_room (Nat.le_of_ble_eq_true rfl)) dL_law_202 ⟨by show 48 + (j + 1) + 0 ≤ 1082; omega, by show 9269 + 6 * (j + 1) + 0 ≤ 17521; omega⟩) (fun r7 hw7 => ?_)
  refine lv_iload hx hb dL_law_205 (lv_at hl 1 rfl) ?_
  refine lv_icmp_eq (tgt := 212) hx hb dL_law_207 (by decide) (fun c_1 => ?_) (fun c_1 => absurd (hw7.trans hq1) c_1)
  refine lv_iload hx hb dL_law_212 (lv_at hl 1 rfl) ?_
  refine lv_if_ne (tgt := 229) hx hb dL_law_214 (by decide) (fun c_2 => ?_) (fun c_2 => ?_)
  · skip
    refine lv_goto (tgt := 1552) hx hb dL_law_229 (by decide) ?_
    have hRR : Rl q5.1 v6 := by rw [hw5.2]; exact hq3
    exact K q5.1 v6 q5.2 _ _ _ hRR hP hD hS (lv_sub hl [2, 3, 4, 5, 6] rfl)
  · skip
    have hk0 := wk_0 (by decide) (hw5.1.symm.trans c_2)
    have hv0 := hq2 hk0
    refine lv_aload_n hx hb dL_law_217 rfl (lv_at hl 5 rfl) ?_
    refine lv_iconst (v := 0) hx hb dL_law_218 (by decide) ?_
    refine va_lald (f := q5.2) hx hb hK hP 47 2 (LW_at47 _ _ _ _ _ _ _) rfl (vp_in_iff.mpr (by decide)) dL_law_219 ?_
    refine lv_iload hx hb dL_law_220 (lv_at hl 0 rfl) ?_
    refine lv_i2l (v := r6.toInt64) hx hb dL_law_222 rfl ?_
    refine W.lcmp hx hb dL_law_223 ?_
    have ho : q5.2 (0 : Int32).toNatClampNeg = r6.toInt64 := by
      rw [hw5.2]; show (if (fX4_lot u (xs (x4 + 1).toNatClampNeg) (xs (x4 + 2).toNatClampNeg) (xs (x4 + 3).toNatClampNeg) (xs (x4 + 4).toNatClampNeg)).1 = 0 then vp_updL f (0 : Int32).toNatClampNeg (fX4_lot u (xs (x4 + 1).toNatClampNeg) (xs (x4 + 2).toNatClampNeg) (xs (x4 + 3).toNatClampNeg) (xs (x4 + 4).toNatClampNeg)).2.1.toInt64 else f) _ = r6.toInt64
      rw [if_pos hk0, pk_uLs, hv0]
    rw [ho, lg_self]
    refine lv_if_eq (tgt := 229) hx hb dL_law_224 (by decide) (fun _ => ?_) (fun c_4 => absurd rfl c_4)
    refine lv_goto (tgt := 1552) hx hb dL_law_229 (by decide) ?_
    have hRR : Rl q5.1 v6 := by rw [hw5.2]; exact hq3
    exact K q5.1 v6 q5.2 _ _ _ hRR hP hD hS (lv_sub hl [2, 3, 4, 5, 6] rfl)
set_option maxHeartbeats 4000000 in
set_option maxRecDepth 100000 in
theorem lc_rule {p : Program} {l : Launch} {e : Env} {s : State} {m : MethodId} {below : List Frame} {meth : Method} {c : Code} {b L : Nat} {xs : Nat → Int32} {dC : Nat → ClassId} {dI : Nat → Nat → Nat} {g : cG} {h h2 : Nat → Nat} {o : Nat} (X0 : lw_X p l s m meth c b L xs) (Rl : cS → mS → Prop) (hRc : ∀ (u : cS) (v : mS), Rl u v → cInv u) (hRm : ∀ (u : cS) (v : mS), Rl u v → mInv v) (hst : ∀ (u : cS) (v : mS) (x1 : Int32) (x2 : Int32) (x3 : Int32), Rl u v → k_mcode (fX5_rule v x1 x2 x3) = wk [2] (fX4_rule u x1 x2 x3).1 ∧ Rl (fX4_rule u x1 x2 x3).2.2 (fX5_rule v x1 x2 x3)) (hL : L ≤ 2560) (hK : va_K (dC, dI) vwCl (cTys g) s) (j : Nat) (x4 : Int32) (hx4 : x4.toInt = 5 * (j : Int)) (hj : 5 * j + 5 ≤ L) (u : cS) (v : mS) (f : Nat → Int64) (hR : Rl u v) (H : Heap) (locs : List Loc) (hP : va_P (dC, dI) vwCl (LW g h h2 o u v f) H) (hD : va_D (fun q : Nat => s.heap.size ≤ q) (LW g h h2 o u v f)) (hS : va_S (fun q : Nat => s.heap.size ≤ q) s.heap H locs) (ls : Array Slot) (hl : lv_has ls 7 [(0, .ref b), (1, .ref (h 0)), (2, .ref (h2 0)), (3, .ref o), (4, .int x4)])
    (K : ∀ (u : cS) (v : mS) (f : Nat → Int64) (H : Heap) (locs : List Loc) (ls : Array Slot), Rl u v → va_P (dC, dI) vwCl (LW g h h2 o u v f) H → va_D (fun q : Nat => s.heap.size ≤ q) (LW g h h2 o u v f) → va_S (fun q : Nat => s.heap.size ≤ q) s.heap H locs → lv_has ls 7 [(0, .ref b), (1, .ref (h 0)), (2, .ref (h2 0)), (3, .ref o), (4, .int x4)] → W p l e room_1 s m #[Value.ref b] below meth c H locs (48 + (j + 1)) (9269 + 6 * (j + 1)) (lw_Z below #[Value.ref b] s) (F0 m 1552 ls [])) :
    W p l e room_1 s m #[Value.ref b] below meth c H locs (48 + j) (9269 + 6 * j) (lw_Z below #[Value.ref b] s) (F0 m 232 ls []) := by
  obtain ⟨⟨hx, hb, hr, hml, hown, hts, hX, hbl, hlocks, hgv⟩, hl9, hZ, hN⟩ := X0
  have hA : ∀ q : Nat, s.heap.size ≤ q → (fun q : Nat => s.heap.size ≤ q) q := fun _ h => h
  have hbA : ¬ (fun q : Nat => s.heap.size ≤ q) b := Nat.not_le.mpr hbl
  have n1 : (1 : Int32).toInt = 1 := by decide
  have e1 := i_add (x := x4) (y := 1) (by omega) (by omega)
  have i1 : vp_in (x4 + 1) L := vp_in_iff.mpr (by omega)
  have n2 : (2 : Int32).toInt = 2 := by decide
  have e2 := i_add (x := x4) (y := 2) (by omega) (by omega)
  have i2 : vp_in (x4 + 2) L := vp_in_iff.mpr (by omega)
  have n3 : (3 : Int32).toInt = 3 := by decide
  have e3 := i_add (x := x4) (y := 3) (by omega) (by omega)
  have i3 : vp_in (x4 + 3) L := vp_in_iff.mpr (by omega)
  have n4 : (4 : Int32).toInt = 4 := by decide
  have e4 := i_add (x := x4) (y := 4) (by omega) (by omega)
  have i4 : vp_in (x4 + 4) L := vp_in_iff.mpr (by omega)
  refine lv_aload_n hx hb dL_law_232 rfl (lv_at hl 1 rfl) ?_
  refine lv_aload_n hx hb dL_law_233 rfl (lv_at hl 0 rfl) ?_
  refine lv_iload hx hb dL_law_234 (lv_at hl 4 rfl) ?_
  refine lv_iconst (v := 1) hx hb dL_law_236 (by decide) ?_
  refine lv_iadd hx hb dL_law_237 ?_
  refine va_sld hx hb hX hbl hbA hS i1 dL_law_238 ?_
  refine lv_aload_n hx hb dL_law_239 rfl (lv_at hl 0 rfl) ?_
  refine lv_iload hx hb dL_law_240 (lv_at hl 4 rfl) ?_
  refine lv_iconst (v := 2) hx hb dL_law_242 (by decide) ?_
  refine lv_iadd hx hb dL_law_243 ?_
  refine va_sld hx hb hX hbl hbA hS i2 dL_law_244 ?_
  refine lv_aload_n hx hb dL_law_245 rfl (lv_at hl 0 rfl) ?_
  refine lv_iload hx hb dL_law_246 (lv_at hl 4 rfl) ?_
  refine lv_iconst (v := 3) hx hb dL_law_248 (by decide) ?_
  refine lv_iadd hx hb dL_law_249 ?_
  refine va_sld hx hb hX hbl hbA hS i3 dL_law_250 ?_
  have hPc := hP.sub (ws' := cw g h u) [0, 1, 2, 3, 4, 5, 6, 7, 8, 9, 10, 11, 12, 13, 14, 15, 16, 17, 18, 19, 20, 21, 22, 23] rfl
  have hDc := hD.sub (ws' := cw g h u) [0, 1, 2, 3, 4, 5, 6, 7, 8, 9, 10, 11, 12, 13, 14, 15, 16, 17, 18, 19, 20, 21, 22, 23] (by decide) rfl
  have hFc := va_free (wc := cw g h u) hD hS hA [0, 1, 2, 3, 4, 5, 6, 7, 8, 9, 10, 11, 12, 13, 14, 15, 16, 17, 18, 19, 20, 21, 22, 23] rfl
  refine va_calli (vx_runSW (hh := [(0, 7, 10, 13)]) (As := [.ref (h 0), .int (xs (x4 + 1).toNatClampNeg), .int (xs (x4 + 2).toNatClampNeg), .int (xs (x4 + 3).toNatClampNeg)]) (rest := []) ⟨hx, hb, hml, hown, hts⟩ (kL_rule l hl9 dC dI g h u _ (xs (x4 + 1).toNatClampNeg) (xs (x4 + 2).toNatClampNeg) (xs (x4 + 3).toNatClampNeg) (hRc u v hR)) (vx_cwSW 4 hts (lgT wd_430 wd_431 wd_420 wcL_rule) rfl rfl rfl (by decide +kernel) ⟨(Nat.le_of_ble_eq_true rfl), (Nat.le_of_ble_eq_true rfl)⟩) ⟨fun a U g mk q => by obtain ⟨q0, q1, qP, qK, qD, qZ, qN⟩ := q; exact ⟨q0, q1, qP, va_K.moved (u := U) (U := U.calling g mk a) (Vm.Alike.refl U.vm) qK, qD, zz_same (u := U) (H := U.heap) rfl rfl qZ, nn_moved (u := U) (U := U.calling g mk a) (Vm.Alike.refl U.vm) qN⟩, fun U hU hW => ⟨rfl, by rw [hU], by rw [hU]; exact hPc, va_K.moved hW.alike hK, hDc.weaken (fun _ _ _ _ => trivial), by rw [hU]; exact zz_to hZ hS hFc hW, nn_moved hW.alike hN⟩⟩ rfl rfl hl.1 rfl (lv_room (Nat.le_of_ble_eq_true rfl)) dL_law_251 ⟨by show 48 + j + 1 ≤ 1082; omega, by show 9269 + 6 * j + 6 ≤ 17521; omega⟩) hS (fun q _ h => hFc q h) hFc (fun r5 q5 t H1 locs ht hvm hw5 hB hz1 hk1 hS => ?_)
  obtain ⟨hP1, hD1⟩ := hB
  rw [ht] at hP1
  obtain ⟨hP, hD⟩ := va_join (wr := mw g h2 v ++ [(o, .inl (g.2.2, 1, .inr (.inl f)))]) (w1 := cw g h q5) hP hD [0, 1, 2, 3, 4, 5, 6, 7, 8, 9, 10, 11, 12, 13, 14, 15, 16, 17, 18, 19, 20, 21, 22, 23] [24, 25, 26, 27, 28, 29, 30, 31, 32, 33, 34, 35, 36, 37, 38, 39, 40, 41, 42, 43, 44, 45, 46, 47] rfl rfl (by decide) (by decide) hk1 hFc hP1 hD1
  have hP := hP.sub (ws' := LW g h h2 o q5 v f) [24, 25, 26, 27, 28, 29, 30, 31, 32, 33, 34, 35, 36, 37, 38, 39, 40, 41, 42, 43, 44, 45, 46, 47, 0, 1, 2, 3, 4, 5, 6, 7, 8, 9, 10, 11, 12, 13, 14, 15, 16, 17, 18, 19, 20, 21, 22, 23] rfl
  have hD := hD.sub (ws' := LW g h h2 o q5 v f) [24, 25, 26, 27, 28, 29, 30, 31, 32, 33, 34, 35, 36, 37, 38, 39, 40, 41, 42, 43, 44, 45, 46, 47, 0, 1, 2, 3, 4, 5, 6, 7, 8, 9, 10, 11, 12, 13, 14, 15, 16, 17, 18, 19, 20, 21, 22, 23] (by decide) rfl
  refine W.widen (k := 48 + (j + 1)) (n := 9269 + 6 * (j + 1)) (by omega) (by omega) ?_
  refine lv_istore (lv' := [(5, .int r5), (0, .ref b), (1, .ref (h 0)), (2, .ref (h2 0)), (3, .ref o), (4, .int x4)]) hx hb dL_law_254 hl (by decide) rfl (fun ls hl => ?_)
  refine lv_aload_n hx hb dL_law_256 rfl (lv_at hl 3 rfl) ?_
  refine lv_aload_n hx hb dL_law_257 rfl (lv_at hl 1 rfl) ?_
  refine lv_iload hx hb dL_law_258 (lv_at hl 5 rfl) ?_
  refine lv_iconst (v := 1) hx hb dL_law_260 (by decide) ?_
  refine lv_iadd hx hb dL_law_261 ?_
  refine va_sld hx hb hX hbl hbA hS i1 dL_law_262 ?_
  refine lv_aload_n hx hb dL_law_263 rfl (lv_at hl 1 rfl) ?_
  refine lv_iload hx hb dL_law_264 (lv_at hl 5 rfl) ?_
  refine lv_iconst (v := 2) hx hb dL_law_266 (by decide) ?_
  refine lv_iadd hx hb dL_law_267 ?_
  refine va_sld hx hb hX hbl hbA hS i2 dL_law_268 ?_
  refine lv_aload_n hx hb dL_law_269 rfl (lv_at hl 1 rfl) ?_
  refine lv_iload hx hb dL_law_270 (lv_at hl 5 rfl) ?_
  refine lv_iconst (v := 3) hx hb dL_law_272 (by decide) ?_
  refine lv_iadd hx hb dL_law_273 ?_
  refine va_sld hx hb hX hbl hbA hS i3 dL_law_274 ?_
  have hPc := hP.sub (ws' := mw g h2 v) [24, 25, 26, 27, 28, 29, 30, 31, 32, 33, 34, 35, 36, 37, 38, 39, 40, 41, 42, 43, 44, 45, 46] rfl
  have hDc := hD.sub (ws' := mw g h2 v) [24, 25, 26, 27, 28, 29, 30, 31, 32, 33, 34, 35, 36, 37, 38, 39, 40, 41, 42, 43, 44, 45, 46] (by decide) rfl
  have hFc := va_free (wc := mw g h2 v) hD hS hA [24, 25, 26, 27, 28, 29, 30, 31, 32, 33, 34, 35, 36, 37, 38, 39, 40, 41, 42, 43, 44, 45, 46] rfl
  refine va_callv (va_runV (As := [.int (xs (x4 + 1).toNatClampNeg), .int (xs (x4 + 2).toNatClampNeg), .int (xs (x4 + 3).toNatClampNeg)]) (rest := []) ⟨hx, hb, hml, hown, hts⟩ (kX5_rule l dC dI g h2 v _ (xs (x4 + 1).toNatClampNeg) (xs (x4 + 2).toNatClampNeg) (xs (x4 + 3).toNatClampNeg) (hRm u v hR)) (cwV 3 hts (lgV wd_433 wd_434 wd_435 wd_241 wcX5_rule) rfl rfl rfl (by decide +kernel) ⟨(Nat.le_of_ble_eq_true rfl), (Nat.le_of_ble_eq_true rfl)⟩) ⟨fun a U g mk q => by obtain ⟨q0, q1, qP, qK, qD⟩ := q; exact ⟨q0, q1, qP, va_K.moved (u := U) (U := U.calling g mk a) (Vm.Alike.refl U.vm) qK, qD⟩, va_recv hK hPc (ci := 4) (q0 := 0) rfl (mw_at0 _ _ _), fun U hU hW => ⟨rfl, by rw [hU], by rw [hU]; exact hPc, va_K.moved hW.alike hK, hDc.weaken (fun _ _ _ _ => trivial)⟩⟩ rfl rfl hl.1 rfl (lv_room (Nat.le_of_ble_eq_true rfl)) dL_law_275 ⟨by show 48 + (j + 1) + 0 ≤ 1082; omega, by show 9269 + 6 * (j + 1) + 0 ≤ 17521; omega⟩) hS (fun q _ h => hFc q h) hFc (fun v6 t H1 locs ht hvm hw6 hB hz1 hk1 hS => ?_)
  obtain ⟨hP1, hD1⟩ := hB
  rw [ht] at hP1
  obtain ⟨hP, hD⟩ := va_join (wr := ow g h o q5 f) (w1 := mw g h2 v6) hP hD [24, 25, 26, 27, 28, 29, 30, 31, 32, 33, 34, 35, 36, 37, 38, 39, 40, 41, 42, 43, 44, 45, 46] [0, 1, 2, 3, 4, 5, 6, 7, 8, 9, 10, 11, 12, 13, 14, 15, 16, 17, 18, 19, 20, 21, 22, 23, 47] rfl rfl (by decide) (by decide) hk1 hFc hP1 hD1
  have hP := hP.sub (ws' := LW g h h2 o q5 v6 f) [0, 1, 2, 3, 4, 5, 6, 7, 8, 9, 10, 11, 12, 13, 14, 15, 16, 17, 18, 19, 20, 21, 22, 23, 25, 26, 27, 28, 29, 30, 31, 32, 33, 34, 35, 36, 37, 38, 39, 40, 41, 42, 43, 44, 45, 46, 47, 24] rfl
  have hD := hD.sub (ws' := LW g h h2 o q5 v6 f) [0, 1, 2, 3, 4, 5, 6, 7, 8, 9, 10, 11, 12, 13, 14, 15, 16, 17, 18, 19, 20, 21, 22, 23, 25, 26, 27, 28, 29, 30, 31, 32, 33, 34, 35, 36, 37, 38, 39, 40, 41, 42, 43, 44, 45, 46, 47, 24] (by decide) rfl
  have hq := hst u v (xs (x4 + 1).toNatClampNeg) (xs (x4 + 2).toNatClampNeg) (xs (x4 + 3).toNatClampNeg) hR
  rw [← hw6, ← hw5.1] at hq
  have hq1 := hq.1
  have hq3 := hq.2
  refine lv_aload_n hx hb dL_law_278 rfl (lv_at hl 3 rfl) ?_
  have hPc := hP.sub (ws' := mw g h2 v6) [24, 25, 26, 27, 28, 29, 30, 31, 32, 33, 34, 35, 36, 37, 38, 39, 40, 41, 42, 43, 44, 45, 46] rfl
  refine vp_callSi (W.runV (As := []) (rest := []) ⟨hx, hb, hml, hown, hts⟩ (kX5_thrown l dC dI g h2 v6) (cwV 0 hts (lgV wd_426 wd_427 wd_428 wd_241 wcX5_thrown) rfl rfl rfl (by decide +kernel) ⟨(Nat.le_of_ble_eq_true rfl), (Nat.le_of_ble_eq_true rfl)⟩) ⟨fun a U g mk q => by obtain ⟨q0, qP, qK⟩ := q; exact ⟨q0, qP, va_K.moved (u := U) (U := U.calling g mk a) (Vm.Alike.refl U.vm) qK⟩, va_recv hK hPc (ci := 4) (q0 := 0) rfl (mw_at0 _ _ _), fun U hU hW => ⟨rfl, by rw [hU]; exact hPc, va_K.moved hW.alike hK⟩⟩ rfl rfl hl.1 rfl (lv_room (Nat.le_of_ble_eq_true rfl)) dL_law_279 ⟨by show 48 + (j + 1) + 0 ≤ 1082; omega, by show 9269 + 6 * (j + 1) + 0 ≤ 17521; omega⟩) (fun r7 hw7 => ?_)
  refine lv_iload hx hb dL_law_282 (lv_at hl 0 rfl) ?_
  refine lv_icmp_eq (tgt := 289) hx hb dL_law_284 (by decide) (fun c_1 => ?_) (fun c_1 => absurd (hw7.trans hq1) c_1)
  refine lv_goto (tgt := 1552) hx hb dL_law_289 (by decide) ?_
  have hRR : Rl q5 v6 := by rw [hw5.2]; exact hq3
  exact K q5 v6 f _ _ _ hRR hP hD hS (lv_sub hl [1, 2, 3, 4, 5] rfl)
set_option maxHeartbeats 4000000 in
set_option maxRecDepth 100000 in
theorem lc_wants {p : Program} {l : Launch} {e : Env} {s : State} {m : MethodId} {below : List Frame} {meth : Method} {c : Code} {b L : Nat} {xs : Nat → Int32} {dC : Nat → ClassId} {dI : Nat → Nat → Nat} {g : cG} {h h2 : Nat → Nat} {o : Nat} (X0 : lw_X p l s m meth c b L xs) (Rl : cS → mS → Prop) (hRc : ∀ (u : cS) (v : mS), Rl u v → cInv u) (hRm : ∀ (u : cS) (v : mS), Rl u v → mInv v) (hst : ∀ (u : cS) (v : mS) (x1 : Int32) (x2 : Int32), Rl u v → k_mcode (fX5_wants v x1 x2) = wk [2] (fX4_wants u x1 x2).1 ∧ Rl (fX4_wants u x1 x2).2.2 (fX5_wants v x1 x2)) (hL : L ≤ 2560) (hK : va_K (dC, dI) vwCl (cTys g) s) (j : Nat) (x4 : Int32) (hx4 : x4.toInt = 5 * (j : Int)) (hj : 5 * j + 5 ≤ L) (u : cS) (v : mS) (f : Nat → Int64) (hR : Rl u v) (H : Heap) (locs : List Loc) (hP : va_P (dC, dI) vwCl (LW g h h2 o u v f) H) (hD : va_D (fun q : Nat => s.heap.size ≤ q) (LW g h h2 o u v f)) (hS : va_S (fun q : Nat => s.heap.size ≤ q) s.heap H locs) (ls : Array Slot) (hl : lv_has ls 7 [(0, .ref b), (1, .ref (h 0)), (2, .ref (h2 0)), (3, .ref o), (4, .int x4)])
    (K : ∀ (u : cS) (v : mS) (f : Nat → Int64) (H : Heap) (locs : List Loc) (ls : Array Slot), Rl u v → va_P (dC, dI) vwCl (LW g h h2 o u v f) H → va_D (fun q : Nat => s.heap.size ≤ q) (LW g h h2 o u v f) → va_S (fun q : Nat => s.heap.size ≤ q) s.heap H locs → lv_has ls 7 [(0, .ref b), (1, .ref (h 0)), (2, .ref (h2 0)), (3, .ref o), (4, .int x4)] → W p l e room_1 s m #[Value.ref b] below meth c H locs (48 + (j + 1)) (9269 + 6 * (j + 1)) (lw_Z below #[Value.ref b] s) (F0 m 1552 ls [])) :
    W p l e room_1 s m #[Value.ref b] below meth c H locs (48 + j) (9269 + 6 * j) (lw_Z below #[Value.ref b] s) (F0 m 292 ls []) := by
  obtain ⟨⟨hx, hb, hr, hml, hown, hts, hX, hbl, hlocks, hgv⟩, hl9, hZ, hN⟩ := X0
  have hA : ∀ q : Nat, s.heap.size ≤ q → (fun q : Nat => s.heap.size ≤ q) q := fun _ h => h
  have hbA : ¬ (fun q : Nat => s.heap.size ≤ q) b := Nat.not_le.mpr hbl
  have n1 : (1 : Int32).toInt = 1 := by decide
  have e1 := i_add (x := x4) (y := 1) (by omega) (by omega)
  have i1 : vp_in (x4 + 1) L := vp_in_iff.mpr (by omega)
  have n2 : (2 : Int32).toInt = 2 := by decide
  have e2 := i_add (x := x4) (y := 2) (by omega) (by omega)
  have i2 : vp_in (x4 + 2) L := vp_in_iff.mpr (by omega)
  have n3 : (3 : Int32).toInt = 3 := by decide
  have e3 := i_add (x := x4) (y := 3) (by omega) (by omega)
  have i3 : vp_in (x4 + 3) L := vp_in_iff.mpr (by omega)
  have n4 : (4 : Int32).toInt = 4 := by decide
  have e4 := i_add (x := x4) (y := 4) (by omega) (by omega)
  have i4 : vp_in (x4 + 4) L := vp_in_iff.mpr (by omega)
  refine lv_aload_n hx hb dL_law_292 rfl (lv_at hl 1 rfl) ?_
  refine lv_aload_n hx hb dL_law_293 rfl (lv_at hl 0 rfl) ?_
  refine lv_iload hx hb dL_law_294 (lv_at hl 4 rfl) ?_
  refine lv_iconst (v := 1) hx hb dL_law_296 (by decide) ?_
  refine lv_iadd hx hb dL_law_297 ?_
  refine va_sld hx hb hX hbl hbA hS i1 dL_law_298 ?_
  refine lv_aload_n hx hb dL_law_299 rfl (lv_at hl 0 rfl) ?_
  refine lv_iload hx hb dL_law_300 (lv_at hl 4 rfl) ?_
  refine lv_iconst (v := 2) hx hb dL_law_302 (by decide) ?_
  refine lv_iadd hx hb dL_law_303 ?_
  refine va_sld hx hb hX hbl hbA hS i2 dL_law_304 ?_
  have hPc := hP.sub (ws' := cw g h u) [0, 1, 2, 3, 4, 5, 6, 7, 8, 9, 10, 11, 12, 13, 14, 15, 16, 17, 18, 19, 20, 21, 22, 23] rfl
  have hDc := hD.sub (ws' := cw g h u) [0, 1, 2, 3, 4, 5, 6, 7, 8, 9, 10, 11, 12, 13, 14, 15, 16, 17, 18, 19, 20, 21, 22, 23] (by decide) rfl
  have hFc := va_free (wc := cw g h u) hD hS hA [0, 1, 2, 3, 4, 5, 6, 7, 8, 9, 10, 11, 12, 13, 14, 15, 16, 17, 18, 19, 20, 21, 22, 23] rfl
  refine va_calli (vx_runSW (hh := [(0, 6, 9, 13)]) (As := [.ref (h 0), .int (xs (x4 + 1).toNatClampNeg), .int (xs (x4 + 2).toNatClampNeg)]) (rest := []) ⟨hx, hb, hml, hown, hts⟩ (kL_wants l hl9 dC dI g h u _ (xs (x4 + 1).toNatClampNeg) (xs (x4 + 2).toNatClampNeg) (hRc u v hR)) (vx_cwSW 3 hts (lgT wd_437 wd_438 wd_420 wcL_wants) rfl rfl rfl (by decide +kernel) ⟨(Nat.le_of_ble_eq_true rfl), (Nat.le_of_ble_eq_true rfl)⟩) ⟨fun a U g mk q => by obtain ⟨q0, q1, qP, qK, qD, qZ, qN⟩ := q; exact ⟨q0, q1, qP, va_K.moved (u := U) (U := U.calling g mk a) (Vm.Alike.refl U.vm) qK, qD, zz_same (u := U) (H := U.heap) rfl rfl qZ, nn_moved (u := U) (U := U.calling g mk a) (Vm.Alike.refl U.vm) qN⟩, fun U hU hW => ⟨rfl, by rw [hU], by rw [hU]; exact hPc, va_K.moved hW.alike hK, hDc.weaken (fun _ _ _ _ => trivial), by rw [hU]; exact zz_to hZ hS hFc hW, nn_moved hW.alike hN⟩⟩ rfl rfl hl.1 rfl (lv_room (Nat.le_of_ble_eq_true rfl)) dL_law_305 ⟨by show 48 + j + 1 ≤ 1082; omega, by show 9269 + 6 * j + 6 ≤ 17521; omega⟩) hS (fun q _ h => hFc q h) hFc (fun r5 q5 t H1 locs ht hvm hw5 hB hz1 hk1 hS => ?_)
  obtain ⟨hP1, hD1⟩ := hB
  rw [ht] at hP1
  obtain ⟨hP, hD⟩ := va_join (wr := mw g h2 v ++ [(o, .inl (g.2.2, 1, .inr (.inl f)))]) (w1 := cw g h q5) hP hD [0, 1, 2, 3, 4, 5, 6, 7, 8, 9, 10, 11, 12, 13, 14, 15, 16, 17, 18, 19, 20, 21, 22, 23] [24, 25, 26, 27, 28, 29, 30, 31, 32, 33, 34, 35, 36, 37, 38, 39, 40, 41, 42, 43, 44, 45, 46, 47] rfl rfl (by decide) (by decide) hk1 hFc hP1 hD1
  have hP := hP.sub (ws' := LW g h h2 o q5 v f) [24, 25, 26, 27, 28, 29, 30, 31, 32, 33, 34, 35, 36, 37, 38, 39, 40, 41, 42, 43, 44, 45, 46, 47, 0, 1, 2, 3, 4, 5, 6, 7, 8, 9, 10, 11, 12, 13, 14, 15, 16, 17, 18, 19, 20, 21, 22, 23] rfl
  have hD := hD.sub (ws' := LW g h h2 o q5 v f) [24, 25, 26, 27, 28, 29, 30, 31, 32, 33, 34, 35, 36, 37, 38, 39, 40, 41, 42, 43, 44, 45, 46, 47, 0, 1, 2, 3, 4, 5, 6, 7, 8, 9, 10, 11, 12, 13, 14, 15, 16, 17, 18, 19, 20, 21, 22, 23] (by decide) rfl
  refine W.widen (k := 48 + (j + 1)) (n := 9269 + 6 * (j + 1)) (by omega) (by omega) ?_
  refine lv_istore (lv' := [(5, .int r5), (0, .ref b), (1, .ref (h 0)), (2, .ref (h2 0)), (3, .ref o), (4, .int x4)]) hx hb dL_law_308 hl (by decide) rfl (fun ls hl => ?_)
  refine lv_aload_n hx hb dL_law_310 rfl (lv_at hl 3 rfl) ?_
  refine lv_aload_n hx hb dL_law_311 rfl (lv_at hl 1 rfl) ?_
  refine lv_iload hx hb dL_law_312 (lv_at hl 5 rfl) ?_
  refine lv_iconst (v := 1) hx hb dL_law_314 (by decide) ?_
  refine lv_iadd hx hb dL_law_315 ?_
  refine va_sld hx hb hX hbl hbA hS i1 dL_law_316 ?_
  refine lv_aload_n hx hb dL_law_317 rfl (lv_at hl 1 rfl) ?_
  refine lv_iload hx hb dL_law_318 (lv_at hl 5 rfl) ?_
  refine lv_iconst (v := 2) hx hb dL_law_320 (by decide) ?_
  refine lv_iadd hx hb dL_law_321 ?_
  refine va_sld hx hb hX hbl hbA hS i2 dL_law_322 ?_
  have hPc := hP.sub (ws' := mw g h2 v) [24, 25, 26, 27, 28, 29, 30, 31, 32, 33, 34, 35, 36, 37, 38, 39, 40, 41, 42, 43, 44, 45, 46] rfl
  have hDc := hD.sub (ws' := mw g h2 v) [24, 25, 26, 27, 28, 29, 30, 31, 32, 33, 34, 35, 36, 37, 38, 39, 40, 41, 42, 43, 44, 45, 46] (by decide) rfl
  have hFc := va_free (wc := mw g h2 v) hD hS hA [24, 25, 26, 27, 28, 29, 30, 31, 32, 33, 34, 35, 36, 37, 38, 39, 40, 41, 42, 43, 44, 45, 46] rfl
  refine va_callv (va_runV (As := [.int (xs (x4 + 1).toNatClampNeg), .int (xs (x4 + 2).toNatClampNeg)]) (rest := []) ⟨hx, hb, hml, hown, hts⟩ (kX5_wants l dC dI g h2 v _ (xs (x4 + 1).toNatClampNeg) (xs (x4 + 2).toNatClampNeg) (hRm u v hR)) (cwV 2 hts (lgV wd_440 wd_441 wd_442 wd_241 wcX5_wants) rfl rfl rfl (by decide +kernel) ⟨(Nat.le_of_ble_eq_true rfl), (Nat.le_of_ble_eq_true rfl)⟩) ⟨fun a U g mk q => by obtain ⟨q0, q1, qP, qK, qD⟩ := q; exact ⟨q0, q1, qP, va_K.moved (u := U) (U := U.calling g mk a) (Vm.Alike.refl U.vm) qK, qD⟩, va_recv hK hPc (ci := 4) (q0 := 0) rfl (mw_at0 _ _ _), fun U hU hW => ⟨rfl, by rw [hU], by rw [hU]; exact hPc, va_K.moved hW.alike hK, hDc.weaken (fun _ _ _ _ => trivial)⟩⟩ rfl rfl hl.1 rfl (lv_room (Nat.le_of_ble_eq_true rfl)) dL_law_323 ⟨by show 48 + (j + 1) + 0 ≤ 1082; omega, by show 9269 + 6 * (j + 1) + 0 ≤ 17521; omega⟩) hS (fun q _ h => hFc q h) hFc (fun v6 t H1 locs ht hvm hw6 hB hz1 hk1 hS => ?_)
  obtain ⟨hP1, hD1⟩ := hB
  rw [ht] at hP1
  obtain ⟨hP, hD⟩ := va_join (wr := ow g h o q5 f) (w1 := mw g h2 v6) hP hD [24, 25, 26, 27, 28, 29, 30, 31, 32, 33, 34, 35, 36, 37, 38, 39, 40, 41, 42, 43, 44, 45, 46] [0, 1, 2, 3, 4, 5, 6, 7, 8, 9, 10, 11, 12, 13, 14, 15, 16, 17, 18, 19, 20, 21, 22, 23, 47] rfl rfl (by decide) (by decide) hk1 hFc hP1 hD1
  have hP := hP.sub (ws' := LW g h h2 o q5 v6 f) [0, 1, 2, 3, 4, 5, 6, 7, 8, 9, 10, 11, 12, 13, 14, 15, 16, 17, 18, 19, 20, 21, 22, 23, 25, 26, 27, 28, 29, 30, 31, 32, 33, 34, 35, 36, 37, 38, 39, 40, 41, 42, 43, 44, 45, 46, 47, 24] rfl
  have hD := hD.sub (ws' := LW g h h2 o q5 v6 f) [0, 1, 2, 3, 4, 5, 6, 7, 8, 9, 10, 11, 12, 13, 14, 15, 16, 17, 18, 19, 20, 21, 22, 23, 25, 26, 27, 28, 29, 30, 31, 32, 33, 34, 35, 36, 37, 38, 39, 40, 41, 42, 43, 44, 45, 46, 47, 24] (by decide) rfl
  have hq := hst u v (xs (x4 + 1).toNatClampNeg) (xs (x4 + 2).toNatClampNeg) hR
  rw [← hw6, ← hw5.1] at hq
  have hq1 := hq.1
  have hq3 := hq.2
  refine lv_aload_n hx hb dL_law_326 rfl (lv_at hl 3 rfl) ?_
  have hPc := hP.sub (ws' := mw g h2 v6) [24, 25, 26, 27, 28, 29, 30, 31, 32, 33, 34, 35, 36, 37, 38, 39, 40, 41, 42, 43, 44, 45, 46] rfl
  refine vp_callSi (W.runV (As := []) (rest := []) ⟨hx, hb, hml, hown, hts⟩ (kX5_thrown l dC dI g h2 v6) (cwV 0 hts (lgV wd_426 wd_427 wd_428 wd_241 wcX5_thrown) rfl rfl rfl (by decide +kernel) ⟨(Nat.le_of_ble_eq_true rfl), (Nat.le_of_ble_eq_true rfl)⟩) ⟨fun a U g mk q => by obtain ⟨q0, qP, qK⟩ := q; exact ⟨q0, qP, va_K.moved (u := U) (U := U.calling g mk a) (Vm.Alike.refl U.vm) qK⟩, va_recv hK hPc (ci := 4) (q0 := 0) rfl (mw_at0 _ _ _), fun U hU hW => ⟨rfl, by rw [hU]; exact hPc, va_K.moved hW.alike hK⟩⟩ rfl rfl hl.1 rfl (lv_room (Nat.le_of_ble_eq_true rfl)) dL_law_327 ⟨by show 48 + (j + 1) + 0 ≤ 1082; omega, by show 9269 + 6 * (j + 1) + 0 ≤ 17521; omega⟩) (fun r7 hw7 => ?_)
  refine lv_iload hx hb dL_law_330 (lv_at hl 0 rfl) ?_
  refine lv_icmp_eq (tgt := 337) hx hb dL_law_332 (by decide) (fun c_1 => ?_) (fun c_1 => absurd (hw7.trans hq1) c_1)
  refine lv_goto (tgt := 1552) hx hb dL_law_337 (by decide) ?_
  have hRR : Rl q5 v6 := by rw [hw5.2]; exact hq3
  exact K q5 v6 f _ _ _ hRR hP hD hS (lv_sub hl [1, 2, 3, 4, 5] rfl)
set_option maxHeartbeats 4000000 in
set_option maxRecDepth 100000 in
theorem lc_right {p : Program} {l : Launch} {e : Env} {s : State} {m : MethodId} {below : List Frame} {meth : Method} {c : Code} {b L : Nat} {xs : Nat → Int32} {dC : Nat → ClassId} {dI : Nat → Nat → Nat} {g : cG} {h h2 : Nat → Nat} {o : Nat} (X0 : lw_X p l s m meth c b L xs) (Rl : cS → mS → Prop) (hRc : ∀ (u : cS) (v : mS), Rl u v → cInv u) (hRm : ∀ (u : cS) (v : mS), Rl u v → mInv v) (hst : ∀ (u : cS) (v : mS) (x1 : Int32) (x2 : Int32) (x3 : Int32), Rl u v → (x3 = 0 ∨ x3 = 1) → k_mcode (fX5_right v x1 x2 x3) = wk [2] (fX4_right u x1 x2 x3).1 ∧ Rl (fX4_right u x1 x2 x3).2.2 (fX5_right v x1 x2 x3)) (hL : L ≤ 2560) (hK : va_K (dC, dI) vwCl (cTys g) s) (j : Nat) (x4 : Int32) (hx4 : x4.toInt = 5 * (j : Int)) (hj : 5 * j + 5 ≤ L) (u : cS) (v : mS) (f : Nat → Int64) (hR : Rl u v) (H : Heap) (locs : List Loc) (hP : va_P (dC, dI) vwCl (LW g h h2 o u v f) H) (hD : va_D (fun q : Nat => s.heap.size ≤ q) (LW g h h2 o u v f)) (hS : va_S (fun q : Nat => s.heap.size ≤ q) s.heap H locs) (ls : Array Slot) (hl : lv_has ls 7 [(0, .ref b), (1, .ref (h 0)), (2, .ref (h2 0)), (3, .ref o), (4, .int x4)])
    (K : ∀ (u : cS) (v : mS) (f : Nat → Int64) (H : Heap) (locs : List Loc) (ls : Array Slot), Rl u v → va_P (dC, dI) vwCl (LW g h h2 o u v f) H → va_D (fun q : Nat => s.heap.size ≤ q) (LW g h h2 o u v f) → va_S (fun q : Nat => s.heap.size ≤ q) s.heap H locs → lv_has ls 7 [(0, .ref b), (1, .ref (h 0)), (2, .ref (h2 0)), (3, .ref o), (4, .int x4)] → W p l e room_1 s m #[Value.ref b] below meth c H locs (48 + (j + 1)) (9269 + 6 * (j + 1)) (lw_Z below #[Value.ref b] s) (F0 m 1552 ls [])) :
    W p l e room_1 s m #[Value.ref b] below meth c H locs (48 + j) (9269 + 6 * j) (lw_Z below #[Value.ref b] s) (F0 m 340 ls []) := by
  obtain ⟨⟨hx, hb, hr, hml, hown, hts, hX, hbl, hlocks, hgv⟩, hl9, hZ, hN⟩ := X0
  have hA : ∀ q : Nat, s.heap.size ≤ q → (fun q : Nat => s.heap.size ≤ q) q := fun _ h => h
  have hbA : ¬ (fun q : Nat => s.heap.size ≤ q) b := Nat.not_le.mpr hbl
  have n1 : (1 : Int32).toInt = 1 := by decide
  have e1 := i_add (x := x4) (y := 1) (by omega) (by omega)
  have i1 : vp_in (x4 + 1) L := vp_in_iff.mpr (by omega)
  have n2 : (2 : Int32).toInt = 2 := by decide
  have e2 := i_add (x := x4) (y := 2) (by omega) (by omega)
  have i2 : vp_in (x4 + 2) L := vp_in_iff.mpr (by omega)
  have n3 : (3 : Int32).toInt = 3 := by decide
  have e3 := i_add (x := x4) (y := 3) (by omega) (by omega)
  have i3 : vp_in (x4 + 3) L := vp_in_iff.mpr (by omega)
  have n4 : (4 : Int32).toInt = 4 := by decide
  have e4 := i_add (x := x4) (y := 4) (by omega) (by omega)
  have i4 : vp_in (x4 + 4) L := vp_in_iff.mpr (by omega)
  by_cases hz : (xs (x4 + 3).toNatClampNeg) = 0
  · skip
    refine lv_aload_n hx hb dL_law_340 rfl (lv_at hl 1 rfl) ?_
    refine lv_aload_n hx hb dL_law_341 rfl (lv_at hl 0 rfl) ?_
    refine lv_iload hx hb dL_law_342 (lv_at hl 4 rfl) ?_
    refine lv_iconst (v := 1) hx hb dL_law_344 (by decide) ?_
    refine lv_iadd hx hb dL_law_345 ?_
    refine va_sld hx hb hX hbl hbA hS i1 dL_law_346 ?_
    refine lv_aload_n hx hb dL_law_347 rfl (lv_at hl 0 rfl) ?_
    refine lv_iload hx hb dL_law_348 (lv_at hl 4 rfl) ?_
    refine lv_iconst (v := 2) hx hb dL_law_350 (by decide) ?_
    refine lv_iadd hx hb dL_law_351 ?_
    refine va_sld hx hb hX hbl hbA hS i2 dL_law_352 ?_
    refine lv_aload_n hx hb dL_law_353 rfl (lv_at hl 0 rfl) ?_
    refine lv_iload hx hb dL_law_354 (lv_at hl 4 rfl) ?_
    refine lv_iconst (v := 3) hx hb dL_law_356 (by decide) ?_
    refine lv_iadd hx hb dL_law_357 ?_
    refine va_sld hx hb hX hbl hbA hS i3 dL_law_358 ?_
    refine lv_if_eq (tgt := 366) hx hb dL_law_359 (by decide) (fun _ => ?_) (fun c_9 => absurd hz c_9)
    refine lv_iconst (v := 0) hx hb dL_law_366 (by decide) ?_
    have hPc := hP.sub (ws' := cw g h u) [0, 1, 2, 3, 4, 5, 6, 7, 8, 9, 10, 11, 12, 13, 14, 15, 16, 17, 18, 19, 20, 21, 22, 23] rfl
    have hDc := hD.sub (ws' := cw g h u) [0, 1, 2, 3, 4, 5, 6, 7, 8, 9, 10, 11, 12, 13, 14, 15, 16, 17, 18, 19, 20, 21, 22, 23] (by decide) rfl
    have hFc := va_free (wc := cw g h u) hD hS hA [0, 1, 2, 3, 4, 5, 6, 7, 8, 9, 10, 11, 12, 13, 14, 15, 16, 17, 18, 19, 20, 21, 22, 23] rfl
    refine va_calli (vx_runSW (hh := [(0, 7, 10, 13)]) (As := [.ref (h 0), .int (xs (x4 + 1).toNatClampNeg), .int (xs (x4 + 2).toNatClampNeg), .int 0]) (rest := []) ⟨hx, hb, hml, hown, hts⟩ (kL_right l hl9 dC dI g h u _ (xs (x4 + 1).toNatClampNeg) (xs (x4 + 2).toNatClampNeg) 0 (hRc u v hR)) (vx_cwSW 4 hts (lgT wd_444 wd_445 wd_420 wcL_right) rfl rfl rfl (by decide +kernel) ⟨(Nat.le_of_ble_eq_true rfl), (Nat.le_of_ble_eq_true rfl)⟩) ⟨fun a U g mk q => by obtain ⟨q0, q1, qP, qK, qD, qZ, qN⟩ := q; exact ⟨q0, q1, qP, va_K.moved (u := U) (U := U.calling g mk a) (Vm.Alike.refl U.vm) qK, qD, zz_same (u := U) (H := U.heap) rfl rfl qZ, nn_moved (u := U) (U := U.calling g mk a) (Vm.Alike.refl U.vm) qN⟩, fun U hU hW => ⟨rfl, by rw [hU], by rw [hU]; exact hPc, va_K.moved hW.alike hK, hDc.weaken (fun _ _ _ _ => trivial), by rw [hU]; exact zz_to hZ hS hFc hW, nn_moved hW.alike hN⟩⟩ rfl rfl hl.1 rfl (lv_room (Nat.le_of_ble_eq_true rfl)) dL_law_367 ⟨by show 48 + j + 1 ≤ 1082; omega, by show 9269 + 6 * j + 6 ≤ 17521; omega⟩) hS (fun q _ h => hFc q h) hFc (fun r5 q5 t H1 locs ht hvm hw5 hB hz1 hk1 hS => ?_)
    obtain ⟨hP1, hD1⟩ := hB
    rw [ht] at hP1
    obtain ⟨hP, hD⟩ := va_join (wr := mw g h2 v ++ [(o, .inl (g.2.2, 1, .inr (.inl f)))]) (w1 := cw g h q5) hP hD [0, 1, 2, 3, 4, 5, 6, 7, 8, 9, 10, 11, 12, 13, 14, 15, 16, 17, 18, 19, 20, 21, 22, 23] [24, 25, 26, 27, 28, 29, 30, 31, 32, 33, 34, 35, 36, 37, 38, 39, 40, 41, 42, 43, 44, 45, 46, 47] rfl rfl (by decide) (by decide) hk1 hFc hP1 hD1
    have hP := hP.sub (ws' := LW g h h2 o q5 v f) [24, 25, 26, 27, 28, 29, 30, 31, 32, 33, 34, 35, 36, 37, 38, 39, 40, 41, 42, 43, 44, 45, 46, 47, 0, 1, 2, 3, 4, 5, 6, 7, 8, 9, 10, 11, 12, 13, 14, 15, 16, 17, 18, 19, 20, 21, 22, 23] rfl
    have hD := hD.sub (ws' := LW g h h2 o q5 v f) [24, 25, 26, 27, 28, 29, 30, 31, 32, 33, 34, 35, 36, 37, 38, 39, 40, 41, 42, 43, 44, 45, 46, 47, 0, 1, 2, 3, 4, 5, 6, 7, 8, 9, 10, 11, 12, 13, 14, 15, 16, 17, 18, 19, 20, 21, 22, 23] (by decide) rfl
    refine W.widen (k := 48 + (j + 1)) (n := 9269 + 6 * (j + 1)) (by omega) (by omega) ?_
    refine lv_istore (lv' := [(5, .int r5), (0, .ref b), (1, .ref (h 0)), (2, .ref (h2 0)), (3, .ref o), (4, .int x4)]) hx hb dL_law_370 hl (by decide) rfl (fun ls hl => ?_)
    refine lv_aload_n hx hb dL_law_372 rfl (lv_at hl 3 rfl) ?_
    refine lv_aload_n hx hb dL_law_373 rfl (lv_at hl 1 rfl) ?_
    refine lv_iload hx hb dL_law_374 (lv_at hl 5 rfl) ?_
    refine lv_iconst (v := 1) hx hb dL_law_376 (by decide) ?_
    refine lv_iadd hx hb dL_law_377 ?_
    refine va_sld hx hb hX hbl hbA hS i1 dL_law_378 ?_
    refine lv_aload_n hx hb dL_law_379 rfl (lv_at hl 1 rfl) ?_
    refine lv_iload hx hb dL_law_380 (lv_at hl 5 rfl) ?_
    refine lv_iconst (v := 2) hx hb dL_law_382 (by decide) ?_
    refine lv_iadd hx hb dL_law_383 ?_
    refine va_sld hx hb hX hbl hbA hS i2 dL_law_384 ?_
    refine lv_aload_n hx hb dL_law_385 rfl (lv_at hl 1 rfl) ?_
    refine lv_iload hx hb dL_law_386 (lv_at hl 5 rfl) ?_
    refine lv_iconst (v := 3) hx hb dL_law_388 (by decide) ?_
    refine lv_iadd hx hb dL_law_389 ?_
    refine va_sld hx hb hX hbl hbA hS i3 dL_law_390 ?_
    refine lv_if_eq (tgt := 398) hx hb dL_law_391 (by decide) (fun _ => ?_) (fun c_9 => absurd hz c_9)
    refine lv_iconst (v := 0) hx hb dL_law_398 (by decide) ?_
    have hPc := hP.sub (ws' := mw g h2 v) [24, 25, 26, 27, 28, 29, 30, 31, 32, 33, 34, 35, 36, 37, 38, 39, 40, 41, 42, 43, 44, 45, 46] rfl
    have hDc := hD.sub (ws' := mw g h2 v) [24, 25, 26, 27, 28, 29, 30, 31, 32, 33, 34, 35, 36, 37, 38, 39, 40, 41, 42, 43, 44, 45, 46] (by decide) rfl
    have hFc := va_free (wc := mw g h2 v) hD hS hA [24, 25, 26, 27, 28, 29, 30, 31, 32, 33, 34, 35, 36, 37, 38, 39, 40, 41, 42, 43, 44, 45, 46] rfl
    refine va_callv (va_runV (As := [.int (xs (x4 + 1).toNatClampNeg), .int (xs (x4 + 2).toNatClampNeg), .int 0]) (rest := []) ⟨hx, hb, hml, hown, hts⟩ (kX5_right l dC dI g h2 v _ (xs (x4 + 1).toNatClampNeg) (xs (x4 + 2).toNatClampNeg) 0 (hRm u v hR)) (cwV 3 hts (lgV wd_447 wd_448 wd_449 wd_241 wcX5_right) rfl rfl rfl (by decide +kernel) ⟨(Nat.le_of_ble_eq_true rfl), (Nat.le_of_ble_eq_true rfl)⟩) ⟨fun a U g mk q => by obtain ⟨q0, q1, qP, qK, qD⟩ := q; exact ⟨q0, q1, qP, va_K.moved (u := U) (U := U.calling g mk a) (Vm.Alike.refl U.vm) qK, qD⟩, va_recv hK hPc (ci := 4) (q0 := 0) rfl (mw_at0 _ _ _), fun U hU hW => ⟨rfl, by rw [hU], by rw [hU]; exact hPc, va_K.moved hW.alike hK, hDc.weaken (fun _ _ _ _ => trivial)⟩⟩ rfl rfl hl.1 rfl (lv_room (Nat.le_of_ble_eq_true rfl)) dL_law_399 ⟨by show 48 + (j + 1) + 0 ≤ 1082; omega, by show 9269 + 6 * (j + 1) + 0 ≤ 17521; omega⟩) hS (fun q _ h => hFc q h) hFc (fun v6 t H1 locs ht hvm hw6 hB hz1 hk1 hS => ?_)
    obtain ⟨hP1, hD1⟩ := hB
    rw [ht] at hP1
    obtain ⟨hP, hD⟩ := va_join (wr := ow g h o q5 f) (w1 := mw g h2 v6) hP hD [24, 25, 26, 27, 28, 29, 30, 31, 32, 33, 34, 35, 36, 37, 38, 39, 40, 41, 42, 43, 44, 45, 46] [0, 1, 2, 3, 4, 5, 6, 7, 8, 9, 10, 11, 12, 13, 14, 15, 16, 17, 18, 19, 20, 21, 22, 23, 47] rfl rfl (by decide) (by decide) hk1 hFc hP1 hD1
    have hP := hP.sub (ws' := LW g h h2 o q5 v6 f) [0, 1, 2, 3, 4, 5, 6, 7, 8, 9, 10, 11, 12, 13, 14, 15, 16, 17, 18, 19, 20, 21, 22, 23, 25, 26, 27, 28, 29, 30, 31, 32, 33, 34, 35, 36, 37, 38, 39, 40, 41, 42, 43, 44, 45, 46, 47, 24] rfl
    have hD := hD.sub (ws' := LW g h h2 o q5 v6 f) [0, 1, 2, 3, 4, 5, 6, 7, 8, 9, 10, 11, 12, 13, 14, 15, 16, 17, 18, 19, 20, 21, 22, 23, 25, 26, 27, 28, 29, 30, 31, 32, 33, 34, 35, 36, 37, 38, 39, 40, 41, 42, 43, 44, 45, 46, 47, 24] (by decide) rfl
    have hq := hst u v (xs (x4 + 1).toNatClampNeg) (xs (x4 + 2).toNatClampNeg) 0 hR (Or.inl rfl)
    rw [← hw6, ← hw5.1] at hq
    have hq1 := hq.1
    have hq3 := hq.2
    refine lv_aload_n hx hb dL_law_402 rfl (lv_at hl 3 rfl) ?_
    have hPc := hP.sub (ws' := mw g h2 v6) [24, 25, 26, 27, 28, 29, 30, 31, 32, 33, 34, 35, 36, 37, 38, 39, 40, 41, 42, 43, 44, 45, 46] rfl
    refine vp_callSi (W.runV (As := []) (rest := []) ⟨hx, hb, hml, hown, hts⟩ (kX5_thrown l dC dI g h2 v6) (cwV 0 hts (lgV wd_426 wd_427 wd_428 wd_241 wcX5_thrown) rfl rfl rfl (by decide +kernel) ⟨(Nat.le_of_ble_eq_true rfl), (Nat.le_of_ble_eq_true rfl)⟩) ⟨fun a U g mk q => by obtain ⟨q0, qP, qK⟩ := q; exact ⟨q0, qP, va_K.moved (u := U) (U := U.calling g mk a) (Vm.Alike.refl U.vm) qK⟩, va_recv hK hPc (ci := 4) (q0 := 0) rfl (mw_at0 _ _ _), fun U hU hW => ⟨rfl, by rw [hU]; exact hPc, va_K.moved hW.alike hK⟩⟩ rfl rfl hl.1 rfl (lv_room (Nat.le_of_ble_eq_true rfl)) dL_law_403 ⟨by show 48 + (j + 1) + 0 ≤ 1082; omega, by show 9269 + 6 * (j + 1) + 0 ≤ 17521; omega⟩) (fun r7 hw7 => ?_)
    refine lv_iload hx hb dL_law_406 (lv_at hl 0 rfl) ?_
    refine lv_icmp_eq (tgt := 413) hx hb dL_law_408 (by decide) (fun c_1 => ?_) (fun c_1 => absurd (hw7.trans hq1) c_1)
    refine lv_goto (tgt := 1552) hx hb dL_law_413 (by decide) ?_
    have hRR : Rl q5 v6 := by rw [hw5.2]; exact hq3
    exact K q5 v6 f _ _ _ hRR hP hD hS (lv_sub hl [1, 2, 3, 4, 5] rfl)
  · skip
    refine lv_aload_n hx hb dL_law_340 rfl (lv_at hl 1 rfl) ?_
    refine lv_aload_n hx hb dL_law_341 rfl (lv_at hl 0 rfl) ?_
    refine lv_iload hx hb dL_law_342 (lv_at hl 4 rfl) ?_
    refine lv_iconst (v := 1) hx hb dL_law_344 (by decide) ?_
    refine lv_iadd hx hb dL_law_345 ?_
    refine va_sld hx hb hX hbl hbA hS i1 dL_law_346 ?_
    refine lv_aload_n hx hb dL_law_347 rfl (lv_at hl 0 rfl) ?_
    refine lv_iload hx hb dL_law_348 (lv_at hl 4 rfl) ?_
    refine lv_iconst (v := 2) hx hb dL_law_350 (by decide) ?_
    refine lv_iadd hx hb dL_law_351 ?_
    refine va_sld hx hb hX hbl hbA hS i2 dL_law_352 ?_
    refine lv_aload_n hx hb dL_law_353 rfl (lv_at hl 0 rfl) ?_
    refine lv_iload hx hb dL_law_354 (lv_at hl 4 rfl) ?_
    refine lv_iconst (v := 3) hx hb dL_law_356 (by decide) ?_
    refine lv_iadd hx hb dL_law_357 ?_
    refine va_sld hx hb hX hbl hbA hS i3 dL_law_358 ?_
    refine lv_if_eq (tgt := 366) hx hb dL_law_359 (by decide) (fun c_9 => absurd c_9 hz) (fun _ => ?_)
    refine lv_iconst (v := 1) hx hb dL_law_362 (by decide) ?_
    refine lv_goto (tgt := 367) hx hb dL_law_363 (by decide) ?_
    have hPc := hP.sub (ws' := cw g h u) [0, 1, 2, 3, 4, 5, 6, 7, 8, 9, 10, 11, 12, 13, 14, 15, 16, 17, 18, 19, 20, 21, 22, 23] rfl
    have hDc := hD.sub (ws' := cw g h u) [0, 1, 2, 3, 4, 5, 6, 7, 8, 9, 10, 11, 12, 13, 14, 15, 16, 17, 18, 19, 20, 21, 22, 23] (by decide) rfl
    have hFc := va_free (wc := cw g h u) hD hS hA [0, 1, 2, 3, 4, 5, 6, 7, 8, 9, 10, 11, 12, 13, 14, 15, 16, 17, 18, 19, 20, 21, 22, 23] rfl
    refine va_calli (vx_runSW (hh := [(0, 7, 10, 13)]) (As := [.ref (h 0), .int (xs (x4 + 1).toNatClampNeg), .int (xs (x4 + 2).toNatClampNeg), .int 1]) (rest := []) ⟨hx, hb, hml, hown, hts⟩ (kL_right l hl9 dC dI g h u _ (xs (x4 + 1).toNatClampNeg) (xs (x4 + 2).toNatClampNeg) 1 (hRc u v hR)) (vx_cwSW 4 hts (lgT wd_444 wd_445 wd_420 wcL_right) rfl rfl rfl (by decide +kernel) ⟨(Nat.le_of_ble_eq_true rfl), (Nat.le_of_ble_eq_true rfl)⟩) ⟨fun a U g mk q => by obtain ⟨q0, q1, qP, qK, qD, qZ, qN⟩ := q; exact ⟨q0, q1, qP, va_K.moved (u := U) (U := U.calling g mk a) (Vm.Alike.refl U.vm) qK, qD, zz_same (u := U) (H := U.heap) rfl rfl qZ, nn_moved (u := U) (U := U.calling g mk a) (Vm.Alike.refl U.vm) qN⟩, fun U hU hW => ⟨rfl, by rw [hU], by rw [hU]; exact hPc, va_K.moved hW.alike hK, hDc.weaken (fun _ _ _ _ => trivial), by rw [hU]; exact zz_to hZ hS hFc hW, nn_moved hW.alike hN⟩⟩ rfl rfl hl.1 rfl (lv_room (Nat.le_of_ble_eq_true rfl)) dL_law_367 ⟨by show 48 + j + 1 ≤ 1082; omega, by show 9269 + 6 * j + 6 ≤ 17521; omega⟩) hS (fun q _ h => hFc q h) hFc (fun r5 q5 t H1 locs ht hvm hw5 hB hz1 hk1 hS => ?_)
    obtain ⟨hP1, hD1⟩ := hB
    rw [ht] at hP1
    obtain ⟨hP, hD⟩ := va_join (wr := mw g h2 v ++ [(o, .inl (g.2.2, 1, .inr (.inl f)))]) (w1 := cw g h q5) hP hD [0, 1, 2, 3, 4, 5, 6, 7, 8, 9, 10, 11, 12, 13, 14, 15, 16, 17, 18, 19, 20, 21, 22, 23] [24, 25, 26, 27, 28, 29, 30, 31, 32, 33, 34, 35, 36, 37, 38, 39, 40, 41, 42, 43, 44, 45, 46, 47] rfl rfl (by decide) (by decide) hk1 hFc hP1 hD1
    have hP := hP.sub (ws' := LW g h h2 o q5 v f) [24, 25, 26, 27, 28, 29, 30, 31, 32, 33, 34, 35, 36, 37, 38, 39, 40, 41, 42, 43, 44, 45, 46, 47, 0, 1, 2, 3, 4, 5, 6, 7, 8, 9, 10, 11, 12, 13, 14, 15, 16, 17, 18, 19, 20, 21, 22, 23] rfl
    have hD := hD.sub (ws' := LW g h h2 o q5 v f) [24, 25, 26, 27, 28, 29, 30, 31, 32, 33, 34, 35, 36, 37, 38, 39, 40, 41, 42, 43, 44, 45, 46, 47, 0, 1, 2, 3, 4, 5, 6, 7, 8, 9, 10, 11, 12, 13, 14, 15, 16, 17, 18, 19, 20, 21, 22, 23] (by decide) rfl
    refine W.widen (k := 48 + (j + 1)) (n := 9269 + 6 * (j + 1)) (by omega) (by omega) ?_
    refine lv_istore (lv' := [(5, .int r5), (0, .ref b), (1, .ref (h 0)), (2, .ref (h2 0)), (3, .ref o), (4, .int x4)]) hx hb dL_law_370 hl (by decide) rfl (fun ls hl => ?_)
    refine lv_aload_n hx hb dL_law_372 rfl (lv_at hl 3 rfl) ?_
    refine lv_aload_n hx hb dL_law_373 rfl (lv_at hl 1 rfl) ?_
    refine lv_iload hx hb dL_law_374 (lv_at hl 5 rfl) ?_
    refine lv_iconst (v := 1) hx hb dL_law_376 (by decide) ?_
    refine lv_iadd hx hb dL_law_377 ?_
    refine va_sld hx hb hX hbl hbA hS i1 dL_law_378 ?_
    refine lv_aload_n hx hb dL_law_379 rfl (lv_at hl 1 rfl) ?_
    refine lv_iload hx hb dL_law_380 (lv_at hl 5 rfl) ?_
    refine lv_iconst (v := 2) hx hb dL_law_382 (by decide) ?_
    refine lv_iadd hx hb dL_law_383 ?_
    refine va_sld hx hb hX hbl hbA hS i2 dL_law_384 ?_
    refine lv_aload_n hx hb dL_law_385 rfl (lv_at hl 1 rfl) ?_
    refine lv_iload hx hb dL_law_386 (lv_at hl 5 rfl) ?_
    refine lv_iconst (v := 3) hx hb dL_law_388 (by decide) ?_
    refine lv_iadd hx hb dL_law_389 ?_
    refine va_sld hx hb hX hbl hbA hS i3 dL_law_390 ?_
    refine lv_if_eq (tgt := 398) hx hb dL_law_391 (by decide) (fun c_9 => absurd c_9 hz) (fun _ => ?_)
    refine lv_iconst (v := 1) hx hb dL_law_394 (by decide) ?_
    refine lv_goto (tgt := 399) hx hb dL_law_395 (by decide) ?_
    have hPc := hP.sub (ws' := mw g h2 v) [24, 25, 26, 27, 28, 29, 30, 31, 32, 33, 34, 35, 36, 37, 38, 39, 40, 41, 42, 43, 44, 45, 46] rfl
    have hDc := hD.sub (ws' := mw g h2 v) [24, 25, 26, 27, 28, 29, 30, 31, 32, 33, 34, 35, 36, 37, 38, 39, 40, 41, 42, 43, 44, 45, 46] (by decide) rfl
    have hFc := va_free (wc := mw g h2 v) hD hS hA [24, 25, 26, 27, 28, 29, 30, 31, 32, 33, 34, 35, 36, 37, 38, 39, 40, 41, 42, 43, 44, 45, 46] rfl
    refine va_callv (va_runV (As := [.int (xs (x4 + 1).toNatClampNeg), .int (xs (x4 + 2).toNatClampNeg), .int 1]) (rest := []) ⟨hx, hb, hml, hown, hts⟩ (kX5_right l dC dI g h2 v _ (xs (x4 + 1).toNatClampNeg) (xs (x4 + 2).toNatClampNeg) 1 (hRm u v hR)) (cwV 3 hts (lgV wd_447 wd_448 wd_449 wd_241 wcX5_right) rfl rfl rfl (by decide +kernel) ⟨(Nat.le_of_ble_eq_true rfl), (Nat.le_of_ble_eq_true rfl)⟩) ⟨fun a U g mk q => by obtain ⟨q0, q1, qP, qK, qD⟩ := q; exact ⟨q0, q1, qP, va_K.moved (u := U) (U := U.calling g mk a) (Vm.Alike.refl U.vm) qK, qD⟩, va_recv hK hPc (ci := 4) (q0 := 0) rfl (mw_at0 _ _ _), fun U hU hW => ⟨rfl, by rw [hU], by rw [hU]; exact hPc, va_K.moved hW.alike hK, hDc.weaken (fun _ _ _ _ => trivial)⟩⟩ rfl rfl hl.1 rfl (lv_room (Nat.le_of_ble_eq_true rfl)) dL_law_399 ⟨by show 48 + (j + 1) + 0 ≤ 1082; omega, by show 9269 + 6 * (j + 1) + 0 ≤ 17521; omega⟩) hS (fun q _ h => hFc q h) hFc (fun v6 t H1 locs ht hvm hw6 hB hz1 hk1 hS => ?_)
    obtain ⟨hP1, hD1⟩ := hB
    rw [ht] at hP1
    obtain ⟨hP, hD⟩ := va_join (wr := ow g h o q5 f) (w1 := mw g h2 v6) hP hD [24, 25, 26, 27, 28, 29, 30, 31, 32, 33, 34, 35, 36, 37, 38, 39, 40, 41, 42, 43, 44, 45, 46] [0, 1, 2, 3, 4, 5, 6, 7, 8, 9, 10, 11, 12, 13, 14, 15, 16, 17, 18, 19, 20, 21, 22, 23, 47] rfl rfl (by decide) (by decide) hk1 hFc hP1 hD1
    have hP := hP.sub (ws' := LW g h h2 o q5 v6 f) [0, 1, 2, 3, 4, 5, 6, 7, 8, 9, 10, 11, 12, 13, 14, 15, 16, 17, 18, 19, 20, 21, 22, 23, 25, 26, 27, 28, 29, 30, 31, 32, 33, 34, 35, 36, 37, 38, 39, 40, 41, 42, 43, 44, 45, 46, 47, 24] rfl
    have hD := hD.sub (ws' := LW g h h2 o q5 v6 f) [0, 1, 2, 3, 4, 5, 6, 7, 8, 9, 10, 11, 12, 13, 14, 15, 16, 17, 18, 19, 20, 21, 22, 23, 25, 26, 27, 28, 29, 30, 31, 32, 33, 34, 35, 36, 37, 38, 39, 40, 41, 42, 43, 44, 45, 46, 47, 24] (by decide) rfl
    have hq := hst u v (xs (x4 + 1).toNatClampNeg) (xs (x4 + 2).toNatClampNeg) 1 hR (Or.inr rfl)
    rw [← hw6, ← hw5.1] at hq
    have hq1 := hq.1
    have hq3 := hq.2
    refine lv_aload_n hx hb dL_law_402 rfl (lv_at hl 3 rfl) ?_
    have hPc := hP.sub (ws' := mw g h2 v6) [24, 25, 26, 27, 28, 29, 30, 31, 32, 33, 34, 35, 36, 37, 38, 39, 40, 41, 42, 43, 44, 45, 46] rfl
    refine vp_callSi (W.runV (As := []) (rest := []) ⟨hx, hb, hml, hown, hts⟩ (kX5_thrown l dC dI g h2 v6) (cwV 0 hts (lgV wd_426 wd_427 wd_428 wd_241 wcX5_thrown) rfl rfl rfl (by decide +kernel) ⟨(Nat.le_of_ble_eq_true rfl), (Nat.le_of_ble_eq_true rfl)⟩) ⟨fun a U g mk q => by obtain ⟨q0, qP, qK⟩ := q; exact ⟨q0, qP, va_K.moved (u := U) (U := U.calling g mk a) (Vm.Alike.refl U.vm) qK⟩, va_recv hK hPc (ci := 4) (q0 := 0) rfl (mw_at0 _ _ _), fun U hU hW => ⟨rfl, by rw [hU]; exact hPc, va_K.moved hW.alike hK⟩⟩ rfl rfl hl.1 rfl (lv_room (Nat.le_of_ble_eq_true rfl)) dL_law_403 ⟨by show 48 + (j + 1) + 0 ≤ 1082; omega, by show 9269 + 6 * (j + 1) + 0 ≤ 17521; omega⟩) (fun r7 hw7 => ?_)
    refine lv_iload hx hb dL_law_406 (lv_at hl 0 rfl) ?_
    refine lv_icmp_eq (tgt := 413) hx hb dL_law_408 (by decide) (fun c_1 => ?_) (fun c_1 => absurd (hw7.trans hq1) c_1)
    refine lv_goto (tgt := 1552) hx hb dL_law_413 (by decide) ?_
    have hRR : Rl q5 v6 := by rw [hw5.2]; exact hq3
    exact K q5 v6 f _ _ _ hRR hP hD hS (lv_sub hl [1, 2, 3, 4, 5] rfl)
set_option maxHeartbeats 4000000 in
set_option maxRecDepth 100000 in
theorem lc_block {p : Program} {l : Launch} {e : Env} {s : State} {m : MethodId} {below : List Frame} {meth : Method} {c : Code} {b L : Nat} {xs : Nat → Int32} {dC : Nat → ClassId} {dI : Nat → Nat → Nat} {g : cG} {h h2 : Nat → Nat} {o : Nat} (X0 : lw_X p l s m meth c b L xs) (Rl : cS → mS → Prop) (hRc : ∀ (u : cS) (v : mS), Rl u v → cInv u) (hRm : ∀ (u : cS) (v : mS), Rl u v → mInv v) (hst : ∀ (u : cS) (v : mS) (x1 : Int32) (x2 : Int32), Rl u v → k_mcode (fX5_block v x1 x2).2 = wk [1, 2, 3, 4] (fX4_block u x1 x2).1 ∧ ((fX4_block u x1 x2).1 = 0 → (fX4_block u x1 x2).2.1 = (fX5_block v x1 x2).1) ∧ Rl (fX4_block u x1 x2).2.2 (fX5_block v x1 x2).2) (hL : L ≤ 2560) (hK : va_K (dC, dI) vwCl (cTys g) s) (j : Nat) (x4 : Int32) (hx4 : x4.toInt = 5 * (j : Int)) (hj : 5 * j + 5 ≤ L) (u : cS) (v : mS) (f : Nat → Int64) (hR : Rl u v) (H : Heap) (locs : List Loc) (hP : va_P (dC, dI) vwCl (LW g h h2 o u v f) H) (hD : va_D (fun q : Nat => s.heap.size ≤ q) (LW g h h2 o u v f)) (hS : va_S (fun q : Nat => s.heap.size ≤ q) s.heap H locs) (ls : Array Slot) (hl : lv_has ls 7 [(0, .ref b), (1, .ref (h 0)), (2, .ref (h2 0)), (3, .ref o), (4, .int x4)])
    (K : ∀ (u : cS) (v : mS) (f : Nat → Int64) (H : Heap) (locs : List Loc) (ls : Array Slot), Rl u v → va_P (dC, dI) vwCl (LW g h h2 o u v f) H → va_D (fun q : Nat => s.heap.size ≤ q) (LW g h h2 o u v f) → va_S (fun q : Nat => s.heap.size ≤ q) s.heap H locs → lv_has ls 7 [(0, .ref b), (1, .ref (h 0)), (2, .ref (h2 0)), (3, .ref o), (4, .int x4)] → W p l e room_1 s m #[Value.ref b] below meth c H locs (48 + (j + 1)) (9269 + 6 * (j + 1)) (lw_Z below #[Value.ref b] s) (F0 m 1552 ls [])) :
    W p l e room_1 s m #[Value.ref b] below meth c H locs (48 + j) (9269 + 6 * j) (lw_Z below #[Value.ref b] s) (F0 m 416 ls []) := by
  obtain ⟨⟨hx, hb, hr, hml, hown, hts, hX, hbl, hlocks, hgv⟩, hl9, hZ, hN⟩ := X0
  have hA : ∀ q : Nat, s.heap.size ≤ q → (fun q : Nat => s.heap.size ≤ q) q := fun _ h => h
  have hbA : ¬ (fun q : Nat => s.heap.size ≤ q) b := Nat.not_le.mpr hbl
  have n1 : (1 : Int32).toInt = 1 := by decide
  have e1 := i_add (x := x4) (y := 1) (by omega) (by omega)
  have i1 : vp_in (x4 + 1) L := vp_in_iff.mpr (by omega)
  have n2 : (2 : Int32).toInt = 2 := by decide
  have e2 := i_add (x := x4) (y := 2) (by omega) (by omega)
  have i2 : vp_in (x4 + 2) L := vp_in_iff.mpr (by omega)
  have n3 : (3 : Int32).toInt = 3 := by decide
  have e3 := i_add (x := x4) (y := 3) (by omega) (by omega)
  have i3 : vp_in (x4 + 3) L := vp_in_iff.mpr (by omega)
  have n4 : (4 : Int32).toInt = 4 := by decide
  have e4 := i_add (x := x4) (y := 4) (by omega) (by omega)
  have i4 : vp_in (x4 + 4) L := vp_in_iff.mpr (by omega)
  refine lv_aload_n hx hb dL_law_416 rfl (lv_at hl 1 rfl) ?_
  refine lv_aload_n hx hb dL_law_417 rfl (lv_at hl 0 rfl) ?_
  refine lv_iload hx hb dL_law_418 (lv_at hl 4 rfl) ?_
  refine lv_iconst (v := 1) hx hb dL_law_420 (by decide) ?_
  refine lv_iadd hx hb dL_law_421 ?_
  refine va_sld hx hb hX hbl hbA hS i1 dL_law_422 ?_
  refine lv_aload_n hx hb dL_law_423 rfl (lv_at hl 0 rfl) ?_
  refine lv_iload hx hb dL_law_424 (lv_at hl 4 rfl) ?_
  refine lv_iconst (v := 2) hx hb dL_law_426 (by decide) ?_
  refine lv_iadd hx hb dL_law_427 ?_
  refine va_sld hx hb hX hbl hbA hS i2 dL_law_428 ?_
  refine lv_aload_n hx hb dL_law_429 rfl (lv_at hl 3 rfl) ?_
  have hPc := hP.sub (ws' := ow g h o u f) [0, 1, 2, 3, 4, 5, 6, 7, 8, 9, 10, 11, 12, 13, 14, 15, 16, 17, 18, 19, 20, 21, 22, 23, 47] rfl
  have hDc := hD.sub (ws' := ow g h o u f) [0, 1, 2, 3, 4, 5, 6, 7, 8, 9, 10, 11, 12, 13, 14, 15, 16, 17, 18, 19, 20, 21, 22, 23, 47] (by decide) rfl
  have hFc := va_free (wc := ow g h o u f) hD hS hA [0, 1, 2, 3, 4, 5, 6, 7, 8, 9, 10, 11, 12, 13, 14, 15, 16, 17, 18, 19, 20, 21, 22, 23, 47] rfl
  refine va_calli (vx_runSW (hh := [(0, 10, 13, 33), (0, 10, 17, 13), (0, 10, 21, 35), (0, 10, 25, 15)]) (As := [.ref (h 0), .int (xs (x4 + 1).toNatClampNeg), .int (xs (x4 + 2).toNatClampNeg), .ref o]) (rest := []) ⟨hx, hb, hml, hown, hts⟩ (kL_block l hl9 dC dI g h o u f _ (xs (x4 + 1).toNatClampNeg) (xs (x4 + 2).toNatClampNeg) (hRc u v hR)) (vx_cwSW 4 hts (lgT wd_451 wd_452 wd_420 wcL_block) rfl rfl rfl (by decide +kernel) ⟨(Nat.le_of_ble_eq_true rfl), (Nat.le_of_ble_eq_true rfl)⟩) ⟨fun a U g mk q => by obtain ⟨q0, q1, qP, qK, qD, qZ, qN⟩ := q; exact ⟨q0, q1, qP, va_K.moved (u := U) (U := U.calling g mk a) (Vm.Alike.refl U.vm) qK, qD, zz_same (u := U) (H := U.heap) rfl rfl qZ, nn_moved (u := U) (U := U.calling g mk a) (Vm.Alike.refl U.vm) qN⟩, fun U hU hW => ⟨rfl, by rw [hU], by rw [hU]; exact hPc, va_K.moved hW.alike hK, hDc.weaken (fun _ _ _ _ => trivial), by rw [hU]; exact zz_to hZ hS hFc hW, nn_moved hW.alike hN⟩⟩ rfl rfl hl.1 rfl (lv_room (Nat.le_of_ble_eq_true rfl)) dL_law_430 ⟨by show 48 + j + 1 ≤ 1082; omega, by show 9269 + 6 * j + 6 ≤ 17521; omega⟩) hS (fun q _ h => hFc q h) hFc (fun r5 q5 t H1 locs ht hvm hw5 hB hz1 hk1 hS => ?_)
  obtain ⟨hP1, hD1⟩ := hB
  rw [ht] at hP1
  obtain ⟨hP, hD⟩ := va_join (wr := mw g h2 v) (w1 := ow g h o q5.1 q5.2) hP hD [0, 1, 2, 3, 4, 5, 6, 7, 8, 9, 10, 11, 12, 13, 14, 15, 16, 17, 18, 19, 20, 21, 22, 23, 47] [24, 25, 26, 27, 28, 29, 30, 31, 32, 33, 34, 35, 36, 37, 38, 39, 40, 41, 42, 43, 44, 45, 46] rfl rfl (by decide) (by decide) hk1 hFc hP1 hD1
  have hP := hP.sub (ws' := LW g h h2 o q5.1 v q5.2) [23, 24, 25, 26, 27, 28, 29, 30, 31, 32, 33, 34, 35, 36, 37, 38, 39, 40, 41, 42, 43, 44, 45, 46, 0, 1, 2, 3, 4, 5, 6, 7, 8, 9, 10, 11, 12, 13, 14, 15, 16, 17, 18, 19, 20, 21, 22, 47] rfl
  have hD := hD.sub (ws' := LW g h h2 o q5.1 v q5.2) [23, 24, 25, 26, 27, 28, 29, 30, 31, 32, 33, 34, 35, 36, 37, 38, 39, 40, 41, 42, 43, 44, 45, 46, 0, 1, 2, 3, 4, 5, 6, 7, 8, 9, 10, 11, 12, 13, 14, 15, 16, 17, 18, 19, 20, 21, 22, 47] (by decide) rfl
  refine W.widen (k := 48 + (j + 1)) (n := 9269 + 6 * (j + 1)) (by omega) (by omega) ?_
  refine lv_istore (lv' := [(5, .int r5), (0, .ref b), (1, .ref (h 0)), (2, .ref (h2 0)), (3, .ref o), (4, .int x4)]) hx hb dL_law_433 hl (by decide) rfl (fun ls hl => ?_)
  refine lv_aload_n hx hb dL_law_435 rfl (lv_at hl 3 rfl) ?_
  refine lv_aload_n hx hb dL_law_436 rfl (lv_at hl 1 rfl) ?_
  refine lv_iload hx hb dL_law_437 (lv_at hl 5 rfl) ?_
  refine lv_iconst (v := 1) hx hb dL_law_439 (by decide) ?_
  refine lv_iadd hx hb dL_law_440 ?_
  refine va_sld hx hb hX hbl hbA hS i1 dL_law_441 ?_
  refine lv_aload_n hx hb dL_law_442 rfl (lv_at hl 1 rfl) ?_
  refine lv_iload hx hb dL_law_443 (lv_at hl 5 rfl) ?_
  refine lv_iconst (v := 2) hx hb dL_law_445 (by decide) ?_
  refine lv_iadd hx hb dL_law_446 ?_
  refine va_sld hx hb hX hbl hbA hS i2 dL_law_447 ?_
  have hPc := hP.sub (ws' := mw g h2 v) [24, 25, 26, 27, 28, 29, 30, 31, 32, 33, 34, 35, 36, 37, 38, 39, 40, 41, 42, 43, 44, 45, 46] rfl
  have hDc := hD.sub (ws' := mw g h2 v) [24, 25, 26, 27, 28, 29, 30, 31, 32, 33, 34, 35, 36, 37, 38, 39, 40, 41, 42, 43, 44, 45, 46] (by decide) rfl
  have hFc := va_free (wc := mw g h2 v) hD hS hA [24, 25, 26, 27, 28, 29, 30, 31, 32, 33, 34, 35, 36, 37, 38, 39, 40, 41, 42, 43, 44, 45, 46] rfl
  refine va_calli (va_runV (As := [.int (xs (x4 + 1).toNatClampNeg), .int (xs (x4 + 2).toNatClampNeg)]) (rest := []) ⟨hx, hb, hml, hown, hts⟩ (kX5_block l dC dI g h2 v _ (xs (x4 + 1).toNatClampNeg) (xs (x4 + 2).toNatClampNeg) (hRm u v hR)) (cwV 2 hts (lgV wd_454 wd_455 wd_456 wd_241 wcX5_block) rfl rfl rfl (by decide +kernel) ⟨(Nat.le_of_ble_eq_true rfl), (Nat.le_of_ble_eq_true rfl)⟩) ⟨fun a U g mk q => by obtain ⟨q0, q1, qP, qK, qD⟩ := q; exact ⟨q0, q1, qP, va_K.moved (u := U) (U := U.calling g mk a) (Vm.Alike.refl U.vm) qK, qD⟩, va_recv hK hPc (ci := 4) (q0 := 0) rfl (mw_at0 _ _ _), fun U hU hW => ⟨rfl, by rw [hU], by rw [hU]; exact hPc, va_K.moved hW.alike hK, hDc.weaken (fun _ _ _ _ => trivial)⟩⟩ rfl rfl hl.1 rfl (lv_room (Nat.le_of_ble_eq_true rfl)) dL_law_448 ⟨by show 48 + (j + 1) + 0 ≤ 1082; omega, by show 9269 + 6 * (j + 1) + 0 ≤ 17521; omega⟩) hS (fun q _ h => hFc q h) hFc (fun r6 v6 t H1 locs ht hvm hw6 hB hz1 hk1 hS => ?_)
  obtain ⟨hP1, hD1⟩ := hB
  rw [ht] at hP1
  obtain ⟨hP, hD⟩ := va_join (wr := ow g h o q5.1 q5.2) (w1 := mw g h2 v6) hP hD [24, 25, 26, 27, 28, 29, 30, 31, 32, 33, 34, 35, 36, 37, 38, 39, 40, 41, 42, 43, 44, 45, 46] [0, 1, 2, 3, 4, 5, 6, 7, 8, 9, 10, 11, 12, 13, 14, 15, 16, 17, 18, 19, 20, 21, 22, 23, 47] rfl rfl (by decide) (by decide) hk1 hFc hP1 hD1
  have hP := hP.sub (ws' := LW g h h2 o q5.1 v6 q5.2) [0, 1, 2, 3, 4, 5, 6, 7, 8, 9, 10, 11, 12, 13, 14, 15, 16, 17, 18, 19, 20, 21, 22, 23, 25, 26, 27, 28, 29, 30, 31, 32, 33, 34, 35, 36, 37, 38, 39, 40, 41, 42, 43, 44, 45, 46, 47, 24] rfl
  have hD := hD.sub (ws' := LW g h h2 o q5.1 v6 q5.2) [0, 1, 2, 3, 4, 5, 6, 7, 8, 9, 10, 11, 12, 13, 14, 15, 16, 17, 18, 19, 20, 21, 22, 23, 25, 26, 27, 28, 29, 30, 31, 32, 33, 34, 35, 36, 37, 38, 39, 40, 41, 42, 43, 44, 45, 46, 47, 24] (by decide) rfl
  have hq := hst u v (xs (x4 + 1).toNatClampNeg) (xs (x4 + 2).toNatClampNeg) hR
  rw [← hw6, ← hw5.1] at hq
  have hq1 := hq.1
  have hq2 := hq.2.1
  have hq3 := hq.2.2
  refine lv_istore (lv' := [(6, .int r6), (5, .int r5), (0, .ref b), (1, .ref (h 0)), (2, .ref (h2 0)), (3, .ref o), (4, .int x4)]) hx hb dL_law_451 hl (by decide) rfl (fun ls hl => ?_)
  refine lv_aload_n hx hb dL_law_453 rfl (lv_at hl 4 rfl) ?_
  have hPc := hP.sub (ws' := mw g h2 v6) [24, 25, 26, 27, 28, 29, 30, 31, 32, 33, 34, 35, 36, 37, 38, 39, 40, 41, 42, 43, 44, 45, 46] rfl
  refine vp_callSi (W.runV (As := []) (rest := []) ⟨hx, hb, hml, hown, hts⟩ (kX5_thrown l dC dI g h2 v6) (cwV 0 hts (lgV wd_426 wd_427 wd_428 wd_241 wcX5_thrown) rfl rfl rfl (by decide +kernel) ⟨(Nat.le_of_ble_eq_true rfl), (Nat.le_of_ble_eq_true rfl)⟩) ⟨fun a U g mk q => by obtain ⟨q0, qP, qK⟩ := q; exact ⟨q0, qP, va_K.moved (u := U) (U := U.calling g mk a) (Vm.Alike.refl U.vm) qK⟩, va_recv hK hPc (ci := 4) (q0 := 0) rfl (mw_at0 _ _ _), fun U hU hW => ⟨rfl, by rw [hU]; exact hPc, va_K.moved hW.alike hK⟩⟩ rfl rfl hl.1 rfl (lv_room (Nat.le_of_ble_eq_true rfl)) dL_law_454 ⟨by show 48 + (j + 1) + 0 ≤ 1082; omega, by show 9269 + 6 * (j + 1) + 0 ≤ 17521; omega⟩) (fun r7 hw7 => ?_)
  refine lv_iload hx hb dL_law_457 (lv_at hl 1 rfl) ?_
  refine lv_icmp_eq (tgt := 464) hx hb dL_law_459 (by decide) (fun c_1 => ?_) (fun c_1 => absurd (hw7.trans hq1) c_1)
  refine lv_iload hx hb dL_law_464 (lv_at hl 1 rfl) ?_
  refine lv_if_ne (tgt := 481) hx hb dL_law_466 (by decide) (fun c_2 => ?_) (fun c_2 => ?_)
  · skip
    refine lv_goto (tgt := 1552) hx hb dL_law_481 (by decide) ?_
    have hRR : Rl q5.1 v6 := by rw [hw5.2]; exact hq3
    exact K q5.1 v6 q5.2 _ _ _ hRR hP hD hS (lv_sub hl [2, 3, 4, 5, 6] rfl)
  · skip
    have hk0 := wk_0 (by decide) (hw5.1.symm.trans c_2)
    have hv0 := hq2 hk0
    refine lv_aload_n hx hb dL_law_469 rfl (lv_at hl 5 rfl) ?_
    refine lv_iconst (v := 0) hx hb dL_law_470 (by decide) ?_
    refine va_lald (f := q5.2) hx hb hK hP 47 2 (LW_at47 _ _ _ _ _ _ _) rfl (vp_in_iff.mpr (by decide)) dL_law_471 ?_
    refine lv_iload hx hb dL_law_472 (lv_at hl 0 rfl) ?_
    refine lv_i2l (v := r6.toInt64) hx hb dL_law_474 rfl ?_
    refine W.lcmp hx hb dL_law_475 ?_
    have ho : q5.2 (0 : Int32).toNatClampNeg = r6.toInt64 := by
      rw [hw5.2]; show (if (fX4_block u (xs (x4 + 1).toNatClampNeg) (xs (x4 + 2).toNatClampNeg)).1 = 0 then vp_updL f (0 : Int32).toNatClampNeg (fX4_block u (xs (x4 + 1).toNatClampNeg) (xs (x4 + 2).toNatClampNeg)).2.1.toInt64 else f) _ = r6.toInt64
      rw [if_pos hk0, pk_uLs, hv0]
    rw [ho, lg_self]
    refine lv_if_eq (tgt := 481) hx hb dL_law_476 (by decide) (fun _ => ?_) (fun c_4 => absurd rfl c_4)
    refine lv_goto (tgt := 1552) hx hb dL_law_481 (by decide) ?_
    have hRR : Rl q5.1 v6 := by rw [hw5.2]; exact hq3
    exact K q5.1 v6 q5.2 _ _ _ hRR hP hD hS (lv_sub hl [2, 3, 4, 5, 6] rfl)
set_option maxHeartbeats 4000000 in
set_option maxRecDepth 100000 in
theorem lc_release {p : Program} {l : Launch} {e : Env} {s : State} {m : MethodId} {below : List Frame} {meth : Method} {c : Code} {b L : Nat} {xs : Nat → Int32} {dC : Nat → ClassId} {dI : Nat → Nat → Nat} {g : cG} {h h2 : Nat → Nat} {o : Nat} (X0 : lw_X p l s m meth c b L xs) (Rl : cS → mS → Prop) (hRc : ∀ (u : cS) (v : mS), Rl u v → cInv u) (hRm : ∀ (u : cS) (v : mS), Rl u v → mInv v) (hst : ∀ (u : cS) (v : mS) (x1 : Int32) (x2 : Int32), Rl u v → k_mcode (fX5_release v x1 x2).2 = wk [1, 2, 3, 4] (fX4_release u x1 x2).1 ∧ ((fX4_release u x1 x2).1 = 0 → (fX4_release u x1 x2).2.1 = (fX5_release v x1 x2).1) ∧ Rl (fX4_release u x1 x2).2.2 (fX5_release v x1 x2).2) (hL : L ≤ 2560) (hK : va_K (dC, dI) vwCl (cTys g) s) (j : Nat) (x4 : Int32) (hx4 : x4.toInt = 5 * (j : Int)) (hj : 5 * j + 5 ≤ L) (u : cS) (v : mS) (f : Nat → Int64) (hR : Rl u v) (H : Heap) (locs : List Loc) (hP : va_P (dC, dI) vwCl (LW g h h2 o u v f) H) (hD : va_D (fun q : Nat => s.heap.size ≤ q) (LW g h h2 o u v f)) (hS : va_S (fun q : Nat => s.heap.size ≤ q) s.heap H locs) (ls : Array Slot) (hl : lv_has ls 7 [(0, .ref b), (1, .ref (h 0)), (2, .ref (h2 0)), (3, .ref o), (4, .int x4)])
    (K : ∀ (u : cS) (v : mS) (f : Nat → Int64) (H : Heap) (locs : List Loc) (ls : Array Slot), Rl u v → va_P (dC, dI) vwCl (LW g h h2 o u v f) H → va_D (fun q : Nat => s.heap.size ≤ q) (LW g h h2 o u v f) → va_S (fun q : Nat => s.heap.size ≤ q) s.heap H locs → lv_has ls 7 [(0, .ref b), (1, .ref (h 0)), (2, .ref (h2 0)), (3, .ref o), (4, .int x4)] → W p l e room_1 s m #[Value.ref b] below meth c H locs (48 + (j + 1)) (9269 + 6 * (j + 1)) (lw_Z below #[Value.ref b] s) (F0 m 1552 ls [])) :
    W p l e room_1 s m #[Value.ref b] below meth c H locs (48 + j) (9269 + 6 * j) (lw_Z below #[Value.ref b] s) (F0 m 484 ls []) := by
  obtain ⟨⟨hx, hb, hr, hml, hown, hts, hX, hbl, hlocks, hgv⟩, hl9, hZ, hN⟩ := X0
  have hA : ∀ q : Nat, s.heap.size ≤ q → (fun q : Nat => s.heap.size ≤ q) q := fun _ h => h
  have hbA : ¬ (fun q : Nat => s.heap.size ≤ q) b := Nat.not_le.mpr hbl
  have n1 : (1 : Int32).toInt = 1 := by decide
  have e1 := i_add (x := x4) (y := 1) (by omega) (by omega)
  have i1 : vp_in (x4 + 1) L := vp_in_iff.mpr (by omega)
  have n2 : (2 : Int32).toInt = 2 := by decide
  have e2 := i_add (x := x4) (y := 2) (by omega) (by omega)
  have i2 : vp_in (x4 + 2) L := vp_in_iff.mpr (by omega)
  have n3 : (3 : Int32).toInt = 3 := by decide
  have e3 := i_add (x := x4) (y := 3) (by omega) (by omega)
  have i3 : vp_in (x4 + 3) L := vp_in_iff.mpr (by omega)
  have n4 : (4 : Int32).toInt = 4 := by decide
  have e4 := i_add (x := x4) (y := 4) (by omega) (by omega)
  have i4 : vp_in (x4 + 4) L := vp_in_iff.mpr (by omega)
  refine lv_aload_n hx hb dL_law_484 rfl (lv_at hl 1 rfl) ?_
  refine lv_aload_n hx hb dL_law_485 rfl (lv_at hl 0 rfl) ?_
  refine lv_iload hx hb dL_law_486 (lv_at hl 4 rfl) ?_
  refine lv_iconst (v := 1) hx hb dL_law_488 (by decide) ?_
  refine lv_iadd hx hb dL_law_489 ?_
  refine va_sld hx hb hX hbl hbA hS i1 dL_law_490 ?_
  refine lv_aload_n hx hb dL_law_491 rfl (lv_at hl 0 rfl) ?_
  refine lv_iload hx hb dL_law_492 (lv_at hl 4 rfl) ?_
  refine lv_iconst (v := 2) hx hb dL_law_494 (by decide) ?_
  refine lv_iadd hx hb dL_law_495 ?_
  refine va_sld hx hb hX hbl hbA hS i2 dL_law_496 ?_
  refine lv_aload_n hx hb dL_law_497 rfl (lv_at hl 3 rfl) ?_
  have hPc := hP.sub (ws' := ow g h o u f) [0, 1, 2, 3, 4, 5, 6, 7, 8, 9, 10, 11, 12, 13, 14, 15, 16, 17, 18, 19, 20, 21, 22, 23, 47] rfl
  have hDc := hD.sub (ws' := ow g h o u f) [0, 1, 2, 3, 4, 5, 6, 7, 8, 9, 10, 11, 12, 13, 14, 15, 16, 17, 18, 19, 20, 21, 22, 23, 47] (by decide) rfl
  have hFc := va_free (wc := ow g h o u f) hD hS hA [0, 1, 2, 3, 4, 5, 6, 7, 8, 9, 10, 11, 12, 13, 14, 15, 16, 17, 18, 19, 20, 21, 22, 23, 47] rfl
  refine va_calli (vx_runSW (hh := [(0, 10, 13, 33), (0, 10, 17, 13), (0, 10, 21, 35), (0, 10, 25, 15)]) (As := [.ref (h 0), .int (xs (x4 + 1).toNatClampNeg), .int (xs (x4 + 2).toNatClampNeg), .ref o]) (rest := []) ⟨hx, hb, hml, hown, hts⟩ (kL_release l hl9 dC dI g h o u f _ (xs (x4 + 1).toNatClampNeg) (xs (x4 + 2).toNatClampNeg) (hRc u v hR)) (vx_cwSW 4 hts (lgT wd_458 wd_459 wd_420 wcL_release) rfl rfl rfl (by decide +kernel) ⟨(Nat.le_of_ble_eq_true rfl), (Nat.le_of_ble_eq_true rfl)⟩) ⟨fun a U g mk q => by obtain ⟨q0, q1, qP, qK, qD, qZ, qN⟩ := q; exact ⟨q0, q1, qP, va_K.moved (u := U) (U := U.calling g mk a) (Vm.Alike.refl U.vm) qK, qD, zz_same (u := U) (H := U.heap) rfl rfl qZ, nn_moved (u := U) (U := U.calling g mk a) (Vm.Alike.refl U.vm) qN⟩, fun U hU hW => ⟨rfl, by rw [hU], by rw [hU]; exact hPc, va_K.moved hW.alike hK, hDc.weaken (fun _ _ _ _ => trivial), by rw [hU]; exact zz_to hZ hS hFc hW, nn_moved hW.alike hN⟩⟩ rfl rfl hl.1 rfl (lv_room (Nat.le_of_ble_eq_true rfl)) dL_law_498 ⟨by show 48 + j + 1 ≤ 1082; omega, by show 9269 + 6 * j + 6 ≤ 17521; omega⟩) hS (fun q _ h => hFc q h) hFc (fun r5 q5 t H1 locs ht hvm hw5 hB hz1 hk1 hS => ?_)
  obtain ⟨hP1, hD1⟩ := hB
  rw [ht] at hP1
  obtain ⟨hP, hD⟩ := va_join (wr := mw g h2 v) (w1 := ow g h o q5.1 q5.2) hP hD [0, 1, 2, 3, 4, 5, 6, 7, 8, 9, 10, 11, 12, 13, 14, 15, 16, 17, 18, 19, 20, 21, 22, 23, 47] [24, 25, 26, 27, 28, 29, 30, 31, 32, 33, 34, 35, 36, 37, 38, 39, 40, 41, 42, 43, 44, 45, 46] rfl rfl (by decide) (by decide) hk1 hFc hP1 hD1
  have hP := hP.sub (ws' := LW g h h2 o q5.1 v q5.2) [23, 24, 25, 26, 27, 28, 29, 30, 31, 32, 33, 34, 35, 36, 37, 38, 39, 40, 41, 42, 43, 44, 45, 46, 0, 1, 2, 3, 4, 5, 6, 7, 8, 9, 10, 11, 12, 13, 14, 15, 16, 17, 18, 19, 20, 21, 22, 47] rfl
  have hD := hD.sub (ws' := LW g h h2 o q5.1 v q5.2) [23, 24, 25, 26, 27, 28, 29, 30, 31, 32, 33, 34, 35, 36, 37, 38, 39, 40, 41, 42, 43, 44, 45, 46, 0, 1, 2, 3, 4, 5, 6, 7, 8, 9, 10, 11, 12, 13, 14, 15, 16, 17, 18, 19, 20, 21, 22, 47] (by decide) rfl
  refine W.widen (k := 48 + (j + 1)) (n := 9269 + 6 * (j + 1)) (by omega) (by omega) ?_
  refine lv_istore (lv' := [(5, .int r5), (0, .ref b), (1, .ref (h 0)), (2, .ref (h2 0)), (3, .ref o), (4, .int x4)]) hx hb dL_law_501 hl (by decide) rfl (fun ls hl => ?_)
  refine lv_aload_n hx hb dL_law_503 rfl (lv_at hl 3 rfl) ?_
  refine lv_aload_n hx hb dL_law_504 rfl (lv_at hl 1 rfl) ?_
  refine lv_iload hx hb dL_law_505 (lv_at hl 5 rfl) ?_
  refine lv_iconst (v := 1) hx hb dL_law_507 (by decide) ?_
  refine lv_iadd hx hb dL_law_508 ?_
  refine va_sld hx hb hX hbl hbA hS i1 dL_law_509 ?_
  refine lv_aload_n hx hb dL_law_510 rfl (lv_at hl 1 rfl) ?_
  refine lv_iload hx hb dL_law_511 (lv_at hl 5 rfl) ?_
  refine lv_iconst (v := 2) hx hb dL_law_513 (by decide) ?_
  refine lv_iadd hx hb dL_law_514 ?_
  refine va_sld hx hb hX hbl hbA hS i2 dL_law_515 ?_
  have hPc := hP.sub (ws' := mw g h2 v) [24, 25, 26, 27, 28, 29, 30, 31, 32, 33, 34, 35, 36, 37, 38, 39, 40, 41, 42, 43, 44, 45, 46] rfl
  have hDc := hD.sub (ws' := mw g h2 v) [24, 25, 26, 27, 28, 29, 30, 31, 32, 33, 34, 35, 36, 37, 38, 39, 40, 41, 42, 43, 44, 45, 46] (by decide) rfl
  have hFc := va_free (wc := mw g h2 v) hD hS hA [24, 25, 26, 27, 28, 29, 30, 31, 32, 33, 34, 35, 36, 37, 38, 39, 40, 41, 42, 43, 44, 45, 46] rfl
  refine va_calli (va_runV (As := [.int (xs (x4 + 1).toNatClampNeg), .int (xs (x4 + 2).toNatClampNeg)]) (rest := []) ⟨hx, hb, hml, hown, hts⟩ (kX5_release l dC dI g h2 v _ (xs (x4 + 1).toNatClampNeg) (xs (x4 + 2).toNatClampNeg) (hRm u v hR)) (cwV 2 hts (lgV wd_461 wd_462 wd_463 wd_241 wcX5_release) rfl rfl rfl (by decide +kernel) ⟨(Nat.le_of_ble_eq_true rfl), (Nat.le_of_ble_eq_true rfl)⟩) ⟨fun a U g mk q => by obtain ⟨q0, q1, qP, qK, qD⟩ := q; exact ⟨q0, q1, qP, va_K.moved (u := U) (U := U.calling g mk a) (Vm.Alike.refl U.vm) qK, qD⟩, va_recv hK hPc (ci := 4) (q0 := 0) rfl (mw_at0 _ _ _), fun U hU hW => ⟨rfl, by rw [hU], by rw [hU]; exact hPc, va_K.moved hW.alike hK, hDc.weaken (fun _ _ _ _ => trivial)⟩⟩ rfl rfl hl.1 rfl (lv_room (Nat.le_of_ble_eq_true rfl)) dL_law_516 ⟨by show 48 + (j + 1) + 0 ≤ 1082; omega, by show 9269 + 6 * (j + 1) + 0 ≤ 17521; omega⟩) hS (fun q _ h => hFc q h) hFc (fun r6 v6 t H1 locs ht hvm hw6 hB hz1 hk1 hS => ?_)
  obtain ⟨hP1, hD1⟩ := hB
  rw [ht] at hP1
  obtain ⟨hP, hD⟩ := va_join (wr := ow g h o q5.1 q5.2) (w1 := mw g h2 v6) hP hD [24, 25, 26, 27, 28, 29, 30, 31, 32, 33, 34, 35, 36, 37, 38, 39, 40, 41, 42, 43, 44, 45, 46] [0, 1, 2, 3, 4, 5, 6, 7, 8, 9, 10, 11, 12, 13, 14, 15, 16, 17, 18, 19, 20, 21, 22, 23, 47] rfl rfl (by decide) (by decide) hk1 hFc hP1 hD1
  have hP := hP.sub (ws' := LW g h h2 o q5.1 v6 q5.2) [0, 1, 2, 3, 4, 5, 6, 7, 8, 9, 10, 11, 12, 13, 14, 15, 16, 17, 18, 19, 20, 21, 22, 23, 25, 26, 27, 28, 29, 30, 31, 32, 33, 34, 35, 36, 37, 38, 39, 40, 41, 42, 43, 44, 45, 46, 47, 24] rfl
  have hD := hD.sub (ws' := LW g h h2 o q5.1 v6 q5.2) [0, 1, 2, 3, 4, 5, 6, 7, 8, 9, 10, 11, 12, 13, 14, 15, 16, 17, 18, 19, 20, 21, 22, 23, 25, 26, 27, 28, 29, 30, 31, 32, 33, 34, 35, 36, 37, 38, 39, 40, 41, 42, 43, 44, 45, 46, 47, 24] (by decide) rfl
  have hq := hst u v (xs (x4 + 1).toNatClampNeg) (xs (x4 + 2).toNatClampNeg) hR
  rw [← hw6, ← hw5.1] at hq
  have hq1 := hq.1
  have hq2 := hq.2.1
  have hq3 := hq.2.2
  refine lv_istore (lv' := [(6, .int r6), (5, .int r5), (0, .ref b), (1, .ref (h 0)), (2, .ref (h2 0)), (3, .ref o), (4, .int x4)]) hx hb dL_law_519 hl (by decide) rfl (fun ls hl => ?_)
  refine lv_aload_n hx hb dL_law_521 rfl (lv_at hl 4 rfl) ?_
  have hPc := hP.sub (ws' := mw g h2 v6) [24, 25, 26, 27, 28, 29, 30, 31, 32, 33, 34, 35, 36, 37, 38, 39, 40, 41, 42, 43, 44, 45, 46] rfl
  refine vp_callSi (W.runV (As := []) (rest := []) ⟨hx, hb, hml, hown, hts⟩ (kX5_thrown l dC dI g h2 v6) (cwV 0 hts (lgV wd_426 wd_427 wd_428 wd_241 wcX5_thrown) rfl rfl rfl (by decide +kernel) ⟨(Nat.le_of_ble_eq_true rfl), (Nat.le_of_ble_eq_true rfl)⟩) ⟨fun a U g mk q => by obtain ⟨q0, qP, qK⟩ := q; exact ⟨q0, qP, va_K.moved (u := U) (U := U.calling g mk a) (Vm.Alike.refl U.vm) qK⟩, va_recv hK hPc (ci := 4) (q0 := 0) rfl (mw_at0 _ _ _), fun U hU hW => ⟨rfl, by rw [hU]; exact hPc, va_K.moved hW.alike hK⟩⟩ rfl rfl hl.1 rfl (lv_room (Nat.le_of_ble_eq_true rfl)) dL_law_522 ⟨by show 48 + (j + 1) + 0 ≤ 1082; omega, by show 9269 + 6 * (j + 1) + 0 ≤ 17521; omega⟩) (fun r7 hw7 => ?_)
  refine lv_iload hx hb dL_law_525 (lv_at hl 1 rfl) ?_
  refine lv_icmp_eq (tgt := 532) hx hb dL_law_527 (by decide) (fun c_1 => ?_) (fun c_1 => absurd (hw7.trans hq1) c_1)
  refine lv_iload hx hb dL_law_532 (lv_at hl 1 rfl) ?_
  refine lv_if_ne (tgt := 549) hx hb dL_law_534 (by decide) (fun c_2 => ?_) (fun c_2 => ?_)
  · skip
    refine lv_goto (tgt := 1552) hx hb dL_law_549 (by decide) ?_
    have hRR : Rl q5.1 v6 := by rw [hw5.2]; exact hq3
    exact K q5.1 v6 q5.2 _ _ _ hRR hP hD hS (lv_sub hl [2, 3, 4, 5, 6] rfl)
  · skip
    have hk0 := wk_0 (by decide) (hw5.1.symm.trans c_2)
    have hv0 := hq2 hk0
    refine lv_aload_n hx hb dL_law_537 rfl (lv_at hl 5 rfl) ?_
    refine lv_iconst (v := 0) hx hb dL_law_538 (by decide) ?_
    refine va_lald (f := q5.2) hx hb hK hP 47 2 (LW_at47 _ _ _ _ _ _ _) rfl (vp_in_iff.mpr (by decide)) dL_law_539 ?_
    refine lv_iload hx hb dL_law_540 (lv_at hl 0 rfl) ?_
    refine lv_i2l (v := r6.toInt64) hx hb dL_law_542 rfl ?_
    refine W.lcmp hx hb dL_law_543 ?_
    have ho : q5.2 (0 : Int32).toNatClampNeg = r6.toInt64 := by
      rw [hw5.2]; show (if (fX4_release u (xs (x4 + 1).toNatClampNeg) (xs (x4 + 2).toNatClampNeg)).1 = 0 then vp_updL f (0 : Int32).toNatClampNeg (fX4_release u (xs (x4 + 1).toNatClampNeg) (xs (x4 + 2).toNatClampNeg)).2.1.toInt64 else f) _ = r6.toInt64
      rw [if_pos hk0, pk_uLs, hv0]
    rw [ho, lg_self]
    refine lv_if_eq (tgt := 549) hx hb dL_law_544 (by decide) (fun _ => ?_) (fun c_4 => absurd rfl c_4)
    refine lv_goto (tgt := 1552) hx hb dL_law_549 (by decide) ?_
    have hRR : Rl q5.1 v6 := by rw [hw5.2]; exact hq3
    exact K q5.1 v6 q5.2 _ _ _ hRR hP hD hS (lv_sub hl [2, 3, 4, 5, 6] rfl)