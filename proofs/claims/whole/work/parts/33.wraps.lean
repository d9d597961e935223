set_option maxHeartbeats 4000000 in
set_option maxRecDepth 100000 in
theorem kL_lot (l : Launch) (hl9 : l.stackTraces = false) (dC : Nat → ClassId) (dI : Nat → Nat → Nat) (g : cG) (h : Nat → Nat) (o : Nat) (u : cS) (f : Nat → Int64) (sz : Nat) (x1 : Int32) (x2 : Int32) (x3 : Int32) (x4 : Int32) (hI : cInv u) : Met l yL_lot wsL_lot ({ frames := 8, cells := 1, slots := 6, locals := 129 }) (va_Pc [.ref (h 0), .int x1, .int x2, .int x3, .int x4, .ref o] (fun U => U.heap.size = sz ∧ va_P (dC, dI) vwCl (ow g h o u f) U.heap ∧ va_K (dC, dI) vwCl (cTys g) U ∧ va_D (fun _ => True) (ow g h o u f) ∧ zz (va_A (ow g h o u f) sz) U U.heap ∧ nn U)) (va_Qi (fun (r : Int32) (q : cS × (Nat → Int64)) => r = wk [2, 4] (fX4_lot u x1 x2 x3 x4).1 ∧ q = wq (fX4_lot u x1 x2 x3 x4) f) (fun q t => va_P (dC, dI) vwCl (ow g h o q.1 q.2) t.heap ∧ va_D (va_A (ow g h o u f) sz) (ow g h o q.1 q.2)) (va_A (ow g h o u f) sz)) 1 6 (va_A (ow g h o u f) sz) := by
  refine va_MetW (cc := cL_lot) (maxL := 7) (ret := (some .int)) (hh := [(0, 14, 17, 13), (0, 14, 21, 15)]) (by decide) rfl ?_
  intro p e s m args below meth c s₁ B hml hv
  obtain ⟨rfl, hsz, hP, hK, hD0, hZ, hN⟩ := hv
  have hx := B.exec
  have hb := B.bytes
  have hr := B.returns
  have hts := atoms_spec (ws := wsL_lot) B.pre
  have hown : s.vm.findClass RL = some m.cls := findClass_of_methodNamed B.named
  have hlocks := B.notSynchronized
  have htab := vx_table (x := yL_lot) B (hts _ List.mem_cons_self)
  subst hsz
  have hD := hD0.self (sz := s.heap.size)
  generalize hAe : va_A (ow g h o u f) s.heap.size = A at hD hZ ⊢
  have hA : ∀ q : Nat, s.heap.size ≤ q → A q := fun q h => by rw [← hAe]; exact Or.inr h
  have hS : va_S A s.heap s.heap [] := va_S.rf
  have hl := lv_entry ([.ref (h 0), .int x1, .int x2, .int x3, .int x4, .ref o]) (n := 7) (Nat.le_of_ble_eq_true rfl)
  rw [lg_entry_eq]
  generalize (lg_sl ([.ref (h 0), .int x1, .int x2, .int x3, .int x4, .ref o]) ++ List.replicate (7 - (lg_sl ([.ref (h 0), .int x1, .int x2, .int x3, .int x4, .ref o])).length) Slot.unset).toArray = ls at hl ⊢
  have hl : lv_has ls 7 [(0, .ref (h 0)), (1, .int x1), (2, .int x2), (3, .int x3), (4, .int x4), (5, .ref o)] := hl
  refine lv_aload hx hb dL_lot_0 (lv_at hl 5 rfl) ?_
  refine lv_iconst (v := 0) hx hb dL_lot_2 (by decide) ?_
  refine lv_aload_n hx hb dL_lot_3 rfl (lv_at hl 0 rfl) ?_
  refine lv_iload_n hx hb dL_lot_4 rfl (lv_at hl 1 rfl) ?_
  refine lv_iload_n hx hb dL_lot_5 rfl (lv_at hl 2 rfl) ?_
  refine lv_iload_n hx hb dL_lot_6 rfl (lv_at hl 3 rfl) ?_
  refine lv_iload hx hb dL_lot_7 (lv_at hl 4 rfl) ?_
  have hPc := hP.sub (ws' := cw g h u) [0, 1, 2, 3, 4, 5, 6, 7, 8, 9, 10, 11, 12, 13, 14, 15, 16, 17, 18, 19, 20, 21, 22, 23] rfl
  have hDc := hD.sub (ws' := cw g h u) [0, 1, 2, 3, 4, 5, 6, 7, 8, 9, 10, 11, 12, 13, 14, 15, 16, 17, 18, 19, 20, 21, 22, 23] (by decide) rfl
  have hFc := va_free (wc := cw g h u) hD hS hA [0, 1, 2, 3, 4, 5, 6, 7, 8, 9, 10, 11, 12, 13, 14, 15, 16, 17, 18, 19, 20, 21, 22, 23] rfl
  refine vy_calli (vy_runV (As := [.int x1, .int x2, .int x3, .int x4]) (rest := [.int 0, .ref o]) ⟨hx, hb, hml, hown, hts⟩ (kX4_lot l hl9 dC dI g h u _ x1 x2 x3 x4 hI) (cwV 4 hts (gV wd_330 wd_331 wd_332 wd_92 wcX4_lot) rfl rfl rfl (by decide +kernel) ⟨(Nat.le_of_ble_eq_true rfl), (Nat.le_of_ble_eq_true rfl)⟩) ⟨fun a U g mk q => by obtain ⟨q0, q1, qP, qK, qD, qZ⟩ := q; exact ⟨q0, q1, qP, va_K.moved (u := U) (U := U.calling g mk a) (Vm.Alike.refl U.vm) qK, qD, zz_same (u := U) (H := U.heap) rfl rfl qZ⟩, va_recv hK hPc (ci := 3) (q0 := 0) rfl (cw_at0 _ _ _), fun U hU hW => ⟨rfl, by rw [hU], by rw [hU]; exact hPc, va_K.moved hW.alike hK, hDc.weaken (fun _ _ _ _ => trivial), by rw [hU]; exact zz_to hZ hS hFc hW⟩⟩ rfl rfl hl.1 rfl (lv_room (Nat.le_of_ble_eq_true rfl)) dL_lot_9 ⟨(Nat.le_of_ble_eq_true rfl), (Nat.le_of_ble_eq_true rfl)⟩) hS (fun q _ h => hFc q h) hFc (fun q _ h => hFc q h) (fun E ce q9 u2 t H1 locs1 ht hvm hw hB hz1 hk1 hS hce hcv hcl => ?_) (fun r u2 t H1 locs1 ht hvm hw hB hz1 hk1 hS => ?_)
  · skip
    obtain ⟨⟨kx, hk, hE⟩, hP1, hD1⟩ := hB
    rw [ht] at hP1
    obtain ⟨hP, hD⟩ := va_join (wr := [(o, .inl (g.2.2, 1, .inr (.inl f)))]) (w1 := cw g h u2) hP hD [0, 1, 2, 3, 4, 5, 6, 7, 8, 9, 10, 11, 12, 13, 14, 15, 16, 17, 18, 19, 20, 21, 22, 23] [24] rfl rfl (by decide) (by decide) hk1 hFc hP1 hD1
    have hP := hP.sub (ws' := ow g h o u2 f) [1, 2, 3, 4, 5, 6, 7, 8, 9, 10, 11, 12, 13, 14, 15, 16, 17, 18, 19, 20, 21, 22, 23, 24, 0] rfl
    have hD := hD.sub (ws' := ow g h o u2 f) [1, 2, 3, 4, 5, 6, 7, 8, 9, 10, 11, 12, 13, 14, 15, 16, 17, 18, 19, 20, 21, 22, 23, 24, 0] (by decide) rfl
    have hc := cdX4_lot u x1 x2 x3 x4
    rw [hk] at hc
    rcases hc with hc | hc | hc
    · skip
      have hc : kx = 0 := hc
      subst hc
      exact hE.elim
    · skip
      have hc : kx = 2 := hc
      subst hc
      have hE : E = "java/lang/IllegalArgumentException" := hE
      subst hE
      refine vx_catch (own := RL) (name := "java/lang/IllegalArgumentException") hown ([] : List ExceptionTableEntry) ⟨0, 14, 17, 13⟩ ([⟨0, 14, 21, 15⟩] : List ExceptionTableEntry) (htab.trans rfl) (fun z hz => nomatch hz) (by decide) (by decide) (hts _ (List.mem_cons_of_mem _ wd_334)) (zz_ws hZ (B := [.castable "java/lang/IllegalArgumentException" "java/lang/IllegalArgumentException"]) (by decide +kernel) _ List.mem_cons_self) hce hcv hcl ?_
      refine lv_astore (lv' := [(6, .ref q9), (0, .ref (h 0)), (1, .int x1), (2, .int x2), (3, .int x3), (4, .int x4), (5, .ref o)]) hx hb dL_lot_17 hl (by decide) rfl (fun ls hl => ?_)
      refine lv_iconst (v := 1) hx hb dL_lot_19 (by decide) ?_
      exact W.iret (v := 1) hx hb hr (fun t ht hW => ⟨⟨1, (u2, f), rfl, (by rw [hk]; exact ⟨rfl, rfl⟩), by rw [ht]; exact hP, hD⟩, hS.F ht⟩) hS.2.2 dL_lot_20
    · skip
      have hc : kx = 4 := hc
      subst hc
      have hE : E = "java/lang/UnsupportedOperationException" := hE
      subst hE
      refine vx_catch (own := RL) (name := "java/lang/UnsupportedOperationException") hown ([⟨0, 14, 17, 13⟩] : List ExceptionTableEntry) ⟨0, 14, 21, 15⟩ ([] : List ExceptionTableEntry) (htab.trans rfl) (fun z hz => by
        simp only [List.mem_cons, List.not_mem_nil, or_false] at hz
        rcases hz with rfl
        · exact Or.inr ⟨by decide, "java/lang/IllegalArgumentException", (hts _ (List.mem_cons_of_mem _ wd_334)), hN ("java/lang/UnsupportedOperationException", "java/lang/IllegalArgumentException") (by decide +kernel)⟩) (by decide) (by decide) (hts _ (List.mem_cons_of_mem _ wd_335)) (zz_ws hZ (B := [.castable "java/lang/UnsupportedOperationException" "java/lang/UnsupportedOperationException"]) (by decide +kernel) _ List.mem_cons_self) hce hcv hcl ?_
      refine lv_astore (lv' := [(6, .ref q9), (0, .ref (h 0)), (1, .int x1), (2, .int x2), (3, .int x3), (4, .int x4), (5, .ref o)]) hx hb dL_lot_21 hl (by decide) rfl (fun ls hl => ?_)
      refine lv_iconst (v := 2) hx hb dL_lot_23 (by decide) ?_
      exact W.iret (v := 2) hx hb hr (fun t ht hW => ⟨⟨2, (u2, f), rfl, (by rw [hk]; exact ⟨rfl, rfl⟩), by rw [ht]; exact hP, hD⟩, hS.F ht⟩) hS.2.2 dL_lot_24
  · skip
    obtain ⟨hP1, hD1⟩ := hB
    rw [ht] at hP1
    obtain ⟨hP, hD⟩ := va_join (wr := [(o, .inl (g.2.2, 1, .inr (.inl f)))]) (w1 := cw g h u2) hP hD [0, 1, 2, 3, 4, 5, 6, 7, 8, 9, 10, 11, 12, 13, 14, 15, 16, 17, 18, 19, 20, 21, 22, 23] [24] rfl rfl (by decide) (by decide) hk1 hFc hP1 hD1
    have hP := hP.sub (ws' := ow g h o u2 f) [1, 2, 3, 4, 5, 6, 7, 8, 9, 10, 11, 12, 13, 14, 15, 16, 17, 18, 19, 20, 21, 22, 23, 24, 0] rfl
    have hD := hD.sub (ws' := ow g h o u2 f) [1, 2, 3, 4, 5, 6, 7, 8, 9, 10, 11, 12, 13, 14, 15, 16, 17, 18, 19, 20, 21, 22, 23, 24, 0] (by decide) rfl
    refine W.widen (k := 1) (n := 6) (Nat.le_of_ble_eq_true rfl) (Nat.le_of_ble_eq_true rfl) ?_
    refine lv_i2l (v := r.toInt64) hx hb dL_lot_12 rfl ?_
    refine va_last (f := f) hx hb hK hP hD hS 24 2 (ow_at24 _ _ _ _ _) rfl (vp_in_iff.mpr (by decide)) dL_lot_13 (fun H locs hP hD hS => ?_)
    have hP : va_P (dC, dI) vwCl (ow g h o u2 (vp_updL f (0 : Int32).toNatClampNeg r.toInt64)) H := hP
    have hD : va_D A (ow g h o u2 (vp_updL f (0 : Int32).toNatClampNeg r.toInt64)) := hD
    refine lv_goto (tgt := 25) hx hb dL_lot_14 (by decide) ?_
    refine lv_iconst (v := 0) hx hb dL_lot_25 (by decide) ?_
    exact W.iret (v := 0) hx hb hr (fun t ht hW => ⟨⟨0, (u2, (vp_updL f (0 : Int32).toNatClampNeg r.toInt64)), rfl, (by rw [hw]; exact ⟨rfl, rfl⟩), by rw [ht]; exact hP, hD⟩, hS.F ht⟩) hS.2.2 dL_lot_26
set_option maxHeartbeats 4000000 in
set_option maxRecDepth 100000 in
theorem kL_rule (l : Launch) (hl9 : l.stackTraces = false) (dC : Nat → ClassId) (dI : Nat → Nat → Nat) (g : cG) (h : Nat → Nat) (u : cS) (sz : Nat) (x1 : Int32) (x2 : Int32) (x3 : Int32) (hI : cInv u) : Met l yL_rule wsL_rule ({ frames := 8, cells := 1, slots := 6, locals := 127 }) (va_Pc [.ref (h 0), .int x1, .int x2, .int x3] (fun U => U.heap.size = sz ∧ va_P (dC, dI) vwCl (cw g h u) U.heap ∧ va_K (dC, dI) vwCl (cTys g) U ∧ va_D (fun _ => True) (cw g h u) ∧ zz (va_A (cw g h u) sz) U U.heap ∧ nn U)) (va_Qi (fun (r : Int32) (q : cS) => r = wk [2] (fX4_rule u x1 x2 x3).1 ∧ q = (fX4_rule u x1 x2 x3).2.2) (fun q t => va_P (dC, dI) vwCl (cw g h q) t.heap ∧ va_D (va_A (cw g h u) sz) (cw g h q)) (va_A (cw g h u) sz)) 1 6 (va_A (cw g h u) sz) := by
  refine va_MetW (cc := cL_rule) (maxL := 5) (ret := (some .int)) (hh := [(0, 7, 10, 13)]) (by decide) rfl ?_
  intro p e s m args below meth c s₁ B hml hv
  obtain ⟨rfl, hsz, hP, hK, hD0, hZ, hN⟩ := hv
  have hx := B.exec
  have hb := B.bytes
  have hr := B.returns
  have hts := atoms_spec (ws := wsL_rule) B.pre
  have hown : s.vm.findClass RL = some m.cls := findClass_of_methodNamed B.named
  have hlocks := B.notSynchronized
  have htab := vx_table (x := yL_rule) B (hts _ List.mem_cons_self)
  subst hsz
  have hD := hD0.self (sz := s.heap.size)
  generalize hAe : va_A (cw g h u) s.heap.size = A at hD hZ ⊢
  have hA : ∀ q : Nat, s.heap.size ≤ q → A q := fun q h => by rw [← hAe]; exact Or.inr h
  have hS : va_S A s.heap s.heap [] := va_S.rf
  have hl := lv_entry ([.ref (h 0), .int x1, .int x2, .int x3]) (n := 5) (Nat.le_of_ble_eq_true rfl)
  rw [lg_entry_eq]
  generalize (lg_sl ([.ref (h 0), .int x1, .int x2, .int x3]) ++ List.replicate (5 - (lg_sl ([.ref (h 0), .int x1, .int x2, .int x3])).length) Slot.unset).toArray = ls at hl ⊢
  have hl : lv_has ls 5 [(0, .ref (h 0)), (1, .int x1), (2, .int x2), (3, .int x3)] := hl
  refine lv_aload_n hx hb dL_rule_0 rfl (lv_at hl 0 rfl) ?_
  refine lv_iload_n hx hb dL_rule_1 rfl (lv_at hl 1 rfl) ?_
  refine lv_iload_n hx hb dL_rule_2 rfl (lv_at hl 2 rfl) ?_
  refine lv_iload_n hx hb dL_rule_3 rfl (lv_at hl 3 rfl) ?_
  have hPc := hP.sub (ws' := cw g h u) [0, 1, 2, 3, 4, 5, 6, 7, 8, 9, 10, 11, 12, 13, 14, 15, 16, 17, 18, 19, 20, 21, 22, 23] rfl
  have hDc := hD.sub (ws' := cw g h u) [0, 1, 2, 3, 4, 5, 6, 7, 8, 9, 10, 11, 12, 13, 14, 15, 16, 17, 18, 19, 20, 21, 22, 23] (by decide) rfl
  have hFc := va_free (wc := cw g h u) hD hS hA [0, 1, 2, 3, 4, 5, 6, 7, 8, 9, 10, 11, 12, 13, 14, 15, 16, 17, 18, 19, 20, 21, 22, 23] rfl
  refine vy_callv (vy_runV (As := [.int x1, .int x2, .int x3]) (rest := []) ⟨hx, hb, hml, hown, hts⟩ (kX4_rule l hl9 dC dI g h u _ x1 x2 x3 hI) (cwV 3 hts (gV wd_336 wd_337 wd_338 wd_92 wcX4_rule) rfl rfl rfl (by decide +kernel) ⟨(Nat.le_of_ble_eq_true rfl), (Nat.le_of_ble_eq_true rfl)⟩) ⟨fun a U g mk q => by obtain ⟨q0, q1, qP, qK, qD, qZ⟩ := q; exact ⟨q0, q1, qP, va_K.moved (u := U) (U := U.calling g mk a) (Vm.Alike.refl U.vm) qK, qD, zz_same (u := U) (H := U.heap) rfl rfl qZ⟩, va_recv hK hPc (ci := 3) (q0 := 0) rfl (cw_at0 _ _ _), fun U hU hW => ⟨rfl, by rw [hU], by rw [hU]; exact hPc, va_K.moved hW.alike hK, hDc.weaken (fun _ _ _ _ => trivial), by rw [hU]; exact zz_to hZ hS hFc hW⟩⟩ rfl rfl hl.1 rfl (lv_room (Nat.le_of_ble_eq_true rfl)) dL_rule_4 ⟨(Nat.le_of_ble_eq_true rfl), (Nat.le_of_ble_eq_true rfl)⟩) hS (fun q _ h => hFc q h) hFc (fun q _ h => hFc q h) (fun E ce q9 u2 t H1 locs1 ht hvm hw hB hz1 hk1 hS hce hcv hcl => ?_) (fun u2 t H1 locs1 ht hvm hw hB hz1 hk1 hS => ?_)
  · skip
    obtain ⟨⟨kx, hk, hE⟩, hP1, hD1⟩ := hB
    rw [ht] at hP1
    have hP := hP1
    have hD := hD1.weaken (fun _ _ _ h => hFc _ h)
    have hc := cdX4_rule u x1 x2 x3
    rw [hk] at hc
    rcases hc with hc | hc
    · skip
      have hc : kx = 0 := hc
      subst hc
      exact hE.elim
    · skip
      have hc : kx = 2 := hc
      subst hc
      have hE : E = "java/lang/IllegalArgumentException" := hE
      subst hE
      refine vx_catch (own := RL) (name := "java/lang/IllegalArgumentException") hown ([] : List ExceptionTableEntry) ⟨0, 7, 10, 13⟩ ([] : List ExceptionTableEntry) (htab.trans rfl) (fun z hz => nomatch hz) (by decide) (by decide) (hts _ (List.mem_cons_of_mem _ wd_334)) (zz_ws hZ (B := [.castable "java/lang/IllegalArgumentException" "java/lang/IllegalArgumentException"]) (by decide +kernel) _ List.mem_cons_self) hce hcv hcl ?_
      refine lv_astore (lv' := [(4, .ref q9), (0, .ref (h 0)), (1, .int x1), (2, .int x2), (3, .int x3)]) hx hb dL_rule_10 hl (by decide) rfl (fun ls hl => ?_)
      refine lv_iconst (v := 1) hx hb dL_rule_12 (by decide) ?_
      exact W.iret (v := 1) hx hb hr (fun t ht hW => ⟨⟨1, u2, rfl, (by rw [hk]; exact ⟨rfl, rfl⟩), by rw [ht]; exact hP, hD⟩, hS.F ht⟩) hS.2.2 dL_rule_13
  · skip
    obtain ⟨hP1, hD1⟩ := hB
    rw [ht] at hP1
    have hP := hP1
    have hD := hD1.weaken (fun _ _ _ h => hFc _ h)
    refine W.widen (k := 1) (n := 6) (Nat.le_of_ble_eq_true rfl) (Nat.le_of_ble_eq_true rfl) ?_
    refine lv_goto (tgt := 14) hx hb dL_rule_7 (by decide) ?_
    refine lv_iconst (v := 0) hx hb dL_rule_14 (by decide) ?_
    exact W.iret (v := 0) hx hb hr (fun t ht hW => ⟨⟨0, u2, rfl, (by rw [hw]; exact ⟨rfl, rfl⟩), by rw [ht]; exact hP, hD⟩, hS.F ht⟩) hS.2.2 dL_rule_15
set_option maxHeartbeats 4000000 in
set_option maxRecDepth 100000 in
theorem kL_wants (l : Launch) (hl9 : l.stackTraces = false) (dC : Nat → ClassId) (dI : Nat → Nat → Nat) (g : cG) (h : Nat → Nat) (u : cS) (sz : Nat) (x1 : Int32) (x2 : Int32) (hI : cInv u) : Met l yL_wants wsL_wants ({ frames := 8, cells := 1, slots := 6, locals := 126 }) (va_Pc [.ref (h 0), .int x1, .int x2] (fun U => U.heap.size = sz ∧ va_P (dC, dI) vwCl (cw g h u) U.heap ∧ va_K (dC, dI) vwCl (cTys g) U ∧ va_D (fun _ => True) (cw g h u) ∧ zz (va_A (cw g h u) sz) U U.heap ∧ nn U)) (va_Qi (fun (r : Int32) (q : cS) => r = wk [2] (fX4_wants u x1 x2).1 ∧ q = (fX4_wants u x1 x2).2.2) (fun q t => va_P (dC, dI) vwCl (cw g h q) t.heap ∧ va_D (va_A (cw g h u) sz) (cw g h q)) (va_A (cw g h u) sz)) 1 6 (va_A (cw g h u) sz) := by
  refine va_MetW (cc := cL_wants) (maxL := 4) (ret := (some .int)) (hh := [(0, 6, 9, 13)]) (by decide) rfl ?_
  intro p e s m args below meth c s₁ B hml hv
  obtain ⟨rfl, hsz, hP, hK, hD0, hZ, hN⟩ := hv
  have hx := B.exec
  have hb := B.bytes
  have hr := B.returns
  have hts := atoms_spec (ws := wsL_wants) B.pre
  have hown : s.vm.findClass RL = some m.cls := findClass_of_methodNamed B.named
  have hlocks := B.notSynchronized
  have htab := vx_table (x := yL_wants) B (hts _ List.mem_cons_self)
  subst hsz
  have hD := hD0.self (sz := s.heap.size)
  generalize hAe : va_A (cw g h u) s.heap.size = A at hD hZ ⊢
  have hA : ∀ q : Nat, s.heap.size ≤ q → A q := fun q h => by rw [← hAe]; exact Or.inr h
  have hS : va_S A s.heap s.heap [] := va_S.rf
  have hl := lv_entry ([.ref (h 0), .int x1, .int x2]) (n := 4) (Nat.le_of_ble_eq_true rfl)
  rw [lg_entry_eq]
  generalize (lg_sl ([.ref (h 0), .int x1, .int x2]) ++ List.replicate (4 - (lg_sl ([.ref (h 0), .int x1, .int x2])).length) Slot.unset).toArray = ls at hl ⊢
  have hl : lv_has ls 4 [(0, .ref (h 0)), (1, .int x1), (2, .int x2)] := hl
  refine lv_aload_n hx hb dL_wants_0 rfl (lv_at hl 0 rfl) ?_
  refine lv_iload_n hx hb dL_wants_1 rfl (lv_at hl 1 rfl) ?_
  refine lv_iload_n hx hb dL_wants_2 rfl (lv_at hl 2 rfl) ?_
  have hPc := hP.sub (ws' := cw g h u) [0, 1, 2, 3, 4, 5, 6, 7, 8, 9, 10, 11, 12, 13, 14, 15, 16, 17, 18, 19, 20, 21, 22, 23] rfl
  have hDc := hD.sub (ws' := cw g h u) [0, 1, 2, 3, 4, 5, 6, 7, 8, 9, 10, 11, 12, 13, 14, 15, 16, 17, 18, 19, 20, 21, 22, 23] (by decide) rfl
  have hFc := va_free (wc := cw g h u) hD hS hA [0, 1, 2, 3, 4, 5, 6, 7, 8, 9, 10, 11, 12, 13, 14, 15, 16, 17, 18, 19, 20, 21, 22, 23] rfl
  refine vy_callv (vy_runV (As := [.int x1, .int x2]) (rest := []) ⟨hx, hb, hml, hown, hts⟩ (kX4_wants l hl9 dC dI g h u _ x1 x2 hI) (cwV 2 hts (gV wd_340 wd_341 wd_342 wd_92 wcX4_wants) rfl rfl rfl (by decide +kernel) ⟨(Nat.le_of_ble_eq_true rfl), (Nat.le_of_ble_eq_true rfl)⟩) ⟨fun a U g mk q => by obtain ⟨q0, q1, qP, qK, qD, qZ⟩ := q; exact ⟨q0, q1, qP, va_K.moved (u := U) (U := U.calling g mk a) (Vm.Alike.refl U.vm) qK, qD, zz_same (u := U) (H := U.heap) rfl rfl qZ⟩, va_recv hK hPc (ci := 3) (q0 := 0) rfl (cw_at0 _ _ _), fun U hU hW => ⟨rfl, by rw [hU], by rw [hU]; exact hPc, va_K.moved hW.alike hK, hDc.weaken (fun _ _ _ _ => trivial), by rw [hU]; exact zz_to hZ hS hFc hW⟩⟩ rfl rfl hl.1 rfl (lv_room (Nat.le_of_ble_eq_true rfl)) dL_wants_3 ⟨(Nat.le_of_ble_eq_true rfl), (Nat.le_of_ble_eq_true rfl)⟩) hS (fun q _ h => hFc q h) hFc (fun q _ h => hFc q h) (fun E ce q9 u2 t H1 locs1 ht hvm hw hB hz1 hk1 hS hce hcv hcl => ?_) (fun u2 t H1 locs1 ht hvm hw hB hz1 hk1 hS => ?_)
  · skip
    obtain ⟨⟨kx, hk, hE⟩, hP1, hD1⟩ := hB
    rw [ht] at hP1
    have hP := hP1
    have hD := hD1.weaken (fun _ _ _ h => hFc _ h)
    have hc := cdX4_wants u x1 x2
    rw [hk] at hc
    rcases hc with hc | hc
    · skip
      have hc : kx = 0 := hc
      subst hc
      exact hE.elim
    · skip
      have hc : kx = 2 := hc
      subst hc
      have hE : E = "java/lang/IllegalArgumentException" := hE
      subst hE
      refine vx_catch (own := RL) (name := "java/lang/IllegalArgumentException") hown ([] : List ExceptionTableEntry) ⟨0, 6, 9, 13⟩ ([] : List ExceptionTableEntry) (htab.trans rfl) (fun z hz => nomatch hz) (by decide) (by decide) (hts _ (List.mem_cons_of_mem _ wd_334)) (zz_ws hZ (B := [.castable "java/lang/IllegalArgumentException" "java/lang/IllegalArgumentException"]) (by decide +kernel) _ List.mem_cons_self) hce hcv hcl ?_
      refine lv_astore_n (lv' := [(3, .ref q9), (0, .ref (h 0)), (1, .int x1), (2, .int x2)]) hx hb dL_wants_9 rfl hl (by decide) rfl (fun ls hl => ?_)
      refine lv_iconst (v := 1) hx hb dL_wants_10 (by decide) ?_
      exact W.iret (v := 1) hx hb hr (fun t ht hW => ⟨⟨1, u2, rfl, (by rw [hk]; exact ⟨rfl, rfl⟩), by rw [ht]; exact hP, hD⟩, hS.F ht⟩) hS.2.2 dL_wants_11
  · skip
    obtain ⟨hP1, hD1⟩ := hB
    rw [ht] at hP1
    have hP := hP1
    have hD := hD1.weaken (fun _ _ _ h => hFc _ h)
    refine W.widen (k := 1) (n := 6) (Nat.le_of_ble_eq_true rfl) (Nat.le_of_ble_eq_true rfl) ?_
    refine lv_goto (tgt := 12) hx hb dL_wants_6 (by decide) ?_
    refine lv_iconst (v := 0) hx hb dL_wants_12 (by decide) ?_
    exact W.iret (v := 0) hx hb hr (fun t ht hW => ⟨⟨0, u2, rfl, (by rw [hw]; exact ⟨rfl, rfl⟩), by rw [ht]; exact hP, hD⟩, hS.F ht⟩) hS.2.2 dL_wants_13
set_option maxHeartbeats 4000000 in
set_option maxRecDepth 100000 in
theorem kL_right (l : Launch) (hl9 : l.stackTraces = false) (dC : Nat → ClassId) (dI : Nat → Nat → Nat) (g : cG) (h : Nat → Nat) (u : cS) (sz : Nat) (x1 : Int32) (x2 : Int32) (x3 : Int32) (hI : cInv u) : Met l yL_right wsL_right ({ frames := 8, cells := 1, slots := 6, locals := 127 }) (va_Pc [.ref (h 0), .int x1, .int x2, .int x3] (fun U => U.heap.size = sz ∧ va_P (dC, dI) vwCl (cw g h u) U.heap ∧ va_K (dC, dI) vwCl (cTys g) U ∧ va_D (fun _ => True) (cw g h u) ∧ zz (va_A (cw g h u) sz) U U.heap ∧ nn U)) (va_Qi (fun (r : Int32) (q : cS) => r = wk [2] (fX4_right u x1 x2 x3).1 ∧ q = (fX4_right u x1 x2 x3).2.2) (fun q t => va_P (dC, dI) vwCl (cw g h q) t.heap ∧ va_D (va_A (cw g h u) sz) (cw g h q)) (va_A (cw g h u) sz)) 1 6 (va_A (cw g h u) sz) := by
  refine va_MetW (cc := cL_right) (maxL := 5) (ret := (some .int)) (hh := [(0, 7, 10, 13)]) (by decide) rfl ?_
  intro p e s m args below meth c s₁ B hml hv
  obtain ⟨rfl, hsz, hP, hK, hD0, hZ, hN⟩ := hv
  have hx := B.exec
  have hb := B.bytes
  have hr := B.returns
  have hts := atoms_spec (ws := wsL_right) B.pre
  have hown : s.vm.findClass RL = some m.cls := findClass_of_methodNamed B.named
  have hlocks := B.notSynchronized
  have htab := vx_table (x := yL_right) B (hts _ List.mem_cons_self)
  subst hsz
  have hD := hD0.self (sz := s.heap.size)
  generalize hAe : va_A (cw g h u) s.heap.size = A at hD hZ ⊢
  have hA : ∀ q : Nat, s.heap.size ≤ q → A q := fun q h => by rw [← hAe]; exact Or.inr h
  have hS : va_S A s.heap s.heap [] := va_S.rf
  have hl := lv_entry ([.ref (h 0), .int x1, .int x2, .int x3]) (n := 5) (Nat.le_of_ble_eq_true rfl)
  rw [lg_entry_eq]
  generalize (lg_sl ([.ref (h 0), .int x1, .int x2, .int x3]) ++ List.replicate (5 - (lg_sl ([.ref (h 0), .int x1, .int x2, .int x3])).length) Slot.unset).toArray = ls at hl ⊢
  have hl : lv_has ls 5 [(0, .ref (h 0)), (1, .int x1), (2, .int x2), (3, .int x3)] := hl
  refine lv_aload_n hx hb dL_right_0 rfl (lv_at hl 0 rfl) ?_
  refine lv_iload_n hx hb dL_right_1 rfl (lv_at hl 1 rfl) ?_
  refine lv_iload_n hx hb dL_right_2 rfl (lv_at hl 2 rfl) ?_
  refine lv_iload_n hx hb dL_right_3 rfl (lv_at hl 3 rfl) ?_
  have hPc := hP.sub (ws' := cw g h u) [0, 1, 2, 3, 4, 5, 6, 7, 8, 9, 10, 11, 12, 13, 14, 15, 16, 17, 18, 19, 20, 21, 22, 23] rfl
  have hDc := hD.sub (ws' := cw g h u) [0, 1, 2, 3, 4, 5, 6, 7, 8, 9, 10, 11, 12, 13, 14, 15, 16, 17, 18, 19, 20, 21, 22, 23] (by decide) rfl
  have hFc := va_free (wc := cw g h u) hD hS hA [0, 1, 2, 3, 4, 5, 6, 7, 8, 9, 10, 11, 12, 13, 14, 15, 16, 17, 18, 19, 20, 21, 22, 23] rfl
  refine vy_callv (vy_runV (As := [.int x1, .int x2, .int x3]) (rest := []) ⟨hx, hb, hml, hown, hts⟩ (kX4_right l hl9 dC dI g h u _ x1 x2 x3 hI) (cwV 3 hts (gV wd_344 wd_345 wd_346 wd_92 wcX4_right) rfl rfl rfl (by decide +kernel) ⟨(Nat.le_of_ble_eq_true rfl), (Nat.le_of_ble_eq_true rfl)⟩) ⟨fun a U g mk q => by obtain ⟨q0, q1, qP, qK, qD, qZ⟩ := q; exact ⟨q0, q1, qP, va_K.moved (u := U) (U := U.calling g mk a) (Vm.Alike.refl U.vm) qK, qD, zz_same (u := U) (H := U.heap) rfl rfl qZ⟩, va_recv hK hPc (ci := 3) (q0 := 0) rfl (cw_at0 _ _ _), fun U hU hW => ⟨rfl, by rw [hU], by rw [hU]; exact hPc, va_K.moved hW.alike hK, hDc.weaken (fun _ _ _ _ => trivial), by rw [hU]; exact zz_to hZ hS hFc hW⟩⟩ rfl rfl hl.1 rfl (lv_room (Nat.le_of_ble_eq_true rfl)) dL_right_4 ⟨(Nat.le_of_ble_eq_true rfl), (Nat.le_of_ble_eq_true rfl)⟩) hS (fun q _ h => hFc q h) hFc (fun q _ h => hFc q h) (fun E ce q9 u2 t H1 locs1 ht hvm hw hB hz1 hk1 hS hce hcv hcl => ?_) (fun u2 t H1 locs1 ht hvm hw hB hz1 hk1 hS => ?_)
  · skip
    obtain ⟨⟨kx, hk, hE⟩, hP1, hD1⟩ := hB
    rw [ht] at hP1
    have hP := hP1
    have hD := hD1.weaken (fun _ _ _ h => hFc _ h)
    have hc := cdX4_right u x1 x2 x3
    rw [hk] at hc
    rcases hc with hc | hc
    · skip
      have hc : kx = 0 := hc
      subst hc
      exact hE.elim
    · skip
      have hc : kx = 2 := hc
      subst hc
      have hE : E = "java/lang/IllegalArgumentException" := hE
      subst hE
      refine vx_catch (own := RL) (name := "java/lang/IllegalArgumentException") hown ([] : List ExceptionTableEntry) ⟨0, 7, 10, 13⟩ ([] : List ExceptionTableEntry) (htab.trans rfl) (fun z hz => nomatch hz) (by decide) (by decide) (hts _ (List.mem_cons_of_mem _ wd_334)) (zz_ws hZ (B := [.castable "java/lang/IllegalArgumentException" "java/lang/IllegalArgumentException"]) (by decide +kernel) _ List.mem_cons_self) hce hcv hcl ?_
      refine lv_astore (lv' := [(4, .ref q9), (0, .ref (h 0)), (1, .int x1), (2, .int x2), (3, .int x3)]) hx hb dL_right_10 hl (by decide) rfl (fun ls hl => ?_)
      refine lv_iconst (v := 1) hx hb dL_right_12 (by decide) ?_
      exact W.iret (v := 1) hx hb hr (fun t ht hW => ⟨⟨1, u2, rfl, (by rw [hk]; exact ⟨rfl, rfl⟩), by rw [ht]; exact hP, hD⟩, hS.F ht⟩) hS.2.2 dL_right_13
  · skip
    obtain ⟨hP1, hD1⟩ := hB
    rw [ht] at hP1
    have hP := hP1
    have hD := hD1.weaken (fun _ _ _ h => hFc _ h)
    refine W.widen (k := 1) (n := 6) (Nat.le_of_ble_eq_true rfl) (Nat.le_of_ble_eq_true rfl) ?_
    refine lv_goto (tgt := 14) hx hb dL_right_7 (by decide) ?_
    refine lv_iconst (v := 0) hx hb dL_right_14 (by decide) ?_
    exact W.iret (v := 0) hx hb hr (fun t ht hW => ⟨⟨0, u2, rfl, (by rw [hw]; exact ⟨rfl, rfl⟩), by rw [ht]; exact hP, hD⟩, hS.F ht⟩) hS.2.2 dL_right_15
set_option maxHeartbeats 4000000 in
set_option maxRecDepth 100000 in
theorem kL_block (l : Launch) (hl9 : l.stackTraces = false) (dC : Nat → ClassId) (dI : Nat → Nat → Nat) (g : cG) (h : Nat → Nat) (o : Nat) (u : cS) (f : Nat → Int64) (sz : Nat) (x1 : Int32) (x2 : Int32) (hI : cInv u) : Met l yL_block wsL_block ({ frames := 8, cells := 1, slots := 6, locals := 127 }) (va_Pc [.ref (h 0), .int x1, .int x2, .ref o] (fun U => U.heap.size = sz ∧ va_P (dC, dI) vwCl (ow g h o u f) U.heap ∧ va_K (dC, dI) vwCl (cTys g) U ∧ va_D (fun _ => True) (ow g h o u f) ∧ zz (va_A (ow g h o u f) sz) U U.heap ∧ nn U)) (va_Qi (fun (r : Int32) (q : cS × (Nat → Int64)) => r = wk [1, 2, 3, 4] (fX4_block u x1 x2).1 ∧ q = wq (fX4_block u x1 x2) f) (fun q t => va_P (dC, dI) vwCl (ow g h o q.1 q.2) t.heap ∧ va_D (va_A (ow g h o u f) sz) (ow g h o q.1 q.2)) (va_A (ow g h o u f) sz)) 1 6 (va_A (ow g h o u f) sz) := by
  refine va_MetW (cc := cL_block) (maxL := 5) (ret := (some .int)) (hh := [(0, 10, 13, 33), (0, 10, 17, 13), (0, 10, 21, 35), (0, 10, 25, 15)]) (by decide) rfl ?_
  intro p e s m args below meth c s₁ B hml hv
  obtain ⟨rfl, hsz, hP, hK, hD0, hZ, hN⟩ := hv
  have hx := B.exec
  have hb := B.bytes
  have hr := B.returns
  have hts := atoms_spec (ws := wsL_block) B.pre
  have hown : s.vm.findClass RL = some m.cls := findClass_of_methodNamed B.named
  have hlocks := B.notSynchronized
  have htab := vx_table (x := yL_block) B (hts _ List.mem_cons_self)
  subst hsz
  have hD := hD0.self (sz := s.heap.size)
  generalize hAe : va_A (ow g h o u f) s.heap.size = A at hD hZ ⊢
  have hA : ∀ q : Nat, s.heap.size ≤ q → A q := fun q h => by rw [← hAe]; exact Or.inr h
  have hS : va_S A s.heap s.heap [] := va_S.rf
  have hl := lv_entry ([.ref (h 0), .int x1, .int x2, .ref o]) (n := 5) (Nat.le_of_ble_eq_true rfl)
  rw [lg_entry_eq]
  generalize (lg_sl ([.ref (h 0), .int x1, .int x2, .ref o]) ++ List.replicate (5 - (lg_sl ([.ref (h 0), .int x1, .int x2, .ref o])).length) Slot.unset).toArray = ls at hl ⊢
  have hl : lv_has ls 5 [(0, .ref (h 0)), (1, .int x1), (2, .int x2), (3, .ref o)] := hl
  refine lv_aload_n hx hb dL_block_0 rfl (lv_at hl 3 rfl) ?_
  refine lv_iconst (v := 0) hx hb dL_block_1 (by decide) ?_
  refine lv_aload_n hx hb dL_block_2 rfl (lv_at hl 0 rfl) ?_
  refine lv_iload_n hx hb dL_block_3 rfl (lv_at hl 1 rfl) ?_
  refine lv_iload_n hx hb dL_block_4 rfl (lv_at hl 2 rfl) ?_
  have hPc := hP.sub (ws' := cw g h u) [0, 1, 2, 3, 4, 5, 6, 7, 8, 9, 10, 11, 12, 13, 14, 15, 16, 17, 18, 19, 20, 21, 22, 23] rfl
  have hDc := hD.sub (ws' := cw g h u) [0, 1, 2, 3, 4, 5, 6, 7, 8, 9, 10, 11, 12, 13, 14, 15, 16, 17, 18, 19, 20, 21, 22, 23] (by decide) rfl
  have hFc := va_free (wc := cw g h u) hD hS hA [0, 1, 2, 3, 4, 5, 6, 7, 8, 9, 10, 11, 12, 13, 14, 15, 16, 17, 18, 19, 20, 21, 22, 23] rfl
  refine vy_calli (vy_runV (As := [.int x1, .int x2]) (rest := [.int 0, .ref o]) ⟨hx, hb, hml, hown, hts⟩ (kX4_block l hl9 dC dI g h u _ x1 x2 hI) (cwV 2 hts (gV wd_348 wd_349 wd_350 wd_92 wcX4_block) rfl rfl rfl (by decide +kernel) ⟨(Nat.le_of_ble_eq_true rfl), (Nat.le_of_ble_eq_true rfl)⟩) ⟨fun a U g mk q => by obtain ⟨q0, q1, qP, qK, qD, qZ⟩ := q; exact ⟨q0, q1, qP, va_K.moved (u := U) (U := U.calling g mk a) (Vm.Alike.refl U.vm) qK, qD, zz_same (u := U) (H := U.heap) rfl rfl qZ⟩, va_recv hK hPc (ci := 3) (q0 := 0) rfl (cw_at0 _ _ _), fun U hU hW => ⟨rfl, by rw [hU], by rw [hU]; exact hPc, va_K.moved hW.alike hK, hDc.weaken (fun _ _ _ _ => trivial), by rw [hU]; exact zz_to hZ hS hFc hW⟩⟩ rfl rfl hl.1 rfl (lv_room (Nat.le_of_ble_eq_true rfl)) dL_block_5 ⟨(Nat.le_of_ble_eq_true rfl), (Nat.le_of_ble_eq_true rfl)⟩) hS (fun q _ h => hFc q h) hFc (fun q _ h => hFc q h) (fun E ce q9 u2 t H1 locs1 ht hvm hw hB hz1 hk1 hS hce hcv hcl => ?_) (fun r u2 t H1 locs1 ht hvm hw hB hz1 hk1 hS => ?_)
  · skip
    obtain ⟨⟨kx, hk, hE⟩, hP1, hD1⟩ := hB
    rw [ht] at hP1
    obtain ⟨hP, hD⟩ := va_join (wr := [(o, .inl (g.2.2, 1, .inr (.inl f)))]) (w1 := cw g h u2) hP hD [0, 1, 2, 3, 4, 5, 6, 7, 8, 9, 10, 11, 12, 13, 14, 15, 16, 17, 18, 19, 20, 21, 22, 23] [24] rfl rfl (by decide) (by decide) hk1 hFc hP1 hD1
    have hP := hP.sub (ws' := ow g h o u2 f) [1, 2, 3, 4, 5, 6, 7, 8, 9, 10, 11, 12, 13, 14, 15, 16, 17, 18, 19, 20, 21, 22, 23, 24, 0] rfl
    have hD := hD.sub (ws' := ow g h o u2 f) [1, 2, 3, 4, 5, 6, 7, 8, 9, 10, 11, 12, 13, 14, 15, 16, 17, 18, 19, 20, 21, 22, 23, 24, 0] (by decide) rfl
    have hc := cdX4_block u x1 x2
    rw [hk] at hc
    rcases hc with hc | hc | hc | hc | hc
    · skip
      have hc : kx = 0 := hc
      subst hc
      exact hE.elim
    · skip
      have hc : kx = 1 := hc
      subst hc
      have hE : E = "java/util/NoSuchElementException" := hE
      subst hE
      refine vx_catch (own := RL) (name := "java/util/NoSuchElementException") hown ([] : List ExceptionTableEntry) ⟨0, 10, 13, 33⟩ ([⟨0, 10, 17, 13⟩, ⟨0, 10, 21, 35⟩, ⟨0, 10, 25, 15⟩] : List ExceptionTableEntry) (htab.trans rfl) (fun z hz => nomatch hz) (by decide) (by decide) (hts _ (List.mem_cons_of_mem _ wd_352)) (zz_ws hZ (B := [.castable "java/util/NoSuchElementException" "java/util/NoSuchElementException"]) (by decide +kernel) _ List.mem_cons_self) hce hcv hcl ?_
      refine lv_astore (lv' := [(4, .ref q9), (0, .ref (h 0)), (1, .int x1), (2, .int x2), (3, .ref o)]) hx hb dL_block_13 hl (by decide) rfl (fun ls hl => ?_)
      refine lv_iconst (v := 1) hx hb dL_block_15 (by decide) ?_
      exact W.iret (v := 1) hx hb hr (fun t ht hW => ⟨⟨1, (u2, f), rfl, (by rw [hk]; exact ⟨rfl, rfl⟩), by rw [ht]; exact hP, hD⟩, hS.F ht⟩) hS.2.2 dL_block_16
    · skip
      have hc : kx = 2 := hc
      subst hc
      have hE : E = "java/lang/IllegalArgumentException" := hE
      subst hE
      refine vx_catch (own := RL) (name := "java/lang/IllegalArgumentException") hown ([⟨0, 10, 13, 33⟩] : List ExceptionTableEntry) ⟨0, 10, 17, 13⟩ ([⟨0, 10, 21, 35⟩, ⟨0, 10, 25, 15⟩] : List ExceptionTableEntry) (htab.trans rfl) (fun z hz => by
        simp only [List.mem_cons, List.not_mem_nil, or_false] at hz
        rcases hz with rfl
        · exact Or.inr ⟨by decide, "java/util/NoSuchElementException", (hts _ (List.mem_cons_of_mem _ wd_352)), hN ("java/lang/IllegalArgumentException", "java/util/NoSuchElementException") (by decide +kernel)⟩) (by decide) (by decide) (hts _ (List.mem_cons_of_mem _ wd_334)) (zz_ws hZ (B := [.castable "java/lang/IllegalArgumentException" "java/lang/IllegalArgumentException"]) (by decide +kernel) _ List.mem_cons_self) hce hcv hcl ?_
      refine lv_astore (lv' := [(4, .ref q9), (0, .ref (h 0)), (1, .int x1), (2, .int x2), (3, .ref o)]) hx hb dL_block_17 hl (by decide) rfl (fun ls hl => ?_)
      refine lv_iconst (v := 2) hx hb dL_block_19 (by decide) ?_
      exact W.iret (v := 2) hx hb hr (fun t ht hW => ⟨⟨2, (u2, f), rfl, (by rw [hk]; exact ⟨rfl, rfl⟩), by rw [ht]; exact hP, hD⟩, hS.F ht⟩) hS.2.2 dL_block_20
    · skip
      have hc : kx = 3 := hc
      subst hc
      have hE : E = "java/lang/IllegalStateException" := hE
      subst hE
      refine vx_catch (own := RL) (name := "java/lang/IllegalStateException") hown ([⟨0, 10, 13, 33⟩, ⟨0, 10, 17, 13⟩] : List ExceptionTableEntry) ⟨0, 10, 21, 35⟩ ([⟨0, 10, 25, 15⟩] : List ExceptionTableEntry) (htab.trans rfl) (fun z hz => by
        simp only [List.mem_cons, List.not_mem_nil, or_false] at hz
        rcases hz with rfl | rfl
        · exact Or.inr ⟨by decide, "java/util/NoSuchElementException", (hts _ (List.mem_cons_of_mem _ wd_352)), hN ("java/lang/IllegalStateException", "java/util/NoSuchElementException") (by decide +kernel)⟩
        · exact Or.inr ⟨by decide, "java/lang/IllegalArgumentException", (hts _ (List.mem_cons_of_mem _ wd_334)), hN ("java/lang/IllegalStateException", "java/lang/IllegalArgumentException") (by decide +kernel)⟩) (by decide) (by decide) (hts _ (List.mem_cons_of_mem _ wd_353)) (zz_ws hZ (B := [.castable "java/lang/IllegalStateException" "java/lang/IllegalStateException"]) (by decide +kernel) _ List.mem_cons_self) hce hcv hcl ?_
      refine lv_astore (lv' := [(4, .ref q9), (0, .ref (h 0)), (1, .int x1), (2, .int x2), (3, .ref o)]) hx hb dL_block_21 hl (by decide) rfl (fun ls hl => ?_)
      refine lv_iconst (v := 3) hx hb dL_block_23 (by decide) ?_
      exact W.iret (v := 3) hx hb hr (fun t ht hW => ⟨⟨3, (u2, f), rfl, (by rw [hk]; exact ⟨rfl, rfl⟩), by rw [ht]; exact hP, hD⟩, hS.F ht⟩) hS.2.2 dL_block_24
    · skip
      have hc : kx = 4 := hc
      subst hc
      have hE : E = "java/lang/UnsupportedOperationException" := hE
      subst hE
      refine vx_catch (own := RL) (name := "java/lang/UnsupportedOperationException") hown ([⟨0, 10, 13, 33⟩, ⟨0, 10, 17, 13⟩, ⟨0, 10, 21, 35⟩] : List ExceptionTableEntry) ⟨0, 10, 25, 15⟩ ([] : List ExceptionTableEntry) (htab.trans rfl) (fun z hz => by
        simp only [List.mem_cons, List.not_mem_nil, or_false] at hz
        rcases hz with rfl | rfl | rfl
        · exact Or.inr ⟨by decide, "java/util/NoSuchElementException", (hts _ (List.mem_cons_of_mem _ wd_352)), hN ("java/lang/UnsupportedOperationException", "java/util/NoSuchElementException") (by decide +kernel)⟩
        · exact Or.inr ⟨by decide, "java/lang/IllegalArgumentException", (hts _ (List.mem_cons_of_mem _ wd_334)), hN ("java/lang/UnsupportedOperationException", "java/lang/IllegalArgumentException") (by decide +kernel)⟩
        · exact Or.inr ⟨by decide, "java/lang/IllegalStateException", (hts _ (List.mem_cons_of_mem _ wd_353)), hN ("java/lang/UnsupportedOperationException", "java/lang/IllegalStateException") (by decide +kernel)⟩) (by decide) (by decide) (hts _ (List.mem_cons_of_mem _ wd_335)) (zz_ws hZ (B := [.castable "java/lang/UnsupportedOperationException" "java/lang/UnsupportedOperationException"]) (by decide +kernel) _ List.mem_cons_self) hce hcv hcl ?_
      refine lv_astore (lv' := [(4, .ref q9), (0, .ref (h 0)), (1, .int x1), (2, .int x2), (3, .ref o)]) hx hb dL_block_25 hl (by decide) rfl (fun ls hl => ?_)
      refine lv_iconst (v := 4) hx hb dL_block_27 (by decide) ?_
      exact W.iret (v := 4) hx hb hr (fun t ht hW => ⟨⟨4, (u2, f), rfl, (by rw [hk]; exact ⟨rfl, rfl⟩), by rw [ht]; exact hP, hD⟩, hS.F ht⟩) hS.2.2 dL_block_28
  · skip
    obtain ⟨hP1, hD1⟩ := hB
    rw [ht] at hP1
    obtain ⟨hP, hD⟩ := va_join (wr := [(o, .inl (g.2.2, 1, .inr (.inl f)))]) (w1 := cw g h u2) hP hD [0, 1, 2, 3, 4, 5, 6, 7, 8, 9, 10, 11, 12, 13, 14, 15, 16, 17, 18, 19, 20, 21, 22, 23] [24] rfl rfl (by decide) (by decide) hk1 hFc hP1 hD1
    have hP := hP.sub (ws' := ow g h o u2 f) [1, 2, 3, 4, 5, 6, 7, 8, 9, 10, 11, 12, 13, 14, 15, 16, 17, 18, 19, 20, 21, 22, 23, 24, 0] rfl
    have hD := hD.sub (ws' := ow g h o u2 f) [1, 2, 3, 4, 5, 6, 7, 8, 9, 10, 11, 12, 13, 14, 15, 16, 17, 18, 19, 20, 21, 22, 23, 24, 0] (by decide) rfl
    refine W.widen (k := 1) (n := 6) (Nat.le_of_ble_eq_true rfl) (Nat.le_of_ble_eq_true rfl) ?_
    refine lv_i2l (v := r.toInt64) hx hb dL_block_8 rfl ?_
    refine va_last (f := f) hx hb hK hP hD hS 24 2 (ow_at24 _ _ _ _ _) rfl (vp_in_iff.mpr (by decide)) dL_block_9 (fun H locs hP hD hS => ?_)
    have hP : va_P (dC, dI) vwCl (ow g h o u2 (vp_updL f (0 : Int32).toNatClampNeg r.toInt64)) H := hP
    have hD : va_D A (ow g h o u2 (vp_updL f (0 : Int32).toNatClampNeg r.toInt64)) := hD
    refine lv_goto (tgt := 29) hx hb dL_block_10 (by decide) ?_
    refine lv_iconst (v := 0) hx hb dL_block_29 (by decide) ?_
    exact W.iret (v := 0) hx hb hr (fun t ht hW => ⟨⟨0, (u2, (vp_updL f (0 : Int32).toNatClampNeg r.toInt64)), rfl, (by rw [hw]; exact ⟨rfl, rfl⟩), by rw [ht]; exact hP, hD⟩, hS.F ht⟩) hS.2.2 dL_block_30
set_option maxHeartbeats 4000000 in
set_option maxRecDepth 100000 in
theorem kL_release (l : Launch) (hl9 : l.stackTraces = false) (dC : Nat → ClassId) (dI : Nat → Nat → Nat) (g : cG) (h : Nat → Nat) (o : Nat) (u : cS) (f : Nat → Int64) (sz : Nat) (x1 : Int32) (x2 : Int32) (hI : cInv u) : Met l yL_release wsL_release ({ frames := 8, cells := 1, slots := 6, locals := 127 }) (va_Pc [.ref (h 0), .int x1, .int x2, .ref o] (fun U => U.heap.size = sz ∧ va_P (dC, dI) vwCl (ow g h o u f) U.heap ∧ va_K (dC, dI) vwCl (cTys g) U ∧ va_D (fun _ => True) (ow g h o u f) ∧ zz (va_A (ow g h o u f) sz) U U.heap ∧ nn U)) (va_Qi (fun (r : Int32) (q : cS × (Nat → Int64)) => r = wk [1, 2, 3, 4] (fX4_release u x1 x2).1 ∧ q = wq (fX4_release u x1 x2) f) (fun q t => va_P (dC, dI) vwCl (ow g h o q.1 q.2) t.heap ∧ va_D (va_A (ow g h o u f) sz) (ow g h o q.1 q.2)) (va_A (ow g h o u f) sz)) 1 6 (va_A (ow g h o u f) sz) := by
  refine va_MetW (cc := cL_release) (maxL := 5) (ret := (some .int)) (hh := [(0, 10, 13, 33), (0, 10, 17, 13), (0, 10, 21, 35), (0, 10, 25, 15)]) (by decide) rfl ?_
  intro p e s m args below meth c s₁ B hml hv
  obtain ⟨rfl, hsz, hP, hK, hD0, hZ, hN⟩ := hv
  have hx := B.exec
  have hb := B.bytes
  have hr := B.returns
  have hts := atoms_spec (ws := wsL_release) B.pre
  have hown : s.vm.findClass RL = some m.cls := findClass_of_methodNamed B.named
  have hlocks := B.notSynchronized
  have htab := vx_table (x := yL_release) B (hts _ List.mem_cons_self)
  subst hsz
  have hD := hD0.self (sz := s.heap.size)
  generalize hAe : va_A (ow g h o u f) s.heap.size = A at hD hZ ⊢
  have hA : ∀ q : Nat, s.heap.size ≤ q → A q := fun q h => by rw [← hAe]; exact Or.inr h
  have hS : va_S A s.heap s.heap [] := va_S.rf
  have hl := lv_entry ([.ref (h 0), .int x1, .int x2, .ref o]) (n := 5) (Nat.le_of_ble_eq_true rfl)
  rw [lg_entry_eq]
  generalize (lg_sl ([.ref (h 0), .int x1, .int x2, .ref o]) ++ List.replicate (5 - (lg_sl ([.ref (h 0), .int x1, .int x2, .ref o])).length) Slot.unset).toArray = ls at hl ⊢
  have hl : lv_has ls 5 [(0, .ref (h 0)), (1, .int x1), (2, .int x2), (3, .ref o)] := hl
  refine lv_aload_n hx hb dL_release_0 rfl (lv_at hl 3 rfl) ?_
  refine lv_iconst (v := 0) hx hb dL_release_1 (by decide) ?_
  refine lv_aload_n hx hb dL_release_2 rfl (lv_at hl 0 rfl) ?_
  refine lv_iload_n hx hb dL_release_3 rfl (lv_at hl 1 rfl) ?_
  refine lv_iload_n hx hb dL_release_4 rfl (lv_at hl 2 rfl) ?_
  have hPc := hP.sub (ws' := cw g h u) [0, 1, 2, 3, 4, 5, 6, 7, 8, 9, 10, 11, 12, 13, 14, 15, 16, 17, 18, 19, 20, 21, 22, 23] rfl
  have hDc := hD.sub (ws' := cw g h u) [0, 1, 2, 3, 4, 5, 6, 7, 8, 9, 10, 11, 12, 13, 14, 15, 16, 17, 18, 19, 20, 21, 22, 23] (by decide) rfl
  have hFc := va_free (wc := cw g h u) hD hS hA [0, 1, 2, 3, 4, 5, 6, 7, 8, 9, 10, 11, 12, 13, 14, 15, 16, 17, 18, 19, 20, 21, 22, 23] rfl
  refine vy_calli (vy_runV (As := [.int x1, .int x2]) (rest := [.int 0, .ref o]) ⟨hx, hb, hml, hown, hts⟩ (kX4_release l hl9 dC dI g h u _ x1 x2 hI) (cwV 2 hts (gV wd_354 wd_355 wd_356 wd_92 wcX4_release) rfl rfl rfl (by decide +kernel) ⟨(Nat.le_of_ble_eq_true rfl), (Nat.le_of_ble_eq_true rfl)⟩) ⟨fun a U g mk q => by obtain ⟨q0, q1, qP, qK, qD, qZ⟩ := q; exact ⟨q0, q1, qP, va_K.moved (u := U) (U := U.calling g mk a) (Vm.Alike.refl U.vm) qK, qD, zz_same (u := U) (H := U.heap) rfl rfl qZ⟩, va_recv hK hPc (ci := 3) (q0 := 0) rfl (cw_at0 _ _ _), fun U hU hW => ⟨rfl, by rw [hU], by rw [hU]; exact hPc, va_K.moved hW.alike hK, hDc.weaken (fun _ _ _ _ => trivial), by rw [hU]; exact zz_to hZ hS hFc hW⟩⟩ rfl rfl hl.1 rfl (lv_room (Nat.le_of_ble_eq_true rfl)) dL_release_5 ⟨(Nat.le_of_ble_eq_true rfl), (Nat.le_of_ble_eq_true rfl)⟩) hS (fun q _ h => hFc q h) hFc (fun q _ h => hFc q h) (fun E ce q9 u2 t H1 locs1 ht hvm hw hB hz1 hk1 hS hce hcv hcl => ?_) (fun r u2 t H1 locs1 ht hvm hw hB hz1 hk1 hS => ?_)
  · skip
    obtain ⟨⟨kx, hk, hE⟩, hP1, hD1⟩ := hB
    rw [ht] at hP1
    obtain ⟨hP, hD⟩ := va_join (wr := [(o, .inl (g.2.2, 1, .inr (.inl f)))]) (w1 := cw g h u2) hP hD [0, 1, 2, 3, 4, 5, 6, 7, 8, 9, 10, 11, 12, 13, 14, 15, 16, 17, 18, 19, 20, 21, 22, 23] [24] rfl rfl (by decide) (by decide) hk1 hFc hP1 hD1
    have hP := hP.sub (ws' := ow g h o u2 f) [1, 2, 3, 4, 5, 6, 7, 8, 9, 10, 11, 12, 13, 14, 15, 16, 17, 18, 19, 20, 21, 22, 23, 24, 0] rfl
    have hD := hD.sub (ws' := ow g h o u2 f) [1, 2, 3, 4, 5, 6, 7, 8, 9, 10, 11, 12, 13, 14, 15, 16, 17, 18, 19, 20, 21, 22, 23, 24, 0] (by decide) rfl
    have hc := cdX4_release u x1 x2
    rw [hk] at hc
    rcases hc with hc | hc | hc | hc | hc
    · skip
      have hc : kx = 0 := hc
      subst hc
      exact hE.elim
    · skip
      have hc : kx = 1 := hc
      subst hc
      have hE : E = "java/util/NoSuchElementException" := hE
      subst hE
      refine vx_catch (own := RL) (name := "java/util/NoSuchElementException") hown ([] : List ExceptionTableEntry) ⟨0, 10, 13, 33⟩ ([⟨0, 10, 17, 13⟩, ⟨0, 10, 21, 35⟩, ⟨0, 10, 25, 15⟩] : List ExceptionTableEntry) (htab.trans rfl) (fun z hz => nomatch hz) (by decide) (by decide) (hts _ (List.mem_cons_of_mem _ wd_352)) (zz_ws hZ (B := [.castable "java/util/NoSuchElementException" "java/util/NoSuchElementException"]) (by decide +kernel) _ List.mem_cons_self) hce hcv hcl ?_
      refine lv_astore (lv' := [(4, .ref q9), (0, .ref (h 0)), (1, .int x1), (2, .int x2), (3, .ref o)]) hx hb dL_release_13 hl (by decide) rfl (fun ls hl => ?_)
      refine lv_iconst (v := 1) hx hb dL_release_15 (by decide) ?_
      exact W.iret (v := 1) hx hb hr (fun t ht hW => ⟨⟨1, (u2, f), rfl, (by rw [hk]; exact ⟨rfl, rfl⟩), by rw [ht]; exact hP, hD⟩, hS.F ht⟩) hS.2.2 dL_release_16
    · skip
      have hc : kx = 2 := hc
      subst hc
      have hE : E = "java/lang/IllegalArgumentException" := hE
      subst hE
      refine vx_catch (own := RL) (name := "java/lang/IllegalArgumentException") hown ([⟨0, 10, 13, 33⟩] : List ExceptionTableEntry) ⟨0, 10, 17, 13⟩ ([⟨0, 10, 21, 35⟩, ⟨0, 10, 25, 15⟩] : List ExceptionTableEntry) (htab.trans rfl) (fun z hz => by
        simp only [List.mem_cons, List.not_mem_nil, or_false] at hz
        rcases hz with rfl
        · exact Or.inr ⟨by decide, "java/util/NoSuchElementException", (hts _ (List.mem_cons_of_mem _ wd_352)), hN ("java/lang/IllegalArgumentException", "java/util/NoSuchElementException") (by decide +kernel)⟩) (by decide) (by decide) (hts _ (List.mem_cons_of_mem _ wd_334)) (zz_ws hZ (B := [.castable "java/lang/IllegalArgumentException" "java/lang/IllegalArgumentException"]) (by decide +kernel) _ List.mem_cons_self) hce hcv hcl ?_
      refine lv_astore (lv' := [(4, .ref q9), (0, .ref (h 0)), (1, .int x1), (2, .int x2), (3, .ref o)]) hx hb dL_release_17 hl (by decide) rfl (fun ls hl => ?_)
      refine lv_iconst (v := 2) hx hb dL_release_19 (by decide) ?_
      exact W.iret (v := 2) hx hb hr (fun t ht hW => ⟨⟨2, (u2, f), rfl, (by rw [hk]; exact ⟨rfl, rfl⟩), by rw [ht]; exact hP, hD⟩, hS.F ht⟩) hS.2.2 dL_release_20
    · skip
      have hc : kx = 3 := hc
      subst hc
      have hE : E = "java/lang/IllegalStateException" := hE
      subst hE
      refine vx_catch (own := RL) (name := "java/lang/IllegalStateException") hown ([⟨0, 10, 13, 33⟩, ⟨0, 10, 17, 13⟩] : List ExceptionTableEntry) ⟨0, 10, 21, 35⟩ ([⟨0, 10, 25, 15⟩] : List ExceptionTableEntry) (htab.trans rfl) (fun z hz => by
        simp only [List.mem_cons, List.not_mem_nil, or_false] at hz
        rcases hz with rfl | rfl
        · exact Or.inr ⟨by decide, "java/util/NoSuchElementException", (hts _ (List.mem_cons_of_mem _ wd_352)), hN ("java/lang/IllegalStateException", "java/util/NoSuchElementException") (by decide +kernel)⟩
        · exact Or.inr ⟨by decide, "java/lang/IllegalArgumentException", (hts _ (List.mem_cons_of_mem _ wd_334)), hN ("java/lang/IllegalStateException", "java/lang/IllegalArgumentException") (by decide +kernel)⟩) (by decide) (by decide) (hts _ (List.mem_cons_of_mem _ wd_353)) (zz_ws hZ (B := [.castable "java/lang/IllegalStateException" "java/lang/IllegalStateException"]) (by decide +kernel) _ List.mem_cons_self) hce hcv hcl ?_
      refine lv_astore (lv' := [(4, .ref q9), (0, .ref (h 0)), (1, .int x1), (2, .int x2), (3, .ref o)]) hx hb dL_release_21 hl (by decide) rfl (fun ls hl => ?_)
      refine lv_iconst (v := 3) hx hb dL_release_23 (by decide) ?_
      exact W.iret (v := 3) hx hb hr (fun t ht hW => ⟨⟨3, (u2, f), rfl, (by rw [hk]; exact ⟨rfl, rfl⟩), by rw [ht]; exact hP, hD⟩, hS.F ht⟩) hS.2.2 dL_release_24
    · skip
      have hc : kx = 4 := hc
      subst hc
      have hE : E = "java/lang/UnsupportedOperationException" := hE
      subst hE
      refine vx_catch (own := RL) (name := "java/lang/UnsupportedOperationException") hown ([⟨0, 10, 13, 33⟩, ⟨0, 10, 17, 13⟩, ⟨0, 10, 21, 35⟩] : List ExceptionTableEntry) ⟨0, 10, 25, 15⟩ ([] : List ExceptionTableEntry) (htab.trans rfl) (fun z hz => by
        simp only [List.mem_cons, List.not_mem_nil, or_false] at hz
        rcases hz with rfl | rfl | rfl
        · exact Or.inr ⟨by decide, "java/util/NoSuchElementException", (hts _ (List.mem_cons_of_mem _ wd_352)), hN ("java/lang/UnsupportedOperationException", "java/util/NoSuchElementException") (by decide +kernel)⟩
        · exact Or.inr ⟨by decide, "java/lang/IllegalArgumentException", (hts _ (List.mem_cons_of_mem _ wd_334)), hN ("java/lang/UnsupportedOperationException", "java/lang/IllegalArgumentException") (by decide +kernel)⟩
        · exact Or.inr ⟨by decide, "java/lang/IllegalStateException", (hts _ (List.mem_cons_of_mem _ wd_353)), hN ("java/lang/UnsupportedOperationException", "java/lang/IllegalStateException") (by decide +kernel)⟩) (by decide) (by decide) (hts _ (List.mem_cons_of_mem _ wd_335)) (zz_ws hZ (B := [.castable "java/lang/UnsupportedOperationException" "java/lang/UnsupportedOperationException"]) (by decide +kernel) _ List.mem_cons_self) hce hcv hcl ?_
      refine lv_astore (lv' := [(4, .ref q9), (0, .ref (h 0)), (1, .int x1), (2, .int x2), (3, .ref o)]) hx hb dL_release_25 hl (by decide) rfl (fun ls hl => ?_)
      refine lv_iconst (v := 4) hx hb dL_release_27 (by decide) ?_
      exact W.iret (v := 4) hx hb hr (fun t ht hW => ⟨⟨4, (u2, f), rfl, (by rw [hk]; exact ⟨rfl, rfl⟩), by rw [ht]; exact hP, hD⟩, hS.F ht⟩) hS.2.2 dL_release_28
  · skip
    obtain ⟨hP1, hD1⟩ := hB
    rw [ht] at hP1
    obtain ⟨hP, hD⟩ := va_join (wr := [(o, .inl (g.2.2, 1, .inr (.inl f)))]) (w1 := cw g h u2) hP hD [0, 1, 2, 3, 4, 5, 6, 7, 8, 9, 10, 11, 12, 13, 14, 15, 16, 17, 18, 19, 20, 21, 22, 23] [24] rfl rfl (by decide) (by decide) hk1 hFc hP1 hD1
    have hP := hP.sub (ws' := ow g h o u2 f) [1, 2, 3, 4, 5, 6, 7, 8, 9, 10, 11, 12, 13, 14, 15, 16, 17, 18, 19, 20, 21, 22, 23, 24, 0] rfl
    have hD := hD.sub (ws' := ow g h o u2 f) [1, 2, 3, 4, 5, 6, 7, 8, 9, 10, 11, 12, 13, 14, 15, 16, 17, 18, 19, 20, 21, 22, 23, 24, 0] (by decide) rfl
    refine W.widen (k := 1) (n := 6) (Nat.le_of_ble_eq_true rfl) (Nat.le_of_ble_eq_true rfl) ?_
    refine lv_i2l (v := r.toInt64) hx hb dL_release_8 rfl ?_
    refine va_last (f := f) hx hb hK hP hD hS 24 2 (ow_at24 _ _ _ _ _) rfl (vp_in_iff.mpr (by decide)) dL_release_9 (fun H locs hP hD hS => ?_)
    have hP : va_P (dC, dI) vwCl (ow g h o u2 (vp_updL f (0 : Int32).toNatClampNeg r.toInt64)) H := hP
    have hD : va_D A (ow g h o u2 (vp_updL f (0 : Int32).toNatClampNeg r.toInt64)) := hD
    refine lv_goto (tgt := 29) hx hb dL_release_10 (by decide) ?_
    refine lv_iconst (v := 0) hx hb dL_release_29 (by decide) ?_
    exact W.iret (v := 0) hx hb hr (fun t ht hW => ⟨⟨0, (u2, (vp_updL f (0 : Int32).toNatClampNeg r.toInt64)), rfl, (by rw [hw]; exact ⟨rfl, rfl⟩), by rw [ht]; exact hP, hD⟩, hS.F ht⟩) hS.2.2 dL_release_30
set_option maxHeartbeats 4000000 in
set_option maxRecDepth 100000 in
theorem kL_quarantine (l : Launch) (hl9 : l.stackTraces = false) (dC : Nat → ClassId) (dI : Nat → Nat → Nat) (g : cG) (h : Nat → Nat) (u : cS) (sz : Nat) (x1 : Int32) (x2 : Int32) (hI : cInv u) : Met l yL_quarantine wsL_quarantine ({ frames := 8, cells := 1, slots := 6, locals := 125 }) (va_Pc [.ref (h 0), .int x1, .int x2] (fun U => U.heap.size = sz ∧ va_P (dC, dI) vwCl (cw g h u) U.heap ∧ va_K (dC, dI) vwCl (cTys g) U ∧ va_D (fun _ => True) (cw g h u) ∧ zz (va_A (cw g h u) sz) U U.heap ∧ nn U)) (va_Qi (fun (r : Int32) (q : cS) => r = wk [1, 3, 4] (fX4_quarantine u x1 x2).1 ∧ q = (fX4_quarantine u x1 x2).2.2) (fun q t => va_P (dC, dI) vwCl (cw g h q) t.heap ∧ va_D (va_A (cw g h u) sz) (cw g h q)) (va_A (cw g h u) sz)) 1 6 (va_A (cw g h u) sz) := by
  refine va_MetW (cc := cL_quarantine) (maxL := 4) (ret := (some .int)) (hh := [(0, 6, 9, 33), (0, 6, 12, 35), (0, 6, 15, 15)]) (by decide) rfl ?_
  intro p e s m args below meth c s₁ B hml hv
  obtain ⟨rfl, hsz, hP, hK, hD0, hZ, hN⟩ := hv
  have hx := B.exec
  have hb := B.bytes
  have hr := B.returns
  have hts := atoms_spec (ws := wsL_quarantine) B.pre
  have hown : s.vm.findClass RL = some m.cls := findClass_of_methodNamed B.named
  have hlocks := B.notSynchronized
  have htab := vx_table (x := yL_quarantine) B (hts _ List.mem_cons_self)
  subst hsz
  have hD := hD0.self (sz := s.heap.size)
  generalize hAe : va_A (cw g h u) s.heap.size = A at hD hZ ⊢
  have hA : ∀ q : Nat, s.heap.size ≤ q → A q := fun q h => by rw [← hAe]; exact Or.inr h
  have hS : va_S A s.heap s.heap [] := va_S.rf
  have hl := lv_entry ([.ref (h 0), .int x1, .int x2]) (n := 4) (Nat.le_of_ble_eq_true rfl)
  rw [lg_entry_eq]
  generalize (lg_sl ([.ref (h 0), .int x1, .int x2]) ++ List.replicate (4 - (lg_sl ([.ref (h 0), .int x1, .int x2])).length) Slot.unset).toArray = ls at hl ⊢
  have hl : lv_has ls 4 [(0, .ref (h 0)), (1, .int x1), (2, .int x2)] := hl
  refine lv_aload_n hx hb dL_quarantine_0 rfl (lv_at hl 0 rfl) ?_
  refine lv_iload_n hx hb dL_quarantine_1 rfl (lv_at hl 1 rfl) ?_
  refine lv_iload_n hx hb dL_quarantine_2 rfl (lv_at hl 2 rfl) ?_
  have hPc := hP.sub (ws' := cw g h u) [0, 1, 2, 3, 4, 5, 6, 7, 8, 9, 10, 11, 12, 13, 14, 15, 16, 17, 18, 19, 20, 21, 22, 23] rfl
  have hDc := hD.sub (ws' := cw g h u) [0, 1, 2, 3, 4, 5, 6, 7, 8, 9, 10, 11, 12, 13, 14, 15, 16, 17, 18, 19, 20, 21, 22, 23] (by decide) rfl
  have hFc := va_free (wc := cw g h u) hD hS hA [0, 1, 2, 3, 4, 5, 6, 7, 8, 9, 10, 11, 12, 13, 14, 15, 16, 17, 18, 19, 20, 21, 22, 23] rfl
  refine vy_callv (vy_runV (As := [.int x1, .int x2]) (rest := []) ⟨hx, hb, hml, hown, hts⟩ (kX4_quarantine l hl9 dC dI g h u _ x1 x2 hI) (cwV 2 hts (gV wd_358 wd_359 wd_360 wd_92 wcX4_quarantine) rfl rfl rfl (by decide +kernel) ⟨(Nat.le_of_ble_eq_true rfl), (Nat.le_of_ble_eq_true rfl)⟩) ⟨fun a U g mk q => by obtain ⟨q0, q1, qP, qK, qD, qZ⟩ := q; exact ⟨q0, q1, qP, va_K.moved (u := U) (U := U.calling g mk a) (Vm.Alike.refl U.vm) qK, qD, zz_same (u := U) (H := U.heap) rfl rfl qZ⟩, va_recv hK hPc (ci := 3) (q0 := 0) rfl (cw_at0 _ _ _), fun U hU hW => ⟨rfl, by rw [hU], by rw [hU]; exact hPc, va_K.moved hW.alike hK, hDc.weaken (fun _ _ _ _ => trivial), by rw [hU]; exact zz_to hZ hS hFc hW⟩⟩ rfl rfl hl.1 rfl (lv_room (Nat.le_of_ble_eq_true rfl)) dL_quarantine_3 ⟨(Nat.le_of_ble_eq_true rfl), (Nat.le_of_ble_eq_true rfl)⟩) hS (fun q _ h => hFc q h) hFc (fun q _ h => hFc q h) (fun E ce q9 u2 t H1 locs1 ht hvm hw hB hz1 hk1 hS hce hcv hcl => ?_) (fun u2 t H1 locs1 ht hvm hw hB hz1 hk1 hS => ?_)
  · skip
    obtain ⟨⟨kx, hk, hE⟩, hP1, hD1⟩ := hB
    rw [ht] at hP1
    have hP := hP1
    have hD := hD1.weaken (fun _ _ _ h => hFc _ h)
    have hc := cdX4_quarantine u x1 x2
    rw [hk] at hc
    rcases hc with hc | hc | hc | hc
    · skip
      have hc : kx = 0 := hc
      subst hc
      exact hE.elim
    · skip
      have hc : kx = 1 := hc
      subst hc
      have hE : E = "java/util/NoSuchElementException" := hE
      subst hE
      refine vx_catch (own := RL) (name := "java/util/NoSuchElementException") hown ([] : List ExceptionTableEntry) ⟨0, 6, 9, 33⟩ ([⟨0, 6, 12, 35⟩, ⟨0, 6, 15, 15⟩] : List ExceptionTableEntry) (htab.trans rfl) (fun z hz => nomatch hz) (by decide) (by decide) (hts _ (List.mem_cons_of_mem _ wd_352)) (zz_ws hZ (B := [.castable "java/util/NoSuchElementException" "java/util/NoSuchElementException"]) (by decide +kernel) _ List.mem_cons_self) hce hcv hcl ?_
      refine lv_astore_n (lv' := [(3, .ref q9), (0, .ref (h 0)), (1, .int x1), (2, .int x2)]) hx hb dL_quarantine_9 rfl hl (by decide) rfl (fun ls hl => ?_)
      refine lv_iconst (v := 1) hx hb dL_quarantine_10 (by decide) ?_
      exact W.iret (v := 1) hx hb hr (fun t ht hW => ⟨⟨1, u2, rfl, (by rw [hk]; exact ⟨rfl, rfl⟩), by rw [ht]; exact hP, hD⟩, hS.F ht⟩) hS.2.2 dL_quarantine_11
    · skip
      have hc : kx = 3 := hc
      subst hc
      have hE : E = "java/lang/IllegalStateException" := hE
      subst hE
      refine vx_catch (own := RL) (name := "java/lang/IllegalStateException") hown ([⟨0, 6, 9, 33⟩] : List ExceptionTableEntry) ⟨0, 6, 12, 35⟩ ([⟨0, 6, 15, 15⟩] : List ExceptionTableEntry) (htab.trans rfl) (fun z hz => by
        simp only [List.mem_cons, List.not_mem_nil, or_false] at hz
        rcases hz with rfl
        · exact Or.inr ⟨by decide, "java/util/NoSuchElementException", (hts _ (List.mem_cons_of_mem _ wd_352)), hN ("java/lang/IllegalStateException", "java/util/NoSuchElementException") (by decide +kernel)⟩) (by decide) (by decide) (hts _ (List.mem_cons_of_mem _ wd_353)) (zz_ws hZ (B := [.castable "java/lang/IllegalStateException" "java/lang/IllegalStateException"]) (by decide +kernel) _ List.mem_cons_self) hce hcv hcl ?_
      refine lv_astore_n (lv' := [(3, .ref q9), (0, .ref (h 0)), (1, .int x1), (2, .int x2)]) hx hb dL_quarantine_12 rfl hl (by decide) rfl (fun ls hl => ?_)
      refine lv_iconst (v := 2) hx hb dL_quarantine_13 (by decide) ?_
      exact W.iret (v := 2) hx hb hr (fun t ht hW => ⟨⟨2, u2, rfl, (by rw [hk]; exact ⟨rfl, rfl⟩), by rw [ht]; exact hP, hD⟩, hS.F ht⟩) hS.2.2 dL_quarantine_14
    · skip
      have hc : kx = 4 := hc
      subst hc
      have hE : E = "java/lang/UnsupportedOperationException" := hE
      subst hE
      refine vx_catch (own := RL) (name := "java/lang/UnsupportedOperationException") hown ([⟨0, 6, 9, 33⟩, ⟨0, 6, 12, 35⟩] : List ExceptionTableEntry) ⟨0, 6, 15, 15⟩ ([] : List ExceptionTableEntry) (htab.trans rfl) (fun z hz => by
        simp only [List.mem_cons, List.not_mem_nil, or_false] at hz
        rcases hz with rfl | rfl
        · exact Or.inr ⟨by decide, "java/util/NoSuchElementException", (hts _ (List.mem_cons_of_mem _ wd_352)), hN ("java/lang/UnsupportedOperationException", "java/util/NoSuchElementException") (by decide +kernel)⟩
        · exact Or.inr ⟨by decide, "java/lang/IllegalStateException", (hts _ (List.mem_cons_of_mem _ wd_353)), hN ("java/lang/UnsupportedOperationException", "java/lang/IllegalStateException") (by decide +kernel)⟩) (by decide) (by decide) (hts _ (List.mem_cons_of_mem _ wd_335)) (zz_ws hZ (B := [.castable "java/lang/UnsupportedOperationException" "java/lang/UnsupportedOperationException"]) (by decide +kernel) _ List.mem_cons_self) hce hcv hcl ?_
      refine lv_astore_n (lv' := [(3, .ref q9), (0, .ref (h 0)), (1, .int x1), (2, .int x2)]) hx hb dL_quarantine_15 rfl hl (by decide) rfl (fun ls hl => ?_)
      refine lv_iconst (v := 3) hx hb dL_quarantine_16 (by decide) ?_
      exact W.iret (v := 3) hx hb hr (fun t ht hW => ⟨⟨3, u2, rfl, (by rw [hk]; exact ⟨rfl, rfl⟩), by rw [ht]; exact hP, hD⟩, hS.F ht⟩) hS.2.2 dL_quarantine_17
  · skip
    obtain ⟨hP1, hD1⟩ := hB
    rw [ht] at hP1
    have hP := hP1
    have hD := hD1.weaken (fun _ _ _ h => hFc _ h)
    refine W.widen (k := 1) (n := 6) (Nat.le_of_ble_eq_true rfl) (Nat.le_of_ble_eq_true rfl) ?_
    refine lv_goto (tgt := 18) hx hb dL_quarantine_6 (by decide) ?_
    refine lv_iconst (v := 0) hx hb dL_quarantine_18 (by decide) ?_
    exact W.iret (v := 0) hx hb hr (fun t ht hW => ⟨⟨0, u2, rfl, (by rw [hw]; exact ⟨rfl, rfl⟩), by rw [ht]; exact hP, hD⟩, hS.F ht⟩) hS.2.2 dL_quarantine_19
set_option maxHeartbeats 4000000 in
set_option maxRecDepth 100000 in
theorem kL_order (l : Launch) (hl9 : l.stackTraces = false) (dC : Nat → ClassId) (dI : Nat → Nat → Nat) (g : cG) (h : Nat → Nat) (o : Nat) (u : cS) (f : Nat → Int64) (sz : Nat) (x1 : Int32) (x2 : Int32) (x3 : Int32) (hI : cInv u) : Met l yL_order wsL_order ({ frames := 8, cells := 1, slots := 6, locals := 128 }) (va_Pc [.ref (h 0), .int x1, .int x2, .int x3, .ref o] (fun U => U.heap.size = sz ∧ va_P (dC, dI) vwCl (ow g h o u f) U.heap ∧ va_K (dC, dI) vwCl (cTys g) U ∧ va_D (fun _ => True) (ow g h o u f) ∧ zz (va_A (ow g h o u f) sz) U U.heap ∧ nn U)) (va_Qi (fun (r : Int32) (q : cS × (Nat → Int64)) => r = wk [2] (fX4_order u x1 x2 x3).1 ∧ q = wq (fX4_order u x1 x2 x3) f) (fun q t => va_P (dC, dI) vwCl (ow g h o q.1 q.2) t.heap ∧ va_D (va_A (ow g h o u f) sz) (ow g h o q.1 q.2)) (va_A (ow g h o u f) sz)) 1 6 (va_A (ow g h o u f) sz) := by
  refine va_MetW (cc := cL_order) (maxL := 6) (ret := (some .int)) (hh := [(0, 12, 15, 13)]) (by decide) rfl ?_
  intro p e s m args below meth c s₁ B hml hv
  obtain ⟨rfl, hsz, hP, hK, hD0, hZ, hN⟩ := hv
  have hx := B.exec
  have hb := B.bytes
  have hr := B.returns
  have hts := atoms_spec (ws := wsL_order) B.pre
  have hown : s.vm.findClass RL = some m.cls := findClass_of_methodNamed B.named
  have hlocks := B.notSynchronized
  have htab := vx_table (x := yL_order) B (hts _ List.mem_cons_self)
  subst hsz
  have hD := hD0.self (sz := s.heap.size)
  generalize hAe : va_A (ow g h o u f) s.heap.size = A at hD hZ ⊢
  have hA : ∀ q : Nat, s.heap.size ≤ q → A q := fun q h => by rw [← hAe]; exact Or.inr h
  have hS : va_S A s.heap s.heap [] := va_S.rf
  have hl := lv_entry ([.ref (h 0), .int x1, .int x2, .int x3, .ref o]) (n := 6) (Nat.le_of_ble_eq_true rfl)
  rw [lg_entry_eq]
  generalize (lg_sl ([.ref (h 0), .int x1, .int x2, .int x3, .ref o]) ++ List.replicate (6 - (lg_sl ([.ref (h 0), .int x1, .int x2, .int x3, .ref o])).length) Slot.unset).toArray = ls at hl ⊢
  have hl : lv_has ls 6 [(0, .ref (h 0)), (1, .int x1), (2, .int x2), (3, .int x3), (4, .ref o)] := hl
  refine lv_aload hx hb dL_order_0 (lv_at hl 4 rfl) ?_
  refine lv_iconst (v := 0) hx hb dL_order_2 (by decide) ?_
  refine lv_aload_n hx hb dL_order_3 rfl (lv_at hl 0 rfl) ?_
  refine lv_iload_n hx hb dL_order_4 rfl (lv_at hl 1 rfl) ?_
  refine lv_iload_n hx hb dL_order_5 rfl (lv_at hl 2 rfl) ?_
  refine lv_iload_n hx hb dL_order_6 rfl (lv_at hl 3 rfl) ?_
  have hPc := hP.sub (ws' := cw g h u) [0, 1, 2, 3, 4, 5, 6, 7, 8, 9, 10, 11, 12, 13, 14, 15, 16, 17, 18, 19, 20, 21, 22, 23] rfl
  have hDc := hD.sub (ws' := cw g h u) [0, 1, 2, 3, 4, 5, 6, 7, 8, 9, 10, 11, 12, 13, 14, 15, 16, 17, 18, 19, 20, 21, 22, 23] (by decide) rfl
  have hFc := va_free (wc := cw g h u) hD hS hA [0, 1, 2, 3, 4, 5, 6, 7, 8, 9, 10, 11, 12, 13, 14, 15, 16, 17, 18, 19, 20, 21, 22, 23] rfl
  refine vy_calli (vy_runV (As := [.int x1, .int x2, .int x3]) (rest := [.int 0, .ref o]) ⟨hx, hb, hml, hown, hts⟩ (kX4_order l hl9 dC dI g h u _ x1 x2 x3 hI) (cwV 3 hts (gV wd_362 wd_363 wd_364 wd_92 wcX4_order) rfl rfl rfl (by decide +kernel) ⟨(Nat.le_of_ble_eq_true rfl), (Nat.le_of_ble_eq_true rfl)⟩) ⟨fun a U g mk q => by obtain ⟨q0, q1, qP, qK, qD, qZ⟩ := q; exact ⟨q0, q1, qP, va_K.moved (u := U) (U := U.calling g mk a) (Vm.Alike.refl U.vm) qK, qD, zz_same (u := U) (H := U.heap) rfl rfl qZ⟩, va_recv hK hPc (ci := 3) (q0 := 0) rfl (cw_at0 _ _ _), fun U hU hW => ⟨rfl, by rw [hU], by rw [hU]; exact hPc, va_K.moved hW.alike hK, hDc.weaken (fun _ _ _ _ => trivial), by rw [hU]; exact zz_to hZ hS hFc hW⟩⟩ rfl rfl hl.1 rfl (lv_room (Nat.le_of_ble_eq_true rfl)) dL_order_7 ⟨(Nat.le_of_ble_eq_true rfl), (Nat.le_of_ble_eq_true rfl)⟩) hS (fun q _ h => hFc q h) hFc (fun q _ h => hFc q h) (fun E ce q9 u2 t H1 locs1 ht hvm hw hB hz1 hk1 hS hce hcv hcl => ?_) (fun r u2 t H1 locs1 ht hvm hw hB hz1 hk1 hS => ?_)
  · skip
    obtain ⟨⟨kx, hk, hE⟩, hP1, hD1⟩ := hB
    rw [ht] at hP1
    obtain ⟨hP, hD⟩ := va_join (wr := [(o, .inl (g.2.2, 1, .inr (.inl f)))]) (w1 := cw g h u2) hP hD [0, 1, 2, 3, 4, 5, 6, 7, 8, 9, 10, 11, 12, 13, 14, 15, 16, 17, 18, 19, 20, 21, 22, 23] [24] rfl rfl (by decide) (by decide) hk1 hFc hP1 hD1
    have hP := hP.sub (ws' := ow g h o u2 f) [1, 2, 3, 4, 5, 6, 7, 8, 9, 10, 11, 12, 13, 14, 15, 16, 17, 18, 19, 20, 21, 22, 23, 24, 0] rfl
    have hD := hD.sub (ws' := ow g h o u2 f) [1, 2, 3, 4, 5, 6, 7, 8, 9, 10, 11, 12, 13, 14, 15, 16, 17, 18, 19, 20, 21, 22, 23, 24, 0] (by decide) rfl
    have hc := cdX4_order u x1 x2 x3
    rw [hk] at hc
    rcases hc with hc | hc
    · skip
      have hc : kx = 0 := hc
      subst hc
      exact hE.elim
    · skip
      have hc : kx = 2 := hc
      subst hc
      have hE : E = "java/lang/IllegalArgumentException" := hE
      subst hE
      refine vx_catch (own := RL) (name := "java/lang/IllegalArgumentException") hown ([] : List ExceptionTableEntry) ⟨0, 12, 15, 13⟩ ([] : List ExceptionTableEntry) (htab.trans rfl) (fun z hz => nomatch hz) (by decide) (by decide) (hts _ (List.mem_cons_of_mem _ wd_334)) (zz_ws hZ (B := [.castable "java/lang/IllegalArgumentException" "java/lang/IllegalArgumentException"]) (by decide +kernel) _ List.mem_cons_self) hce hcv hcl ?_
      refine lv_astore (lv' := [(5, .ref q9), (0, .ref (h 0)), (1, .int x1), (2, .int x2), (3, .int x3), (4, .ref o)]) hx hb dL_order_15 hl (by decide) rfl (fun ls hl => ?_)
      refine lv_iconst (v := 1) hx hb dL_order_17 (by decide) ?_
      exact W.iret (v := 1) hx hb hr (fun t ht hW => ⟨⟨1, (u2, f), rfl, (by rw [hk]; exact ⟨rfl, rfl⟩), by rw [ht]; exact hP, hD⟩, hS.F ht⟩) hS.2.2 dL_order_18
  · skip
    obtain ⟨hP1, hD1⟩ := hB
    rw [ht] at hP1
    obtain ⟨hP, hD⟩ := va_join (wr := [(o, .inl (g.2.2, 1, .inr (.inl f)))]) (w1 := cw g h u2) hP hD [0, 1, 2, 3, 4, 5, 6, 7, 8, 9, 10, 11, 12, 13, 14, 15, 16, 17, 18, 19, 20, 21, 22, 23] [24] rfl rfl (by decide) (by decide) hk1 hFc hP1 hD1
    have hP := hP.sub (ws' := ow g h o u2 f) [1, 2, 3, 4, 5, 6, 7, 8, 9, 10, 11, 12, 13, 14, 15, 16, 17, 18, 19, 20, 21, 22, 23, 24, 0] rfl
    have hD := hD.sub (ws' := ow g h o u2 f) [1, 2, 3, 4, 5, 6, 7, 8, 9, 10, 11, 12, 13, 14, 15, 16, 17, 18, 19, 20, 21, 22, 23, 24, 0] (by decide) rfl
    refine W.widen (k := 1) (n := 6) (Nat.le_of_ble_eq_true rfl) (Nat.le_of_ble_eq_true rfl) ?_
    refine lv_i2l (v := r.toInt64) hx hb dL_order_10 rfl ?_
    refine va_last (f := f) hx hb hK hP hD hS 24 2 (ow_at24 _ _ _ _ _) rfl (vp_in_iff.mpr (by decide)) dL_order_11 (fun H locs hP hD hS => ?_)
    have hP : va_P (dC, dI) vwCl (ow g h o u2 (vp_updL f (0 : Int32).toNatClampNeg r.toInt64)) H := hP
    have hD : va_D A (ow g h o u2 (vp_updL f (0 : Int32).toNatClampNeg r.toInt64)) := hD
    refine lv_goto (tgt := 19) hx hb dL_order_12 (by decide) ?_
    refine lv_iconst (v := 0) hx hb dL_order_19 (by decide) ?_
    exact W.iret (v := 0) hx hb hr (fun t ht hW => ⟨⟨0, (u2, (vp_updL f (0 : Int32).toNatClampNeg r.toInt64)), rfl, (by rw [hw]; exact ⟨rfl, rfl⟩), by rw [ht]; exact hP, hD⟩, hS.F ht⟩) hS.2.2 dL_order_20
set_option maxHeartbeats 4000000 in
set_option maxRecDepth 100000 in
theorem kL_allowed (l : Launch) (hl9 : l.stackTraces = false) (dC : Nat → ClassId) (dI : Nat → Nat → Nat) (g : cG) (h : Nat → Nat) (o : Nat) (u : cS) (f : Nat → Int64) (sz : Nat) (x1 : Int32) (x2 : Int32) (x3 : Int32) (hI : cInv u) : Met l yL_allowed wsL_allowed ({ frames := 8, cells := 1, slots := 6, locals := 127 }) (va_Pc [.ref (h 0), .int x1, .int x2, .int x3, .ref o] (fun U => U.heap.size = sz ∧ va_P (dC, dI) vwCl (ow g h o u f) U.heap ∧ va_K (dC, dI) vwCl (cTys g) U ∧ va_D (fun _ => True) (ow g h o u f) ∧ zz (va_A (ow g h o u f) sz) U U.heap ∧ nn U)) (va_Qi (fun (r : Int32) (q : cS × (Nat → Int64)) => r = wk [1, 2] (fX4_allowed u x1 x2 x3).1 ∧ q = wz (fX4_allowed u x1 x2 x3) f) (fun q t => va_P (dC, dI) vwCl (ow g h o q.1 q.2) t.heap ∧ va_D (va_A (ow g h o u f) sz) (ow g h o q.1 q.2)) (va_A (ow g h o u f) sz)) 1 6 (va_A (ow g h o u f) sz) := by
  refine va_MetW (cc := cL_allowed) (maxL := 6) (ret := (some .int)) (hh := [(0, 19, 22, 33), (0, 19, 26, 13)]) (by decide) rfl ?_
  intro p e s m args below meth c s₁ B hml hv
  obtain ⟨rfl, hsz, hP, hK, hD0, hZ, hN⟩ := hv
  have hx := B.exec
  have hb := B.bytes
  have hr := B.returns
  have hts := atoms_spec (ws := wsL_allowed) B.pre
  have hown : s.vm.findClass RL = some m.cls := findClass_of_methodNamed B.named
  have hlocks := B.notSynchronized
  have htab := vx_table (x := yL_allowed) B (hts _ List.mem_cons_self)
  subst hsz
  have hD := hD0.self (sz := s.heap.size)
  generalize hAe : va_A (ow g h o u f) s.heap.size = A at hD hZ ⊢
  have hA : ∀ q : Nat, s.heap.size ≤ q → A q := fun q h => by rw [← hAe]; exact Or.inr h
  have hS : va_S A s.heap s.heap [] := va_S.rf
  have hl := lv_entry ([.ref (h 0), .int x1, .int x2, .int x3, .ref o]) (n := 6) (Nat.le_of_ble_eq_true rfl)
  rw [lg_entry_eq]
  generalize (lg_sl ([.ref (h 0), .int x1, .int x2, .int x3, .ref o]) ++ List.replicate (6 - (lg_sl ([.ref (h 0), .int x1, .int x2, .int x3, .ref o])).length) Slot.unset).toArray = ls at hl ⊢
  have hl : lv_has ls 6 [(0, .ref (h 0)), (1, .int x1), (2, .int x2), (3, .int x3), (4, .ref o)] := hl
  refine lv_aload hx hb dL_allowed_0 (lv_at hl 4 rfl) ?_
  refine lv_iconst (v := 0) hx hb dL_allowed_2 (by decide) ?_
  refine lv_aload_n hx hb dL_allowed_3 rfl (lv_at hl 0 rfl) ?_
  refine lv_iload_n hx hb dL_allowed_4 rfl (lv_at hl 1 rfl) ?_
  refine lv_iload_n hx hb dL_allowed_5 rfl (lv_at hl 2 rfl) ?_
  refine lv_iload_n hx hb dL_allowed_6 rfl (lv_at hl 3 rfl) ?_
  have hPc := hP.sub (ws' := cw g h u) [0, 1, 2, 3, 4, 5, 6, 7, 8, 9, 10, 11, 12, 13, 14, 15, 16, 17, 18, 19, 20, 21, 22, 23] rfl
  have hDc := hD.sub (ws' := cw g h u) [0, 1, 2, 3, 4, 5, 6, 7, 8, 9, 10, 11, 12, 13, 14, 15, 16, 17, 18, 19, 20, 21, 22, 23] (by decide) rfl
  have hFc := va_free (wc := cw g h u) hD hS hA [0, 1, 2, 3, 4, 5, 6, 7, 8, 9, 10, 11, 12, 13, 14, 15, 16, 17, 18, 19, 20, 21, 22, 23] rfl
  refine vy_calli (vy_runV (As := [.int x1, .int x2, .int x3]) (rest := [.int 0, .ref o]) ⟨hx, hb, hml, hown, hts⟩ (kX4_allowed l hl9 dC dI g h u _ x1 x2 x3 hI) (cwV 3 hts (gV wd_366 wd_367 wd_368 wd_92 wcX4_allowed) rfl rfl rfl (by decide +kernel) ⟨(Nat.le_of_ble_eq_true rfl), (Nat.le_of_ble_eq_true rfl)⟩) ⟨fun a U g mk q => by obtain ⟨q0, q1, qP, qK, qD, qZ⟩ := q; exact ⟨q0, q1, qP, va_K.moved (u := U) (U := U.calling g mk a) (Vm.Alike.refl U.vm) qK, qD, zz_same (u := U) (H := U.heap) rfl rfl qZ⟩, va_recv hK hPc (ci := 3) (q0 := 0) rfl (cw_at0 _ _ _), fun U hU hW => ⟨rfl, by rw [hU], by rw [hU]; exact hPc, va_K.moved hW.alike hK, hDc.weaken (fun _ _ _ _ => trivial), by rw [hU]; exact zz_to hZ hS hFc hW⟩⟩ rfl rfl hl.1 rfl (lv_room (Nat.le_of_ble_eq_true rfl)) dL_allowed_7 ⟨(Nat.le_of_ble_eq_true rfl), (Nat.le_of_ble_eq_true rfl)⟩) hS (fun q _ h => hFc q h) hFc (fun q _ h => hFc q h) (fun E ce q9 u2 t H1 locs1 ht hvm hw hB hz1 hk1 hS hce hcv hcl => ?_) (fun r u2 t H1 locs1 ht hvm hw hB hz1 hk1 hS => ?_)
  · skip
    obtain ⟨⟨kx, hk, hE⟩, hP1, hD1⟩ := hB
    rw [ht] at hP1
    obtain ⟨hP, hD⟩ := va_join (wr := [(o, .inl (g.2.2, 1, .inr (.inl f)))]) (w1 := cw g h u2) hP hD [0, 1, 2, 3, 4, 5, 6, 7, 8, 9, 10, 11, 12, 13, 14, 15, 16, 17, 18, 19, 20, 21, 22, 23] [24] rfl rfl (by decide) (by decide) hk1 hFc hP1 hD1
    have hP := hP.sub (ws' := ow g h o u2 f) [1, 2, 3, 4, 5, 6, 7, 8, 9, 10, 11, 12, 13, 14, 15, 16, 17, 18, 19, 20, 21, 22, 23, 24, 0] rfl
    have hD := hD.sub (ws' := ow g h o u2 f) [1, 2, 3, 4, 5, 6, 7, 8, 9, 10, 11, 12, 13, 14, 15, 16, 17, 18, 19, 20, 21, 22, 23, 24, 0] (by decide) rfl
    have hc := cdX4_allowed u x1 x2 x3
    rw [hk] at hc
    rcases hc with hc | hc | hc
    · skip
      have hc : kx = 0 := hc
      subst hc
      exact hE.elim
    · skip
      have hc : kx = 1 := hc
      subst hc
      have hE : E = "java/util/NoSuchElementException" := hE
      subst hE
      refine vx_catch (own := RL) (name := "java/util/NoSuchElementException") hown ([] : List ExceptionTableEntry) ⟨0, 19, 22, 33⟩ ([⟨0, 19, 26, 13⟩] : List ExceptionTableEntry) (htab.trans rfl) (fun z hz => nomatch hz) (by decide) (by decide) (hts _ (List.mem_cons_of_mem _ wd_352)) (zz_ws hZ (B := [.castable "java/util/NoSuchElementException" "java/util/NoSuchElementException"]) (by decide +kernel) _ List.mem_cons_self) hce hcv hcl ?_
      refine lv_astore (lv' := [(5, .ref q9), (0, .ref (h 0)), (1, .int x1), (2, .int x2), (3, .int x3), (4, .ref o)]) hx hb dL_allowed_22 hl (by decide) rfl (fun ls hl => ?_)
      refine lv_iconst (v := 1) hx hb dL_allowed_24 (by decide) ?_
      exact W.iret (v := 1) hx hb hr (fun t ht hW => ⟨⟨1, (u2, f), rfl, (by rw [hk]; exact ⟨rfl, rfl⟩), by rw [ht]; exact hP, hD⟩, hS.F ht⟩) hS.2.2 dL_allowed_25
    · skip
      have hc : kx = 2 := hc
      subst hc
      have hE : E = "java/lang/IllegalArgumentException" := hE
      subst hE
      refine vx_catch (own := RL) (name := "java/lang/IllegalArgumentException") hown ([⟨0, 19, 22, 33⟩] : List ExceptionTableEntry) ⟨0, 19, 26, 13⟩ ([] : List ExceptionTableEntry) (htab.trans rfl) (fun z hz => by
        simp only [List.mem_cons, List.not_mem_nil, or_false] at hz
        rcases hz with rfl
        · exact Or.inr ⟨by decide, "java/util/NoSuchElementException", (hts _ (List.mem_cons_of_mem _ wd_352)), hN ("java/lang/IllegalArgumentException", "java/util/NoSuchElementException") (by decide +kernel)⟩) (by decide) (by decide) (hts _ (List.mem_cons_of_mem _ wd_334)) (zz_ws hZ (B := [.castable "java/lang/IllegalArgumentException" "java/lang/IllegalArgumentException"]) (by decide +kernel) _ List.mem_cons_self) hce hcv hcl ?_
      refine lv_astore (lv' := [(5, .ref q9), (0, .ref (h 0)), (1, .int x1), (2, .int x2), (3, .int x3), (4, .ref o)]) hx hb dL_allowed_26 hl (by decide) rfl (fun ls hl => ?_)
      refine lv_iconst (v := 2) hx hb dL_allowed_28 (by decide) ?_
      exact W.iret (v := 2) hx hb hr (fun t ht hW => ⟨⟨2, (u2, f), rfl, (by rw [hk]; exact ⟨rfl, rfl⟩), by rw [ht]; exact hP, hD⟩, hS.F ht⟩) hS.2.2 dL_allowed_29
  · skip
    obtain ⟨hP1, hD1⟩ := hB
    rw [ht] at hP1
    obtain ⟨hP, hD⟩ := va_join (wr := [(o, .inl (g.2.2, 1, .inr (.inl f)))]) (w1 := cw g h u2) hP hD [0, 1, 2, 3, 4, 5, 6, 7, 8, 9, 10, 11, 12, 13, 14, 15, 16, 17, 18, 19, 20, 21, 22, 23] [24] rfl rfl (by decide) (by decide) hk1 hFc hP1 hD1
    have hP := hP.sub (ws' := ow g h o u2 f) [1, 2, 3, 4, 5, 6, 7, 8, 9, 10, 11, 12, 13, 14, 15, 16, 17, 18, 19, 20, 21, 22, 23, 24, 0] rfl
    have hD := hD.sub (ws' := ow g h o u2 f) [1, 2, 3, 4, 5, 6, 7, 8, 9, 10, 11, 12, 13, 14, 15, 16, 17, 18, 19, 20, 21, 22, 23, 24, 0] (by decide) rfl
    refine W.widen (k := 1) (n := 6) (Nat.le_of_ble_eq_true rfl) (Nat.le_of_ble_eq_true rfl) ?_
    refine lv_if_eq (tgt := 17) hx hb dL_allowed_10 (by decide) (fun c_1 => ?_) (fun c_1 => ?_)
    · skip
      refine lv_lconst (v := 0) hx hb dL_allowed_17 (by decide) ?_
      refine va_last (f := f) hx hb hK hP hD hS 24 2 (ow_at24 _ _ _ _ _) rfl (vp_in_iff.mpr (by decide)) dL_allowed_18 (fun H locs hP hD hS => ?_)
      have hP : va_P (dC, dI) vwCl (ow g h o u2 (vp_updL f (0 : Int32).toNatClampNeg 0)) H := hP
      have hD : va_D A (ow g h o u2 (vp_updL f (0 : Int32).toNatClampNeg 0)) := hD
      refine lv_goto (tgt := 30) hx hb dL_allowed_19 (by decide) ?_
      refine lv_iconst (v := 0) hx hb dL_allowed_30 (by decide) ?_
      exact W.iret (v := 0) hx hb hr (fun t ht hW => ⟨⟨0, (u2, (vp_updL f (0 : Int32).toNatClampNeg 0)), rfl, (by rw [hw]; refine ⟨rfl, ?_⟩; show _ = (u2, vp_updL f (0 : Int32).toNatClampNeg (if r = 0 then 0 else 1)); rw [if_pos c_1]), by rw [ht]; exact hP, hD⟩, hS.F ht⟩) hS.2.2 dL_allowed_31
    · skip
      refine lv_lconst (v := 1) hx hb dL_allowed_13 (by decide) ?_
      refine lv_goto (tgt := 18) hx hb dL_allowed_14 (by decide) ?_
      refine va_last (f := f) hx hb hK hP hD hS 24 2 (ow_at24 _ _ _ _ _) rfl (vp_in_iff.mpr (by decide)) dL_allowed_18 (fun H locs hP hD hS => ?_)
      have hP : va_P (dC, dI) vwCl (ow g h o u2 (vp_updL f (0 : Int32).toNatClampNeg 1)) H := hP
      have hD : va_D A (ow g h o u2 (vp_updL f (0 : Int32).toNatClampNeg 1)) := hD
      refine lv_goto (tgt := 30) hx hb dL_allowed_19 (by decide) ?_
      refine lv_iconst (v := 0) hx hb dL_allowed_30 (by decide) ?_
      exact W.iret (v := 0) hx hb hr (fun t ht hW => ⟨⟨0, (u2, (vp_updL f (0 : Int32).toNatClampNeg 1)), rfl, (by rw [hw]; refine ⟨rfl, ?_⟩; show _ = (u2, vp_updL f (0 : Int32).toNatClampNeg (if r = 0 then 0 else 1)); rw [if_neg c_1]), by rw [ht]; exact hP, hD⟩, hS.F ht⟩) hS.2.2 dL_allowed_31
set_option maxHeartbeats 4000000 in
set_option maxRecDepth 100000 in
theorem kL_split (l : Launch) (hl9 : l.stackTraces = false) (dC : Nat → ClassId) (dI : Nat → Nat → Nat) (g : cG) (h : Nat → Nat) (o : Nat) (u : cS) (f : Nat → Int64) (sz : Nat) (x1 : Int32) (hI : cInv u) : Met l yL_split wsL_split ({ frames := 8, cells := 1, slots := 6, locals := 125 }) (va_Pc [.ref (h 0), .int x1, .ref o] (fun U => U.heap.size = sz ∧ va_P (dC, dI) vwCl (ow g h o u f) U.heap ∧ va_K (dC, dI) vwCl (cTys g) U ∧ va_D (fun _ => True) (ow g h o u f) ∧ zz (va_A (ow g h o u f) sz) U U.heap ∧ nn U)) (va_Qi (fun (r : Int32) (q : cS × (Nat → Int64)) => r = wk [1, 3, 4] (fX4_split u x1).1 ∧ q = wq (fX4_split u x1) f) (fun q t => va_P (dC, dI) vwCl (ow g h o q.1 q.2) t.heap ∧ va_D (va_A (ow g h o u f) sz) (ow g h o q.1 q.2)) (va_A (ow g h o u f) sz)) 1 6 (va_A (ow g h o u f) sz) := by
  refine va_MetW (cc := cL_split) (maxL := 4) (ret := (some .int)) (hh := [(0, 9, 12, 33), (0, 9, 15, 35), (0, 9, 18, 15)]) (by decide) rfl ?_
  intro p e s m args below meth c s₁ B hml hv
  obtain ⟨rfl, hsz, hP, hK, hD0, hZ, hN⟩ := hv
  have hx := B.exec
  have hb := B.bytes
  have hr := B.returns
  have hts := atoms_spec (ws := wsL_split) B.pre
  have hown : s.vm.findClass RL = some m.cls := findClass_of_methodNamed B.named
  have hlocks := B.notSynchronized
  have htab := vx_table (x := yL_split) B (hts _ List.mem_cons_self)
  subst hsz
  have hD := hD0.self (sz := s.heap.size)
  generalize hAe : va_A (ow g h o u f) s.heap.size = A at hD hZ ⊢
  have hA : ∀ q : Nat, s.heap.size ≤ q → A q := fun q h => by rw [← hAe]; exact Or.inr h
  have hS : va_S A s.heap s.heap [] := va_S.rf
  have hl := lv_entry ([.ref (h 0), .int x1, .ref o]) (n := 4) (Nat.le_of_ble_eq_true rfl)
  rw [lg_entry_eq]
  generalize (lg_sl ([.ref (h 0), .int x1, .ref o]) ++ List.replicate (4 - (lg_sl ([.ref (h 0), .int x1, .ref o])).length) Slot.unset).toArray = ls at hl ⊢
  have hl : lv_has ls 4 [(0, .ref (h 0)), (1, .int x1), (2, .ref o)] := hl
  refine lv_aload_n hx hb dL_split_0 rfl (lv_at hl 2 rfl) ?_
  refine lv_iconst (v := 0) hx hb dL_split_1 (by decide) ?_
  refine lv_aload_n hx hb dL_split_2 rfl (lv_at hl 0 rfl) ?_
  refine lv_iload_n hx hb dL_split_3 rfl (lv_at hl 1 rfl) ?_
  have hPc := hP.sub (ws' := cw g h u) [0, 1, 2, 3, 4, 5, 6, 7, 8, 9, 10, 11, 12, 13, 14, 15, 16, 17, 18, 19, 20, 21, 22, 23] rfl
  have hDc := hD.sub (ws' := cw g h u) [0, 1, 2, 3, 4, 5, 6, 7, 8, 9, 10, 11, 12, 13, 14, 15, 16, 17, 18, 19, 20, 21, 22, 23] (by decide) rfl
  have hFc := va_free (wc := cw g h u) hD hS hA [0, 1, 2, 3, 4, 5, 6, 7, 8, 9, 10, 11, 12, 13, 14, 15, 16, 17, 18, 19, 20, 21, 22, 23] rfl
  refine vy_calli (vy_runV (As := [.int x1]) (rest := [.int 0, .ref o]) ⟨hx, hb, hml, hown, hts⟩ (kX4_split l hl9 dC dI g h u _ x1 hI) (cwV 1 hts (gV wd_370 wd_371 wd_372 wd_92 wcX4_split) rfl rfl rfl (by decide +kernel) ⟨(Nat.le_of_ble_eq_true rfl), (Nat.le_of_ble_eq_true rfl)⟩) ⟨fun a U g mk q => by obtain ⟨q0, q1, qP, qK, qD, qZ⟩ := q; exact ⟨q0, q1, qP, va_K.moved (u := U) (U := U.calling g mk a) (Vm.Alike.refl U.vm) qK, qD, zz_same (u := U) (H := U.heap) rfl rfl qZ⟩, va_recv hK hPc (ci := 3) (q0 := 0) rfl (cw_at0 _ _ _), fun U hU hW => ⟨rfl, by rw [hU], by rw [hU]; exact hPc, va_K.moved hW.alike hK, hDc.weaken (fun _ _ _ _ => trivial), by rw [hU]; exact zz_to hZ hS hFc hW⟩⟩ rfl rfl hl.1 rfl (lv_room (Nat.le_of_ble_eq_true rfl)) dL_split_4 ⟨(Nat.le_of_ble_eq_true rfl), (Nat.le_of_ble_eq_true rfl)⟩) hS (fun q _ h => hFc q h) hFc (fun q _ h => hFc q h) (fun E ce q9 u2 t H1 locs1 ht hvm hw hB hz1 hk1 hS hce hcv hcl => ?_) (fun r u2 t H1 locs1 ht hvm hw hB hz1 hk1 hS => ?_)
  · skip
    obtain ⟨⟨kx, hk, hE⟩, hP1, hD1⟩ := hB
    rw [ht] at hP1
    obtain ⟨hP, hD⟩ := va_join (wr := [(o, .inl (g.2.2, 1, .inr (.inl f)))]) (w1 := cw g h u2) hP hD [0, 1, 2, 3, 4, 5, 6, 7, 8, 9, 10, 11, 12, 13, 14, 15, 16, 17, 18, 19, 20, 21, 22, 23] [24] rfl rfl (by decide) (by decide) hk1 hFc hP1 hD1
    have hP := hP.sub (ws' := ow g h o u2 f) [1, 2, 3, 4, 5, 6, 7, 8, 9, 10, 11, 12, 13, 14, 15, 16, 17, 18, 19, 20, 21, 22, 23, 24, 0] rfl
    have hD := hD.sub (ws' := ow g h o u2 f) [1, 2, 3, 4, 5, 6, 7, 8, 9, 10, 11, 12, 13, 14, 15, 16, 17, 18, 19, 20, 21, 22, 23, 24, 0] (by decide) rfl
    have hc := cdX4_split u x1
    rw [hk] at hc
    rcases hc with hc | hc | hc | hc
    · skip
      have hc : kx = 0 := hc
      subst hc
      exact hE.elim
    · skip
      have hc : kx = 1 := hc
      subst hc
      have hE : E = "java/util/NoSuchElementException" := hE
      subst hE
      refine vx_catch (own := RL) (name := "java/util/NoSuchElementException") hown ([] : List ExceptionTableEntry) ⟨0, 9, 12, 33⟩ ([⟨0, 9, 15, 35⟩, ⟨0, 9, 18, 15⟩] : List ExceptionTableEntry) (htab.trans rfl) (fun z hz => nomatch hz) (by decide) (by decide) (hts _ (List.mem_cons_of_mem _ wd_352)) (zz_ws hZ (B := [.castable "java/util/NoSuchElementException" "java/util/NoSuchElementException"]) (by decide +kernel) _ List.mem_cons_self) hce hcv hcl ?_
      refine lv_astore_n (lv' := [(3, .ref q9), (0, .ref (h 0)), (1, .int x1), (2, .ref o)]) hx hb dL_split_12 rfl hl (by decide) rfl (fun ls hl => ?_)
      refine lv_iconst (v := 1) hx hb dL_split_13 (by decide) ?_
      exact W.iret (v := 1) hx hb hr (fun t ht hW => ⟨⟨1, (u2, f), rfl, (by rw [hk]; exact ⟨rfl, rfl⟩), by rw [ht]; exact hP, hD⟩, hS.F ht⟩) hS.2.2 dL_split_14
    · skip
      have hc : kx = 3 := hc
      subst hc
      have hE : E = "java/lang/IllegalStateException" := hE
      subst hE
      refine vx_catch (own := RL) (name := "java/lang/IllegalStateException") hown ([⟨0, 9, 12, 33⟩] : List ExceptionTableEntry) ⟨0, 9, 15, 35⟩ ([⟨0, 9, 18, 15⟩] : List ExceptionTableEntry) (htab.trans rfl) (fun z hz => by
        simp only [List.mem_cons, List.not_mem_nil, or_false] at hz
        rcases hz with rfl
        · exact Or.inr ⟨by decide, "java/util/NoSuchElementException", (hts _ (List.mem_cons_of_mem _ wd_352)), hN ("java/lang/IllegalStateException", "java/util/NoSuchElementException") (by decide +kernel)⟩) (by decide) (by decide) (hts _ (List.mem_cons_of_mem _ wd_353)) (zz_ws hZ (B := [.castable "java/lang/IllegalStateException" "java/lang/IllegalStateException"]) (by decide +kernel) _ List.mem_cons_self) hce hcv hcl ?_
      refine lv_astore_n (lv' := [(3, .ref q9), (0, .ref (h 0)), (1, .int x1), (2, .ref o)]) hx hb dL_split_15 rfl hl (by decide) rfl (fun ls hl => ?_)
      refine lv_iconst (v := 2) hx hb dL_split_16 (by decide) ?_
      exact W.iret (v := 2) hx hb hr (fun t ht hW => ⟨⟨2, (u2, f), rfl, (by rw [hk]; exact ⟨rfl, rfl⟩), by rw [ht]; exact hP, hD⟩, hS.F ht⟩) hS.2.2 dL_split_17
    · skip
      have hc : kx = 4 := hc
      subst hc
      have hE : E = "java/lang/UnsupportedOperationException" := hE
      subst hE
      refine vx_catch (own := RL) (name := "java/lang/UnsupportedOperationException") hown ([⟨0, 9, 12, 33⟩, ⟨0, 9, 15, 35⟩] : List ExceptionTableEntry) ⟨0, 9, 18, 15⟩ ([] : List ExceptionTableEntry) (htab.trans rfl) (fun z hz => by
        simp only [List.mem_cons, List.not_mem_nil, or_false] at hz
        rcases hz with rfl | rfl
        · exact Or.inr ⟨by decide, "java/util/NoSuchElementException", (hts _ (List.mem_cons_of_mem _ wd_352)), hN ("java/lang/UnsupportedOperationException", "java/util/NoSuchElementException") (by decide +kernel)⟩
        · exact Or.inr ⟨by decide, "java/lang/IllegalStateException", (hts _ (List.mem_cons_of_mem _ wd_353)), hN ("java/lang/UnsupportedOperationException", "java/lang/IllegalStateException") (by decide +kernel)⟩) (by decide) (by decide) (hts _ (List.mem_cons_of_mem _ wd_335)) (zz_ws hZ (B := [.castable "java/lang/UnsupportedOperationException" "java/lang/UnsupportedOperationException"]) (by decide +kernel) _ List.mem_cons_self) hce hcv hcl ?_
      refine lv_astore_n (lv' := [(3, .ref q9), (0, .ref (h 0)), (1, .int x1), (2, .ref o)]) hx hb dL_split_18 rfl hl (by decide) rfl (fun ls hl => ?_)
      refine lv_iconst (v := 3) hx hb dL_split_19 (by decide) ?_
      exact W.iret (v := 3) hx hb hr (fun t ht hW => ⟨⟨3, (u2, f), rfl, (by rw [hk]; exact ⟨rfl, rfl⟩), by rw [ht]; exact hP, hD⟩, hS.F ht⟩) hS.2.2 dL_split_20
  · skip
    obtain ⟨hP1, hD1⟩ := hB
    rw [ht] at hP1
    obtain ⟨hP, hD⟩ := va_join (wr := [(o, .inl (g.2.2, 1, .inr (.inl f)))]) (w1 := cw g h u2) hP hD [0, 1, 2, 3, 4, 5, 6, 7, 8, 9, 10, 11, 12, 13, 14, 15, 16, 17, 18, 19, 20, 21, 22, 23] [24] rfl rfl (by decide) (by decide) hk1 hFc hP1 hD1
    have hP := hP.sub (ws' := ow g h o u2 f) [1, 2, 3, 4, 5, 6, 7, 8, 9, 10, 11, 12, 13, 14, 15, 16, 17, 18, 19, 20, 21, 22, 23, 24, 0] rfl
    have hD := hD.sub (ws' := ow g h o u2 f) [1, 2, 3, 4, 5, 6, 7, 8, 9, 10, 11, 12, 13, 14, 15, 16, 17, 18, 19, 20, 21, 22, 23, 24, 0] (by decide) rfl
    refine W.widen (k := 1) (n := 6) (Nat.le_of_ble_eq_true rfl) (Nat.le_of_ble_eq_true rfl) ?_
    refine lv_i2l (v := r.toInt64) hx hb dL_split_7 rfl ?_
    refine va_last (f := f) hx hb hK hP hD hS 24 2 (ow_at24 _ _ _ _ _) rfl (vp_in_iff.mpr (by decide)) dL_split_8 (fun H locs hP hD hS => ?_)
    have hP : va_P (dC, dI) vwCl (ow g h o u2 (vp_updL f (0 : Int32).toNatClampNeg r.toInt64)) H := hP
    have hD : va_D A (ow g h o u2 (vp_updL f (0 : Int32).toNatClampNeg r.toInt64)) := hD
    refine lv_goto (tgt := 21) hx hb dL_split_9 (by decide) ?_
    refine lv_iconst (v := 0) hx hb dL_split_21 (by decide) ?_
    exact W.iret (v := 0) hx hb hr (fun t ht hW => ⟨⟨0, (u2, (vp_updL f (0 : Int32).toNatClampNeg r.toInt64)), rfl, (by rw [hw]; exact ⟨rfl, rfl⟩), by rw [ht]; exact hP, hD⟩, hS.F ht⟩) hS.2.2 dL_split_22
set_option maxHeartbeats 4000000 in
set_option maxRecDepth 100000 in
theorem kL_join (l : Launch) (hl9 : l.stackTraces = false) (dC : Nat → ClassId) (dI : Nat → Nat → Nat) (g : cG) (h : Nat → Nat) (u : cS) (sz : Nat) (x1 : Int32) (x2 : Int32) (hI : cInv u) : Met l yL_join wsL_join ({ frames := 8, cells := 1, slots := 6, locals := 125 }) (va_Pc [.ref (h 0), .int x1, .int x2] (fun U => U.heap.size = sz ∧ va_P (dC, dI) vwCl (cw g h u) U.heap ∧ va_K (dC, dI) vwCl (cTys g) U ∧ va_D (fun _ => True) (cw g h u) ∧ zz (va_A (cw g h u) sz) U U.heap ∧ nn U)) (va_Qi (fun (r : Int32) (q : cS) => r = wk [1, 3, 4] (fX4_join u x1 x2).1 ∧ q = (fX4_join u x1 x2).2.2) (fun q t => va_P (dC, dI) vwCl (cw g h q) t.heap ∧ va_D (va_A (cw g h u) sz) (cw g h q)) (va_A (cw g h u) sz)) 1 6 (va_A (cw g h u) sz) := by
  refine va_MetW (cc := cL_join) (maxL := 4) (ret := (some .int)) (hh := [(0, 6, 9, 33), (0, 6, 12, 35), (0, 6, 15, 15)]) (by decide) rfl ?_
  intro p e s m args below meth c s₁ B hml hv
  obtain ⟨rfl, hsz, hP, hK, hD0, hZ, hN⟩ := hv
  have hx := B.exec
  have hb := B.bytes
  have hr := B.returns
  have hts := atoms_spec (ws := wsL_join) B.pre
  have hown : s.vm.findClass RL = some m.cls := findClass_of_methodNamed B.named
  have hlocks := B.notSynchronized
  have htab := vx_table (x := yL_join) B (hts _ List.mem_cons_self)
  subst hsz
  have hD := hD0.self (sz := s.heap.size)
  generalize hAe : va_A (cw g h u) s.heap.size = A at hD hZ ⊢
  have hA : ∀ q : Nat, s.heap.size ≤ q → A q := fun q h => by rw [← hAe]; exact Or.inr h
  have hS : va_S A s.heap s.heap [] := va_S.rf
  have hl := lv_entry ([.ref (h 0), .int x1, .int x2]) (n := 4) (Nat.le_of_ble_eq_true rfl)
  rw [lg_entry_eq]
  generalize (lg_sl ([.ref (h 0), .int x1, .int x2]) ++ List.replicate (4 - (lg_sl ([.ref (h 0), .int x1, .int x2])).length) Slot.unset).toArray = ls at hl ⊢
  have hl : lv_has ls 4 [(0, .ref (h 0)), (1, .int x1), (2, .int x2)] := hl
  refine lv_aload_n hx hb dL_join_0 rfl (lv_at hl 0 rfl) ?_
  refine lv_iload_n hx hb dL_join_1 rfl (lv_at hl 1 rfl) ?_
  refine lv_iload_n hx hb dL_join_2 rfl (lv_at hl 2 rfl) ?_
  have hPc := hP.sub (ws' := cw g h u) [0, 1, 2, 3, 4, 5, 6, 7, 8, 9, 10, 11, 12, 13, 14, 15, 16, 17, 18, 19, 20, 21, 22, 23] rfl
  have hDc := hD.sub (ws' := cw g h u) [0, 1, 2, 3, 4, 5, 6, 7, 8, 9, 10, 11, 12, 13, 14, 15, 16, 17, 18, 19, 20, 21, 22, 23] (by decide) rfl
  have hFc := va_free (wc := cw g h u) hD hS hA [0, 1, 2, 3, 4, 5, 6, 7, 8, 9, 10, 11, 12, 13, 14, 15, 16, 17, 18, 19, 20, 21, 22, 23] rfl
  refine vy_callv (vy_runV (As := [.int x1, .int x2]) (rest := []) ⟨hx, hb, hml, hown, hts⟩ (kX4_join l hl9 dC dI g h u _ x1 x2 hI) (cwV 2 hts (gV wd_374 wd_375 wd_376 wd_92 wcX4_join) rfl rfl rfl (by decide +kernel) ⟨(Nat.le_of_ble_eq_true rfl), (Nat.le_of_ble_eq_true rfl)⟩) ⟨fun a U g mk q => by obtain ⟨q0, q1, qP, qK, qD, qZ⟩ := q; exact ⟨q0, q1, qP, va_K.moved (u := U) (U := U.calling g mk a) (Vm.Alike.refl U.vm) qK, qD, zz_same (u := U) (H := U.heap) rfl rfl qZ⟩, va_recv hK hPc (ci := 3) (q0 := 0) rfl (cw_at0 _ _ _), fun U hU hW => ⟨rfl, by rw [hU], by rw [hU]; exact hPc, va_K.moved hW.alike hK, hDc.weaken (fun _ _ _ _ => trivial), by rw [hU]; exact zz_to hZ hS hFc hW⟩⟩ rfl rfl hl.1 rfl (lv_room (Nat.le_of_ble_eq_true rfl)) dL_join_3 ⟨(Nat.le_of_ble_eq_true rfl), (Nat.le_of_ble_eq_true rfl)⟩) hS (fun q _ h => hFc q h) hFc (fun q _ h => hFc q h) (fun E ce q9 u2 t H1 locs1 ht hvm hw hB hz1 hk1 hS hce hcv hcl => ?_) (fun u2 t H1 locs1 ht hvm hw hB hz1 hk1 hS => ?_)
  · skip
    obtain ⟨⟨kx, hk, hE⟩, hP1, hD1⟩ := hB
    rw [ht] at hP1
    have hP := hP1
    have hD := hD1.weaken (fun _ _ _ h => hFc _ h)
    have hc := cdX4_join u x1 x2
    rw [hk] at hc
    rcases hc with hc | hc | hc | hc
    · skip
      have hc : kx = 0 := hc
      subst hc
      exact hE.elim
    · skip
      have hc : kx = 1 := hc
      subst hc
      have hE : E = "java/util/NoSuchElementException" := hE
      subst hE
      refine vx_catch (own := RL) (name := "java/util/NoSuchElementException") hown ([] : List ExceptionTableEntry) ⟨0, 6, 9, 33⟩ ([⟨0, 6, 12, 35⟩, ⟨0, 6, 15, 15⟩] : List ExceptionTableEntry) (htab.trans rfl) (fun z hz => nomatch hz) (by decide) (by decide) (hts _ (List.mem_cons_of_mem _ wd_352)) (zz_ws hZ (B := [.castable "java/util/NoSuchElementException" "java/util/NoSuchElementException"]) (by decide +kernel) _ List.mem_cons_self) hce hcv hcl ?_
      refine lv_astore_n (lv' := [(3, .ref q9), (0, .ref (h 0)), (1, .int x1), (2, .int x2)]) hx hb dL_join_9 rfl hl (by decide) rfl (fun ls hl => ?_)
      refine lv_iconst (v := 1) hx hb dL_join_10 (by decide) ?_
      exact W.iret (v := 1) hx hb hr (fun t ht hW => ⟨⟨1, u2, rfl, (by rw [hk]; exact ⟨rfl, rfl⟩), by rw [ht]; exact hP, hD⟩, hS.F ht⟩) hS.2.2 dL_join_11
    · skip
      have hc : kx = 3 := hc
      subst hc
      have hE : E = "java/lang/IllegalStateException" := hE
      subst hE
      refine vx_catch (own := RL) (name := "java/lang/IllegalStateException") hown ([⟨0, 6, 9, 33⟩] : List ExceptionTableEntry) ⟨0, 6, 12, 35⟩ ([⟨0, 6, 15, 15⟩] : List ExceptionTableEntry) (htab.trans rfl) (fun z hz => by
        simp only [List.mem_cons, List.not_mem_nil, or_false] at hz
        rcases hz with rfl
        · exact Or.inr ⟨by decide, "java/util/NoSuchElementException", (hts _ (List.mem_cons_of_mem _ wd_352)), hN ("java/lang/IllegalStateException", "java/util/NoSuchElementException") (by decide +kernel)⟩) (by decide) (by decide) (hts _ (List.mem_cons_of_mem _ wd_353)) (zz_ws hZ (B := [.castable "java/lang/IllegalStateException" "java/lang/IllegalStateException"]) (by decide +kernel) _ List.mem_cons_self) hce hcv hcl ?_
      refine lv_astore_n (lv' := [(3, .ref q9), (0, .ref (h 0)), (1, .int x1), (2, .int x2)]) hx hb dL_join_12 rfl hl (by decide) rfl (fun ls hl => ?_)
      refine lv_iconst (v := 2) hx hb dL_join_13 (by decide) ?_
      exact W.iret (v := 2) hx hb hr (fun t ht hW => ⟨⟨2, u2, rfl, (by rw [hk]; exact ⟨rfl, rfl⟩), by rw [ht]; exact hP, hD⟩, hS.F ht⟩) hS.2.2 dL_join_14
    · skip
      have hc : kx = 4 := hc
      subst hc
      have hE : E = "java/lang/UnsupportedOperationException" := hE
      subst hE
      refine vx_catch (own := RL) (name := "java/lang/UnsupportedOperationException") hown ([⟨0, 6, 9, 33⟩, ⟨0, 6, 12, 35⟩] : List ExceptionTableEntry) ⟨0, 6, 15, 15⟩ ([] : List ExceptionTableEntry) (htab.trans rfl) (fun z hz => by
        simp only [List.mem_cons, List.not_mem_nil, or_false] at hz
        rcases hz with rfl | rfl
        · exact Or.inr ⟨by decide, "java/util/NoSuchElementException", (hts _ (List.mem_cons_of_mem _ wd_352)), hN ("java/lang/UnsupportedOperationException", "java/util/NoSuchElementException") (by decide +kernel)⟩
        · exact Or.inr ⟨by decide, "java/lang/IllegalStateException", (hts _ (List.mem_cons_of_mem _ wd_353)), hN ("java/lang/UnsupportedOperationException", "java/lang/IllegalStateException") (by decide +kernel)⟩) (by decide) (by decide) (hts _ (List.mem_cons_of_mem _ wd_335)) (zz_ws hZ (B := [.castable "java/lang/UnsupportedOperationException" "java/lang/UnsupportedOperationException"]) (by decide +kernel) _ List.mem_cons_self) hce hcv hcl ?_
      refine lv_astore_n (lv' := [(3, .ref q9), (0, .ref (h 0)), (1, .int x1), (2, .int x2)]) hx hb dL_join_15 rfl hl (by decide) rfl (fun ls hl => ?_)
      refine lv_iconst (v := 3) hx hb dL_join_16 (by decide) ?_
      exact W.iret (v := 3) hx hb hr (fun t ht hW => ⟨⟨3, u2, rfl, (by rw [hk]; exact ⟨rfl, rfl⟩), by rw [ht]; exact hP, hD⟩, hS.F ht⟩) hS.2.2 dL_join_17
  · skip
    obtain ⟨hP1, hD1⟩ := hB
    rw [ht] at hP1
    have hP := hP1
    have hD := hD1.weaken (fun _ _ _ h => hFc _ h)
    refine W.widen (k := 1) (n := 6) (Nat.le_of_ble_eq_true rfl) (Nat.le_of_ble_eq_true rfl) ?_
    refine lv_goto (tgt := 18) hx hb dL_join_6 (by decide) ?_
    refine lv_iconst (v := 0) hx hb dL_join_18 (by decide) ?_
    exact W.iret (v := 0) hx hb hr (fun t ht hW => ⟨⟨0, u2, rfl, (by rw [hw]; exact ⟨rfl, rfl⟩), by rw [ht]; exact hP, hD⟩, hS.F ht⟩) hS.2.2 dL_join_19
set_option maxHeartbeats 4000000 in
set_option maxRecDepth 100000 in
theorem kL_unit (l : Launch) (hl9 : l.stackTraces = false) (dC : Nat → ClassId) (dI : Nat → Nat → Nat) (g : cG) (h : Nat → Nat) (o : Nat) (u : cS) (f : Nat → Int64) (sz : Nat) (x1 : Int32) (hI : cInv u) : Met l yL_unit wsL_unit ({ frames := 8, cells := 1, slots := 6, locals := 125 }) (va_Pc [.ref (h 0), .int x1, .ref o] (fun U => U.heap.size = sz ∧ va_P (dC, dI) vwCl (ow g h o u f) U.heap ∧ va_K (dC, dI) vwCl (cTys g) U ∧ va_D (fun _ => True) (ow g h o u f) ∧ zz (va_A (ow g h o u f) sz) U U.heap ∧ nn U)) (va_Qi (fun (r : Int32) (q : cS × (Nat → Int64)) => r = wk [1, 3, 4] (fX4_unit u x1).1 ∧ q = wq (fX4_unit u x1) f) (fun q t => va_P (dC, dI) vwCl (ow g h o q.1 q.2) t.heap ∧ va_D (va_A (ow g h o u f) sz) (ow g h o q.1 q.2)) (va_A (ow g h o u f) sz)) 1 6 (va_A (ow g h o u f) sz) := by
  refine va_MetW (cc := cL_unit) (maxL := 4) (ret := (some .int)) (hh := [(0, 9, 12, 33), (0, 9, 15, 35), (0, 9, 18, 15)]) (by decide) rfl ?_
  intro p e s m args below meth c s₁ B hml hv
  obtain ⟨rfl, hsz, hP, hK, hD0, hZ, hN⟩ := hv
  have hx := B.exec
  have hb := B.bytes
  have hr := B.returns
  have hts := atoms_spec (ws := wsL_unit) B.pre
  have hown : s.vm.findClass RL = some m.cls := findClass_of_methodNamed B.named
  have hlocks := B.notSynchronized
  have htab := vx_table (x := yL_unit) B (hts _ List.mem_cons_self)
  subst hsz
  have hD := hD0.self (sz := s.heap.size)
  generalize hAe : va_A (ow g h o u f) s.heap.size = A at hD hZ ⊢
  have hA : ∀ q : Nat, s.heap.size ≤ q → A q := fun q h => by rw [← hAe]; exact Or.inr h
  have hS : va_S A s.heap s.heap [] := va_S.rf
  have hl := lv_entry ([.ref (h 0), .int x1, .ref o]) (n := 4) (Nat.le_of_ble_eq_true rfl)
  rw [lg_entry_eq]
  generalize (lg_sl ([.ref (h 0), .int x1, .ref o]) ++ List.replicate (4 - (lg_sl ([.ref (h 0), .int x1, .ref o])).length) Slot.unset).toArray = ls at hl ⊢
  have hl : lv_has ls 4 [(0, .ref (h 0)), (1, .int x1), (2, .ref o)] := hl
  refine lv_aload_n hx hb dL_unit_0 rfl (lv_at hl 2 rfl) ?_
  refine lv_iconst (v := 0) hx hb dL_unit_1 (by decide) ?_
  refine lv_aload_n hx hb dL_unit_2 rfl (lv_at hl 0 rfl) ?_
  refine lv_iload_n hx hb dL_unit_3 rfl (lv_at hl 1 rfl) ?_
  have hPc := hP.sub (ws' := cw g h u) [0, 1, 2, 3, 4, 5, 6, 7, 8, 9, 10, 11, 12, 13, 14, 15, 16, 17, 18, 19, 20, 21, 22, 23] rfl
  have hDc := hD.sub (ws' := cw g h u) [0, 1, 2, 3, 4, 5, 6, 7, 8, 9, 10, 11, 12, 13, 14, 15, 16, 17, 18, 19, 20, 21, 22, 23] (by decide) rfl
  have hFc := va_free (wc := cw g h u) hD hS hA [0, 1, 2, 3, 4, 5, 6, 7, 8, 9, 10, 11, 12, 13, 14, 15, 16, 17, 18, 19, 20, 21, 22, 23] rfl
  refine vy_calli (vy_runV (As := [.int x1]) (rest := [.int 0, .ref o]) ⟨hx, hb, hml, hown, hts⟩ (kX4_unit l hl9 dC dI g h u _ x1 hI) (cwV 1 hts (gV wd_378 wd_379 wd_380 wd_92 wcX4_unit) rfl rfl rfl (by decide +kernel) ⟨(Nat.le_of_ble_eq_true rfl), (Nat.le_of_ble_eq_true rfl)⟩) ⟨fun a U g mk q => by obtain ⟨q0, q1, qP, qK, qD, qZ⟩ := q; exact ⟨q0, q1, qP, va_K.moved (u := U) (U := U.calling g mk a) (Vm.Alike.refl U.vm) qK, qD, zz_same (u := U) (H := U.heap) rfl rfl qZ⟩, va_recv hK hPc (ci := 3) (q0 := 0) rfl (cw_at0 _ _ _), fun U hU hW => ⟨rfl, by rw [hU], by rw [hU]; exact hPc, va_K.moved hW.alike hK, hDc.weaken (fun _ _ _ _ => trivial), by rw [hU]; exact zz_to hZ hS hFc hW⟩⟩ rfl rfl hl.1 rfl (lv_room (Nat.le_of_ble_eq_true rfl)) dL_unit_4 ⟨(Nat.le_of_ble_eq_true rfl), (Nat.le_of_ble_eq_true rfl)⟩) hS (fun q _ h => hFc q h) hFc (fun q _ h => hFc q h) (fun E ce q9 u2 t H1 locs1 ht hvm hw hB hz1 hk1 hS hce hcv hcl => ?_) (fun r u2 t H1 locs1 ht hvm hw hB hz1 hk1 hS => ?_)
  · skip
    obtain ⟨⟨kx, hk, hE⟩, hP1, hD1⟩ := hB
    rw [ht] at hP1
    obtain ⟨hP, hD⟩ := va_join (wr := [(o, .inl (g.2.2, 1, .inr (.inl f)))]) (w1 := cw g h u2) hP hD [0, 1, 2, 3, 4, 5, 6, 7, 8, 9, 10, 11, 12, 13, 14, 15, 16, 17, 18, 19, 20, 21, 22, 23] [24] rfl rfl (by decide) (by decide) hk1 hFc hP1 hD1
    have hP := hP.sub (ws' := ow g h o u2 f) [1, 2, 3, 4, 5, 6, 7, 8, 9, 10, 11, 12, 13, 14, 15, 16, 17, 18, 19, 20, 21, 22, 23, 24, 0] rfl
    have hD := hD.sub (ws' := ow g h o u2 f) [1, 2, 3, 4, 5, 6, 7, 8, 9, 10, 11, 12, 13, 14, 15, 16, 17, 18, 19, 20, 21, 22, 23, 24, 0] (by decide) rfl
    have hc := cdX4_unit u x1
    rw [hk] at hc
    rcases hc with hc | hc | hc | hc
    · skip
      have hc : kx = 0 := hc
      subst hc
      exact hE.elim
    · skip
      have hc : kx = 1 := hc
      subst hc
      have hE : E = "java/util/NoSuchElementException" := hE
      subst hE
      refine vx_catch (own := RL) (name := "java/util/NoSuchElementException") hown ([] : List ExceptionTableEntry) ⟨0, 9, 12, 33⟩ ([⟨0, 9, 15, 35⟩, ⟨0, 9, 18, 15⟩] : List ExceptionTableEntry) (htab.trans rfl) (fun z hz => nomatch hz) (by decide) (by decide) (hts _ (List.mem_cons_of_mem _ wd_352)) (zz_ws hZ (B := [.castable "java/util/NoSuchElementException" "java/util/NoSuchElementException"]) (by decide +kernel) _ List.mem_cons_self) hce hcv hcl ?_
      refine lv_astore_n (lv' := [(3, .ref q9), (0, .ref (h 0)), (1, .int x1), (2, .ref o)]) hx hb dL_unit_12 rfl hl (by decide) rfl (fun ls hl => ?_)
      refine lv_iconst (v := 1) hx hb dL_unit_13 (by decide) ?_
      exact W.iret (v := 1) hx hb hr (fun t ht hW => ⟨⟨1, (u2, f), rfl, (by rw [hk]; exact ⟨rfl, rfl⟩), by rw [ht]; exact hP, hD⟩, hS.F ht⟩) hS.2.2 dL_unit_14
    · skip
      have hc : kx = 3 := hc
      subst hc
      have hE : E = "java/lang/IllegalStateException" := hE
      subst hE
      refine vx_catch (own := RL) (name := "java/lang/IllegalStateException") hown ([⟨0, 9, 12, 33⟩] : List ExceptionTableEntry) ⟨0, 9, 15, 35⟩ ([⟨0, 9, 18, 15⟩] : List ExceptionTableEntry) (htab.trans rfl) (fun z hz => by
        simp only [List.mem_cons, List.not_mem_nil, or_false] at hz
        rcases hz with rfl
        · exact Or.inr ⟨by decide, "java/util/NoSuchElementException", (hts _ (List.mem_cons_of_mem _ wd_352)), hN ("java/lang/IllegalStateException", "java/util/NoSuchElementException") (by decide +kernel)⟩) (by decide) (by decide) (hts _ (List.mem_cons_of_mem _ wd_353)) (zz_ws hZ (B := [.castable "java/lang/IllegalStateException" "java/lang/IllegalStateException"]) (by decide +kernel) _ List.mem_cons_self) hce hcv hcl ?_
      refine lv_astore_n (lv' := [(3, .ref q9), (0, .ref (h 0)), (1, .int x1), (2, .ref o)]) hx hb dL_unit_15 rfl hl (by decide) rfl (fun ls hl => ?_)
      refine lv_iconst (v := 2) hx hb dL_unit_16 (by decide) ?_
      exact W.iret (v := 2) hx hb hr (fun t ht hW => ⟨⟨2, (u2, f), rfl, (by rw [hk]; exact ⟨rfl, rfl⟩), by rw [ht]; exact hP, hD⟩, hS.F ht⟩) hS.2.2 dL_unit_17
    · skip
      have hc : kx = 4 := hc
      subst hc
      have hE : E = "java/lang/UnsupportedOperationException" := hE
      subst hE
      refine vx_catch (own := RL) (name := "java/lang/UnsupportedOperationException") hown ([⟨0, 9, 12, 33⟩, ⟨0, 9, 15, 35⟩] : List ExceptionTableEntry) ⟨0, 9, 18, 15⟩ ([] : List ExceptionTableEntry) (htab.trans rfl) (fun z hz => by
        simp only [List.mem_cons, List.not_mem_nil, or_false] at hz
        rcases hz with rfl | rfl
        · exact Or.inr ⟨by decide, "java/util/NoSuchElementException", (hts _ (List.mem_cons_of_mem _ wd_352)), hN ("java/lang/UnsupportedOperationException", "java/util/NoSuchElementException") (by decide +kernel)⟩
        · exact Or.inr ⟨by decide, "java/lang/IllegalStateException", (hts _ (List.mem_cons_of_mem _ wd_353)), hN ("java/lang/UnsupportedOperationException", "java/lang/IllegalStateException") (by decide +kernel)⟩) (by decide) (by decide) (hts _ (List.mem_cons_of_mem _ wd_335)) (zz_ws hZ (B := [.castable "java/lang/UnsupportedOperationException" "java/lang/UnsupportedOperationException"]) (by decide +kernel) _ List.mem_cons_self) hce hcv hcl ?_
      refine lv_astore_n (lv' := [(3, .ref q9), (0, .ref (h 0)), (1, .int x1), (2, .ref o)]) hx hb dL_unit_18 rfl hl (by decide) rfl (fun ls hl => ?_)
      refine lv_iconst (v := 3) hx hb dL_unit_19 (by decide) ?_
      exact W.iret (v := 3) hx hb hr (fun t ht hW => ⟨⟨3, (u2, f), rfl, (by rw [hk]; exact ⟨rfl, rfl⟩), by rw [ht]; exact hP, hD⟩, hS.F ht⟩) hS.2.2 dL_unit_20
  · skip
    obtain ⟨hP1, hD1⟩ := hB
    rw [ht] at hP1
    obtain ⟨hP, hD⟩ := va_join (wr := [(o, .inl (g.2.2, 1, .inr (.inl f)))]) (w1 := cw g h u2) hP hD [0, 1, 2, 3, 4, 5, 6, 7, 8, 9, 10, 11, 12, 13, 14, 15, 16, 17, 18, 19, 20, 21, 22, 23] [24] rfl rfl (by decide) (by decide) hk1 hFc hP1 hD1
    have hP := hP.sub (ws' := ow g h o u2 f) [1, 2, 3, 4, 5, 6, 7, 8, 9, 10, 11, 12, 13, 14, 15, 16, 17, 18, 19, 20, 21, 22, 23, 24, 0] rfl
    have hD := hD.sub (ws' := ow g h o u2 f) [1, 2, 3, 4, 5, 6, 7, 8, 9, 10, 11, 12, 13, 14, 15, 16, 17, 18, 19, 20, 21, 22, 23, 24, 0] (by decide) rfl
    refine W.widen (k := 1) (n := 6) (Nat.le_of_ble_eq_true rfl) (Nat.le_of_ble_eq_true rfl) ?_
    refine lv_i2l (v := r.toInt64) hx hb dL_unit_7 rfl ?_
    refine va_last (f := f) hx hb hK hP hD hS 24 2 (ow_at24 _ _ _ _ _) rfl (vp_in_iff.mpr (by decide)) dL_unit_8 (fun H locs hP hD hS => ?_)
    have hP : va_P (dC, dI) vwCl (ow g h o u2 (vp_updL f (0 : Int32).toNatClampNeg r.toInt64)) H := hP
    have hD : va_D A (ow g h o u2 (vp_updL f (0 : Int32).toNatClampNeg r.toInt64)) := hD
    refine lv_goto (tgt := 21) hx hb dL_unit_9 (by decide) ?_
    refine lv_iconst (v := 0) hx hb dL_unit_21 (by decide) ?_
    exact W.iret (v := 0) hx hb hr (fun t ht hW => ⟨⟨0, (u2, (vp_updL f (0 : Int32).toNatClampNeg r.toInt64)), rfl, (by rw [hw]; exact ⟨rfl, rfl⟩), by rw [ht]; exact hP, hD⟩, hS.F ht⟩) hS.2.2 dL_unit_22
set_option maxHeartbeats 4000000 in
set_option maxRecDepth 100000 in
theorem kL_put (l : Launch) (hl9 : l.stackTraces = false) (dC : Nat → ClassId) (dI : Nat → Nat → Nat) (g : cG) (h : Nat → Nat) (u : cS) (sz : Nat) (x1 : Int32) (x2 : Int32) (hI : cInv u) : Met l yL_put wsL_put ({ frames := 8, cells := 1, slots := 6, locals := 127 }) (va_Pc [.ref (h 0), .int x1, .int x2] (fun U => U.heap.size = sz ∧ va_P (dC, dI) vwCl (cw g h u) U.heap ∧ va_K (dC, dI) vwCl (cTys g) U ∧ va_D (fun _ => True) (cw g h u) ∧ zz (va_A (cw g h u) sz) U U.heap ∧ nn U)) (va_Qi (fun (r : Int32) (q : cS) => r = wk [1, 2, 3] (fX4_put u x1 x2).1 ∧ q = (fX4_put u x1 x2).2.2) (fun q t => va_P (dC, dI) vwCl (cw g h q) t.heap ∧ va_D (va_A (cw g h u) sz) (cw g h q)) (va_A (cw g h u) sz)) 1 6 (va_A (cw g h u) sz) := by
  refine va_MetW (cc := cL_put) (maxL := 4) (ret := (some .int)) (hh := [(0, 6, 9, 33), (0, 6, 12, 13), (0, 6, 15, 35)]) (by decide) rfl ?_
  intro p e s m args below meth c s₁ B hml hv
  obtain ⟨rfl, hsz, hP, hK, hD0, hZ, hN⟩ := hv
  have hx := B.exec
  have hb := B.bytes
  have hr := B.returns
  have hts := atoms_spec (ws := wsL_put) B.pre
  have hown : s.vm.findClass RL = some m.cls := findClass_of_methodNamed B.named
  have hlocks := B.notSynchronized
  have htab := vx_table (x := yL_put) B (hts _ List.mem_cons_self)
  subst hsz
  have hD := hD0.self (sz := s.heap.size)
  generalize hAe : va_A (cw g h u) s.heap.size = A at hD hZ ⊢
  have hA : ∀ q : Nat, s.heap.size ≤ q → A q := fun q h => by rw [← hAe]; exact Or.inr h
  have hS : va_S A s.heap s.heap [] := va_S.rf
  have hl := lv_entry ([.ref (h 0), .int x1, .int x2]) (n := 4) (Nat.le_of_ble_eq_true rfl)
  rw [lg_entry_eq]
  generalize (lg_sl ([.ref (h 0), .int x1, .int x2]) ++ List.replicate (4 - (lg_sl ([.ref (h 0), .int x1, .int x2])).length) Slot.unset).toArray = ls at hl ⊢
  have hl : lv_has ls 4 [(0, .ref (h 0)), (1, .int x1), (2, .int x2)] := hl
  refine lv_aload_n hx hb dL_put_0 rfl (lv_at hl 0 rfl) ?_
  refine lv_iload_n hx hb dL_put_1 rfl (lv_at hl 1 rfl) ?_
  refine lv_iload_n hx hb dL_put_2 rfl (lv_at hl 2 rfl) ?_
  have hPc := hP.sub (ws' := cw g h u) [0, 1, 2, 3, 4, 5, 6, 7, 8, 9, 10, 11, 12, 13, 14, 15, 16, 17, 18, 19, 20, 21, 22, 23] rfl
  have hDc := hD.sub (ws' := cw g h u) [0, 1, 2, 3, 4, 5, 6, 7, 8, 9, 10, 11, 12, 13, 14, 15, 16, 17, 18, 19, 20, 21, 22, 23] (by decide) rfl
  have hFc := va_free (wc := cw g h u) hD hS hA [0, 1, 2, 3, 4, 5, 6, 7, 8, 9, 10, 11, 12, 13, 14, 15, 16, 17, 18, 19, 20, 21, 22, 23] rfl
  refine vy_callv (vy_runV (As := [.int x1, .int x2]) (rest := []) ⟨hx, hb, hml, hown, hts⟩ (kX4_put l hl9 dC dI g h u _ x1 x2 hI) (cwV 2 hts (gV wd_382 wd_383 wd_384 wd_92 wcX4_put) rfl rfl rfl (by decide +kernel) ⟨(Nat.le_of_ble_eq_true rfl), (Nat.le_of_ble_eq_true rfl)⟩) ⟨fun a U g mk q => by obtain ⟨q0, q1, qP, qK, qD, qZ⟩ := q; exact ⟨q0, q1, qP, va_K.moved (u := U) (U := U.calling g mk a) (Vm.Alike.refl U.vm) qK, qD, zz_same (u := U) (H := U.heap) rfl rfl qZ⟩, va_recv hK hPc (ci := 3) (q0 := 0) rfl (cw_at0 _ _ _), fun U hU hW => ⟨rfl, by rw [hU], by rw [hU]; exact hPc, va_K.moved hW.alike hK, hDc.weaken (fun _ _ _ _ => trivial), by rw [hU]; exact zz_to hZ hS hFc hW⟩⟩ rfl rfl hl.1 rfl (lv_room (Nat.le_of_ble_eq_true rfl)) dL_put_3 ⟨(Nat.le_of_ble_eq_true rfl), (Nat.le_of_ble_eq_true rfl)⟩) hS (fun q _ h => hFc q h) hFc (fun q _ h => hFc q h) (fun E ce q9 u2 t H1 locs1 ht hvm hw hB hz1 hk1 hS hce hcv hcl => ?_) (fun u2 t H1 locs1 ht hvm hw hB hz1 hk1 hS => ?_)
  · skip
    obtain ⟨⟨kx, hk, hE⟩, hP1, hD1⟩ := hB
    rw [ht] at hP1
    have hP := hP1
    have hD := hD1.weaken (fun _ _ _ h => hFc _ h)
    have hc := cdX4_put u x1 x2
    rw [hk] at hc
    rcases hc with hc | hc | hc | hc
    · skip
      have hc : kx = 0 := hc
      subst hc
      exact hE.elim
    · skip
      have hc : kx = 1 := hc
      subst hc
      have hE : E = "java/util/NoSuchElementException" := hE
      subst hE
      refine vx_catch (own := RL) (name := "java/util/NoSuchElementException") hown ([] : List ExceptionTableEntry) ⟨0, 6, 9, 33⟩ ([⟨0, 6, 12, 13⟩, ⟨0, 6, 15, 35⟩] : List ExceptionTableEntry) (htab.trans rfl) (fun z hz => nomatch hz) (by decide) (by decide) (hts _ (List.mem_cons_of_mem _ wd_352)) (zz_ws hZ (B := [.castable "java/util/NoSuchElementException" "java/util/NoSuchElementException"]) (by decide +kernel) _ List.mem_cons_self) hce hcv hcl ?_
      refine lv_astore_n (lv' := [(3, .ref q9), (0, .ref (h 0)), (1, .int x1), (2, .int x2)]) hx hb dL_put_9 rfl hl (by decide) rfl (fun ls hl => ?_)
      refine lv_iconst (v := 1) hx hb dL_put_10 (by decide) ?_
      exact W.iret (v := 1) hx hb hr (fun t ht hW => ⟨⟨1, u2, rfl, (by rw [hk]; exact ⟨rfl, rfl⟩), by rw [ht]; exact hP, hD⟩, hS.F ht⟩) hS.2.2 dL_put_11
    · skip
      have hc : kx = 2 := hc
      subst hc
      have hE : E = "java/lang/IllegalArgumentException" := hE
      subst hE
      refine vx_catch (own := RL) (name := "java/lang/IllegalArgumentException") hown ([⟨0, 6, 9, 33⟩] : List ExceptionTableEntry) ⟨0, 6, 12, 13⟩ ([⟨0, 6, 15, 35⟩] : List ExceptionTableEntry) (htab.trans rfl) (fun z hz => by
        simp only [List.mem_cons, List.not_mem_nil, or_false] at hz
        rcases hz with rfl
        · exact Or.inr ⟨by decide, "java/util/NoSuchElementException", (hts _ (List.mem_cons_of_mem _ wd_352)), hN ("java/lang/IllegalArgumentException", "java/util/NoSuchElementException") (by decide +kernel)⟩) (by decide) (by decide) (hts _ (List.mem_cons_of_mem _ wd_334)) (zz_ws hZ (B := [.castable "java/lang/IllegalArgumentException" "java/lang/IllegalArgumentException"]) (by decide +kernel) _ List.mem_cons_self) hce hcv hcl ?_
      refine lv_astore_n (lv' := [(3, .ref q9), (0, .ref (h 0)), (1, .int x1), (2, .int x2)]) hx hb dL_put_12 rfl hl (by decide) rfl (fun ls hl => ?_)
      refine lv_iconst (v := 2) hx hb dL_put_13 (by decide) ?_
      exact W.iret (v := 2) hx hb hr (fun t ht hW => ⟨⟨2, u2, rfl, (by rw [hk]; exact ⟨rfl, rfl⟩), by rw [ht]; exact hP, hD⟩, hS.F ht⟩) hS.2.2 dL_put_14
    · skip
      have hc : kx = 3 := hc
      subst hc
      have hE : E = "java/lang/IllegalStateException" := hE
      subst hE
      refine vx_catch (own := RL) (name := "java/lang/IllegalStateException") hown ([⟨0, 6, 9, 33⟩, ⟨0, 6, 12, 13⟩] : List ExceptionTableEntry) ⟨0, 6, 15, 35⟩ ([] : List ExceptionTableEntry) (htab.trans rfl) (fun z hz => by
        simp only [List.mem_cons, List.not_mem_nil, or_false] at hz
        rcases hz with rfl | rfl
        · exact Or.inr ⟨by decide, "java/util/NoSuchElementException", (hts _ (List.mem_cons_of_mem _ wd_352)), hN ("java/lang/IllegalStateException", "java/util/NoSuchElementException") (by decide +kernel)⟩
        · exact Or.inr ⟨by decide, "java/lang/IllegalArgumentException", (hts _ (List.mem_cons_of_mem _ wd_334)), hN ("java/lang/IllegalStateException", "java/lang/IllegalArgumentException") (by decide +kernel)⟩) (by decide) (by decide) (hts _ (List.mem_cons_of_mem _ wd_353)) (zz_ws hZ (B := [.castable "java/lang/IllegalStateException" "java/lang/IllegalStateException"]) (by decide +kernel) _ List.mem_cons_self) hce hcv hcl ?_
      refine lv_astore_n (lv' := [(3, .ref q9), (0, .ref (h 0)), (1, .int x1), (2, .int x2)]) hx hb dL_put_15 rfl hl (by decide) rfl (fun ls hl => ?_)
      refine lv_iconst (v := 3) hx hb dL_put_16 (by decide) ?_
      exact W.iret (v := 3) hx hb hr (fun t ht hW => ⟨⟨3, u2, rfl, (by rw [hk]; exact ⟨rfl, rfl⟩), by rw [ht]; exact hP, hD⟩, hS.F ht⟩) hS.2.2 dL_put_17
  · skip
    obtain ⟨hP1, hD1⟩ := hB
    rw [ht] at hP1
    have hP := hP1
    have hD := hD1.weaken (fun _ _ _ h => hFc _ h)
    refine W.widen (k := 1) (n := 6) (Nat.le_of_ble_eq_true rfl) (Nat.le_of_ble_eq_true rfl) ?_
    refine lv_goto (tgt := 18) hx hb dL_put_6 (by decide) ?_
    refine lv_iconst (v := 0) hx hb dL_put_18 (by decide) ?_
    exact W.iret (v := 0) hx hb hr (fun t ht hW => ⟨⟨0, u2, rfl, (by rw [hw]; exact ⟨rfl, rfl⟩), by rw [ht]; exact hP, hD⟩, hS.F ht⟩) hS.2.2 dL_put_19
set_option maxHeartbeats 4000000 in
set_option maxRecDepth 100000 in
theorem kL_mixed (l : Launch) (hl9 : l.stackTraces = false) (dC : Nat → ClassId) (dI : Nat → Nat → Nat) (g : cG) (h : Nat → Nat) (o : Nat) (u : cS) (f : Nat → Int64) (sz : Nat) (x1 : Int32) (hI : cInv u) : Met l yL_mixed wsL_mixed ({ frames := 8, cells := 1, slots := 6, locals := 125 }) (va_Pc [.ref (h 0), .int x1, .ref o] (fun U => U.heap.size = sz ∧ va_P (dC, dI) vwCl (ow g h o u f) U.heap ∧ va_K (dC, dI) vwCl (cTys g) U ∧ va_D (fun _ => True) (ow g h o u f) ∧ zz (va_A (ow g h o u f) sz) U U.heap ∧ nn U)) (va_Qi (fun (r : Int32) (q : cS × (Nat → Int64)) => r = wk [2] (fX4_mixed u x1).1 ∧ q = wq (fX4_mixed u x1) f) (fun q t => va_P (dC, dI) vwCl (ow g h o q.1 q.2) t.heap ∧ va_D (va_A (ow g h o u f) sz) (ow g h o q.1 q.2)) (va_A (ow g h o u f) sz)) 1 6 (va_A (ow g h o u f) sz) := by
  refine va_MetW (cc := cL_mixed) (maxL := 4) (ret := (some .int)) (hh := [(0, 9, 12, 13)]) (by decide) rfl ?_
  intro p e s m args below meth c s₁ B hml hv
  obtain ⟨rfl, hsz, hP, hK, hD0, hZ, hN⟩ := hv
  have hx := B.exec
  have hb := B.bytes
  have hr := B.returns
  have hts := atoms_spec (ws := wsL_mixed) B.pre
  have hown : s.vm.findClass RL = some m.cls := findClass_of_methodNamed B.named
  have hlocks := B.notSynchronized
  have htab := vx_table (x := yL_mixed) B (hts _ List.mem_cons_self)
  subst hsz
  have hD := hD0.self (sz := s.heap.size)
  generalize hAe : va_A (ow g h o u f) s.heap.size = A at hD hZ ⊢
  have hA : ∀ q : Nat, s.heap.size ≤ q → A q := fun q h => by rw [← hAe]; exact Or.inr h
  have hS : va_S A s.heap s.heap [] := va_S.rf
  have hl := lv_entry ([.ref (h 0), .int x1, .ref o]) (n := 4) (Nat.le_of_ble_eq_true rfl)
  rw [lg_entry_eq]
  generalize (lg_sl ([.ref (h 0), .int x1, .ref o]) ++ List.replicate (4 - (lg_sl ([.ref (h 0), .int x1, .ref o])).length) Slot.unset).toArray = ls at hl ⊢
  have hl : lv_has ls 4 [(0, .ref (h 0)), (1, .int x1), (2, .ref o)] := hl
  refine lv_aload_n hx hb dL_mixed_0 rfl (lv_at hl 2 rfl) ?_
  refine lv_iconst (v := 0) hx hb dL_mixed_1 (by decide) ?_
  refine lv_aload_n hx hb dL_mixed_2 rfl (lv_at hl 0 rfl) ?_
  refine lv_iload_n hx hb dL_mixed_3 rfl (lv_at hl 1 rfl) ?_
  have hPc := hP.sub (ws' := cw g h u) [0, 1, 2, 3, 4, 5, 6, 7, 8, 9, 10, 11, 12, 13, 14, 15, 16, 17, 18, 19, 20, 21, 22, 23] rfl
  have hDc := hD.sub (ws' := cw g h u) [0, 1, 2, 3, 4, 5, 6, 7, 8, 9, 10, 11, 12, 13, 14, 15, 16, 17, 18, 19, 20, 21, 22, 23] (by decide) rfl
  have hFc := va_free (wc := cw g h u) hD hS hA [0, 1, 2, 3, 4, 5, 6, 7, 8, 9, 10, 11, 12, 13, 14, 15, 16, 17, 18, 19, 20, 21, 22, 23] rfl
  refine vy_calli (vy_runV (As := [.int x1]) (rest := [.int 0, .ref o]) ⟨hx, hb, hml, hown, hts⟩ (kX4_mixed l hl9 dC dI g h u _ x1 hI) (cwV 1 hts (gV wd_386 wd_387 wd_388 wd_92 wcX4_mixed) rfl rfl rfl (by decide +kernel) ⟨(Nat.le_of_ble_eq_true rfl), (Nat.le_of_ble_eq_true rfl)⟩) ⟨fun a U g mk q => by obtain ⟨q0, q1, qP, qK, qD, qZ⟩ := q; exact ⟨q0, q1, qP, va_K.moved (u := U) (U := U.calling g mk a) (Vm.Alike.refl U.vm) qK, qD, zz_same (u := U) (H := U.heap) rfl rfl qZ⟩, va_recv hK hPc (ci := 3) (q0 := 0) rfl (cw_at0 _ _ _), fun U hU hW => ⟨rfl, by rw [hU], by rw [hU]; exact hPc, va_K.moved hW.alike hK, hDc.weaken (fun _ _ _ _ => trivial), by rw [hU]; exact zz_to hZ hS hFc hW⟩⟩ rfl rfl hl.1 rfl (lv_room (Nat.le_of_ble_eq_true rfl)) dL_mixed_4 ⟨(Nat.le_of_ble_eq_true rfl), (Nat.le_of_ble_eq_true rfl)⟩) hS (fun q _ h => hFc q h) hFc (fun q _ h => hFc q h) (fun E ce q9 u2 t H1 locs1 ht hvm hw hB hz1 hk1 hS hce hcv hcl => ?_) (fun r u2 t H1 locs1 ht hvm hw hB hz1 hk1 hS => ?_)
  · skip
    obtain ⟨⟨kx, hk, hE⟩, hP1, hD1⟩ := hB
    rw [ht] at hP1
    obtain ⟨hP, hD⟩ := va_join (wr := [(o, .inl (g.2.2, 1, .inr (.inl f)))]) (w1 := cw g h u2) hP hD [0, 1, 2, 3, 4, 5, 6, 7, 8, 9, 10, 11, 12, 13, 14, 15, 16, 17, 18, 19, 20, 21, 22, 23] [24] rfl rfl (by decide) (by decide) hk1 hFc hP1 hD1
    have hP := hP.sub (ws' := ow g h o u2 f) [1, 2, 3, 4, 5, 6, 7, 8, 9, 10, 11, 12, 13, 14, 15, 16, 17, 18, 19, 20, 21, 22, 23, 24, 0] rfl
    have hD := hD.sub (ws' := ow g h o u2 f) [1, 2, 3, 4, 5, 6, 7, 8, 9, 10, 11, 12, 13, 14, 15, 16, 17, 18, 19, 20, 21, 22, 23, 24, 0] (by decide) rfl
    have hc := cdX4_mixed u x1
    rw [hk] at hc
    rcases hc with hc | hc
    · skip
      have hc : kx = 0 := hc
      subst hc
      exact hE.elim
    · skip
      have hc : kx = 2 := hc
      subst hc
      have hE : E = "java/lang/IllegalArgumentException" := hE
      subst hE
      refine vx_catch (own := RL) (name := "java/lang/IllegalArgumentException") hown ([] : List ExceptionTableEntry) ⟨0, 9, 12, 13⟩ ([] : List ExceptionTableEntry) (htab.trans rfl) (fun z hz => nomatch hz) (by decide) (by decide) (hts _ (List.mem_cons_of_mem _ wd_334)) (zz_ws hZ (B := [.castable "java/lang/IllegalArgumentException" "java/lang/IllegalArgumentException"]) (by decide +kernel) _ List.mem_cons_self) hce hcv hcl ?_
      refine lv_astore_n (lv' := [(3, .ref q9), (0, .ref (h 0)), (1, .int x1), (2, .ref o)]) hx hb dL_mixed_12 rfl hl (by decide) rfl (fun ls hl => ?_)
      refine lv_iconst (v := 1) hx hb dL_mixed_13 (by decide) ?_
      exact W.iret (v := 1) hx hb hr (fun t ht hW => ⟨⟨1, (u2, f), rfl, (by rw [hk]; exact ⟨rfl, rfl⟩), by rw [ht]; exact hP, hD⟩, hS.F ht⟩) hS.2.2 dL_mixed_14
  · skip
    obtain ⟨hP1, hD1⟩ := hB
    rw [ht] at hP1
    obtain ⟨hP, hD⟩ := va_join (wr := [(o, .inl (g.2.2, 1, .inr (.inl f)))]) (w1 := cw g h u2) hP hD [0, 1, 2, 3, 4, 5, 6, 7, 8, 9, 10, 11, 12, 13, 14, 15, 16, 17, 18, 19, 20, 21, 22, 23] [24] rfl rfl (by decide) (by decide) hk1 hFc hP1 hD1
    have hP := hP.sub (ws' := ow g h o u2 f) [1, 2, 3, 4, 5, 6, 7, 8, 9, 10, 11, 12, 13, 14, 15, 16, 17, 18, 19, 20, 21, 22, 23, 24, 0] rfl
    have hD := hD.sub (ws' := ow g h o u2 f) [1, 2, 3, 4, 5, 6, 7, 8, 9, 10, 11, 12, 13, 14, 15, 16, 17, 18, 19, 20, 21, 22, 23, 24, 0] (by decide) rfl
    refine W.widen (k := 1) (n := 6) (Nat.le_of_ble_eq_true rfl) (Nat.le_of_ble_eq_true rfl) ?_
    refine lv_i2l (v := r.toInt64) hx hb dL_mixed_7 rfl ?_
    refine va_last (f := f) hx hb hK hP hD hS 24 2 (ow_at24 _ _ _ _ _) rfl (vp_in_iff.mpr (by decide)) dL_mixed_8 (fun H locs hP hD hS => ?_)
    have hP : va_P (dC, dI) vwCl (ow g h o u2 (vp_updL f (0 : Int32).toNatClampNeg r.toInt64)) H := hP
    have hD : va_D A (ow g h o u2 (vp_updL f (0 : Int32).toNatClampNeg r.toInt64)) := hD
    refine lv_goto (tgt := 15) hx hb dL_mixed_9 (by decide) ?_
    refine lv_iconst (v := 0) hx hb dL_mixed_15 (by decide) ?_
    exact W.iret (v := 0) hx hb hr (fun t ht hW => ⟨⟨0, (u2, (vp_updL f (0 : Int32).toNatClampNeg r.toInt64)), rfl, (by rw [hw]; exact ⟨rfl, rfl⟩), by rw [ht]; exact hP, hD⟩, hS.F ht⟩) hS.2.2 dL_mixed_16
set_option maxHeartbeats 4000000 in
set_option maxRecDepth 100000 in
theorem kL_ship (l : Launch) (hl9 : l.stackTraces = false) (dC : Nat → ClassId) (dI : Nat → Nat → Nat) (g : cG) (h : Nat → Nat) (u : cS) (sz : Nat) (x1 : Int32) (x2 : Int32) (x3 : Int32) (hI : cInv u) : Met l yL_ship wsL_ship ({ frames := 8, cells := 1, slots := 6, locals := 128 }) (va_Pc [.ref (h 0), .int x1, .int x2, .int x3] (fun U => U.heap.size = sz ∧ va_P (dC, dI) vwCl (cw g h u) U.heap ∧ va_K (dC, dI) vwCl (cTys g) U ∧ va_D (fun _ => True) (cw g h u) ∧ zz (va_A (cw g h u) sz) U U.heap ∧ nn U)) (va_Qi (fun (r : Int32) (q : cS) => r = wk [1, 2, 3, 4] (fX4_ship u x1 x2 x3).1 ∧ q = (fX4_ship u x1 x2 x3).2.2) (fun q t => va_P (dC, dI) vwCl (cw g h q) t.heap ∧ va_D (va_A (cw g h u) sz) (cw g h q)) (va_A (cw g h u) sz)) 1 6 (va_A (cw g h u) sz) := by
  refine va_MetW (cc := cL_ship) (maxL := 5) (ret := (some .int)) (hh := [(0, 7, 10, 33), (0, 7, 14, 13), (0, 7, 18, 35), (0, 7, 22, 15)]) (by decide) rfl ?_
  intro p e s m args below meth c s₁ B hml hv
  obtain ⟨rfl, hsz, hP, hK, hD0, hZ, hN⟩ := hv
  have hx := B.exec
  have hb := B.bytes
  have hr := B.returns
  have hts := atoms_spec (ws := wsL_ship) B.pre
  have hown : s.vm.findClass RL = some m.cls := findClass_of_methodNamed B.named
  have hlocks := B.notSynchronized
  have htab := vx_table (x := yL_ship) B (hts _ List.mem_cons_self)
  subst hsz
  have hD := hD0.self (sz := s.heap.size)
  generalize hAe : va_A (cw g h u) s.heap.size = A at hD hZ ⊢
  have hA : ∀ q : Nat, s.heap.size ≤ q → A q := fun q h => by rw [← hAe]; exact Or.inr h
  have hS : va_S A s.heap s.heap [] := va_S.rf
  have hl := lv_entry ([.ref (h 0), .int x1, .int x2, .int x3]) (n := 5) (Nat.le_of_ble_eq_true rfl)
  rw [lg_entry_eq]
  generalize (lg_sl ([.ref (h 0), .int x1, .int x2, .int x3]) ++ List.replicate (5 - (lg_sl ([.ref (h 0), .int x1, .int x2, .int x3])).length) Slot.unset).toArray = ls at hl ⊢
  have hl : lv_has ls 5 [(0, .ref (h 0)), (1, .int x1), (2, .int x2), (3, .int x3)] := hl
  refine lv_aload_n hx hb dL_ship_0 rfl (lv_at hl 0 rfl) ?_
  refine lv_iload_n hx hb dL_ship_1 rfl (lv_at hl 1 rfl) ?_
  refine lv_iload_n hx hb dL_ship_2 rfl (lv_at hl 2 rfl) ?_
  refine lv_iload_n hx hb dL_ship_3 rfl (lv_at hl 3 rfl) ?_
  have hPc := hP.sub (ws' := cw g h u) [0, 1, 2, 3, 4, 5, 6, 7, 8, 9, 10, 11, 12, 13, 14, 15, 16, 17, 18, 19, 20, 21, 22, 23] rfl
  have hDc := hD.sub (ws' := cw g h u) [0, 1, 2, 3, 4, 5, 6, 7, 8, 9, 10, 11, 12, 13, 14, 15, 16, 17, 18, 19, 20, 21, 22, 23] (by decide) rfl
  have hFc := va_free (wc := cw g h u) hD hS hA [0, 1, 2, 3, 4, 5, 6, 7, 8, 9, 10, 11, 12, 13, 14, 15, 16, 17, 18, 19, 20, 21, 22, 23] rfl
  refine vy_callv (vy_runV (As := [.int x1, .int x2, .int x3]) (rest := []) ⟨hx, hb, hml, hown, hts⟩ (kX4_ship l hl9 dC dI g h u _ x1 x2 x3 hI) (cwV 3 hts (gV wd_390 wd_391 wd_392 wd_92 wcX4_ship) rfl rfl rfl (by decide +kernel) ⟨(Nat.le_of_ble_eq_true rfl), (Nat.le_of_ble_eq_true rfl)⟩) ⟨fun a U g mk q => by obtain ⟨q0, q1, qP, qK, qD, qZ⟩ := q; exact ⟨q0, q1, qP, va_K.moved (u := U) (U := U.calling g mk a) (Vm.Alike.refl U.vm) qK, qD, zz_same (u := U) (H := U.heap) rfl rfl qZ⟩, va_recv hK hPc (ci := 3) (q0 := 0) rfl (cw_at0 _ _ _), fun U hU hW => ⟨rfl, by rw [hU], by rw [hU]; exact hPc, va_K.moved hW.alike hK, hDc.weaken (fun _ _ _ _ => trivial), by rw [hU]; exact zz_to hZ hS hFc hW⟩⟩ rfl rfl hl.1 rfl (lv_room (Nat.le_of_ble_eq_true rfl)) dL_ship_4 ⟨(Nat.le_of_ble_eq_true rfl), (Nat.le_of_ble_eq_true rfl)⟩) hS (fun q _ h => hFc q h) hFc (fun q _ h => hFc q h) (fun E ce q9 u2 t H1 locs1 ht hvm hw hB hz1 hk1 hS hce hcv hcl => ?_) (fun u2 t H1 locs1 ht hvm hw hB hz1 hk1 hS => ?_)
  · skip
    obtain ⟨⟨kx, hk, hE⟩, hP1, hD1⟩ := hB
    rw [ht] at hP1
    have hP := hP1
    have hD := hD1.weaken (fun _ _ _ h => hFc _ h)
    have hc := cdX4_ship u x1 x2 x3
    rw [hk] at hc
    rcases hc with hc | hc | hc | hc | hc
    · skip
      have hc : kx = 0 := hc
      subst hc
      exact hE.elim
    · skip
      have hc : kx = 1 := hc
      subst hc
      have hE : E = "java/util/NoSuchElementException" := hE
      subst hE
      refine vx_catch (own := RL) (name := "java/util/NoSuchElementException") hown ([] : List ExceptionTableEntry) ⟨0, 7, 10, 33⟩ ([⟨0, 7, 14, 13⟩, ⟨0, 7, 18, 35⟩, ⟨0, 7, 22, 15⟩] : List ExceptionTableEntry) (htab.trans rfl) (fun z hz => nomatch hz) (by decide) (by decide) (hts _ (List.mem_cons_of_mem _ wd_352)) (zz_ws hZ (B := [.castable "java/util/NoSuchElementException" "java/util/NoSuchElementException"]) (by decide +kernel) _ List.mem_cons_self) hce hcv hcl ?_
      refine lv_astore (lv' := [(4, .ref q9), (0, .ref (h 0)), (1, .int x1), (2, .int x2), (3, .int x3)]) hx hb dL_ship_10 hl (by decide) rfl (fun ls hl => ?_)
      refine lv_iconst (v := 1) hx hb dL_ship_12 (by decide) ?_
      exact W.iret (v := 1) hx hb hr (fun t ht hW => ⟨⟨1, u2, rfl, (by rw [hk]; exact ⟨rfl, rfl⟩), by rw [ht]; exact hP, hD⟩, hS.F ht⟩) hS.2.2 dL_ship_13
    · skip
      have hc : kx = 2 := hc
      subst hc
      have hE : E = "java/lang/IllegalArgumentException" := hE
      subst hE
      refine vx_catch (own := RL) (name := "java/lang/IllegalArgumentException") hown ([⟨0, 7, 10, 33⟩] : List ExceptionTableEntry) ⟨0, 7, 14, 13⟩ ([⟨0, 7, 18, 35⟩, ⟨0, 7, 22, 15⟩] : List ExceptionTableEntry) (htab.trans rfl) (fun z hz => by
        simp only [List.mem_cons, List.not_mem_nil, or_false] at hz
        rcases hz with rfl
        · exact Or.inr ⟨by decide, "java/util/NoSuchElementException", (hts _ (List.mem_cons_of_mem _ wd_352)), hN ("java/lang/IllegalArgumentException", "java/util/NoSuchElementException") (by decide +kernel)⟩) (by decide) (by decide) (hts _ (List.mem_cons_of_mem _ wd_334)) (zz_ws hZ (B := [.castable "java/lang/IllegalArgumentException" "java/lang/IllegalArgumentException"]) (by decide +kernel) _ List.mem_cons_self) hce hcv hcl ?_
      refine lv_astore (lv' := [(4, .ref q9), (0, .ref (h 0)), (1, .int x1), (2, .int x2), (3, .int x3)]) hx hb dL_ship_14 hl (by decide) rfl (fun ls hl => ?_)
      refine lv_iconst (v := 2) hx hb dL_ship_16 (by decide) ?_
      exact W.iret (v := 2) hx hb hr (fun t ht hW => ⟨⟨2, u2, rfl, (by rw [hk]; exact ⟨rfl, rfl⟩), by rw [ht]; exact hP, hD⟩, hS.F ht⟩) hS.2.2 dL_ship_17
    · skip
      have hc : kx = 3 := hc
      subst hc
      have hE : E = "java/lang/IllegalStateException" := hE
      subst hE
      refine vx_catch (own := RL) (name := "java/lang/IllegalStateException") hown ([⟨0, 7, 10, 33⟩, ⟨0, 7, 14, 13⟩] : List ExceptionTableEntry) ⟨0, 7, 18, 35⟩ ([⟨0, 7, 22, 15⟩] : List ExceptionTableEntry) (htab.trans rfl) (fun z hz => by
        simp only [List.mem_cons, List.not_mem_nil, or_false] at hz
        rcases hz with rfl | rfl
        · exact Or.inr ⟨by decide, "java/util/NoSuchElementException", (hts _ (List.mem_cons_of_mem _ wd_352)), hN ("java/lang/IllegalStateException", "java/util/NoSuchElementException") (by decide +kernel)⟩
        · exact Or.inr ⟨by decide, "java/lang/IllegalArgumentException", (hts _ (List.mem_cons_of_mem _ wd_334)), hN ("java/lang/IllegalStateException", "java/lang/IllegalArgumentException") (by decide +kernel)⟩) (by decide) (by decide) (hts _ (List.mem_cons_of_mem _ wd_353)) (zz_ws hZ (B := [.castable "java/lang/IllegalStateException" "java/lang/IllegalStateException"]) (by decide +kernel) _ List.mem_cons_self) hce hcv hcl ?_
      refine lv_astore (lv' := [(4, .ref q9), (0, .ref (h 0)), (1, .int x1), (2, .int x2), (3, .int x3)]) hx hb dL_ship_18 hl (by decide) rfl (fun ls hl => ?_)
      refine lv_iconst (v := 3) hx hb dL_ship_20 (by decide) ?_
      exact W.iret (v := 3) hx hb hr (fun t ht hW => ⟨⟨3, u2, rfl, (by rw [hk]; exact ⟨rfl, rfl⟩), by rw [ht]; exact hP, hD⟩, hS.F ht⟩) hS.2.2 dL_ship_21
    · skip
      have hc : kx = 4 := hc
      subst hc
      have hE : E = "java/lang/UnsupportedOperationException" := hE
      subst hE
      refine vx_catch (own := RL) (name := "java/lang/UnsupportedOperationException") hown ([⟨0, 7, 10, 33⟩, ⟨0, 7, 14, 13⟩, ⟨0, 7, 18, 35⟩] : List ExceptionTableEntry) ⟨0, 7, 22, 15⟩ ([] : List ExceptionTableEntry) (htab.trans rfl) (fun z hz => by
        simp only [List.mem_cons, List.not_mem_nil, or_false] at hz
        rcases hz with rfl | rfl | rfl
        · exact Or.inr ⟨by decide, "java/util/NoSuchElementException", (hts _ (List.mem_cons_of_mem _ wd_352)), hN ("java/lang/UnsupportedOperationException", "java/util/NoSuchElementException") (by decide +kernel)⟩
        · exact Or.inr ⟨by decide, "java/lang/IllegalArgumentException", (hts _ (List.mem_cons_of_mem _ wd_334)), hN ("java/lang/UnsupportedOperationException", "java/lang/IllegalArgumentException") (by decide +kernel)⟩
        · exact Or.inr ⟨by decide, "java/lang/IllegalStateException", (hts _ (List.mem_cons_of_mem _ wd_353)), hN ("java/lang/UnsupportedOperationException", "java/lang/IllegalStateException") (by decide +kernel)⟩) (by decide) (by decide) (hts _ (List.mem_cons_of_mem _ wd_335)) (zz_ws hZ (B := [.castable "java/lang/UnsupportedOperationException" "java/lang/UnsupportedOperationException"]) (by decide +kernel) _ List.mem_cons_self) hce hcv hcl ?_
      refine lv_astore (lv' := [(4, .ref q9), (0, .ref (h 0)), (1, .int x1), (2, .int x2), (3, .int x3)]) hx hb dL_ship_22 hl (by decide) rfl (fun ls hl => ?_)
      refine lv_iconst (v := 4) hx hb dL_ship_24 (by decide) ?_
      exact W.iret (v := 4) hx hb hr (fun t ht hW => ⟨⟨4, u2, rfl, (by rw [hk]; exact ⟨rfl, rfl⟩), by rw [ht]; exact hP, hD⟩, hS.F ht⟩) hS.2.2 dL_ship_25
  · skip
    obtain ⟨hP1, hD1⟩ := hB
    rw [ht] at hP1
    have hP := hP1
    have hD := hD1.weaken (fun _ _ _ h => hFc _ h)
    refine W.widen (k := 1) (n := 6) (Nat.le_of_ble_eq_true rfl) (Nat.le_of_ble_eq_true rfl) ?_
    refine lv_goto (tgt := 26) hx hb dL_ship_7 (by decide) ?_
    refine lv_iconst (v := 0) hx hb dL_ship_26 (by decide) ?_
    exact W.iret (v := 0) hx hb hr (fun t ht hW => ⟨⟨0, u2, rfl, (by rw [hw]; exact ⟨rfl, rfl⟩), by rw [ht]; exact hP, hD⟩, hS.F ht⟩) hS.2.2 dL_ship_27
set_option maxHeartbeats 4000000 in
set_option maxRecDepth 100000 in
theorem kL_recall (l : Launch) (hl9 : l.stackTraces = false) (dC : Nat → ClassId) (dI : Nat → Nat → Nat) (g : cG) (h : Nat → Nat) (o : Nat) (u : cS) (f : Nat → Int64) (sz : Nat) (x1 : Int32) (x2 : Int32) (hI : cInv u) : Met l yL_recall wsL_recall ({ frames := 8, cells := 1, slots := 6, locals := 125 }) (va_Pc [.ref (h 0), .int x1, .int x2, .ref o] (fun U => U.heap.size = sz ∧ va_P (dC, dI) vwCl (ow g h o u f) U.heap ∧ va_K (dC, dI) vwCl (cTys g) U ∧ va_D (fun _ => True) (ow g h o u f) ∧ zz (va_A (ow g h o u f) sz) U U.heap ∧ nn U)) (va_Qi (fun (r : Int32) (q : cS × (Nat → Int64)) => r = wk [1, 2] (fX4_recall u x1 x2).1 ∧ q = wq (fX4_recall u x1 x2) f) (fun q t => va_P (dC, dI) vwCl (ow g h o q.1 q.2) t.heap ∧ va_D (va_A (ow g h o u f) sz) (ow g h o q.1 q.2)) (va_A (ow g h o u f) sz)) 1 6 (va_A (ow g h o u f) sz) := by
  refine va_MetW (cc := cL_recall) (maxL := 5) (ret := (some .int)) (hh := [(0, 10, 13, 33), (0, 10, 17, 13)]) (by decide) rfl ?_
  intro p e s m args below meth c s₁ B hml hv
  obtain ⟨rfl, hsz, hP, hK, hD0, hZ, hN⟩ := hv
  have hx := B.exec
  have hb := B.bytes
  have hr := B.returns
  have hts := atoms_spec (ws := wsL_recall) B.pre
  have hown : s.vm.findClass RL = some m.cls := findClass_of_methodNamed B.named
  have hlocks := B.notSynchronized
  have htab := vx_table (x := yL_recall) B (hts _ List.mem_cons_self)
  subst hsz
  have hD := hD0.self (sz := s.heap.size)
  generalize hAe : va_A (ow g h o u f) s.heap.size = A at hD hZ ⊢
  have hA : ∀ q : Nat, s.heap.size ≤ q → A q := fun q h => by rw [← hAe]; exact Or.inr h
  have hS : va_S A s.heap s.heap [] := va_S.rf
  have hl := lv_entry ([.ref (h 0), .int x1, .int x2, .ref o]) (n := 5) (Nat.le_of_ble_eq_true rfl)
  rw [lg_entry_eq]
  generalize (lg_sl ([.ref (h 0), .int x1, .int x2, .ref o]) ++ List.replicate (5 - (lg_sl ([.ref (h 0), .int x1, .int x2, .ref o])).length) Slot.unset).toArray = ls at hl ⊢
  have hl : lv_has ls 5 [(0, .ref (h 0)), (1, .int x1), (2, .int x2), (3, .ref o)] := hl
  refine lv_aload_n hx hb dL_recall_0 rfl (lv_at hl 3 rfl) ?_
  refine lv_iconst (v := 0) hx hb dL_recall_1 (by decide) ?_
  refine lv_aload_n hx hb dL_recall_2 rfl (lv_at hl 0 rfl) ?_
  refine lv_iload_n hx hb dL_recall_3 rfl (lv_at hl 1 rfl) ?_
  refine lv_iload_n hx hb dL_recall_4 rfl (lv_at hl 2 rfl) ?_
  have hPc := hP.sub (ws' := cw g h u) [0, 1, 2, 3, 4, 5, 6, 7, 8, 9, 10, 11, 12, 13, 14, 15, 16, 17, 18, 19, 20, 21, 22, 23] rfl
  have hDc := hD.sub (ws' := cw g h u) [0, 1, 2, 3, 4, 5, 6, 7, 8, 9, 10, 11, 12, 13, 14, 15, 16, 17, 18, 19, 20, 21, 22, 23] (by decide) rfl
  have hFc := va_free (wc := cw g h u) hD hS hA [0, 1, 2, 3, 4, 5, 6, 7, 8, 9, 10, 11, 12, 13, 14, 15, 16, 17, 18, 19, 20, 21, 22, 23] rfl
  refine vy_calli (vy_runV (As := [.int x1, .int x2]) (rest := [.int 0, .ref o]) ⟨hx, hb, hml, hown, hts⟩ (kX4_recall l hl9 dC dI g h u _ x1 x2 hI) (cwV 2 hts (gV wd_394 wd_395 wd_396 wd_92 wcX4_recall) rfl rfl rfl (by decide +kernel) ⟨(Nat.le_of_ble_eq_true rfl), (Nat.le_of_ble_eq_true rfl)⟩) ⟨fun a U g mk q => by obtain ⟨q0, q1, qP, qK, qD, qZ⟩ := q; exact ⟨q0, q1, qP, va_K.moved (u := U) (U := U.calling g mk a) (Vm.Alike.refl U.vm) qK, qD, zz_same (u := U) (H := U.heap) rfl rfl qZ⟩, va_recv hK hPc (ci := 3) (q0 := 0) rfl (cw_at0 _ _ _), fun U hU hW => ⟨rfl, by rw [hU], by rw [hU]; exact hPc, va_K.moved hW.alike hK, hDc.weaken (fun _ _ _ _ => trivial), by rw [hU]; exact zz_to hZ hS hFc hW⟩⟩ rfl rfl hl.1 rfl (lv_room (Nat.le_of_ble_eq_true rfl)) dL_recall_5 ⟨(Nat.le_of_ble_eq_true rfl), (Nat.le_of_ble_eq_true rfl)⟩) hS (fun q _ h => hFc q h) hFc (fun q _ h => hFc q h) (fun E ce q9 u2 t H1 locs1 ht hvm hw hB hz1 hk1 hS hce hcv hcl => ?_) (fun r u2 t H1 locs1 ht hvm hw hB hz1 hk1 hS => ?_)
  · skip
    obtain ⟨⟨kx, hk, hE⟩, hP1, hD1⟩ := hB
    rw [ht] at hP1
    obtain ⟨hP, hD⟩ := va_join (wr := [(o, .inl (g.2.2, 1, .inr (.inl f)))]) (w1 := cw g h u2) hP hD [0, 1, 2, 3, 4, 5, 6, 7, 8, 9, 10, 11, 12, 13, 14, 15, 16, 17, 18, 19, 20, 21, 22, 23] [24] rfl rfl (by decide) (by decide) hk1 hFc hP1 hD1
    have hP := hP.sub (ws' := ow g h o u2 f) [1, 2, 3, 4, 5, 6, 7, 8, 9, 10, 11, 12, 13, 14, 15, 16, 17, 18, 19, 20, 21, 22, 23, 24, 0] rfl
    have hD := hD.sub (ws' := ow g h o u2 f) [1, 2, 3, 4, 5, 6, 7, 8, 9, 10, 11, 12, 13, 14, 15, 16, 17, 18, 19, 20, 21, 22, 23, 24, 0] (by decide) rfl
    have hc := cdX4_recall u x1 x2
    rw [hk] at hc
    rcases hc with hc | hc | hc
    · skip
      have hc : kx = 0 := hc
      subst hc
      exact hE.elim
    · skip
      have hc : kx = 1 := hc
      subst hc
      have hE : E = "java/util/NoSuchElementException" := hE
      subst hE
      refine vx_catch (own := RL) (name := "java/util/NoSuchElementException") hown ([] : List ExceptionTableEntry) ⟨0, 10, 13, 33⟩ ([⟨0, 10, 17, 13⟩] : List ExceptionTableEntry) (htab.trans rfl) (fun z hz => nomatch hz) (by decide) (by decide) (hts _ (List.mem_cons_of_mem _ wd_352)) (zz_ws hZ (B := [.castable "java/util/NoSuchElementException" "java/util/NoSuchElementException"]) (by decide +kernel) _ List.mem_cons_self) hce hcv hcl ?_
      refine lv_astore (lv' := [(4, .ref q9), (0, .ref (h 0)), (1, .int x1), (2, .int x2), (3, .ref o)]) hx hb dL_recall_13 hl (by decide) rfl (fun ls hl => ?_)
      refine lv_iconst (v := 1) hx hb dL_recall_15 (by decide) ?_
      exact W.iret (v := 1) hx hb hr (fun t ht hW => ⟨⟨1, (u2, f), rfl, (by rw [hk]; exact ⟨rfl, rfl⟩), by rw [ht]; exact hP, hD⟩, hS.F ht⟩) hS.2.2 dL_recall_16
    · skip
      have hc : kx = 2 := hc
      subst hc
      have hE : E = "java/lang/IllegalArgumentException" := hE
      subst hE
      refine vx_catch (own := RL) (name := "java/lang/IllegalArgumentException") hown ([⟨0, 10, 13, 33⟩] : List ExceptionTableEntry) ⟨0, 10, 17, 13⟩ ([] : List ExceptionTableEntry) (htab.trans rfl) (fun z hz => by
        simp only [List.mem_cons, List.not_mem_nil, or_false] at hz
        rcases hz with rfl
        · exact Or.inr ⟨by decide, "java/util/NoSuchElementException", (hts _ (List.mem_cons_of_mem _ wd_352)), hN ("java/lang/IllegalArgumentException", "java/util/NoSuchElementException") (by decide +kernel)⟩) (by decide) (by decide) (hts _ (List.mem_cons_of_mem _ wd_334)) (zz_ws hZ (B := [.castable "java/lang/IllegalArgumentException" "java/lang/IllegalArgumentException"]) (by decide +kernel) _ List.mem_cons_self) hce hcv hcl ?_
      refine lv_astore (lv' := [(4, .ref q9), (0, .ref (h 0)), (1, .int x1), (2, .int x2), (3, .ref o)]) hx hb dL_recall_17 hl (by decide) rfl (fun ls hl => ?_)
      refine lv_iconst (v := 2) hx hb dL_recall_19 (by decide) ?_
      exact W.iret (v := 2) hx hb hr (fun t ht hW => ⟨⟨2, (u2, f), rfl, (by rw [hk]; exact ⟨rfl, rfl⟩), by rw [ht]; exact hP, hD⟩, hS.F ht⟩) hS.2.2 dL_recall_20
  · skip
    obtain ⟨hP1, hD1⟩ := hB
    rw [ht] at hP1
    obtain ⟨hP, hD⟩ := va_join (wr := [(o, .inl (g.2.2, 1, .inr (.inl f)))]) (w1 := cw g h u2) hP hD [0, 1, 2, 3, 4, 5, 6, 7, 8, 9, 10, 11, 12, 13, 14, 15, 16, 17, 18, 19, 20, 21, 22, 23] [24] rfl rfl (by decide) (by decide) hk1 hFc hP1 hD1
    have hP := hP.sub (ws' := ow g h o u2 f) [1, 2, 3, 4, 5, 6, 7, 8, 9, 10, 11, 12, 13, 14, 15, 16, 17, 18, 19, 20, 21, 22, 23, 24, 0] rfl
    have hD := hD.sub (ws' := ow g h o u2 f) [1, 2, 3, 4, 5, 6, 7, 8, 9, 10, 11, 12, 13, 14, 15, 16, 17, 18, 19, 20, 21, 22, 23, 24, 0] (by decide) rfl
    refine W.widen (k := 1) (n := 6) (Nat.le_of_ble_eq_true rfl) (Nat.le_of_ble_eq_true rfl) ?_
    refine lv_i2l (v := r.toInt64) hx hb dL_recall_8 rfl ?_
    refine va_last (f := f) hx hb hK hP hD hS 24 2 (ow_at24 _ _ _ _ _) rfl (vp_in_iff.mpr (by decide)) dL_recall_9 (fun H locs hP hD hS => ?_)
    have hP : va_P (dC, dI) vwCl (ow g h o u2 (vp_updL f (0 : Int32).toNatClampNeg r.toInt64)) H := hP
    have hD : va_D A (ow g h o u2 (vp_updL f (0 : Int32).toNatClampNeg r.toInt64)) := hD
    refine lv_goto (tgt := 21) hx hb dL_recall_10 (by decide) ?_
    refine lv_iconst (v := 0) hx hb dL_recall_21 (by decide) ?_
    exact W.iret (v := 0) hx hb hr (fun t ht hW => ⟨⟨0, (u2, (vp_updL f (0 : Int32).toNatClampNeg r.toInt64)), rfl, (by rw [hw]; exact ⟨rfl, rfl⟩), by rw [ht]; exact hP, hD⟩, hS.F ht⟩) hS.2.2 dL_recall_22
set_option maxHeartbeats 4000000 in
set_option maxRecDepth 100000 in
theorem kL_where (l : Launch) (hl9 : l.stackTraces = false) (dC : Nat → ClassId) (dI : Nat → Nat → Nat) (g : cG) (h : Nat → Nat) (o : Nat) (u : cS) (f : Nat → Int64) (sz : Nat) (x1 : Int32) (x2 : Int32) (hI : cInv u) : Met l yL_where wsL_where ({ frames := 8, cells := 1, slots := 6, locals := 125 }) (va_Pc [.ref (h 0), .int x1, .int x2, .ref o] (fun U => U.heap.size = sz ∧ va_P (dC, dI) vwCl (ow g h o u f) U.heap ∧ va_K (dC, dI) vwCl (cTys g) U ∧ va_D (fun _ => True) (ow g h o u f) ∧ zz (va_A (ow g h o u f) sz) U U.heap ∧ nn U)) (va_Qi (fun (r : Int32) (q : cS × (Nat → Int64)) => r = wk [1, 2] (fX4_where u x1 x2).1 ∧ q = wq (fX4_where u x1 x2) f) (fun q t => va_P (dC, dI) vwCl (ow g h o q.1 q.2) t.heap ∧ va_D (va_A (ow g h o u f) sz) (ow g h o q.1 q.2)) (va_A (ow g h o u f) sz)) 1 6 (va_A (ow g h o u f) sz) := by
  refine va_MetW (cc := cL_where) (maxL := 5) (ret := (some .int)) (hh := [(0, 10, 13, 33), (0, 10, 17, 13)]) (by decide) rfl ?_
  intro p e s m args below meth c s₁ B hml hv
  obtain ⟨rfl, hsz, hP, hK, hD0, hZ, hN⟩ := hv
  have hx := B.exec
  have hb := B.bytes
  have hr := B.returns
  have hts := atoms_spec (ws := wsL_where) B.pre
  have hown : s.vm.findClass RL = some m.cls := findClass_of_methodNamed B.named
  have hlocks := B.notSynchronized
  have htab := vx_table (x := yL_where) B (hts _ List.mem_cons_self)
  subst hsz
  have hD := hD0.self (sz := s.heap.size)
  generalize hAe : va_A (ow g h o u f) s.heap.size = A at hD hZ ⊢
  have hA : ∀ q : Nat, s.heap.size ≤ q → A q := fun q h => by rw [← hAe]; exact Or.inr h
  have hS : va_S A s.heap s.heap [] := va_S.rf
  have hl := lv_entry ([.ref (h 0), .int x1, .int x2, .ref o]) (n := 5) (Nat.le_of_ble_eq_true rfl)
  rw [lg_entry_eq]
  generalize (lg_sl ([.ref (h 0), .int x1, .int x2, .ref o]) ++ List.replicate (5 - (lg_sl ([.ref (h 0), .int x1, .int x2, .ref o])).length) Slot.unset).toArray = ls at hl ⊢
  have hl : lv_has ls 5 [(0, .ref (h 0)), (1, .int x1), (2, .int x2), (3, .ref o)] := hl
  refine lv_aload_n hx hb dL_where_0 rfl (lv_at hl 3 rfl) ?_
  refine lv_iconst (v := 0) hx hb dL_where_1 (by decide) ?_
  refine lv_aload_n hx hb dL_where_2 rfl (lv_at hl 0 rfl) ?_
  refine lv_iload_n hx hb dL_where_3 rfl (lv_at hl 1 rfl) ?_
  refine lv_iload_n hx hb dL_where_4 rfl (lv_at hl 2 rfl) ?_
  have hPc := hP.sub (ws' := cw g h u) [0, 1, 2, 3, 4, 5, 6, 7, 8, 9, 10, 11, 12, 13, 14, 15, 16, 17, 18, 19, 20, 21, 22, 23] rfl
  have hDc := hD.sub (ws' := cw g h u) [0, 1, 2, 3, 4, 5, 6, 7, 8, 9, 10, 11, 12, 13, 14, 15, 16, 17, 18, 19, 20, 21, 22, 23] (by decide) rfl
  have hFc := va_free (wc := cw g h u) hD hS hA [0, 1, 2, 3, 4, 5, 6, 7, 8, 9, 10, 11, 12, 13, 14, 15, 16, 17, 18, 19, 20, 21, 22, 23] rfl
  refine vy_calli (vy_runV (As := [.int x1, .int x2]) (rest := [.int 0, .ref o]) ⟨hx, hb, hml, hown, hts⟩ (kX4_where l hl9 dC dI g h u _ x1 x2 hI) (cwV 2 hts (gV wd_398 wd_399 wd_400 wd_92 wcX4_where) rfl rfl rfl (by decide +kernel) ⟨(Nat.le_of_ble_eq_true rfl), (Nat.le_of_ble_eq_true rfl)⟩) ⟨fun a U g mk q => by obtain ⟨q0, q1, qP, qK, qD, qZ⟩ := q; exact ⟨q0, q1, qP, va_K.moved (u := U) (U := U.calling g mk a) (Vm.Alike.refl U.vm) qK, qD, zz_same (u := U) (H := U.heap) rfl rfl qZ⟩, va_recv hK hPc (ci := 3) (q0 := 0) rfl (cw_at0 _ _ _), fun U hU hW => ⟨rfl, by rw [hU], by rw [hU]; exact hPc, va_K.moved hW.alike hK, hDc.weaken (fun _ _ _ _ => trivial), by rw [hU]; exact zz_to hZ hS hFc hW⟩⟩ rfl rfl hl.1 rfl (lv_room (Nat.le_of_ble_eq_true rfl)) dL_where_5 ⟨(Nat.le_of_ble_eq_true rfl), (Nat.le_of_ble_eq_true rfl)⟩) hS (fun q _ h => hFc q h) hFc (fun q _ h => hFc q h) (fun E ce q9 u2 t H1 locs1 ht hvm hw hB hz1 hk1 hS hce hcv hcl => ?_) (fun r u2 t H1 locs1 ht hvm hw hB hz1 hk1 hS => ?_)
  · skip
    obtain ⟨⟨kx, hk, hE⟩, hP1, hD1⟩ := hB
    rw [ht] at hP1
    obtain ⟨hP, hD⟩ := va_join (wr := [(o, .inl (g.2.2, 1, .inr (.inl f)))]) (w1 := cw g h u2) hP hD [0, 1, 2, 3, 4, 5, 6, 7, 8, 9, 10, 11, 12, 13, 14, 15, 16, 17, 18, 19, 20, 21, 22, 23] [24] rfl rfl (by decide) (by decide) hk1 hFc hP1 hD1
    have hP := hP.sub (ws' := ow g h o u2 f) [1, 2, 3, 4, 5, 6, 7, 8, 9, 10, 11, 12, 13, 14, 15, 16, 17, 18, 19, 20, 21, 22, 23, 24, 0] rfl
    have hD := hD.sub (ws' := ow g h o u2 f) [1, 2, 3, 4, 5, 6, 7, 8, 9, 10, 11, 12, 13, 14, 15, 16, 17, 18, 19, 20, 21, 22, 23, 24, 0] (by decide) rfl
    have hc := cdX4_where u x1 x2
    rw [hk] at hc
    rcases hc with hc | hc | hc
    · skip
      have hc : kx = 0 := hc
      subst hc
      exact hE.elim
    · skip
      have hc : kx = 1 := hc
      subst hc
      have hE : E = "java/util/NoSuchElementException" := hE
      subst hE
      refine vx_catch (own := RL) (name := "java/util/NoSuchElementException") hown ([] : List ExceptionTableEntry) ⟨0, 10, 13, 33⟩ ([⟨0, 10, 17, 13⟩] : List ExceptionTableEntry) (htab.trans rfl) (fun z hz => nomatch hz) (by decide) (by decide) (hts _ (List.mem_cons_of_mem _ wd_352)) (zz_ws hZ (B := [.castable "java/util/NoSuchElementException" "java/util/NoSuchElementException"]) (by decide +kernel) _ List.mem_cons_self) hce hcv hcl ?_
      refine lv_astore (lv' := [(4, .ref q9), (0, .ref (h 0)), (1, .int x1), (2, .int x2), (3, .ref o)]) hx hb dL_where_13 hl (by decide) rfl (fun ls hl => ?_)
      refine lv_iconst (v := 1) hx hb dL_where_15 (by decide) ?_
      exact W.iret (v := 1) hx hb hr (fun t ht hW => ⟨⟨1, (u2, f), rfl, (by rw [hk]; exact ⟨rfl, rfl⟩), by rw [ht]; exact hP, hD⟩, hS.F ht⟩) hS.2.2 dL_where_16
    · skip
      have hc : kx = 2 := hc
      subst hc
      have hE : E = "java/lang/IllegalArgumentException" := hE
      subst hE
      refine vx_catch (own := RL) (name := "java/lang/IllegalArgumentException") hown ([⟨0, 10, 13, 33⟩] : List ExceptionTableEntry) ⟨0, 10, 17, 13⟩ ([] : List ExceptionTableEntry) (htab.trans rfl) (fun z hz => by
        simp only [List.mem_cons, List.not_mem_nil, or_false] at hz
        rcases hz with rfl
        · exact Or.inr ⟨by decide, "java/util/NoSuchElementException", (hts _ (List.mem_cons_of_mem _ wd_352)), hN ("java/lang/IllegalArgumentException", "java/util/NoSuchElementException") (by decide +kernel)⟩) (by decide) (by decide) (hts _ (List.mem_cons_of_mem _ wd_334)) (zz_ws hZ (B := [.castable "java/lang/IllegalArgumentException" "java/lang/IllegalArgumentException"]) (by decide +kernel) _ List.mem_cons_self) hce hcv hcl ?_
      refine lv_astore (lv' := [(4, .ref q9), (0, .ref (h 0)), (1, .int x1), (2, .int x2), (3, .ref o)]) hx hb dL_where_17 hl (by decide) rfl (fun ls hl => ?_)
      refine lv_iconst (v := 2) hx hb dL_where_19 (by decide) ?_
      exact W.iret (v := 2) hx hb hr (fun t ht hW => ⟨⟨2, (u2, f), rfl, (by rw [hk]; exact ⟨rfl, rfl⟩), by rw [ht]; exact hP, hD⟩, hS.F ht⟩) hS.2.2 dL_where_20
  · skip
    obtain ⟨hP1, hD1⟩ := hB
    rw [ht] at hP1
    obtain ⟨hP, hD⟩ := va_join (wr := [(o, .inl (g.2.2, 1, .inr (.inl f)))]) (w1 := cw g h u2) hP hD [0, 1, 2, 3, 4, 5, 6, 7, 8, 9, 10, 11, 12, 13, 14, 15, 16, 17, 18, 19, 20, 21, 22, 23] [24] rfl rfl (by decide) (by decide) hk1 hFc hP1 hD1
    have hP := hP.sub (ws' := ow g h o u2 f) [1, 2, 3, 4, 5, 6, 7, 8, 9, 10, 11, 12, 13, 14, 15, 16, 17, 18, 19, 20, 21, 22, 23, 24, 0] rfl
    have hD := hD.sub (ws' := ow g h o u2 f) [1, 2, 3, 4, 5, 6, 7, 8, 9, 10, 11, 12, 13, 14, 15, 16, 17, 18, 19, 20, 21, 22, 23, 24, 0] (by decide) rfl
    refine W.widen (k := 1) (n := 6) (Nat.le_of_ble_eq_true rfl) (Nat.le_of_ble_eq_true rfl) ?_
    refine lv_i2l (v := r.toInt64) hx hb dL_where_8 rfl ?_
    refine va_last (f := f) hx hb hK hP hD hS 24 2 (ow_at24 _ _ _ _ _) rfl (vp_in_iff.mpr (by decide)) dL_where_9 (fun H locs hP hD hS => ?_)
    have hP : va_P (dC, dI) vwCl (ow g h o u2 (vp_updL f (0 : Int32).toNatClampNeg r.toInt64)) H := hP
    have hD : va_D A (ow g h o u2 (vp_updL f (0 : Int32).toNatClampNeg r.toInt64)) := hD
    refine lv_goto (tgt := 21) hx hb dL_where_10 (by decide) ?_
    refine lv_iconst (v := 0) hx hb dL_where_21 (by decide) ?_
    exact W.iret (v := 0) hx hb hr (fun t ht hW => ⟨⟨0, (u2, (vp_updL f (0 : Int32).toNatClampNeg r.toInt64)), rfl, (by rw [hw]; exact ⟨rfl, rfl⟩), by rw [ht]; exact hP, hD⟩, hS.F ht⟩) hS.2.2 dL_where_22
set_option maxHeartbeats 4000000 in
set_option maxRecDepth 100000 in
theorem kL_history (l : Launch) (hl9 : l.stackTraces = false) (dC : Nat → ClassId) (dI : Nat → Nat → Nat) (g : cG) (h : Nat → Nat) (o : Nat) (u : cS) (f : Nat → Int64) (sz : Nat) (x1 : Int32) (x2 : Int32) (x3 : Int32) (hI : cInv u) : Met l yL_history wsL_history ({ frames := 8, cells := 1, slots := 6, locals := 128 }) (va_Pc [.ref (h 0), .int x1, .int x2, .int x3, .ref o] (fun U => U.heap.size = sz ∧ va_P (dC, dI) vwCl (ow g h o u f) U.heap ∧ va_K (dC, dI) vwCl (cTys g) U ∧ va_D (fun _ => True) (ow g h o u f) ∧ zz (va_A (ow g h o u f) sz) U U.heap ∧ nn U)) (va_Qi (fun (r : Int32) (q : cS × (Nat → Int64)) => r = wk [1, 2] (fX4_history u x1 x2 x3).1 ∧ q = wq (fX4_history u x1 x2 x3) f) (fun q t => va_P (dC, dI) vwCl (ow g h o q.1 q.2) t.heap ∧ va_D (va_A (ow g h o u f) sz) (ow g h o q.1 q.2)) (va_A (ow g h o u f) sz)) 1 6 (va_A (ow g h o u f) sz) := by
  refine va_MetW (cc := cL_history) (maxL := 6) (ret := (some .int)) (hh := [(0, 12, 15, 33), (0, 12, 19, 13)]) (by decide) rfl ?_
  intro p e s m args below meth c s₁ B hml hv
  obtain ⟨rfl, hsz, hP, hK, hD0, hZ, hN⟩ := hv
  have hx := B.exec
  have hb := B.bytes
  have hr := B.returns
  have hts := atoms_spec (ws := wsL_history) B.pre
  have hown : s.vm.findClass RL = some m.cls := findClass_of_methodNamed B.named
  have hlocks := B.notSynchronized
  have htab := vx_table (x := yL_history) B (hts _ List.mem_cons_self)
  subst hsz
  have hD := hD0.self (sz := s.heap.size)
  generalize hAe : va_A (ow g h o u f) s.heap.size = A at hD hZ ⊢
  have hA : ∀ q : Nat, s.heap.size ≤ q → A q := fun q h => by rw [← hAe]; exact Or.inr h
  have hS : va_S A s.heap s.heap [] := va_S.rf
  have hl := lv_entry ([.ref (h 0), .int x1, .int x2, .int x3, .ref o]) (n := 6) (Nat.le_of_ble_eq_true rfl)
  rw [lg_entry_eq]
  generalize (lg_sl ([.ref (h 0), .int x1, .int x2, .int x3, .ref o]) ++ List.replicate (6 - (lg_sl ([.ref (h 0), .int x1, .int x2, .int x3, .ref o])).length) Slot.unset).toArray = ls at hl ⊢
  have hl : lv_has ls 6 [(0, .ref (h 0)), (1, .int x1), (2, .int x2), (3, .int x3), (4, .ref o)] := hl
  refine lv_aload hx hb dL_history_0 (lv_at hl 4 rfl) ?_
  refine lv_iconst (v := 0) hx hb dL_history_2 (by decide) ?_
  refine lv_aload_n hx hb dL_history_3 rfl (lv_at hl 0 rfl) ?_
  refine lv_iload_n hx hb dL_history_4 rfl (lv_at hl 1 rfl) ?_
  refine lv_iload_n hx hb dL_history_5 rfl (lv_at hl 2 rfl) ?_
  refine lv_iload_n hx hb dL_history_6 rfl (lv_at hl 3 rfl) ?_
  have hPc := hP.sub (ws' := cw g h u) [0, 1, 2, 3, 4, 5, 6, 7, 8, 9, 10, 11, 12, 13, 14, 15, 16, 17, 18, 19, 20, 21, 22, 23] rfl
  have hDc := hD.sub (ws' := cw g h u) [0, 1, 2, 3, 4, 5, 6, 7, 8, 9, 10, 11, 12, 13, 14, 15, 16, 17, 18, 19, 20, 21, 22, 23] (by decide) rfl
  have hFc := va_free (wc := cw g h u) hD hS hA [0, 1, 2, 3, 4, 5, 6, 7, 8, 9, 10, 11, 12, 13, 14, 15, 16, 17, 18, 19, 20, 21, 22, 23] rfl
  refine vy_calli (vy_runV (As := [.int x1, .int x2, .int x3]) (rest := [.int 0, .ref o]) ⟨hx, hb, hml, hown, hts⟩ (kX4_history l hl9 dC dI g h u _ x1 x2 x3 hI) (cwV 3 hts (gV wd_402 wd_403 wd_404 wd_92 wcX4_history) rfl rfl rfl (by decide +kernel) ⟨(Nat.le_of_ble_eq_true rfl), (Nat.le_of_ble_eq_true rfl)⟩) ⟨fun a U g mk q => by obtain ⟨q0, q1, qP, qK, qD, qZ⟩ := q; exact ⟨q0, q1, qP, va_K.moved (u := U) (U := U.calling g mk a) (Vm.Alike.refl U.vm) qK, qD, zz_same (u := U) (H := U.heap) rfl rfl qZ⟩, va_recv hK hPc (ci := 3) (q0 := 0) rfl (cw_at0 _ _ _), fun U hU hW => ⟨rfl, by rw [hU], by rw [hU]; exact hPc, va_K.moved hW.alike hK, hDc.weaken (fun _ _ _ _ => trivial), by rw [hU]; exact zz_to hZ hS hFc hW⟩⟩ rfl rfl hl.1 rfl (lv_room (Nat.le_of_ble_eq_true rfl)) dL_history_7 ⟨(Nat.le_of_ble_eq_true rfl), (Nat.le_of_ble_eq_true rfl)⟩) hS (fun q _ h => hFc q h) hFc (fun q _ h => hFc q h) (fun E ce q9 u2 t H1 locs1 ht hvm hw hB hz1 hk1 hS hce hcv hcl => ?_) (fun r u2 t H1 locs1 ht hvm hw hB hz1 hk1 hS => ?_)
  · skip
    obtain ⟨⟨kx, hk, hE⟩, hP1, hD1⟩ := hB
    rw [ht] at hP1
    obtain ⟨hP, hD⟩ := va_join (wr := [(o, .inl (g.2.2, 1, .inr (.inl f)))]) (w1 := cw g h u2) hP hD [0, 1, 2, 3, 4, 5, 6, 7, 8, 9, 10, 11, 12, 13, 14, 15, 16, 17, 18, 19, 20, 21, 22, 23] [24] rfl rfl (by decide) (by decide) hk1 hFc hP1 hD1
    have hP := hP.sub (ws' := ow g h o u2 f) [1, 2, 3, 4, 5, 6, 7, 8, 9, 10, 11, 12, 13, 14, 15, 16, 17, 18, 19, 20, 21, 22, 23, 24, 0] rfl
    have hD := hD.sub (ws' := ow g h o u2 f) [1, 2, 3, 4, 5, 6, 7, 8, 9, 10, 11, 12, 13, 14, 15, 16, 17, 18, 19, 20, 21, 22, 23, 24, 0] (by decide) rfl
    have hc := cdX4_history u x1 x2 x3
    rw [hk] at hc
    rcases hc with hc | hc | hc
    · skip
      have hc : kx = 0 := hc
      subst hc
      exact hE.elim
    · skip
      have hc : kx = 1 := hc
      subst hc
      have hE : E = "java/util/NoSuchElementException" := hE
      subst hE
      refine vx_catch (own := RL) (name := "java/util/NoSuchElementException") hown ([] : List ExceptionTableEntry) ⟨0, 12, 15, 33⟩ ([⟨0, 12, 19, 13⟩] : List ExceptionTableEntry) (htab.trans rfl) (fun z hz => nomatch hz) (by decide) (by decide) (hts _ (List.mem_cons_of_mem _ wd_352)) (zz_ws hZ (B := [.castable "java/util/NoSuchElementException" "java/util/NoSuchElementException"]) (by decide +kernel) _ List.mem_cons_self) hce hcv hcl ?_
      refine lv_astore (lv' := [(5, .ref q9), (0, .ref (h 0)), (1, .int x1), (2, .int x2), (3, .int x3), (4, .ref o)]) hx hb dL_history_15 hl (by decide) rfl (fun ls hl => ?_)
      refine lv_iconst (v := 1) hx hb dL_history_17 (by decide) ?_
      exact W.iret (v := 1) hx hb hr (fun t ht hW => ⟨⟨1, (u2, f), rfl, (by rw [hk]; exact ⟨rfl, rfl⟩), by rw [ht]; exact hP, hD⟩, hS.F ht⟩) hS.2.2 dL_history_18
    · skip
      have hc : kx = 2 := hc
      subst hc
      have hE : E = "java/lang/IllegalArgumentException" := hE
      subst hE
      refine vx_catch (own := RL) (name := "java/lang/IllegalArgumentException") hown ([⟨0, 12, 15, 33⟩] : List ExceptionTableEntry) ⟨0, 12, 19, 13⟩ ([] : List ExceptionTableEntry) (htab.trans rfl) (fun z hz => by
        simp only [List.mem_cons, List.not_mem_nil, or_false] at hz
        rcases hz with rfl
        · exact Or.inr ⟨by decide, "java/util/NoSuchElementException", (hts _ (List.mem_cons_of_mem _ wd_352)), hN ("java/lang/IllegalArgumentException", "java/util/NoSuchElementException") (by decide +kernel)⟩) (by decide) (by decide) (hts _ (List.mem_cons_of_mem _ wd_334)) (zz_ws hZ (B := [.castable "java/lang/IllegalArgumentException" "java/lang/IllegalArgumentException"]) (by decide +kernel) _ List.mem_cons_self) hce hcv hcl ?_
      refine lv_astore (lv' := [(5, .ref q9), (0, .ref (h 0)), (1, .int x1), (2, .int x2), (3, .int x3), (4, .ref o)]) hx hb dL_history_19 hl (by decide) rfl (fun ls hl => ?_)
      refine lv_iconst (v := 2) hx hb dL_history_21 (by decide) ?_
      exact W.iret (v := 2) hx hb hr (fun t ht hW => ⟨⟨2, (u2, f), rfl, (by rw [hk]; exact ⟨rfl, rfl⟩), by rw [ht]; exact hP, hD⟩, hS.F ht⟩) hS.2.2 dL_history_22
  · skip
    obtain ⟨hP1, hD1⟩ := hB
    rw [ht] at hP1
    obtain ⟨hP, hD⟩ := va_join (wr := [(o, .inl (g.2.2, 1, .inr (.inl f)))]) (w1 := cw g h u2) hP hD [0, 1, 2, 3, 4, 5, 6, 7, 8, 9, 10, 11, 12, 13, 14, 15, 16, 17, 18, 19, 20, 21, 22, 23] [24] rfl rfl (by decide) (by decide) hk1 hFc hP1 hD1
    have hP := hP.sub (ws' := ow g h o u2 f) [1, 2, 3, 4, 5, 6, 7, 8, 9, 10, 11, 12, 13, 14, 15, 16, 17, 18, 19, 20, 21, 22, 23, 24, 0] rfl
    have hD := hD.sub (ws' := ow g h o u2 f) [1, 2, 3, 4, 5, 6, 7, 8, 9, 10, 11, 12, 13, 14, 15, 16, 17, 18, 19, 20, 21, 22, 23, 24, 0] (by decide) rfl
    refine W.widen (k := 1) (n := 6) (Nat.le_of_ble_eq_true rfl) (Nat.le_of_ble_eq_true rfl) ?_
    refine lv_i2l (v := r.toInt64) hx hb dL_history_10 rfl ?_
    refine va_last (f := f) hx hb hK hP hD hS 24 2 (ow_at24 _ _ _ _ _) rfl (vp_in_iff.mpr (by decide)) dL_history_11 (fun H locs hP hD hS => ?_)
    have hP : va_P (dC, dI) vwCl (ow g h o u2 (vp_updL f (0 : Int32).toNatClampNeg r.toInt64)) H := hP
    have hD : va_D A (ow g h o u2 (vp_updL f (0 : Int32).toNatClampNeg r.toInt64)) := hD
    refine lv_goto (tgt := 23) hx hb dL_history_12 (by decide) ?_
    refine lv_iconst (v := 0) hx hb dL_history_23 (by decide) ?_
    exact W.iret (v := 0) hx hb hr (fun t ht hW => ⟨⟨0, (u2, (vp_updL f (0 : Int32).toNatClampNeg r.toInt64)), rfl, (by rw [hw]; exact ⟨rfl, rfl⟩), by rw [ht]; exact hP, hD⟩, hS.F ht⟩) hS.2.2 dL_history_24
set_option maxHeartbeats 4000000 in
set_option maxRecDepth 100000 in
theorem kL_told (l : Launch) (hl9 : l.stackTraces = false) (dC : Nat → ClassId) (dI : Nat → Nat → Nat) (g : cG) (h : Nat → Nat) (o : Nat) (u : cS) (f : Nat → Int64) (sz : Nat) (x1 : Int32) (x2 : Int32) (hI : cInv u) : Met l yL_told wsL_told ({ frames := 8, cells := 1, slots := 6, locals := 125 }) (va_Pc [.ref (h 0), .int x1, .int x2, .ref o] (fun U => U.heap.size = sz ∧ va_P (dC, dI) vwCl (ow g h o u f) U.heap ∧ va_K (dC, dI) vwCl (cTys g) U ∧ va_D (fun _ => True) (ow g h o u f) ∧ zz (va_A (ow g h o u f) sz) U U.heap ∧ nn U)) (va_Qi (fun (r : Int32) (q : cS × (Nat → Int64)) => r = wk [1, 2] (fX4_told u x1 x2).1 ∧ q = wq (fX4_told u x1 x2) f) (fun q t => va_P (dC, dI) vwCl (ow g h o q.1 q.2) t.heap ∧ va_D (va_A (ow g h o u f) sz) (ow g h o q.1 q.2)) (va_A (ow g h o u f) sz)) 1 6 (va_A (ow g h o u f) sz) := by
  refine va_MetW (cc := cL_told) (maxL := 5) (ret := (some .int)) (hh := [(0, 10, 13, 33), (0, 10, 17, 13)]) (by decide) rfl ?_
  intro p e s m args below meth c s₁ B hml hv
  obtain ⟨rfl, hsz, hP, hK, hD0, hZ, hN⟩ := hv
  have hx := B.exec
  have hb := B.bytes
  have hr := B.returns
  have hts := atoms_spec (ws := wsL_told) B.pre
  have hown : s.vm.findClass RL = some m.cls := findClass_of_methodNamed B.named
  have hlocks := B.notSynchronized
  have htab := vx_table (x := yL_told) B (hts _ List.mem_cons_self)
  subst hsz
  have hD := hD0.self (sz := s.heap.size)
  generalize hAe : va_A (ow g h o u f) s.heap.size = A at hD hZ ⊢
  have hA : ∀ q : Nat, s.heap.size ≤ q → A q := fun q h => by rw [← hAe]; exact Or.inr h
  have hS : va_S A s.heap s.heap [] := va_S.rf
  have hl := lv_entry ([.ref (h 0), .int x1, .int x2, .ref o]) (n := 5) (Nat.le_of_ble_eq_true rfl)
  rw [lg_entry_eq]
  generalize (lg_sl ([.ref (h 0), .int x1, .int x2, .ref o]) ++ List.replicate (5 - (lg_sl ([.ref (h 0), .int x1, .int x2, .ref o])).length) Slot.unset).toArray = ls at hl ⊢
  have hl : lv_has ls 5 [(0, .ref (h 0)), (1, .int x1), (2, .int x2), (3, .ref o)] := hl
  refine lv_aload_n hx hb dL_told_0 rfl (lv_at hl 3 rfl) ?_
  refine lv_iconst (v := 0) hx hb dL_told_1 (by decide) ?_
  refine lv_aload_n hx hb dL_told_2 rfl (lv_at hl 0 rfl) ?_
  refine lv_iload_n hx hb dL_told_3 rfl (lv_at hl 1 rfl) ?_
  refine lv_iload_n hx hb dL_told_4 rfl (lv_at hl 2 rfl) ?_
  have hPc := hP.sub (ws' := cw g h u) [0, 1, 2, 3, 4, 5, 6, 7, 8, 9, 10, 11, 12, 13, 14, 15, 16, 17, 18, 19, 20, 21, 22, 23] rfl
  have hDc := hD.sub (ws' := cw g h u) [0, 1, 2, 3, 4, 5, 6, 7, 8, 9, 10, 11, 12, 13, 14, 15, 16, 17, 18, 19, 20, 21, 22, 23] (by decide) rfl
  have hFc := va_free (wc := cw g h u) hD hS hA [0, 1, 2, 3, 4, 5, 6, 7, 8, 9, 10, 11, 12, 13, 14, 15, 16, 17, 18, 19, 20, 21, 22, 23] rfl
  refine vy_calli (vy_runV (As := [.int x1, .int x2]) (rest := [.int 0, .ref o]) ⟨hx, hb, hml, hown, hts⟩ (kX4_told l hl9 dC dI g h u _ x1 x2 hI) (cwV 2 hts (gV wd_406 wd_407 wd_408 wd_92 wcX4_told) rfl rfl rfl (by decide +kernel) ⟨(Nat.le_of_ble_eq_true rfl), (Nat.le_of_ble_eq_true rfl)⟩) ⟨fun a U g mk q => by obtain ⟨q0, q1, qP, qK, qD, qZ⟩ := q; exact ⟨q0, q1, qP, va_K.moved (u := U) (U := U.calling g mk a) (Vm.Alike.refl U.vm) qK, qD, zz_same (u := U) (H := U.heap) rfl rfl qZ⟩, va_recv hK hPc (ci := 3) (q0 := 0) rfl (cw_at0 _ _ _), fun U hU hW => ⟨rfl, by rw [hU], by rw [hU]; exact hPc, va_K.moved hW.alike hK, hDc.weaken (fun _ _ _ _ => trivial), by rw [hU]; exact zz_to hZ hS hFc hW⟩⟩ rfl rfl hl.1 rfl (lv_room (Nat.le_of_ble_eq_true rfl)) dL_told_5 ⟨(Nat.le_of_ble_eq_true rfl), (Nat.le_of_ble_eq_true rfl)⟩) hS (fun q _ h => hFc q h) hFc (fun q _ h => hFc q h) (fun E ce q9 u2 t H1 locs1 ht hvm hw hB hz1 hk1 hS hce hcv hcl => ?_) (fun r u2 t H1 locs1 ht hvm hw hB hz1 hk1 hS => ?_)
  · skip
    obtain ⟨⟨kx, hk, hE⟩, hP1, hD1⟩ := hB
    rw [ht] at hP1
    obtain ⟨hP, hD⟩ := va_join (wr := [(o, .inl (g.2.2, 1, .inr (.inl f)))]) (w1 := cw g h u2) hP hD [0, 1, 2, 3, 4, 5, 6, 7, 8, 9, 10, 11, 12, 13, 14, 15, 16, 17, 18, 19, 20, 21, 22, 23] [24] rfl rfl (by decide) (by decide) hk1 hFc hP1 hD1
    have hP := hP.sub (ws' := ow g h o u2 f) [1, 2, 3, 4, 5, 6, 7, 8, 9, 10, 11, 12, 13, 14, 15, 16, 17, 18, 19, 20, 21, 22, 23, 24, 0] rfl
    have hD := hD.sub (ws' := ow g h o u2 f) [1, 2, 3, 4, 5, 6, 7, 8, 9, 10, 11, 12, 13, 14, 15, 16, 17, 18, 19, 20, 21, 22, 23, 24, 0] (by decide) rfl
    have hc := cdX4_told u x1 x2
    rw [hk] at hc
    rcases hc with hc | hc | hc
    · skip
      have hc : kx = 0 := hc
      subst hc
      exact hE.elim
    · skip
      have hc : kx = 1 := hc
      subst hc
      have hE : E = "java/util/NoSuchElementException" := hE
      subst hE
      refine vx_catch (own := RL) (name := "java/util/NoSuchElementException") hown ([] : List ExceptionTableEntry) ⟨0, 10, 13, 33⟩ ([⟨0, 10, 17, 13⟩] : List ExceptionTableEntry) (htab.trans rfl) (fun z hz => nomatch hz) (by decide) (by decide) (hts _ (List.mem_cons_of_mem _ wd_352)) (zz_ws hZ (B := [.castable "java/util/NoSuchElementException" "java/util/NoSuchElementException"]) (by decide +kernel) _ List.mem_cons_self) hce hcv hcl ?_
      refine lv_astore (lv' := [(4, .ref q9), (0, .ref (h 0)), (1, .int x1), (2, .int x2), (3, .ref o)]) hx hb dL_told_13 hl (by decide) rfl (fun ls hl => ?_)
      refine lv_iconst (v := 1) hx hb dL_told_15 (by decide) ?_
      exact W.iret (v := 1) hx hb hr (fun t ht hW => ⟨⟨1, (u2, f), rfl, (by rw [hk]; exact ⟨rfl, rfl⟩), by rw [ht]; exact hP, hD⟩, hS.F ht⟩) hS.2.2 dL_told_16
    · skip
      have hc : kx = 2 := hc
      subst hc
      have hE : E = "java/lang/IllegalArgumentException" := hE
      subst hE
      refine vx_catch (own := RL) (name := "java/lang/IllegalArgumentException") hown ([⟨0, 10, 13, 33⟩] : List ExceptionTableEntry) ⟨0, 10, 17, 13⟩ ([] : List ExceptionTableEntry) (htab.trans rfl) (fun z hz => by
        simp only [List.mem_cons, List.not_mem_nil, or_false] at hz
        rcases hz with rfl
        · exact Or.inr ⟨by decide, "java/util/NoSuchElementException", (hts _ (List.mem_cons_of_mem _ wd_352)), hN ("java/lang/IllegalArgumentException", "java/util/NoSuchElementException") (by decide +kernel)⟩) (by decide) (by decide) (hts _ (List.mem_cons_of_mem _ wd_334)) (zz_ws hZ (B := [.castable "java/lang/IllegalArgumentException" "java/lang/IllegalArgumentException"]) (by decide +kernel) _ List.mem_cons_self) hce hcv hcl ?_
      refine lv_astore (lv' := [(4, .ref q9), (0, .ref (h 0)), (1, .int x1), (2, .int x2), (3, .ref o)]) hx hb dL_told_17 hl (by decide) rfl (fun ls hl => ?_)
      refine lv_iconst (v := 2) hx hb dL_told_19 (by decide) ?_
      exact W.iret (v := 2) hx hb hr (fun t ht hW => ⟨⟨2, (u2, f), rfl, (by rw [hk]; exact ⟨rfl, rfl⟩), by rw [ht]; exact hP, hD⟩, hS.F ht⟩) hS.2.2 dL_told_20
  · skip
    obtain ⟨hP1, hD1⟩ := hB
    rw [ht] at hP1
    obtain ⟨hP, hD⟩ := va_join (wr := [(o, .inl (g.2.2, 1, .inr (.inl f)))]) (w1 := cw g h u2) hP hD [0, 1, 2, 3, 4, 5, 6, 7, 8, 9, 10, 11, 12, 13, 14, 15, 16, 17, 18, 19, 20, 21, 22, 23] [24] rfl rfl (by decide) (by decide) hk1 hFc hP1 hD1
    have hP := hP.sub (ws' := ow g h o u2 f) [1, 2, 3, 4, 5, 6, 7, 8, 9, 10, 11, 12, 13, 14, 15, 16, 17, 18, 19, 20, 21, 22, 23, 24, 0] rfl
    have hD := hD.sub (ws' := ow g h o u2 f) [1, 2, 3, 4, 5, 6, 7, 8, 9, 10, 11, 12, 13, 14, 15, 16, 17, 18, 19, 20, 21, 22, 23, 24, 0] (by decide) rfl
    refine W.widen (k := 1) (n := 6) (Nat.le_of_ble_eq_true rfl) (Nat.le_of_ble_eq_true rfl) ?_
    refine lv_i2l (v := r.toInt64) hx hb dL_told_8 rfl ?_
    refine va_last (f := f) hx hb hK hP hD hS 24 2 (ow_at24 _ _ _ _ _) rfl (vp_in_iff.mpr (by decide)) dL_told_9 (fun H locs hP hD hS => ?_)
    have hP : va_P (dC, dI) vwCl (ow g h o u2 (vp_updL f (0 : Int32).toNatClampNeg r.toInt64)) H := hP
    have hD : va_D A (ow g h o u2 (vp_updL f (0 : Int32).toNatClampNeg r.toInt64)) := hD
    refine lv_goto (tgt := 21) hx hb dL_told_10 (by decide) ?_
    refine lv_iconst (v := 0) hx hb dL_told_21 (by decide) ?_
    exact W.iret (v := 0) hx hb hr (fun t ht hW => ⟨⟨0, (u2, (vp_updL f (0 : Int32).toNatClampNeg r.toInt64)), rfl, (by rw [hw]; exact ⟨rfl, rfl⟩), by rw [ht]; exact hP, hD⟩, hS.F ht⟩) hS.2.2 dL_told_22
set_option maxHeartbeats 4000000 in
set_option maxRecDepth 100000 in
theorem kL_day (l : Launch) (hl9 : l.stackTraces = false) (dC : Nat → ClassId) (dI : Nat → Nat → Nat) (g : cG) (h : Nat → Nat) (o : Nat) (u : cS) (f : Nat → Int64) (sz : Nat) (x1 : Int32) (x2 : Int32) (hI : cInv u) : Met l yL_day wsL_day ({ frames := 8, cells := 1, slots := 6, locals := 129 }) (va_Pc [.ref (h 0), .int x1, .int x2, .ref o] (fun U => U.heap.size = sz ∧ va_P (dC, dI) vwCl (ow g h o u f) U.heap ∧ va_K (dC, dI) vwCl (cTys g) U ∧ va_D (fun _ => True) (ow g h o u f) ∧ zz (va_A (ow g h o u f) sz) U U.heap ∧ nn U)) (va_Qi (fun (r : Int32) (q : cS × (Nat → Int64)) => r = wk [2] (fX4_day u x1 x2).1 ∧ q = wq (fX4_day u x1 x2) f) (fun q t => va_P (dC, dI) vwCl (ow g h o q.1 q.2) t.heap ∧ va_D (va_A (ow g h o u f) sz) (ow g h o q.1 q.2)) (va_A (ow g h o u f) sz)) 1 6 (va_A (ow g h o u f) sz) := by
  refine va_MetW (cc := cL_day) (maxL := 5) (ret := (some .int)) (hh := [(0, 10, 13, 13)]) (by decide) rfl ?_
  intro p e s m args below meth c s₁ B hml hv
  obtain ⟨rfl, hsz, hP, hK, hD0, hZ, hN⟩ := hv
  have hx := B.exec
  have hb := B.bytes
  have hr := B.returns
  have hts := atoms_spec (ws := wsL_day) B.pre
  have hown : s.vm.findClass RL = some m.cls := findClass_of_methodNamed B.named
  have hlocks := B.notSynchronized
  have htab := vx_table (x := yL_day) B (hts _ List.mem_cons_self)
  subst hsz
  have hD := hD0.self (sz := s.heap.size)
  generalize hAe : va_A (ow g h o u f) s.heap.size = A at hD hZ ⊢
  have hA : ∀ q : Nat, s.heap.size ≤ q → A q := fun q h => by rw [← hAe]; exact Or.inr h
  have hS : va_S A s.heap s.heap [] := va_S.rf
  have hl := lv_entry ([.ref (h 0), .int x1, .int x2, .ref o]) (n := 5) (Nat.le_of_ble_eq_true rfl)
  rw [lg_entry_eq]
  generalize (lg_sl ([.ref (h 0), .int x1, .int x2, .ref o]) ++ List.replicate (5 - (lg_sl ([.ref (h 0), .int x1, .int x2, .ref o])).length) Slot.unset).toArray = ls at hl ⊢
  have hl : lv_has ls 5 [(0, .ref (h 0)), (1, .int x1), (2, .int x2), (3, .ref o)] := hl
  refine lv_aload_n hx hb dL_day_0 rfl (lv_at hl 3 rfl) ?_
  refine lv_iconst (v := 0) hx hb dL_day_1 (by decide) ?_
  refine lv_aload_n hx hb dL_day_2 rfl (lv_at hl 0 rfl) ?_
  refine lv_iload_n hx hb dL_day_3 rfl (lv_at hl 1 rfl) ?_
  refine lv_iload_n hx hb dL_day_4 rfl (lv_at hl 2 rfl) ?_
  have hPc := hP.sub (ws' := cw g h u) [0, 1, 2, 3, 4, 5, 6, 7, 8, 9, 10, 11, 12, 13, 14, 15, 16, 17, 18, 19, 20, 21, 22, 23] rfl
  have hDc := hD.sub (ws' := cw g h u) [0, 1, 2, 3, 4, 5, 6, 7, 8, 9, 10, 11, 12, 13, 14, 15, 16, 17, 18, 19, 20, 21, 22, 23] (by decide) rfl
  have hFc := va_free (wc := cw g h u) hD hS hA [0, 1, 2, 3, 4, 5, 6, 7, 8, 9, 10, 11, 12, 13, 14, 15, 16, 17, 18, 19, 20, 21, 22, 23] rfl
  refine vy_calli (vy_runV (As := [.int x1, .int x2]) (rest := [.int 0, .ref o]) ⟨hx, hb, hml, hown, hts⟩ (kX4_day l hl9 dC dI g h u _ x1 x2 hI) (cwV 2 hts (gV wd_410 wd_411 wd_412 wd_92 wcX4_day) rfl rfl rfl (by decide +kernel) ⟨(Nat.le_of_ble_eq_true rfl), (Nat.le_of_ble_eq_true rfl)⟩) ⟨fun a U g mk q => by obtain ⟨q0, q1, qP, qK, qD, qZ⟩ := q; exact ⟨q0, q1, qP, va_K.moved (u := U) (U := U.calling g mk a) (Vm.Alike.refl U.vm) qK, qD, zz_same (u := U) (H := U.heap) rfl rfl qZ⟩, va_recv hK hPc (ci := 3) (q0 := 0) rfl (cw_at0 _ _ _), fun U hU hW => ⟨rfl, by rw [hU], by rw [hU]; exact hPc, va_K.moved hW.alike hK, hDc.weaken (fun _ _ _ _ => trivial), by rw [hU]; exact zz_to hZ hS hFc hW⟩⟩ rfl rfl hl.1 rfl (lv_room (Nat.le_of_ble_eq_true rfl)) dL_day_5 ⟨(Nat.le_of_ble_eq_true rfl), (Nat.le_of_ble_eq_true rfl)⟩) hS (fun q _ h => hFc q h) hFc (fun q _ h => hFc q h) (fun E ce q9 u2 t H1 locs1 ht hvm hw hB hz1 hk1 hS hce hcv hcl => ?_) (fun r u2 t H1 locs1 ht hvm hw hB hz1 hk1 hS => ?_)
  · skip
    obtain ⟨⟨kx, hk, hE⟩, hP1, hD1⟩ := hB
    rw [ht] at hP1
    obtain ⟨hP, hD⟩ := va_join (wr := [(o, .inl (g.2.2, 1, .inr (.inl f)))]) (w1 := cw g h u2) hP hD [0, 1, 2, 3, 4, 5, 6, 7, 8, 9, 10, 11, 12, 13, 14, 15, 16, 17, 18, 19, 20, 21, 22, 23] [24] rfl rfl (by decide) (by decide) hk1 hFc hP1 hD1
    have hP := hP.sub (ws' := ow g h o u2 f) [1, 2, 3, 4, 5, 6, 7, 8, 9, 10, 11, 12, 13, 14, 15, 16, 17, 18, 19, 20, 21, 22, 23, 24, 0] rfl
    have hD := hD.sub (ws' := ow g h o u2 f) [1, 2, 3, 4, 5, 6, 7, 8, 9, 10, 11, 12, 13, 14, 15, 16, 17, 18, 19, 20, 21, 22, 23, 24, 0] (by decide) rfl
    have hc := cdX4_day u x1 x2
    rw [hk] at hc
    rcases hc with hc | hc
    · skip
      have hc : kx = 0 := hc
      subst hc
      exact hE.elim
    · skip
      have hc : kx = 2 := hc
      subst hc
      have hE : E = "java/lang/IllegalArgumentException" := hE
      subst hE
      refine vx_catch (own := RL) (name := "java/lang/IllegalArgumentException") hown ([] : List ExceptionTableEntry) ⟨0, 10, 13, 13⟩ ([] : List ExceptionTableEntry) (htab.trans rfl) (fun z hz => nomatch hz) (by decide) (by decide) (hts _ (List.mem_cons_of_mem _ wd_334)) (zz_ws hZ (B := [.castable "java/lang/IllegalArgumentException" "java/lang/IllegalArgumentException"]) (by decide +kernel) _ List.mem_cons_self) hce hcv hcl ?_
      refine lv_astore (lv' := [(4, .ref q9), (0, .ref (h 0)), (1, .int x1), (2, .int x2), (3, .ref o)]) hx hb dL_day_13 hl (by decide) rfl (fun ls hl => ?_)
      refine lv_iconst (v := 1) hx hb dL_day_15 (by decide) ?_
      exact W.iret (v := 1) hx hb hr (fun t ht hW => ⟨⟨1, (u2, f), rfl, (by rw [hk]; exact ⟨rfl, rfl⟩), by rw [ht]; exact hP, hD⟩, hS.F ht⟩) hS.2.2 dL_day_16
  · skip
    obtain ⟨hP1, hD1⟩ := hB
    rw [ht] at hP1
    obtain ⟨hP, hD⟩ := va_join (wr := [(o, .inl (g.2.2, 1, .inr (.inl f)))]) (w1 := cw g h u2) hP hD [0, 1, 2, 3, 4, 5, 6, 7, 8, 9, 10, 11, 12, 13, 14, 15, 16, 17, 18, 19, 20, 21, 22, 23] [24] rfl rfl (by decide) (by decide) hk1 hFc hP1 hD1
    have hP := hP.sub (ws' := ow g h o u2 f) [1, 2, 3, 4, 5, 6, 7, 8, 9, 10, 11, 12, 13, 14, 15, 16, 17, 18, 19, 20, 21, 22, 23, 24, 0] rfl
    have hD := hD.sub (ws' := ow g h o u2 f) [1, 2, 3, 4, 5, 6, 7, 8, 9, 10, 11, 12, 13, 14, 15, 16, 17, 18, 19, 20, 21, 22, 23, 24, 0] (by decide) rfl
    refine W.widen (k := 1) (n := 6) (Nat.le_of_ble_eq_true rfl) (Nat.le_of_ble_eq_true rfl) ?_
    refine lv_i2l (v := r.toInt64) hx hb dL_day_8 rfl ?_
    refine va_last (f := f) hx hb hK hP hD hS 24 2 (ow_at24 _ _ _ _ _) rfl (vp_in_iff.mpr (by decide)) dL_day_9 (fun H locs hP hD hS => ?_)
    have hP : va_P (dC, dI) vwCl (ow g h o u2 (vp_updL f (0 : Int32).toNatClampNeg r.toInt64)) H := hP
    have hD : va_D A (ow g h o u2 (vp_updL f (0 : Int32).toNatClampNeg r.toInt64)) := hD
    refine lv_goto (tgt := 17) hx hb dL_day_10 (by decide) ?_
    refine lv_iconst (v := 0) hx hb dL_day_17 (by decide) ?_
    exact W.iret (v := 0) hx hb hr (fun t ht hW => ⟨⟨0, (u2, (vp_updL f (0 : Int32).toNatClampNeg r.toInt64)), rfl, (by rw [hw]; exact ⟨rfl, rfl⟩), by rw [ht]; exact hP, hD⟩, hS.F ht⟩) hS.2.2 dL_day_18
set_option maxHeartbeats 4000000 in
set_option maxRecDepth 100000 in
theorem kL_date (l : Launch) (hl9 : l.stackTraces = false) (dC : Nat → ClassId) (dI : Nat → Nat → Nat) (g : cG) (h : Nat → Nat) (o : Nat) (u : cS) (f : Nat → Int64) (sz : Nat) (x1 : Int32) (x2 : Int32) (hI : cInv u) : Met l yL_date wsL_date ({ frames := 8, cells := 1, slots := 6, locals := 130 }) (va_Pc [.ref (h 0), .int x1, .int x2, .ref o] (fun U => U.heap.size = sz ∧ va_P (dC, dI) vwCl (ow g h o u f) U.heap ∧ va_K (dC, dI) vwCl (cTys g) U ∧ va_D (fun _ => True) (ow g h o u f) ∧ zz (va_A (ow g h o u f) sz) U U.heap ∧ nn U)) (va_Qi (fun (r : Int32) (q : cS × (Nat → Int64)) => r = wk [2] (fX4_date u x1 x2).1 ∧ q = wq (fX4_date u x1 x2) f) (fun q t => va_P (dC, dI) vwCl (ow g h o q.1 q.2) t.heap ∧ va_D (va_A (ow g h o u f) sz) (ow g h o q.1 q.2)) (va_A (ow g h o u f) sz)) 1 6 (va_A (ow g h o u f) sz) := by
  refine va_MetW (cc := cL_date) (maxL := 5) (ret := (some .int)) (hh := [(0, 10, 13, 13)]) (by decide) rfl ?_
  intro p e s m args below meth c s₁ B hml hv
  obtain ⟨rfl, hsz, hP, hK, hD0, hZ, hN⟩ := hv
  have hx := B.exec
  have hb := B.bytes
  have hr := B.returns
  have hts := atoms_spec (ws := wsL_date) B.pre
  have hown : s.vm.findClass RL = some m.cls := findClass_of_methodNamed B.named
  have hlocks := B.notSynchronized
  have htab := vx_table (x := yL_date) B (hts _ List.mem_cons_self)
  subst hsz
  have hD := hD0.self (sz := s.heap.size)
  generalize hAe : va_A (ow g h o u f) s.heap.size = A at hD hZ ⊢
  have hA : ∀ q : Nat, s.heap.size ≤ q → A q := fun q h => by rw [← hAe]; exact Or.inr h
  have hS : va_S A s.heap s.heap [] := va_S.rf
  have hl := lv_entry ([.ref (h 0), .int x1, .int x2, .ref o]) (n := 5) (Nat.le_of_ble_eq_true rfl)
  rw [lg_entry_eq]
  generalize (lg_sl ([.ref (h 0), .int x1, .int x2, .ref o]) ++ List.replicate (5 - (lg_sl ([.ref (h 0), .int x1, .int x2, .ref o])).length) Slot.unset).toArray = ls at hl ⊢
  have hl : lv_has ls 5 [(0, .ref (h 0)), (1, .int x1), (2, .int x2), (3, .ref o)] := hl
  refine lv_aload_n hx hb dL_date_0 rfl (lv_at hl 3 rfl) ?_
  refine lv_iconst (v := 0) hx hb dL_date_1 (by decide) ?_
  refine lv_aload_n hx hb dL_date_2 rfl (lv_at hl 0 rfl) ?_
  refine lv_iload_n hx hb dL_date_3 rfl (lv_at hl 1 rfl) ?_
  refine lv_iload_n hx hb dL_date_4 rfl (lv_at hl 2 rfl) ?_
  have hPc := hP.sub (ws' := cw g h u) [0, 1, 2, 3, 4, 5, 6, 7, 8, 9, 10, 11, 12, 13, 14, 15, 16, 17, 18, 19, 20, 21, 22, 23] rfl
  have hDc := hD.sub (ws' := cw g h u) [0, 1, 2, 3, 4, 5, 6, 7, 8, 9, 10, 11, 12, 13, 14, 15, 16, 17, 18, 19, 20, 21, 22, 23] (by decide) rfl
  have hFc := va_free (wc := cw g h u) hD hS hA [0, 1, 2, 3, 4, 5, 6, 7, 8, 9, 10, 11, 12, 13, 14, 15, 16, 17, 18, 19, 20, 21, 22, 23] rfl
  refine vy_calli (vy_runV (As := [.int x1, .int x2]) (rest := [.int 0, .ref o]) ⟨hx, hb, hml, hown, hts⟩ (kX4_date l hl9 dC dI g h u _ x1 x2 hI) (cwV 2 hts (gV wd_414 wd_415 wd_416 wd_92 wcX4_date) rfl rfl rfl (by decide +kernel) ⟨(Nat.le_of_ble_eq_true rfl), (Nat.le_of_ble_eq_true rfl)⟩) ⟨fun a U g mk q => by obtain ⟨q0, q1, qP, qK, qD, qZ⟩ := q; exact ⟨q0, q1, qP, va_K.moved (u := U) (U := U.calling g mk a) (Vm.Alike.refl U.vm) qK, qD, zz_same (u := U) (H := U.heap) rfl rfl qZ⟩, va_recv hK hPc (ci := 3) (q0 := 0) rfl (cw_at0 _ _ _), fun U hU hW => ⟨rfl, by rw [hU], by rw [hU]; exact hPc, va_K.moved hW.alike hK, hDc.weaken (fun _ _ _ _ => trivial), by rw [hU]; exact zz_to hZ hS hFc hW⟩⟩ rfl rfl hl.1 rfl (lv_room (Nat.le_of_ble_eq_true rfl)) dL_date_5 ⟨(Nat.le_of_ble_eq_true rfl), (Nat.le_of_ble_eq_true rfl)⟩) hS (fun q _ h => hFc q h) hFc (fun q _ h => hFc q h) (fun E ce q9 u2 t H1 locs1 ht hvm hw hB hz1 hk1 hS hce hcv hcl => ?_) (fun r u2 t H1 locs1 ht hvm hw hB hz1 hk1 hS => ?_)
  · skip
    obtain ⟨⟨kx, hk, hE⟩, hP1, hD1⟩ := hB
    rw [ht] at hP1
    obtain ⟨hP, hD⟩ := va_join (wr := [(o, .inl (g.2.2, 1, .inr (.inl f)))]) (w1 := cw g h u2) hP hD [0, 1, 2, 3, 4, 5, 6, 7, 8, 9, 10, 11, 12, 13, 14, 15, 16, 17, 18, 19, 20, 21, 22, 23] [24] rfl rfl (by decide) (by decide) hk1 hFc hP1 hD1
    have hP := hP.sub (ws' := ow g h o u2 f) [1, 2, 3, 4, 5, 6, 7, 8, 9, 10, 11, 12, 13, 14, 15, 16, 17, 18, 19, 20, 21, 22, 23, 24, 0] rfl
    have hD := hD.sub (ws' := ow g h o u2 f) [1, 2, 3, 4, 5, 6, 7, 8, 9, 10, 11, 12, 13, 14, 15, 16, 17, 18, 19, 20, 21, 22, 23, 24, 0] (by decide) rfl
    have hc := cdX4_date u x1 x2
    rw [hk] at hc
    rcases hc with hc | hc
    · skip
      have hc : kx = 0 := hc
      subst hc
      exact hE.elim
    · skip
      have hc : kx = 2 := hc
      subst hc
      have hE : E = "java/lang/IllegalArgumentException" := hE
      subst hE
      refine vx_catch (own := RL) (name := "java/lang/IllegalArgumentException") hown ([] : List ExceptionTableEntry) ⟨0, 10, 13, 13⟩ ([] : List ExceptionTableEntry) (htab.trans rfl) (fun z hz => nomatch hz) (by decide) (by decide) (hts _ (List.mem_cons_of_mem _ wd_334)) (zz_ws hZ (B := [.castable "java/lang/IllegalArgumentException" "java/lang/IllegalArgumentException"]) (by decide +kernel) _ List.mem_cons_self) hce hcv hcl ?_
      refine lv_astore (lv' := [(4, .ref q9), (0, .ref (h 0)), (1, .int x1), (2, .int x2), (3, .ref o)]) hx hb dL_date_13 hl (by decide) rfl (fun ls hl => ?_)
      refine lv_iconst (v := 1) hx hb dL_date_15 (by decide) ?_
      exact W.iret (v := 1) hx hb hr (fun t ht hW => ⟨⟨1, (u2, f), rfl, (by rw [hk]; exact ⟨rfl, rfl⟩), by rw [ht]; exact hP, hD⟩, hS.F ht⟩) hS.2.2 dL_date_16
  · skip
    obtain ⟨hP1, hD1⟩ := hB
    rw [ht] at hP1
    obtain ⟨hP, hD⟩ := va_join (wr := [(o, .inl (g.2.2, 1, .inr (.inl f)))]) (w1 := cw g h u2) hP hD [0, 1, 2, 3, 4, 5, 6, 7, 8, 9, 10, 11, 12, 13, 14, 15, 16, 17, 18, 19, 20, 21, 22, 23] [24] rfl rfl (by decide) (by decide) hk1 hFc hP1 hD1
    have hP := hP.sub (ws' := ow g h o u2 f) [1, 2, 3, 4, 5, 6, 7, 8, 9, 10, 11, 12, 13, 14, 15, 16, 17, 18, 19, 20, 21, 22, 23, 24, 0] rfl
    have hD := hD.sub (ws' := ow g h o u2 f) [1, 2, 3, 4, 5, 6, 7, 8, 9, 10, 11, 12, 13, 14, 15, 16, 17, 18, 19, 20, 21, 22, 23, 24, 0] (by decide) rfl
    refine W.widen (k := 1) (n := 6) (Nat.le_of_ble_eq_true rfl) (Nat.le_of_ble_eq_true rfl) ?_
    refine lv_i2l (v := r.toInt64) hx hb dL_date_8 rfl ?_
    refine va_last (f := f) hx hb hK hP hD hS 24 2 (ow_at24 _ _ _ _ _) rfl (vp_in_iff.mpr (by decide)) dL_date_9 (fun H locs hP hD hS => ?_)
    have hP : va_P (dC, dI) vwCl (ow g h o u2 (vp_updL f (0 : Int32).toNatClampNeg r.toInt64)) H := hP
    have hD : va_D A (ow g h o u2 (vp_updL f (0 : Int32).toNatClampNeg r.toInt64)) := hD
    refine lv_goto (tgt := 17) hx hb dL_date_10 (by decide) ?_
    refine lv_iconst (v := 0) hx hb dL_date_17 (by decide) ?_
    exact W.iret (v := 0) hx hb hr (fun t ht hW => ⟨⟨0, (u2, (vp_updL f (0 : Int32).toNatClampNeg r.toInt64)), rfl, (by rw [hw]; exact ⟨rfl, rfl⟩), by rw [ht]; exact hP, hD⟩, hS.F ht⟩) hS.2.2 dL_date_18