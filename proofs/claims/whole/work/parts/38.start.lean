theorem arr_int {args : Array Value} {s : State} (h : (Cond.arrayClass .int).before args s = true) : ∃ c : ClassId, ArrOfT s c .int ∧ va_RA s c .int := by
  obtain ⟨c, k, comp, h1, h2, h3⟩ := Cond.arrayClass_spec h
  exact ⟨c, fun n z => ⟨fun k h => (by cases h), k, h2, comp, h3⟩, h1⟩
theorem arr_bool {args : Array Value} {s : State} (h : (Cond.arrayClass .boolean).before args s = true) : ∃ c : ClassId, ArrOfT s c .boolean ∧ va_RA s c .boolean := by
  obtain ⟨c, k, comp, h1, h2, h3⟩ := Cond.arrayClass_spec h
  exact ⟨c, fun n z => ⟨fun k h => (by cases h), k, h2, comp, h3⟩, h1⟩
theorem arr_long {args : Array Value} {s : State} (h : (Cond.arrayClass .long).before args s = true) : ∃ c : ClassId, ArrOfT s c .long ∧ va_RA s c .long := by
  obtain ⟨c, k, comp, h1, h2, h3⟩ := Cond.arrayClass_spec h
  exact ⟨c, fun n z => ⟨fun k h => (by cases h), k, h2, comp, h3⟩, h1⟩
theorem zs_bad : ∀ w ∈ zz_bad, w ∈ lw_tbl ∧ w.onTables = true := by decide +kernel
theorem zs_txt : ∀ q ∈ zz_txt, Cond.stringRef q.1 q.2.1 q.2.2 ∈ lw_tbl := by decide +kernel
theorem zs_ex : ∀ q ∈ zz_txt, Cond.exactly (.string q.1 q.2.1) "java/lang/String" ∈ flatC (Jvm.Cond.and given_1 narrow_1) := by decide +kernel
theorem zs_nn : ∀ q ∈ nn_l, Cond.not (.castable q.1 q.2) ∈ flatC (Jvm.Cond.and given_1 narrow_1) := by decide +kernel
abbrev zs_T : Term := .static "LotRules$Calendar" "DAYS_BEFORE_MONTH" "[I"
theorem zs_tab : ∀ j : Nat, j < 13 → Cond.eq (.elem zs_T (.int (Int32.ofNat j))) (.int (c_tab j)) ∈ flatC (Jvm.Cond.and given_1 narrow_1) := by decide +kernel
/-- what the Statement gives at the start is what the throws, the table and the catches take -/
theorem zz_start {args : Array Value} {s : State} (hts : ∀ w ∈ lw_tbl, w.before args s = true) (hgv : (Jvm.Cond.and given_1 narrow_1).before args s = true) : zz (fun q => s.heap.size ≤ q) s s.heap ∧ nn s := by
  have hs := flat_of_before _ hgv
  refine ⟨⟨fun w hw => va_Nw.of (zs_bad w hw).2 (hts w (zs_bad w hw).1), fun q hq => ?_, ?_, ?_, ?_⟩, fun q hq => va_Nc.of (hs _ (zs_nn q hq))⟩
  · obtain ⟨a, c, cell, k, h1, -⟩ := Cond.exactly_spec (hs _ (zs_ex q hq))
    exact ⟨a, vk_R.of (hts _ (zs_txt q hq)) h1⟩
  · exact vx_Zqof (hts (.laysStatic Bundle.tN "UNASSIGNED_STACK" Bundle.steD) (by decide +kernel)) (hts (.initialized Bundle.tN) (by decide +kernel)) (hs (.isRef (.static Bundle.tN "UNASSIGNED_STACK" Bundle.steD)) (by decide +kernel)) (fun a h9 => Nat.not_le.mpr h9)
  · exact vx_Zqof (hts (.laysStatic Bundle.tN "SUPPRESSED_SENTINEL" Bundle.listD) (by decide +kernel)) (hts (.initialized Bundle.tN) (by decide +kernel)) (hs (.isRef (.static Bundle.tN "SUPPRESSED_SENTINEL" Bundle.listD)) (by decide +kernel)) (fun a h9 => Nat.not_le.mpr h9)
  · obtain ⟨t, ht, hT⟩ := va_Tof (f := fun j => .int (c_tab j)) (N := 13) (A := fun q => s.heap.size ≤ q) (by decide) (hs (.arrayOf zs_T .int) (by decide +kernel)) (va_eqt (hs (.eq (.length zs_T) (.int 13)) (by decide +kernel))) (fun j hj => va_eqt (hs _ (zs_tab j hj))) (fun a h9 => Nat.not_le.mpr h9)
    exact ⟨t, va_Zref (hts (.laysStatic "LotRules$Calendar" "DAYS_BEFORE_MONTH" "[I") (by decide +kernel)) (hts (.initialized "LotRules$Calendar") (by decide +kernel)) ht (fun a h9 => Nat.not_le.mpr h9), hT⟩
set_option maxHeartbeats 4000000 in
set_option maxRecDepth 100000 in
/-- THE LAW, from its entry, over a relation that its steps keep -/
theorem whole_open {p : Program} {e : Env} {s : State} {m : MethodId} {below : List Frame} {meth : Method} {c : Code} (l : Launch) (hl9 : l.stackTraces = false) (Rl : cS → mS → Prop) (hA0 : stp_all Rl) {b L : Nat} {xs : Nat → Int32} (hL : L ≤ 2560) (C0 : lw_At p s m meth c b L xs) : W p l e room_1 s m #[Value.ref b] below meth c s.heap [] 0 0 (lw_Z below #[Value.ref b] s) (entryFrame m ([Value.ref b] : List Value).toArray 7) := by
  obtain ⟨hx, hb, hr, hml, hown, hts, hX, hbl, hlocks, hgv⟩ := id C0
  obtain ⟨hZ, hN⟩ := zz_start hts hgv
  have X0 : lw_X p l s m meth c b L xs := ⟨C0, hl9, hZ, hN⟩
  have hA : ∀ q : Nat, s.heap.size ≤ q → (fun q : Nat => s.heap.size ≤ q) q := fun _ h => h
  have hbA : ¬ (fun q : Nat => s.heap.size ≤ q) b := Nat.not_le.mpr hbl
  obtain ⟨c0, iS0, hKn0⟩ := u_known (C := RX1) (T := TX1) (N := 9) (n := 9) hts (fun w h => ws_of ((List.mem_cons.mp (fi_X1 (.initialized RX1) w h)).elim (fun e => e ▸ wd_28) id)) (hts _ (ws_of wd_223))
  obtain ⟨c1, iS1, hKn1⟩ := u_known (C := RX2) (T := TX2) (N := 4) (n := 4) hts (fun w h => ws_of ((List.mem_cons.mp (fi_X2 (.initialized RX2) w h)).elim (fun e => e ▸ wd_105) id)) (hts _ (ws_of wd_233))
  obtain ⟨c2, iS2, hKn2⟩ := u_known (C := RX3) (T := TX3) (N := 7) (n := 7) hts (fun w h => ws_of ((List.mem_cons.mp (fi_X3 (.initialized RX3) w h)).elim (fun e => e ▸ wd_49) id)) (hts _ (ws_of wd_228))
  obtain ⟨c3, iS3, hKn3⟩ := u_known (C := RX4) (T := TX4) (N := 9) (n := 9) hts (fun w h => ws_of ((List.mem_cons.mp (fi_X4 (.initialized RX4) w h)).elim (fun e => e ▸ wd_92) id)) (hts _ (ws_of wd_578))
  obtain ⟨c4, iS4, hKn4⟩ := u_known (C := RX5) (T := TX5) (N := 26) (n := 26) hts (fun w h => ws_of ((List.mem_cons.mp (fi_X5 (.initialized RX5) w h)).elim (fun e => e ▸ wd_241) id)) (hts _ (ws_of wd_579))
  obtain ⟨dC, dI, hKc⟩ : ∃ (dC : Nat → ClassId) (dI : Nat → Nat → Nat), ∀ (k : Nat) (q : vw_C), vwCl[k]? = some q → u_Kn s q.1 q.2.1 q.2.2 (dC k) (dI k) := by
    refine ⟨fun k => match k with | 0 => c0 | 1 => c1 | 2 => c2 | 3 => c3 | _ => c4, fun k => match k with | 0 => iS0 | 1 => iS1 | 2 => iS2 | 3 => iS3 | _ => iS4, ?_⟩
    intro k q hq
    match k, hq with
    | 0, hq => cases hq; exact hKn0
    | 1, hq => cases hq; exact hKn1
    | 2, hq => cases hq; exact hKn2
    | 3, hq => cases hq; exact hKn3
    | 4, hq => cases hq; exact hKn4
    | k + 5, hq => simp [vwCl] at hq
  obtain ⟨gI_, hgI⟩ := arr_int (hts _ (ws_of wd_216))
  obtain ⟨gZ, hgZ⟩ := arr_bool (hts _ (ws_of wd_217))
  obtain ⟨gJ, hgJ⟩ := arr_long (hts _ (ws_of wd_218))
  obtain ⟨g, hg⟩ : ∃ g : cG, g = (gI_, gZ, gJ) := ⟨_, rfl⟩
  have hK : va_K (dC, dI) vwCl (cTys g) s := by
    subst hg
    refine ⟨hKc, fun k q h => ?_⟩
    match k, h with
    | 0, h => cases h; exact hgI
    | 1, h => cases h; exact hgZ
    | 2, h => cases h; exact hgJ
    | k + 3, h => simp [cTys] at h
  have hS : va_S (fun q : Nat => s.heap.size ≤ q) s.heap s.heap [] := va_S.rf
  have hP : va_P (dC, dI) vwCl [] s.heap := fun k q h => by simp at h
  have hD : va_D (fun q : Nat => s.heap.size ≤ q) [] := ⟨fun i j p q h => by simp at h, fun k q h => by simp at h⟩
  have hl := lv_entry ([.ref b]) (n := 7) (Nat.le_of_ble_eq_true rfl)
  rw [lg_entry_eq]
  generalize (lg_sl ([.ref b]) ++ List.replicate (7 - (lg_sl ([.ref b])).length) Slot.unset).toArray = ls at hl ⊢
  have hl : lv_has ls 7 [(0, .ref b)] := hl
  refine va_new (ci := 3) (fs := [.null, .null, .null, .null, .null, .null, .null, .int 0, .int 0]) (C := RX4) (T := TX4) (N := 9) hx hb hts (fun w h => ws_of ((List.mem_cons.mp (fi_X4 (.initialized RX4) w h)).elim (fun e => e ▸ wd_92) id)) tyX4 tyX4_ok hown (hts _ (ws_of wd_580)) (hts _ (ws_of wd_578)) (hts _ (ws_of wd_92)) hK hP hD hS hA rfl (fun j hj => by rcases (show j = 0 ∨ j = 1 ∨ j = 2 ∨ j = 3 ∨ j = 4 ∨ j = 5 ∨ j = 6 ∨ j = 7 ∨ j = 8 by omega) with rfl | rfl | rfl | rfl | rfl | rfl | rfl | rfl | rfl <;> rfl) (by show 0 + 1 ≤ 1082; omega) (by show 0 + 9 ≤ 17521; omega) dL_law_0 (fun qa H hP hD hS => ?_)
  refine W.widen (k := 1) (n := 9) (by omega) (by omega) ?_
  refine lv_dup hx hb dL_law_3 rfl ?_
  have hPc := hP.sub (ws' := [(qa, .inr (3, [.null, .null, .null, .null, .null, .null, .null, .int 0, .int 0]))]) [0] rfl
  have hDc := hD.sub (ws' := [(qa, .inr (3, [.null, .null, .null, .null, .null, .null, .null, .int 0, .int 0]))]) [0] (by decide) rfl
  have hFc := va_free (wc := [(qa, .inr (3, [.null, .null, .null, .null, .null, .null, .null, .int 0, .int 0]))]) hD hS hA [0] rfl
  refine va_callv (va_runI (As := []) (rest := [.ref qa]) ⟨hx, hb, hml, hown, hts⟩ (kX4_init l dC dI g qa H.size) (cwI 0 hts (lgI wcX4_init) rfl rfl rfl (hts _ (ws_of wd_92)) (hts _ (ws_of wd_582)) (hts _ (ws_of wd_583)) rfl (by decide +kernel) ⟨(Nat.le_of_ble_eq_true rfl), (Nat.le_of_ble_eq_true rfl)⟩) ⟨fun a U g mk q => by obtain ⟨q0, q1, qP, qK, qD⟩ := q; exact ⟨q0, q1, qP, va_K.moved (u := U) (U := U.calling g mk a) (Vm.Alike.refl U.vm) qK, qD⟩, fun U hU hW => ⟨rfl, by rw [hU], by rw [hU]; exact hPc, va_K.moved hW.alike hK, hDc.weaken (fun _ _ _ _ => trivial)⟩⟩ rfl rfl hl.1 rfl (lv_room (Nat.le_of_ble_eq_true rfl)) dL_law_4 ⟨by show 1 + 23 ≤ 1082; omega, by show 9 + 2185 ≤ 17521; omega⟩) hS (fun q _ h => hFc q h) hFc (fun h t H1 locs ht hvm hw hB hz1 hk1 hS => ?_)
  subst hw
  obtain ⟨hP1, hD1⟩ := hB
  rw [ht] at hP1
  obtain ⟨hP, hD⟩ := va_join (wr := []) (w1 := cw g h cs0) hP hD [0] [] rfl rfl (by decide) (by decide) hk1 hFc hP1 hD1
  generalize H1 = H at hP hS ⊢
  refine W.widen (k := 24) (n := 2194) (by omega) (by omega) ?_
  have hP := hP.sub (ws' := cw g h cs0) [0, 1, 2, 3, 4, 5, 6, 7, 8, 9, 10, 11, 12, 13, 14, 15, 16, 17, 18, 19, 20, 21, 22, 23] rfl
  have hD := hD.sub (ws' := cw g h cs0) [0, 1, 2, 3, 4, 5, 6, 7, 8, 9, 10, 11, 12, 13, 14, 15, 16, 17, 18, 19, 20, 21, 22, 23] (by decide) rfl
  refine lv_astore_n (lv' := [(1, .ref (h 0)), (0, .ref b)]) hx hb dL_law_7 rfl hl (by decide) rfl (fun ls hl => ?_)
  refine va_new (ci := 4) (fs := [.int 0, .int 0, .null, .null, .null, .null, .null, .null, .null, .null, .null, .null, .null, .null, .int 0, .null, .null, .null, .null, .null, .int 0, .null, .null, .null, .null, .null]) (C := RX5) (T := TX5) (N := 26) hx hb hts (fun w h => ws_of ((List.mem_cons.mp (fi_X5 (.initialized RX5) w h)).elim (fun e => e ▸ wd_241) id)) tyX5 tyX5_ok hown (hts _ (ws_of wd_584)) (hts _ (ws_of wd_579)) (hts _ (ws_of wd_241)) hK hP hD hS hA rfl (fun j hj => by rcases (show j = 0 ∨ j = 1 ∨ j = 2 ∨ j = 3 ∨ j = 4 ∨ j = 5 ∨ j = 6 ∨ j = 7 ∨ j = 8 ∨ j = 9 ∨ j = 10 ∨ j = 11 ∨ j = 12 ∨ j = 13 ∨ j = 14 ∨ j = 15 ∨ j = 16 ∨ j = 17 ∨ j = 18 ∨ j = 19 ∨ j = 20 ∨ j = 21 ∨ j = 22 ∨ j = 23 ∨ j = 24 ∨ j = 25 by omega) with rfl | rfl | rfl | rfl | rfl | rfl | rfl | rfl | rfl | rfl | rfl | rfl | rfl | rfl | rfl | rfl | rfl | rfl | rfl | rfl | rfl | rfl | rfl | rfl | rfl | rfl <;> rfl) (by show 24 + 1 ≤ 1082; omega) (by show 2194 + 26 ≤ 17521; omega) dL_law_8 (fun qb H hP hD hS => ?_)
  refine W.widen (k := 25) (n := 2220) (by omega) (by omega) ?_
  refine lv_dup hx hb dL_law_11 rfl ?_
  have hPc := hP.sub (ws' := [(qb, .inr (4, [.int 0, .int 0, .null, .null, .null, .null, .null, .null, .null, .null, .null, .null, .null, .null, .int 0, .null, .null, .null, .null, .null, .int 0, .null, .null, .null, .null, .null]))]) [24] rfl
  have hDc := hD.sub (ws' := [(qb, .inr (4, [.int 0, .int 0, .null, .null, .null, .null, .null, .null, .null, .null, .null, .null, .null, .null, .int 0, .null, .null, .null, .null, .null, .int 0, .null, .null, .null, .null, .null]))]) [24] (by decide) rfl
  have hFc := va_free (wc := [(qb, .inr (4, [.int 0, .int 0, .null, .null, .null, .null, .null, .null, .null, .null, .null, .null, .null, .null, .int 0, .null, .null, .null, .null, .null, .int 0, .null, .null, .null, .null, .null]))]) hD hS hA [24] rfl
  refine va_callv (va_runI (As := []) (rest := [.ref qb]) ⟨hx, hb, hml, hown, hts⟩ (kX5_init l dC dI g qb H.size) (cwI 0 hts (lgI wcX5_init) rfl rfl rfl (hts _ (ws_of wd_241)) (hts _ (ws_of wd_586)) (hts _ (ws_of wd_587)) rfl (by decide +kernel) ⟨(Nat.le_of_ble_eq_true rfl), (Nat.le_of_ble_eq_true rfl)⟩) ⟨fun a U g mk q => by obtain ⟨q0, q1, qP, qK, qD⟩ := q; exact ⟨q0, q1, qP, va_K.moved (u := U) (U := U.calling g mk a) (Vm.Alike.refl U.vm) qK, qD⟩, fun U hU hW => ⟨rfl, by rw [hU], by rw [hU]; exact hPc, va_K.moved hW.alike hK, hDc.weaken (fun _ _ _ _ => trivial)⟩⟩ rfl rfl hl.1 rfl (lv_room (Nat.le_of_ble_eq_true rfl)) dL_law_12 ⟨by show 25 + 22 ≤ 1082; omega, by show 2220 + 7048 ≤ 17521; omega⟩) hS (fun q _ h => hFc q h) hFc (fun h2 t H1 locs ht hvm hw hB hz1 hk1 hS => ?_)
  subst hw
  obtain ⟨hP1, hD1⟩ := hB
  rw [ht] at hP1
  obtain ⟨hP, hD⟩ := va_join (wr := cw g h cs0) (w1 := mw g h2 ms0) hP hD [24] [0, 1, 2, 3, 4, 5, 6, 7, 8, 9, 10, 11, 12, 13, 14, 15, 16, 17, 18, 19, 20, 21, 22, 23] rfl rfl (by decide) (by decide) hk1 hFc hP1 hD1
  generalize H1 = H at hP hS ⊢
  refine W.widen (k := 47) (n := 9268) (by omega) (by omega) ?_
  refine lv_astore_n (lv' := [(2, .ref (h2 0)), (1, .ref (h 0)), (0, .ref b)]) hx hb dL_law_15 rfl hl (by decide) rfl (fun ls hl => ?_)
  refine lv_iconst (v := 1) hx hb dL_law_16 (by decide) ?_
  refine va_newa (atype := .long) (N' := 1) (a0 := (1, .inr (.inl (fun _ => 0)))) (ty := .long) (n := 1) hx hb (hts _ (ws_of wd_218)) rfl hK hP hD hS hA (fun _ => rfl) (by decide) (by decide) (by decide) (by show 47 + 1 ≤ 1082; omega) (by show 9268 + 1 ≤ 17521; omega) dL_law_17 (fun o cA H hK2 hP hD hS => ?_)
  obtain rfl := arr_id hK2 2 3 rfl rfl
  have hP := hP.sub (ws' := LW g h h2 o cs0 ms0 (fun _ => 0)) [0, 1, 2, 3, 4, 5, 6, 7, 8, 9, 10, 11, 12, 13, 14, 15, 16, 17, 18, 19, 20, 21, 22, 23, 24, 25, 26, 27, 28, 29, 30, 31, 32, 33, 34, 35, 36, 37, 38, 39, 40, 41, 42, 43, 44, 45, 46, 47] rfl
  have hD := hD.sub (ws' := LW g h h2 o cs0 ms0 (fun _ => 0)) [0, 1, 2, 3, 4, 5, 6, 7, 8, 9, 10, 11, 12, 13, 14, 15, 16, 17, 18, 19, 20, 21, 22, 23, 24, 25, 26, 27, 28, 29, 30, 31, 32, 33, 34, 35, 36, 37, 38, 39, 40, 41, 42, 43, 44, 45, 46, 47] (by decide) rfl
  refine W.widen (k := 48 + 0) (n := 9269 + 6 * 0) (by omega) (by omega) ?_
  refine lv_astore_n (lv' := [(3, .ref o), (2, .ref (h2 0)), (1, .ref (h 0)), (0, .ref b)]) hx hb dL_law_19 rfl hl (by decide) rfl (fun ls hl => ?_)
  refine lv_iconst (v := 0) hx hb dL_law_20 (by decide) ?_
  refine lv_istore (lv' := [(4, .int 0), (3, .ref o), (2, .ref (h2 0)), (1, .ref (h 0)), (0, .ref b)]) hx hb dL_law_21 hl (by decide) rfl (fun ls hl => ?_)
  exact law_loop X0 Rl hA0 hL hK 513 0 0 (by decide) (by omega) (by omega) cs0 ms0 _ hA0.2.2.1 _ _ hP hD hS ls (lv_sub hl [4, 3, 2, 1, 0] rfl)