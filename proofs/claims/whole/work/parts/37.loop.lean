def stp_lot (Rl : cS → mS → Prop) : Prop := ∀ (u : cS) (v : mS) (x1 : Int32) (x2 : Int32) (x3 : Int32) (x4 : Int32), Rl u v → k_mcode (fX5_lot v x1 x2 x3 x4).2 = wk [2, 4] (fX4_lot u x1 x2 x3 x4).1 ∧ ((fX4_lot u x1 x2 x3 x4).1 = 0 → (fX4_lot u x1 x2 x3 x4).2.1 = (fX5_lot v x1 x2 x3 x4).1) ∧ Rl (fX4_lot u x1 x2 x3 x4).2.2 (fX5_lot v x1 x2 x3 x4).2
def stp_rule (Rl : cS → mS → Prop) : Prop := ∀ (u : cS) (v : mS) (x1 : Int32) (x2 : Int32) (x3 : Int32), Rl u v → k_mcode (fX5_rule v x1 x2 x3) = wk [2] (fX4_rule u x1 x2 x3).1 ∧ Rl (fX4_rule u x1 x2 x3).2.2 (fX5_rule v x1 x2 x3)
def stp_wants (Rl : cS → mS → Prop) : Prop := ∀ (u : cS) (v : mS) (x1 : Int32) (x2 : Int32), Rl u v → k_mcode (fX5_wants v x1 x2) = wk [2] (fX4_wants u x1 x2).1 ∧ Rl (fX4_wants u x1 x2).2.2 (fX5_wants v x1 x2)
def stp_right (Rl : cS → mS → Prop) : Prop := ∀ (u : cS) (v : mS) (x1 : Int32) (x2 : Int32) (x3 : Int32), Rl u v → (x3 = 0 ∨ x3 = 1) → k_mcode (fX5_right v x1 x2 x3) = wk [2] (fX4_right u x1 x2 x3).1 ∧ Rl (fX4_right u x1 x2 x3).2.2 (fX5_right v x1 x2 x3)
def stp_block (Rl : cS → mS → Prop) : Prop := ∀ (u : cS) (v : mS) (x1 : Int32) (x2 : Int32), Rl u v → k_mcode (fX5_block v x1 x2).2 = wk [1, 2, 3, 4] (fX4_block u x1 x2).1 ∧ ((fX4_block u x1 x2).1 = 0 → (fX4_block u x1 x2).2.1 = (fX5_block v x1 x2).1) ∧ Rl (fX4_block u x1 x2).2.2 (fX5_block v x1 x2).2
def stp_release (Rl : cS → mS → Prop) : Prop := ∀ (u : cS) (v : mS) (x1 : Int32) (x2 : Int32), Rl u v → k_mcode (fX5_release v x1 x2).2 = wk [1, 2, 3, 4] (fX4_release u x1 x2).1 ∧ ((fX4_release u x1 x2).1 = 0 → (fX4_release u x1 x2).2.1 = (fX5_release v x1 x2).1) ∧ Rl (fX4_release u x1 x2).2.2 (fX5_release v x1 x2).2
def stp_quarantine (Rl : cS → mS → Prop) : Prop := ∀ (u : cS) (v : mS) (x1 : Int32) (x2 : Int32), Rl u v → (x2 = 0 ∨ x2 = 1) → k_mcode (fX5_quarantine v x1 x2) = wk [1, 3, 4] (fX4_quarantine u x1 x2).1 ∧ Rl (fX4_quarantine u x1 x2).2.2 (fX5_quarantine v x1 x2)
def stp_order (Rl : cS → mS → Prop) : Prop := ∀ (u : cS) (v : mS) (x1 : Int32) (x2 : Int32) (x3 : Int32), Rl u v → k_mcode (fX5_order v x1 x2 x3).2 = wk [2] (fX4_order u x1 x2 x3).1 ∧ ((fX4_order u x1 x2 x3).1 = 0 → (fX4_order u x1 x2 x3).2.1 = (fX5_order v x1 x2 x3).1) ∧ Rl (fX4_order u x1 x2 x3).2.2 (fX5_order v x1 x2 x3).2
def stp_allowed (Rl : cS → mS → Prop) : Prop := ∀ (u : cS) (v : mS) (x1 : Int32) (x2 : Int32) (x3 : Int32), Rl u v → k_mcode (fX5_allowed v x1 x2 x3).2 = wk [1, 2] (fX4_allowed u x1 x2 x3).1 ∧ ((fX4_allowed u x1 x2 x3).1 = 0 → (fX4_allowed u x1 x2 x3).2.1 = (fX5_allowed v x1 x2 x3).1) ∧ Rl (fX4_allowed u x1 x2 x3).2.2 (fX5_allowed v x1 x2 x3).2
def stp_split (Rl : cS → mS → Prop) : Prop := ∀ (u : cS) (v : mS) (x1 : Int32), Rl u v → k_mcode (fX5_split v x1).2 = wk [1, 3, 4] (fX4_split u x1).1 ∧ ((fX4_split u x1).1 = 0 → (fX4_split u x1).2.1 = (fX5_split v x1).1) ∧ Rl (fX4_split u x1).2.2 (fX5_split v x1).2
def stp_join (Rl : cS → mS → Prop) : Prop := ∀ (u : cS) (v : mS) (x1 : Int32) (x2 : Int32), Rl u v → k_mcode (fX5_join v x1 x2) = wk [1, 3, 4] (fX4_join u x1 x2).1 ∧ Rl (fX4_join u x1 x2).2.2 (fX5_join v x1 x2)
def stp_unit (Rl : cS → mS → Prop) : Prop := ∀ (u : cS) (v : mS) (x1 : Int32), Rl u v → k_mcode (fX5_unit v x1).2 = wk [1, 3, 4] (fX4_unit u x1).1 ∧ ((fX4_unit u x1).1 = 0 → (fX4_unit u x1).2.1 = (fX5_unit v x1).1) ∧ Rl (fX4_unit u x1).2.2 (fX5_unit v x1).2
def stp_put (Rl : cS → mS → Prop) : Prop := ∀ (u : cS) (v : mS) (x1 : Int32) (x2 : Int32), Rl u v → k_mcode (fX5_put v x1 x2) = wk [1, 2, 3] (fX4_put u x1 x2).1 ∧ Rl (fX4_put u x1 x2).2.2 (fX5_put v x1 x2)
def stp_mixed (Rl : cS → mS → Prop) : Prop := ∀ (u : cS) (v : mS) (x1 : Int32), Rl u v → k_mcode (fX5_mixed v x1).2 = wk [2] (fX4_mixed u x1).1 ∧ ((fX4_mixed u x1).1 = 0 → (fX4_mixed u x1).2.1 = (fX5_mixed v x1).1) ∧ Rl (fX4_mixed u x1).2.2 (fX5_mixed v x1).2
def stp_ship (Rl : cS → mS → Prop) : Prop := ∀ (u : cS) (v : mS) (x1 : Int32) (x2 : Int32) (x3 : Int32), Rl u v → k_mcode (fX5_ship v x1 x2 x3) = wk [1, 2, 3, 4] (fX4_ship u x1 x2 x3).1 ∧ Rl (fX4_ship u x1 x2 x3).2.2 (fX5_ship v x1 x2 x3)
def stp_recall (Rl : cS → mS → Prop) : Prop := ∀ (u : cS) (v : mS) (x1 : Int32) (x2 : Int32), Rl u v → k_mcode (fX5_recall v x1 x2).2 = wk [1, 2] (fX4_recall u x1 x2).1 ∧ ((fX4_recall u x1 x2).1 = 0 → (fX4_recall u x1 x2).2.1 = (fX5_recall v x1 x2).1) ∧ Rl (fX4_recall u x1 x2).2.2 (fX5_recall v x1 x2).2
def stp_where (Rl : cS → mS → Prop) : Prop := ∀ (u : cS) (v : mS) (x1 : Int32) (x2 : Int32), Rl u v → k_mcode (fX5_where v x1 x2).2 = wk [1, 2] (fX4_where u x1 x2).1 ∧ ((fX4_where u x1 x2).1 = 0 → (fX4_where u x1 x2).2.1 = (fX5_where v x1 x2).1) ∧ Rl (fX4_where u x1 x2).2.2 (fX5_where v x1 x2).2
def stp_history (Rl : cS → mS → Prop) : Prop := ∀ (u : cS) (v : mS) (x1 : Int32) (x2 : Int32) (x3 : Int32), Rl u v → k_mcode (fX5_history v x1 x2 x3).2 = wk [1, 2] (fX4_history u x1 x2 x3).1 ∧ ((fX4_history u x1 x2 x3).1 = 0 → (fX4_history u x1 x2 x3).2.1 = (fX5_history v x1 x2 x3).1) ∧ Rl (fX4_history u x1 x2 x3).2.2 (fX5_history v x1 x2 x3).2
def stp_told (Rl : cS → mS → Prop) : Prop := ∀ (u : cS) (v : mS) (x1 : Int32) (x2 : Int32), Rl u v → k_mcode (fX5_told v x1 x2).2 = wk [1, 2] (fX4_told u x1 x2).1 ∧ ((fX4_told u x1 x2).1 = 0 → (fX4_told u x1 x2).2.1 = (fX5_told v x1 x2).1) ∧ Rl (fX4_told u x1 x2).2.2 (fX5_told v x1 x2).2
def stp_day (Rl : cS → mS → Prop) : Prop := ∀ (u : cS) (v : mS) (x1 : Int32) (x2 : Int32), Rl u v → k_mcode (fX5_day v x1 x2).2 = wk [2] (fX4_day u x1 x2).1 ∧ ((fX4_day u x1 x2).1 = 0 → (fX4_day u x1 x2).2.1 = (fX5_day v x1 x2).1) ∧ Rl (fX4_day u x1 x2).2.2 (fX5_day v x1 x2).2
def stp_date (Rl : cS → mS → Prop) : Prop := ∀ (u : cS) (v : mS) (x1 : Int32) (x2 : Int32), Rl u v → k_mcode (fX5_date v x1 x2).2 = wk [2] (fX4_date u x1 x2).1 ∧ ((fX4_date u x1 x2).1 = 0 → (fX4_date u x1 x2).2.1 = (fX5_date v x1 x2).1) ∧ Rl (fX4_date u x1 x2).2.2 (fX5_date v x1 x2).2
def stp_count (Rl : cS → mS → Prop) : Prop := ∀ (u : cS) (v : mS) (x1 : Int32), Rl u v → fX4_count u x1 = (fX5_count v x1).1 ∧ Rl u (fX5_count v x1).2
/-- all that the law needs of a relation between the two states -/
def stp_all (Rl : cS → mS → Prop) : Prop := (∀ (u : cS) (v : mS), Rl u v → cInv u) ∧ (∀ (u : cS) (v : mS), Rl u v → mInv v) ∧ Rl cs0 ms0 ∧ stp_lot Rl ∧ stp_rule Rl ∧ stp_wants Rl ∧ stp_right Rl ∧ stp_block Rl ∧ stp_release Rl ∧ stp_quarantine Rl ∧ stp_order Rl ∧ stp_allowed Rl ∧ stp_split Rl ∧ stp_join Rl ∧ stp_unit Rl ∧ stp_put Rl ∧ stp_mixed Rl ∧ stp_ship Rl ∧ stp_recall Rl ∧ stp_where Rl ∧ stp_history Rl ∧ stp_told Rl ∧ stp_day Rl ∧ stp_date Rl ∧ stp_count Rl
set_option maxHeartbeats 4000000 in
set_option maxRecDepth 100000 in
theorem law_loop {p : Program} {l : Launch} {e : Env} {s : State} {m : MethodId} {below : List Frame} {meth : Method} {c : Code} {b L : Nat} {xs : Nat → Int32} {dC : Nat → ClassId} {dI : Nat → Nat → Nat} {g : cG} {h h2 : Nat → Nat} {o : Nat} (X0 : lw_X p l s m meth c b L xs) (Rl : cS → mS → Prop) (hA0 : stp_all Rl) (hL : L ≤ 2560) (hK : va_K (dC, dI) vwCl (cTys g) s) : ∀ (n j : Nat) (x4 : Int32), x4.toInt = 5 * (j : Int) → 513 ≤ j + n → j ≤ 512 → ∀ (u : cS) (v : mS) (f : Nat → Int64), Rl u v → ∀ (H : Heap) (locs : List Loc), va_P (dC, dI) vwCl (LW g h h2 o u v f) H → va_D (fun q : Nat => s.heap.size ≤ q) (LW g h h2 o u v f) → va_S (fun q : Nat => s.heap.size ≤ q) s.heap H locs → ∀ (ls : Array Slot), lv_has ls 7 [(0, .ref b), (1, .ref (h 0)), (2, .ref (h2 0)), (3, .ref o), (4, .int x4)] → W p l e room_1 s m #[Value.ref b] below meth c H locs (48 + j) (9269 + 6 * j) (lw_Z below #[Value.ref b] s) (F0 m 23 ls []) := by
  obtain ⟨⟨hx, hb, hr, hml, hown, hts, hX, hbl, hlocks, hgv⟩, hl9, hZ, hN⟩ := id X0
  have hbA : ¬ (fun q : Nat => s.heap.size ≤ q) b := Nat.not_le.mpr hbl
  obtain ⟨hRc, hRm, -, s_lot, s_rule, s_wants, s_right, s_block, s_release, s_quarantine, s_order, s_allowed, s_split, s_join, s_unit, s_put, s_mixed, s_ship, s_recall, s_where, s_history, s_told, s_day, s_date, s_count⟩ := hA0
  intro n
  induction n with
  | zero => intro j x4 _ h1 h2; exact absurd h1 (by omega)
  | succ n ih =>
    intro j x4 hx4 hn hj u v f hR H locs hP hD hS ls hl
    refine lv_iload hx hb dL_law_23 (lv_at hl 4 rfl) ?_
    refine lv_aload_n hx hb dL_law_25 rfl (lv_at hl 0 rfl) ?_
    refine va_slen hx hb hX hbl hbA hS dL_law_26 ?_
    refine lv_iconst (v := 5) hx hb dL_law_27 (by decide) ?_
    refine lv_isub hx hb dL_law_28 ?_
    have n5 : (5 : Int32).toInt = 5 := by decide
    have eL : (Int32.ofNat L).toInt = (L : Int) := nI_toInt (by omega)
    have e5 := i_sub (x := Int32.ofNat L) (y := 5) (by omega) (by omega)
    refine lv_icmp_gt (tgt := 1558) hx hb dL_law_29 (by decide) (fun c_1 => ?_) (fun c_1 => ?_)
    · skip
      refine lv_iconst (v := 1) hx hb dL_law_1558 (by decide) ?_
      refine va_forget (fun q hq => hS.2.2 q hq) ?_
      refine W.widen (k := 1082) (n := 17521) (by omega) (by omega) ?_
      exact lw_ret hx hb hr hlocks dL_law_1559
    have t_1 := i_nlt c_1 rfl rfl
    have hj5 : 5 * j + 5 ≤ L := by omega
    have K : ∀ (u : cS) (v : mS) (f : Nat → Int64) (H : Heap) (locs : List Loc) (ls : Array Slot), Rl u v → va_P (dC, dI) vwCl (LW g h h2 o u v f) H → va_D (fun q : Nat => s.heap.size ≤ q) (LW g h h2 o u v f) → va_S (fun q : Nat => s.heap.size ≤ q) s.heap H locs → lv_has ls 7 [(0, .ref b), (1, .ref (h 0)), (2, .ref (h2 0)), (3, .ref o), (4, .int x4)] → W p l e room_1 s m #[Value.ref b] below meth c H locs (48 + (j + 1)) (9269 + 6 * (j + 1)) (lw_Z below #[Value.ref b] s) (F0 m 1552 ls []) := by
      intro u v f H locs ls hR hP hD hS hl
      refine lv_iinc (v := x4 + 5) (lv' := [(4, .int (x4 + 5)), (0, .ref b), (1, .ref (h 0)), (2, .ref (h2 0)), (3, .ref o)]) hx hb dL_law_1552 hl (k := 4) rfl rfl (by decide) rfl (fun ls hl => ?_)
      refine lv_goto (tgt := 23) hx hb dL_law_1555 (by decide) ?_
      have e9 := i_add (x := x4) (y := 5) (by omega) (by omega)
      exact ih (j + 1) (x4 + 5) (by omega) (by omega) (by omega) u v f hR H locs hP hD hS ls (lv_sub hl [1, 2, 3, 4, 0] rfl)
    refine lv_aload_n hx hb dL_law_32 rfl (lv_at hl 0 rfl) ?_
    refine lv_iload hx hb dL_law_33 (lv_at hl 4 rfl) ?_
    refine va_sld hx hb hX hbl hbA hS (vp_in_iff.mpr (by omega)) dL_law_35 ?_
    refine lv_bipush (v := 31) hx hb dL_law_36 (by decide) ?_
    refine lv_iand hx hb dL_law_38 ?_
    obtain ⟨kk, hk32, hkk⟩ := pk_andE (xs x4.toNatClampNeg) (m := 31) 5 (by decide)
    rw [hkk]
    by_cases q0 : kk = 0
    · subst q0
      refine lv_tableIn (tgt := 140) hx hb dL_law_39 (by decide) (by decide) rfl (by decide) ?_
      exact lc_lot X0 Rl hRc hRm s_lot hL hK j x4 hx4 hj5 u v f hR H locs hP hD hS ls hl K
    by_cases q1 : kk = 1
    · subst q1
      refine lv_tableIn (tgt := 232) hx hb dL_law_39 (by decide) (by decide) rfl (by decide) ?_
      exact lc_rule X0 Rl hRc hRm s_rule hL hK j x4 hx4 hj5 u v f hR H locs hP hD hS ls hl K
    by_cases q2 : kk = 2
    · subst q2
      refine lv_tableIn (tgt := 292) hx hb dL_law_39 (by decide) (by decide) rfl (by decide) ?_
      exact lc_wants X0 Rl hRc hRm s_wants hL hK j x4 hx4 hj5 u v f hR H locs hP hD hS ls hl K
    by_cases q3 : kk = 3
    · subst q3
      refine lv_tableIn (tgt := 340) hx hb dL_law_39 (by decide) (by decide) rfl (by decide) ?_
      exact lc_right X0 Rl hRc hRm s_right hL hK j x4 hx4 hj5 u v f hR H locs hP hD hS ls hl K
    by_cases q4 : kk = 4
    · subst q4
      refine lv_tableIn (tgt := 416) hx hb dL_law_39 (by decide) (by decide) rfl (by decide) ?_
      exact lc_block X0 Rl hRc hRm s_block hL hK j x4 hx4 hj5 u v f hR H locs hP hD hS ls hl K
    by_cases q5 : kk = 5
    · subst q5
      refine lv_tableIn (tgt := 484) hx hb dL_law_39 (by decide) (by decide) rfl (by decide) ?_
      exact lc_release X0 Rl hRc hRm s_release hL hK j x4 hx4 hj5 u v f hR H locs hP hD hS ls hl K
    by_cases q6 : kk = 6
    · subst q6
      refine lv_tableIn (tgt := 552) hx hb dL_law_39 (by decide) (by decide) rfl (by decide) ?_
      exact lc_quarantine X0 Rl hRc hRm s_quarantine hL hK j x4 hx4 hj5 u v f hR H locs hP hD hS ls hl K
    by_cases q7 : kk = 7
    · subst q7
      refine lv_tableIn (tgt := 616) hx hb dL_law_39 (by decide) (by decide) rfl (by decide) ?_
      exact lc_order X0 Rl hRc hRm s_order hL hK j x4 hx4 hj5 u v f hR H locs hP hD hS ls hl K
    by_cases q8 : kk = 8
    · subst q8
      refine lv_tableIn (tgt := 696) hx hb dL_law_39 (by decide) (by decide) rfl (by decide) ?_
      exact lc_allowed X0 Rl hRc hRm s_allowed hL hK j x4 hx4 hj5 u v f hR H locs hP hD hS ls hl K
    by_cases q9 : kk = 9
    · subst q9
      refine lv_tableIn (tgt := 783) hx hb dL_law_39 (by decide) (by decide) rfl (by decide) ?_
      exact lc_split X0 Rl hRc hRm s_split hL hK j x4 hx4 hj5 u v f hR H locs hP hD hS ls hl K
    by_cases q10 : kk = 10
    · subst q10
      refine lv_tableIn (tgt := 839) hx hb dL_law_39 (by decide) (by decide) rfl (by decide) ?_
      exact lc_join X0 Rl hRc hRm s_join hL hK j x4 hx4 hj5 u v f hR H locs hP hD hS ls hl K
    by_cases q11 : kk = 11
    · subst q11
      refine lv_tableIn (tgt := 887) hx hb dL_law_39 (by decide) (by decide) rfl (by decide) ?_
      exact lc_unit X0 Rl hRc hRm s_unit hL hK j x4 hx4 hj5 u v f hR H locs hP hD hS ls hl K
    by_cases q12 : kk = 12
    · subst q12
      refine lv_tableIn (tgt := 943) hx hb dL_law_39 (by decide) (by decide) rfl (by decide) ?_
      exact lc_put X0 Rl hRc hRm s_put hL hK j x4 hx4 hj5 u v f hR H locs hP hD hS ls hl K
    by_cases q13 : kk = 13
    · subst q13
      refine lv_tableIn (tgt := 991) hx hb dL_law_39 (by decide) (by decide) rfl (by decide) ?_
      exact lc_mixed X0 Rl hRc hRm s_mixed hL hK j x4 hx4 hj5 u v f hR H locs hP hD hS ls hl K
    by_cases q14 : kk = 14
    · subst q14
      refine lv_tableIn (tgt := 1047) hx hb dL_law_39 (by decide) (by decide) rfl (by decide) ?_
      exact lc_ship X0 Rl hRc hRm s_ship hL hK j x4 hx4 hj5 u v f hR H locs hP hD hS ls hl K
    by_cases q15 : kk = 15
    · subst q15
      refine lv_tableIn (tgt := 1107) hx hb dL_law_39 (by decide) (by decide) rfl (by decide) ?_
      exact lc_recall X0 Rl hRc hRm s_recall hL hK j x4 hx4 hj5 u v f hR H locs hP hD hS ls hl K
    by_cases q16 : kk = 16
    · subst q16
      refine lv_tableIn (tgt := 1175) hx hb dL_law_39 (by decide) (by decide) rfl (by decide) ?_
      exact lc_where X0 Rl hRc hRm s_where hL hK j x4 hx4 hj5 u v f hR H locs hP hD hS ls hl K
    by_cases q17 : kk = 17
    · subst q17
      refine lv_tableIn (tgt := 1243) hx hb dL_law_39 (by decide) (by decide) rfl (by decide) ?_
      exact lc_history X0 Rl hRc hRm s_history hL hK j x4 hx4 hj5 u v f hR H locs hP hD hS ls hl K
    by_cases q18 : kk = 18
    · subst q18
      refine lv_tableIn (tgt := 1323) hx hb dL_law_39 (by decide) (by decide) rfl (by decide) ?_
      exact lc_told X0 Rl hRc hRm s_told hL hK j x4 hx4 hj5 u v f hR H locs hP hD hS ls hl K
    by_cases q19 : kk = 19
    · subst q19
      refine lv_tableIn (tgt := 1391) hx hb dL_law_39 (by decide) (by decide) rfl (by decide) ?_
      exact lc_day X0 Rl hRc hRm s_day hL hK j x4 hx4 hj5 u v f hR H locs hP hD hS ls hl K
    by_cases q20 : kk = 20
    · subst q20
      refine lv_tableIn (tgt := 1459) hx hb dL_law_39 (by decide) (by decide) rfl (by decide) ?_
      exact lc_date X0 Rl hRc hRm s_date hL hK j x4 hx4 hj5 u v f hR H locs hP hD hS ls hl K
    by_cases q21 : kk = 21
    · subst q21
      refine lv_tableIn (tgt := 1527) hx hb dL_law_39 (by decide) (by decide) rfl (by decide) ?_
      exact lc_count X0 Rl hRc hRm s_count hL hK j x4 hx4 hj5 u v f hR H locs hP hD hS ls hl K
    refine lv_tableOut (tgt := 1552) hx hb dL_law_39 (Or.inr (by rw [nI_toInt (by omega)]; omega)) (by decide) ?_
    refine W.widen (k := 48 + (j + 1)) (n := 9269 + 6 * (j + 1)) (by omega) (by omega) ?_
    exact K u v f H locs ls hR hP hD hS hl