/-! split -/
theorem apo_eq (u : cS) (x1 : Int32) : (fX1_addPartOf u x1).2 = s_kin (s_quar (s_reas (fX1_add u (k_goods u x1.toNatClampNeg) (k_owners u x1.toNatClampNeg) (k_last u x1.toNatClampNeg) (k_arr u x1.toNatClampNeg)).2 (upd (k_reas u) (k_lmade u + 1).toNatClampNeg (k_reas u x1.toNatClampNeg))) (upd (k_quar u) (k_lmade u + 1).toNatClampNeg (vp_nar .boolean (k_quar u x1.toNatClampNeg)))) (vp_updL (k_kin u) x1.toNatClampNeg (k_kin u x1.toNatClampNeg ||| ((1 : Int64) <<< ((k_lmade u + 1).toInt64 &&& 63)))) := rfl
theorem apo_1 (u : cS) (x1 : Int32) : (fX1_addPartOf u x1).1 = k_lmade u + 1 := rfl
theorem mk_blk (v : mS) (x1 x2 x3 x4 f : Int32) : k_mblk (fX5_make v x1 x2 x3 x4 f).2 = k_mblk v := rfl
theorem mk_qui (v : mS) (x1 x2 x3 x4 f : Int32) : k_mquiet (fX5_make v x1 x2 x3 x4 f).2 = k_mquiet v := rfl
theorem mk_1 (v : mS) (x1 x2 x3 x4 f : Int32) : (fX5_make v x1 x2 x3 x4 f).1 = k_mlots v + 1 := rfl
theorem rel_split : stp_split Rel := by
  intro u v x1 h
  have e1 : k_rwrit u = k_mrows v := h.2.2.2.2.1.2.2.2.2.2
  have e2 : k_lmade u = k_mlots v := h.2.2.2.1.2.2.2.2.2.2
  unfold fX4_split fX5_split
  by_cases c1 : fX5_isLot v x1 = 0
  · rw [if_neg (fun q => (br_lot e2 _).mp q c1), if_pos c1]; exact ⟨rfl, fun q => nz q, rel_code h⟩
  rw [if_pos ((br_lot e2 _).mpr c1), if_neg c1]
  by_cases c3 : fX5_isOpen v x1 = 0
  · rw [if_neg (fun q => br_rs.mp q ((br_open h c1).trans c3)), if_pos c3]; exact ⟨rfl, fun q => nz q, rel_code h⟩
  rw [if_pos (br_rs.mpr (fun q => c3 ((br_open h c1).symm.trans q))), if_neg c3]
  by_cases c6 : k_mlots v = 40
  · rw [if_pos ((br_lroom e2 h.2.1.1).mpr c6), if_pos c6]; exact ⟨rfl, fun q => nz q, rel_code h⟩
  rw [if_neg (fun q => c6 ((br_lroom e2 h.2.1.1).mp q)), if_neg c6]
  by_cases c7 : k_mrows v ≤ 398
  rotate_left
  · rw [if_pos ((br_room2 e1 h.2.1.2.2.1).mpr c7), if_neg c7]; exact ⟨rfl, fun q => nz q, rel_code h⟩
  rw [if_neg (fun q => (br_room2 e1 h.2.1.2.2.1).mp q c7), if_pos c7]
  have hl := lots_lt h.2.1 c6
  have hr := row_lt2 c7
  have m1 := h.2.1.1
  have a := lot_ix c1
  have al := il_lo c1
  have ah := il_hi c1
  have hR := h.2.2.2.2.2.2.2.2.2.2
  have ho := h.2.2.2.2.2.1
  have hK := h.2.2.2.2.2.2.2.1
  have g21 : k_goods u = k_mgood v := h.2.2.2.1.1
  have g22 : k_owners u = k_mowner v := h.2.2.2.1.2.1
  have g23 : k_last u = k_muntil v := h.2.2.2.1.2.2.1
  have g24 : k_arr u = k_marr v := h.2.2.2.1.2.2.2.1
  have g25 : k_reas u = k_mblk v := h.2.2.2.1.2.2.2.2.1
  have g26 : k_quar u = k_mquiet v := h.2.2.2.1.2.2.2.2.2.1
  rw [e2] at hR ho hK
  have hi : k_minto v ((k_mlots v).toInt.toNat + 1) = 0 := ho.2 _ (by omega)
  have e4 := i_inc (x := k_mlots v) (by omega)
  have e5 : (k_mlots v + 1).toNatClampNeg = (k_mlots v).toInt.toNat + 1 := nx_ix (x := k_mlots v) m1.1 (by omega)
  have hq2 := hR.2.1 x1.toNatClampNeg
  rw [g26] at hq2
  have k := rel_make (rel_code (x := 0) h) (x1 := k_goods u x1.toNatClampNeg) (x2 := k_owners u x1.toNatClampNeg) (x3 := k_last u x1.toNatClampNeg) (x4 := k_arr u x1.toNatClampNeg) (f := x1) (rs := upd (k_reas u) (k_mlots v + 1).toNatClampNeg (k_reas u x1.toNatClampNeg)) (qs := upd (k_quar u) (k_mlots v + 1).toNatClampNeg (vp_nar .boolean (k_quar u x1.toNatClampNeg))) (kin := vp_updL (k_kin u) x1.toInt.toNat (k_kin u x1.toInt.toNat ||| ((1 : Int64) <<< ((k_mlots v + 1).toInt64 &&& 63)))) hl (h.1.2.2.2.1 _) (hR.2.2.1 _) (hR.2.2.2.1 _) ⟨by omega, ah⟩ (upd_rg (P := fun x => 0 ≤ x.toInt ∧ x.toInt < 1024) hR.1 (hR.1 _)) (upd_rg (P := fun x => x = 0 ∨ x = 1) hR.2.1 (by rw [nar_01 (hR.2.1 _)]; exact hR.2.1 _)) (fun j hj => by
    have hj2 : (k_mlots v).toInt + 1 < (j : Int) := hj
    have := hR.2.2.2.2.2 j (by omega)
    rw [pk_un (by omega), pk_un (by omega)]; exact this) (rk_make hK m1.1 hl al hi)
  have hd : ¬ k_mlots v + 1 = x1 := fun q => by
    have := congrArg Int32.toInt q
    omega
  rw [apo_eq, apo_1, e2, mk_1, mk_blk, mk_qui]
  refine ⟨rfl, fun _ => rfl, ?_⟩
  rw [g21, g22, g23, g24, g25, g26] at k ⊢
  exact rel_row2 k hr hd
/-! units -/
theorem rel_setU {u : cS} {v : mS} (h : Rel u v) {nu ng : Int32} {ul ub uc ud uf wa : Nat → Int32} (hn : 0 ≤ nu.toInt ∧ nu.toInt ≤ 120) (hul : ∀ j : Nat, 0 ≤ (ul j).toInt ∧ (ul j).toInt ≤ 40) (huf : ∀ j : Nat, 0 ≤ (uf j).toInt ∧ (uf j).toInt ≤ 40) (hw : RW wa uf ul (k_mfrom v) (k_minto v) (k_mlots v) nu) (hg : RG ng uc nu) : Rel (s_ugone (s_ufirst (s_uday (s_ucust (s_ubin (s_ulot (s_umade u nu) ul) ub) uc) ud) uf) ng) (s_mwas (s_mwhen (s_mcust (s_mbin (s_mlotOf (s_munits v nu) ul) ub) uc) ud) wa) := by
  obtain ⟨⟨c1, c2, c3, c4, c5, c6⟩, ⟨m1, m2, m3, m4, m5, m6, m7⟩, g1, g2, ⟨g31, g32, g33, g34, g35, g36⟩, ho, hh, hK, hW, hG, hR⟩ := h
  have e2 : k_lmade u = k_mlots v := g2.2.2.2.2.2.2
  exact ⟨⟨c1, hn, c3, c4, hul, huf⟩, ⟨m1, hn, m3, m4, hul, m6, m7⟩, g1, g2, ⟨rfl, rfl, rfl, rfl, rfl, g36⟩, ho, hh, hK, by show RW wa uf ul (k_mfrom v) (k_minto v) (k_lmade u) nu; rw [e2]; exact hw, hg, hR⟩
theorem cng_hi {uc : Nat → Int32} {k : Nat} {x : Int32} : ∀ m : Nat, m < k → cng (upd uc k x) m = cng uc m := by
  intro m
  induction m with
  | zero => intro _; rfl
  | succ m ih =>
    intro hm
    unfold cng
    rw [ih (by omega), pk_un (by omega)]
theorem cng_add {uc : Nat → Int32} {k : Nat} {x : Int32} (h1 : 1 ≤ k) (h2 : uc k = -1) (h3 : ¬ x = -1) : ∀ m : Nat, k ≤ m → cng (upd uc k x) m = cng uc m + 1 := by
  intro m
  induction m with
  | zero => intro hm; omega
  | succ m ih =>
    intro hm
    unfold cng
    by_cases hk : k = m + 1
    · subst hk
      rw [cng_hi m (by omega), pk_us, if_neg h3, h2, if_pos rfl]
    · rw [ih (by omega), pk_un (fun q => hk q.symm)]
      omega
theorem cng_le (uc : Nat → Int32) : ∀ m : Nat, cng uc m ≤ m := by
  intro m
  induction m with
  | zero => exact Nat.le_refl _
  | succ m ih =>
    unfold cng
    by_cases h : uc (m + 1) = -1
    · rw [if_pos h]; omega
    · rw [if_neg h]; omega
theorem nI_s {n : Nat} (h : n < 2147483647) : nI (n + 1) = nI n + 1 := by
  have e := nI_toInt (n := n) (by omega)
  have e1 := i_inc (x := nI n) (by omega)
  exact Int32.toInt_inj.mp (by rw [nI_toInt (by omega), e1, e]; rfl)
theorem rw_unit {was ufirst ulot frm into : Nat → Int32} {nl nu x : Int32} (h : RW was ufirst ulot frm into nl nu) (h0 : 0 ≤ nl.toInt ∧ nl.toInt ≤ 40) (h1 : 0 ≤ nu.toInt ∧ nu.toInt < 120) (hx : 1 ≤ x.toInt ∧ x.toInt ≤ nl.toInt) : RW (upd was (41 * (nu.toInt.toNat + 1) + x.toInt.toNat) 1) (upd ufirst (nu.toInt.toNat + 1) x) (upd ulot (nu.toInt.toNat + 1) x) frm into nl (nu + 1) := by
  have e := i_inc (x := nu) (by omega)
  obtain ⟨a1, a2, a3, a4⟩ := h
  refine ⟨fun t t1 t2 => ?_, fun t k t1 t2 k1 k2 hw => ?_, fun t k t1 t2 k1 k2 => ?_, fun t k t1 k1 => ?_⟩
  · by_cases ht : t = nu.toInt.toNat + 1
    · subst ht
      rw [pk_us, pk_us, pk_us]
      exact ⟨hx, hx, by decide, by decide⟩
    · obtain ⟨b1, b2, b3, b4⟩ := a1 t t1 (by omega)
      rw [pk_un ht, pk_un ht, pk_un (by omega), pk_un (by omega)]
      exact ⟨b1, b2, b3, b4⟩
  · by_cases ht : t = nu.toInt.toNat + 1
    · subst ht
      rw [pk_us]
      by_cases hk : k = x.toInt.toNat
      · rw [← hk]; exact rch_rf _
      · rw [pk_un (by omega)] at hw
        exact absurd (a4 _ k (by omega) (by omega)) hw
    · rw [pk_un (by omega)] at hw
      rw [pk_un ht]
      exact a2 t k t1 (by omega) k1 k2 hw
  · rw [pk_un (by omega)]
    by_cases ht : t = nu.toInt.toNat + 1
    · exact a4 t k (by omega) k1
    · exact a3 t k t1 (by omega) k1 k2
  · rw [pk_un (by omega)]
    exact a4 t k (by omega) k1
theorem was_ix {x y : Int32} (hx : 0 ≤ x.toInt ∧ x.toInt ≤ 120) (hy : 0 ≤ y.toInt ∧ y.toInt ≤ 40) : (41 * x + y).toNatClampNeg = 41 * x.toInt.toNat + y.toInt.toNat := by
  have e1 : (41 * x).toInt = 41 * x.toInt := by
    rw [Int32.toInt_mul, show (41 : Int32).toInt = 41 from by decide]
    exact Int.bmod_eq_of_le (by omega) (by omega)
  have e2 := i_add (x := 41 * x) (y := y) (by omega) (by omega)
  show (41 * x + y).toInt.toNat = _
  omega
theorem units_lt {v : mS} (h : mInv v) (c : ¬ k_munits v = 120) : (k_munits v).toInt < 120 := by
  have h1 := i_ne c rfl (by decide : (120 : Int32).toInt = 120)
  have := h.2.1
  omega
theorem add_eq (u : cS) (x1 : Int32) : (fX3_add u x1).2 = s_ugone (s_ufirst (s_uday (s_ucust (s_ubin (s_ulot (s_umade u (k_umade u + 1)) (upd (k_ulot u) (k_umade u + 1).toNatClampNeg x1)) (upd (k_ubin u) (k_umade u + 1).toNatClampNeg (-1))) (upd (k_ucust u) (k_umade u + 1).toNatClampNeg (-1))) (upd (k_uday u) (k_umade u + 1).toNatClampNeg (-1))) (upd (k_ufirst u) (k_umade u + 1).toNatClampNeg x1)) (k_ugone u) := rfl
theorem add_1 (u : cS) (x1 : Int32) : (fX3_add u x1).1 = k_umade u + 1 := rfl
theorem row_un (v : mS) (a b c : Int32) : k_munits (fX5_row v a b c) = k_munits v := rfl
theorem set_un (v : mS) (n : Int32) (a b c d e : Nat → Int32) : k_munits (s_mwas (s_mwhen (s_mcust (s_mbin (s_mlotOf (s_munits v n) a) b) c) d) e) = n := rfl
theorem rel_unit : stp_unit Rel := by
  intro u v x1 h
  have e1 : k_rwrit u = k_mrows v := h.2.2.2.2.1.2.2.2.2.2
  have e2 : k_lmade u = k_mlots v := h.2.2.2.1.2.2.2.2.2.2
  have g31 : k_ulot u = k_mlotOf v := h.2.2.2.2.1.1
  have g32 : k_ubin u = k_mbin v := h.2.2.2.2.1.2.1
  have g33 : k_ucust u = k_mcust v := h.2.2.2.2.1.2.2.1
  have g34 : k_uday u = k_mwhen v := h.2.2.2.2.1.2.2.2.1
  have g35 : k_umade u = k_munits v := h.2.2.2.2.1.2.2.2.2.1
  unfold fX4_unit fX5_unit
  by_cases c1 : fX5_isLot v x1 = 0
  · rw [if_neg (fun q => (br_lot e2 _).mp q c1), if_pos c1]; exact ⟨rfl, fun q => nz q, rel_code h⟩
  rw [if_pos ((br_lot e2 _).mpr c1), if_neg c1]
  by_cases c3 : fX5_isOpen v x1 = 0
  · rw [if_neg (fun q => br_rs.mp q ((br_open h c1).trans c3)), if_pos c3]; exact ⟨rfl, fun q => nz q, rel_code h⟩
  rw [if_pos (br_rs.mpr (fun q => c3 ((br_open h c1).symm.trans q))), if_neg c3]
  by_cases c6 : k_munits v = 120
  · rw [if_pos ((br_uroom g35 h.2.1.2.1).mpr c6), if_pos c6]; exact ⟨rfl, fun q => nz q, rel_code h⟩
  rw [if_neg (fun q => c6 ((br_uroom g35 h.2.1.2.1).mp q)), if_neg c6]
  by_cases c7 : k_mrows v = 400
  · rw [if_pos ((br_room1 e1 h.2.1.2.2.1).mpr c7), if_pos c7]; exact ⟨rfl, fun q => nz q, rel_code h⟩
  rw [if_neg (fun q => c7 ((br_room1 e1 h.2.1.2.2.1).mp q)), if_neg c7]
  have hu := units_lt h.2.1 c6
  have m1 := h.2.1.1
  have m2 := h.2.1.2.1
  have al := il_lo c1
  have ah := il_hi c1
  have hW := h.2.2.2.2.2.2.2.2.1
  have hG := h.2.2.2.2.2.2.2.2.2.1
  have e4 := i_inc (x := k_munits v) (by omega)
  have e5 : (k_munits v + 1).toNatClampNeg = (k_munits v).toInt.toNat + 1 := nx_ix (x := k_munits v) m2.1 (by omega)
  have e6 := was_ix (x := k_munits v + 1) (y := x1) (by omega) (by omega)
  have e7 : (k_munits v + 1).toInt.toNat = (k_munits v).toInt.toNat + 1 := e5
  rw [e7] at e6
  rw [e2, g35] at hW
  rw [g35] at hG
  have hg : RG (k_ugone u) (upd (k_ucust u) (k_munits v + 1).toNatClampNeg (-1)) (k_munits v + 1) := by
    unfold RG at hG ⊢
    rw [e5, e7]
    unfold cng
    rw [cng_hi _ (by omega), pk_us, if_pos rfl]
    exact hG
  have hw := rw_unit hW m1 ⟨m2.1, hu⟩ ⟨al, ah⟩
  rw [← e6, ← e5] at hw
  have k := rel_setU (rel_code (x := 0) h) (nu := k_munits v + 1) (ng := k_ugone u) (ul := upd (k_ulot u) (k_munits v + 1).toNatClampNeg x1) (ub := upd (k_ubin u) (k_munits v + 1).toNatClampNeg (-1)) (uc := upd (k_ucust u) (k_munits v + 1).toNatClampNeg (-1)) (ud := upd (k_uday u) (k_munits v + 1).toNatClampNeg (-1)) (uf := upd (k_ufirst u) (k_munits v + 1).toNatClampNeg x1) (wa := upd (k_mwas v) (41 * (k_munits v + 1) + x1).toNatClampNeg 1) (by omega) (upd_rg (P := fun x => 0 ≤ x.toInt ∧ x.toInt ≤ 40) h.1.2.2.2.2.1 (by omega)) (upd_rg (P := fun x => 0 ≤ x.toInt ∧ x.toInt ≤ 40) h.1.2.2.2.2.2 (by omega)) hw hg
  rw [add_eq, add_1, nar_01 (Or.inr rfl), g35, row_un, set_un]
  refine ⟨rfl, fun _ => rfl, ?_⟩
  rw [g31, g32, g33, g34] at k ⊢
  have hr := row_lt h.2.1 c7
  exact rel_row k (by exact hr) x1 10 (k_munits v + 1)
theorem unit_ix {v : mS} {x : Int32} (c : ¬ fX5_isUnit v x = 0) : 1 ≤ x.toNatClampNeg ∧ (x.toNatClampNeg : Int) ≤ (k_munits v).toInt ∧ (x.toNatClampNeg : Int) = x.toInt := by
  have a := iu_lo c
  have b := iu_hi c
  have e := nat_ix (x := x) (by omega)
  omega
theorem is_lot {v : mS} {x : Int32} (h1 : 1 ≤ x.toInt) (h2 : x.toInt ≤ (k_mlots v).toInt) : ¬ fX5_isLot v x = 0 := by
  unfold fX5_isLot fX5_in
  have n1 : (1 : Int32).toInt = 1 := by decide
  rw [if_neg (fun q => by have := i_lt q rfl rfl; omega), if_neg (fun q => by have := i_lt q rfl rfl; omega)]
  decide
/-- a unit's lot is a lot -/
theorem unit_lot {u : cS} {v : mS} (h : Rel u v) {x : Int32} (c : ¬ fX5_isUnit v x = 0) : ¬ fX5_isLot v (k_mlotOf v x.toNatClampNeg) = 0 := by
  have e2 : k_lmade u = k_mlots v := h.2.2.2.1.2.2.2.2.2.2
  have g31 : k_ulot u = k_mlotOf v := h.2.2.2.2.1.1
  have g35 : k_umade u = k_munits v := h.2.2.2.2.1.2.2.2.2.1
  have hW := h.2.2.2.2.2.2.2.2.1.1 x.toNatClampNeg (unit_ix c).1 (by rw [g35]; exact (unit_ix c).2.1)
  rw [g31, e2] at hW
  exact is_lot hW.2.1.1 hW.2.1.2
theorem send_eq (u : cS) (x1 x2 x3 : Int32) : fX3_send u x1 x2 x3 = s_ugone (s_ufirst (s_uday (s_ucust (s_ubin (s_ulot (s_umade u (k_umade u)) (k_ulot u)) (upd (k_ubin u) x1.toNatClampNeg (-1))) (upd (k_ucust u) x1.toNatClampNeg x2)) (upd (k_uday u) x1.toNatClampNeg x3)) (k_ufirst u)) (k_ugone u + 1) := rfl
theorem msend_eq (v : mS) (x1 x2 x3 : Int32) : s_mwhen (s_mcust (s_mbin (s_mcode v 0) (upd (k_mbin v) x1.toNatClampNeg (-1))) (upd (k_mcust v) x1.toNatClampNeg x2)) (upd (k_mwhen v) x1.toNatClampNeg x3) = s_mwas (s_mwhen (s_mcust (s_mbin (s_mlotOf (s_munits (s_mcode v 0) (k_munits v)) (k_mlotOf v)) (upd (k_mbin v) x1.toNatClampNeg (-1))) (upd (k_mcust v) x1.toNatClampNeg x2)) (upd (k_mwhen v) x1.toNatClampNeg x3)) (k_mwas v) := rfl
theorem gone_01 {u : cS} {v : mS} (h : Rel u v) (x : Int32) : fX3_isGone u x = fX5_isGone v x := by
  have g33 : k_ucust u = k_mcust v := h.2.2.2.2.1.2.2.1
  unfold fX3_isGone fX5_isGone
  rw [g33]
theorem gone_0 {v : mS} {x : Int32} (h : fX5_isGone v x = 0) : k_mcust v x.toNatClampNeg = -1 := by
  unfold fX5_isGone at h
  by_cases q : k_mcust v x.toNatClampNeg = -1
  · exact q
  · rw [if_neg q] at h; exact absurd h (by decide)
theorem rel_ship : stp_ship Rel := by
  intro u v x1 x2 x3 h
  have e1 : k_rwrit u = k_mrows v := h.2.2.2.2.1.2.2.2.2.2
  have e2 : k_lmade u = k_mlots v := h.2.2.2.1.2.2.2.2.2.2
  have g31 : k_ulot u = k_mlotOf v := h.2.2.2.2.1.1
  have g32 : k_ubin u = k_mbin v := h.2.2.2.2.1.2.1
  have g33 : k_ucust u = k_mcust v := h.2.2.2.2.1.2.2.1
  have g34 : k_uday u = k_mwhen v := h.2.2.2.2.1.2.2.2.1
  have g35 : k_umade u = k_munits v := h.2.2.2.2.1.2.2.2.2.1
  unfold fX4_ship fX5_ship
  by_cases c1 : fX5_isUnit v x1 = 0
  · rw [if_neg (fun q => (br_unit g35 _).mp q c1), if_pos c1]; exact ⟨rfl, rel_code h⟩
  rw [if_pos ((br_unit g35 _).mpr c1), if_neg c1]
  by_cases c2 : fX5_in x2 0 7 = 0
  · rw [if_neg (fun q => (br_in _ _ _).mp q c2), if_pos c2]; exact ⟨rfl, rel_code h⟩
  rw [if_pos ((br_in _ _ _).mpr c2), if_neg c2]
  by_cases c3 : fX5_in x3 0 36524 = 0
  · rw [if_neg (fun q => (br_in _ _ _).mp q c3), if_pos c3]; exact ⟨rfl, rel_code h⟩
  rw [if_pos ((br_in _ _ _).mpr c3), if_neg c3]
  rw [gone_01 h]
  by_cases c4 : fX5_isGone (s_mcode v 0) x1 = 0
  rotate_left
  · rw [if_neg (show ¬ fX5_isGone v x1 = 0 from c4), if_neg c4]; exact ⟨rfl, rel_code h⟩
  rw [if_pos (show fX5_isGone v x1 = 0 from c4), if_pos c4, g31, br_go h (unit_lot h c1)]
  by_cases c5 : fX5_isAllowed (s_mcode v 0) (k_mlotOf v x1.toNatClampNeg) x2 x3 = 0
  · rw [if_pos (show fX5_isAllowed v (k_mlotOf v x1.toNatClampNeg) x2 x3 = 0 from c5), if_pos c5]; exact ⟨rfl, rel_code h⟩
  rw [if_neg (show ¬ fX5_isAllowed v (k_mlotOf v x1.toNatClampNeg) x2 x3 = 0 from c5), if_neg c5]
  by_cases c7 : k_mrows v = 400
  · rw [if_neg (fun q => br_rq.mp q ((br_room1 e1 h.2.1.2.2.1).mpr c7)), if_pos c7]; exact ⟨rfl, rel_code h⟩
  rw [if_pos (br_rq.mpr (fun q => c7 ((br_room1 e1 h.2.1.2.2.1).mp q))), if_neg c7]
  have hW := h.2.2.2.2.2.2.2.2.1
  have hG := h.2.2.2.2.2.2.2.2.2.1
  have ui := unit_ix c1
  have m2 := h.2.1.2.1
  have r2 := in_rg c2 (by decide : (0 : Int32).toInt = 0) (by decide : (7 : Int32).toInt = 7)
  rw [e2, g35] at hW
  rw [g35, g33] at hG
  have hg : RG (k_ugone u + 1) (upd (k_mcust v) x1.toNatClampNeg x2) (k_munits v) := by
    unfold RG at hG ⊢
    have := cng_le (k_mcust v) (k_munits v).toInt.toNat
    rw [cng_add ui.1 (gone_0 (v := v) c4) (fun q => by rw [q, show (-1 : Int32).toInt = -1 from by decide] at r2; omega) _ (by omega), nI_s (by omega), ← hG]
  have k := rel_setU (rel_code (x := 0) h) (nu := k_munits v) (ng := k_ugone u + 1) (ul := k_ulot u) (ub := upd (k_ubin u) x1.toNatClampNeg (-1)) (uc := upd (k_mcust v) x1.toNatClampNeg x2) (ud := upd (k_uday u) x1.toNatClampNeg x3) (uf := k_ufirst u) (wa := k_mwas v) m2 h.1.2.2.2.2.1 h.1.2.2.2.2.2 hW hg
  rw [send_eq, msend_eq, g33, g35]
  refine ⟨rfl, ?_⟩
  rw [g31, g32, g34] at k ⊢
  have hr := row_lt h.2.1 c7
  exact rel_row k (by exact hr) _ 11 x1
