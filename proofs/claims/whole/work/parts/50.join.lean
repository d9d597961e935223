/-! join -/
theorem rel_setI {u : cS} {v : mS} (h : Rel u v) {op into : Nat → Int32} {kin : Nat → Int64} (hi : ∀ j : Nat, 0 ≤ (into j).toInt ∧ (into j).toInt ≤ 40) (ho : RO op into (k_mlots v)) (hk : RK kin (k_mfrom v) into (k_mlots v)) (hw : RW (k_mwas v) (k_ufirst u) (k_ulot u) (k_mfrom v) into (k_mlots v) (k_umade u)) (hR : RR (k_reas u) (k_quar u) (k_last u) (k_arr u) (k_mfrom v) into (k_mlots v)) : Rel (s_kin (s_open u op) kin) (s_minto v into) := by
  have e2 : k_lmade u = k_mlots v := h.2.2.2.1.2.2.2.2.2.2
  rw [← e2] at ho hk hw hR
  obtain ⟨c, ⟨m1, m2, m3, m4, m5, m6, m7⟩, g1, g2, g3, _, hh, _, _, hG, _⟩ := h
  exact ⟨c, ⟨m1, m2, m3, m4, m5, m6, hi⟩, g1, g2, g3, ho, hh, hk, hw, hG, hR⟩
theorem edg_close {frm into : Nat → Int32} {nl x1 : Int32} {b2 : Nat} (hb : 1 ≤ b2 ∧ (b2 : Int) ≤ nl.toInt) (h1 : 1 ≤ x1.toInt) (h0 : into b2 = 0) (a b : Nat) (ha : a ≤ 40) : edg frm (upd into b2 x1) nl a b ↔ edg frm into nl a b ∨ (a = x1.toInt.toNat ∧ b = b2) := by
  unfold edg
  by_cases hq : b = b2
  · subst hq
    rw [pk_us, h0]
    constructor
    · rintro ⟨q1, q2, q3 | q3⟩
      · exact Or.inl ⟨q1, q2, Or.inl q3⟩
      · exact Or.inr ⟨by rw [q3, nI_toInt (by omega)]; rfl, rfl⟩
    · rintro (⟨q1, q2, q3 | q3⟩ | ⟨q1, _⟩)
      · exact ⟨q1, q2, Or.inl q3⟩
      · have := congrArg Int32.toInt q3
        rw [nI_toInt (by omega), show (0 : Int32).toInt = 0 from by decide] at this
        omega
      · exact ⟨hb, by omega, Or.inr (by rw [q1, nI_fr (by omega)])⟩
  · rw [pk_un hq]
    constructor
    · exact Or.inl
    · rintro (q | ⟨_, q⟩)
      · exact q
      · exact absurd q hq
theorem rch_mono2 {frm into frm2 into2 : Nat → Int32} {nl nl2 : Int32} (hn : nl.toInt ≤ 40) (hm : ∀ p q, p ≤ 40 → edg frm into nl p q → edg frm2 into2 nl2 p q) {x y : Nat} (hx : x ≤ 40) (h : rch frm into nl x y) : rch frm2 into2 nl2 x y := fun S hS hc =>
  (h (fun q => S q ∧ q ≤ 40) ⟨hS, hx⟩ (fun p q hp he => ⟨hc p q hp.1 (hm p q hp.2 he), by have := he.1.2; omega⟩)).1
theorem rw_mono {was ufirst ulot frm into into2 : Nat → Int32} {nl nu : Int32} (h : RW was ufirst ulot frm into nl nu) (hn : nl.toInt ≤ 40) (hm : ∀ p q, p ≤ 40 → edg frm into nl p q → edg frm into2 nl p q) : RW was ufirst ulot frm into2 nl nu :=
  ⟨h.1, fun t k t1 t2 k1 k2 hw => rch_mono2 hn hm (by omega) (h.2.1 t k t1 t2 k1 k2 hw), h.2.2⟩
theorem open_0 {v : mS} {x : Int32} (h : ¬ fX5_isOpen v x = 0) : k_minto v x.toNatClampNeg = 0 := by
  unfold fX5_isOpen at h
  by_cases q : k_minto v x.toNatClampNeg = 0
  · exact q
  · rw [if_neg q] at h; exact absurd rfl h
theorem rel_close {u : cS} {v : mS} (h : Rel u v) {x1 x2 : Int32} (c1 : ¬ fX5_isLot v x1 = 0) (c2 : ¬ fX5_isLot v x2 = 0) (c3 : ¬ fX5_isOpen v x2 = 0) : Rel (fX1_closeInto u x1 x2) (s_minto v (upd (k_minto v) x2.toNatClampNeg x1)) := by
  have e2 : k_lmade u = k_mlots v := h.2.2.2.1.2.2.2.2.2.2
  have m1 := h.2.1.1
  have m7 := h.2.1.2.2.2.2.2.2
  have a1 := lot_ix c1
  have a2 := lot_ix c2
  have b1 := il_lo c1
  have b2 := il_hi c1
  have o2 := open_0 c3
  obtain ⟨r1, r2, r3, r4, r5, r6⟩ := h.2.2.2.2.2.2.2.2.2.2
  have ho := h.2.2.2.2.2.1
  have hK := h.2.2.2.2.2.2.2.1
  have hW := h.2.2.2.2.2.2.2.2.1
  rw [e2] at ho hK hW r5 r6
  have hE := edg_close (frm := k_mfrom v) (into := k_minto v) (nl := k_mlots v) (x1 := x1) (b2 := x2.toNatClampNeg) ⟨a2.1, a2.2.1⟩ b1 o2
  have n0 : (0 : Int32).toInt = 0 := by decide
  refine rel_setI h (upd_rg (P := fun x => 0 ≤ x.toInt ∧ x.toInt ≤ 40) m7 (by omega)) ?_ ?_ ?_ ?_
  · refine ⟨fun j j1 j2 => ?_, fun j hj => ?_⟩
    · by_cases hj : j = x2.toNatClampNeg
      · rw [hj, pk_us, pk_us, if_neg (fun q => by rw [q] at b1; omega)]; decide
      · rw [pk_un hj, pk_un hj]; exact ho.1 j j1 j2
    · rw [pk_un (by omega)]; exact ho.2 j hj
  · intro a b ha1 ha2 hb
    rw [hE a b ha2]
    unfold vp_updL
    have ex : x2.toInt.toNat = x2.toNatClampNeg := rfl
    have ex1 : x1.toInt.toNat = x1.toNatClampNeg := rfl
    by_cases hq : a = x1.toNatClampNeg
    · rw [if_pos hq, bit_or (by omega) (by omega) b hb, ← hq, hK a b ha1 ha2 hb, ex, ex1, ← hq]
      constructor
      · rintro (q | q)
        · exact Or.inl q
        · exact Or.inr ⟨rfl, q⟩
      · rintro (q | ⟨_, q⟩)
        · exact Or.inl q
        · exact Or.inr q
    · rw [if_neg hq, hK a b ha1 ha2 hb, ex1]
      constructor
      · exact Or.inl
      · rintro (q | ⟨q, _⟩)
        · exact q
        · exact absurd q hq
  · exact rw_mono hW m1.2 (fun p q hp hpq => (hE p q hp).mpr (Or.inl hpq))
  · refine ⟨r1, r2, r3, r4, fun j j1 j2 => ?_, r6⟩
    by_cases hj : j = x2.toNatClampNeg
    · rw [hj, pk_us]
      exact ⟨(r5 _ a2.1 a2.2.1).1, b2⟩
    · rw [pk_un hj]; exact r5 j j1 j2

/-- one unit more is in x1, out of x2, whose lot was joined into x1 -/
theorem rw_move {was ufirst ulot frm into : Nat → Int32} {nl nu x1 x2 : Int32} {j : Nat} (h : RW was ufirst ulot frm into nl nu) (h0 : nl.toInt ≤ 40) (hj : 1 ≤ j ∧ (j : Int) ≤ nu.toInt) (hx : 1 ≤ x1.toInt ∧ x1.toInt ≤ nl.toInt) (hl : ulot j = x2) (he : edg frm into nl x1.toInt.toNat x2.toInt.toNat) : RW (upd was (41 * j + x1.toInt.toNat) 1) ufirst (upd ulot j x1) frm into nl nu := by
  obtain ⟨a1, a2, a3, a4⟩ := h
  refine ⟨fun t t1 t2 => ?_, fun t k t1 t2 k1 k2 hw => ?_, fun t k t1 t2 k1 k2 => ?_, fun t k t1 k1 => ?_⟩
  · obtain ⟨b1, b2, b3, b4⟩ := a1 t t1 t2
    by_cases ht : t = j
    · subst ht
      rw [pk_us, pk_us]
      refine ⟨b1, hx, ?_, by decide⟩
      by_cases hf : (ufirst t).toInt.toNat = x1.toInt.toNat
      · rw [hf, pk_us]; decide
      · rw [pk_un (by omega)]; exact b3
    · rw [pk_un ht, pk_un (by omega), pk_un (by omega)]
      exact ⟨b1, b2, b3, b4⟩
  · by_cases ht : t = j ∧ k = x1.toInt.toNat
    · obtain ⟨rfl, rfl⟩ := ht
      obtain ⟨b1, b2, b3, b4⟩ := a1 t t1 t2
      rw [hl] at b2 b4
      exact rch_tr (rch_1 he) (a2 t x2.toInt.toNat t1 t2 (by omega) (by omega) b4)
    · rw [pk_un (by omega)] at hw
      exact a2 t k t1 t2 k1 k2 hw
  · rw [pk_un (by omega)]; exact a3 t k t1 t2 k1 k2
  · rw [pk_un (by omega)]; exact a4 t k t1 k1
theorem mv_eq (u : cS) (f : Nat → Int32) : s_ulot u f = s_ugone (s_ufirst (s_uday (s_ucust (s_ubin (s_ulot (s_umade u (k_umade u)) f) (k_ubin u)) (k_ucust u)) (k_uday u)) (k_ufirst u)) (k_ugone u) := rfl
theorem mmv_eq (v : mS) (f w : Nat → Int32) : s_mwas (s_mlotOf v f) w = s_mwas (s_mwhen (s_mcust (s_mbin (s_mlotOf (s_munits v (k_munits v)) f) (k_mbin v)) (k_mcust v)) (k_mwhen v)) w := rfl
theorem rel_move {u : cS} {v : mS} (h : Rel u v) {x1 x2 i : Int32} (c1 : ¬ fX5_isLot v x1 = 0) (ci : ¬ fX5_isUnit v i = 0) (hl : k_mlotOf v i.toNatClampNeg = x2) (he : edg (k_mfrom v) (k_minto v) (k_mlots v) x1.toInt.toNat x2.toInt.toNat) : Rel (s_ulot u (upd (k_ulot u) i.toNatClampNeg x1)) (s_mwas (s_mlotOf v (upd (k_mlotOf v) i.toNatClampNeg x1)) (upd (k_mwas v) ((41 * i) + x1).toNatClampNeg (vp_nar .boolean 1))) := by
  have e2 : k_lmade u = k_mlots v := h.2.2.2.1.2.2.2.2.2.2
  have g31 : k_ulot u = k_mlotOf v := h.2.2.2.2.1.1
  have g32 : k_ubin u = k_mbin v := h.2.2.2.2.1.2.1
  have g33 : k_ucust u = k_mcust v := h.2.2.2.2.1.2.2.1
  have g34 : k_uday u = k_mwhen v := h.2.2.2.2.1.2.2.2.1
  have g35 : k_umade u = k_munits v := h.2.2.2.2.1.2.2.2.2.1
  have hW := h.2.2.2.2.2.2.2.2.1
  have hG := h.2.2.2.2.2.2.2.2.2.1
  have m1 := h.2.1.1
  have m2 := h.2.1.2.1
  have a1 := il_lo c1
  have a2 := il_hi c1
  have ui := unit_ix ci
  rw [e2, g35, g31] at hW
  rw [g35, g33] at hG
  have hw := rw_move hW m1.2 ⟨ui.1, ui.2.1⟩ ⟨a1, a2⟩ hl he
  have e6 := was_ix (x := i) (y := x1) (by omega) (by omega)
  have e7 : i.toInt.toNat = i.toNatClampNeg := rfl
  rw [e7] at e6
  rw [← e6] at hw
  have k := rel_setU h (nu := k_munits v) (ng := k_ugone u) (ul := upd (k_mlotOf v) i.toNatClampNeg x1) (ub := k_mbin v) (uc := k_mcust v) (ud := k_mwhen v) (uf := k_ufirst u) (wa := upd (k_mwas v) (41 * i + x1).toNatClampNeg 1) m2 (upd_rg (P := fun x => 0 ≤ x.toInt ∧ x.toInt ≤ 40) (by rw [← g31]; exact h.1.2.2.2.2.1) (by omega)) h.1.2.2.2.2.2 hw hG
  rw [mv_eq, mmv_eq, nar_01 (Or.inr rfl), g31, g32, g33, g34, g35]
  exact k
theorem join_lp {x1 x2 : Int32} : ∀ (n : Nat) (i : Int32) (u : cS) (v : mS), Rel u v → ¬ fX5_isLot v x1 = 0 → edg (k_mfrom v) (k_minto v) (k_mlots v) x1.toInt.toNat x2.toInt.toNat → 1 ≤ i.toInt → i.toInt ≤ (k_munits v).toInt + 1 → (k_munits v).toInt + 1 < i.toInt + n → ∃ w : mS, lpX5_join x1 x2 n i v = fX5_row (fX5_row w x1 4 x2) x2 5 x1 ∧ Rel (lpX3_moveAll x2 x1 n i u) w ∧ k_mrows w = k_mrows v ∧ k_mcode w = k_mcode v := by
  intro n
  induction n with
  | zero => intro i u v h c1 he hi hi2 hn; omega
  | succ n ih =>
    intro i u v h c1 he hi hi2 hn
    have g31 : k_ulot u = k_mlotOf v := h.2.2.2.2.1.1
    have g35 : k_umade u = k_munits v := h.2.2.2.2.1.2.2.2.2.1
    have m2 := h.2.1.2.1
    rw [lpX5_join_eq, lpX3_moveAll_eq, g35]
    by_cases d1 : k_munits v < i
    · rw [if_pos d1, if_pos d1]; exact ⟨v, rfl, h, rfl, rfl⟩
    rw [if_neg d1, if_neg d1]
    have d1' := i_nlt d1 rfl rfl
    have e := i_inc (x := i) (by omega)
    by_cases d2 : k_mlotOf v i.toNatClampNeg = x2
    · rw [if_pos d2, if_pos (show k_ulot u i.toNatClampNeg = x2 by rw [g31]; exact d2)]
      have k := rel_move h c1 (is_unit hi d1') d2 he
      exact ih (i + 1) _ _ k c1 he (by omega) (by show _ ≤ (k_munits v).toInt + 1; omega) (by show (k_munits v).toInt + 1 < _; omega)
    · rw [if_neg d2, if_neg (show ¬ k_ulot u i.toNatClampNeg = x2 by rw [g31]; exact d2)]
      exact ih (i + 1) u v h c1 he (by omega) (by omega) (by omega)
theorem row_rows (v : mS) (a b c : Int32) : k_mrows (fX5_row v a b c) = k_mrows v + 1 := rfl
theorem row_code (v : mS) (a b c : Int32) : k_mcode (fX5_row v a b c) = k_mcode v := rfl
theorem rel_join : stp_join Rel := by
  intro u v x1 x2 h
  have e1 : k_rwrit u = k_mrows v := h.2.2.2.2.1.2.2.2.2.2
  have e2 : k_lmade u = k_mlots v := h.2.2.2.1.2.2.2.2.2.2
  have g21 : k_goods u = k_mgood v := h.2.2.2.1.1
  have g22 : k_owners u = k_mowner v := h.2.2.2.1.2.1
  have g23 : k_last u = k_muntil v := h.2.2.2.1.2.2.1
  have g25 : k_reas u = k_mblk v := h.2.2.2.1.2.2.2.2.1
  have g26 : k_quar u = k_mquiet v := h.2.2.2.1.2.2.2.2.2.1
  unfold fX4_join fX5_join
  by_cases c1 : fX5_isLot v x1 = 0
  · rw [if_neg (fun q => (br_lot e2 _).mp q c1), if_pos c1]; exact ⟨rfl, rel_code h⟩
  rw [if_pos ((br_lot e2 _).mpr c1), if_neg c1]
  by_cases c2 : fX5_isLot v x2 = 0
  · rw [if_neg (fun q => (br_lot e2 _).mp q c2), if_pos c2]; exact ⟨rfl, rel_code h⟩
  rw [if_pos ((br_lot e2 _).mpr c2), if_neg c2, br_open h c1, br_open h c2]
  by_cases d : x1 = x2
  · rw [if_pos d, if_pos d, ite_self, ite_self]; exact ⟨rfl, rel_code h⟩
  rw [if_neg d, if_neg d]
  by_cases c3 : fX5_isOpen v x1 = 0
  · rw [if_pos c3, if_pos (show fX5_isOpen (s_mcode v 0) x1 = 0 from c3)]; exact ⟨rfl, rel_code h⟩
  rw [if_neg c3, if_neg (show ¬ fX5_isOpen (s_mcode v 0) x1 = 0 from c3)]
  by_cases c4 : fX5_isOpen v x2 = 0
  · rw [if_pos c4, if_pos (show fX5_isOpen (s_mcode v 0) x2 = 0 from c4)]; exact ⟨rfl, rel_code h⟩
  rw [if_neg c4, if_neg (show ¬ fX5_isOpen (s_mcode v 0) x2 = 0 from c4)]
  unfold fX1_areAlike
  rw [g21, g22, g23, g25, g26]
  by_cases c5 : k_mgood v x1.toNatClampNeg = k_mgood v x2.toNatClampNeg
  rotate_left
  · rw [if_neg c5, if_neg c5, if_pos (rfl : (0 : Int32) = 0)]; exact ⟨rfl, rel_code h⟩
  rw [if_pos c5, if_pos c5]
  by_cases c6 : k_mowner v x1.toNatClampNeg = k_mowner v x2.toNatClampNeg
  rotate_left
  · rw [if_neg c6, if_neg c6, if_pos (rfl : (0 : Int32) = 0)]; exact ⟨rfl, rel_code h⟩
  rw [if_pos c6, if_pos c6]
  by_cases c7 : k_muntil v x1.toNatClampNeg = k_muntil v x2.toNatClampNeg
  rotate_left
  · rw [if_neg c7, if_neg c7, if_pos (rfl : (0 : Int32) = 0)]; exact ⟨rfl, rel_code h⟩
  rw [if_pos c7, if_pos c7]
  by_cases c8 : k_mblk v x1.toNatClampNeg = k_mblk v x2.toNatClampNeg
  rotate_left
  · rw [if_neg c8, if_neg c8, if_pos (rfl : (0 : Int32) = 0)]; exact ⟨rfl, rel_code h⟩
  rw [if_pos c8, if_pos c8]
  by_cases c9 : k_mquiet v x1.toNatClampNeg = k_mquiet v x2.toNatClampNeg
  rotate_left
  · rw [if_neg c9, if_neg c9, if_pos (rfl : (0 : Int32) = 0)]; exact ⟨rfl, rel_code h⟩
  rw [if_pos c9, if_pos c9, if_neg (by decide : ¬ (1 : Int32) = 0)]
  by_cases c0 : k_mrows v ≤ 398
  rotate_left
  · rw [if_neg (fun q => br_rq.mp q ((br_room2 e1 h.2.1.2.2.1).mpr c0)), if_neg c0]; exact ⟨rfl, rel_code h⟩
  rw [if_pos (br_rq.mpr (fun q => (br_room2 e1 h.2.1.2.2.1).mp q c0)), if_pos c0]
  have k0 := rel_close (rel_code (x := 0) h) c1 c2 c4
  have a1 := lot_ix c1
  have a2 := lot_ix c2
  have m2 := h.2.1.2.1
  have n1 : (1 : Int32).toInt = 1 := by decide
  have he : edg (k_mfrom v) (upd (k_minto v) x2.toNatClampNeg x1) (k_mlots v) x1.toInt.toNat x2.toInt.toNat := ⟨⟨a2.1, a2.2.1⟩, a1.1, Or.inr (by rw [show x2.toInt.toNat = x2.toNatClampNeg from rfl, pk_us, nI_fr (by omega)])⟩
  obtain ⟨w, w1, w2, w3, w4⟩ := join_lp (x1 := x1) (x2 := x2) 121 1 _ _ k0 c1 he (by omega) (by show _ ≤ (k_munits v).toInt + 1; omega) (by show (k_munits v).toInt + 1 < _; omega)
  have w3' : k_mrows w = k_mrows v := w3
  have w4' : k_mcode w = 0 := w4
  have w1' : lpX5_join x1 x2 121 1 (s_minto (s_mcode v 0) (upd (k_minto v) x2.toNatClampNeg x1)) = fX5_row (fX5_row w x1 4 x2) x2 5 x1 := w1
  rw [w1']
  have hr := row_lt2 c0
  have hr0 := h.2.1.2.2.1.1
  have e := i_inc (x := k_mrows w) (by rw [w3']; omega)
  refine ⟨?_, rel_row (rel_row w2 (by rw [w3']; omega) x1 4 x2) (by rw [row_rows, e, w3']; omega) x2 5 x1⟩
  rw [row_code, row_code, w4']
  rfl
