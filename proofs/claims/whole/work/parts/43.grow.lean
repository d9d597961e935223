/-! a lot more -/
theorem rch_rf {frm into : Nat → Int32} {nl : Int32} (x : Nat) : rch frm into nl x x := fun _ h _ => h
theorem rch_tr {frm into : Nat → Int32} {nl : Int32} {x y z : Nat} (h1 : rch frm into nl x y) (h2 : rch frm into nl y z) : rch frm into nl x z := fun S hS hc => h2 S (h1 S hS hc) hc
theorem rch_mono {frm into frm2 into2 : Nat → Int32} {nl nl2 : Int32} (hm : ∀ p q, edg frm into nl p q → edg frm2 into2 nl2 p q) {x y : Nat} (h : rch frm into nl x y) : rch frm2 into2 nl2 x y := fun S hS hc => h S hS (fun p q hp he => hc p q hp (hm p q he))
theorem rch_1 {frm into : Nat → Int32} {nl : Int32} {x y : Nat} (h : edg frm into nl x y) : rch frm into nl x y := fun _ hS hc => hc x y hS h
theorem nI_inj {a b : Nat} (ha : a < 2 ^ 31) (hb : b < 2 ^ 31) (h : nI a = nI b) : a = b := by
  have := congrArg Int32.toInt h
  rw [nI_toInt ha, nI_toInt hb] at this
  omega
theorem nI_fr {x : Int32} (h : 0 ≤ x.toInt) : nI x.toInt.toNat = x := by
  have h2 := x.toInt_lt
  exact Int32.toInt_inj.mp (by rw [nI_toInt (by omega)]; omega)
/-- the edges when a lot is made, from f (0: from none) -/
theorem edg_make {frm into : Nat → Int32} {nl f : Int32} (h0 : 0 ≤ nl.toInt) (h1 : nl.toInt < 40) (hf : 0 ≤ f.toInt) (hi : into (nl.toInt.toNat + 1) = 0) (a b : Nat) (ha : a ≤ 40) : edg (upd frm (nl.toInt.toNat + 1) f) into (nl + 1) a b ↔ edg frm into nl a b ∨ (b = nl.toInt.toNat + 1 ∧ 1 ≤ a ∧ a = f.toInt.toNat) := by
  have e := i_inc (x := nl) (by omega)
  unfold edg
  rw [e]
  by_cases hb : b = nl.toInt.toNat + 1
  · subst hb
    rw [pk_us, hi]
    constructor
    · rintro ⟨_, h3, h4 | h4⟩
      · refine Or.inr ⟨rfl, h3, ?_⟩
        rw [h4, nI_toInt (by omega)]; rfl
      · have := congrArg Int32.toInt h4
        rw [nI_toInt (by omega), show (0 : Int32).toInt = 0 from by decide] at this
        omega
    · rintro (⟨h3, _⟩ | ⟨_, h3, h4⟩)
      · omega
      · exact ⟨by omega, h3, Or.inl (by rw [h4, nI_fr hf])⟩
  · rw [pk_un hb]
    constructor
    · rintro ⟨h3, h4⟩; exact Or.inl ⟨by omega, h4⟩
    · rintro (⟨h3, h4⟩ | ⟨h3, _⟩)
      · exact ⟨by omega, h4⟩
      · exact absurd h3 hb
theorem bit_tab : ∀ k : Fin 64, ((1 : Int64) <<< ((nI k.1).toInt64 &&& 63)).toBitVec = BitVec.twoPow 64 k.1 := by decide +kernel
theorem bit_at {x : Int32} (h0 : 0 ≤ x.toInt) (h1 : x.toInt < 64) (b : Nat) (hb : b < 64) : ((1 : Int64) <<< (x.toInt64 &&& 63)).toBitVec.getLsbD b = decide (b = x.toInt.toNat) := by
  have h := bit_tab ⟨x.toInt.toNat, by omega⟩
  rw [show nI (⟨x.toInt.toNat, by omega⟩ : Fin 64).1 = x from nI_fr h0] at h
  rw [h, BitVec.getLsbD_twoPow]
  have hk : x.toInt.toNat < 64 := by omega
  show (decide (x.toInt.toNat < 64) && decide (x.toInt.toNat = b)) = decide (b = x.toInt.toNat)
  generalize x.toInt.toNat = k at hk ⊢
  by_cases q : b = k
  · subst q; simp [hk]
  · simp [q, Ne.symm q]
theorem bit_or {f : Int64} {x : Int32} (h0 : 0 ≤ x.toInt) (h1 : x.toInt < 64) (b : Nat) (hb : b < 64) : (f ||| ((1 : Int64) <<< (x.toInt64 &&& 63))).toBitVec.getLsbD b = true ↔ f.toBitVec.getLsbD b = true ∨ b = x.toInt.toNat := by
  rw [Int64.toBitVec_or, BitVec.getLsbD_or, bit_at h0 h1 b hb]
  simp
theorem rk_make0 {kin : Nat → Int64} {frm into : Nat → Int32} {nl : Int32} (h : RK kin frm into nl) (h0 : 0 ≤ nl.toInt) (h1 : nl.toInt < 40) (hi : into (nl.toInt.toNat + 1) = 0) : RK kin (upd frm (nl.toInt.toNat + 1) 0) into (nl + 1) := by
  intro a b ha1 ha2 hb
  rw [h a b ha1 ha2 hb, edg_make h0 h1 (by decide) hi a b ha2]
  constructor
  · exact Or.inl
  · rintro (h3 | ⟨_, h3, h4⟩)
    · exact h3
    · rw [show (0 : Int32).toInt.toNat = 0 from by decide] at h4; omega
theorem rk_make {kin : Nat → Int64} {frm into : Nat → Int32} {nl f : Int32} (h : RK kin frm into nl) (h0 : 0 ≤ nl.toInt) (h1 : nl.toInt < 40) (hf : 1 ≤ f.toInt) (hi : into (nl.toInt.toNat + 1) = 0) : RK (vp_updL kin f.toInt.toNat (kin f.toInt.toNat ||| ((1 : Int64) <<< ((nl + 1).toInt64 &&& 63)))) (upd frm (nl.toInt.toNat + 1) f) into (nl + 1) := by
  have e := i_inc (x := nl) (by omega)
  intro a b ha1 ha2 hb
  rw [edg_make h0 h1 (by omega) hi a b ha2]
  unfold vp_updL
  by_cases hq : a = f.toInt.toNat
  · rw [if_pos hq, bit_or (by omega) (by omega) b hb, ← hq, h a b ha1 ha2 hb, e]
    constructor
    · rintro (h3 | h3)
      · exact Or.inl h3
      · exact Or.inr ⟨by omega, ha1, rfl⟩
    · rintro (h3 | ⟨h3, _⟩)
      · exact Or.inl h3
      · exact Or.inr (by omega)
  · rw [if_neg hq, h a b ha1 ha2 hb]
    constructor
    · exact Or.inl
    · rintro (h3 | ⟨_, _, h3⟩)
      · exact h3
      · exact absurd h3 hq
theorem ro_make {opn into : Nat → Int32} {nl : Int32} (h : RO opn into nl) (h0 : 0 ≤ nl.toInt) (h1 : nl.toInt < 40) : RO (upd opn (nl.toInt.toNat + 1) (vp_nar .boolean 1)) into (nl + 1) := by
  have e := i_inc (x := nl) (by omega)
  refine ⟨fun j hj1 hj2 => ?_, fun j hj => h.2 j (by omega)⟩
  by_cases hj : j = nl.toInt.toNat + 1
  · rw [hj, pk_us, h.2 (nl.toInt.toNat + 1) (by omega), if_pos rfl]; decide
  · rw [pk_un hj]; exact h.1 j hj1 (by omega)
theorem rw_make {was ufirst ulot frm into frm2 : Nat → Int32} {nl nu : Int32} (h : RW was ufirst ulot frm into nl nu) (h0 : 0 ≤ nl.toInt) (h1 : nl.toInt < 40) (hm : ∀ p q, edg frm into nl p q → edg frm2 into (nl + 1) p q) : RW was ufirst ulot frm2 into (nl + 1) nu := by
  have e := i_inc (x := nl) (by omega)
  obtain ⟨a1, a2, a3, a4⟩ := h
  refine ⟨fun t t1 t2 => ?_, fun t k t1 t2 k1 k2 hw => ?_, fun t k t1 t2 k1 k2 => a3 t k t1 t2 k1 (by omega), a4⟩
  · obtain ⟨b1, b2, b3⟩ := a1 t t1 t2
    exact ⟨⟨b1.1, by omega⟩, ⟨b2.1, by omega⟩, b3⟩
  · by_cases hk : (k : Int) ≤ nl.toInt
    · exact rch_mono hm (a2 t k t1 t2 k1 hk hw)
    · exact absurd (a3 t k t1 t2 (by omega) (by omega)) hw
theorem rr_make {reas quar last arr frm into rs qs : Nat → Int32} {nl x3 x4 f : Int32} (h : RR reas quar last arr frm into nl) (h0 : 0 ≤ nl.toInt) (h1 : nl.toInt < 40) (h3 : 0 ≤ x3.toInt ∧ x3.toInt ≤ 36524) (h4 : 0 ≤ x4.toInt ∧ x4.toInt ≤ 36524) (hf : f.toInt ≤ nl.toInt) (hi : into (nl.toInt.toNat + 1) = 0) (hr : ∀ j : Nat, 0 ≤ (rs j).toInt ∧ (rs j).toInt < 1024) (hq : ∀ j : Nat, qs j = 0 ∨ qs j = 1) (hz : ∀ j : Nat, nl.toInt + 1 < (j : Int) → rs j = 0 ∧ qs j = 0) : RR rs qs (upd last (nl.toInt.toNat + 1) x3) (upd arr (nl.toInt.toNat + 1) x4) (upd frm (nl.toInt.toNat + 1) f) into (nl + 1) := by
  have e := i_inc (x := nl) (by omega)
  obtain ⟨a1, a2, a3, a4, a5, a6⟩ := h
  refine ⟨hr, hq, fun j => ?_, fun j => ?_, fun j j1 j2 => ?_, fun j hj => hz j (by omega)⟩
  · by_cases hj : j = nl.toInt.toNat + 1
    · rw [hj, pk_us]; exact h3
    · rw [pk_un hj]; exact a3 j
  · by_cases hj : j = nl.toInt.toNat + 1
    · rw [hj, pk_us]; exact h4
    · rw [pk_un hj]; exact a4 j
  · by_cases hj : j = nl.toInt.toNat + 1
    · rw [hj, pk_us, hi, show (0 : Int32).toInt = 0 from by decide]; omega
    · rw [pk_un hj]
      have := a5 j j1 (by omega)
      omega
theorem upd_rg {f : Nat → Int32} {k : Nat} {x : Int32} {P : Int32 → Prop} (h : ∀ j, P (f j)) (hx : P x) : ∀ j, P (upd f k x j) := fun j => by
  by_cases hj : j = k
  · rw [hj, pk_us]; exact hx
  · rw [pk_un hj]; exact h j
theorem rel_setL {u : cS} {v : mS} (h : Rel u v) {nl : Int32} {gd ow la ar op rs qs fr : Nat → Int32} {kin : Nat → Int64} (hn : 0 ≤ nl.toInt ∧ nl.toInt ≤ 40) (how : ∀ j : Nat, 0 ≤ (ow j).toInt ∧ (ow j).toInt < 8) (hfr : ∀ j : Nat, 0 ≤ (fr j).toInt ∧ (fr j).toInt ≤ 40) (ho : RO op (k_minto v) nl) (hk : RK kin fr (k_minto v) nl) (hw : RW (k_mwas v) (k_ufirst u) (k_ulot u) fr (k_minto v) nl (k_umade u)) (hR : RR rs qs la ar fr (k_minto v) nl) : Rel (s_kin (s_quar (s_reas (s_open (s_arr (s_last (s_owners (s_goods (s_lmade u nl) gd) ow) la) ar) op) rs) qs) kin) (s_mquiet (s_mblk (s_mfrom (s_marr (s_muntil (s_mowner (s_mgood (s_mlots v nl) gd) ow) la) ar) fr) rs) qs) := by
  obtain ⟨⟨c1, c2, c3, c4, c5⟩, ⟨m1, m2, m3, m4, m5, m6, m7⟩, g1, _, g3, _, hh, _, _, hG, _⟩ := h
  exact ⟨⟨hn, c2, c3, how, c5⟩, ⟨hn, m2, m3, how, m5, hfr, m7⟩, g1, ⟨rfl, rfl, rfl, rfl, rfl, rfl, rfl⟩, g3, ho, hh, hk, hw, hG, hR⟩
theorem rel_make {u : cS} {v : mS} (h : Rel u v) (h1 : (k_mlots v).toInt < 40) {x1 x2 x3 x4 f : Int32} (h2 : 0 ≤ x2.toInt ∧ x2.toInt < 8) (h3 : 0 ≤ x3.toInt ∧ x3.toInt ≤ 36524) (h4 : 0 ≤ x4.toInt ∧ x4.toInt ≤ 36524) (hf : 0 ≤ f.toInt ∧ f.toInt ≤ (k_mlots v).toInt) {rs qs : Nat → Int32} {kin : Nat → Int64} (hr : ∀ j : Nat, 0 ≤ (rs j).toInt ∧ (rs j).toInt < 1024) (hq : ∀ j : Nat, qs j = 0 ∨ qs j = 1) (hz : ∀ j : Nat, (k_mlots v).toInt + 1 < (j : Int) → rs j = 0 ∧ qs j = 0) (hk : RK kin (upd (k_mfrom v) ((k_mlots v).toInt.toNat + 1) f) (k_minto v) (k_mlots v + 1)) : Rel (s_kin (s_quar (s_reas (fX1_add u x1 x2 x3 x4).2 rs) qs) kin) (s_mquiet (s_mblk (fX5_make v x1 x2 x3 x4 f).2 rs) qs) := by
  have hh := h
  obtain ⟨⟨c1, c2, c3, c4, c5⟩, ⟨m1, m2, m3, m4, m5, m6, m7⟩, g1, ⟨g21, g22, g23, g24, g25, g26, g27⟩, g3, ho, _, hK, hW, hG, hR⟩ := h
  have e := i_inc (x := k_mlots v) (by omega)
  have e1 := nx_ix (x := k_mlots v) m1.1 (by omega)
  have e2 : (k_mlots v + 1).toNatClampNeg = (k_mlots v).toInt.toNat + 1 := e1
  have hi : k_minto v ((k_mlots v).toInt.toNat + 1) = 0 := ho.2 _ (by rw [g27]; omega)
  have hm : ∀ p q, edg (k_mfrom v) (k_minto v) (k_mlots v) p q → edg (upd (k_mfrom v) ((k_mlots v).toInt.toNat + 1) f) (k_minto v) (k_mlots v + 1) p q := fun p q hpq => by
    obtain ⟨q1, q2, q3⟩ := hpq
    refine ⟨⟨q1.1, by omega⟩, q2, ?_⟩
    rw [pk_un (by omega)]; exact q3
  rw [g27] at ho hK hW hR
  unfold fX1_add fX5_make
  rw [g27, g21, g22, g23, g24, e2]
  rw [g23, g24] at hR
  exact rel_setL hh (by omega) (upd_rg (P := fun x => 0 ≤ x.toInt ∧ x.toInt < 8) m4 h2) (upd_rg (P := fun x => 0 ≤ x.toInt ∧ x.toInt ≤ 40) m6 (by omega)) (ro_make ho m1.1 h1) hk (rw_make hW m1.1 h1 hm) (rr_make hR m1.1 h1 h3 h4 hf.2 hi hr hq hz)
theorem in_rg {x a b : Int32} (h : ¬ fX5_in x a b = 0) {p q : Int} (hp : a.toInt = p) (hq : b.toInt = q) : p ≤ x.toInt ∧ x.toInt ≤ q := by
  have h1 := in_lo h
  have h2 := in_hi h
  omega
theorem lots_lt {v : mS} (h : mInv v) (c : ¬ k_mlots v = 40) : (k_mlots v).toInt < 40 := by
  have h1 := i_ne c rfl (by decide : (40 : Int32).toInt = 40)
  have := h.1
  omega
theorem rel_lot : stp_lot Rel := by
  intro u v x1 x2 x3 x4 h
  have e1 : k_rwrit u = k_mrows v := h.2.2.2.2.1.2.2.2.2.2
  have e2 : k_lmade u = k_mlots v := h.2.2.2.1.2.2.2.2.2.2
  unfold fX4_lot fX5_lot
  by_cases c1 : fX5_in x1 0 9 = 0
  · rw [if_neg (fun q => (br_in _ _ _).mp q c1), if_pos c1]; exact ⟨rfl, fun q => nz q, rel_code h⟩
  rw [if_pos ((br_in _ _ _).mpr c1), if_neg c1]
  by_cases c2 : fX5_in x2 0 7 = 0
  · rw [if_neg (fun q => (br_in _ _ _).mp q c2), if_pos c2]; exact ⟨rfl, fun q => nz q, rel_code h⟩
  rw [if_pos ((br_in _ _ _).mpr c2), if_neg c2]
  by_cases c3 : fX5_in x3 0 36524 = 0
  · rw [if_neg (fun q => (br_in _ _ _).mp q c3), if_pos c3]; exact ⟨rfl, fun q => nz q, rel_code h⟩
  rw [if_pos ((br_in _ _ _).mpr c3), if_neg c3]
  by_cases c4 : fX5_in x4 0 36524 = 0
  · rw [if_neg (fun q => (br_in _ _ _).mp q c4), if_pos c4]; exact ⟨rfl, fun q => nz q, rel_code h⟩
  rw [if_pos ((br_in _ _ _).mpr c4), if_neg c4]
  by_cases c5 : x4 ≤ x3
  rotate_left
  · rw [if_neg c5, if_neg c5]; exact ⟨rfl, fun _ => rfl, rel_code h⟩
  rw [if_pos c5, if_pos c5]
  by_cases c6 : k_mlots v = 40
  · rw [if_pos ((br_lroom e2 h.2.1.1).mpr c6), if_pos c6]; exact ⟨rfl, fun q => nz q, rel_code h⟩
  rw [if_neg (fun q => c6 ((br_lroom e2 h.2.1.1).mp q)), if_neg c6]
  by_cases c7 : k_mrows v = 400
  · rw [if_pos ((br_room1 e1 h.2.1.2.2.1).mpr c7), if_pos c7]; exact ⟨rfl, fun q => nz q, rel_code h⟩
  rw [if_neg (fun q => c7 ((br_room1 e1 h.2.1.2.2.1).mp q)), if_neg c7]
  have r2 := in_rg c2 (by decide : (0 : Int32).toInt = 0) (by decide : (7 : Int32).toInt = 7)
  have r3 := in_rg c3 (by decide : (0 : Int32).toInt = 0) (by decide : (36524 : Int32).toInt = 36524)
  have r4 := in_rg c4 (by decide : (0 : Int32).toInt = 0) (by decide : (36524 : Int32).toInt = 36524)
  have hl := lots_lt h.2.1 c6
  have hr := row_lt h.2.1 c7
  have m1 := h.2.1.1
  have hR := h.2.2.2.2.2.2.2.2.2.2
  have ho := h.2.2.2.2.2.1
  have hK := h.2.2.2.2.2.2.2.1
  rw [e2] at hR ho hK
  have hi : k_minto v ((k_mlots v).toInt.toNat + 1) = 0 := ho.2 _ (by omega)
  have k := rel_make (rel_code (x := 0) h) (x1 := x1) (x2 := x2) (x3 := x3) (x4 := x4) (f := 0) (rs := k_reas u) (qs := k_quar u) (kin := k_kin u) hl (by omega) r3 r4 (by rw [show (0 : Int32).toInt = 0 from by decide]; exact ⟨Int.le_refl _, m1.1⟩) hR.1 hR.2.1 (fun j hj => hR.2.2.2.2.2 j (by show (k_mlots v).toInt < _; have : (k_mlots v).toInt + 1 < (j : Int) := hj; omega)) (rk_make0 hK m1.1 hl hi)
  have g25 : k_reas u = k_mblk v := h.2.2.2.1.2.2.2.2.1
  have g26 : k_quar u = k_mquiet v := h.2.2.2.1.2.2.2.2.2.1
  have k2 : Rel (fX1_add u x1 x2 x3 x4).2 (fX5_make (s_mcode v 0) x1 x2 x3 x4 0).2 := by
    have q1 : s_kin (s_quar (s_reas (fX1_add u x1 x2 x3 x4).2 (k_reas u)) (k_quar u)) (k_kin u) = (fX1_add u x1 x2 x3 x4).2 := rfl
    have q2 : s_mquiet (s_mblk (fX5_make (s_mcode v 0) x1 x2 x3 x4 0).2 (k_mblk v)) (k_mquiet v) = (fX5_make (s_mcode v 0) x1 x2 x3 x4 0).2 := rfl
    rw [q1, g25, g26, q2] at k
    exact k
  have e3 : (fX1_add u x1 x2 x3 x4).1 = (fX5_make (s_mcode v 0) x1 x2 x3 x4 0).1 := by
    show k_lmade u + 1 = k_mlots v + 1
    rw [e2]
  refine ⟨rfl, fun _ => e3, ?_⟩
  rw [e3]
  exact rel_row k2 (by exact hr) _ _ _
