/-! recall: the units -/
theorem li_rec {w : mS} (hI : mInv w) {i : Int32} (hi : 0 ≤ i.toInt ∧ i.toInt ≤ 120) : ∀ (n : Nat) (k b : Int32), 1 ≤ k.toInt → k.toInt ≤ (k_mlots w).toInt + 1 → (k_mlots w).toInt + 1 < k.toInt + n → (b = 0 ∨ b = 1) → (liX5_recall w i n k b = 0 ↔ b = 0 ∧ ∀ j : Nat, k.toInt ≤ (j : Int) → (j : Int) ≤ (k_mlots w).toInt → k_mfam w j = 0 ∨ k_mwas w (41 * i.toInt.toNat + j) = 0) := by
  intro n
  induction n with
  | zero => intro k b h1 h2 h3; omega
  | succ n ih =>
    intro k b h1 h2 h3 hb
    have m1 := hI.1
    rw [liX5_recall_eq]
    by_cases c1 : k_mlots w < k
    · have c1' := i_lt c1 rfl rfl
      rw [if_pos c1]
      exact ⟨fun h => ⟨h, fun j j1 j2 => by omega⟩, fun h => h.1⟩
    rw [if_neg c1]
    have c1' := i_nlt c1 rfl rfl
    have e := i_inc (x := k) (by omega)
    have hk := nat_ix (x := k) (by omega)
    have ew := was_ix (x := i) (y := k) (by omega) (by omega)
    have ek : k.toInt.toNat = k.toNatClampNeg := rfl
    rw [ek] at ew
    have k0 := ih (k + 1) 0 (by omega) (by omega) (by omega) (Or.inl rfl)
    have k1 := ih (k + 1) 1 (by omega) (by omega) (by omega) (Or.inr rfl)
    by_cases c2 : b = 0
    rotate_left
    · rw [if_neg c2, k1]
      exact ⟨fun h => absurd h.1 (by decide), fun h => absurd h.1 c2⟩
    rw [if_pos c2, ew]
    have go : (k_mfam w k.toNatClampNeg = 0 ∨ k_mwas w (41 * i.toInt.toNat + k.toNatClampNeg) = 0) → (liX5_recall w i n (k + 1) 0 = 0 ↔ b = 0 ∧ ∀ j : Nat, k.toInt ≤ (j : Int) → (j : Int) ≤ (k_mlots w).toInt → k_mfam w j = 0 ∨ k_mwas w (41 * i.toInt.toNat + j) = 0) := fun hq => by
      rw [k0]
      constructor
      · rintro ⟨_, h⟩
        refine ⟨c2, fun j j1 j2 => ?_⟩
        by_cases hj : j = k.toNatClampNeg
        · rw [hj]; exact hq
        · exact h j (by omega) j2
      · rintro ⟨_, h⟩
        exact ⟨rfl, fun j j1 j2 => h j (by omega) j2⟩
    by_cases c3 : k_mfam w k.toNatClampNeg = 0
    · rw [if_pos c3]; exact go (Or.inl c3)
    rw [if_neg c3]
    by_cases c4 : k_mwas w (41 * i.toInt.toNat + k.toNatClampNeg) = 0
    · rw [if_pos c4]; exact go (Or.inr c4)
    rw [if_neg c4, k1]
    refine ⟨fun h => absurd h.1 (by decide), fun h => ?_⟩
    rcases h.2 k.toNatClampNeg (by omega) (by omega) with q | q
    · exact absurd q c3
    · exact absurd q c4
theorem rec_lp {u : cS} {w : mS} {F : Int64} {x3 : Int32} (g35 : k_umade u = k_munits w) (m2 : 0 ≤ (k_munits w).toInt ∧ (k_munits w).toInt ≤ 120) (hT : ∀ i : Int32, 1 ≤ i.toInt → i.toInt ≤ (k_munits w).toInt → (lg_cmp (F &&& ((1 : Int64) <<< ((k_ufirst u i.toNatClampNeg).toInt64 &&& 63))) 0 = 0 ↔ liX5_recall w i 41 1 0 = 0)) : ∀ (n : Nat) (i a b : Int32), 1 ≤ i.toInt → 0 ≤ a.toInt → 0 ≤ b.toInt → a.toInt + b.toInt = x3.toInt → ∃ y, lpX3_everOfFamily u F x3 n i a = y ∧ loX5_recall w n i b = (y, w) := by
  have n1 : (-1 : Int32).toInt = -1 := by decide
  intro n
  induction n with
  | zero => intro i a b _ _ _ _; exact ⟨_, rfl, rfl⟩
  | succ n ih =>
    intro i a b hi ha hb hs
    rw [lpX3_everOfFamily_eq, loX5_recall_eq, g35]
    by_cases c1 : k_munits w < i
    · rw [if_pos c1, if_pos c1]; exact ⟨_, rfl, rfl⟩
    rw [if_neg c1, if_neg c1]
    have c1' := i_nlt c1 rfl rfl
    have e := i_inc (x := i) (by omega)
    have hx := x3.toInt_lt
    by_cases c2 : liX5_recall w i 41 1 0 = 0
    · rw [if_pos c2, if_pos ((hT i hi c1').mpr c2)]
      exact ih (i + 1) a b (by omega) ha hb hs
    rw [if_neg c2, if_neg (fun q => c2 ((hT i hi c1').mp q))]
    by_cases c3 : b = 0
    · rw [if_pos c3, if_pos (Int32.toInt_inj.mp (by rw [c3, show (0 : Int32).toInt = 0 from by decide] at hs; omega))]
      exact ⟨_, rfl, rfl⟩
    · have c3' := i_ne c3 rfl (by decide : (0 : Int32).toInt = 0)
      rw [if_neg c3, if_neg (fun q => by rw [q] at hs; omega)]
      have ea := i_inc (x := a) (by omega)
      have eb := i_add (x := b) (y := -1) (by omega) (by omega)
      exact ih (i + 1) (a + 1) (b + (-1)) (by omega) (by omega) (by omega) (by omega)
theorem rel_fam {u : cS} {v : mS} (h : Rel u v) (g : Nat → Int32) : Rel u (s_mfam v g) := h
theorem rel_recall : stp_recall Rel := by
  intro u v x1 x2 h
  have e2 : k_lmade u = k_mlots v := h.2.2.2.1.2.2.2.2.2.2
  have g35 : k_umade u = k_munits v := h.2.2.2.2.1.2.2.2.2.1
  unfold fX4_recall fX5_recall
  by_cases c1 : fX5_isLot v x1 = 0
  · rw [if_neg (fun q => (br_lot e2 _).mp q c1), if_pos c1]; exact ⟨rfl, fun q => nz q, rel_code h⟩
  rw [if_pos ((br_lot e2 _).mpr c1), if_neg c1]
  by_cases c2 : 0 ≤ x2
  rotate_left
  · rw [if_neg (fun q => c2 (br_nn.mp q)), if_neg c2]; exact ⟨rfl, fun q => nz q, rel_code h⟩
  rw [if_pos (br_nn.mpr c2), if_pos c2]
  have c2' := i_le c2 (by decide : (0 : Int32).toInt = 0) rfl
  have a1 := il_lo c1
  have a2 := il_hi c1
  have m1 := h.2.1.1
  have m2 := h.2.1.2.1
  have hK := h.2.2.2.2.2.2.2.1
  have hW := h.2.2.2.2.2.2.2.2.1
  have h5 := h.2.2.2.2.2.2.2.2.2.2.2.2.2.2.1
  rw [e2] at hK hW h5
  rw [g35] at hW
  obtain ⟨g, f1, f2⟩ := fam_m (v := s_mcode v 0) (x1 := x1) h.2.1 h5 ⟨a1, a2⟩
  have fc := fam_c (u := u) (frm := k_mfrom v) (into := k_minto v) (nl := k_mlots v) (x1 := x1) e2 m1 hK ⟨a1, a2⟩
  rw [f1]
  unfold fX3_everOfFamily
  have n1 : (1 : Int32).toInt = 1 := by decide
  have n0 : (0 : Int32).toInt = 0 := by decide
  obtain ⟨y, y1, y2⟩ := rec_lp (u := u) (w := s_mfam (s_mcode v 0) g) (F := fX1_familyOf u x1) (x3 := x2) g35 m2 (fun i i1 i2 => by
    have hk := nat_ix (x := i) (by omega)
    have i2' : i.toInt ≤ (k_munits v).toInt := i2
    obtain ⟨b1, b2, b3, b4⟩ := hW.1 i.toNatClampNeg (by omega) (by omega)
    rw [bt_cmp (by omega) (by omega), li_rec (w := s_mfam (s_mcode v 0) g) (i := i) h.2.1 (by omega) 41 1 0 (by omega) (by show _ ≤ (k_mlots v).toInt + 1; omega) (by show (k_mlots v).toInt + 1 < _; omega) (Or.inl rfl)]
    have fcu := fc (k_ufirst u i.toNatClampNeg).toInt.toNat (by omega)
    constructor
    · intro hb
      refine ⟨rfl, fun j j1 j2 => ?_⟩
      have j2' : (j : Int) ≤ (k_mlots v).toInt := j2
      show g j = 0 ∨ k_mwas v (41 * i.toNatClampNeg + j) = 0
      by_cases z1 : g j = 0
      · exact Or.inl z1
      by_cases z2 : k_mwas v (41 * i.toNatClampNeg + j) = 0
      · exact Or.inr z2
      have r1 := (f2 j (by omega) j2).mp z1
      have r2 := hW.2.1 i.toNatClampNeg j (by omega) (by omega) (by omega) j2' z2
      have r3 := fcu.mpr (rch_tr r1 r2)
      rw [hb] at r3
      exact absurd r3 (by decide)
    · rintro ⟨_, hb⟩
      by_cases hf : bt (fX1_familyOf u x1) (k_ufirst u i.toNatClampNeg).toInt.toNat = true
      · have r1 := (f2 _ (by omega) (by show _ ≤ (k_mlots v).toInt; omega)).mpr (fcu.mp hf)
        have hb2 : g (k_ufirst u i.toNatClampNeg).toInt.toNat = 0 ∨ k_mwas v (41 * i.toNatClampNeg + (k_ufirst u i.toNatClampNeg).toInt.toNat) = 0 := hb _ (by omega) (by show _ ≤ (k_mlots v).toInt; omega)
        rcases hb2 with q | q
        · exact absurd q r1
        · exact absurd q b3
      · simpa using hf) 121 1 0 x2 (by omega) (by omega) c2' (by omega)
  rw [y1, y2]
  exact ⟨rfl, fun _ => rfl, rel_fam (rel_code h) g⟩
