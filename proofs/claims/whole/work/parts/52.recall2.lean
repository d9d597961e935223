/-! recall: the reference's family -/
/-- one of the family's flags is up, of a lot -/
def fm (v : mS) (j : Nat) : Prop := (1 ≤ j ∧ (j : Int) ≤ (k_mlots v).toInt) ∧ ¬ k_mfam v j = 0
def clo (v : mS) (S : Nat → Prop) : Prop := ∀ p q, S p → edg (k_mfrom v) (k_minto v) (k_mlots v) p q → S q
def rg5 (v : mS) : Prop := ∀ j : Nat, 1 ≤ j → (j : Int) ≤ (k_mlots v).toInt → (k_mfrom v j).toInt ≤ (k_mlots v).toInt ∧ (k_minto v j).toInt ≤ (k_mlots v).toInt
theorem nle_0 {x : Int32} (h : ¬ x ≤ 0) : 1 ≤ x.toInt := by
  have := i_nle h rfl (by decide : (0 : Int32).toInt = 0)
  omega
/-- one lot looked at -/
theorem lc_cs {v : mS} (hI : mInv v) (h5 : rg5 v) (n : Nat) {k : Int32} (mo : Int32) (h1 : 1 ≤ k.toInt) (h2 : k.toInt ≤ (k_mlots v).toInt) :
    ((fm v k.toNatClampNeg ∨ ∀ p, fm v p → ¬ edg (k_mfrom v) (k_minto v) (k_mlots v) p k.toNatClampNeg) ∧ lcX5_findFamily (n + 1) k mo v = lcX5_findFamily n (k + 1) mo v) ∨
    (k_mfam v k.toNatClampNeg = 0 ∧ (∃ p, fm v p ∧ edg (k_mfrom v) (k_minto v) (k_mlots v) p k.toNatClampNeg) ∧ lcX5_findFamily (n + 1) k mo v = lcX5_findFamily n (k + 1) 1 (s_mfam v (upd (k_mfam v) k.toNatClampNeg (vp_nar .boolean 1)))) := by
  have m1 := hI.1
  have hk := nat_ix (x := k) (by omega)
  have kr : 1 ≤ k.toNatClampNeg ∧ (k.toNatClampNeg : Int) ≤ (k_mlots v).toInt := by omega
  have hf := hI.2.2.2.2.2.1 k.toNatClampNeg
  have hi := hI.2.2.2.2.2.2 k.toNatClampNeg
  have h5k := h5 _ kr.1 kr.2
  have ef := nI_fr (x := k_mfrom v k.toNatClampNeg) hf.1
  have ei := nI_fr (x := k_minto v k.toNatClampNeg) hi.1
  -- where a flag of a lot is up that k came from
  have no : ∀ x : Int32, (x.toInt ≤ 0 ∨ k_mfam v x.toNatClampNeg = 0) → 0 ≤ x.toInt → ∀ p, fm v p → ¬ x = nI p := fun x hx h0 p hp q => by
    have e := congrArg Int32.toInt q
    rw [nI_toInt (by have := hp.1.2; omega)] at e
    have := hp.1.1
    rcases hx with hx | hx
    · omega
    · have e2 : x.toNatClampNeg = p := by
        have e3 : x.toNatClampNeg = x.toInt.toNat := rfl
        omega
      rw [e2] at hx
      exact hp.2 hx
  have le0 : ∀ x : Int32, x ≤ 0 → x.toInt ≤ 0 := fun x hx => i_le hx rfl (by decide : (0 : Int32).toInt = 0)
  have up : ∀ x : Int32, ¬ x ≤ 0 → ¬ k_mfam v x.toNatClampNeg = 0 → x.toInt ≤ (k_mlots v).toInt → fm v x.toInt.toNat := fun x hx hg hl => by
    have := nle_0 hx
    exact ⟨⟨by omega, by omega⟩, hg⟩
  rw [lcX5_findFamily_eq, if_neg (show ¬ k_mlots v < k from fun q => by have := i_lt q rfl rfl; omega)]
  by_cases c1 : k_mfam v k.toNatClampNeg = 0
  rotate_left
  · rw [if_neg c1]
    exact Or.inl ⟨Or.inl ⟨kr, c1⟩, rfl⟩
  rw [if_pos c1]
  have fin : (k_mfrom v k.toNatClampNeg).toInt ≤ 0 ∨ k_mfam v (k_mfrom v k.toNatClampNeg).toNatClampNeg = 0 →
      ((fm v k.toNatClampNeg ∨ ∀ p, fm v p → ¬ edg (k_mfrom v) (k_minto v) (k_mlots v) p k.toNatClampNeg) ∧ (if k_minto v k.toNatClampNeg ≤ 0 then lcX5_findFamily n (k + 1) mo v else if k_mfam v (k_minto v k.toNatClampNeg).toNatClampNeg = 0 then lcX5_findFamily n (k + 1) mo v else lcX5_findFamily n (k + 1) 1 (s_mfam v (upd (k_mfam v) k.toNatClampNeg (vp_nar .boolean 1)))) = lcX5_findFamily n (k + 1) mo v) ∨
      (k_mfam v k.toNatClampNeg = 0 ∧ (∃ p, fm v p ∧ edg (k_mfrom v) (k_minto v) (k_mlots v) p k.toNatClampNeg) ∧ (if k_minto v k.toNatClampNeg ≤ 0 then lcX5_findFamily n (k + 1) mo v else if k_mfam v (k_minto v k.toNatClampNeg).toNatClampNeg = 0 then lcX5_findFamily n (k + 1) mo v else lcX5_findFamily n (k + 1) 1 (s_mfam v (upd (k_mfam v) k.toNatClampNeg (vp_nar .boolean 1)))) = lcX5_findFamily n (k + 1) 1 (s_mfam v (upd (k_mfam v) k.toNatClampNeg (vp_nar .boolean 1)))) := fun hfr => by
    by_cases c3 : k_minto v k.toNatClampNeg ≤ 0
    · rw [if_pos c3]
      refine Or.inl ⟨Or.inr (fun p hp he => ?_), rfl⟩
      rcases he.2.2 with q | q
      · exact no _ hfr hf.1 p hp q
      · exact no _ (Or.inl (le0 _ c3)) hi.1 p hp q
    · rw [if_neg c3]
      by_cases c4 : k_mfam v (k_minto v k.toNatClampNeg).toNatClampNeg = 0
      · rw [if_pos c4]
        refine Or.inl ⟨Or.inr (fun p hp he => ?_), rfl⟩
        rcases he.2.2 with q | q
        · exact no _ hfr hf.1 p hp q
        · exact no _ (Or.inr c4) hi.1 p hp q
      · rw [if_neg c4]
        have hp := up _ c3 c4 h5k.2
        exact Or.inr ⟨c1, ⟨_, hp, kr, hp.1.1, Or.inr ei.symm⟩, rfl⟩
  by_cases c2 : k_mfrom v k.toNatClampNeg ≤ 0
  · rw [if_pos c2]
    exact fin (Or.inl (le0 _ c2))
  · rw [if_neg c2]
    by_cases c5 : k_mfam v (k_mfrom v k.toNatClampNeg).toNatClampNeg = 0
    · rw [if_pos c5]
      exact fin (Or.inr c5)
    · rw [if_neg c5]
      have hp := up _ c2 c5 h5k.1
      exact Or.inr ⟨c1, ⟨_, hp, kr, hp.1.1, Or.inl ef.symm⟩, rfl⟩
theorem fm_set {v : mS} {k : Nat} (j : Nat) : fm (s_mfam v (upd (k_mfam v) k (vp_nar .boolean 1))) j ↔ fm v j ∨ (j = k ∧ 1 ≤ j ∧ (j : Int) ≤ (k_mlots v).toInt) := by
  show ((1 ≤ j ∧ (j : Int) ≤ (k_mlots v).toInt) ∧ ¬ upd (k_mfam v) k (vp_nar .boolean 1) j = 0) ↔ ((1 ≤ j ∧ (j : Int) ≤ (k_mlots v).toInt) ∧ ¬ k_mfam v j = 0) ∨ (j = k ∧ 1 ≤ j ∧ (j : Int) ≤ (k_mlots v).toInt)
  by_cases hj : j = k
  · subst hj
    rw [pk_us]
    constructor
    · exact fun h => Or.inr ⟨rfl, h.1⟩
    · rintro (h | h)
      · exact ⟨h.1, by decide⟩
      · exact ⟨h.2, by decide⟩
  · rw [pk_un hj]
    constructor
    · exact Or.inl
    · rintro (h | h)
      · exact h
      · exact absurd h.1 hj
/-- what one pass of the reference does -/
theorem pass_m : ∀ (n : Nat) (k mo : Int32) (v : mS), mInv v → rg5 v → 1 ≤ k.toInt → k.toInt ≤ (k_mlots v).toInt + 1 → (k_mlots v).toInt + 1 < k.toInt + n →
    (∃ g, (lcX5_findFamily n k mo v).2 = s_mfam v g) ∧
    (∀ j, fm v j → fm (lcX5_findFamily n k mo v).2 j) ∧
    (∀ S : Nat → Prop, clo v S → (∀ j, fm v j → S j) → ∀ j, fm (lcX5_findFamily n k mo v).2 j → S j) ∧
    mcnt (lcX5_findFamily n k mo v).2 ≤ mcnt v ∧
    ((lcX5_findFamily n k mo v).1 = 0 → mo = 0 ∧ (lcX5_findFamily n k mo v).2 = v ∧ ∀ p q : Nat, k.toInt ≤ (q : Int) → fm v p → edg (k_mfrom v) (k_minto v) (k_mlots v) p q → fm v q) ∧
    (¬ (lcX5_findFamily n k mo v).1 = 0 → ¬ mo = 0 ∨ mcnt (lcX5_findFamily n k mo v).2 < mcnt v) := by
  intro n
  induction n with
  | zero => intro k mo v hI h5 h1 h2 h3; omega
  | succ n ih =>
    intro k mo v hI h5 h1 h2 h3
    have m1 := hI.1
    by_cases c1 : k_mlots v < k
    · have c1' := i_lt c1 rfl rfl
      rw [lcX5_findFamily_eq, if_pos c1]
      exact ⟨⟨k_mfam v, rfl⟩, fun j h => h, fun S _ h => h, Nat.le_refl _, fun h => ⟨h, rfl, fun p q hq _ he => by have := he.1.2; omega⟩, fun h => Or.inl h⟩
    have c1' := i_nlt c1 rfl rfl
    have e := i_inc (x := k) (by omega)
    have hk := nat_ix (x := k) (by omega)
    rcases lc_cs hI h5 n mo h1 c1' with ⟨hh, q⟩ | ⟨h0, ⟨p0, hp0, he0⟩, q⟩
    · rw [q]
      obtain ⟨a0, a1, a2, a3, a4, a5⟩ := ih (k + 1) mo v hI h5 (by omega) (by omega) (by omega)
      refine ⟨a0, a1, a2, a3, fun z => ?_, a5⟩
      obtain ⟨b1, b2, b3⟩ := a4 z
      refine ⟨b1, b2, fun p q hq hp he => ?_⟩
      by_cases hqk : q = k.toNatClampNeg
      · rw [hqk] at he ⊢
        rcases hh with hh | hh
        · exact hh
        · exact absurd he (hh p hp)
      · exact b3 p q (by omega) hp he
    · rw [q]
      have hs := mcnt_set hI h0 h1 (by omega)
      obtain ⟨a0, a1, a2, a3, a4, a5⟩ := ih (k + 1) 1 (s_mfam v (upd (k_mfam v) k.toNatClampNeg (vp_nar .boolean 1))) hI h5 (by omega) (by show _ ≤ (k_mlots v).toInt + 1; omega) (by show (k_mlots v).toInt + 1 < _; omega)
      refine ⟨?_, fun j hj => a1 j ((fm_set j).mpr (Or.inl hj)), fun S hS hj => a2 S hS (fun j hf => ?_), by omega, fun z => absurd (a4 z).1 (by decide), fun _ => Or.inr (by omega)⟩
      · obtain ⟨g, hg⟩ := a0
        exact ⟨g, hg⟩
      · rcases (fm_set j).mp hf with h | h
        · exact hj j h
        · rw [h.1]; exact hS p0 _ (hj p0 hp0) he0
theorem lb_m : ∀ (n : Nat) (mo : Int32) (v : mS), mInv v → rg5 v → (mo = 0 → 1 ≤ n ∧ ∀ p q : Nat, fm v p → edg (k_mfrom v) (k_minto v) (k_mlots v) p q → fm v q) → (¬ mo = 0 → mcnt v + 2 ≤ n) →
    ∃ g, lbX5_findFamily n mo v = s_mfam v g ∧ (∀ j, fm v j → fm (s_mfam v g) j) ∧ (∀ S : Nat → Prop, clo v S → (∀ j, fm v j → S j) → ∀ j, fm (s_mfam v g) j → S j) ∧ (∀ p q : Nat, fm (s_mfam v g) p → edg (k_mfrom v) (k_minto v) (k_mlots v) p q → fm (s_mfam v g) q) := by
  intro n
  induction n with
  | zero =>
    intro mo v hI h5 h1 h2
    by_cases hm : mo = 0
    · have := (h1 hm).1; omega
    · have := h2 hm; omega
  | succ n ih =>
    intro mo v hI h5 h1 h2
    rw [lbX5_findFamily_eq]
    by_cases hm : mo = 0
    · rw [if_pos hm]
      exact ⟨k_mfam v, rfl, fun j h => h, fun S _ h => h, (h1 hm).2⟩
    rw [if_neg hm]
    have m1 := hI.1
    have n1 : (1 : Int32).toInt = 1 := by decide
    obtain ⟨⟨g, a0⟩, a1, a2, a3, a4, a5⟩ := pass_m 41 1 0 v hI h5 (by omega) (by omega) (by omega)
    have hn := h2 hm
    generalize hR : lcX5_findFamily 41 1 0 v = R at *
    rw [a0] at a1 a2 a3 a4 a5 ⊢
    have k := ih R.1 (s_mfam v g) hI h5 (fun z => ⟨by omega, fun p q hp he => ?_⟩) (fun z => ?_)
    · obtain ⟨g2, b0, b1, b2, b3⟩ := k
      exact ⟨g2, b0, fun j hj => b1 j (a1 j hj), fun S hS hj => b2 S hS (a2 S hS hj), b3⟩
    · obtain ⟨_, c2, c3⟩ := a4 z
      rw [c2] at hp ⊢
      exact c3 p q (by have := he.1.1; omega) hp he
    · rcases a5 z with z2 | z2
      · exact absurd rfl z2
      · omega
theorem la_m {x1 : Int32} : ∀ (n : Nat) (i : Int32) (v : mS), mInv v → rg5 v → 1 ≤ x1.toInt → x1.toInt ≤ (k_mlots v).toInt → 1 ≤ i.toInt → i.toInt ≤ (k_mlots v).toInt + 1 → (k_mlots v).toInt + 1 < i.toInt + n → (∀ j : Nat, (j : Int) < i.toInt → (fm v j ↔ j = x1.toInt.toNat ∧ (j : Int) < i.toInt)) →
    ∃ g, laX5_findFamily x1 n i v = s_mfam v g ∧ ∀ j : Nat, 1 ≤ j → (j : Int) ≤ (k_mlots v).toInt → (¬ g j = 0 ↔ rch (k_mfrom v) (k_minto v) (k_mlots v) x1.toInt.toNat j) := by
  intro n
  induction n with
  | zero => intro i v hI h5 hx hx2 h1 h2 h3; omega
  | succ n ih =>
    intro i v hI h5 hx hx2 h1 h2 h3 hf
    have m1 := hI.1
    rw [laX5_findFamily_eq]
    by_cases c1 : k_mlots v < i
    · rw [if_pos c1]
      have c1' := i_lt c1 rfl rfl
      obtain ⟨g, a0, a1, a2, a3⟩ := lb_m 43 1 v hI h5 (fun z => absurd z (by decide)) (fun _ => by have := mcnt_le v; omega)
      have hx0 : fm v x1.toInt.toNat := (hf _ (by omega)).mpr ⟨rfl, by omega⟩
      refine ⟨g, a0, fun j j1 j2 => ⟨fun hj => ?_, fun hr => ?_⟩⟩
      · exact a2 (fun j => rch (k_mfrom v) (k_minto v) (k_mlots v) x1.toInt.toNat j) (fun p q hp he => rch_tr hp (rch_1 he)) (fun j hj2 => by
          rw [((hf j (by have := hj2.1.2; omega)).mp hj2).1]; exact rch_rf _) j ⟨⟨j1, j2⟩, hj⟩
      · exact (hr (fun j => fm (s_mfam v g) j) (a1 _ hx0) a3).2
    rw [if_neg c1]
    have c1' := i_nlt c1 rfl rfl
    have e := i_inc (x := i) (by omega)
    have hk := nat_ix (x := i) (by omega)
    have st : ∀ (b : Int32), (¬ b = 0 ↔ i = x1) → ∃ g, laX5_findFamily x1 n (i + 1) (s_mfam v (upd (k_mfam v) i.toNatClampNeg b)) = s_mfam v g ∧ ∀ j : Nat, 1 ≤ j → (j : Int) ≤ (k_mlots v).toInt → (¬ g j = 0 ↔ rch (k_mfrom v) (k_minto v) (k_mlots v) x1.toInt.toNat j) := fun b hb => by
      obtain ⟨g, a0, a1⟩ := ih (i + 1) (s_mfam v (upd (k_mfam v) i.toNatClampNeg b)) hI h5 hx hx2 (by omega) (by show _ ≤ (k_mlots v).toInt + 1; omega) (by show (k_mlots v).toInt + 1 < _; omega) (fun j hj => by
        show ((1 ≤ j ∧ (j : Int) ≤ (k_mlots v).toInt) ∧ ¬ upd (k_mfam v) i.toNatClampNeg b j = 0) ↔ _
        by_cases hji : j = i.toNatClampNeg
        · rw [hji, pk_us, hb]
          constructor
          · rintro ⟨_, q⟩; exact ⟨by rw [← q]; rfl, by omega⟩
          · rintro ⟨q, _⟩
            refine ⟨by omega, Int32.toInt_inj.mp (by omega)⟩
        · rw [pk_un hji]
          have := hf j (by omega)
          unfold fm at this
          rw [this]
          constructor
          · rintro ⟨q, _⟩; exact ⟨q, by omega⟩
          · rintro ⟨q, _⟩; exact ⟨q, by omega⟩)
      exact ⟨g, a0, a1⟩
    by_cases c2 : i = x1
    · rw [if_pos c2]; exact st _ ⟨fun _ => c2, fun _ => by decide⟩
    · rw [if_neg c2]; exact st _ ⟨fun z => absurd (by decide) z, fun z => absurd z c2⟩
theorem fam_m {v : mS} {x1 : Int32} (hI : mInv v) (h5 : rg5 v) (hx : 1 ≤ x1.toInt ∧ x1.toInt ≤ (k_mlots v).toInt) : ∃ g, fX5_findFamily v x1 = s_mfam v g ∧ ∀ j : Nat, 1 ≤ j → (j : Int) ≤ (k_mlots v).toInt → (¬ g j = 0 ↔ rch (k_mfrom v) (k_minto v) (k_mlots v) x1.toInt.toNat j) := by
  have n1 : (1 : Int32).toInt = 1 := by decide
  have m1 := hI.1
  exact la_m 41 1 v hI h5 hx.1 hx.2 (by omega) (by omega) (by omega) (fun j hj => ⟨fun h => by have := h.1.1; omega, fun h => by have := h.1; omega⟩)
