/-! THE RELATION between the class' state and the reference's -/
/-- a lot is open here where it is joined into none there; a lot that isn't yet is joined into none -/
def RO (opn into : Nat → Int32) (nl : Int32) : Prop := (∀ j : Nat, 1 ≤ j → (j : Int) ≤ nl.toInt → opn j = if into j = 0 then 1 else 0) ∧ ∀ j : Nat, nl.toInt < (j : Int) → into j = 0
/-- a lot's rows, in their order -/
def hs (n : Nat) (a b c : Nat → Int32) (l : Int32) : List (Int32 × Int32) := (List.range n).filterMap (fun k => if a k = l then some (b k, c k) else none)
def RH (nr : Int32) (a b c a2 b2 c2 : Nat → Int32) : Prop := ∀ l : Int32, hs nr.toInt.toNat a b c l = hs nr.toInt.toNat a2 b2 c2 l
/-- y was split from x or joined into it -/
def edg (frm into : Nat → Int32) (nl : Int32) (x y : Nat) : Prop := (1 ≤ y ∧ (y : Int) ≤ nl.toInt) ∧ 1 ≤ x ∧ (frm y = nI x ∨ into y = nI x)
/-- y is of x's family -/
def rch (frm into : Nat → Int32) (nl : Int32) (x y : Nat) : Prop := ∀ S : Nat → Prop, S x → (∀ p q, S p → edg frm into nl p q → S q) → S y
def RK (kin : Nat → Int64) (frm into : Nat → Int32) (nl : Int32) : Prop := ∀ a b : Nat, 1 ≤ a → a ≤ 40 → b < 64 → ((kin a).toBitVec.getLsbD b = true ↔ edg frm into nl a b)
/-- where a unit was: its first lot, its lot now; every lot where it was has its first one in the family -/
def RW (was ufirst ulot frm into : Nat → Int32) (nl nu : Int32) : Prop :=
  (∀ t : Nat, 1 ≤ t → (t : Int) ≤ nu.toInt → (1 ≤ (ufirst t).toInt ∧ (ufirst t).toInt ≤ nl.toInt) ∧ (1 ≤ (ulot t).toInt ∧ (ulot t).toInt ≤ nl.toInt) ∧ ¬ was (41 * t + (ufirst t).toInt.toNat) = 0 ∧ ¬ was (41 * t + (ulot t).toInt.toNat) = 0) ∧
  (∀ t k : Nat, 1 ≤ t → (t : Int) ≤ nu.toInt → 1 ≤ k → (k : Int) ≤ nl.toInt → ¬ was (41 * t + k) = 0 → rch frm into nl k (ufirst t).toInt.toNat) ∧
  (∀ t k : Nat, 1 ≤ t → (t : Int) ≤ nu.toInt → k ≤ 40 → nl.toInt < (k : Int) → was (41 * t + k) = 0) ∧
  (∀ t k : Nat, nu.toInt < (t : Int) → k ≤ 40 → was (41 * t + k) = 0)
/-- how many units are gone -/
def cng (ucust : Nat → Int32) : Nat → Nat
  | 0 => 0
  | n + 1 => cng ucust n + (if ucust (n + 1) = (-1) then 0 else 1)
def RG (ng : Int32) (ucust : Nat → Int32) (nu : Int32) : Prop := ng = nI (cng ucust nu.toInt.toNat)
/-- ranges -/
def RR (reas quar last arr : Nat → Int32) (frm into : Nat → Int32) (nl : Int32) : Prop :=
  (∀ j : Nat, 0 ≤ (reas j).toInt ∧ (reas j).toInt < 1024) ∧ (∀ j : Nat, quar j = 0 ∨ quar j = 1) ∧ (∀ j : Nat, 0 ≤ (last j).toInt ∧ (last j).toInt ≤ 36524) ∧ (∀ j : Nat, 0 ≤ (arr j).toInt ∧ (arr j).toInt ≤ 36524) ∧
  (∀ j : Nat, 1 ≤ j → (j : Int) ≤ nl.toInt → (frm j).toInt ≤ nl.toInt ∧ (into j).toInt ≤ nl.toInt) ∧ (∀ j : Nat, nl.toInt < (j : Int) → reas j = 0 ∧ quar j = 0)
def Rel (u : cS) (v : mS) : Prop := cInv u ∧ mInv v ∧
  (k_rot u = k_mrot v ∧ k_mix u = k_mmix v ∧ k_want u = k_mwant v ∧ k_may u = k_mrights v ∧ k_refused u = k_mmixed v 0 ∧ k_hinder u = k_mmixed v 1) ∧
  (k_goods u = k_mgood v ∧ k_owners u = k_mowner v ∧ k_last u = k_muntil v ∧ k_arr u = k_marr v ∧ k_reas u = k_mblk v ∧ k_quar u = k_mquiet v ∧ k_lmade u = k_mlots v) ∧
  (k_ulot u = k_mlotOf v ∧ k_ubin u = k_mbin v ∧ k_ucust u = k_mcust v ∧ k_uday u = k_mwhen v ∧ k_umade u = k_munits v ∧ k_rwrit u = k_mrows v) ∧
  RO (k_open u) (k_minto v) (k_lmade u) ∧ RH (k_rwrit u) (k_rlot u) (k_rkind u) (k_rnum u) (k_mrl v) (k_mrk v) (k_mrn v) ∧ RK (k_kin u) (k_mfrom v) (k_minto v) (k_lmade u) ∧
  RW (k_mwas v) (k_ufirst u) (k_ulot u) (k_mfrom v) (k_minto v) (k_lmade u) (k_umade u) ∧ RG (k_ugone u) (k_ucust u) (k_umade u) ∧ RR (k_reas u) (k_quar u) (k_last u) (k_arr u) (k_mfrom v) (k_minto v) (k_lmade u)
theorem rel_code {u : cS} {v : mS} {x : Int32} (h : Rel u v) : Rel u (s_mcode v x) := h
/-! the two sides' questions -/
theorem br_in (x a b : Int32) : fX4_requireRange x a b = 0 ↔ ¬ fX5_in x a b = 0 := by
  unfold fX4_requireRange fX5_in
  by_cases h1 : x < a
  · rw [if_pos h1, if_pos h1]; decide
  · rw [if_neg h1, if_neg h1]
    by_cases h2 : x ≤ b
    · have h3 : ¬ b < x := fun q => absurd (i_lt q rfl rfl) (Int.not_lt.mpr (i_le h2 rfl rfl))
      rw [if_pos h2, if_neg h3]; decide
    · have h3 : b < x := Int32.lt_iff_toInt_lt.mpr (i_nle h2 rfl rfl)
      rw [if_neg h2, if_pos h3]; decide
theorem br_lot {u : cS} {v : mS} (e : k_lmade u = k_mlots v) (x : Int32) : fX4_requireLot u x = 0 ↔ ¬ fX5_isLot v x = 0 := by
  have h := br_in x 1 (k_lmade u)
  rw [e] at h
  unfold fX4_requireLot
  unfold fX4_requireRange at h
  rw [e]
  unfold fX5_isLot
  by_cases h1 : x < 1
  · rw [if_pos h1] at h ⊢
    exact ⟨fun q => absurd q (by decide), fun q => absurd (h.mpr q) (by decide)⟩
  · rw [if_neg h1] at h ⊢
    by_cases h2 : x ≤ k_mlots v
    · rw [if_pos h2] at h ⊢; exact h
    · rw [if_neg h2] at h ⊢
      exact ⟨fun q => absurd q (by decide), fun q => absurd (h.mpr q) (by decide)⟩
theorem br_unit {u : cS} {v : mS} (e : k_umade u = k_munits v) (x : Int32) : fX4_requireUnit u x = 0 ↔ ¬ fX5_isUnit v x = 0 := by
  have h := br_in x 1 (k_umade u)
  rw [e] at h
  unfold fX4_requireUnit
  unfold fX4_requireRange at h
  rw [e]
  unfold fX5_isUnit
  by_cases h1 : x < 1
  · rw [if_pos h1] at h ⊢
    exact ⟨fun q => absurd q (by decide), fun q => absurd (h.mpr q) (by decide)⟩
  · rw [if_neg h1] at h ⊢
    by_cases h2 : x ≤ k_munits v
    · rw [if_pos h2] at h ⊢; exact h
    · rw [if_neg h2] at h ⊢
      exact ⟨fun q => absurd q (by decide), fun q => absurd (h.mpr q) (by decide)⟩
