/-! recall: the class' family -/
/-- the bit of b in f -/
abbrev bt (f : Int64) (b : Nat) : Bool := f.toBitVec.getLsbD b
theorem bt_cmp {f : Int64} {x : Int32} (h0 : 0 ≤ x.toInt) (h1 : x.toInt < 64) : lg_cmp (f &&& ((1 : Int64) <<< (x.toInt64 &&& 63))) 0 = 0 ↔ bt f x.toInt.toNat = false := by
  rw [lg_cmp_eq]
  have key : ∀ b, b < 64 → (f &&& ((1 : Int64) <<< (x.toInt64 &&& 63))).toBitVec.getLsbD b = (f.toBitVec.getLsbD b && decide (b = x.toInt.toNat)) := fun b hb => by
    rw [Int64.toBitVec_and, BitVec.getLsbD_and, bit_at h0 h1 b hb]
  constructor
  · intro q
    have k := key x.toInt.toNat (by omega)
    rw [q] at k
    simpa using k.symm
  · intro q
    apply Int64.toBitVec_inj.mp
    apply BitVec.eq_of_getLsbD_eq
    intro b hb
    rw [key b hb]
    by_cases hx : b = x.toInt.toNat
    · rw [hx]; unfold bt at q; rw [q]; simp
    · rw [decide_eq_false hx, Bool.and_false]; exact BitVec.getLsbD_zero.symm
theorem bt_or (f g : Int64) (b : Nat) : bt (f ||| g) b = true ↔ bt f b = true ∨ bt g b = true := by
  unfold bt
  rw [Int64.toBitVec_or, BitVec.getLsbD_or]
  simp
/-- how many below n -/
def cb (P : Nat → Bool) : Nat → Nat
  | 0 => 0
  | n + 1 => cb P n + (if P n = true then 1 else 0)
theorem cb_le {P Q : Nat → Bool} (h : ∀ j, P j = true → Q j = true) : ∀ n, cb P n ≤ cb Q n := by
  intro n
  induction n with
  | zero => exact Nat.le_refl _
  | succ n ih =>
    unfold cb
    by_cases hp : P n = true
    · rw [if_pos hp, if_pos (h n hp)]; omega
    · rw [if_neg hp]; omega
theorem cb_lt {P Q : Nat → Bool} (h : ∀ j, P j = true → Q j = true) {j : Nat} (h1 : ¬ P j = true) (h2 : Q j = true) : ∀ n, j < n → cb P n < cb Q n := by
  intro n
  induction n with
  | zero => intro hn; omega
  | succ n ih =>
    intro hn
    unfold cb
    by_cases hj : j = n
    · subst hj
      rw [if_neg h1, if_pos h2]
      have := cb_le h j
      omega
    · have := ih (by omega)
      by_cases hp : P n = true
      · rw [if_pos hp, if_pos (h n hp)]; omega
      · rw [if_neg hp]; omega
theorem cb_pos {P : Nat → Bool} {j : Nat} (h : P j = true) : ∀ n, j < n → 1 ≤ cb P n := by
  intro n
  induction n with
  | zero => intro hn; omega
  | succ n ih =>
    intro hn
    unfold cb
    by_cases hj : j = n
    · subst hj; rw [if_pos h]; omega
    · have := ih (by omega); omega
theorem cb_top {P : Nat → Bool} {m : Nat} (h0 : ¬ P 0 = true) (h : ∀ j, P j = true → j ≤ m) : ∀ n, cb P n ≤ m := by
  have k : ∀ n, cb P n ≤ n - 1 := by
    intro n
    induction n with
    | zero => exact Nat.le_refl _
    | succ n ih =>
      unfold cb
      by_cases hn : n = 0
      · subst hn; rw [if_neg h0]; exact Nat.le_refl _
      · by_cases hp : P n = true
        · rw [if_pos hp]; omega
        · rw [if_neg hp]; omega
  intro n
  induction n with
  | zero => exact Nat.zero_le _
  | succ n ih =>
    by_cases hn : n ≤ m
    · have := k (n + 1); omega
    · unfold cb
      rw [if_neg (fun q => hn (h n q))]; omega
/-- what one pass of the class does -/
theorem pass_c {u : cS} {frm into : Nat → Int32} {nl : Int32} (e2 : k_lmade u = nl) (m1 : 0 ≤ nl.toInt ∧ nl.toInt ≤ 40) (hK : RK (k_kin u) frm into nl) : ∀ (n : Nat) (k : Int32) (f : Int64), 1 ≤ k.toInt → k.toInt ≤ nl.toInt + 1 → nl.toInt + 1 < k.toInt + n →
    (∀ b, bt f b = true → bt (liX1_familyOf u n k f) b = true) ∧
    (∀ S : Nat → Prop, (∀ p q, S p → edg frm into nl p q → S q) → (∀ b, b < 64 → bt f b = true → S b) → ∀ b, b < 64 → bt (liX1_familyOf u n k f) b = true → S b) ∧
    (∀ p q : Nat, k.toInt ≤ (p : Int) → (p : Int) ≤ nl.toInt → bt f p = true → edg frm into nl p q → bt (liX1_familyOf u n k f) q = true) := by
  intro n
  induction n with
  | zero => intro k f h1 h2 h3; omega
  | succ n ih =>
    intro k f h1 h2 h3
    rw [liX1_familyOf_eq, e2]
    by_cases c1 : nl < k
    · rw [if_pos c1]
      have := i_lt c1 rfl rfl
      exact ⟨fun b h => h, fun S _ h => h, fun p q hp hq => by omega⟩
    rw [if_neg c1]
    have c1' := i_nlt c1 rfl rfl
    have e := i_inc (x := k) (by omega)
    have hc := bt_cmp (f := f) (x := k) (by omega) (by omega)
    have hk := nat_ix (x := k) (by omega)
    have hk2 : k.toInt.toNat = k.toNatClampNeg := rfl
    by_cases c2 : lg_cmp (f &&& ((1 : Int64) <<< (k.toInt64 &&& 63))) 0 = 0
    · rw [if_pos c2]
      have c3 := hc.mp c2
      obtain ⟨a1, a2, a3⟩ := ih (k + 1) f (by omega) (by omega) (by omega)
      refine ⟨a1, a2, fun p q hp hq hb he => ?_⟩
      by_cases hpk : p = k.toInt.toNat
      · rw [hpk, c3] at hb; exact absurd hb (by decide)
      · exact a3 p q (by omega) hq hb he
    · rw [if_neg c2]
      have c3 : bt f k.toInt.toNat = true := by
        by_cases q : bt f k.toInt.toNat = true
        · exact q
        · exact absurd (hc.mpr (by simpa using q)) c2
      obtain ⟨a1, a2, a3⟩ := ih (k + 1) (f ||| k_kin u k.toNatClampNeg) (by omega) (by omega) (by omega)
      refine ⟨fun b hb => a1 b ((bt_or _ _ _).mpr (Or.inl hb)), fun S hS h0 => a2 S hS (fun b hb hb2 => ?_), fun p q hp hq hb he => ?_⟩
      · rcases (bt_or _ _ _).mp hb2 with h | h
        · exact h0 b hb h
        · exact hS k.toInt.toNat b (h0 _ (by omega) c3) ((hK k.toNatClampNeg b (by omega) (by omega) hb).mp h)
      · by_cases hpk : p = k.toInt.toNat
        · have hq2 := he.1.2
          subst hpk
          exact a1 q ((bt_or _ _ _).mpr (Or.inr ((hK k.toNatClampNeg q (by omega) (by omega) (by omega)).mpr he)))
        · exact a3 p q (by omega) hq ((bt_or _ _ _).mpr (Or.inl hb)) he
theorem rch_rg {frm into : Nat → Int32} {nl : Int32} {x y : Nat} (hx : 1 ≤ x ∧ (x : Int) ≤ nl.toInt) (h : rch frm into nl x y) : 1 ≤ y ∧ (y : Int) ≤ nl.toInt := h (fun q => 1 ≤ q ∧ (q : Int) ≤ nl.toInt) hx (fun _ _ _ he => he.1)
theorem fam_lo {u : cS} {frm into : Nat → Int32} {nl x1 : Int32} (e2 : k_lmade u = nl) (m1 : 0 ≤ nl.toInt ∧ nl.toInt ≤ 40) (hK : RK (k_kin u) frm into nl) (hx : 1 ≤ x1.toInt ∧ x1.toInt ≤ nl.toInt) : ∀ (n : Nat) (i : Int32) (f : Int64), 1 ≤ i.toInt → i.toInt ≤ nl.toInt + 1 → nl.toInt + 1 < i.toInt + n →
    bt f x1.toInt.toNat = true → (∀ b, b < 64 → bt f b = true → rch frm into nl x1.toInt.toNat b) → ((∀ p q, bt f p = true → edg frm into nl p q → bt f q = true) ∨ i.toInt ≤ (cb (fun b => decide (b < 64) && bt f b) 64 : Int)) →
    ∀ b, b < 64 → (bt (loX1_familyOf u x1 n i f) b = true ↔ rch frm into nl x1.toInt.toNat b) := by
  intro n
  induction n with
  | zero => intro i f h1 h2 h3; omega
  | succ n ih =>
    intro i f h1 h2 h3 hx1 hs hc b hb
    rw [loX1_familyOf_eq, e2]
    by_cases c1 : nl < i
    · rw [if_pos c1]
      have c1' := i_lt c1 rfl rfl
      refine ⟨hs b hb, fun hr => ?_⟩
      have hrg : ∀ j, (decide (j < 64) && bt f j) = true → 1 ≤ j ∧ (j : Int) ≤ nl.toInt := fun j hj => by
        rw [Bool.and_eq_true, decide_eq_true_iff] at hj
        exact rch_rg ⟨by omega, by omega⟩ (hs j hj.1 hj.2)
      rcases hc with hc | hc
      · exact (hr (fun q => q < 64 ∧ bt f q = true) ⟨by omega, hx1⟩ (fun p q hp he => ⟨by have := he.1.2; omega, hc p q hp.2 he⟩)).2
      · have := cb_top (P := fun b => decide (b < 64) && bt f b) (m := nl.toInt.toNat) (fun q => by have := (hrg 0 q).1; omega) (fun j hj => by have := hrg j hj; omega) 64
        omega
    rw [if_neg c1]
    have c1' := i_nlt c1 rfl rfl
    have e := i_inc (x := i) (by omega)
    have n1 : (1 : Int32).toInt = 1 := by decide
    obtain ⟨a1, a2, a3⟩ := pass_c e2 m1 hK 41 1 f (by omega) (by omega) (by omega)
    refine ih (i + 1) (liX1_familyOf u 41 1 f) (by omega) (by omega) (by omega) (a1 _ hx1) (a2 _ (fun p q hp he => rch_tr hp (rch_1 he)) hs) ?_ b hb
    have hrg : ∀ p q, bt f p = true → edg frm into nl p q → (p : Int) ≤ nl.toInt ∧ 1 ≤ p := fun p q hp he => by
      have hp64 : p < 64 := by
        by_cases h : p < 64
        · exact h
        · exact absurd hp (by unfold bt; rw [BitVec.getLsbD_of_ge _ _ (by omega)]; decide)
      have := rch_rg (x := x1.toInt.toNat) ⟨by omega, by omega⟩ (hs p hp64 hp)
      exact ⟨this.2, this.1⟩
    by_cases hcl : ∀ p q, bt f p = true → edg frm into nl p q → bt f q = true
    · refine Or.inl (fun p q hp he => ?_)
      have hp64 : p < 64 := by
        by_cases h : p < 64
        · exact h
        · exact absurd hp (by unfold bt; rw [BitVec.getLsbD_of_ge _ _ (by omega)]; decide)
      have := a2 (fun b => bt f b = true) hcl (fun _ _ h => h) p hp64 hp
      exact a1 q (hcl p q this he)
    · refine Or.inr ?_
      rcases hc with hc | hc
      · exact absurd hc hcl
      · obtain ⟨p, hcl⟩ := Classical.not_forall.mp hcl
        obtain ⟨q, hcl⟩ := Classical.not_forall.mp hcl
        obtain ⟨hp, hcl⟩ := Classical.not_imp.mp hcl
        obtain ⟨he, hq⟩ := Classical.not_imp.mp hcl
        have hpr := hrg p q hp he
        have hq2 := a3 p q (by omega) hpr.1 hp he
        have hq3 := he.1.2
        have := cb_lt (P := fun b => decide (b < 64) && bt f b) (Q := fun b => decide (b < 64) && bt (liX1_familyOf u 41 1 f) b) (fun j hj => by
          rw [Bool.and_eq_true] at hj ⊢
          exact ⟨hj.1, a1 j hj.2⟩) (j := q) (by rw [Bool.and_eq_true]; exact fun z => hq z.2) (by rw [Bool.and_eq_true, decide_eq_true_iff]; exact ⟨by omega, hq2⟩) 64 (by omega)
        omega
theorem fam_c {u : cS} {frm into : Nat → Int32} {nl x1 : Int32} (e2 : k_lmade u = nl) (m1 : 0 ≤ nl.toInt ∧ nl.toInt ≤ 40) (hK : RK (k_kin u) frm into nl) (hx : 1 ≤ x1.toInt ∧ x1.toInt ≤ nl.toInt) (b : Nat) (hb : b < 64) : bt (fX1_familyOf u x1) b = true ↔ rch frm into nl x1.toInt.toNat b := by
  have n1 : (1 : Int32).toInt = 1 := by decide
  have k : ∀ b, b < 64 → (bt ((1 : Int64) <<< (x1.toInt64 &&& 63)) b = true ↔ b = x1.toInt.toNat) := fun b hb => by
    unfold bt
    rw [bit_at (by omega) (by omega) b hb, decide_eq_true_iff]
  unfold fX1_familyOf
  refine fam_lo e2 m1 hK hx 41 1 _ (by omega) (by omega) (by omega) ((k _ (by omega)).mpr rfl) (fun b hb h => ?_) (Or.inr ?_) b hb
  · rw [(k b hb).mp h]; exact rch_rf _
  · have := cb_pos (P := fun b => decide (b < 64) && bt ((1 : Int64) <<< (x1.toInt64 &&& 63)) b) (j := x1.toInt.toNat) (by rw [Bool.and_eq_true, decide_eq_true_iff]; exact ⟨by omega, (k _ (by omega)).mpr rfl⟩) 64 (by omega)
    omega
