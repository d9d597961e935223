/-! history -/
def hl (a b c : Nat → Int32) (l : Int32) (j m : Nat) : List (Int32 × Int32) := (List.range' j m).filterMap (fun k => if a k = l then some (b k, c k) else none)
theorem hl_hs (a b c : Nat → Int32) (l : Int32) (n : Nat) : hs n a b c l = hl a b c l 0 n := by
  unfold hs hl
  rw [List.range_eq_range']
theorem hl_0 (a b c : Nat → Int32) (l : Int32) (j : Nat) : hl a b c l j 0 = [] := rfl
theorem hl_in {a b c : Nat → Int32} {l : Int32} {j m : Nat} (h : a j = l) : hl a b c l j (m + 1) = (b j, c j) :: hl a b c l (j + 1) m := by
  unfold hl
  rw [List.range'_succ, List.filterMap_cons, if_pos h]
theorem hl_out {a b c : Nat → Int32} {l : Int32} {j m : Nat} (h : ¬ a j = l) : hl a b c l j (m + 1) = hl a b c l (j + 1) m := by
  unfold hl
  rw [List.range'_succ, List.filterMap_cons, if_neg h]
theorem nI_ix {j : Nat} (h : j < 2 ^ 31) : (nI j).toNatClampNeg = j := by
  show (nI j).toInt.toNat = j
  rw [nI_toInt h]; rfl
theorem nI_m1 {j : Nat} (h : j < 2 ^ 31) : ¬ nI j = -1 := fun q => by
  have := congrArg Int32.toInt q
  rw [nI_toInt h, show (-1 : Int32).toInt = -1 from by decide] at this
  omega
theorem find_hs {u : cS} {x1 x2 : Int32} {nr : Nat} (hr : (k_rwrit u).toInt = nr) (hr2 : nr ≤ 400) : ∀ (m j n : Nat) (a : Int32), j + m = nr → m < n → 0 ≤ a.toInt → a.toInt ≤ x2.toInt → a.toInt ≤ j → ((hl (k_rlot u) (k_rkind u) (k_rnum u) x1 j m)[(x2.toInt - a.toInt).toNat]? = none ∧ lpX2_find u x1 x2 n (nI j) a = -1) ∨ ∃ r : Nat, r < nr ∧ (hl (k_rlot u) (k_rkind u) (k_rnum u) x1 j m)[(x2.toInt - a.toInt).toNat]? = some (k_rkind u r, k_rnum u r) ∧ lpX2_find u x1 x2 n (nI j) a = nI r := by
  intro m
  induction m with
  | zero =>
    intro j n a hj hn h0 h1 h2
    obtain ⟨n, rfl⟩ : ∃ k, n = k + 1 := ⟨n - 1, by omega⟩
    rw [lpX2_find_eq, if_pos (Int32.le_iff_toInt_le.mpr (by rw [nI_toInt (by omega)]; omega)), hl_0]
    exact Or.inl ⟨rfl, rfl⟩
  | succ m ih =>
    intro j n a hj hn h0 h1 h2
    obtain ⟨n, rfl⟩ : ∃ k, n = k + 1 := ⟨n - 1, by omega⟩
    have ej := nI_toInt (n := j) (by omega)
    rw [lpX2_find_eq, if_neg (fun q => by have := i_le q rfl rfl; omega), nI_ix (by omega), ← nI_s (by omega)]
    by_cases c1 : k_rlot u j = x1
    · rw [if_pos c1, hl_in c1]
      by_cases c2 : a = x2
      · rw [if_pos c2]
        subst c2
        refine Or.inr ⟨j, by omega, ?_, rfl⟩
        rw [show (a.toInt - a.toInt).toNat = 0 from by omega]; rfl
      · rw [if_neg c2]
        have c2' := i_ne c2 rfl rfl
        have ea := i_inc (x := a) (by omega)
        have k := ih (j + 1) n (a + 1) (by omega) (by omega) (by omega) (by omega) (by omega)
        have e : (x2.toInt - a.toInt).toNat = (x2.toInt - (a + 1).toInt).toNat + 1 := by omega
        rw [e, List.getElem?_cons_succ]
        exact k
    · rw [if_neg c1, hl_out c1]
      exact ih (j + 1) n a (by omega) (by omega) h0 h1 (by omega)
theorem find_neg {u : cS} {x1 x2 : Int32} {nr : Nat} (hr : (k_rwrit u).toInt = nr) (hr2 : nr ≤ 400) (hx : x2.toInt < 0) : ∀ (m j n : Nat) (a : Int32), j + m = nr → m < n → 0 ≤ a.toInt → a.toInt ≤ j → lpX2_find u x1 x2 n (nI j) a = -1 := by
  intro m
  induction m with
  | zero =>
    intro j n a hj hn h0 h2
    obtain ⟨n, rfl⟩ : ∃ k, n = k + 1 := ⟨n - 1, by omega⟩
    rw [lpX2_find_eq, if_pos (Int32.le_iff_toInt_le.mpr (by rw [nI_toInt (by omega)]; omega))]
  | succ m ih =>
    intro j n a hj hn h0 h2
    obtain ⟨n, rfl⟩ : ∃ k, n = k + 1 := ⟨n - 1, by omega⟩
    have ej := nI_toInt (n := j) (by omega)
    rw [lpX2_find_eq, if_neg (fun q => by have := i_le q rfl rfl; omega), ← nI_s (by omega)]
    by_cases c1 : k_rlot u (nI j).toNatClampNeg = x1
    · rw [if_pos c1, if_neg (fun q => by have := i_eq q rfl rfl; omega)]
      have ea := i_inc (x := a) (by omega)
      exact ih (j + 1) n (a + 1) (by omega) (by omega) (by omega) (by omega)
    · rw [if_neg c1]
      exact ih (j + 1) n a (by omega) (by omega) h0 (by omega)
def hfin (v : mS) (x3 b : Int32) : Int32 × mS :=
  if b = (-1) then (0, s_mcode v 1) else if fX5_in x3 0 1 = 0 then (0, s_mcode v 2) else if x3 = 0 then (k_mrk v b.toNatClampNeg, s_mcode v 0) else (k_mrn v b.toNatClampNeg, s_mcode v 0)
theorem hist_out {v : mS} {x1 x2 x3 a : Int32} {n : Nat} (h : fX5_isLot v x1 = 0 ∨ x2 < 0) : lpX5_history v x1 x2 x3 (n + 1) 0 (-1) a = (0, s_mcode v 1) := by
  rw [lpX5_history_eq, if_pos (rfl : (-1 : Int32) = -1)]
  by_cases c1 : k_mrows v ≤ 0
  · rw [if_pos c1]
  rw [if_neg c1]
  by_cases c2 : fX5_isLot v x1 = 0
  · rw [if_pos c2]
  rw [if_neg c2, if_pos (h.resolve_left c2)]
theorem hist_neg {v : mS} {x1 x2 x3 : Int32} {nr : Nat} (hr : (k_mrows v).toInt = nr) (hr2 : nr ≤ 400) (hl1 : ¬ fX5_isLot v x1 = 0) (hx : ¬ x2 < 0) : ∀ (m j n : Nat) (a b : Int32), j + m = nr → m < n → a.toInt < 0 → -1000000 + (m : Int) ≤ a.toInt → lpX5_history v x1 x2 x3 n (nI j) b a = hfin v x3 b := by
  intro m
  induction m with
  | zero =>
    intro j n a b hj hn h0 h2
    obtain ⟨n, rfl⟩ : ∃ k, n = k + 1 := ⟨n - 1, by omega⟩
    rw [lpX5_history_eq, if_pos (Int32.le_iff_toInt_le.mpr (by rw [nI_toInt (by omega)]; omega))]
    rfl
  | succ m ih =>
    intro j n a b hj hn h0 h2
    obtain ⟨n, rfl⟩ : ∃ k, n = k + 1 := ⟨n - 1, by omega⟩
    have ej := nI_toInt (n := j) (by omega)
    rw [lpX5_history_eq, if_neg (fun q => by have := i_le q rfl rfl; omega), ← nI_s (by omega), if_neg hl1, if_neg hx]
    have ea := i_dec (x := a) (by omega)
    by_cases c1 : k_mrl v (nI j).toNatClampNeg = x1
    · rw [if_pos c1, if_neg (fun q => by have := i_eq q rfl (by decide : (0 : Int32).toInt = 0); omega)]
      exact ih (j + 1) n _ b (by omega) (by omega) (by omega) (by omega)
    · rw [if_neg c1]
      exact ih (j + 1) n a b (by omega) (by omega) h0 (by omega)
theorem hist_hs {v : mS} {x1 x2 x3 : Int32} {nr : Nat} (hr : (k_mrows v).toInt = nr) (hr2 : nr ≤ 400) (hl1 : ¬ fX5_isLot v x1 = 0) (hx : ¬ x2 < 0) : ∀ (m j n : Nat) (a : Int32), j + m = nr → m < n → 0 ≤ a.toInt → ((hl (k_mrl v) (k_mrk v) (k_mrn v) x1 j m)[a.toInt.toNat]? = none ∧ lpX5_history v x1 x2 x3 n (nI j) (-1) a = hfin v x3 (-1)) ∨ ∃ r : Nat, r < nr ∧ (hl (k_mrl v) (k_mrk v) (k_mrn v) x1 j m)[a.toInt.toNat]? = some (k_mrk v r, k_mrn v r) ∧ lpX5_history v x1 x2 x3 n (nI j) (-1) a = hfin v x3 (nI r) := by
  intro m
  induction m with
  | zero =>
    intro j n a hj hn h0
    obtain ⟨n, rfl⟩ : ∃ k, n = k + 1 := ⟨n - 1, by omega⟩
    rw [lpX5_history_eq, if_pos (Int32.le_iff_toInt_le.mpr (by rw [nI_toInt (by omega)]; omega)), hl_0]
    exact Or.inl ⟨rfl, rfl⟩
  | succ m ih =>
    intro j n a hj hn h0
    obtain ⟨n, rfl⟩ : ∃ k, n = k + 1 := ⟨n - 1, by omega⟩
    have ej := nI_toInt (n := j) (by omega)
    rw [lpX5_history_eq, if_neg (fun q => by have := i_le q rfl rfl; omega), nI_ix (by omega), ← nI_s (by omega), if_neg hl1, if_neg hx]
    have ea := i_dec (x := a) (by omega)
    by_cases c1 : k_mrl v j = x1
    · rw [if_pos c1, hl_in c1]
      by_cases c2 : a = 0
      · rw [if_pos c2]
        have c2' := i_eq c2 rfl (by decide : (0 : Int32).toInt = 0)
        refine Or.inr ⟨j, by omega, ?_, ?_⟩
        · rw [show a.toInt.toNat = 0 from by omega]; rfl
        · exact hist_neg hr hr2 hl1 hx m (j + 1) n _ _ (by omega) (by omega) (by omega) (by omega)
      · rw [if_neg c2]
        have c2' := i_ne c2 rfl (by decide : (0 : Int32).toInt = 0)
        have k := ih (j + 1) n (a + (-1)) (by omega) (by omega) (by omega)
        have e : a.toInt.toNat = (a + (-1)).toInt.toNat + 1 := by omega
        rw [e, List.getElem?_cons_succ]
        exact k
    · rw [if_neg c1, hl_out c1]
      exact ih (j + 1) n a (by omega) (by omega) h0
theorem rel_history : stp_history Rel := by
  intro u v x1 x2 x3 h
  have e1 : k_rwrit u = k_mrows v := h.2.2.2.2.1.2.2.2.2.2
  have e2 : k_lmade u = k_mlots v := h.2.2.2.1.2.2.2.2.2.2
  have m3 := h.2.1.2.2.1
  have hr : (k_mrows v).toInt = ((k_mrows v).toInt.toNat : Int) := by omega
  have hru : (k_rwrit u).toInt = ((k_mrows v).toInt.toNat : Int) := by rw [e1]; exact hr
  have hr2 : (k_mrows v).toInt.toNat ≤ 400 := by omega
  have hH := h.2.2.2.2.2.2.1 x1
  rw [e1, hl_hs, hl_hs] at hH
  unfold fX4_history fX5_history
  by_cases c1 : fX5_isLot v x1 = 0
  · rw [if_neg (fun q => (br_lot e2 _).mp q c1), hist_out (Or.inl c1)]; exact ⟨rfl, fun q => nz q, rel_code h⟩
  rw [if_pos ((br_lot e2 _).mpr c1)]
  have n0 : (0 : Int32).toInt = 0 := by decide
  unfold fX2_find
  by_cases c2 : x2 < 0
  · have c2' := i_lt c2 rfl n0
    rw [hist_out (Or.inr c2), show (0 : Int32) = nI 0 from rfl, if_pos (find_neg hru hr2 c2' (k_mrows v).toInt.toNat 0 401 (nI 0) (by omega) (by omega) (by decide) (by decide))]
    exact ⟨rfl, fun q => nz q, rel_code h⟩
  have c2' := i_nlt c2 rfl n0
  have k1 := find_hs hru hr2 (x1 := x1) (x2 := x2) (k_mrows v).toInt.toNat 0 401 0 (by omega) (by omega) (by decide) (by omega) (by decide)
  have k2 := hist_hs hr hr2 c1 c2 (x3 := x3) (k_mrows v).toInt.toNat 0 401 x2 (by omega) (by omega) c2'
  rw [n0, Int.sub_zero, hH] at k1
  have z0 : nI 0 = 0 := rfl
  rw [z0] at k1 k2
  rcases k1 with ⟨p1, p2⟩ | ⟨r, p1, p2, p3⟩
  · rcases k2 with ⟨q1, q2⟩ | ⟨r2, q1, q2, q3⟩
    · rw [p2, q2, if_pos rfl]
      exact ⟨rfl, fun q => nz q, rel_code h⟩
    · rw [p1] at q2; cases q2
  · rcases k2 with ⟨q1, q2⟩ | ⟨r2, q1, q2, q3⟩
    · rw [p2] at q1; cases q1
    · rw [p2] at q2
      injection q2 with q2
      injection q2 with q4 q5
      rw [p3, q3, if_neg (nI_m1 (by omega))]
      unfold hfin
      rw [if_neg (nI_m1 (by omega)), nI_ix (by omega), nI_ix (by omega)]
      by_cases c3 : fX5_in x3 0 1 = 0
      · rw [if_neg (fun q => (br_in _ _ _).mp q c3), if_pos c3]; exact ⟨rfl, fun q => nz q, rel_code h⟩
      rw [if_pos ((br_in _ _ _).mpr c3), if_neg c3]
      by_cases c4 : x3 = 0
      · rw [if_pos c4, if_pos c4]; exact ⟨rfl, fun _ => q4, rel_code h⟩
      · rw [if_neg c4, if_neg c4]; exact ⟨rfl, fun _ => q5, rel_code h⟩
