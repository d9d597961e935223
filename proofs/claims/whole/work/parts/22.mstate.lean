abbrev mS : Type := (Int32 × Int32 × Int32 × Int32) × ((Nat → Int32) × (Nat → Int32) × (Nat → Int32) × (Nat → Int32) × (Nat → Int32) × (Nat → Int32) × (Nat → Int32) × (Nat → Int32)) × ((Nat → Int32) × (Nat → Int32) × (Nat → Int32) × (Nat → Int32)) × ((Nat → Int32) × (Nat → Int32) × (Nat → Int32) × (Nat → Int32) × (Nat → Int32)) × ((Nat → Int32) × (Nat → Int32) × (Nat → Int32) × (Nat → Int32) × (Nat → Int32))
def k_mcode (u : mS) : Int32 := u.1.1
def s_mcode (u : mS) (x : Int32) : mS := ((x, u.1.2), u.2)
def k_mlots (u : mS) : Int32 := u.1.2.1
def s_mlots (u : mS) (x : Int32) : mS := ((u.1.1, (x, u.1.2.2)), u.2)
def k_munits (u : mS) : Int32 := u.1.2.2.1
def s_munits (u : mS) (x : Int32) : mS := ((u.1.1, (u.1.2.1, (x, u.1.2.2.2))), u.2)
def k_mrows (u : mS) : Int32 := u.1.2.2.2
def s_mrows (u : mS) (x : Int32) : mS := ((u.1.1, (u.1.2.1, (u.1.2.2.1, x))), u.2)
def k_mgood (u : mS) : Nat → Int32 := u.2.1.1
def s_mgood (u : mS) (x : Nat → Int32) : mS := (u.1, ((x, u.2.1.2), u.2.2))
def k_mowner (u : mS) : Nat → Int32 := u.2.1.2.1
def s_mowner (u : mS) (x : Nat → Int32) : mS := (u.1, ((u.2.1.1, (x, u.2.1.2.2)), u.2.2))
def k_muntil (u : mS) : Nat → Int32 := u.2.1.2.2.1
def s_muntil (u : mS) (x : Nat → Int32) : mS := (u.1, ((u.2.1.1, (u.2.1.2.1, (x, u.2.1.2.2.2))), u.2.2))
def k_marr (u : mS) : Nat → Int32 := u.2.1.2.2.2.1
def s_marr (u : mS) (x : Nat → Int32) : mS := (u.1, ((u.2.1.1, (u.2.1.2.1, (u.2.1.2.2.1, (x, u.2.1.2.2.2.2)))), u.2.2))
def k_mfrom (u : mS) : Nat → Int32 := u.2.1.2.2.2.2.1
def s_mfrom (u : mS) (x : Nat → Int32) : mS := (u.1, ((u.2.1.1, (u.2.1.2.1, (u.2.1.2.2.1, (u.2.1.2.2.2.1, (x, u.2.1.2.2.2.2.2))))), u.2.2))
def k_minto (u : mS) : Nat → Int32 := u.2.1.2.2.2.2.2.1
def s_minto (u : mS) (x : Nat → Int32) : mS := (u.1, ((u.2.1.1, (u.2.1.2.1, (u.2.1.2.2.1, (u.2.1.2.2.2.1, (u.2.1.2.2.2.2.1, (x, u.2.1.2.2.2.2.2.2)))))), u.2.2))
def k_mblk (u : mS) : Nat → Int32 := u.2.1.2.2.2.2.2.2.1
def s_mblk (u : mS) (x : Nat → Int32) : mS := (u.1, ((u.2.1.1, (u.2.1.2.1, (u.2.1.2.2.1, (u.2.1.2.2.2.1, (u.2.1.2.2.2.2.1, (u.2.1.2.2.2.2.2.1, (x, u.2.1.2.2.2.2.2.2.2))))))), u.2.2))
def k_mquiet (u : mS) : Nat → Int32 := u.2.1.2.2.2.2.2.2.2
def s_mquiet (u : mS) (x : Nat → Int32) : mS := (u.1, ((u.2.1.1, (u.2.1.2.1, (u.2.1.2.2.1, (u.2.1.2.2.2.1, (u.2.1.2.2.2.2.1, (u.2.1.2.2.2.2.2.1, (u.2.1.2.2.2.2.2.2.1, x))))))), u.2.2))
def k_mrot (u : mS) : Nat → Int32 := u.2.2.1.1
def s_mrot (u : mS) (x : Nat → Int32) : mS := (u.1, (u.2.1, ((x, u.2.2.1.2), u.2.2.2)))
def k_mmix (u : mS) : Nat → Int32 := u.2.2.1.2.1
def s_mmix (u : mS) (x : Nat → Int32) : mS := (u.1, (u.2.1, ((u.2.2.1.1, (x, u.2.2.1.2.2)), u.2.2.2)))
def k_mwant (u : mS) : Nat → Int32 := u.2.2.1.2.2.1
def s_mwant (u : mS) (x : Nat → Int32) : mS := (u.1, (u.2.1, ((u.2.2.1.1, (u.2.2.1.2.1, (x, u.2.2.1.2.2.2))), u.2.2.2)))
def k_mrights (u : mS) : Nat → Int32 := u.2.2.1.2.2.2
def s_mrights (u : mS) (x : Nat → Int32) : mS := (u.1, (u.2.1, ((u.2.2.1.1, (u.2.2.1.2.1, (u.2.2.1.2.2.1, x))), u.2.2.2)))
def k_mlotOf (u : mS) : Nat → Int32 := u.2.2.2.1.1
def s_mlotOf (u : mS) (x : Nat → Int32) : mS := (u.1, (u.2.1, (u.2.2.1, ((x, u.2.2.2.1.2), u.2.2.2.2))))
def k_mbin (u : mS) : Nat → Int32 := u.2.2.2.1.2.1
def s_mbin (u : mS) (x : Nat → Int32) : mS := (u.1, (u.2.1, (u.2.2.1, ((u.2.2.2.1.1, (x, u.2.2.2.1.2.2)), u.2.2.2.2))))
def k_mcust (u : mS) : Nat → Int32 := u.2.2.2.1.2.2.1
def s_mcust (u : mS) (x : Nat → Int32) : mS := (u.1, (u.2.1, (u.2.2.1, ((u.2.2.2.1.1, (u.2.2.2.1.2.1, (x, u.2.2.2.1.2.2.2))), u.2.2.2.2))))
def k_mwhen (u : mS) : Nat → Int32 := u.2.2.2.1.2.2.2.1
def s_mwhen (u : mS) (x : Nat → Int32) : mS := (u.1, (u.2.1, (u.2.2.1, ((u.2.2.2.1.1, (u.2.2.2.1.2.1, (u.2.2.2.1.2.2.1, (x, u.2.2.2.1.2.2.2.2)))), u.2.2.2.2))))
def k_mwas (u : mS) : Nat → Int32 := u.2.2.2.1.2.2.2.2
def s_mwas (u : mS) (x : Nat → Int32) : mS := (u.1, (u.2.1, (u.2.2.1, ((u.2.2.2.1.1, (u.2.2.2.1.2.1, (u.2.2.2.1.2.2.1, (u.2.2.2.1.2.2.2.1, x)))), u.2.2.2.2))))
def k_mrl (u : mS) : Nat → Int32 := u.2.2.2.2.1
def s_mrl (u : mS) (x : Nat → Int32) : mS := (u.1, (u.2.1, (u.2.2.1, (u.2.2.2.1, (x, u.2.2.2.2.2)))))
def k_mrk (u : mS) : Nat → Int32 := u.2.2.2.2.2.1
def s_mrk (u : mS) (x : Nat → Int32) : mS := (u.1, (u.2.1, (u.2.2.1, (u.2.2.2.1, (u.2.2.2.2.1, (x, u.2.2.2.2.2.2))))))
def k_mrn (u : mS) : Nat → Int32 := u.2.2.2.2.2.2.1
def s_mrn (u : mS) (x : Nat → Int32) : mS := (u.1, (u.2.1, (u.2.2.1, (u.2.2.2.1, (u.2.2.2.2.1, (u.2.2.2.2.2.1, (x, u.2.2.2.2.2.2.2)))))))
def k_mmixed (u : mS) : Nat → Int32 := u.2.2.2.2.2.2.2.1
def s_mmixed (u : mS) (x : Nat → Int32) : mS := (u.1, (u.2.1, (u.2.2.1, (u.2.2.2.1, (u.2.2.2.2.1, (u.2.2.2.2.2.1, (u.2.2.2.2.2.2.1, (x, u.2.2.2.2.2.2.2.2))))))))
def k_mfam (u : mS) : Nat → Int32 := u.2.2.2.2.2.2.2.2
def s_mfam (u : mS) (x : Nat → Int32) : mS := (u.1, (u.2.1, (u.2.2.1, (u.2.2.2.1, (u.2.2.2.2.1, (u.2.2.2.2.2.1, (u.2.2.2.2.2.2.1, (u.2.2.2.2.2.2.2.1, x))))))))
def mw (g : cG) (h : Nat → Nat) (u : mS) : va_W := [
  (h 0, .inr (4, [.int (k_mcode u), .int (k_mlots u), .ref (h 1), .ref (h 2), .ref (h 3), .ref (h 4), .ref (h 5), .ref (h 6), .ref (h 7), .ref (h 8), .ref (h 9), .ref (h 10), .ref (h 11), .ref (h 12), .int (k_munits u), .ref (h 13), .ref (h 14), .ref (h 15), .ref (h 16), .ref (h 17), .int (k_mrows u), .ref (h 18), .ref (h 19), .ref (h 20), .ref (h 21), .ref (h 22)])),
  (h 1, .inl (g.1, 41, .inl (k_mgood u))),
  (h 2, .inl (g.1, 41, .inl (k_mowner u))),
  (h 3, .inl (g.1, 41, .inl (k_muntil u))),
  (h 4, .inl (g.1, 41, .inl (k_marr u))),
  (h 5, .inl (g.1, 41, .inl (k_mfrom u))),
  (h 6, .inl (g.1, 41, .inl (k_minto u))),
  (h 7, .inl (g.1, 41, .inl (k_mblk u))),
  (h 8, .inl (g.2.1, 41, .inl (k_mquiet u))),
  (h 9, .inl (g.1, 8, .inl (k_mrot u))),
  (h 10, .inl (g.1, 8, .inl (k_mmix u))),
  (h 11, .inl (g.1, 8, .inl (k_mwant u))),
  (h 12, .inl (g.1, 8, .inl (k_mrights u))),
  (h 13, .inl (g.1, 121, .inl (k_mlotOf u))),
  (h 14, .inl (g.1, 121, .inl (k_mbin u))),
  (h 15, .inl (g.1, 121, .inl (k_mcust u))),
  (h 16, .inl (g.1, 121, .inl (k_mwhen u))),
  (h 17, .inl (g.2.1, 4961, .inl (k_mwas u))),
  (h 18, .inl (g.1, 400, .inl (k_mrl u))),
  (h 19, .inl (g.1, 400, .inl (k_mrk u))),
  (h 20, .inl (g.1, 400, .inl (k_mrn u))),
  (h 21, .inl (g.1, 2, .inl (k_mmixed u))),
  (h 22, .inl (g.2.1, 41, .inl (k_mfam u)))]
theorem mw_at0 (g : cG) (h : Nat → Nat) (u : mS) : (mw g h u)[0]? = some (h 0, .inr (4, [.int (k_mcode u), .int (k_mlots u), .ref (h 1), .ref (h 2), .ref (h 3), .ref (h 4), .ref (h 5), .ref (h 6), .ref (h 7), .ref (h 8), .ref (h 9), .ref (h 10), .ref (h 11), .ref (h 12), .int (k_munits u), .ref (h 13), .ref (h 14), .ref (h 15), .ref (h 16), .ref (h 17), .int (k_mrows u), .ref (h 18), .ref (h 19), .ref (h 20), .ref (h 21), .ref (h 22)])) := rfl
theorem mw_at1 (g : cG) (h : Nat → Nat) (u : mS) : (mw g h u)[1]? = some (h 1, .inl (g.1, 41, .inl (k_mgood u))) := rfl
theorem mw_at2 (g : cG) (h : Nat → Nat) (u : mS) : (mw g h u)[2]? = some (h 2, .inl (g.1, 41, .inl (k_mowner u))) := rfl
theorem mw_at3 (g : cG) (h : Nat → Nat) (u : mS) : (mw g h u)[3]? = some (h 3, .inl (g.1, 41, .inl (k_muntil u))) := rfl
theorem mw_at4 (g : cG) (h : Nat → Nat) (u : mS) : (mw g h u)[4]? = some (h 4, .inl (g.1, 41, .inl (k_marr u))) := rfl
theorem mw_at5 (g : cG) (h : Nat → Nat) (u : mS) : (mw g h u)[5]? = some (h 5, .inl (g.1, 41, .inl (k_mfrom u))) := rfl
theorem mw_at6 (g : cG) (h : Nat → Nat) (u : mS) : (mw g h u)[6]? = some (h 6, .inl (g.1, 41, .inl (k_minto u))) := rfl
theorem mw_at7 (g : cG) (h : Nat → Nat) (u : mS) : (mw g h u)[7]? = some (h 7, .inl (g.1, 41, .inl (k_mblk u))) := rfl
theorem mw_at8 (g : cG) (h : Nat → Nat) (u : mS) : (mw g h u)[8]? = some (h 8, .inl (g.2.1, 41, .inl (k_mquiet u))) := rfl
theorem mw_at9 (g : cG) (h : Nat → Nat) (u : mS) : (mw g h u)[9]? = some (h 9, .inl (g.1, 8, .inl (k_mrot u))) := rfl
theorem mw_at10 (g : cG) (h : Nat → Nat) (u : mS) : (mw g h u)[10]? = some (h 10, .inl (g.1, 8, .inl (k_mmix u))) := rfl
theorem mw_at11 (g : cG) (h : Nat → Nat) (u : mS) : (mw g h u)[11]? = some (h 11, .inl (g.1, 8, .inl (k_mwant u))) := rfl
theorem mw_at12 (g : cG) (h : Nat → Nat) (u : mS) : (mw g h u)[12]? = some (h 12, .inl (g.1, 8, .inl (k_mrights u))) := rfl
theorem mw_at13 (g : cG) (h : Nat → Nat) (u : mS) : (mw g h u)[13]? = some (h 13, .inl (g.1, 121, .inl (k_mlotOf u))) := rfl
theorem mw_at14 (g : cG) (h : Nat → Nat) (u : mS) : (mw g h u)[14]? = some (h 14, .inl (g.1, 121, .inl (k_mbin u))) := rfl
theorem mw_at15 (g : cG) (h : Nat → Nat) (u : mS) : (mw g h u)[15]? = some (h 15, .inl (g.1, 121, .inl (k_mcust u))) := rfl
theorem mw_at16 (g : cG) (h : Nat → Nat) (u : mS) : (mw g h u)[16]? = some (h 16, .inl (g.1, 121, .inl (k_mwhen u))) := rfl
theorem mw_at17 (g : cG) (h : Nat → Nat) (u : mS) : (mw g h u)[17]? = some (h 17, .inl (g.2.1, 4961, .inl (k_mwas u))) := rfl
theorem mw_at18 (g : cG) (h : Nat → Nat) (u : mS) : (mw g h u)[18]? = some (h 18, .inl (g.1, 400, .inl (k_mrl u))) := rfl
theorem mw_at19 (g : cG) (h : Nat → Nat) (u : mS) : (mw g h u)[19]? = some (h 19, .inl (g.1, 400, .inl (k_mrk u))) := rfl
theorem mw_at20 (g : cG) (h : Nat → Nat) (u : mS) : (mw g h u)[20]? = some (h 20, .inl (g.1, 400, .inl (k_mrn u))) := rfl
theorem mw_at21 (g : cG) (h : Nat → Nat) (u : mS) : (mw g h u)[21]? = some (h 21, .inl (g.1, 2, .inl (k_mmixed u))) := rfl
theorem mw_at22 (g : cG) (h : Nat → Nat) (u : mS) : (mw g h u)[22]? = some (h 22, .inl (g.2.1, 41, .inl (k_mfam u))) := rfl
/-- what every state of the reference keeps -/
def mInv (u : mS) : Prop := (0 ≤ (k_mlots u).toInt ∧ (k_mlots u).toInt ≤ 40) ∧ (0 ≤ (k_munits u).toInt ∧ (k_munits u).toInt ≤ 120) ∧ (0 ≤ (k_mrows u).toInt ∧ (k_mrows u).toInt ≤ 400) ∧ (∀ j : Nat, 0 ≤ (k_mowner u j).toInt ∧ (k_mowner u j).toInt < 8) ∧ (∀ j : Nat, 0 ≤ (k_mlotOf u j).toInt ∧ (k_mlotOf u j).toInt ≤ 40) ∧ (∀ j : Nat, 0 ≤ (k_mfrom u j).toInt ∧ (k_mfrom u j).toInt ≤ 40) ∧ (∀ j : Nat, 0 ≤ (k_minto u j).toInt ∧ (k_minto u j).toInt ≤ 40)
/-- how many of the family's flags are down -/
def mcnt (v : mS) : Nat := ((List.range 41).filter (fun j => decide (k_mfam v j = 0))).length
theorem mcnt_le (v : mS) : mcnt v ≤ 41 := by
  unfold mcnt
  exact Nat.le_trans (List.length_filter_le _ _) (by rw [List.length_range]; exact Nat.le_refl _)
theorem cnt_upd {f : Nat → Int32} {j : Nat} {x : Int32} (hx : ¬ x = 0) (h0 : f j = 0) : ∀ n : Nat, ((List.range n).filter (fun q => decide (upd f j x q = 0))).length + (if j < n then 1 else 0) = ((List.range n).filter (fun q => decide (f q = 0))).length := by
  intro n
  induction n with
  | zero => rfl
  | succ n ih =>
    rw [List.range_succ, List.filter_append, List.filter_append, List.length_append, List.length_append]
    by_cases h : n = j
    · subst h
      have e1 : ¬ upd f n x n = 0 := by rw [pk_us]; exact hx
      rw [if_neg (Nat.lt_irrefl n)] at ih
      rw [if_pos (Nat.lt_succ_self n), List.filter_cons_of_neg (by simpa using e1), List.filter_cons_of_pos (by simpa using h0)]
      simp only [List.filter_nil, List.length_nil, List.length_cons]
      omega
    · have e1 : upd f j x n = f n := pk_un h
      by_cases h2 : f n = 0
      · rw [List.filter_cons_of_pos (by simpa [e1] using h2), List.filter_cons_of_pos (by simpa using h2)]
        simp only [List.filter_nil, List.length_nil, List.length_cons]
        by_cases h3 : j < n
        · rw [if_pos h3] at ih; rw [if_pos (by omega)]; omega
        · rw [if_neg h3] at ih; rw [if_neg (by omega)]; omega
      · rw [List.filter_cons_of_neg (by simpa [e1] using h2), List.filter_cons_of_neg (by simpa using h2)]
        simp only [List.filter_nil, List.length_nil]
        by_cases h3 : j < n
        · rw [if_pos h3] at ih; rw [if_pos (by omega)]; omega
        · rw [if_neg h3] at ih; rw [if_neg (by omega)]; omega
theorem mcnt_set {v : mS} {x : Int32} (_ : mInv v) (h0 : k_mfam v x.toNatClampNeg = 0) (h1 : 1 ≤ x.toInt) (h2 : x.toInt ≤ 40) : mcnt (s_mfam v (upd (k_mfam v) x.toNatClampNeg (vp_nar .boolean 1))) + 1 = mcnt v := by
  have h := cnt_upd (f := k_mfam v) (j := x.toNatClampNeg) (x := vp_nar .boolean 1) (by decide) h0 41
  have e : x.toNatClampNeg = x.toInt.toNat := rfl
  rw [if_pos (by rw [e]; omega)] at h
  exact h
theorem i_div {x y : Int32} {k : Int} (hx : 0 ≤ x.toInt) (hk : y.toInt = k) (h0 : 0 < k) : (x / y).toInt = x.toInt / k := by
  rw [lg_idiv_nonneg hx (by rw [hk]; exact h0), hk]
theorem i_rem {x y : Int32} {k : Int} (hx : 0 ≤ x.toInt) (hk : y.toInt = k) (h0 : 0 < k) : (x - x / y * y).toInt = x.toInt % k := by
  rw [rem_toInt, hk, Int.tmod_eq_emod_of_nonneg hx]
theorem was_in {x y : Int32} (hx : 0 ≤ x.toInt ∧ x.toInt ≤ 120) (hy : 0 ≤ y.toInt ∧ y.toInt ≤ 40) : vp_in (41 * x + y) 4961 := by
  have e1 : (41 * x).toInt = 41 * x.toInt := by
    rw [Int32.toInt_mul, show (41 : Int32).toInt = 41 from by decide]
    exact Int.bmod_eq_of_le (by omega) (by omega)
  have e2 := i_add (x := 41 * x) (y := y) (by omega) (by omega)
  exact vp_in_iff.mpr (by omega)
