/-! days and dates -/
theorem st_tab : ∀ y : Fin 100, fX0_startOfYear (nI y.1) = fX5_firstOf (nI y.1) := by decide +kernel
theorem st_nx : ∀ y : Fin 100, fX0_startOfYear (nI (y.1 + 1)) = fX0_startOfYear (nI y.1) + fX5_daysOfYear (nI y.1) := by decide +kernel
theorem st_int : ∀ y : Fin 101, (fX0_startOfYear (nI y.1)).toInt = 365 * (y.1 : Int) + ((y.1 : Int) + 3) / 4 := by decide +kernel
theorem db_tab : ∀ y : Fin 100, ∀ m : Fin 12, fX0_daysBefore (nI y.1) (nI (m.1 + 2)) = fX0_daysBefore (nI y.1) (nI (m.1 + 1)) + fX5_daysOfMonth (nI (m.1 + 1)) (nI y.1) := by decide +kernel
theorem db_int : ∀ y : Fin 100, ∀ m : Fin 13, 0 ≤ (fX0_daysBefore (nI y.1) (nI (m.1 + 1))).toInt ∧ (fX0_daysBefore (nI y.1) (nI (m.1 + 1))).toInt ≤ 366 := by decide +kernel
theorem dy_tab : ∀ y : Fin 100, fX0_daysBefore (nI y.1) 13 = fX5_daysOfYear (nI y.1) := by decide +kernel
theorem db_1 : ∀ y : Fin 100, fX0_daysBefore (nI y.1) 1 = 0 := by decide +kernel
theorem i_r1 (a b : Int32) : a + (b - b) = a := by grind
theorem i_r2 (a p q r : Int32) : a + p + (q - (r + p)) = a + (q - r) := by grind
theorem i_r3 (f d b : Int32) : f + (b + d) - 1 = f + d - 1 + (b - 0) := by grind
theorem i_r4 (a b c : Int32) : a - (b + c) = a - b - c := by grind
theorem dof_lp {y : Fin 100} {mm : Nat} (hm : mm < 12) (d : Int32) : ∀ (n k : Nat) (a : Int32), k ≤ mm → mm < n + k → lpX5_dayOf (nI y.1) (nI (mm + 1)) d n (nI (k + 1)) a = a + (fX0_daysBefore (nI y.1) (nI (mm + 1)) - fX0_daysBefore (nI y.1) (nI (k + 1))) := by
  intro n
  induction n with
  | zero => intro k a h1 h2; omega
  | succ n ih =>
    intro k a h1 h2
    rw [lpX5_dayOf_eq]
    have e1 := nI_toInt (n := mm + 1) (by omega)
    have e2 := nI_toInt (n := k + 1) (by omega)
    by_cases c : nI (mm + 1) ≤ nI (k + 1)
    · rw [if_pos c]
      have c' := i_le c rfl rfl
      have : mm = k := by omega
      subst this
      rw [i_r1]
    · rw [if_neg c, ← nI_s (by omega)]
      have c' := i_nle c rfl rfl
      rw [ih (k + 1) _ (by omega) (by omega)]
      have t := db_tab y ⟨k, by omega⟩
      have t2 : fX0_daysBefore (nI y.1) (nI (k + 1 + 1)) = fX0_daysBefore (nI y.1) (nI (k + 1)) + fX5_daysOfMonth (nI (k + 1)) (nI y.1) := t
      rw [t2, i_r2]
theorem yd_eq (y : Fin 100) {d : Int32} (hd : 0 ≤ d.toInt ∧ d.toInt ≤ 999) : fX0_fromYearDay (nI y.1) d = if fX5_in d 1 (fX5_daysOfYear (nI y.1)) = 0 then (-1) else fX5_firstOf (nI y.1) + d - 1 := by
  unfold fX0_fromYearDay fX5_in
  rw [dy_tab, st_tab]
  by_cases c1 : d < 1
  · rw [if_pos c1, if_pos c1, if_pos rfl]
  rw [if_neg c1, if_neg c1]
  by_cases c2 : d ≤ fX5_daysOfYear (nI y.1)
  · rw [if_pos c2, if_neg (c := fX5_daysOfYear (nI y.1) < d) (fun q => by have h1 := i_lt q rfl rfl; have h2 := i_le c2 rfl rfl; omega), if_neg (by decide)]
  · rw [if_neg c2, if_pos (c := fX5_daysOfYear (nI y.1) < d) (Int32.lt_iff_toInt_lt.mpr (i_nle c2 rfl rfl)), if_pos rfl]
theorem md_eq (y : Fin 100) {m d : Int32} (hm : 0 ≤ m.toInt ∧ m.toInt ≤ 99) (hd : 0 ≤ d.toInt ∧ d.toInt ≤ 99) : fX0_fromMonthDay (nI y.1) m d = fX5_dayOf (nI y.1) m d := by
  have n1 : (1 : Int32).toInt = 1 := by decide
  have n12 : (12 : Int32).toInt = 12 := by decide
  unfold fX0_fromMonthDay fX5_dayOf
  by_cases c1 : m < 1
  · rw [if_pos c1, if_pos (c := fX5_in m 1 12 = 0) (by unfold fX5_in; rw [if_pos c1])]
  rw [if_neg c1]
  by_cases c2 : 12 < m
  · rw [if_pos c2, if_pos (c := fX5_in m 1 12 = 0) (by unfold fX5_in; rw [if_neg c1, if_pos c2])]
  rw [if_neg c2, if_neg (c := fX5_in m 1 12 = 0) (by unfold fX5_in; rw [if_neg c1, if_neg c2]; decide)]
  have c1' := i_nlt c1 rfl n1
  have c2' := i_nlt c2 n12 rfl
  obtain ⟨mm, hmm, rfl⟩ : ∃ mm : Nat, mm < 12 ∧ m = nI (mm + 1) := ⟨m.toInt.toNat - 1, by omega, by rw [show m.toInt.toNat - 1 + 1 = m.toInt.toNat from by omega, nI_fr (by omega)]⟩
  rw [← nI_s (by omega)]
  have t := db_tab y ⟨mm, hmm⟩
  have t2 : fX0_daysBefore (nI y.1) (nI (mm + 1 + 1)) = fX0_daysBefore (nI y.1) (nI (mm + 1)) + fX5_daysOfMonth (nI (mm + 1)) (nI y.1) := t
  have r1 := db_int y ⟨mm, by omega⟩
  have r2 := db_int y ⟨mm + 1, by omega⟩
  have r1 : 0 ≤ (fX0_daysBefore (nI y.1) (nI (mm + 1))).toInt ∧ (fX0_daysBefore (nI y.1) (nI (mm + 1))).toInt ≤ 366 := r1
  have r2 : 0 ≤ (fX0_daysBefore (nI y.1) (nI (mm + 1 + 1))).toInt ∧ (fX0_daysBefore (nI y.1) (nI (mm + 1 + 1))).toInt ≤ 366 := r2
  have rm := dm_rg (nI (mm + 1)) (nI y.1)
  rw [t2]
  generalize hB : fX0_daysBefore (nI y.1) (nI (mm + 1)) = B at *
  generalize hM : fX5_daysOfMonth (nI (mm + 1)) (nI y.1) = M at *
  have e1 := i_add (x := B) (y := d) (by omega) (by omega)
  have e2 := i_add (x := B) (y := M) (by omega) (by omega)
  by_cases c3 : 1 ≤ d
  rotate_left
  · rw [if_neg c3, if_pos (c := fX5_in d 1 M = 0) (by unfold fX5_in; rw [if_pos (Int32.lt_iff_toInt_lt.mpr (i_nle c3 rfl rfl))])]
  rw [if_pos c3]
  have c3' := i_le c3 n1 rfl
  by_cases c4 : B + d ≤ B + M
  rotate_left
  · have c4' := i_nle c4 rfl rfl
    rw [if_neg c4, if_pos (c := fX5_in d 1 M = 0) (by unfold fX5_in; rw [if_neg (fun q => by have := i_lt q rfl n1; omega), if_pos (Int32.lt_iff_toInt_lt.mpr (by omega))])]
  have c4' := i_le c4 rfl rfl
  rw [if_pos c4, if_neg (c := fX5_in d 1 M = 0) (by unfold fX5_in; rw [if_neg (fun q => by have := i_lt q rfl n1; omega), if_neg (fun q => by have := i_lt q rfl rfl; omega)]; decide)]
  have hb13 := db_int y ⟨12, by omega⟩
  have z := yd_eq y (d := B + d) (by omega)
  -- the day of the year lies in the year
  have hin : ¬ fX5_in (B + d) 1 (fX5_daysOfYear (nI y.1)) = 0 := by
    have up : ∀ (q k : Nat), mm + 1 + k = q → q ≤ 12 → (fX0_daysBefore (nI y.1) (nI (mm + 1 + 1))).toInt ≤ (fX0_daysBefore (nI y.1) (nI (q + 1))).toInt := by
      intro q k
      induction k generalizing q with
      | zero => intro h1 h2; subst h1; exact Int.le_refl _
      | succ k ih =>
        intro h1 h2
        have h3 := ih (mm + 1 + k) rfl (by omega)
        have tq := db_tab y ⟨mm + 1 + k, by omega⟩
        have tq2 : fX0_daysBefore (nI y.1) (nI (q + 1)) = fX0_daysBefore (nI y.1) (nI (mm + 1 + k + 1)) + fX5_daysOfMonth (nI (mm + 1 + k + 1)) (nI y.1) := by
          rw [← h1]; exact tq
        have rq := dm_rg (nI (mm + 1 + k + 1)) (nI y.1)
        have rb := db_int y ⟨mm + 1 + k, by omega⟩
        have rb : 0 ≤ (fX0_daysBefore (nI y.1) (nI (mm + 1 + k + 1))).toInt ∧ (fX0_daysBefore (nI y.1) (nI (mm + 1 + k + 1))).toInt ≤ 366 := rb
        rw [tq2, i_add (by omega) (by omega)]
        omega
    have u12 := up 12 (11 - mm) (by omega) (by omega)
    have e13 : fX0_daysBefore (nI y.1) (nI (12 + 1)) = fX5_daysOfYear (nI y.1) := dy_tab y
    rw [t2, e13] at u12
    unfold fX5_in
    rw [if_neg (fun q => by have := i_lt q rfl n1; omega), if_neg (fun q => by have := i_lt q rfl rfl; omega)]; decide
  rw [z, if_neg hin]
  have w := dof_lp (y := y) hmm d 12 0 (fX5_firstOf (nI y.1) + d - 1) (by omega) (by omega)
  have w2 : fX0_daysBefore (nI y.1) (nI (0 + 1)) = 0 := db_1 y
  rw [w2, hB] at w
  have w3 : lpX5_dayOf (nI y.1) (nI (mm + 1)) d 12 1 (fX5_firstOf (nI y.1) + d - 1) = fX5_firstOf (nI y.1) + d - 1 + (B - 0) := w
  rw [w3, i_r3]
theorem fin_y {x : Int32} (h : 0 ≤ x.toInt ∧ x.toInt ≤ 99) : ∃ y : Fin 100, x = nI y.1 := nI_ex (n := 100) ⟨h.1, by omega⟩
theorem rel_day : stp_day Rel := by
  intro u v x1 x2 h
  unfold fX4_day fX5_day
  by_cases c1 : fX5_in x1 0 2 = 0
  · rw [if_neg (fun q => (br_in _ _ _).mp q c1), if_pos c1]; exact ⟨rfl, fun q => nz q, rel_code h⟩
  rw [if_pos ((br_in _ _ _).mpr c1), if_neg c1]
  by_cases c2 : x1 = 2
  · rw [if_pos c2, if_pos c2]
    by_cases c3 : fX5_in x2 0 99999 = 0
    · rw [if_neg (fun q => (br_in _ _ _).mp q c3), if_pos c3]; exact ⟨rfl, fun q => nz q, rel_code h⟩
    rw [if_pos ((br_in _ _ _).mpr c3), if_neg c3]
    have r := in_rg c3 (by decide : (0 : Int32).toInt = 0) (by decide : (99999 : Int32).toInt = 99999)
    have k0 : ¬ x1 = 0 := by rw [c2]; decide
    have k1 : ¬ x1 = 1 := by rw [c2]; decide
    rw [if_neg k0, if_neg k1]
    have e1 := i_div (x := x2) (y := 1000) r.1 (by decide : (1000 : Int32).toInt = 1000) (by decide)
    have e2 := i_rem (x := x2) (y := 1000) r.1 (by decide : (1000 : Int32).toInt = 1000) (by decide)
    obtain ⟨y, hy⟩ := fin_y (x := x2 / 1000) (by omega)
    generalize x2 - x2 / 1000 * 1000 = d at *
    rw [hy, yd_eq y (by omega)]
    by_cases c4 : fX5_in d 1 (fX5_daysOfYear (nI y.1)) = 0
    · rw [if_pos c4, if_pos c4]; exact ⟨rfl, fun _ => rfl, rel_code h⟩
    · rw [if_neg c4, if_neg c4]; exact ⟨rfl, fun _ => rfl, rel_code h⟩
  rw [if_neg c2, if_neg c2]
  by_cases c3 : fX5_in x2 0 999999 = 0
  · rw [if_neg (fun q => (br_in _ _ _).mp q c3), if_pos c3]; exact ⟨rfl, fun q => nz q, rel_code h⟩
  rw [if_pos ((br_in _ _ _).mpr c3), if_neg c3]
  have r := in_rg c3 (by decide : (0 : Int32).toInt = 0) (by decide : (999999 : Int32).toInt = 999999)
  have r1 := in_rg c1 (by decide : (0 : Int32).toInt = 0) (by decide : (2 : Int32).toInt = 2)
  have e1 := i_div (x := x2) (y := 10000) r.1 (by decide : (10000 : Int32).toInt = 10000) (by decide)
  have e2 := i_rem (x := x2) (y := 100) r.1 (by decide : (100 : Int32).toInt = 100) (by decide)
  have e3 := i_div (x := x2) (y := 100) r.1 (by decide : (100 : Int32).toInt = 100) (by decide)
  have e4 := i_rem (x := x2 / 100) (y := 100) (by omega) (by decide : (100 : Int32).toInt = 100) (by decide)
  obtain ⟨y1, hy1⟩ := fin_y (x := x2 / 10000) (by omega)
  obtain ⟨y2, hy2⟩ := fin_y (x := x2 - x2 / 100 * 100) (by omega)
  have k1 := md_eq y1 (m := x2 / 100 - x2 / 100 / 100 * 100) (d := x2 - x2 / 100 * 100) (by omega) (by omega)
  have k2 := md_eq y2 (m := x2 / 100 - x2 / 100 / 100 * 100) (d := x2 / 10000) (by omega) (by omega)
  rw [← hy1] at k1
  rw [← hy2] at k2
  by_cases c4 : x1 = 1
  · have k0 : ¬ x1 = 0 := by rw [c4]; decide
    rw [if_pos c4, if_neg k0, if_pos c4]
    exact ⟨rfl, fun _ => k2, rel_code h⟩
  · have k0 : x1 = 0 := by
      have h1 := i_ne c4 rfl (by decide : (1 : Int32).toInt = 1)
      have h2 := i_ne c2 rfl (by decide : (2 : Int32).toInt = 2)
      have n0 : (0 : Int32).toInt = 0 := by decide
      exact Int32.toInt_inj.mp (by omega)
    rw [if_pos k0, if_neg c4]
    exact ⟨rfl, fun _ => k1, rel_code h⟩
