theorem nI_pd {i : Nat} (h1 : 1 ≤ i) (h2 : i ≤ 1000) : nI i + (-1) = nI (i - 1) := by
  have ei := nI_toInt (n := i) (by omega)
  have e1 := i_dec (x := nI i) (by omega)
  have e2 := nI_toInt (n := i - 1) (by omega)
  exact Int32.toInt_inj.mp (by omega)
theorem st_i {y : Nat} (h : y ≤ 100) : (fX0_startOfYear (nI y)).toInt = 365 * (y : Int) + ((y : Int) + 3) / 4 := st_int ⟨y, by omega⟩
theorem year_lp {x : Int32} {y : Nat} (h1 : (fX0_startOfYear (nI y)).toInt ≤ x.toInt) (h2 : x.toInt < (fX0_startOfYear (nI (y + 1))).toInt) : ∀ (n i : Nat), y ≤ i → i ≤ 99 → i < n + y → lpX0_yearOf x n (nI i) = nI y := by
  intro n
  induction n with
  | zero => intro i a b c; omega
  | succ n ih =>
    intro i a b c
    rw [lpX0_yearOf_eq]
    have ei := nI_toInt (n := i) (by omega)
    have si := st_i (y := i) (by omega)
    have sy := st_i (y := y) (by omega)
    have sy1 := st_i (y := y + 1) (by omega)
    have n0 : (0 : Int32).toInt = 0 := by decide
    by_cases c1 : nI i ≤ 0
    · rw [if_pos c1]
      have c1' := i_le c1 rfl n0
      have : y = 0 := by omega
      subst this; rfl
    rw [if_neg c1]
    have c1' := i_nle c1 rfl n0
    by_cases c2 : x < fX0_startOfYear (nI i)
    · rw [if_pos c2]
      have c2' := i_lt c2 rfl rfl
      have hne : ¬ i = y := fun q => by subst q; omega
      rw [nI_pd (i := i) (by omega) (by omega)]
      exact ih (i - 1) (by omega) (by omega) (by omega)
    · rw [if_neg c2]
      have c2' := i_nlt c2 rfl rfl
      have : i = y := by
        by_cases q : i = y
        · exact q
        · push_cast at sy1
          omega
      rw [this]
theorem date_y {v : mS} {x1 x2 : Int32} (hx : 0 ≤ x2.toInt ∧ x2.toInt ≤ 36524) : ∀ (n j : Nat), j ≤ 99 → 100 < n + j → (fX0_startOfYear (nI j)).toInt ≤ x2.toInt → ∃ y : Fin 100, (fX0_startOfYear (nI y.1)).toInt ≤ x2.toInt ∧ x2.toInt < (fX0_startOfYear (nI (y.1 + 1))).toInt ∧ lpX5_date v x1 x2 n (x2 - fX0_startOfYear (nI j)) (nI j) = if x1 = 2 then ((1000 * nI y.1) + (x2 - fX0_startOfYear (nI y.1)) + 1, s_mcode v 0) else lqX5_date v x1 x2 (nI y.1) 14 (x2 - fX0_startOfYear (nI y.1)) 1 := by
  intro n
  induction n with
  | zero => intro j a b c; omega
  | succ n ih =>
    intro j a b c
    rw [lpX5_date_eq]
    have sj := st_i (y := j) (by omega)
    have nx : fX0_startOfYear (nI (j + 1)) = fX0_startOfYear (nI j) + fX5_daysOfYear (nI j) := st_nx ⟨j, by omega⟩
    have ry := dy_rg (nI j)
    have e1 := i_sub (x := x2) (y := fX0_startOfYear (nI j)) (by omega) (by omega)
    have e2 := i_add (x := fX0_startOfYear (nI j)) (y := fX5_daysOfYear (nI j)) (by omega) (by omega)
    by_cases c1 : x2 - fX0_startOfYear (nI j) < fX5_daysOfYear (nI j)
    · rw [if_pos c1]
      have c1' := i_lt c1 rfl rfl
      exact ⟨⟨j, by omega⟩, c, by rw [nx]; omega, rfl⟩
    · rw [if_neg c1]
      have c1' := i_nlt c1 rfl rfl
      have s1 := st_i (y := j + 1) (by omega)
      rw [← nI_s (by omega), ← i_r4, ← nx]
      have hj : j + 1 ≤ 99 := by
        by_cases q : j = 99
        · subst q
          rw [nx] at s1
          exact absurd s1 (by omega)
        · omega
      exact ih (j + 1) hj (by omega) (by rw [nx]; omega)
theorem month_dn {y : Nat} {x1 : Int32} {m : Nat} (hm : 1 ≤ m ∧ m ≤ 12) (h1 : (fX0_daysBefore (nI y) (nI m)).toInt < x1.toInt) (h2 : ∀ q : Nat, m < q → q ≤ 12 → x1.toInt ≤ (fX0_daysBefore (nI y) (nI q)).toInt) : ∀ (n i : Nat), m ≤ i → i ≤ 12 → i < n + m → lpX0_monthOf (nI y) x1 n (nI i) = nI m := by
  intro n
  induction n with
  | zero => intro i a b c; omega
  | succ n ih =>
    intro i a b c
    rw [lpX0_monthOf_eq]
    have ei := nI_toInt (n := i) (by omega)
    have n1 : (1 : Int32).toInt = 1 := by decide
    by_cases c1 : nI i ≤ 1
    · rw [if_pos c1]
      have c1' := i_le c1 rfl n1
      have : m = 1 := by omega
      subst this; rfl
    rw [if_neg c1]
    have c1' := i_nle c1 rfl n1
    by_cases c2 : x1 ≤ fX0_daysBefore (nI y) (nI i)
    · rw [if_pos c2]
      have c2' := i_le c2 rfl rfl
      have hne : ¬ i = m := fun q => by subst q; omega
      rw [nI_pd (i := i) (by omega) (by omega)]
      exact ih (i - 1) (by omega) (by omega) (by omega)
    · rw [if_neg c2]
      have c2' := i_nle c2 rfl rfl
      by_cases q : i = m
      · rw [q]
      · have := h2 i (by omega) b
        omega
theorem date_m {v : mS} {x1 x2 d0 : Int32} {y : Fin 100} (hd : 0 ≤ d0.toInt ∧ d0.toInt < (fX5_daysOfYear (nI y.1)).toInt) : ∀ (n k : Nat), 1 ≤ k → k ≤ 12 → 13 < n + k → (fX0_daysBefore (nI y.1) (nI k)).toInt ≤ d0.toInt → ∃ m : Nat, (1 ≤ m ∧ m ≤ 12) ∧ (fX0_daysBefore (nI y.1) (nI m)).toInt ≤ d0.toInt ∧ d0.toInt < (fX0_daysBefore (nI y.1) (nI (m + 1))).toInt ∧ lqX5_date v x1 x2 (nI y.1) n (d0 - fX0_daysBefore (nI y.1) (nI k)) (nI k) = if x1 = 0 then ((((10000 * nI y.1) + (100 * nI m)) + (d0 - fX0_daysBefore (nI y.1) (nI m))) + 1, s_mcode v 0) else (((10000 * ((d0 - fX0_daysBefore (nI y.1) (nI m)) + 1)) + (100 * nI m)) + nI y.1, s_mcode v 0) := by
  intro n
  induction n with
  | zero => intro k a b c; omega
  | succ n ih =>
    intro k a b c hk
    obtain ⟨k, rfl⟩ : ∃ q, k = q + 1 := ⟨k - 1, by omega⟩
    rw [lqX5_date_eq]
    have nx : fX0_daysBefore (nI y.1) (nI (k + 1 + 1)) = fX0_daysBefore (nI y.1) (nI (k + 1)) + fX5_daysOfMonth (nI (k + 1)) (nI y.1) := db_tab y ⟨k, by omega⟩
    have rb : 0 ≤ (fX0_daysBefore (nI y.1) (nI (k + 1))).toInt ∧ (fX0_daysBefore (nI y.1) (nI (k + 1))).toInt ≤ 366 := db_int y ⟨k, by omega⟩
    have rm := dm_rg (nI (k + 1)) (nI y.1)
    have ry := dy_rg (nI y.1)
    have e1 := i_sub (x := d0) (y := fX0_daysBefore (nI y.1) (nI (k + 1))) (by omega) (by omega)
    have e2 := i_add (x := fX0_daysBefore (nI y.1) (nI (k + 1))) (y := fX5_daysOfMonth (nI (k + 1)) (nI y.1)) (by omega) (by omega)
    by_cases c1 : d0 - fX0_daysBefore (nI y.1) (nI (k + 1)) < fX5_daysOfMonth (nI (k + 1)) (nI y.1)
    · rw [if_pos c1]
      have c1' := i_lt c1 rfl rfl
      exact ⟨k + 1, ⟨a, b⟩, hk, by rw [nx]; omega, rfl⟩
    · rw [if_neg c1]
      have c1' := i_nlt c1 rfl rfl
      rw [← nI_s (by omega), ← i_r4, ← nx]
      have hj : k + 1 + 1 ≤ 12 := by
        by_cases q : k = 11
        · subst q
          have e13 : fX0_daysBefore (nI y.1) (nI (11 + 1 + 1)) = fX5_daysOfYear (nI y.1) := dy_tab y
          rw [nx] at e13
          rw [← e13] at hd
          omega
        · omega
      exact ih (k + 1 + 1) (by omega) hj (by omega) (by rw [nx]; omega)
theorem db_mono {y : Fin 100} : ∀ (k m : Nat), 1 ≤ m → m + k ≤ 13 → (fX0_daysBefore (nI y.1) (nI m)).toInt ≤ (fX0_daysBefore (nI y.1) (nI (m + k))).toInt := by
  intro k
  induction k with
  | zero => intro m _ _; exact Int.le_refl _
  | succ k ih =>
    intro m h1 h2
    have h3 := ih m h1 (by omega)
    obtain ⟨q, hq⟩ : ∃ q, m + k = q + 1 := ⟨m + k - 1, by omega⟩
    rw [show m + (k + 1) = q + 1 + 1 from by omega]
    rw [hq] at h3
    have nx : fX0_daysBefore (nI y.1) (nI (q + 1 + 1)) = fX0_daysBefore (nI y.1) (nI (q + 1)) + fX5_daysOfMonth (nI (q + 1)) (nI y.1) := db_tab y ⟨q, by omega⟩
    have rb : 0 ≤ (fX0_daysBefore (nI y.1) (nI (q + 1))).toInt ∧ (fX0_daysBefore (nI y.1) (nI (q + 1))).toInt ≤ 366 := db_int y ⟨q, by omega⟩
    have rm := dm_rg (nI (q + 1)) (nI y.1)
    rw [nx, i_add (by omega) (by omega)]
    omega
theorem i_r5 (y m b : Int32) : y * 10000 + m * 100 + (b + 1) = 10000 * y + 100 * m + b + 1 := by grind
theorem i_r6 (y m b : Int32) : (b + 1) * 10000 + m * 100 + y = 10000 * (b + 1) + 100 * m + y := by grind
theorem i_r7 (y b : Int32) : y * 1000 + (b + 1) = 1000 * y + b + 1 := by grind
theorem i_r8 (d b : Int32) : d + 1 - b = d - b + 1 := by grind
theorem rel_date : stp_date Rel := by
  intro u v x1 x2 h
  unfold fX4_date fX5_date
  by_cases c1 : fX5_in x1 0 2 = 0
  · rw [if_neg (fun q => (br_in _ _ _).mp q c1), if_pos c1]; exact ⟨rfl, fun q => nz q, rel_code h⟩
  rw [if_pos ((br_in _ _ _).mpr c1), if_neg c1]
  by_cases c2 : fX5_in x2 0 36524 = 0
  · rw [if_neg (fun q => (br_in _ _ _).mp q c2), if_pos c2]; exact ⟨rfl, fun q => nz q, rel_code h⟩
  rw [if_pos ((br_in _ _ _).mpr c2), if_neg c2]
  have r := in_rg c2 (by decide : (0 : Int32).toInt = 0) (by decide : (36524 : Int32).toInt = 36524)
  have r1 := in_rg c1 (by decide : (0 : Int32).toInt = 0) (by decide : (2 : Int32).toInt = 2)
  have s0 := st_i (y := 0) (by omega)
  obtain ⟨y, p1, p2, p3⟩ := date_y (v := v) (x1 := x1) (x2 := x2) r 101 0 (by omega) (by omega) (by rw [s0]; omega)
  have z0 : x2 - fX0_startOfYear (nI 0) = x2 := by
    rw [show fX0_startOfYear (nI 0) = 0 from by decide, Int32.sub_zero]
  rw [z0, show nI 0 = 0 from rfl] at p3
  rw [p3]
  have hy : fX0_yearOf x2 = nI y.1 := year_lp p1 p2 100 99 (by omega) (by omega) (by omega)
  rw [hy]
  have nx := st_nx y
  have sy := st_i (y := y.1) (by omega)
  have ry := dy_rg (nI y.1)
  have e1 := i_sub (x := x2) (y := fX0_startOfYear (nI y.1)) (by omega) (by omega)
  have e2 := i_add (x := fX0_startOfYear (nI y.1)) (y := fX5_daysOfYear (nI y.1)) (by omega) (by omega)
  rw [nx] at p2
  generalize hb : x2 - fX0_startOfYear (nI y.1) = b at *
  by_cases c3 : x1 = 2
  · rw [if_pos c3, if_pos c3]
    exact ⟨rfl, fun _ => i_r7 _ _, rel_code h⟩
  rw [if_neg c3, if_neg c3]
  have d1 : fX0_daysBefore (nI y.1) (nI 1) = 0 := db_1 y
  obtain ⟨m, hm, q1, q2, q3⟩ := date_m (v := v) (x1 := x1) (x2 := x2) (d0 := b) (y := y) (by omega) 14 1 (by omega) (by omega) (by omega) (by rw [d1, show (0 : Int32).toInt = 0 from by decide]; omega)
  rw [d1, Int32.sub_zero, show nI 1 = 1 from rfl] at q3
  rw [q3]
  have eb := i_inc (x := b) (by omega)
  have hmo : fX0_monthOf (nI y.1) (b + 1) = nI m := month_dn hm (by omega) (fun q a1 a2 => by
    have := db_mono (y := y) (q - (m + 1)) (m + 1) (by omega) (by omega)
    rw [show m + 1 + (q - (m + 1)) = q from by omega] at this
    omega) 12 12 hm.2 (by omega) (by omega)
  rw [hmo, i_r8]
  by_cases c4 : x1 = 1
  · have k0 : ¬ x1 = 0 := by rw [c4]; decide
    rw [if_pos c4, if_neg k0]
    exact ⟨rfl, fun _ => i_r6 _ _ _, rel_code h⟩
  · have k0 : x1 = 0 := by
      have h1 := i_ne c4 rfl (by decide : (1 : Int32).toInt = 1)
      have h2 := i_ne c3 rfl (by decide : (2 : Int32).toInt = 2)
      have n0 : (0 : Int32).toInt = 0 := by decide
      exact Int32.toInt_inj.mp (by omega)
    rw [if_neg c4, if_pos k0]
    exact ⟨rfl, fun _ => i_r5 _ _ _, rel_code h⟩
