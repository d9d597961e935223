/-! told, count -/
theorem left_lp {u : cS} {v : mS} (h : Rel u v) {x1 x2 : Int32} : ∀ (n : Nat) (i a : Int32), 1 ≤ i.toInt → i.toInt ≤ (k_munits v).toInt + 1 → (k_munits v).toInt + 1 < i.toInt + n → lpX5_told v x1 x2 n i a = (lpX3_leftOf u x1 n i a, s_mcode v 0) := by
  have g31 : k_ulot u = k_mlotOf v := h.2.2.2.2.1.1
  have g35 : k_umade u = k_munits v := h.2.2.2.2.1.2.2.2.2.1
  have m2 := h.2.1.2.1
  intro n
  induction n with
  | zero => intro i a h1 h2 h3; omega
  | succ n ih =>
    intro i a hi hi2 hn
    rw [lpX5_told_eq, lpX3_leftOf_eq, g35, g31, gone_01 h]
    by_cases c1 : k_munits v < i
    · rw [if_pos c1, if_pos c1]
    rw [if_neg c1, if_neg c1]
    have c1' := i_nlt c1 rfl rfl
    have e := i_inc (x := i) (by omega)
    have ihn := fun a => ih (i + 1) a (by omega) (by omega) (by omega)
    by_cases c2 : k_mlotOf v i.toNatClampNeg = x1
    rotate_left
    · rw [if_neg c2, if_neg c2, Int32.add_zero]; exact ihn a
    rw [if_pos c2, if_pos c2]
    by_cases c3 : fX5_isGone v i = 0
    · rw [if_pos c3, if_pos (show fX5_isGone (s_mcode v 0) i = 0 from c3)]; exact ihn (a + 1)
    · rw [if_neg c3, if_neg (show ¬ fX5_isGone (s_mcode v 0) i = 0 from c3), Int32.add_zero]; exact ihn a
theorem in07 {x : Int32} (h : ¬ fX5_in x 0 7 = 0) (h0 : ¬ x = 0) (h1 : ¬ x = 1) (h2 : ¬ x = 2) (h3 : ¬ x = 3) (h4 : ¬ x = 4) (h5 : ¬ x = 5) (h6 : ¬ x = 6) : x = 7 := by
  have a := in_rg h (by decide : (0 : Int32).toInt = 0) (by decide : (7 : Int32).toInt = 7)
  have c0 := i_ne h0 rfl (by decide : (0 : Int32).toInt = 0)
  have c1 := i_ne h1 rfl (by decide : (1 : Int32).toInt = 1)
  have c2 := i_ne h2 rfl (by decide : (2 : Int32).toInt = 2)
  have c3 := i_ne h3 rfl (by decide : (3 : Int32).toInt = 3)
  have c4 := i_ne h4 rfl (by decide : (4 : Int32).toInt = 4)
  have c5 := i_ne h5 rfl (by decide : (5 : Int32).toInt = 5)
  have c6 := i_ne h6 rfl (by decide : (6 : Int32).toInt = 6)
  have n7 : (7 : Int32).toInt = 7 := by decide
  exact Int32.toInt_inj.mp (by omega)
theorem rel_told : stp_told Rel := by
  intro u v x1 x2 h
  have e2 : k_lmade u = k_mlots v := h.2.2.2.1.2.2.2.2.2.2
  have g21 : k_goods u = k_mgood v := h.2.2.2.1.1
  have g22 : k_owners u = k_mowner v := h.2.2.2.1.2.1
  have g23 : k_last u = k_muntil v := h.2.2.2.1.2.2.1
  have g24 : k_arr u = k_marr v := h.2.2.2.1.2.2.2.1
  have g25 : k_reas u = k_mblk v := h.2.2.2.1.2.2.2.2.1
  have g26 : k_quar u = k_mquiet v := h.2.2.2.1.2.2.2.2.2.1
  have m2 := h.2.1.2.1
  unfold fX4_told fX5_told
  by_cases c1 : fX5_isLot v x1 = 0
  · rw [if_neg (fun q => (br_lot e2 _).mp q c1), if_pos c1]; exact ⟨rfl, fun q => nz q, rel_code h⟩
  rw [if_pos ((br_lot e2 _).mpr c1), if_neg c1]
  rw [g21, g22, g23, g24, g25, g26, br_open h c1]
  by_cases c2 : fX5_in x2 0 7 = 0
  · rw [if_pos c2]
    have k : ∀ y : Int32, ¬ fX5_in y 0 7 = 0 → ¬ x2 = y := fun y hy q => hy (by rw [← q]; exact c2)
    rw [if_neg (k 0 (by decide)), if_neg (k 1 (by decide)), if_neg (k 2 (by decide)), if_neg (k 3 (by decide)), if_neg (k 4 (by decide)), if_neg (k 5 (by decide)), if_neg (k 6 (by decide)), if_neg (k 7 (by decide))]
    exact ⟨rfl, fun q => nz q, rel_code h⟩
  rw [if_neg c2]
  by_cases d0 : x2 = 0
  · rw [if_pos d0, if_pos d0]; exact ⟨rfl, fun _ => rfl, rel_code h⟩
  rw [if_neg d0, if_neg d0]
  by_cases d1 : x2 = 1
  · rw [if_pos d1, if_pos d1]; exact ⟨rfl, fun _ => rfl, rel_code h⟩
  rw [if_neg d1, if_neg d1]
  by_cases d2 : x2 = 2
  · rw [if_pos d2, if_pos d2]; exact ⟨rfl, fun _ => rfl, rel_code h⟩
  rw [if_neg d2, if_neg d2]
  by_cases d3 : x2 = 3
  · rw [if_pos d3, if_pos d3]; exact ⟨rfl, fun _ => rfl, rel_code h⟩
  rw [if_neg d3, if_neg d3]
  by_cases d4 : x2 = 4
  · rw [if_pos d4, if_pos d4]
    by_cases c5 : fX5_isOpen v x1 = 0
    · rw [if_pos c5, if_pos (show fX5_isOpen (s_mcode v 0) x1 = 0 from c5)]; exact ⟨rfl, fun _ => rfl, rel_code h⟩
    · rw [if_neg c5, if_neg (show ¬ fX5_isOpen (s_mcode v 0) x1 = 0 from c5)]; exact ⟨rfl, fun _ => rfl, rel_code h⟩
  rw [if_neg d4, if_neg d4]
  by_cases d5 : x2 = 5
  · rw [if_pos d5, if_pos d5]; exact ⟨rfl, fun _ => rfl, rel_code h⟩
  rw [if_neg d5, if_neg d5]
  by_cases d6 : x2 = 6
  · rw [if_pos d6, if_pos d6]
    by_cases c5 : k_mquiet v x1.toNatClampNeg = 0
    · rw [if_pos c5, if_pos c5]; exact ⟨rfl, fun _ => rfl, rel_code h⟩
    · rw [if_neg c5, if_neg c5]; exact ⟨rfl, fun _ => rfl, rel_code h⟩
  rw [if_neg d6, if_neg d6, if_pos (in07 c2 d0 d1 d2 d3 d4 d5 d6)]
  have n1 : (1 : Int32).toInt = 1 := by decide
  rw [left_lp h 121 1 0 (by omega) (by omega) (by omega)]
  exact ⟨rfl, fun _ => rfl, rel_code h⟩
theorem cng_s (uc : Nat → Int32) (n : Nat) : cng uc (n + 1) = cng uc n + (if uc (n + 1) = (-1) then 0 else 1) := rfl
theorem cnt_lp {u : cS} {v : mS} (h : Rel u v) {x1 : Int32} : ∀ (n j : Nat), (j : Int) ≤ (k_munits v).toInt → (k_munits v).toInt < j + n → lpX5_count v x1 n (nI (j + 1)) (nI (cng (k_mcust v) j)) = (if x1 = 3 then nI (cng (k_mcust v) (k_munits v).toInt.toNat) else (-1), s_mcode v 0) := by
  have m2 := h.2.1.2.1
  intro n
  induction n with
  | zero => intro j h1 h2; omega
  | succ n ih =>
    intro j hj hn
    rw [lpX5_count_eq]
    have ej := nI_toInt (n := j + 1) (by omega)
    by_cases c1 : k_munits v < nI (j + 1)
    · rw [if_pos c1]
      have c1' := i_lt c1 rfl rfl
      have hj2 : (k_munits v).toInt.toNat = j := by omega
      rw [hj2]
      by_cases c2 : x1 = 3
      · rw [if_pos c2, if_pos c2]
      · rw [if_neg c2, if_neg c2]
    rw [if_neg c1]
    have c1' := i_nlt c1 rfl rfl
    have ihn := ih (j + 1) (by omega) (by omega)
    rw [nI_s (n := j + 1) (by omega)] at ihn
    have ex : (nI (j + 1)).toNatClampNeg = j + 1 := by
      show (nI (j + 1)).toInt.toNat = _
      omega
    have := cng_le (k_mcust v) j
    unfold fX5_isGone
    show (if (if k_mcust v (nI (j + 1)).toNatClampNeg = (-1) then (0 : Int32) else 1) = 0 then _ else _) = _
    rw [ex]
    rw [cng_s] at ihn
    by_cases c3 : k_mcust v (j + 1) = (-1)
    · rw [if_pos c3, Nat.add_zero] at ihn
      rw [if_pos c3, if_pos (rfl : (0 : Int32) = 0), Int32.add_zero]
      exact ihn
    · rw [if_neg c3, nI_s (n := cng (k_mcust v) j) (by omega)] at ihn
      rw [if_neg c3, if_neg (by decide : ¬ (1 : Int32) = 0)]
      exact ihn
theorem rel_count : stp_count Rel := by
  intro u v x1 h
  have e1 : k_rwrit u = k_mrows v := h.2.2.2.2.1.2.2.2.2.2
  have e2 : k_lmade u = k_mlots v := h.2.2.2.1.2.2.2.2.2.2
  have g33 : k_ucust u = k_mcust v := h.2.2.2.2.1.2.2.1
  have g35 : k_umade u = k_munits v := h.2.2.2.2.1.2.2.2.2.1
  have hG := h.2.2.2.2.2.2.2.2.2.1
  rw [g33, g35] at hG
  have m2 := h.2.1.2.1
  unfold fX4_count fX5_count
  rw [e1, e2, g35]
  by_cases d0 : x1 = 0
  · rw [if_pos d0, if_pos d0]; exact ⟨rfl, rel_code h⟩
  rw [if_neg d0, if_neg d0]
  by_cases d1 : x1 = 1
  · rw [if_pos d1, if_pos d1]; exact ⟨rfl, rel_code h⟩
  rw [if_neg d1, if_neg d1]
  by_cases d2 : x1 = 2
  · rw [if_pos d2, if_pos d2]; exact ⟨rfl, rel_code h⟩
  rw [if_neg d2, if_neg d2]
  have k := cnt_lp h (x1 := x1) 121 0 (by omega) (by omega)
  have k2 : lpX5_count v x1 121 1 0 = (if x1 = 3 then nI (cng (k_mcust v) (k_munits v).toInt.toNat) else (-1), s_mcode v 0) := k
  rw [k2]
  refine ⟨?_, rel_code h⟩
  by_cases c2 : x1 = 3
  · rw [if_pos c2]
    show _ = if x1 = 3 then _ else _
    rw [if_pos c2]; exact hG
  · rw [if_neg c2]
    show _ = if x1 = 3 then _ else _
    rw [if_neg c2]
