/-! put -/
theorem code_ne {v : mS} {x : Int32} (h : ¬ x = 0) : ¬ k_mcode (s_mcode v x) = 0 := h
theorem put_done {x1 x2 : Int32} {w : mS} (h : ¬ k_mcode w = 0) : ∀ (n : Nat) (i : Int32), lpX5_put x1 x2 n i w = w := by
  intro n i
  cases n with
  | zero => rfl
  | succ n =>
    rw [lpX5_put_eq]
    by_cases c1 : k_munits w < i
    · rw [if_pos c1, if_neg h]
    · rw [if_neg c1, if_neg h]
/-- what lies too far apart may not mix -/
theorem mix_far {u : cS} {v : mS} (h : Rel u v) (a b : Int32) : fX5_mayMix v a b = 0 ↔ ¬ fX1_lieTooFarApart u a b (k_mix u (k_owners u a.toNatClampNeg).toNatClampNeg) = 0 := by
  have g21 : k_goods u = k_mgood v := h.2.2.2.1.1
  have g22 : k_owners u = k_mowner v := h.2.2.2.1.2.1
  have g23 : k_last u = k_muntil v := h.2.2.2.1.2.2.1
  have g1 : k_mix u = k_mmix v := h.2.2.1.2.1
  obtain ⟨r1, r2, r3, r4, r5, r6⟩ := h.2.2.2.2.2.2.2.2.2.2
  have la := r3 a.toNatClampNeg
  have lb := r3 b.toNatClampNeg
  rw [g23] at la lb
  unfold fX5_mayMix fX1_lieTooFarApart
  rw [g21, g22, g23, g1]
  generalize k_mmix v (k_mowner v a.toNatClampNeg).toNatClampNeg = mx
  generalize k_muntil v a.toNatClampNeg = p at *
  generalize k_muntil v b.toNatClampNeg = q at *
  by_cases c1 : k_mgood v a.toNatClampNeg = k_mgood v b.toNatClampNeg
  rotate_left
  · rw [if_neg c1, if_neg c1]; decide
  rw [if_pos c1, if_pos c1]
  by_cases c2 : k_mowner v a.toNatClampNeg = k_mowner v b.toNatClampNeg
  rotate_left
  · rw [if_neg c2, if_neg c2]; decide
  rw [if_pos c2, if_pos c2]
  have n0 : (0 : Int32).toInt = 0 := by decide
  have e1 := i_sub (x := p) (y := q) (by omega) (by omega)
  have e2 := i_sub (x := q) (y := p) (by omega) (by omega)
  have e3 := i_sub (x := 0) (y := p - q) (by omega) (by omega)
  by_cases c3 : p ≤ q
  · rw [if_pos c3]
    have c3' := i_le c3 rfl rfl
    have e4 : (if 0 ≤ p - q then p - q else 0 - (p - q)) = q - p := by
      by_cases c4 : 0 ≤ p - q
      · rw [if_pos c4]
        have := i_le c4 rfl rfl
        exact Int32.toInt_inj.mp (by omega)
      · rw [if_neg c4]; exact Int32.toInt_inj.mp (by omega)
    rw [e4]
    by_cases c5 : mx < q - p
    · rw [if_pos c5, if_neg (fun z => by have h1 := i_lt c5 rfl rfl; have h2 := i_le z rfl rfl; omega)]; decide
    · rw [if_neg c5, if_pos (by have h1 := i_nlt c5 rfl rfl; exact Int32.le_iff_toInt_le.mpr (by omega))]; decide
  · rw [if_neg c3]
    have c3' := i_nle c3 rfl rfl
    have e4 : (if 0 ≤ p - q then p - q else 0 - (p - q)) = p - q := by
      rw [if_pos (Int32.le_iff_toInt_le.mpr (by omega))]
    rw [e4]
    by_cases c5 : mx < p - q
    · rw [if_pos c5, if_neg (fun z => by have h1 := i_lt c5 rfl rfl; have h2 := i_le z rfl rfl; omega)]; decide
    · rw [if_neg c5, if_pos (by have h1 := i_nlt c5 rfl rfl; exact Int32.le_iff_toInt_le.mpr (by omega))]; decide
theorem is_unit {v : mS} {x : Int32} (h1 : 1 ≤ x.toInt) (h2 : x.toInt ≤ (k_munits v).toInt) : ¬ fX5_isUnit v x = 0 := by
  unfold fX5_isUnit fX5_in
  have n1 : (1 : Int32).toInt = 1 := by decide
  rw [if_neg (fun q => by have := i_lt q rfl rfl; omega), if_neg (fun q => by have := i_lt q rfl rfl; omega)]
  decide
/-- what the reference's loop leaves, told by the class' search -/
def putv (v : mS) (x1 x2 r : Int32) : mS := if r = 0 then s_mbin v (upd (k_mbin v) x1.toNatClampNeg x2) else s_mcode (s_mmixed v (upd (upd (k_mmixed v) (0 : Int32).toNatClampNeg (k_mlotOf v x1.toNatClampNeg)) (1 : Int32).toNatClampNeg r)) 3
theorem put_lp {u : cS} {v : mS} (h : Rel u v) (h0 : k_mcode v = 0) (x1 x2 : Int32) : ∀ (n : Nat) (i : Int32), 1 ≤ i.toInt → i.toInt ≤ (k_munits v).toInt + 1 → (k_munits v).toInt + 1 < i.toInt + n → lpX5_put x1 x2 n i v = putv v x1 x2 (lpX4_lotThatHinders u x1 x2 n i) := by
  have g31 : k_ulot u = k_mlotOf v := h.2.2.2.2.1.1
  have g32 : k_ubin u = k_mbin v := h.2.2.2.2.1.2.1
  have g35 : k_umade u = k_munits v := h.2.2.2.2.1.2.2.2.2.1
  have m2 := h.2.1.2.1
  intro n
  induction n with
  | zero =>
    intro i hi hi2 hn; omega
  | succ n ih =>
    intro i hi hi2 hn
    rw [lpX5_put_eq, lpX4_lotThatHinders_eq, g35, g31, g32]
    by_cases c1 : k_munits v < i
    · rw [if_pos c1, if_pos h0, if_pos c1]; unfold putv; rw [if_pos rfl]
    rw [if_neg c1, if_pos h0, if_neg c1]
    have c1' := i_nlt c1 rfl rfl
    have e := i_inc (x := i) (by omega)
    have ihn := ih (i + 1) (by omega) (by omega) (by omega)
    by_cases c2 : k_mbin v i.toNatClampNeg = x2
    rotate_left
    · rw [if_neg c2, if_neg c2]; exact ihn
    rw [if_pos c2, if_pos c2]
    have hm := mix_far h (k_mlotOf v x1.toNatClampNeg) (k_mlotOf v i.toNatClampNeg)
    by_cases c3 : fX5_mayMix v (k_mlotOf v x1.toNatClampNeg) (k_mlotOf v i.toNatClampNeg) = 0
    · rw [if_pos c3, if_neg (hm.mp c3)]
      have hl := unit_lot h (x := i) (is_unit hi c1')
      have hl1 := il_lo hl
      have hne : ¬ k_mlotOf v i.toNatClampNeg = 0 := fun q => by
        rw [q, show (0 : Int32).toInt = 0 from by decide] at hl1; omega
      rw [put_done (code_ne (by decide))]
      unfold putv
      rw [if_neg hne]
      rfl
    · rw [if_neg c3, if_pos (Decidable.not_not.mp (fun q => c3 (hm.mpr q)))]; exact ihn
theorem rel_bin {u : cS} {v : mS} (h : Rel u v) (x1 x2 : Int32) : Rel (s_ubin u (upd (k_ubin u) x1.toNatClampNeg x2)) (s_mbin v (upd (k_mbin v) x1.toNatClampNeg x2)) := by
  obtain ⟨c, m, g1, g2, ⟨g31, g32, g33⟩, hrest⟩ := h
  exact ⟨c, m, g1, g2, ⟨g31, by show upd (k_ubin u) _ _ = upd (k_mbin v) _ _; rw [g32], g33⟩, hrest⟩
theorem rel_mx {u : cS} {v : mS} (h : Rel u v) {a b c : Int32} {f : Nat → Int32} (h0 : f 0 = a) (h1 : f 1 = b) : Rel (s_hinder (s_refused u a) b) (s_mcode (s_mmixed v f) c) := by
  obtain ⟨c, m, ⟨g1, g2, g3, g4, _⟩, hrest⟩ := h
  exact ⟨c, m, ⟨g1, g2, g3, g4, h0.symm, h1.symm⟩, hrest⟩
theorem rel_put : stp_put Rel := by
  intro u v x1 x2 h
  have g31 : k_ulot u = k_mlotOf v := h.2.2.2.2.1.1
  have g32 : k_ubin u = k_mbin v := h.2.2.2.2.1.2.1
  have g35 : k_umade u = k_munits v := h.2.2.2.2.1.2.2.2.2.1
  have m2 := h.2.1.2.1
  unfold fX4_put fX5_put
  by_cases c1 : fX5_isUnit v x1 = 0
  · rw [if_neg (fun q => (br_unit g35 _).mp q c1), if_pos c1, put_done (w := s_mcode v 1) (code_ne (by decide))]; exact ⟨rfl, rel_code h⟩
  rw [if_pos ((br_unit g35 _).mpr c1), if_neg c1]
  by_cases c2 : fX5_in x2 0 19 = 0
  · rw [if_neg (fun q => (br_in _ _ _).mp q c2), if_pos c2, put_done (w := s_mcode v 2) (code_ne (by decide))]; exact ⟨rfl, rel_code h⟩
  rw [if_pos ((br_in _ _ _).mpr c2), if_neg c2]
  rw [gone_01 h]
  by_cases c4 : fX5_isGone (s_mcode v 0) x1 = 0
  rotate_left
  · rw [if_neg (show ¬ fX5_isGone v x1 = 0 from c4), if_neg c4, put_done (w := s_mcode v 3) (code_ne (by decide))]; exact ⟨rfl, rel_code h⟩
  rw [if_pos (show fX5_isGone v x1 = 0 from c4), if_pos c4, g32]
  by_cases c5 : k_mbin v x1.toNatClampNeg = x2
  · rw [if_pos c5, if_pos c5, put_done (w := s_mcode v 3) (code_ne (by decide))]; exact ⟨rfl, rel_code h⟩
  rw [if_neg c5, if_neg c5]
  have n1 : (1 : Int32).toInt = 1 := by decide
  have k := put_lp (rel_code (x := 0) h) rfl x1 x2 121 1 (by omega) (by show _ ≤ (k_munits v).toInt + 1; omega) (by show (k_munits v).toInt + 1 < _; omega)
  rw [k]
  unfold fX4_lotThatHinders putv
  by_cases c6 : lpX4_lotThatHinders u x1 x2 121 1 = 0
  · rw [if_pos c6, if_pos c6]
    have z := rel_bin (rel_code (x := 0) h) x1 x2
    rw [g32] at z
    exact ⟨rfl, z⟩
  · rw [if_neg c6, if_neg c6]
    refine ⟨rfl, rel_mx (rel_code (x := 0) h) ?_ ?_⟩
    · show upd (upd (k_mmixed v) 0 (k_mlotOf v x1.toNatClampNeg)) 1 _ 0 = k_ulot u x1.toNatClampNeg
      rw [pk_un (by decide), pk_us, g31]
    · show upd (upd (k_mmixed v) 0 (k_mlotOf v x1.toNatClampNeg)) 1 _ 1 = _
      rw [pk_us]
/-! order -/
theorem arr_rf (u : cS) (x : Int32) : fX1_arrivedBefore u x x = 0 := by
  unfold fX1_arrivedBefore
  rw [if_pos rfl, if_pos (Int32.le_iff_toInt_le.mpr (Int.le_refl _))]
theorem before_rf (u : cS) (x r : Int32) : fX1_comesBefore u x x r = 0 := by
  unfold fX1_comesBefore
  rw [arr_rf, if_pos (rfl : k_last u x.toNatClampNeg = k_last u x.toNatClampNeg)]
  by_cases c1 : r = 2
  · rw [if_pos c1]
  · rw [if_neg c1]
    by_cases c2 : r = 0
    · rw [if_pos c2]
    · rw [if_neg c2]
theorem before_eq {u : cS} {v : mS} (h : Rel u v) {a b r : Int32} (hr : k_mrot v (k_mowner v a.toNatClampNeg).toNatClampNeg = r) : fX1_comesBefore u a b r = fX5_isBefore v a b := by
  have g23 : k_last u = k_muntil v := h.2.2.2.1.2.2.1
  have g24 : k_arr u = k_marr v := h.2.2.2.1.2.2.2.1
  unfold fX1_comesBefore fX5_isBefore fX1_arrivedBefore
  rw [g23, g24, hr]
  by_cases c1 : r = 2
  · rw [if_pos c1, if_pos c1]
    by_cases c2 : k_marr v a.toNatClampNeg = k_marr v b.toNatClampNeg
    · rw [if_pos c2, if_pos c2.symm]
    · rw [if_neg c2, if_neg (fun q => c2 q.symm)]
  · rw [if_neg c1, if_neg c1]
theorem rival_lp {u : cS} {v : mS} (h : Rel u v) {i x1 x2 : Int32} (h1 : k_mgood v i.toNatClampNeg = x1) (h2 : k_mowner v i.toNatClampNeg = x2) : ∀ (n : Nat) (k a : Int32), 1 ≤ k.toInt → lpX1_rivalsBefore u i (k_mrot v x2.toNatClampNeg) n k a = liX5_order v x1 x2 i n k a := by
  have e2 : k_lmade u = k_mlots v := h.2.2.2.1.2.2.2.2.2.2
  have g21 : k_goods u = k_mgood v := h.2.2.2.1.1
  have g22 : k_owners u = k_mowner v := h.2.2.2.1.2.1
  have m1 := h.2.1.1
  intro n
  induction n with
  | zero => intro k a _; rfl
  | succ n ih =>
    intro k a hk
    rw [lpX1_rivalsBefore_eq, liX5_order_eq, e2, Int32.add_zero]
    by_cases c1 : k_mlots v < k
    · rw [if_pos c1, if_pos c1]
    rw [if_neg c1, if_neg c1]
    have c1' := i_nlt c1 rfl rfl
    have e := i_inc (x := k) (by omega)
    have ihn := fun a => ih (k + 1) a (by omega)
    have kl := is_lot hk c1'
    unfold fX1_mayBeTakenFor
    rw [g21, g22, h1, h2, br_taken h kl]
    by_cases c2 : k = i
    · rw [if_pos c2]
      subst c2
      rw [before_rf, if_pos (rfl : (0 : Int32) = 0), ite_self]
      exact ihn a
    rw [if_neg c2]
    by_cases c3 : k_mgood v k.toNatClampNeg = x1
    rotate_left
    · rw [if_neg c3, if_neg c3, if_pos (rfl : (0 : Int32) = 0)]; exact ihn a
    rw [if_pos c3, if_pos c3]
    by_cases c4 : k_mowner v k.toNatClampNeg = x2
    rotate_left
    · rw [if_neg c4, if_neg c4, if_pos (rfl : (0 : Int32) = 0)]; exact ihn a
    rw [if_pos c4, if_pos c4]
    by_cases c5 : fX5_mayBeTaken v k = 0
    · rw [if_pos c5, if_pos (rfl : (0 : Int32) = 0), if_pos (show fX5_mayBeTaken (s_mcode v 0) k = 0 from c5)]; exact ihn a
    rw [if_neg c5, if_neg (by decide : ¬ (1 : Int32) = 0), if_neg (show ¬ fX5_mayBeTaken (s_mcode v 0) k = 0 from c5), before_eq h (a := k) (b := i) (by rw [c4])]
    by_cases c6 : fX5_isBefore v k i = 0
    · rw [if_pos c6, if_pos (show fX5_isBefore (s_mcode v 0) k i = 0 from c6)]; exact ihn a
    · rw [if_neg c6, if_neg (show ¬ fX5_isBefore (s_mcode v 0) k i = 0 from c6)]; exact ihn (a + 1)
theorem order_lp {u : cS} {v : mS} (h : Rel u v) {x1 x2 x3 : Int32} : ∀ (n : Nat) (i : Int32), 1 ≤ i.toInt → i.toInt ≤ (k_mlots v).toInt + 1 → (k_mlots v).toInt + 1 < i.toInt + n → ∃ y : Int32, lpX4_order u x1 x2 x3 n i = (0, y, u) ∧ loX5_order v x1 x2 x3 n i = (y, s_mcode v 0) := by
  have e2 : k_lmade u = k_mlots v := h.2.2.2.1.2.2.2.2.2.2
  have g21 : k_goods u = k_mgood v := h.2.2.2.1.1
  have g22 : k_owners u = k_mowner v := h.2.2.2.1.2.1
  have g11 : k_rot u = k_mrot v := h.2.2.1.1
  have m1 := h.2.1.1
  intro n
  induction n with
  | zero => intro i h1 h2 h3; omega
  | succ n ih =>
    intro i hi hi2 hn
    rw [lpX4_order_eq, loX5_order_eq, e2, g11]
    by_cases c1 : k_mlots v < i
    · rw [if_pos c1, if_pos c1]; exact ⟨_, rfl, rfl⟩
    rw [if_neg c1, if_neg c1]
    have c1' := i_nlt c1 rfl rfl
    have e := i_inc (x := i) (by omega)
    have ihn := ih (i + 1) (by omega) (by omega) (by omega)
    have il := is_lot hi c1'
    unfold fX1_mayBeTakenFor
    rw [g21, g22, br_taken h il]
    by_cases c3 : k_mgood v i.toNatClampNeg = x1
    rotate_left
    · rw [if_neg c3, if_neg c3, if_pos (rfl : (0 : Int32) = 0)]; exact ihn
    rw [if_pos c3, if_pos c3]
    by_cases c4 : k_mowner v i.toNatClampNeg = x2
    rotate_left
    · rw [if_neg c4, if_neg c4, if_pos (rfl : (0 : Int32) = 0)]; exact ihn
    rw [if_pos c4, if_pos c4]
    by_cases c5 : fX5_mayBeTaken v i = 0
    · rw [if_pos c5, if_pos (rfl : (0 : Int32) = 0), if_pos (show fX5_mayBeTaken (s_mcode v 0) i = 0 from c5)]; exact ihn
    rw [if_neg c5, if_neg (by decide : ¬ (1 : Int32) = 0), if_neg (show ¬ fX5_mayBeTaken (s_mcode v 0) i = 0 from c5)]
    unfold fX1_rivalsBefore
    rw [rival_lp h c3 c4 41 1 0 (by decide)]
    by_cases c6 : liX5_order v x1 x2 i 41 1 0 = x3
    · rw [if_pos c6, if_pos c6]; exact ⟨_, rfl, rfl⟩
    · rw [if_neg c6, if_neg c6]; exact ihn
theorem rel_order : stp_order Rel := by
  intro u v x1 x2 x3 h
  have m1 := h.2.1.1
  unfold fX4_order fX5_order
  by_cases c1 : fX5_in x1 0 9 = 0
  · rw [if_neg (fun q => (br_in _ _ _).mp q c1), if_pos c1]; exact ⟨rfl, fun q => nz q, rel_code h⟩
  rw [if_pos ((br_in _ _ _).mpr c1), if_neg c1]
  by_cases c2 : fX5_in x2 0 7 = 0
  · rw [if_neg (fun q => (br_in _ _ _).mp q c2), if_pos c2]; exact ⟨rfl, fun q => nz q, rel_code h⟩
  rw [if_pos ((br_in _ _ _).mpr c2), if_neg c2]
  by_cases c3 : 0 ≤ x3
  rotate_left
  · rw [if_neg (fun q => c3 (br_nn.mp q)), if_neg c3]; exact ⟨rfl, fun q => nz q, rel_code h⟩
  rw [if_pos (br_nn.mpr c3), if_pos c3]
  have n1 : (1 : Int32).toInt = 1 := by decide
  obtain ⟨y, h1, h2⟩ := order_lp h (x1 := x1) (x2 := x2) (x3 := x3) 41 1 (by omega) (by omega) (by omega)
  rw [h1, h2]
  exact ⟨rfl, fun _ => rfl, rel_code h⟩
