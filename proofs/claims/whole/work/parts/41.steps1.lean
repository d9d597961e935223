theorem nz {a : Nat} {P : Prop} (h : a + 1 = 0) : P := absurd h (Nat.succ_ne_zero a)
/-! the calls that only set a rule -/
theorem rel_rule : stp_rule Rel := by
  intro u v x1 x2 x3 h
  unfold fX4_rule fX5_rule
  by_cases c1 : fX5_in x1 0 7 = 0
  · rw [if_neg (fun q => (br_in _ _ _).mp q c1), if_pos c1]; exact ⟨rfl, rel_code h⟩
  rw [if_pos ((br_in _ _ _).mpr c1), if_neg c1]
  by_cases c2 : fX5_in x2 0 1 = 0
  · rw [if_neg (fun q => (br_in _ _ _).mp q c2), if_pos c2]; exact ⟨rfl, rel_code h⟩
  rw [if_pos ((br_in _ _ _).mpr c2), if_neg c2]
  by_cases c3 : x2 = 0
  · rw [if_pos c3, if_pos c3]
    by_cases c4 : fX5_in x3 0 2 = 0
    · rw [if_neg (fun q => (br_in _ _ _).mp q c4), if_pos c4]; exact ⟨rfl, rel_code h⟩
    rw [if_pos ((br_in _ _ _).mpr c4), if_neg c4]
    refine ⟨rfl, h.1, h.2.1, ⟨?_, h.2.2.1.2⟩, h.2.2.2⟩
    show upd (k_rot u) _ _ = upd (k_mrot v) _ _
    rw [h.2.2.1.1]
  · rw [if_neg c3, if_neg c3]
    by_cases c4 : fX5_in x3 0 1000 = 0
    · rw [if_neg (fun q => (br_in _ _ _).mp q c4), if_pos c4]; exact ⟨rfl, rel_code h⟩
    rw [if_pos ((br_in _ _ _).mpr c4), if_neg c4]
    refine ⟨rfl, h.1, h.2.1, ⟨h.2.2.1.1, ?_, h.2.2.1.2.2⟩, h.2.2.2⟩
    show upd (k_mix u) _ _ = upd (k_mmix v) _ _
    rw [h.2.2.1.2.1]
theorem rel_wants : stp_wants Rel := by
  intro u v x1 x2 h
  unfold fX4_wants fX5_wants
  by_cases c1 : fX5_in x1 0 7 = 0
  · rw [if_neg (fun q => (br_in _ _ _).mp q c1), if_pos c1]; exact ⟨rfl, rel_code h⟩
  rw [if_pos ((br_in _ _ _).mpr c1), if_neg c1]
  by_cases c2 : fX5_in x2 1 1000 = 0
  · rw [if_neg (fun q => (br_in _ _ _).mp q c2), if_pos c2]; exact ⟨rfl, rel_code h⟩
  rw [if_pos ((br_in _ _ _).mpr c2), if_neg c2]
  refine ⟨rfl, h.1, h.2.1, ⟨h.2.2.1.1, h.2.2.1.2.1, ?_, h.2.2.1.2.2.2⟩, h.2.2.2⟩
  show upd (k_want u) _ _ = upd (k_mwant v) _ _
  rw [h.2.2.1.2.2.1]
theorem rel_right : stp_right Rel := by
  intro u v x1 x2 x3 h _
  unfold fX4_right fX5_right
  by_cases c1 : fX5_in x1 0 7 = 0
  · rw [if_neg (fun q => (br_in _ _ _).mp q c1), if_pos c1]; exact ⟨rfl, rel_code h⟩
  rw [if_pos ((br_in _ _ _).mpr c1), if_neg c1]
  by_cases c2 : fX5_in x2 1 9 = 0
  · rw [if_neg (fun q => (br_in _ _ _).mp q c2), if_pos c2]; exact ⟨rfl, rel_code h⟩
  rw [if_pos ((br_in _ _ _).mpr c2), if_neg c2]
  by_cases c3 : x3 = 0
  · rw [if_pos c3, if_pos c3]
    refine ⟨rfl, h.1, h.2.1, ⟨h.2.2.1.1, h.2.2.1.2.1, h.2.2.1.2.2.1, ?_, h.2.2.1.2.2.2.2⟩, h.2.2.2⟩
    show upd (k_may u) _ _ = upd (k_mrights v) _ _
    rw [h.2.2.1.2.2.2.1]
  · rw [if_neg c3, if_neg c3]
    refine ⟨rfl, h.1, h.2.1, ⟨h.2.2.1.1, h.2.2.1.2.1, h.2.2.1.2.2.1, ?_, h.2.2.1.2.2.2.2⟩, h.2.2.2⟩
    show upd (k_may u) _ _ = upd (k_mrights v) _ _
    rw [h.2.2.1.2.2.2.1]
/-! plain reads -/
theorem in01 {x : Int32} (h : ¬ fX5_in x 0 1 = 0) (h0 : ¬ x = 0) : x = 1 := by
  have a := in_lo h
  have b := in_hi h
  have c := i_ne h0 rfl (by decide : (0 : Int32).toInt = 0)
  have n0 : (0 : Int32).toInt = 0 := by decide
  have n1 : (1 : Int32).toInt = 1 := by decide
  exact Int32.toInt_inj.mp (by omega)
theorem rel_mixed : stp_mixed Rel := by
  intro u v x1 h
  unfold fX4_mixed fX5_mixed
  by_cases c1 : fX5_in x1 0 1 = 0
  · rw [if_neg (fun q => (br_in _ _ _).mp q c1), if_pos c1]; exact ⟨rfl, fun q => nz q, rel_code h⟩
  rw [if_pos ((br_in _ _ _).mpr c1), if_neg c1]
  by_cases c2 : x1 = 0
  · rw [if_pos c2]; subst c2
    exact ⟨rfl, fun _ => h.2.2.1.2.2.2.2.1, rel_code h⟩
  · rw [if_neg c2]
    have c3 := in01 c1 c2
    subst c3
    exact ⟨rfl, fun _ => h.2.2.1.2.2.2.2.2, rel_code h⟩
theorem in03 {x : Int32} (h : ¬ fX5_in x 0 3 = 0) (h0 : ¬ x = 0) (h1 : ¬ x = 1) (h2 : ¬ x = 2) : x = 3 := by
  have a := in_lo h
  have b := in_hi h
  have c0 := i_ne h0 rfl (by decide : (0 : Int32).toInt = 0)
  have c1 := i_ne h1 rfl (by decide : (1 : Int32).toInt = 1)
  have c2 := i_ne h2 rfl (by decide : (2 : Int32).toInt = 2)
  have n0 : (0 : Int32).toInt = 0 := by decide
  have n3 : (3 : Int32).toInt = 3 := by decide
  exact Int32.toInt_inj.mp (by omega)
theorem rel_where : stp_where Rel := by
  intro u v x1 x2 h
  have e := h.2.2.2.2.1
  unfold fX4_where fX5_where
  by_cases c1 : fX5_isUnit v x1 = 0
  · rw [if_neg (fun q => (br_unit e.2.2.2.2.1 _).mp q c1), if_pos c1]; exact ⟨rfl, fun q => nz q, rel_code h⟩
  rw [if_pos ((br_unit e.2.2.2.2.1 _).mpr c1), if_neg c1]
  by_cases c2 : fX5_in x2 0 3 = 0
  · rw [if_pos c2]
    have k : ∀ y : Int32, ¬ fX5_in y 0 3 = 0 → ¬ x2 = y := fun y hy q => hy (by rw [← q]; exact c2)
    rw [if_neg (k 0 (by decide)), if_neg (k 1 (by decide)), if_neg (k 2 (by decide)), if_neg (k 3 (by decide))]
    exact ⟨rfl, fun q => nz q, rel_code h⟩
  rw [if_neg c2]
  by_cases d0 : x2 = 0
  · rw [if_pos d0, if_pos d0]; exact ⟨rfl, fun _ => by show k_ulot u _ = k_mlotOf v _; rw [e.1], rel_code h⟩
  rw [if_neg d0, if_neg d0]
  by_cases d1 : x2 = 1
  · rw [if_pos d1, if_pos d1]; exact ⟨rfl, fun _ => by show k_ubin u _ = k_mbin v _; rw [e.2.1], rel_code h⟩
  rw [if_neg d1, if_neg d1]
  by_cases d2 : x2 = 2
  · rw [if_pos d2, if_pos d2]; exact ⟨rfl, fun _ => by show k_ucust u _ = k_mcust v _; rw [e.2.2.1], rel_code h⟩
  rw [if_neg d2, if_neg d2, if_pos (in03 c2 d0 d1 d2)]
  exact ⟨rfl, fun _ => by show k_uday u _ = k_mwhen v _; rw [e.2.2.2.1], rel_code h⟩
/-! a lot that may be taken, that may go -/
theorem nat_ix {x : Int32} (h : 0 ≤ x.toInt) : ((x.toNatClampNeg : Nat) : Int) = x.toInt := by
  have e : x.toNatClampNeg = x.toInt.toNat := rfl
  rw [e]; omega
theorem br_open {u : cS} {v : mS} (h : Rel u v) {x : Int32} (c : ¬ fX5_isLot v x = 0) : k_open u x.toNatClampNeg = fX5_isOpen v x := by
  have a := il_lo c
  have b := il_hi c
  have e := nat_ix (x := x) (by omega)
  have ho := h.2.2.2.2.2.1.1 x.toNatClampNeg (by omega) (by rw [h.2.2.2.1.2.2.2.2.2.2]; omega)
  unfold fX5_isOpen
  exact ho
theorem br_taken {u : cS} {v : mS} (h : Rel u v) {x : Int32} (c : ¬ fX5_isLot v x = 0) : fX1_mayBeTaken u x = fX5_mayBeTaken v x := by
  unfold fX1_mayBeTaken fX5_mayBeTaken
  rw [br_open h c, h.2.2.2.1.2.2.2.2.1, h.2.2.2.1.2.2.2.2.2.1]
theorem br_go {u : cS} {v : mS} (h : Rel u v) {x : Int32} (c : ¬ fX5_isLot v x = 0) (y z : Int32) : fX4_mayGo u x y z = fX5_isAllowed v x y z := by
  unfold fX4_mayGo fX5_isAllowed
  rw [br_taken h c, h.2.2.2.1.2.2.2.1, h.2.2.2.1.2.2.1, h.2.2.1.2.2.1]
theorem al_01 (v : mS) (x y z : Int32) : fX5_isAllowed v x y z = 0 ∨ fX5_isAllowed v x y z = 1 := fX5_isAllowed_01 v x y z
theorem rel_allowed : stp_allowed Rel := by
  intro u v x1 x2 x3 h
  have e := h.2.2.2.1.2.2.2.2.2.2
  unfold fX4_allowed fX5_allowed
  by_cases c1 : fX5_isLot v x1 = 0
  · rw [if_neg (fun q => (br_lot e _).mp q c1), if_pos c1]; exact ⟨rfl, fun q => nz q, rel_code h⟩
  rw [if_pos ((br_lot e _).mpr c1), if_neg c1]
  by_cases c2 : fX5_in x2 0 7 = 0
  · rw [if_neg (fun q => (br_in _ _ _).mp q c2), if_pos c2]; exact ⟨rfl, fun q => nz q, rel_code h⟩
  rw [if_pos ((br_in _ _ _).mpr c2), if_neg c2]
  by_cases c3 : fX5_in x3 0 36524 = 0
  · rw [if_neg (fun q => (br_in _ _ _).mp q c3), if_pos c3]; exact ⟨rfl, fun q => nz q, rel_code h⟩
  rw [if_pos ((br_in _ _ _).mpr c3), if_neg c3]
  have g := br_go h c1 x2 x3
  by_cases c4 : fX5_isAllowed (s_mcode v 0) x1 x2 x3 = 0
  · rw [if_pos c4]; exact ⟨rfl, fun _ => g.trans c4, rel_code h⟩
  · rw [if_neg c4]
    exact ⟨rfl, fun _ => g.trans ((al_01 v x1 x2 x3).resolve_left c4), rel_code h⟩
