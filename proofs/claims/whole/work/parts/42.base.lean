/-! rooms and states -/
theorem br_rq {x : Int32} : fX4_requireRoom x = 0 ↔ ¬ x = 0 := by
  unfold fX4_requireRoom
  by_cases h : x = 0
  · rw [if_pos h]; exact ⟨fun q => absurd q (by decide), fun q => absurd h q⟩
  · rw [if_neg h]; exact ⟨fun _ => h, fun _ => rfl⟩
theorem br_rs {x : Int32} : fX4_requireState x = 0 ↔ ¬ x = 0 := by
  unfold fX4_requireState
  by_cases h : x = 0
  · rw [if_pos h]; exact ⟨fun q => absurd q (by decide), fun q => absurd h q⟩
  · rw [if_neg h]; exact ⟨fun _ => h, fun _ => rfl⟩
theorem br_nn {x : Int32} : fX4_requireNotNegative x = 0 ↔ 0 ≤ x := by
  unfold fX4_requireNotNegative
  by_cases h : 0 ≤ x
  · rw [if_pos h]; exact ⟨fun _ => h, fun _ => rfl⟩
  · rw [if_neg h]; exact ⟨fun q => absurd q (by decide), fun q => absurd q h⟩
theorem br_room1 {u : cS} {v : mS} (e : k_rwrit u = k_mrows v) (hI : 0 ≤ (k_mrows v).toInt ∧ (k_mrows v).toInt ≤ 400) : fX2_haveRoomFor u 1 = 0 ↔ k_mrows v = 400 := by
  unfold fX2_haveRoomFor
  rw [e]
  have n4 : (400 : Int32).toInt = 400 := by decide
  have ea := i_inc (x := k_mrows v) (by omega)
  by_cases h : 400 < k_mrows v + 1
  · rw [if_pos h]
    have h1 := i_lt h rfl rfl
    exact ⟨fun _ => Int32.toInt_inj.mp (by omega), fun _ => rfl⟩
  · rw [if_neg h]
    have h1 := i_nlt h rfl rfl
    refine ⟨fun q => absurd q (by decide), fun q => ?_⟩
    have h2 := i_eq q rfl rfl
    omega
theorem br_room2 {u : cS} {v : mS} (e : k_rwrit u = k_mrows v) (hI : 0 ≤ (k_mrows v).toInt ∧ (k_mrows v).toInt ≤ 400) : fX2_haveRoomFor u 2 = 0 ↔ ¬ k_mrows v ≤ 398 := by
  unfold fX2_haveRoomFor
  rw [e]
  have n4 : (400 : Int32).toInt = 400 := by decide
  have n3 : (398 : Int32).toInt = 398 := by decide
  have n2 : (2 : Int32).toInt = 2 := by decide
  have ea := i_add (x := k_mrows v) (y := 2) (by omega) (by omega)
  by_cases h : 400 < k_mrows v + 2
  · rw [if_pos h]
    have h1 := i_lt h rfl rfl
    refine ⟨fun _ q => ?_, fun _ => rfl⟩
    have h2 := i_le q rfl rfl
    omega
  · rw [if_neg h]
    have h1 := i_nlt h rfl rfl
    refine ⟨fun q => absurd q (by decide), fun q => ?_⟩
    exact absurd (Int32.le_iff_toInt_le.mpr (by omega)) q
theorem br_lroom {u : cS} {v : mS} (e : k_lmade u = k_mlots v) (hI : 0 ≤ (k_mlots v).toInt ∧ (k_mlots v).toInt ≤ 40) : fX1_haveRoom u = 0 ↔ k_mlots v = 40 := by
  unfold fX1_haveRoom
  rw [e]
  have n4 : (40 : Int32).toInt = 40 := by decide
  by_cases h : 40 ≤ k_mlots v
  · rw [if_pos h]
    have h1 := i_le h rfl rfl
    exact ⟨fun _ => Int32.toInt_inj.mp (by omega), fun _ => rfl⟩
  · rw [if_neg h]
    have h1 := i_nle h rfl rfl
    refine ⟨fun q => absurd q (by decide), fun q => ?_⟩
    have h2 := i_eq q rfl rfl
    omega
theorem br_uroom {u : cS} {v : mS} (e : k_umade u = k_munits v) (hI : 0 ≤ (k_munits v).toInt ∧ (k_munits v).toInt ≤ 120) : fX3_haveRoom u = 0 ↔ k_munits v = 120 := by
  unfold fX3_haveRoom
  rw [e]
  have n4 : (120 : Int32).toInt = 120 := by decide
  by_cases h : 120 ≤ k_munits v
  · rw [if_pos h]
    have h1 := i_le h rfl rfl
    exact ⟨fun _ => Int32.toInt_inj.mp (by omega), fun _ => rfl⟩
  · rw [if_neg h]
    have h1 := i_nle h rfl rfl
    refine ⟨fun q => absurd q (by decide), fun q => ?_⟩
    have h2 := i_eq q rfl rfl
    omega
/-! a row written -/
theorem fm_congr {α β : Type} {f g : α → Option β} : ∀ {l : List α}, (∀ x ∈ l, f x = g x) → l.filterMap f = l.filterMap g
  | [], _ => rfl
  | x :: l, h => by rw [List.filterMap_cons, List.filterMap_cons, h x List.mem_cons_self, fm_congr (fun y hy => h y (List.mem_cons_of_mem _ hy))]
theorem hs_row (n : Nat) (a b c : Nat → Int32) (l0 k0 x0 l : Int32) : hs (n + 1) (upd a n l0) (upd b n k0) (upd c n x0) l = hs n a b c l ++ (if l0 = l then [(k0, x0)] else []) := by
  unfold hs
  rw [List.range_succ, List.filterMap_append]
  congr 1
  · refine fm_congr (fun k hk => ?_)
    have hk := Nat.ne_of_lt (List.mem_range.mp hk)
    rw [pk_un hk, pk_un hk, pk_un hk]
  · rw [List.filterMap_cons, pk_us, pk_us, pk_us]
    by_cases h : l0 = l
    · rw [if_pos h, if_pos h]; rfl
    · rw [if_neg h, if_neg h]; rfl
theorem nx_ix {x : Int32} (h0 : 0 ≤ x.toInt) (h1 : x.toInt < 2147483647) : (x + 1).toInt.toNat = x.toInt.toNat + 1 := by
  rw [i_inc h1]; omega
theorem rh_row {nr : Int32} {a b c a2 b2 c2 : Nat → Int32} (h : RH nr a b c a2 b2 c2) (h0 : 0 ≤ nr.toInt) (h1 : nr.toInt < 400) (l k x : Int32) : RH (nr + 1) (upd a nr.toNatClampNeg l) (upd b nr.toNatClampNeg k) (upd c nr.toNatClampNeg x) (upd a2 nr.toNatClampNeg l) (upd b2 nr.toNatClampNeg k) (upd c2 nr.toNatClampNeg x) := by
  intro q
  rw [nx_ix h0 (by omega)]
  show hs (nr.toInt.toNat + 1) (upd a nr.toInt.toNat l) (upd b nr.toInt.toNat k) (upd c nr.toInt.toNat x) q = hs (nr.toInt.toNat + 1) (upd a2 nr.toInt.toNat l) (upd b2 nr.toInt.toNat k) (upd c2 nr.toInt.toNat x) q
  rw [hs_row, hs_row, h q]
/-- two rows of different lots, in either order -/
theorem rh_row2 {nr : Int32} {a b c a2 b2 c2 : Nat → Int32} (h : RH nr a b c a2 b2 c2) (h0 : 0 ≤ nr.toInt) (h1 : nr.toInt < 399) {l k x l2 k2 x2 : Int32} (hd : ¬ l = l2) : RH (nr + 1 + 1) (upd (upd a nr.toNatClampNeg l) (nr + 1).toNatClampNeg l2) (upd (upd b nr.toNatClampNeg k) (nr + 1).toNatClampNeg k2) (upd (upd c nr.toNatClampNeg x) (nr + 1).toNatClampNeg x2) (upd (upd a2 nr.toNatClampNeg l2) (nr + 1).toNatClampNeg l) (upd (upd b2 nr.toNatClampNeg k2) (nr + 1).toNatClampNeg k) (upd (upd c2 nr.toNatClampNeg x2) (nr + 1).toNatClampNeg x) := by
  intro q
  have e := i_inc (x := nr) (by omega)
  have e1 := nx_ix (x := nr) h0 (by omega)
  rw [nx_ix (x := nr + 1) (by omega) (by omega), e1]
  have e2 : (nr + 1).toNatClampNeg = nr.toInt.toNat + 1 := e1
  rw [e2]
  show hs (nr.toInt.toNat + 1 + 1) (upd (upd a nr.toInt.toNat l) (nr.toInt.toNat + 1) l2) (upd (upd b nr.toInt.toNat k) (nr.toInt.toNat + 1) k2) (upd (upd c nr.toInt.toNat x) (nr.toInt.toNat + 1) x2) q = hs (nr.toInt.toNat + 1 + 1) (upd (upd a2 nr.toInt.toNat l2) (nr.toInt.toNat + 1) l) (upd (upd b2 nr.toInt.toNat k2) (nr.toInt.toNat + 1) k) (upd (upd c2 nr.toInt.toNat x2) (nr.toInt.toNat + 1) x) q
  rw [hs_row, hs_row, hs_row, hs_row, h q]
  by_cases h3 : l = q
  · rw [if_pos h3, if_neg (fun h4 => hd (h3.trans h4.symm)), List.append_nil, List.append_nil]
  · rw [if_neg h3, List.append_nil, List.append_nil]
theorem rel_row {u : cS} {v : mS} (h : Rel u v) (hr : (k_mrows v).toInt < 400) (l k x : Int32) : Rel (fX2_write u l k x) (fX5_row v l k x) := by
  obtain ⟨⟨c1, c2, c3, c4⟩, ⟨m1, m2, m3, m4⟩, g1, g2, ⟨g3, g4, g5, g6, g7, g8⟩, ho, hh, hrest⟩ := h
  have e := i_inc (x := k_mrows v) (by omega)
  have e8 : k_rwrit u + 1 = k_mrows v + 1 := by rw [g8]
  refine ⟨⟨c1, c2, ?_, c4⟩, ⟨m1, m2, ?_, m4⟩, g1, g2, ⟨g3, g4, g5, g6, g7, e8⟩, ho, ?_, hrest⟩
  · show 0 ≤ (k_rwrit u + 1).toInt ∧ (k_rwrit u + 1).toInt ≤ 400
    rw [e8]; omega
  · show 0 ≤ (k_mrows v + 1).toInt ∧ (k_mrows v + 1).toInt ≤ 400
    omega
  · show RH (k_rwrit u + 1) (upd (k_rlot u) (k_rwrit u).toNatClampNeg l) (upd (k_rkind u) (k_rwrit u).toNatClampNeg k) (upd (k_rnum u) (k_rwrit u).toNatClampNeg x) (upd (k_mrl v) (k_mrows v).toNatClampNeg l) (upd (k_mrk v) (k_mrows v).toNatClampNeg k) (upd (k_mrn v) (k_mrows v).toNatClampNeg x)
    rw [← g8]
    exact rh_row hh c3.1 (by rw [g8]; exact hr) l k x
theorem rel_set {u : cS} {v : mS} (h : Rel u v) {n : Int32} {a b c a2 b2 c2 : Nat → Int32} (hn : 0 ≤ n.toInt ∧ n.toInt ≤ 400) (hh : RH n a b c a2 b2 c2) : Rel (s_rwrit (s_rnum (s_rkind (s_rlot u a) b) c) n) (s_mrows (s_mrn (s_mrk (s_mrl v a2) b2) c2) n) := by
  obtain ⟨⟨c1, c2, c3, c4⟩, ⟨m1, m2, m3, m4⟩, g1, g2, ⟨g3, g4, g5, g6, g7, g8⟩, ho, _, hrest⟩ := h
  exact ⟨⟨c1, c2, hn, c4⟩, ⟨m1, m2, hn, m4⟩, g1, g2, ⟨g3, g4, g5, g6, g7, rfl⟩, ho, hh, hrest⟩
theorem wr_2 (u : cS) (l k x l2 k2 x2 : Int32) : fX2_write (fX2_write u l k x) l2 k2 x2 = s_rwrit (s_rnum (s_rkind (s_rlot u (upd (upd (k_rlot u) (k_rwrit u).toNatClampNeg l) (k_rwrit u + 1).toNatClampNeg l2)) (upd (upd (k_rkind u) (k_rwrit u).toNatClampNeg k) (k_rwrit u + 1).toNatClampNeg k2)) (upd (upd (k_rnum u) (k_rwrit u).toNatClampNeg x) (k_rwrit u + 1).toNatClampNeg x2)) (k_rwrit u + 1 + 1) := rfl
theorem rw_2 (v : mS) (l k x l2 k2 x2 : Int32) : fX5_row (fX5_row v l k x) l2 k2 x2 = s_mrows (s_mrn (s_mrk (s_mrl v (upd (upd (k_mrl v) (k_mrows v).toNatClampNeg l) (k_mrows v + 1).toNatClampNeg l2)) (upd (upd (k_mrk v) (k_mrows v).toNatClampNeg k) (k_mrows v + 1).toNatClampNeg k2)) (upd (upd (k_mrn v) (k_mrows v).toNatClampNeg x) (k_mrows v + 1).toNatClampNeg x2)) (k_mrows v + 1 + 1) := rfl
theorem rel_row2 {u : cS} {v : mS} (h : Rel u v) (hr : (k_mrows v).toInt < 399) {l k x l2 k2 x2 : Int32} (hd : ¬ l = l2) : Rel (fX2_write (fX2_write u l k x) l2 k2 x2) (fX5_row (fX5_row v l2 k2 x2) l k x) := by
  have g8 : k_rwrit u = k_mrows v := h.2.2.2.2.1.2.2.2.2.2
  have m3 : 0 ≤ (k_mrows v).toInt := h.2.1.2.2.1.1
  have e := i_inc (x := k_mrows v) (by omega)
  have e2 := i_inc (x := k_mrows v + 1) (by omega)
  rw [wr_2, rw_2, ← g8]
  exact rel_set h (by rw [g8]; omega) (rh_row2 h.2.2.2.2.2.2.1 h.1.2.2.1.1 (by rw [g8]; exact hr) hd)
/-- a row fits where there are not 400 -/
theorem row_lt {v : mS} (h : mInv v) (c : ¬ k_mrows v = 400) : (k_mrows v).toInt < 400 := by
  have h1 := i_ne c rfl (by decide : (400 : Int32).toInt = 400)
  have := h.2.2.1
  omega
theorem row_lt2 {v : mS} (c : k_mrows v ≤ 398) : (k_mrows v).toInt < 399 := by
  have h1 := i_le c rfl (by decide : (398 : Int32).toInt = 398)
  omega
