/-! blocks -/
theorem blk_tab : ∀ k : Fin 1024, ∀ r : Fin 10, ((((nI k.1) >>> (nI r.1 &&& 31)) &&& 1 = 1 ↔ ¬ (nI k.1) &&& ((1 : Int32) <<< (nI r.1 &&& 31)) = 0) ∧ 0 ≤ ((nI k.1) ||| ((1 : Int32) <<< (nI r.1 &&& 31))).toInt ∧ ((nI k.1) ||| ((1 : Int32) <<< (nI r.1 &&& 31))).toInt < 1024) := by decide +kernel
theorem bit_cnt : ∀ k : Fin 1024, fJ6_bitCount (nI k.1) = fX5_bits (nI k.1) := by decide +kernel
theorem and_tab : ∀ k : Fin 1024, nI k.1 = nI k.1 &&& 1023 := by decide +kernel
theorem nI_ex {x : Int32} {n : Nat} (h : 0 ≤ x.toInt ∧ x.toInt < n) : ∃ k : Fin n, x = nI k.1 := ⟨⟨x.toInt.toNat, by omega⟩, (nI_fr h.1).symm⟩
theorem and_rg {x : Int32} (y : Int32) (h : 0 ≤ x.toInt ∧ x.toInt < 1024) : 0 ≤ (x &&& y).toInt ∧ (x &&& y).toInt < 1024 := by
  obtain ⟨k, rfl⟩ := nI_ex (n := 1024) h
  have e : nI k.1 &&& y = (nI k.1 &&& y) &&& 1023 := by
    conv => lhs; rw [and_tab k]
    rw [Int32.and_assoc, Int32.and_comm 1023 y, ← Int32.and_assoc]
  obtain ⟨kk, h1, h2⟩ := pk_andE (nI k.1 &&& y) (m := 1023) 10 (by decide)
  rw [h2] at e
  rw [e, nI_toInt (by omega)]
  omega
theorem bc_rg {x : Int32} (h : 0 ≤ x.toInt ∧ x.toInt < 1024) : fJ6_bitCount x = fX5_bits x := by
  obtain ⟨k, rfl⟩ := nI_ex (n := 1024) h
  exact bit_cnt k
theorem blk_rg {x y : Int32} (h : 0 ≤ x.toInt ∧ x.toInt < 1024) (h2 : 0 ≤ y.toInt ∧ y.toInt < 10) : (((x >>> (y &&& 31)) &&& 1 = 1 ↔ ¬ x &&& ((1 : Int32) <<< (y &&& 31)) = 0) ∧ 0 ≤ (x ||| ((1 : Int32) <<< (y &&& 31))).toInt ∧ (x ||| ((1 : Int32) <<< (y &&& 31))).toInt < 1024) := by
  obtain ⟨k, rfl⟩ := nI_ex (n := 1024) h
  obtain ⟨r, rfl⟩ := nI_ex (n := 10) h2
  exact blk_tab k r
theorem rls_eq (x y : Int32) : x &&& ((x &&& y) ^^^ (-1)) = x &&& (y ^^^ (-1)) := by
  apply Int32.toBitVec_inj.mp
  rw [Int32.toBitVec_and, Int32.toBitVec_xor, Int32.toBitVec_and, Int32.toBitVec_and, Int32.toBitVec_xor]
  apply BitVec.eq_of_getLsbD_eq
  intro i hi
  simp only [BitVec.getLsbD_and, BitVec.getLsbD_xor]
  cases x.toBitVec.getLsbD i <;> simp
/-- the reasons of a lot set -/
theorem rel_setR {u : cS} {v : mS} (h : Rel u v) {rs qs : Nat → Int32} (hr : ∀ j : Nat, 0 ≤ (rs j).toInt ∧ (rs j).toInt < 1024) (hq : ∀ j : Nat, qs j = 0 ∨ qs j = 1) (hz : ∀ j : Nat, (k_mlots v).toInt < (j : Int) → rs j = 0 ∧ qs j = 0) : Rel (s_quar (s_reas u rs) qs) (s_mquiet (s_mblk v rs) qs) := by
  obtain ⟨c, m, g1, ⟨g21, g22, g23, g24, g25, g26, g27⟩, g3, ho, hh, hK, hW, hG, ⟨r1, r2, r3, r4, r5, r6⟩⟩ := h
  exact ⟨c, m, g1, ⟨g21, g22, g23, g24, rfl, rfl, g27⟩, g3, ho, hh, hK, hW, hG, ⟨hr, hq, r3, r4, r5, fun j hj => hz j (by rw [← g27]; exact hj)⟩⟩
theorem lot_ix {v : mS} {x : Int32} (c : ¬ fX5_isLot v x = 0) : 1 ≤ x.toNatClampNeg ∧ (x.toNatClampNeg : Int) ≤ (k_mlots v).toInt ∧ (x.toNatClampNeg : Int) = x.toInt := by
  have a := il_lo c
  have b := il_hi c
  have e := nat_ix (x := x) (by omega)
  omega
theorem rel_reas {u : cS} {v : mS} (h : Rel u v) {x1 r : Int32} (c : ¬ fX5_isLot v x1 = 0) (hr : 0 ≤ r.toInt ∧ r.toInt < 1024) : Rel (s_reas u (upd (k_reas u) x1.toNatClampNeg r)) (s_mblk v (upd (k_mblk v) x1.toNatClampNeg r)) := by
  have g25 : k_reas u = k_mblk v := h.2.2.2.1.2.2.2.2.1
  have g26 : k_quar u = k_mquiet v := h.2.2.2.1.2.2.2.2.2.1
  have g27 : k_lmade u = k_mlots v := h.2.2.2.1.2.2.2.2.2.2
  obtain ⟨r1, r2, r3, r4, r5, r6⟩ := h.2.2.2.2.2.2.2.2.2.2
  have a := lot_ix c
  have k := rel_setR h (rs := upd (k_reas u) x1.toNatClampNeg r) (qs := k_quar u) (upd_rg (P := fun x => 0 ≤ x.toInt ∧ x.toInt < 1024) r1 hr) r2 (fun j hj => by
    have := r6 j (by rw [g27]; exact hj)
    refine ⟨?_, this.2⟩
    rw [pk_un (by omega)]; exact this.1)
  have q1 : s_quar (s_reas u (upd (k_reas u) x1.toNatClampNeg r)) (k_quar u) = s_reas u (upd (k_reas u) x1.toNatClampNeg r) := rfl
  have q2 : s_mquiet (s_mblk v (upd (k_mblk v) x1.toNatClampNeg r)) (k_mquiet v) = s_mblk v (upd (k_mblk v) x1.toNatClampNeg r) := rfl
  rw [q1, g25, g26, q2] at k
  rw [g25]
  exact k
theorem rel_quar {u : cS} {v : mS} (h : Rel u v) {x1 r : Int32} (c : ¬ fX5_isLot v x1 = 0) (hr : r = 0 ∨ r = 1) : Rel (s_quar u (upd (k_quar u) x1.toNatClampNeg r)) (s_mquiet v (upd (k_mquiet v) x1.toNatClampNeg r)) := by
  have g25 : k_reas u = k_mblk v := h.2.2.2.1.2.2.2.2.1
  have g26 : k_quar u = k_mquiet v := h.2.2.2.1.2.2.2.2.2.1
  have g27 : k_lmade u = k_mlots v := h.2.2.2.1.2.2.2.2.2.2
  obtain ⟨r1, r2, r3, r4, r5, r6⟩ := h.2.2.2.2.2.2.2.2.2.2
  have a := lot_ix c
  have k := rel_setR h (rs := k_reas u) (qs := upd (k_quar u) x1.toNatClampNeg r) r1 (upd_rg (P := fun x => x = 0 ∨ x = 1) r2 hr) (fun j hj => by
    have := r6 j (by rw [g27]; exact hj)
    refine ⟨this.1, ?_⟩
    rw [pk_un (by omega)]; exact this.2)
  have q1 : s_quar (s_reas u (k_reas u)) (upd (k_quar u) x1.toNatClampNeg r) = s_quar u (upd (k_quar u) x1.toNatClampNeg r) := rfl
  have q2 : s_mquiet (s_mblk v (k_mblk v)) (upd (k_mquiet v) x1.toNatClampNeg r) = s_mquiet v (upd (k_mquiet v) x1.toNatClampNeg r) := rfl
  rw [q1, g25, g26, q2] at k
  rw [g26]
  exact k
theorem rel_block : stp_block Rel := by
  intro u v x1 x2 h
  have e1 : k_rwrit u = k_mrows v := h.2.2.2.2.1.2.2.2.2.2
  have e2 : k_lmade u = k_mlots v := h.2.2.2.1.2.2.2.2.2.2
  have e3 : k_reas u = k_mblk v := h.2.2.2.1.2.2.2.2.1
  have hR := h.2.2.2.2.2.2.2.2.2.2.1 x1.toNatClampNeg
  unfold fX4_block fX5_block
  by_cases c1 : fX5_isLot v x1 = 0
  · rw [if_neg (fun q => (br_lot e2 _).mp q c1), if_pos c1]; exact ⟨rfl, fun q => nz q, rel_code h⟩
  rw [if_pos ((br_lot e2 _).mpr c1), if_neg c1]
  by_cases c2 : fX5_in x2 1 9 = 0
  · rw [if_neg (fun q => (br_in _ _ _).mp q c2), if_pos c2]; exact ⟨rfl, fun q => nz q, rel_code h⟩
  rw [if_pos ((br_in _ _ _).mpr c2), if_neg c2]
  have r2 := in_rg c2 (by decide : (1 : Int32).toInt = 1) (by decide : (9 : Int32).toInt = 9)
  rw [br_open h c1]
  by_cases c3 : fX5_isOpen (s_mcode v 0) x1 = 0
  · rw [if_pos (show fX5_isOpen v x1 = 0 from c3), if_pos c3]; exact ⟨rfl, fun q => nz q, rel_code h⟩
  rw [if_neg (show ¬ fX5_isOpen v x1 = 0 from c3), if_neg c3]
  have hb := blk_rg hR (y := x2) (by omega)
  rw [e3] at hb hR ⊢
  by_cases c4 : ((k_mblk v x1.toNatClampNeg) >>> (x2 &&& 31)) &&& 1 = 1
  · rw [if_neg (hb.1.mp c4), if_pos c4]; exact ⟨rfl, fun q => nz q, rel_code h⟩
  rw [if_pos (Decidable.not_not.mp (fun q => c4 (hb.1.mpr q))), if_neg c4]
  by_cases c5 : k_mrows v = 400
  · rw [if_neg (fun q => br_rq.mp q ((br_room1 e1 h.2.1.2.2.1).mpr c5)), if_pos c5]; exact ⟨rfl, fun q => nz q, rel_code h⟩
  rw [if_pos (br_rq.mpr (fun q => c5 ((br_room1 e1 h.2.1.2.2.1).mp q))), if_neg c5]
  have k := rel_row (rel_reas (rel_code (x := 0) h) (x1 := x1) (r := k_mblk v x1.toNatClampNeg ||| ((1 : Int32) <<< (x2 &&& 31))) c1 hb.2) (row_lt h.2.1 c5) x1 6 x2
  rw [e3] at k
  refine ⟨rfl, fun _ => ?_, k⟩
  show fJ6_bitCount (upd (k_mblk v) x1.toNatClampNeg _ x1.toNatClampNeg) = fX5_bits (upd (k_mblk v) x1.toNatClampNeg _ x1.toNatClampNeg)
  rw [pk_us]
  exact bc_rg hb.2
theorem rel_release : stp_release Rel := by
  intro u v x1 x2 h
  have e1 : k_rwrit u = k_mrows v := h.2.2.2.2.1.2.2.2.2.2
  have e2 : k_lmade u = k_mlots v := h.2.2.2.1.2.2.2.2.2.2
  have e3 : k_reas u = k_mblk v := h.2.2.2.1.2.2.2.2.1
  have e4 : k_may u = k_mrights v := h.2.2.1.2.2.2.1
  have hR := h.2.2.2.2.2.2.2.2.2.2.1 x1.toNatClampNeg
  unfold fX4_release fX5_release
  by_cases c1 : fX5_isLot v x1 = 0
  · rw [if_neg (fun q => (br_lot e2 _).mp q c1), if_pos c1]; exact ⟨rfl, fun q => nz q, rel_code h⟩
  rw [if_pos ((br_lot e2 _).mpr c1), if_neg c1]
  by_cases c2 : fX5_in x2 0 7 = 0
  · rw [if_neg (fun q => (br_in _ _ _).mp q c2), if_pos c2]; exact ⟨rfl, fun q => nz q, rel_code h⟩
  rw [if_pos ((br_in _ _ _).mpr c2), if_neg c2]
  rw [br_open h c1]
  by_cases c3 : fX5_isOpen (s_mcode v 0) x1 = 0
  · rw [if_pos (show fX5_isOpen v x1 = 0 from c3), if_pos c3]; exact ⟨rfl, fun q => nz q, rel_code h⟩
  rw [if_neg (show ¬ fX5_isOpen v x1 = 0 from c3), if_neg c3]
  rw [e3] at hR ⊢
  rw [e4]
  by_cases c4 : (k_mblk v x1.toNatClampNeg) &&& (k_mrights v x2.toNatClampNeg) = 0
  · rw [if_pos c4, if_pos c4]; exact ⟨rfl, fun q => nz q, rel_code h⟩
  rw [if_neg c4, if_neg c4]
  by_cases c5 : k_mrows v = 400
  · rw [if_neg (fun q => br_rq.mp q ((br_room1 e1 h.2.1.2.2.1).mpr c5)), if_pos c5]; exact ⟨rfl, fun q => nz q, rel_code h⟩
  rw [if_pos (br_rq.mpr (fun q => c5 ((br_room1 e1 h.2.1.2.2.1).mp q))), if_neg c5, rls_eq]
  have k := rel_row (rel_reas (rel_code (x := 0) h) (x1 := x1) (r := k_mblk v x1.toNatClampNeg &&& (k_mrights v x2.toNatClampNeg ^^^ (-1))) c1 (and_rg _ hR)) (row_lt h.2.1 c5) x1 7 x2
  rw [e3] at k
  exact ⟨rfl, fun _ => bc_rg (and_rg _ hR), k⟩
theorem nar_01 {x : Int32} (h : x = 0 ∨ x = 1) : vp_nar .boolean x = x := by rcases h with rfl | rfl <;> decide
theorem rel_quarantine : stp_quarantine Rel := by
  intro u v x1 x2 h hx
  have e1 : k_rwrit u = k_mrows v := h.2.2.2.2.1.2.2.2.2.2
  have e2 : k_lmade u = k_mlots v := h.2.2.2.1.2.2.2.2.2.2
  have e3 : k_quar u = k_mquiet v := h.2.2.2.1.2.2.2.2.2.1
  unfold fX4_quarantine fX5_quarantine
  by_cases c1 : fX5_isLot v x1 = 0
  · rw [if_neg (fun q => (br_lot e2 _).mp q c1), if_pos c1]; exact ⟨rfl, rel_code h⟩
  rw [if_pos ((br_lot e2 _).mpr c1), if_neg c1]
  rw [br_open h c1]
  by_cases c3 : fX5_isOpen v x1 = 0
  · rw [if_pos c3, if_pos c3]; exact ⟨rfl, rel_code h⟩
  rw [if_neg c3, if_neg c3]
  rw [e3]
  by_cases c4 : k_mquiet v x1.toNatClampNeg = x2
  · rw [if_pos c4, if_pos c4]; exact ⟨rfl, rel_code h⟩
  rw [if_neg c4, if_neg c4]
  by_cases c5 : k_mrows v = 400
  · rw [if_neg (fun q => br_rq.mp q ((br_room1 e1 h.2.1.2.2.1).mpr c5)), if_pos c5]; exact ⟨rfl, rel_code h⟩
  rw [if_pos (br_rq.mpr (fun q => c5 ((br_room1 e1 h.2.1.2.2.1).mp q))), if_neg c5, nar_01 hx]
  have k := rel_quar (rel_code (x := 0) h) (x1 := x1) (r := x2) c1 hx
  rw [e3] at k
  by_cases c6 : x2 = 0
  · rw [if_pos c6, if_pos c6]
    exact ⟨rfl, rel_row k (row_lt h.2.1 c5) x1 9 0⟩
  · rw [if_neg c6, if_neg c6]
    exact ⟨rfl, rel_row k (row_lt h.2.1 c5) x1 8 0⟩
