/-! the start, and all -/
theorem edg_0 {x y : Nat} (h : edg (fun _ => 0) (fun _ => 0) 0 x y) : False := by
  obtain ⟨⟨h1, h2⟩, _⟩ := h
  have n0 : (0 : Int32).toInt = 0 := by decide
  omega
theorem want_0 : want0 = mwant0 := by
  unfold want0 mwant0
  rfl
theorem rel_0 : Rel cs0 ms0 := by
  have n0 : (0 : Int32).toInt = 0 := by decide
  have z8 : 0 ≤ (0 : Int32).toInt ∧ (0 : Int32).toInt < 8 := by decide
  have z40 : 0 ≤ (0 : Int32).toInt ∧ (0 : Int32).toInt ≤ 40 := by decide
  have z120 : 0 ≤ (0 : Int32).toInt ∧ (0 : Int32).toInt ≤ 120 := by decide
  have z400 : 0 ≤ (0 : Int32).toInt ∧ (0 : Int32).toInt ≤ 400 := by decide
  have zk : 0 ≤ (0 : Int32).toInt ∧ (0 : Int32).toInt < 1024 := by decide
  have zd : 0 ≤ (0 : Int32).toInt ∧ (0 : Int32).toInt ≤ 36524 := by decide
  refine ⟨⟨z40, z120, z400, fun _ => z8, fun _ => z40, fun _ => z40⟩, ⟨z40, z120, z400, fun _ => z8, fun _ => z40, fun _ => z40, fun _ => z40⟩, ⟨rfl, rfl, want_0, rfl, rfl, rfl⟩, ⟨rfl, rfl, rfl, rfl, rfl, rfl, rfl⟩, ⟨rfl, rfl, rfl, rfl, rfl, rfl⟩, ⟨fun j h1 h2 => ?_, fun j _ => rfl⟩, fun l => rfl, fun a b h1 h2 h3 => ?_, ⟨fun t h1 h2 => ?_, fun t k h1 h2 => ?_, fun t k h1 h2 => ?_, fun t k _ _ => rfl⟩, rfl, ⟨fun _ => zk, fun _ => Or.inl rfl, fun _ => zd, fun _ => zd, fun j h1 h2 => ?_, fun _ _ => ⟨rfl, rfl⟩⟩⟩
  · have h2' : (j : Int) ≤ (0 : Int32).toInt := h2
    omega
  · show (0 : Int64).toBitVec.getLsbD b = true ↔ edg (fun _ => 0) (fun _ => 0) 0 a b
    refine ⟨fun q => ?_, fun q => (edg_0 q).elim⟩
    rw [show (0 : Int64).toBitVec = 0#64 from rfl, BitVec.getLsbD_zero] at q
    exact absurd q (by decide)
  · have h2' : (t : Int) ≤ (0 : Int32).toInt := h2
    omega
  · have h2' : (t : Int) ≤ (0 : Int32).toInt := h2
    omega
  · have h2' : (t : Int) ≤ (0 : Int32).toInt := h2
    omega
  · have h2' : (j : Int) ≤ (0 : Int32).toInt := h2
    omega
theorem rel_ok : stp_all Rel := ⟨fun u v h => h.1, fun u v h => h.2.1, rel_0, rel_lot, rel_rule, rel_wants, rel_right, rel_block, rel_release, rel_quarantine, rel_order, rel_allowed, rel_split, rel_join, rel_unit, rel_put, rel_mixed, rel_ship, rel_recall, rel_where, rel_history, rel_told, rel_day, rel_date, rel_count⟩
