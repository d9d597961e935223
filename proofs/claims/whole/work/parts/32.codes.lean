/-! what the catches take as given: no exception of the four is one of another kind -/
def nn_l : List (String × String) := [("java/util/NoSuchElementException", "java/lang/IllegalArgumentException"), ("java/util/NoSuchElementException", "java/lang/IllegalStateException"), ("java/util/NoSuchElementException", "java/lang/UnsupportedOperationException"), ("java/lang/IllegalArgumentException", "java/util/NoSuchElementException"), ("java/lang/IllegalArgumentException", "java/lang/IllegalStateException"), ("java/lang/IllegalArgumentException", "java/lang/UnsupportedOperationException"), ("java/lang/IllegalStateException", "java/util/NoSuchElementException"), ("java/lang/IllegalStateException", "java/lang/IllegalArgumentException"), ("java/lang/IllegalStateException", "java/lang/UnsupportedOperationException"), ("java/lang/UnsupportedOperationException", "java/util/NoSuchElementException"), ("java/lang/UnsupportedOperationException", "java/lang/IllegalArgumentException"), ("java/lang/UnsupportedOperationException", "java/lang/IllegalStateException")]
def nn (U : State) : Prop := ∀ q ∈ nn_l, va_Nc q.1 q.2 U
theorem nn_moved {u U : State} (hvm : u.vm.Alike U.vm) (h : nn u) : nn U := fun q hq => va_Nc.moved hvm (h q hq)
/-- a wrapper's answer: 0, or the place of the exception in its list -/
def wk (L : List Nat) (k : Nat) : Int32 := if k = 0 then 0 else Int32.ofNat (L.findIdx (fun x => x == k) + 1)
def wq (t : Nat × Int32 × cS) (f : Nat → Int64) : cS × (Nat → Int64) := (t.2.2, if t.1 = 0 then vp_updL f (0 : Int32).toNatClampNeg t.2.1.toInt64 else f)
def wz (t : Nat × Int32 × cS) (f : Nat → Int64) : cS × (Nat → Int64) := (t.2.2, if t.1 = 0 then vp_updL f (0 : Int32).toNatClampNeg (if t.2.1 = 0 then 0 else 1) else f)
/-- the class' world and the law's array for answers -/
def ow (g : cG) (h : Nat → Nat) (o : Nat) (u : cS) (f : Nat → Int64) : va_W := cw g h u ++ [(o, .inl (g.2.2, 1, .inr (.inl f)))]
theorem ow_at24 (g : cG) (h : Nat → Nat) (o : Nat) (u : cS) (f : Nat → Int64) : (ow g h o u f)[24]? = some (o, .inl (g.2.2, 1, .inr (.inl f))) := rfl
theorem cdX4_lot (u : cS) (x1 : Int32) (x2 : Int32) (x3 : Int32) (x4 : Int32) : (fX4_lot u x1 x2 x3 x4).1 = 0 ∨ (fX4_lot u x1 x2 x3 x4).1 = 2 ∨ (fX4_lot u x1 x2 x3 x4).1 = 4 := by
  unfold fX4_lot
  repeat (first | exact Or.inl rfl | exact Or.inr (Or.inl rfl) | exact Or.inr (Or.inr (rfl)) | split)
theorem cdX4_rule (u : cS) (x1 : Int32) (x2 : Int32) (x3 : Int32) : (fX4_rule u x1 x2 x3).1 = 0 ∨ (fX4_rule u x1 x2 x3).1 = 2 := by
  unfold fX4_rule
  repeat (first | exact Or.inl rfl | exact Or.inr (rfl) | split)
theorem cdX4_wants (u : cS) (x1 : Int32) (x2 : Int32) : (fX4_wants u x1 x2).1 = 0 ∨ (fX4_wants u x1 x2).1 = 2 := by
  unfold fX4_wants
  repeat (first | exact Or.inl rfl | exact Or.inr (rfl) | split)
theorem cdX4_right (u : cS) (x1 : Int32) (x2 : Int32) (x3 : Int32) : (fX4_right u x1 x2 x3).1 = 0 ∨ (fX4_right u x1 x2 x3).1 = 2 := by
  unfold fX4_right
  repeat (first | exact Or.inl rfl | exact Or.inr (rfl) | split)
theorem cdX4_block (u : cS) (x1 : Int32) (x2 : Int32) : (fX4_block u x1 x2).1 = 0 ∨ (fX4_block u x1 x2).1 = 1 ∨ (fX4_block u x1 x2).1 = 2 ∨ (fX4_block u x1 x2).1 = 3 ∨ (fX4_block u x1 x2).1 = 4 := by
  unfold fX4_block
  repeat (first | exact Or.inl rfl | exact Or.inr (Or.inl rfl) | exact Or.inr (Or.inr (Or.inl rfl)) | exact Or.inr (Or.inr (Or.inr (Or.inl rfl))) | exact Or.inr (Or.inr (Or.inr (Or.inr (rfl)))) | split)
theorem cdX4_release (u : cS) (x1 : Int32) (x2 : Int32) : (fX4_release u x1 x2).1 = 0 ∨ (fX4_release u x1 x2).1 = 1 ∨ (fX4_release u x1 x2).1 = 2 ∨ (fX4_release u x1 x2).1 = 3 ∨ (fX4_release u x1 x2).1 = 4 := by
  unfold fX4_release
  repeat (first | exact Or.inl rfl | exact Or.inr (Or.inl rfl) | exact Or.inr (Or.inr (Or.inl rfl)) | exact Or.inr (Or.inr (Or.inr (Or.inl rfl))) | exact Or.inr (Or.inr (Or.inr (Or.inr (rfl)))) | split)
theorem cdX4_quarantine (u : cS) (x1 : Int32) (x2 : Int32) : (fX4_quarantine u x1 x2).1 = 0 ∨ (fX4_quarantine u x1 x2).1 = 1 ∨ (fX4_quarantine u x1 x2).1 = 3 ∨ (fX4_quarantine u x1 x2).1 = 4 := by
  unfold fX4_quarantine
  repeat (first | exact Or.inl rfl | exact Or.inr (Or.inl rfl) | exact Or.inr (Or.inr (Or.inl rfl)) | exact Or.inr (Or.inr (Or.inr (rfl))) | split)
theorem clX4_order (u : cS) (x1 : Int32) (x2 : Int32) (x3 : Int32) : ∀ (n : Nat) (i : Int32), (lpX4_order u x1 x2 x3 n i).1 = 0 := by
  intro n
  induction n with
  | zero => intros; rfl
  | succ n ih =>
    intro i
    rw [lpX4_order_eq]
    repeat (first | rfl | exact ih _ | split)
theorem cdX4_order (u : cS) (x1 : Int32) (x2 : Int32) (x3 : Int32) : (fX4_order u x1 x2 x3).1 = 0 ∨ (fX4_order u x1 x2 x3).1 = 2 := by
  unfold fX4_order
  repeat (first | exact Or.inl (clX4_order _ _ _ _ _ _) | exact Or.inl rfl | exact Or.inr (rfl) | split)
theorem cdX4_allowed (u : cS) (x1 : Int32) (x2 : Int32) (x3 : Int32) : (fX4_allowed u x1 x2 x3).1 = 0 ∨ (fX4_allowed u x1 x2 x3).1 = 1 ∨ (fX4_allowed u x1 x2 x3).1 = 2 := by
  unfold fX4_allowed
  repeat (first | exact Or.inl rfl | exact Or.inr (Or.inl rfl) | exact Or.inr (Or.inr (rfl)) | split)
theorem cdX4_split (u : cS) (x1 : Int32) : (fX4_split u x1).1 = 0 ∨ (fX4_split u x1).1 = 1 ∨ (fX4_split u x1).1 = 3 ∨ (fX4_split u x1).1 = 4 := by
  unfold fX4_split
  repeat (first | exact Or.inl rfl | exact Or.inr (Or.inl rfl) | exact Or.inr (Or.inr (Or.inl rfl)) | exact Or.inr (Or.inr (Or.inr (rfl))) | split)
theorem cdX4_join (u : cS) (x1 : Int32) (x2 : Int32) : (fX4_join u x1 x2).1 = 0 ∨ (fX4_join u x1 x2).1 = 1 ∨ (fX4_join u x1 x2).1 = 3 ∨ (fX4_join u x1 x2).1 = 4 := by
  unfold fX4_join
  repeat (first | exact Or.inl rfl | exact Or.inr (Or.inl rfl) | exact Or.inr (Or.inr (Or.inl rfl)) | exact Or.inr (Or.inr (Or.inr (rfl))) | split)
theorem cdX4_unit (u : cS) (x1 : Int32) : (fX4_unit u x1).1 = 0 ∨ (fX4_unit u x1).1 = 1 ∨ (fX4_unit u x1).1 = 3 ∨ (fX4_unit u x1).1 = 4 := by
  unfold fX4_unit
  repeat (first | exact Or.inl rfl | exact Or.inr (Or.inl rfl) | exact Or.inr (Or.inr (Or.inl rfl)) | exact Or.inr (Or.inr (Or.inr (rfl))) | split)
theorem cdX4_put (u : cS) (x1 : Int32) (x2 : Int32) : (fX4_put u x1 x2).1 = 0 ∨ (fX4_put u x1 x2).1 = 1 ∨ (fX4_put u x1 x2).1 = 2 ∨ (fX4_put u x1 x2).1 = 3 := by
  unfold fX4_put
  repeat (first | exact Or.inl rfl | exact Or.inr (Or.inl rfl) | exact Or.inr (Or.inr (Or.inl rfl)) | exact Or.inr (Or.inr (Or.inr (rfl))) | split)
theorem cdX4_mixed (u : cS) (x1 : Int32) : (fX4_mixed u x1).1 = 0 ∨ (fX4_mixed u x1).1 = 2 := by
  unfold fX4_mixed
  repeat (first | exact Or.inl rfl | exact Or.inr (rfl) | split)
theorem cdX4_ship (u : cS) (x1 : Int32) (x2 : Int32) (x3 : Int32) : (fX4_ship u x1 x2 x3).1 = 0 ∨ (fX4_ship u x1 x2 x3).1 = 1 ∨ (fX4_ship u x1 x2 x3).1 = 2 ∨ (fX4_ship u x1 x2 x3).1 = 3 ∨ (fX4_ship u x1 x2 x3).1 = 4 := by
  unfold fX4_ship
  repeat (first | exact Or.inl rfl | exact Or.inr (Or.inl rfl) | exact Or.inr (Or.inr (Or.inl rfl)) | exact Or.inr (Or.inr (Or.inr (Or.inl rfl))) | exact Or.inr (Or.inr (Or.inr (Or.inr (rfl)))) | split)
theorem cdX4_recall (u : cS) (x1 : Int32) (x2 : Int32) : (fX4_recall u x1 x2).1 = 0 ∨ (fX4_recall u x1 x2).1 = 1 ∨ (fX4_recall u x1 x2).1 = 2 := by
  unfold fX4_recall
  repeat (first | exact Or.inl rfl | exact Or.inr (Or.inl rfl) | exact Or.inr (Or.inr (rfl)) | split)
theorem cdX4_where (u : cS) (x1 : Int32) (x2 : Int32) : (fX4_where u x1 x2).1 = 0 ∨ (fX4_where u x1 x2).1 = 1 ∨ (fX4_where u x1 x2).1 = 2 := by
  unfold fX4_where
  repeat (first | exact Or.inl rfl | exact Or.inr (Or.inl rfl) | exact Or.inr (Or.inr (rfl)) | split)
theorem cdX4_history (u : cS) (x1 : Int32) (x2 : Int32) (x3 : Int32) : (fX4_history u x1 x2 x3).1 = 0 ∨ (fX4_history u x1 x2 x3).1 = 1 ∨ (fX4_history u x1 x2 x3).1 = 2 := by
  unfold fX4_history
  repeat (first | exact Or.inl rfl | exact Or.inr (Or.inl rfl) | exact Or.inr (Or.inr (rfl)) | split)
theorem cdX4_told (u : cS) (x1 : Int32) (x2 : Int32) : (fX4_told u x1 x2).1 = 0 ∨ (fX4_told u x1 x2).1 = 1 ∨ (fX4_told u x1 x2).1 = 2 := by
  unfold fX4_told
  repeat (first | exact Or.inl rfl | exact Or.inr (Or.inl rfl) | exact Or.inr (Or.inr (rfl)) | split)
theorem cdX4_day (u : cS) (x1 : Int32) (x2 : Int32) : (fX4_day u x1 x2).1 = 0 ∨ (fX4_day u x1 x2).1 = 2 := by
  unfold fX4_day
  repeat (first | exact Or.inl rfl | exact Or.inr (rfl) | split)
theorem cdX4_date (u : cS) (x1 : Int32) (x2 : Int32) : (fX4_date u x1 x2).1 = 0 ∨ (fX4_date u x1 x2).1 = 2 := by
  unfold fX4_date
  repeat (first | exact Or.inl rfl | exact Or.inr (rfl) | split)