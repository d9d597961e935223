theorem lp_multi (G : Heap → List Loc → JFrame → Prop) (I : Nat → Heap → List Loc → Array Slot → Prop) (m : MethodId) (pc n : Nat) (z : ∀ H locs ls, I 0 H locs ls → G H locs (F0 m pc ls [])) (st : ∀ n H locs ls, I (n + 1) H locs ls → (∀ H' locs' ls', I n H' locs' ls' → G H' locs' (F0 m pc ls' [])) → G H locs (F0 m pc ls [])) {H0 : Heap} {l0 : List Loc} {g0 : JFrame} (k : (∀ H locs ls, I n H locs ls → G H locs (F0 m pc ls [])) → G H0 l0 g0) : G H0 l0 g0 := k (lp_indH G I m pc z st n)
theorem mi_code {u : mS} {x : Int32} (h : mInv u) : mInv (s_mcode u x) := h
theorem mi_put {u : mS} {f : Nat → Int32} {x : Int32} (h : mInv u) : mInv (s_mcode (s_mmixed u f) x) := h
/-! findFamily touches the family's flags alone -/
theorem fam_lc : ∀ (n : Nat) (k mo : Int32) (v : mS), ∃ f, (lcX5_findFamily n k mo v).2 = s_mfam v f := by
  intro n
  induction n with
  | zero => intro k mo v; exact ⟨k_mfam v, rfl⟩
  | succ n ih =>
    intro k mo v
    have up : ∀ (k mo : Int32) (g : Nat → Int32), ∃ f, (lcX5_findFamily n k mo (s_mfam v g)).2 = s_mfam v f := fun k mo g => by
      obtain ⟨f, h⟩ := ih k mo (s_mfam v g)
      exact ⟨f, h⟩
    rw [lcX5_findFamily_eq]
    repeat (first | exact ⟨k_mfam v, rfl⟩ | exact ih _ _ _ | exact up _ _ _ | split)
theorem fam_lb : ∀ (n : Nat) (mo : Int32) (v : mS), ∃ f, lbX5_findFamily n mo v = s_mfam v f := by
  intro n
  induction n with
  | zero => intro mo v; exact ⟨k_mfam v, rfl⟩
  | succ n ih =>
    intro mo v
    rw [lbX5_findFamily_eq]
    by_cases h : mo = 0
    · rw [if_pos h]; exact ⟨k_mfam v, rfl⟩
    · rw [if_neg h]
      obtain ⟨f, hf⟩ := fam_lc 41 1 0 v
      obtain ⟨f2, h2⟩ := ih (lcX5_findFamily 41 1 0 v).1 (lcX5_findFamily 41 1 0 v).2
      rw [hf] at h2
      exact ⟨f2, by rw [hf]; exact h2⟩
theorem fam_la (x1 : Int32) : ∀ (n : Nat) (i : Int32) (v : mS), ∃ f, laX5_findFamily x1 n i v = s_mfam v f := by
  intro n
  induction n with
  | zero => intro i v; exact ⟨k_mfam v, rfl⟩
  | succ n ih =>
    intro i v
    have up : ∀ (i : Int32) (g : Nat → Int32), ∃ f, laX5_findFamily x1 n i (s_mfam v g) = s_mfam v f := fun i g => by
      obtain ⟨f, h⟩ := ih i (s_mfam v g)
      exact ⟨f, h⟩
    rw [laX5_findFamily_eq]
    repeat (first | exact fam_lb _ _ _ | exact up _ _ | split)
theorem fam_ff (u : mS) (x1 : Int32) : ∃ f, fX5_findFamily u x1 = s_mfam u f := fam_la x1 41 1 u
theorem ff_inv {u : mS} (hI : mInv u) (x1 : Int32) : mInv (fX5_findFamily u x1) := by
  obtain ⟨f, h⟩ := fam_ff u x1
  rw [h]; exact hI
