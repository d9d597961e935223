def fX5_thrown (u : mS) : Int32 :=
  k_mcode u
def fX5_in (x0 : Int32) (x1 : Int32) (x2 : Int32) : Int32 :=
  if x0 < x1 then
    0
  else
    if x2 < x0 then
      0
    else
      1
theorem fX5_in_01 (x0 : Int32) (x1 : Int32) (x2 : Int32) : fX5_in x0 x1 x2 = 0 ∨ fX5_in x0 x1 x2 = 1 := by
  unfold fX5_in
  repeat (first | exact Or.inl rfl | exact Or.inr rfl | split)
def fX5_isLot (u : mS) (x1 : Int32) : Int32 :=
  fX5_in x1 1 (k_mlots u)
theorem fX5_isLot_01 (u : mS) (x1 : Int32) : fX5_isLot u x1 = 0 ∨ fX5_isLot u x1 = 1 := by
  unfold fX5_isLot
  repeat (first | exact Or.inl rfl | exact Or.inr rfl | exact fX5_in_01 _ _ _ | split)
def fX5_isUnit (u : mS) (x1 : Int32) : Int32 :=
  fX5_in x1 1 (k_munits u)
theorem fX5_isUnit_01 (u : mS) (x1 : Int32) : fX5_isUnit u x1 = 0 ∨ fX5_isUnit u x1 = 1 := by
  unfold fX5_isUnit
  repeat (first | exact Or.inl rfl | exact Or.inr rfl | exact fX5_in_01 _ _ _ | split)
def fX5_isOpen (u : mS) (x1 : Int32) : Int32 :=
  if k_minto u x1.toNatClampNeg = 0 then
    1
  else
    0
theorem fX5_isOpen_01 (u : mS) (x1 : Int32) : fX5_isOpen u x1 = 0 ∨ fX5_isOpen u x1 = 1 := by
  unfold fX5_isOpen
  repeat (first | exact Or.inl rfl | exact Or.inr rfl | split)
def fX5_isGone (u : mS) (x1 : Int32) : Int32 :=
  if k_mcust u x1.toNatClampNeg = (-1) then
    0
  else
    1
theorem fX5_isGone_01 (u : mS) (x1 : Int32) : fX5_isGone u x1 = 0 ∨ fX5_isGone u x1 = 1 := by
  unfold fX5_isGone
  repeat (first | exact Or.inl rfl | exact Or.inr rfl | split)
def lpX5_bits (x0 : Int32) : Nat → Int32 → Int32 → Int32
  | 0, _, _ => 0
  | n + 1, i, a =>
    if 10 ≤ i then
      a
    else
      lpX5_bits x0 n (i + 1) (a + ((x0 >>> (i &&& 31)) &&& 1))
theorem lpX5_bits_eq (x0 : Int32) (n : Nat) (i : Int32) (a : Int32) : lpX5_bits x0 (n + 1) i a = (
    if 10 ≤ i then
      a
    else
      lpX5_bits x0 n (i + 1) (a + ((x0 >>> (i &&& 31)) &&& 1))) := rfl
def fX5_bits (x0 : Int32) : Int32 :=
  lpX5_bits x0 11 0 0
def fX5_mayBeTaken (u : mS) (x1 : Int32) : Int32 :=
  if fX5_isOpen u x1 = 0 then
    0
  else
    if k_mblk u x1.toNatClampNeg = 0 then
      if k_mquiet u x1.toNatClampNeg = 0 then
        1
      else
        0
    else
      0
theorem fX5_mayBeTaken_01 (u : mS) (x1 : Int32) : fX5_mayBeTaken u x1 = 0 ∨ fX5_mayBeTaken u x1 = 1 := by
  unfold fX5_mayBeTaken
  repeat (first | exact Or.inl rfl | exact Or.inr rfl | exact fX5_isOpen_01 _ _ | split)
def fX5_isBefore (u : mS) (x1 : Int32) (x2 : Int32) : Int32 :=
  if k_mrot u (k_mowner u x1.toNatClampNeg).toNatClampNeg = 2 then
    if k_marr u x1.toNatClampNeg = k_marr u x2.toNatClampNeg then
      if x1 ≤ x2 then
        0
      else
        1
    else
      if k_marr u x1.toNatClampNeg ≤ k_marr u x2.toNatClampNeg then
        0
      else
        1
  else
    if k_mrot u (k_mowner u x1.toNatClampNeg).toNatClampNeg = 0 then
      if k_muntil u x1.toNatClampNeg = k_muntil u x2.toNatClampNeg then
        if k_marr u x1.toNatClampNeg = k_marr u x2.toNatClampNeg then
          if x2 ≤ x1 then
            0
          else
            1
        else
          if k_marr u x2.toNatClampNeg ≤ k_marr u x1.toNatClampNeg then
            0
          else
            1
      else
        if k_muntil u x2.toNatClampNeg ≤ k_muntil u x1.toNatClampNeg then
          0
        else
          1
    else
      if k_marr u x1.toNatClampNeg = k_marr u x2.toNatClampNeg then
        if x2 ≤ x1 then
          0
        else
          1
      else
        if k_marr u x2.toNatClampNeg ≤ k_marr u x1.toNatClampNeg then
          0
        else
          1
theorem fX5_isBefore_01 (u : mS) (x1 : Int32) (x2 : Int32) : fX5_isBefore u x1 x2 = 0 ∨ fX5_isBefore u x1 x2 = 1 := by
  unfold fX5_isBefore
  repeat (first | exact Or.inl rfl | exact Or.inr rfl | split)
def fX5_isAllowed (u : mS) (x1 : Int32) (x2 : Int32) (x3 : Int32) : Int32 :=
  if fX5_mayBeTaken u x1 = 0 then
    0
  else
    if x3 < k_marr u x1.toNatClampNeg then
      0
    else
      if k_muntil u x1.toNatClampNeg < x3 then
        0
      else
        if ((k_muntil u x1.toNatClampNeg) - x3) + 1 < k_mwant u x2.toNatClampNeg then
          0
        else
          1
theorem fX5_isAllowed_01 (u : mS) (x1 : Int32) (x2 : Int32) (x3 : Int32) : fX5_isAllowed u x1 x2 x3 = 0 ∨ fX5_isAllowed u x1 x2 x3 = 1 := by
  unfold fX5_isAllowed
  repeat (first | exact Or.inl rfl | exact Or.inr rfl | exact fX5_mayBeTaken_01 _ _ | split)
def fX5_mayMix (u : mS) (x1 : Int32) (x2 : Int32) : Int32 :=
  if k_mgood u x1.toNatClampNeg = k_mgood u x2.toNatClampNeg then
    if k_mowner u x1.toNatClampNeg = k_mowner u x2.toNatClampNeg then
      if k_muntil u x1.toNatClampNeg ≤ k_muntil u x2.toNatClampNeg then
        if k_mmix u (k_mowner u x1.toNatClampNeg).toNatClampNeg < (k_muntil u x2.toNatClampNeg) - (k_muntil u x1.toNatClampNeg) then
          0
        else
          1
      else
        if k_mmix u (k_mowner u x1.toNatClampNeg).toNatClampNeg < (k_muntil u x1.toNatClampNeg) - (k_muntil u x2.toNatClampNeg) then
          0
        else
          1
    else
      1
  else
    1
theorem fX5_mayMix_01 (u : mS) (x1 : Int32) (x2 : Int32) : fX5_mayMix u x1 x2 = 0 ∨ fX5_mayMix u x1 x2 = 1 := by
  unfold fX5_mayMix
  repeat (first | exact Or.inl rfl | exact Or.inr rfl | split)
def fX5_daysOfYear (x0 : Int32) : Int32 :=
  if x0 - x0 / 4 * 4 = 0 then
    366
  else
    365
def fX5_daysOfMonth (x0 : Int32) (x1 : Int32) : Int32 :=
  if x0 = 2 then
    if x1 - x1 / 4 * 4 = 0 then
      29
    else
      28
  else
    if x0 = 4 then
      30
    else
      if x0 = 6 then
        30
      else
        if x0 = 9 then
          30
        else
          if x0 = 11 then
            30
          else
            31
theorem in_lo {x a b : Int32} (h : ¬ fX5_in x a b = 0) : a.toInt ≤ x.toInt := by
  unfold fX5_in at h
  by_cases h1 : x < a
  · rw [if_pos h1] at h; exact absurd rfl h
  · exact i_nlt h1 rfl rfl
theorem in_hi {x a b : Int32} (h : ¬ fX5_in x a b = 0) : x.toInt ≤ b.toInt := by
  unfold fX5_in at h
  by_cases h1 : x < a
  · rw [if_pos h1] at h; exact absurd rfl h
  · rw [if_neg h1] at h
    by_cases h2 : b < x
    · rw [if_pos h2] at h; exact absurd rfl h
    · exact i_nlt h2 rfl rfl
theorem il_lo {u : mS} {x : Int32} (h : ¬ fX5_isLot u x = 0) : 1 ≤ x.toInt := by
  have := in_lo (x := x) (a := 1) (b := k_mlots u) h
  rwa [show (1 : Int32).toInt = 1 from by decide] at this
theorem il_hi {u : mS} {x : Int32} (h : ¬ fX5_isLot u x = 0) : x.toInt ≤ (k_mlots u).toInt := in_hi (x := x) (a := 1) (b := k_mlots u) h
theorem iu_lo {u : mS} {x : Int32} (h : ¬ fX5_isUnit u x = 0) : 1 ≤ x.toInt := by
  have := in_lo (x := x) (a := 1) (b := k_munits u) h
  rwa [show (1 : Int32).toInt = 1 from by decide] at this
theorem iu_hi {u : mS} {x : Int32} (h : ¬ fX5_isUnit u x = 0) : x.toInt ≤ (k_munits u).toInt := in_hi (x := x) (a := 1) (b := k_munits u) h
theorem dy_rg (y : Int32) : 365 ≤ (fX5_daysOfYear y).toInt ∧ (fX5_daysOfYear y).toInt ≤ 366 := by
  unfold fX5_daysOfYear
  repeat (first | decide | split)
theorem dm_rg (x y : Int32) : 28 ≤ (fX5_daysOfMonth x y).toInt ∧ (fX5_daysOfMonth x y).toInt ≤ 31 := by
  unfold fX5_daysOfMonth
  repeat (first | decide | split)

def lpX5_firstOf (x0 : Int32) : Nat → Int32 → Int32 → Int32
  | 0, _, _ => 0
  | n + 1, i, a =>
    if x0 ≤ i then
      a
    else
      lpX5_firstOf x0 n (i + 1) (a + (fX5_daysOfYear i))
theorem lpX5_firstOf_eq (x0 : Int32) (n : Nat) (i : Int32) (a : Int32) : lpX5_firstOf x0 (n + 1) i a = (
    if x0 ≤ i then
      a
    else
      lpX5_firstOf x0 n (i + 1) (a + (fX5_daysOfYear i))) := rfl
def fX5_firstOf (x0 : Int32) : Int32 :=
  lpX5_firstOf x0 101 0 0
def lpX5_dayOf (x0 : Int32) (x1 : Int32) (x2 : Int32) : Nat → Int32 → Int32 → Int32
  | 0, _, _ => 0
  | n + 1, i, a =>
    if x1 ≤ i then
      a
    else
      lpX5_dayOf x0 x1 x2 n (i + 1) (a + (fX5_daysOfMonth i x0))
theorem lpX5_dayOf_eq (x0 : Int32) (x1 : Int32) (x2 : Int32) (n : Nat) (i : Int32) (a : Int32) : lpX5_dayOf x0 x1 x2 (n + 1) i a = (
    if x1 ≤ i then
      a
    else
      lpX5_dayOf x0 x1 x2 n (i + 1) (a + (fX5_daysOfMonth i x0))) := rfl
def fX5_dayOf (x0 : Int32) (x1 : Int32) (x2 : Int32) : Int32 :=
  if fX5_in x1 1 12 = 0 then
    (-1)
  else
    if fX5_in x2 1 (fX5_daysOfMonth x1 x0) = 0 then
      (-1)
    else
      lpX5_dayOf x0 x1 x2 12 1 (((fX5_firstOf x0) + x2) - 1)
def fX5_row (u : mS) (x1 : Int32) (x2 : Int32) (x3 : Int32) : mS :=
  s_mrows (s_mrn (s_mrk (s_mrl u (upd (k_mrl u) (k_mrows u).toNatClampNeg x1)) (upd (k_mrk u) (k_mrows u).toNatClampNeg x2)) (upd (k_mrn u) (k_mrows u).toNatClampNeg x3)) ((k_mrows u) + 1)
def fX5_make (u : mS) (x1 : Int32) (x2 : Int32) (x3 : Int32) (x4 : Int32) (x5 : Int32) : Int32 × mS :=
  ((k_mlots u) + 1, s_mfrom (s_marr (s_muntil (s_mowner (s_mgood (s_mlots u ((k_mlots u) + 1)) (upd (k_mgood u) ((k_mlots u) + 1).toNatClampNeg x1)) (upd (k_mowner u) ((k_mlots u) + 1).toNatClampNeg x2)) (upd (k_muntil u) ((k_mlots u) + 1).toNatClampNeg x3)) (upd (k_marr u) ((k_mlots u) + 1).toNatClampNeg x4)) (upd (k_mfrom u) ((k_mlots u) + 1).toNatClampNeg x5))
def lcX5_findFamily  : Nat → Int32 → Int32 → mS → Int32 × mS
  | 0, _, _, v => (0, v)
  | n2 + 1, k, mo, v =>
    if k_mlots v < k then
      (mo, v)
    else
      if k_mfam v k.toNatClampNeg = 0 then
        if k_mfrom v k.toNatClampNeg ≤ 0 then
          if k_minto v k.toNatClampNeg ≤ 0 then
            lcX5_findFamily n2 (k + 1) mo v
          else
            if k_mfam v (k_minto v k.toNatClampNeg).toNatClampNeg = 0 then
              lcX5_findFamily n2 (k + 1) mo v
            else
              lcX5_findFamily n2 (k + 1) 1 (s_mfam v (upd (k_mfam v) k.toNatClampNeg (vp_nar .boolean 1)))
        else
          if k_mfam v (k_mfrom v k.toNatClampNeg).toNatClampNeg = 0 then
            if k_minto v k.toNatClampNeg ≤ 0 then
              lcX5_findFamily n2 (k + 1) mo v
            else
              if k_mfam v (k_minto v k.toNatClampNeg).toNatClampNeg = 0 then
                lcX5_findFamily n2 (k + 1) mo v
              else
                lcX5_findFamily n2 (k + 1) 1 (s_mfam v (upd (k_mfam v) k.toNatClampNeg (vp_nar .boolean 1)))
          else
            lcX5_findFamily n2 (k + 1) 1 (s_mfam v (upd (k_mfam v) k.toNatClampNeg (vp_nar .boolean 1)))
      else
        lcX5_findFamily n2 (k + 1) mo v
theorem lcX5_findFamily_eq  (n2 : Nat) (k : Int32) (mo : Int32) (v : mS) : lcX5_findFamily  (n2 + 1) k mo v = (
    if k_mlots v < k then
      (mo, v)
    else
      if k_mfam v k.toNatClampNeg = 0 then
        if k_mfrom v k.toNatClampNeg ≤ 0 then
          if k_minto v k.toNatClampNeg ≤ 0 then
            lcX5_findFamily n2 (k + 1) mo v
          else
            if k_mfam v (k_minto v k.toNatClampNeg).toNatClampNeg = 0 then
              lcX5_findFamily n2 (k + 1) mo v
            else
              lcX5_findFamily n2 (k + 1) 1 (s_mfam v (upd (k_mfam v) k.toNatClampNeg (vp_nar .boolean 1)))
        else
          if k_mfam v (k_mfrom v k.toNatClampNeg).toNatClampNeg = 0 then
            if k_minto v k.toNatClampNeg ≤ 0 then
              lcX5_findFamily n2 (k + 1) mo v
            else
              if k_mfam v (k_minto v k.toNatClampNeg).toNatClampNeg = 0 then
                lcX5_findFamily n2 (k + 1) mo v
              else
                lcX5_findFamily n2 (k + 1) 1 (s_mfam v (upd (k_mfam v) k.toNatClampNeg (vp_nar .boolean 1)))
          else
            lcX5_findFamily n2 (k + 1) 1 (s_mfam v (upd (k_mfam v) k.toNatClampNeg (vp_nar .boolean 1)))
      else
        lcX5_findFamily n2 (k + 1) mo v) := rfl
def lbX5_findFamily  : Nat → Int32 → mS → mS
  | 0, _, v => v
  | n1 + 1, mo, v =>
    if mo = 0 then
      v
    else
      lbX5_findFamily n1 (lcX5_findFamily 41 1 0 v).1 (lcX5_findFamily 41 1 0 v).2
theorem lbX5_findFamily_eq  (n1 : Nat) (mo : Int32) (v : mS) : lbX5_findFamily  (n1 + 1) mo v = (
    if mo = 0 then
      v
    else
      lbX5_findFamily n1 (lcX5_findFamily 41 1 0 v).1 (lcX5_findFamily 41 1 0 v).2) := rfl
def laX5_findFamily (x1 : Int32) : Nat → Int32 → mS → mS
  | 0, _, v => v
  | n + 1, i, v =>
    if k_mlots v < i then
      lbX5_findFamily 43 1 v
    else
      if i = x1 then
        laX5_findFamily x1 n (i + 1) (s_mfam v (upd (k_mfam v) i.toNatClampNeg (vp_nar .boolean 1)))
      else
        laX5_findFamily x1 n (i + 1) (s_mfam v (upd (k_mfam v) i.toNatClampNeg (vp_nar .boolean 0)))
theorem laX5_findFamily_eq (x1 : Int32) (n : Nat) (i : Int32) (v : mS) : laX5_findFamily x1 (n + 1) i v = (
    if k_mlots v < i then
      lbX5_findFamily 43 1 v
    else
      if i = x1 then
        laX5_findFamily x1 n (i + 1) (s_mfam v (upd (k_mfam v) i.toNatClampNeg (vp_nar .boolean 1)))
      else
        laX5_findFamily x1 n (i + 1) (s_mfam v (upd (k_mfam v) i.toNatClampNeg (vp_nar .boolean 0)))) := rfl
def fX5_findFamily (u : mS) (x1 : Int32) : mS :=
  laX5_findFamily x1 41 1 u
def fX5_lot (u : mS) (x1 : Int32) (x2 : Int32) (x3 : Int32) (x4 : Int32) : Int32 × mS :=
  if fX5_in x1 0 9 = 0 then
    (0, s_mcode u 1)
  else
    if fX5_in x2 0 7 = 0 then
      (0, s_mcode u 1)
    else
      if fX5_in x3 0 36524 = 0 then
        (0, s_mcode u 1)
      else
        if fX5_in x4 0 36524 = 0 then
          (0, s_mcode u 1)
        else
          if x4 ≤ x3 then
            if k_mlots u = 40 then
              (0, s_mcode u 2)
            else
              if k_mrows u = 400 then
                (0, s_mcode u 2)
              else
                ((fX5_make (s_mcode u 0) x1 x2 x3 x4 0).1, (fX5_row (fX5_make (s_mcode u 0) x1 x2 x3 x4 0).2 (fX5_make (s_mcode u 0) x1 x2 x3 x4 0).1 1 0))
          else
            (0, s_mcode u 0)
def fX5_rule (u : mS) (x1 : Int32) (x2 : Int32) (x3 : Int32) : mS :=
  if fX5_in x1 0 7 = 0 then
    s_mcode u 1
  else
    if fX5_in x2 0 1 = 0 then
      s_mcode u 1
    else
      if x2 = 0 then
        if fX5_in x3 0 2 = 0 then
          s_mcode u 1
        else
          s_mrot (s_mcode u 0) (upd (k_mrot u) x1.toNatClampNeg x3)
      else
        if fX5_in x3 0 1000 = 0 then
          s_mcode u 1
        else
          s_mmix (s_mcode u 0) (upd (k_mmix u) x1.toNatClampNeg x3)
def fX5_wants (u : mS) (x1 : Int32) (x2 : Int32) : mS :=
  if fX5_in x1 0 7 = 0 then
    s_mcode u 1
  else
    if fX5_in x2 1 1000 = 0 then
      s_mcode u 1
    else
      s_mwant (s_mcode u 0) (upd (k_mwant u) x1.toNatClampNeg x2)
def fX5_right (u : mS) (x1 : Int32) (x2 : Int32) (x3 : Int32) : mS :=
  if fX5_in x1 0 7 = 0 then
    s_mcode u 1
  else
    if fX5_in x2 1 9 = 0 then
      s_mcode u 1
    else
      if x3 = 0 then
        s_mrights (s_mcode u 0) (upd (k_mrights u) x1.toNatClampNeg ((k_mrights u x1.toNatClampNeg) &&& (((1 : Int32) <<< (x2 &&& 31)) ^^^ (-1))))
      else
        s_mrights (s_mcode u 0) (upd (k_mrights u) x1.toNatClampNeg ((k_mrights u x1.toNatClampNeg) ||| ((1 : Int32) <<< (x2 &&& 31))))
def fX5_block (u : mS) (x1 : Int32) (x2 : Int32) : Int32 × mS :=
  if fX5_isLot u x1 = 0 then
    (0, s_mcode u 1)
  else
    if fX5_in x2 1 9 = 0 then
      (0, s_mcode u 2)
    else
      if fX5_isOpen (s_mcode u 0) x1 = 0 then
        (0, s_mcode u 3)
      else
        if ((k_mblk u x1.toNatClampNeg) >>> (x2 &&& 31)) &&& 1 = 1 then
          (0, s_mcode u 3)
        else
          if k_mrows u = 400 then
            (0, s_mcode u 4)
          else
            (fX5_bits (k_mblk (fX5_row (s_mblk (s_mcode u 0) (upd (k_mblk u) x1.toNatClampNeg ((k_mblk u x1.toNatClampNeg) ||| ((1 : Int32) <<< (x2 &&& 31))))) x1 6 x2) x1.toNatClampNeg), (fX5_row (s_mblk (s_mcode u 0) (upd (k_mblk u) x1.toNatClampNeg ((k_mblk u x1.toNatClampNeg) ||| ((1 : Int32) <<< (x2 &&& 31))))) x1 6 x2))
def fX5_release (u : mS) (x1 : Int32) (x2 : Int32) : Int32 × mS :=
  if fX5_isLot u x1 = 0 then
    (0, s_mcode u 1)
  else
    if fX5_in x2 0 7 = 0 then
      (0, s_mcode u 2)
    else
      if fX5_isOpen (s_mcode u 0) x1 = 0 then
        (0, s_mcode u 3)
      else
        if (k_mblk u x1.toNatClampNeg) &&& (k_mrights u x2.toNatClampNeg) = 0 then
          (0, s_mcode u 3)
        else
          if k_mrows u = 400 then
            (0, s_mcode u 4)
          else
            (fX5_bits ((k_mblk u x1.toNatClampNeg) &&& (k_mrights u x2.toNatClampNeg)), (fX5_row (s_mblk (s_mcode u 0) (upd (k_mblk u) x1.toNatClampNeg ((k_mblk u x1.toNatClampNeg) &&& ((k_mrights u x2.toNatClampNeg) ^^^ (-1))))) x1 7 x2))
def fX5_quarantine (u : mS) (x1 : Int32) (x2 : Int32) : mS :=
  if fX5_isLot u x1 = 0 then
    s_mcode u 1
  else
    if fX5_isOpen u x1 = 0 then
      s_mcode u 2
    else
      if k_mquiet u x1.toNatClampNeg = x2 then
        s_mcode u 2
      else
        if k_mrows u = 400 then
          s_mcode u 3
        else
          if x2 = 0 then
            (fX5_row (s_mquiet (s_mcode u 0) (upd (k_mquiet u) x1.toNatClampNeg (vp_nar .boolean x2))) x1 9 0)
          else
            (fX5_row (s_mquiet (s_mcode u 0) (upd (k_mquiet u) x1.toNatClampNeg (vp_nar .boolean x2))) x1 8 0)
def fX5_allowed (u : mS) (x1 : Int32) (x2 : Int32) (x3 : Int32) : Int32 × mS :=
  if fX5_isLot u x1 = 0 then
    (0, s_mcode u 1)
  else
    if fX5_in x2 0 7 = 0 then
      (0, s_mcode u 2)
    else
      if fX5_in x3 0 36524 = 0 then
        (0, s_mcode u 2)
      else
        if fX5_isAllowed (s_mcode u 0) x1 x2 x3 = 0 then
          (0, s_mcode u 0)
        else
          (1, s_mcode u 0)
def fX5_split (u : mS) (x1 : Int32) : Int32 × mS :=
  if fX5_isLot u x1 = 0 then
    (0, s_mcode u 1)
  else
    if fX5_isOpen u x1 = 0 then
      (0, s_mcode u 2)
    else
      if k_mlots u = 40 then
        (0, s_mcode u 3)
      else
        if k_mrows u ≤ 398 then
          ((fX5_make (s_mcode u 0) (k_mgood u x1.toNatClampNeg) (k_mowner u x1.toNatClampNeg) (k_muntil u x1.toNatClampNeg) (k_marr u x1.toNatClampNeg) x1).1, (fX5_row (fX5_row (s_mquiet (s_mblk (fX5_make (s_mcode u 0) (k_mgood u x1.toNatClampNeg) (k_mowner u x1.toNatClampNeg) (k_muntil u x1.toNatClampNeg) (k_marr u x1.toNatClampNeg) x1).2 (upd (k_mblk (fX5_make (s_mcode u 0) (k_mgood u x1.toNatClampNeg) (k_mowner u x1.toNatClampNeg) (k_muntil u x1.toNatClampNeg) (k_marr u x1.toNatClampNeg) x1).2) (fX5_make (s_mcode u 0) (k_mgood u x1.toNatClampNeg) (k_mowner u x1.toNatClampNeg) (k_muntil u x1.toNatClampNeg) (k_marr u x1.toNatClampNeg) x1).1.toNatClampNeg (k_mblk (fX5_make (s_mcode u 0) (k_mgood u x1.toNatClampNeg) (k_mowner u x1.toNatClampNeg) (k_muntil u x1.toNatClampNeg) (k_marr u x1.toNatClampNeg) x1).2 x1.toNatClampNeg))) (upd (k_mquiet (fX5_make (s_mcode u 0) (k_mgood u x1.toNatClampNeg) (k_mowner u x1.toNatClampNeg) (k_muntil u x1.toNatClampNeg) (k_marr u x1.toNatClampNeg) x1).2) (fX5_make (s_mcode u 0) (k_mgood u x1.toNatClampNeg) (k_mowner u x1.toNatClampNeg) (k_muntil u x1.toNatClampNeg) (k_marr u x1.toNatClampNeg) x1).1.toNatClampNeg (vp_nar .boolean (k_mquiet (fX5_make (s_mcode u 0) (k_mgood u x1.toNatClampNeg) (k_mowner u x1.toNatClampNeg) (k_muntil u x1.toNatClampNeg) (k_marr u x1.toNatClampNeg) x1).2 x1.toNatClampNeg)))) x1 3 (fX5_make (s_mcode u 0) (k_mgood u x1.toNatClampNeg) (k_mowner u x1.toNatClampNeg) (k_muntil u x1.toNatClampNeg) (k_marr u x1.toNatClampNeg) x1).1) (fX5_make (s_mcode u 0) (k_mgood u x1.toNatClampNeg) (k_mowner u x1.toNatClampNeg) (k_muntil u x1.toNatClampNeg) (k_marr u x1.toNatClampNeg) x1).1 2 x1))
        else
          (0, s_mcode u 3)
def fX5_unit (u : mS) (x1 : Int32) : Int32 × mS :=
  if fX5_isLot u x1 = 0 then
    (0, s_mcode u 1)
  else
    if fX5_isOpen u x1 = 0 then
      (0, s_mcode u 2)
    else
      if k_munits u = 120 then
        (0, s_mcode u 3)
      else
        if k_mrows u = 400 then
          (0, s_mcode u 3)
        else
          (k_munits (fX5_row (s_mwas (s_mwhen (s_mcust (s_mbin (s_mlotOf (s_munits (s_mcode u 0) ((k_munits u) + 1)) (upd (k_mlotOf u) ((k_munits u) + 1).toNatClampNeg x1)) (upd (k_mbin u) ((k_munits u) + 1).toNatClampNeg (-1))) (upd (k_mcust u) ((k_munits u) + 1).toNatClampNeg (-1))) (upd (k_mwhen u) ((k_munits u) + 1).toNatClampNeg (-1))) (upd (k_mwas u) ((41 * ((k_munits u) + 1)) + x1).toNatClampNeg (vp_nar .boolean 1))) x1 10 ((k_munits u) + 1)), (fX5_row (s_mwas (s_mwhen (s_mcust (s_mbin (s_mlotOf (s_munits (s_mcode u 0) ((k_munits u) + 1)) (upd (k_mlotOf u) ((k_munits u) + 1).toNatClampNeg x1)) (upd (k_mbin u) ((k_munits u) + 1).toNatClampNeg (-1))) (upd (k_mcust u) ((k_munits u) + 1).toNatClampNeg (-1))) (upd (k_mwhen u) ((k_munits u) + 1).toNatClampNeg (-1))) (upd (k_mwas u) ((41 * ((k_munits u) + 1)) + x1).toNatClampNeg (vp_nar .boolean 1))) x1 10 ((k_munits u) + 1)))
def fX5_mixed (u : mS) (x1 : Int32) : Int32 × mS :=
  if fX5_in x1 0 1 = 0 then
    (0, s_mcode u 1)
  else
    (k_mmixed u x1.toNatClampNeg, s_mcode u 0)
def fX5_ship (u : mS) (x1 : Int32) (x2 : Int32) (x3 : Int32) : mS :=
  if fX5_isUnit u x1 = 0 then
    s_mcode u 1
  else
    if fX5_in x2 0 7 = 0 then
      s_mcode u 2
    else
      if fX5_in x3 0 36524 = 0 then
        s_mcode u 2
      else
        if fX5_isGone (s_mcode u 0) x1 = 0 then
          if fX5_isAllowed (s_mcode u 0) (k_mlotOf u x1.toNatClampNeg) x2 x3 = 0 then
            s_mcode u 3
          else
            if k_mrows u = 400 then
              s_mcode u 4
            else
              (fX5_row (s_mwhen (s_mcust (s_mbin (s_mcode u 0) (upd (k_mbin u) x1.toNatClampNeg (-1))) (upd (k_mcust u) x1.toNatClampNeg x2)) (upd (k_mwhen u) x1.toNatClampNeg x3)) (k_mlotOf u x1.toNatClampNeg) 11 x1)
        else
          s_mcode u 3
def fX5_where (u : mS) (x1 : Int32) (x2 : Int32) : Int32 × mS :=
  if fX5_isUnit u x1 = 0 then
    (0, s_mcode u 1)
  else
    if fX5_in x2 0 3 = 0 then
      (0, s_mcode u 2)
    else
      if x2 = 0 then
        (k_mlotOf u x1.toNatClampNeg, s_mcode u 0)
      else
        if x2 = 1 then
          (k_mbin u x1.toNatClampNeg, s_mcode u 0)
        else
          if x2 = 2 then
            (k_mcust u x1.toNatClampNeg, s_mcode u 0)
          else
            (k_mwhen u x1.toNatClampNeg, s_mcode u 0)
def liX5_order (u : mS) (x1 : Int32) (x2 : Int32) (i : Int32) : Nat → Int32 → Int32 → Int32
  | 0, _, _ => 0
  | n2 + 1, k, b =>
    if k_mlots u < k then
      b
    else
      if k = i then
        liX5_order u x1 x2 i n2 (k + 1) (b + 0)
      else
        if k_mgood u k.toNatClampNeg = x1 then
          if k_mowner u k.toNatClampNeg = x2 then
            if fX5_mayBeTaken (s_mcode u 0) k = 0 then
              liX5_order u x1 x2 i n2 (k + 1) (b + 0)
            else
              if fX5_isBefore (s_mcode u 0) k i = 0 then
                liX5_order u x1 x2 i n2 (k + 1) (b + 0)
              else
                liX5_order u x1 x2 i n2 (k + 1) (b + 1)
          else
            liX5_order u x1 x2 i n2 (k + 1) (b + 0)
        else
          liX5_order u x1 x2 i n2 (k + 1) (b + 0)
theorem liX5_order_eq (u : mS) (x1 : Int32) (x2 : Int32) (i : Int32) (n2 : Nat) (k : Int32) (b : Int32) : liX5_order u x1 x2 i (n2 + 1) k b = (
    if k_mlots u < k then
      b
    else
      if k = i then
        liX5_order u x1 x2 i n2 (k + 1) (b + 0)
      else
        if k_mgood u k.toNatClampNeg = x1 then
          if k_mowner u k.toNatClampNeg = x2 then
            if fX5_mayBeTaken (s_mcode u 0) k = 0 then
              liX5_order u x1 x2 i n2 (k + 1) (b + 0)
            else
              if fX5_isBefore (s_mcode u 0) k i = 0 then
                liX5_order u x1 x2 i n2 (k + 1) (b + 0)
              else
                liX5_order u x1 x2 i n2 (k + 1) (b + 1)
          else
            liX5_order u x1 x2 i n2 (k + 1) (b + 0)
        else
          liX5_order u x1 x2 i n2 (k + 1) (b + 0)) := rfl
def loX5_order (u : mS) (x1 : Int32) (x2 : Int32) (x3 : Int32) : Nat → Int32 → Int32 × mS
  | 0, _ => (0, u)
  | n + 1, i =>
    if k_mlots u < i then
      ((-1), s_mcode u 0)
    else
      if k_mgood u i.toNatClampNeg = x1 then
        if k_mowner u i.toNatClampNeg = x2 then
          if fX5_mayBeTaken (s_mcode u 0) i = 0 then
            loX5_order u x1 x2 x3 n (i + 1)
          else
            (if liX5_order u x1 x2 i 41 1 0 = x3 then (i, s_mcode u 0) else loX5_order u x1 x2 x3 n (i + 1))
        else
          loX5_order u x1 x2 x3 n (i + 1)
      else
        loX5_order u x1 x2 x3 n (i + 1)
theorem loX5_order_eq (u : mS) (x1 : Int32) (x2 : Int32) (x3 : Int32) (n : Nat) (i : Int32) : loX5_order u x1 x2 x3 (n + 1) i = (
    if k_mlots u < i then
      ((-1), s_mcode u 0)
    else
      if k_mgood u i.toNatClampNeg = x1 then
        if k_mowner u i.toNatClampNeg = x2 then
          if fX5_mayBeTaken (s_mcode u 0) i = 0 then
            loX5_order u x1 x2 x3 n (i + 1)
          else
            (if liX5_order u x1 x2 i 41 1 0 = x3 then (i, s_mcode u 0) else loX5_order u x1 x2 x3 n (i + 1))
        else
          loX5_order u x1 x2 x3 n (i + 1)
      else
        loX5_order u x1 x2 x3 n (i + 1)) := rfl
def fX5_order (u : mS) (x1 : Int32) (x2 : Int32) (x3 : Int32) : Int32 × mS :=
  if fX5_in x1 0 9 = 0 then
    (0, s_mcode u 1)
  else
    if fX5_in x2 0 7 = 0 then
      (0, s_mcode u 1)
    else
      if 0 ≤ x3 then
        loX5_order u x1 x2 x3 41 1
      else
        (0, s_mcode u 1)
def lpX5_join (x1 : Int32) (x2 : Int32) : Nat → Int32 → mS → mS
  | 0, _, v => v
  | n + 1, i, v =>
    if k_munits v < i then
      (fX5_row (fX5_row v x1 4 x2) x2 5 x1)
    else
      if k_mlotOf v i.toNatClampNeg = x2 then
        lpX5_join x1 x2 n (i + 1) (s_mwas (s_mlotOf v (upd (k_mlotOf v) i.toNatClampNeg x1)) (upd (k_mwas v) ((41 * i) + x1).toNatClampNeg (vp_nar .boolean 1)))
      else
        lpX5_join x1 x2 n (i + 1) v
theorem lpX5_join_eq (x1 : Int32) (x2 : Int32) (n : Nat) (i : Int32) (v : mS) : lpX5_join x1 x2 (n + 1) i v = (
    if k_munits v < i then
      (fX5_row (fX5_row v x1 4 x2) x2 5 x1)
    else
      if k_mlotOf v i.toNatClampNeg = x2 then
        lpX5_join x1 x2 n (i + 1) (s_mwas (s_mlotOf v (upd (k_mlotOf v) i.toNatClampNeg x1)) (upd (k_mwas v) ((41 * i) + x1).toNatClampNeg (vp_nar .boolean 1)))
      else
        lpX5_join x1 x2 n (i + 1) v) := rfl
def fX5_join (u : mS) (x1 : Int32) (x2 : Int32) : mS :=
  if fX5_isLot u x1 = 0 then
    s_mcode u 1
  else
    if fX5_isLot u x2 = 0 then
      s_mcode u 1
    else
      if fX5_isOpen (s_mcode u 0) x1 = 0 then
        s_mcode u 2
      else
        if fX5_isOpen (s_mcode u 0) x2 = 0 then
          s_mcode u 2
        else
          if x1 = x2 then
            s_mcode u 2
          else
            if k_mgood u x1.toNatClampNeg = k_mgood u x2.toNatClampNeg then
              if k_mowner u x1.toNatClampNeg = k_mowner u x2.toNatClampNeg then
                if k_muntil u x1.toNatClampNeg = k_muntil u x2.toNatClampNeg then
                  if k_mblk u x1.toNatClampNeg = k_mblk u x2.toNatClampNeg then
                    if k_mquiet u x1.toNatClampNeg = k_mquiet u x2.toNatClampNeg then
                      if k_mrows u ≤ 398 then
                        lpX5_join x1 x2 121 1 (s_minto (s_mcode u 0) (upd (k_minto u) x2.toNatClampNeg x1))
                      else
                        s_mcode u 3
                    else
                      s_mcode u 2
                  else
                    s_mcode u 2
                else
                  s_mcode u 2
              else
                s_mcode u 2
            else
              s_mcode u 2
def lpX5_put (x1 : Int32) (x2 : Int32) : Nat → Int32 → mS → mS
  | 0, _, v => v
  | n + 1, i, v =>
    if k_munits v < i then
      if k_mcode v = 0 then
        s_mbin v (upd (k_mbin v) x1.toNatClampNeg x2)
      else
        v
    else
      if k_mcode v = 0 then
        if k_mbin v i.toNatClampNeg = x2 then
          if fX5_mayMix v (k_mlotOf v x1.toNatClampNeg) (k_mlotOf v i.toNatClampNeg) = 0 then
            lpX5_put x1 x2 n (i + 1) (s_mcode (s_mmixed (s_mmixed v (upd (k_mmixed v) (0 : Int32).toNatClampNeg (k_mlotOf v x1.toNatClampNeg))) (upd (k_mmixed (s_mmixed v (upd (k_mmixed v) (0 : Int32).toNatClampNeg (k_mlotOf v x1.toNatClampNeg)))) (1 : Int32).toNatClampNeg (k_mlotOf (s_mmixed v (upd (k_mmixed v) (0 : Int32).toNatClampNeg (k_mlotOf v x1.toNatClampNeg))) i.toNatClampNeg))) 3)
          else
            lpX5_put x1 x2 n (i + 1) v
        else
          lpX5_put x1 x2 n (i + 1) v
      else
        v
theorem lpX5_put_eq (x1 : Int32) (x2 : Int32) (n : Nat) (i : Int32) (v : mS) : lpX5_put x1 x2 (n + 1) i v = (
    if k_munits v < i then
      if k_mcode v = 0 then
        s_mbin v (upd (k_mbin v) x1.toNatClampNeg x2)
      else
        v
    else
      if k_mcode v = 0 then
        if k_mbin v i.toNatClampNeg = x2 then
          if fX5_mayMix v (k_mlotOf v x1.toNatClampNeg) (k_mlotOf v i.toNatClampNeg) = 0 then
            lpX5_put x1 x2 n (i + 1) (s_mcode (s_mmixed (s_mmixed v (upd (k_mmixed v) (0 : Int32).toNatClampNeg (k_mlotOf v x1.toNatClampNeg))) (upd (k_mmixed (s_mmixed v (upd (k_mmixed v) (0 : Int32).toNatClampNeg (k_mlotOf v x1.toNatClampNeg)))) (1 : Int32).toNatClampNeg (k_mlotOf (s_mmixed v (upd (k_mmixed v) (0 : Int32).toNatClampNeg (k_mlotOf v x1.toNatClampNeg))) i.toNatClampNeg))) 3)
          else
            lpX5_put x1 x2 n (i + 1) v
        else
          lpX5_put x1 x2 n (i + 1) v
      else
        v) := rfl
def fX5_put (u : mS) (x1 : Int32) (x2 : Int32) : mS :=
  if fX5_isUnit u x1 = 0 then
    lpX5_put x1 x2 121 1 (s_mcode u 1)
  else
    if fX5_in x2 0 19 = 0 then
      lpX5_put x1 x2 121 1 (s_mcode u 2)
    else
      if fX5_isGone (s_mcode u 0) x1 = 0 then
        if k_mbin u x1.toNatClampNeg = x2 then
          lpX5_put x1 x2 121 1 (s_mcode u 3)
        else
          lpX5_put x1 x2 121 1 (s_mcode u 0)
      else
        lpX5_put x1 x2 121 1 (s_mcode u 3)
def liX5_recall (w1 : mS) (i : Int32) : Nat → Int32 → Int32 → Int32
  | 0, _, _ => 0
  | n2 + 1, k, b =>
    if k_mlots w1 < k then
      b
    else
      if b = 0 then
        if k_mfam w1 k.toNatClampNeg = 0 then
          liX5_recall w1 i n2 (k + 1) 0
        else
          if k_mwas w1 ((41 * i) + k).toNatClampNeg = 0 then
            liX5_recall w1 i n2 (k + 1) 0
          else
            liX5_recall w1 i n2 (k + 1) 1
      else
        liX5_recall w1 i n2 (k + 1) 1
theorem liX5_recall_eq (w1 : mS) (i : Int32) (n2 : Nat) (k : Int32) (b : Int32) : liX5_recall w1 i (n2 + 1) k b = (
    if k_mlots w1 < k then
      b
    else
      if b = 0 then
        if k_mfam w1 k.toNatClampNeg = 0 then
          liX5_recall w1 i n2 (k + 1) 0
        else
          if k_mwas w1 ((41 * i) + k).toNatClampNeg = 0 then
            liX5_recall w1 i n2 (k + 1) 0
          else
            liX5_recall w1 i n2 (k + 1) 1
      else
        liX5_recall w1 i n2 (k + 1) 1) := rfl
def loX5_recall (w1 : mS) : Nat → Int32 → Int32 → Int32 × mS
  | 0, _, _ => (0, w1)
  | n + 1, i, a =>
    if k_munits w1 < i then
      ((-1), w1)
    else
      (if liX5_recall w1 i 41 1 0 = 0 then loX5_recall w1 n (i + 1) a else if a = 0 then (i, w1) else loX5_recall w1 n (i + 1) (a + (-1)))
theorem loX5_recall_eq (w1 : mS) (n : Nat) (i : Int32) (a : Int32) : loX5_recall w1 (n + 1) i a = (
    if k_munits w1 < i then
      ((-1), w1)
    else
      (if liX5_recall w1 i 41 1 0 = 0 then loX5_recall w1 n (i + 1) a else if a = 0 then (i, w1) else loX5_recall w1 n (i + 1) (a + (-1)))) := rfl
def fX5_recall (u : mS) (x1 : Int32) (x2 : Int32) : Int32 × mS :=
  if fX5_isLot u x1 = 0 then
    (0, s_mcode u 1)
  else
    if 0 ≤ x2 then
      loX5_recall (fX5_findFamily (s_mcode u 0) x1) 121 1 x2
    else
      (0, s_mcode u 2)
def lpX5_history (u : mS) (x1 : Int32) (x2 : Int32) (x3 : Int32) : Nat → Int32 → Int32 → Int32 → Int32 × mS
  | 0, _, _, _ => (0, u)
  | n + 1, i, b, a =>
    if k_mrows u ≤ i then
      if b = (-1) then
        (0, s_mcode u 1)
      else
        if fX5_in x3 0 1 = 0 then
          (0, s_mcode u 2)
        else
          if x3 = 0 then
            (k_mrk u b.toNatClampNeg, s_mcode u 0)
          else
            (k_mrn u b.toNatClampNeg, s_mcode u 0)
    else
      if fX5_isLot u x1 = 0 then
        if b = (-1) then
          (0, s_mcode u 1)
        else
          if fX5_in x3 0 1 = 0 then
            (0, s_mcode u 2)
          else
            if x3 = 0 then
              (k_mrk u b.toNatClampNeg, s_mcode u 0)
            else
              (k_mrn u b.toNatClampNeg, s_mcode u 0)
      else
        if x2 < 0 then
          if b = (-1) then
            (0, s_mcode u 1)
          else
            if fX5_in x3 0 1 = 0 then
              (0, s_mcode u 2)
            else
              if x3 = 0 then
                (k_mrk u b.toNatClampNeg, s_mcode u 0)
              else
                (k_mrn u b.toNatClampNeg, s_mcode u 0)
        else
          if k_mrl u i.toNatClampNeg = x1 then
            if a = 0 then
              lpX5_history u x1 x2 x3 n (i + 1) i (a + (-1))
            else
              lpX5_history u x1 x2 x3 n (i + 1) b (a + (-1))
          else
            lpX5_history u x1 x2 x3 n (i + 1) b a
theorem lpX5_history_eq (u : mS) (x1 : Int32) (x2 : Int32) (x3 : Int32) (n : Nat) (i : Int32) (b : Int32) (a : Int32) : lpX5_history u x1 x2 x3 (n + 1) i b a = (
    if k_mrows u ≤ i then
      if b = (-1) then
        (0, s_mcode u 1)
      else
        if fX5_in x3 0 1 = 0 then
          (0, s_mcode u 2)
        else
          if x3 = 0 then
            (k_mrk u b.toNatClampNeg, s_mcode u 0)
          else
            (k_mrn u b.toNatClampNeg, s_mcode u 0)
    else
      if fX5_isLot u x1 = 0 then
        if b = (-1) then
          (0, s_mcode u 1)
        else
          if fX5_in x3 0 1 = 0 then
            (0, s_mcode u 2)
          else
            if x3 = 0 then
              (k_mrk u b.toNatClampNeg, s_mcode u 0)
            else
              (k_mrn u b.toNatClampNeg, s_mcode u 0)
      else
        if x2 < 0 then
          if b = (-1) then
            (0, s_mcode u 1)
          else
            if fX5_in x3 0 1 = 0 then
              (0, s_mcode u 2)
            else
              if x3 = 0 then
                (k_mrk u b.toNatClampNeg, s_mcode u 0)
              else
                (k_mrn u b.toNatClampNeg, s_mcode u 0)
        else
          if k_mrl u i.toNatClampNeg = x1 then
            if a = 0 then
              lpX5_history u x1 x2 x3 n (i + 1) i (a + (-1))
            else
              lpX5_history u x1 x2 x3 n (i + 1) b (a + (-1))
          else
            lpX5_history u x1 x2 x3 n (i + 1) b a) := rfl
def fX5_history (u : mS) (x1 : Int32) (x2 : Int32) (x3 : Int32) : Int32 × mS :=
  lpX5_history u x1 x2 x3 401 0 (-1) x2
def lpX5_told (u : mS) (x1 : Int32) (x2 : Int32) : Nat → Int32 → Int32 → Int32 × mS
  | 0, _, _ => (0, u)
  | n + 1, i, a =>
    if k_munits u < i then
      (a, s_mcode u 0)
    else
      if k_mlotOf u i.toNatClampNeg = x1 then
        if fX5_isGone (s_mcode u 0) i = 0 then
          lpX5_told u x1 x2 n (i + 1) (a + 1)
        else
          lpX5_told u x1 x2 n (i + 1) (a + 0)
      else
        lpX5_told u x1 x2 n (i + 1) (a + 0)
theorem lpX5_told_eq (u : mS) (x1 : Int32) (x2 : Int32) (n : Nat) (i : Int32) (a : Int32) : lpX5_told u x1 x2 (n + 1) i a = (
    if k_munits u < i then
      (a, s_mcode u 0)
    else
      if k_mlotOf u i.toNatClampNeg = x1 then
        if fX5_isGone (s_mcode u 0) i = 0 then
          lpX5_told u x1 x2 n (i + 1) (a + 1)
        else
          lpX5_told u x1 x2 n (i + 1) (a + 0)
      else
        lpX5_told u x1 x2 n (i + 1) (a + 0)) := rfl
def fX5_told (u : mS) (x1 : Int32) (x2 : Int32) : Int32 × mS :=
  if fX5_isLot u x1 = 0 then
    (0, s_mcode u 1)
  else
    if fX5_in x2 0 7 = 0 then
      (0, s_mcode u 2)
    else
      if x2 = 0 then
        (k_mgood u x1.toNatClampNeg, s_mcode u 0)
      else
        if x2 = 1 then
          (k_mowner u x1.toNatClampNeg, s_mcode u 0)
        else
          if x2 = 2 then
            (k_muntil u x1.toNatClampNeg, s_mcode u 0)
          else
            if x2 = 3 then
              (k_marr u x1.toNatClampNeg, s_mcode u 0)
            else
              if x2 = 4 then
                if fX5_isOpen (s_mcode u 0) x1 = 0 then
                  (0, s_mcode u 0)
                else
                  (1, s_mcode u 0)
              else
                if x2 = 5 then
                  (k_mblk u x1.toNatClampNeg, s_mcode u 0)
                else
                  if x2 = 6 then
                    if k_mquiet u x1.toNatClampNeg = 0 then
                      (0, s_mcode u 0)
                    else
                      (1, s_mcode u 0)
                  else
                    lpX5_told u x1 x2 121 1 0
def lpX5_count (u : mS) (x1 : Int32) : Nat → Int32 → Int32 → Int32 × mS
  | 0, _, _ => (0, u)
  | n + 1, i, a =>
    if k_munits u < i then
      if x1 = 3 then
        (a, s_mcode u 0)
      else
        ((-1), s_mcode u 0)
    else
      if fX5_isGone (s_mcode u 0) i = 0 then
        lpX5_count u x1 n (i + 1) (a + 0)
      else
        lpX5_count u x1 n (i + 1) (a + 1)
theorem lpX5_count_eq (u : mS) (x1 : Int32) (n : Nat) (i : Int32) (a : Int32) : lpX5_count u x1 (n + 1) i a = (
    if k_munits u < i then
      if x1 = 3 then
        (a, s_mcode u 0)
      else
        ((-1), s_mcode u 0)
    else
      if fX5_isGone (s_mcode u 0) i = 0 then
        lpX5_count u x1 n (i + 1) (a + 0)
      else
        lpX5_count u x1 n (i + 1) (a + 1)) := rfl
def fX5_count (u : mS) (x1 : Int32) : Int32 × mS :=
  if x1 = 0 then
    (k_mlots u, s_mcode u 0)
  else
    if x1 = 1 then
      (k_munits u, s_mcode u 0)
    else
      if x1 = 2 then
        (k_mrows u, s_mcode u 0)
      else
        lpX5_count u x1 121 1 0
def fX5_day (u : mS) (x1 : Int32) (x2 : Int32) : Int32 × mS :=
  if fX5_in x1 0 2 = 0 then
    (0, s_mcode u 1)
  else
    if x1 = 2 then
      if fX5_in x2 0 99999 = 0 then
        (0, s_mcode u 1)
      else
        if x1 = 0 then
          (fX5_dayOf (x2 / 10000) ((x2 / 100) - (x2 / 100) / 100 * 100) (x2 - x2 / 100 * 100), s_mcode u 0)
        else
          if x1 = 1 then
            (fX5_dayOf (x2 - x2 / 100 * 100) ((x2 / 100) - (x2 / 100) / 100 * 100) (x2 / 10000), s_mcode u 0)
          else
            if fX5_in (x2 - x2 / 1000 * 1000) 1 (fX5_daysOfYear (x2 / 1000)) = 0 then
              ((-1), s_mcode u 0)
            else
              (((fX5_firstOf (x2 / 1000)) + (x2 - x2 / 1000 * 1000)) - 1, s_mcode u 0)
    else
      if fX5_in x2 0 999999 = 0 then
        (0, s_mcode u 1)
      else
        if x1 = 0 then
          (fX5_dayOf (x2 / 10000) ((x2 / 100) - (x2 / 100) / 100 * 100) (x2 - x2 / 100 * 100), s_mcode u 0)
        else
          if x1 = 1 then
            (fX5_dayOf (x2 - x2 / 100 * 100) ((x2 / 100) - (x2 / 100) / 100 * 100) (x2 / 10000), s_mcode u 0)
          else
            if fX5_in (x2 - x2 / 1000 * 1000) 1 (fX5_daysOfYear (x2 / 1000)) = 0 then
              ((-1), s_mcode u 0)
            else
              (((fX5_firstOf (x2 / 1000)) + (x2 - x2 / 1000 * 1000)) - 1, s_mcode u 0)
def lqX5_date (u : mS) (x1 : Int32) (x2 : Int32) (y : Int32) : Nat → Int32 → Int32 → Int32 × mS
  | 0, _, _ => (0, u)
  | n2 + 1, b, mo =>
    if b < fX5_daysOfMonth mo y then
      if x1 = 0 then
        ((((10000 * y) + (100 * mo)) + b) + 1, s_mcode u 0)
      else
        (((10000 * (b + 1)) + (100 * mo)) + y, s_mcode u 0)
    else
      lqX5_date u x1 x2 y n2 (b - (fX5_daysOfMonth mo y)) (mo + 1)
theorem lqX5_date_eq (u : mS) (x1 : Int32) (x2 : Int32) (y : Int32) (n2 : Nat) (b : Int32) (mo : Int32) : lqX5_date u x1 x2 y (n2 + 1) b mo = (
    if b < fX5_daysOfMonth mo y then
      if x1 = 0 then
        ((((10000 * y) + (100 * mo)) + b) + 1, s_mcode u 0)
      else
        (((10000 * (b + 1)) + (100 * mo)) + y, s_mcode u 0)
    else
      lqX5_date u x1 x2 y n2 (b - (fX5_daysOfMonth mo y)) (mo + 1)) := rfl
def lpX5_date (u : mS) (x1 : Int32) (x2 : Int32) : Nat → Int32 → Int32 → Int32 × mS
  | 0, _, _ => (0, u)
  | n + 1, a, y =>
    if a < fX5_daysOfYear y then
      if x1 = 2 then
        (((1000 * y) + a) + 1, s_mcode u 0)
      else
        lqX5_date u x1 x2 y 14 a 1
    else
      lpX5_date u x1 x2 n (a - (fX5_daysOfYear y)) (y + 1)
theorem lpX5_date_eq (u : mS) (x1 : Int32) (x2 : Int32) (n : Nat) (a : Int32) (y : Int32) : lpX5_date u x1 x2 (n + 1) a y = (
    if a < fX5_daysOfYear y then
      if x1 = 2 then
        (((1000 * y) + a) + 1, s_mcode u 0)
      else
        lqX5_date u x1 x2 y 14 a 1
    else
      lpX5_date u x1 x2 n (a - (fX5_daysOfYear y)) (y + 1)) := rfl
def fX5_date (u : mS) (x1 : Int32) (x2 : Int32) : Int32 × mS :=
  if fX5_in x1 0 2 = 0 then
    (0, s_mcode u 1)
  else
    if fX5_in x2 0 36524 = 0 then
      (0, s_mcode u 1)
    else
      lpX5_date u x1 x2 101 x2 0

