def fJ6_bitCount (x0 : Int32) : Int32 :=
  (((((((x0 - (((x0.toUInt32 >>> ((1 : Int32).toUInt32 &&& Int32.toUInt32 31)).toInt32) &&& 1431655765)) &&& 858993459) + ((((x0 - (((x0.toUInt32 >>> ((1 : Int32).toUInt32 &&& Int32.toUInt32 31)).toInt32) &&& 1431655765)).toUInt32 >>> ((2 : Int32).toUInt32 &&& Int32.toUInt32 31)).toInt32) &&& 858993459)) + (((((x0 - (((x0.toUInt32 >>> ((1 : Int32).toUInt32 &&& Int32.toUInt32 31)).toInt32) &&& 1431655765)) &&& 858993459) + ((((x0 - (((x0.toUInt32 >>> ((1 : Int32).toUInt32 &&& Int32.toUInt32 31)).toInt32) &&& 1431655765)).toUInt32 >>> ((2 : Int32).toUInt32 &&& Int32.toUInt32 31)).toInt32) &&& 858993459)).toUInt32 >>> ((4 : Int32).toUInt32 &&& Int32.toUInt32 31)).toInt32)) &&& 252645135) + (((((((x0 - (((x0.toUInt32 >>> ((1 : Int32).toUInt32 &&& Int32.toUInt32 31)).toInt32) &&& 1431655765)) &&& 858993459) + ((((x0 - (((x0.toUInt32 >>> ((1 : Int32).toUInt32 &&& Int32.toUInt32 31)).toInt32) &&& 1431655765)).toUInt32 >>> ((2 : Int32).toUInt32 &&& Int32.toUInt32 31)).toInt32) &&& 858993459)) + (((((x0 - (((x0.toUInt32 >>> ((1 : Int32).toUInt32 &&& Int32.toUInt32 31)).toInt32) &&& 1431655765)) &&& 858993459) + ((((x0 - (((x0.toUInt32 >>> ((1 : Int32).toUInt32 &&& Int32.toUInt32 31)).toInt32) &&& 1431655765)).toUInt32 >>> ((2 : Int32).toUInt32 &&& Int32.toUInt32 31)).toInt32) &&& 858993459)).toUInt32 >>> ((4 : Int32).toUInt32 &&& Int32.toUInt32 31)).toInt32)) &&& 252645135).toUInt32 >>> ((8 : Int32).toUInt32 &&& Int32.toUInt32 31)).toInt32)) + ((((((((x0 - (((x0.toUInt32 >>> ((1 : Int32).toUInt32 &&& Int32.toUInt32 31)).toInt32) &&& 1431655765)) &&& 858993459) + ((((x0 - (((x0.toUInt32 >>> ((1 : Int32).toUInt32 &&& Int32.toUInt32 31)).toInt32) &&& 1431655765)).toUInt32 >>> ((2 : Int32).toUInt32 &&& Int32.toUInt32 31)).toInt32) &&& 858993459)) + (((((x0 - (((x0.toUInt32 >>> ((1 : Int32).toUInt32 &&& Int32.toUInt32 31)).toInt32) &&& 1431655765)) &&& 858993459) + ((((x0 - (((x0.toUInt32 >>> ((1 : Int32).toUInt32 &&& Int32.toUInt32 31)).toInt32) &&& 1431655765)).toUInt32 >>> ((2 : Int32).toUInt32 &&& Int32.toUInt32 31)).toInt32) &&& 858993459)).toUInt32 >>> ((4 : Int32).toUInt32 &&& Int32.toUInt32 31)).toInt32)) &&& 252645135) + (((((((x0 - (((x0.toUInt32 >>> ((1 : Int32).toUInt32 &&& Int32.toUInt32 31)).toInt32) &&& 1431655765)) &&& 858993459) + ((((x0 - (((x0.toUInt32 >>> ((1 : Int32).toUInt32 &&& Int32.toUInt32 31)).toInt32) &&& 1431655765)).toUInt32 >>> ((2 : Int32).toUInt32 &&& Int32.toUInt32 31)).toInt32) &&& 858993459)) + (((((x0 - (((x0.toUInt32 >>> ((1 : Int32).toUInt32 &&& Int32.toUInt32 31)).toInt32) &&& 1431655765)) &&& 858993459) + ((((x0 - (((x0.toUInt32 >>> ((1 : Int32).toUInt32 &&& Int32.toUInt32 31)).toInt32) &&& 1431655765)).toUInt32 >>> ((2 : Int32).toUInt32 &&& Int32.toUInt32 31)).toInt32) &&& 858993459)).toUInt32 >>> ((4 : Int32).toUInt32 &&& Int32.toUInt32 31)).toInt32)) &&& 252645135).toUInt32 >>> ((8 : Int32).toUInt32 &&& Int32.toUInt32 31)).toInt32)).toUInt32 >>> ((16 : Int32).toUInt32 &&& Int32.toUInt32 31)).toInt32)) &&& 63
def fX4_requireRange (x0 : Int32) (x1 : Int32) (x2 : Int32) : Nat :=
  if x0 < x1 then
    2
  else
    if x0 ≤ x2 then
      0
    else
      2
def fX4_requireNotNegative (x0 : Int32) : Nat :=
  if 0 ≤ x0 then
    0
  else
    2
def fX4_requireState (x0 : Int32) : Nat :=
  if x0 = 0 then
    3
  else
    0
def fX4_requireRoom (x0 : Int32) : Nat :=
  if x0 = 0 then
    4
  else
    0
def fX4_requireLot (u : cS) (x1 : Int32) : Nat :=
  if x1 < 1 then
    1
  else
    if x1 ≤ k_lmade u then
      0
    else
      1
def fX4_requireUnit (u : cS) (x1 : Int32) : Nat :=
  if x1 < 1 then
    1
  else
    if x1 ≤ k_umade u then
      0
    else
      1
def fX1_haveRoom (u : cS) : Int32 :=
  if 40 ≤ k_lmade u then
    0
  else
    1
theorem fX1_haveRoom_01 (u : cS) : fX1_haveRoom u = 0 ∨ fX1_haveRoom u = 1 := by
  unfold fX1_haveRoom
  repeat (first | exact Or.inl rfl | exact Or.inr rfl | split)
def fX1_areAlike (u : cS) (x1 : Int32) (x2 : Int32) : Int32 :=
  if k_goods u x1.toNatClampNeg = k_goods u x2.toNatClampNeg then
    if k_owners u x1.toNatClampNeg = k_owners u x2.toNatClampNeg then
      if k_last u x1.toNatClampNeg = k_last u x2.toNatClampNeg then
        if k_reas u x1.toNatClampNeg = k_reas u x2.toNatClampNeg then
          if k_quar u x1.toNatClampNeg = k_quar u x2.toNatClampNeg then
            1
          else
            0
        else
          0
      else
        0
    else
      0
  else
    0
theorem fX1_areAlike_01 (u : cS) (x1 : Int32) (x2 : Int32) : fX1_areAlike u x1 x2 = 0 ∨ fX1_areAlike u x1 x2 = 1 := by
  unfold fX1_areAlike
  repeat (first | exact Or.inl rfl | exact Or.inr rfl | split)
def fX1_lieTooFarApart (u : cS) (x1 : Int32) (x2 : Int32) (x3 : Int32) : Int32 :=
  if k_goods u x1.toNatClampNeg = k_goods u x2.toNatClampNeg then
    if k_owners u x1.toNatClampNeg = k_owners u x2.toNatClampNeg then
      if (if 0 ≤ (k_last u x1.toNatClampNeg) - (k_last u x2.toNatClampNeg) then (k_last u x1.toNatClampNeg) - (k_last u x2.toNatClampNeg) else 0 - ((k_last u x1.toNatClampNeg) - (k_last u x2.toNatClampNeg))) ≤ x3 then
        0
      else
        1
    else
      0
  else
    0
theorem fX1_lieTooFarApart_01 (u : cS) (x1 : Int32) (x2 : Int32) (x3 : Int32) : fX1_lieTooFarApart u x1 x2 x3 = 0 ∨ fX1_lieTooFarApart u x1 x2 x3 = 1 := by
  unfold fX1_lieTooFarApart
  repeat (first | exact Or.inl rfl | exact Or.inr rfl | split)
def fX1_mayBeTaken (u : cS) (x1 : Int32) : Int32 :=
  if k_open u x1.toNatClampNeg = 0 then
    0
  else
    if k_reas u x1.toNatClampNeg = 0 then
      if k_quar u x1.toNatClampNeg = 0 then
        1
      else
        0
    else
      0
theorem fX1_mayBeTaken_01 (u : cS) (x1 : Int32) : fX1_mayBeTaken u x1 = 0 ∨ fX1_mayBeTaken u x1 = 1 := by
  unfold fX1_mayBeTaken
  repeat (first | exact Or.inl rfl | exact Or.inr rfl | split)
def fX1_mayBeTakenFor (u : cS) (x1 : Int32) (x2 : Int32) (x3 : Int32) : Int32 :=
  if k_goods u x1.toNatClampNeg = x2 then
    if k_owners u x1.toNatClampNeg = x3 then
      if fX1_mayBeTaken u x1 = 0 then
        0
      else
        1
    else
      0
  else
    0
theorem fX1_mayBeTakenFor_01 (u : cS) (x1 : Int32) (x2 : Int32) (x3 : Int32) : fX1_mayBeTakenFor u x1 x2 x3 = 0 ∨ fX1_mayBeTakenFor u x1 x2 x3 = 1 := by
  unfold fX1_mayBeTakenFor
  repeat (first | exact Or.inl rfl | exact Or.inr rfl | exact fX1_mayBeTaken_01 _ _ | split)
def fX1_arrivedBefore (u : cS) (x1 : Int32) (x2 : Int32) : Int32 :=
  if k_arr u x1.toNatClampNeg = k_arr u x2.toNatClampNeg then
    if x2 ≤ x1 then
      0
    else
      1
  else
    if k_arr u x2.toNatClampNeg ≤ k_arr u x1.toNatClampNeg then
      0
    else
      1
theorem fX1_arrivedBefore_01 (u : cS) (x1 : Int32) (x2 : Int32) : fX1_arrivedBefore u x1 x2 = 0 ∨ fX1_arrivedBefore u x1 x2 = 1 := by
  unfold fX1_arrivedBefore
  repeat (first | exact Or.inl rfl | exact Or.inr rfl | split)
def fX1_comesBefore (u : cS) (x1 : Int32) (x2 : Int32) (x3 : Int32) : Int32 :=
  if x3 = 2 then
    fX1_arrivedBefore u x2 x1
  else
    if x3 = 0 then
      if k_last u x1.toNatClampNeg = k_last u x2.toNatClampNeg then
        fX1_arrivedBefore u x1 x2
      else
        if k_last u x2.toNatClampNeg ≤ k_last u x1.toNatClampNeg then
          0
        else
          1
    else
      fX1_arrivedBefore u x1 x2
theorem fX1_comesBefore_01 (u : cS) (x1 : Int32) (x2 : Int32) (x3 : Int32) : fX1_comesBefore u x1 x2 x3 = 0 ∨ fX1_comesBefore u x1 x2 x3 = 1 := by
  unfold fX1_comesBefore
  repeat (first | exact Or.inl rfl | exact Or.inr rfl | exact fX1_arrivedBefore_01 _ _ _ | split)
def lpX1_rivalsBefore (u : cS) (x1 : Int32) (x2 : Int32) : Nat → Int32 → Int32 → Int32
  | 0, _, _ => 0
  | n + 1, i, a =>
    if k_lmade u < i then
      a
    else
      if fX1_mayBeTakenFor u i (k_goods u x1.toNatClampNeg) (k_owners u x1.toNatClampNeg) = 0 then
        lpX1_rivalsBefore u x1 x2 n (i + 1) a
      else
        if fX1_comesBefore u i x1 x2 = 0 then
          lpX1_rivalsBefore u x1 x2 n (i + 1) a
        else
          lpX1_rivalsBefore u x1 x2 n (i + 1) (a + 1)
theorem lpX1_rivalsBefore_eq (u : cS) (x1 : Int32) (x2 : Int32) (n : Nat) (i : Int32) (a : Int32) : lpX1_rivalsBefore u x1 x2 (n + 1) i a = (
    if k_lmade u < i then
      a
    else
      if fX1_mayBeTakenFor u i (k_goods u x1.toNatClampNeg) (k_owners u x1.toNatClampNeg) = 0 then
        lpX1_rivalsBefore u x1 x2 n (i + 1) a
      else
        if fX1_comesBefore u i x1 x2 = 0 then
          lpX1_rivalsBefore u x1 x2 n (i + 1) a
        else
          lpX1_rivalsBefore u x1 x2 n (i + 1) (a + 1)) := rfl
def fX1_rivalsBefore (u : cS) (x1 : Int32) (x2 : Int32) : Int32 :=
  lpX1_rivalsBefore u x1 x2 41 1 0
def fX3_haveRoom (u : cS) : Int32 :=
  if 120 ≤ k_umade u then
    0
  else
    1
theorem fX3_haveRoom_01 (u : cS) : fX3_haveRoom u = 0 ∨ fX3_haveRoom u = 1 := by
  unfold fX3_haveRoom
  repeat (first | exact Or.inl rfl | exact Or.inr rfl | split)
def fX3_isGone (u : cS) (x1 : Int32) : Int32 :=
  if k_ucust u x1.toNatClampNeg = (-1) then
    0
  else
    1
theorem fX3_isGone_01 (u : cS) (x1 : Int32) : fX3_isGone u x1 = 0 ∨ fX3_isGone u x1 = 1 := by
  unfold fX3_isGone
  repeat (first | exact Or.inl rfl | exact Or.inr rfl | split)
def lpX3_leftOf (u : cS) (x1 : Int32) : Nat → Int32 → Int32 → Int32
  | 0, _, _ => 0
  | n + 1, i, a =>
    if k_umade u < i then
      a
    else
      if k_ulot u i.toNatClampNeg = x1 then
        if fX3_isGone u i = 0 then
          lpX3_leftOf u x1 n (i + 1) (a + 1)
        else
          lpX3_leftOf u x1 n (i + 1) a
      else
        lpX3_leftOf u x1 n (i + 1) a
theorem lpX3_leftOf_eq (u : cS) (x1 : Int32) (n : Nat) (i : Int32) (a : Int32) : lpX3_leftOf u x1 (n + 1) i a = (
    if k_umade u < i then
      a
    else
      if k_ulot u i.toNatClampNeg = x1 then
        if fX3_isGone u i = 0 then
          lpX3_leftOf u x1 n (i + 1) (a + 1)
        else
          lpX3_leftOf u x1 n (i + 1) a
      else
        lpX3_leftOf u x1 n (i + 1) a) := rfl
def fX3_leftOf (u : cS) (x1 : Int32) : Int32 :=
  lpX3_leftOf u x1 121 1 0
def lpX3_everOfFamily (u : cS) (x1 : Int64) (x3 : Int32) : Nat → Int32 → Int32 → Int32
  | 0, _, _ => 0
  | n + 1, i, a =>
    if k_umade u < i then
      (-1)
    else
      if lg_cmp (x1 &&& ((1 : Int64) <<< ((k_ufirst u i.toNatClampNeg).toInt64 &&& 63))) 0 = 0 then
        lpX3_everOfFamily u x1 x3 n (i + 1) a
      else
        if a = x3 then
          i
        else
          lpX3_everOfFamily u x1 x3 n (i + 1) (a + 1)
theorem lpX3_everOfFamily_eq (u : cS) (x1 : Int64) (x3 : Int32) (n : Nat) (i : Int32) (a : Int32) : lpX3_everOfFamily u x1 x3 (n + 1) i a = (
    if k_umade u < i then
      (-1)
    else
      if lg_cmp (x1 &&& ((1 : Int64) <<< ((k_ufirst u i.toNatClampNeg).toInt64 &&& 63))) 0 = 0 then
        lpX3_everOfFamily u x1 x3 n (i + 1) a
      else
        if a = x3 then
          i
        else
          lpX3_everOfFamily u x1 x3 n (i + 1) (a + 1)) := rfl
def fX3_everOfFamily (u : cS) (x1 : Int64) (x3 : Int32) : Int32 :=
  lpX3_everOfFamily u x1 x3 121 1 0
def fX2_haveRoomFor (u : cS) (x1 : Int32) : Int32 :=
  if 400 < (k_rwrit u) + x1 then
    0
  else
    1
theorem fX2_haveRoomFor_01 (u : cS) (x1 : Int32) : fX2_haveRoomFor u x1 = 0 ∨ fX2_haveRoomFor u x1 = 1 := by
  unfold fX2_haveRoomFor
  repeat (first | exact Or.inl rfl | exact Or.inr rfl | split)
def lpX2_find (u : cS) (x1 : Int32) (x2 : Int32) : Nat → Int32 → Int32 → Int32
  | 0, _, _ => 0
  | n + 1, i, a =>
    if k_rwrit u ≤ i then
      (-1)
    else
      if k_rlot u i.toNatClampNeg = x1 then
        if a = x2 then
          i
        else
          lpX2_find u x1 x2 n (i + 1) (a + 1)
      else
        lpX2_find u x1 x2 n (i + 1) a
theorem lpX2_find_eq (u : cS) (x1 : Int32) (x2 : Int32) (n : Nat) (i : Int32) (a : Int32) : lpX2_find u x1 x2 (n + 1) i a = (
    if k_rwrit u ≤ i then
      (-1)
    else
      if k_rlot u i.toNatClampNeg = x1 then
        if a = x2 then
          i
        else
          lpX2_find u x1 x2 n (i + 1) (a + 1)
      else
        lpX2_find u x1 x2 n (i + 1) a) := rfl
def fX2_find (u : cS) (x1 : Int32) (x2 : Int32) : Int32 :=
  lpX2_find u x1 x2 401 0 0
def liX1_familyOf (u : cS) : Nat → Int32 → Int64 → Int64
  | 0, _, _ => 0
  | n2 + 1, k, f =>
    if k_lmade u < k then
      f
    else
      if lg_cmp (f &&& ((1 : Int64) <<< (k.toInt64 &&& 63))) 0 = 0 then
        liX1_familyOf u n2 (k + 1) f
      else
        liX1_familyOf u n2 (k + 1) (f ||| (k_kin u k.toNatClampNeg))
theorem liX1_familyOf_eq (u : cS) (n2 : Nat) (k : Int32) (f : Int64) : liX1_familyOf u (n2 + 1) k f = (
    if k_lmade u < k then
      f
    else
      if lg_cmp (f &&& ((1 : Int64) <<< (k.toInt64 &&& 63))) 0 = 0 then
        liX1_familyOf u n2 (k + 1) f
      else
        liX1_familyOf u n2 (k + 1) (f ||| (k_kin u k.toNatClampNeg))) := rfl
def loX1_familyOf (u : cS) (x1 : Int32) : Nat → Int32 → Int64 → Int64
  | 0, _, _ => 0
  | n + 1, i, f =>
    if k_lmade u < i then
      f
    else
      loX1_familyOf u x1 n (i + 1) (liX1_familyOf u 41 1 f)
theorem loX1_familyOf_eq (u : cS) (x1 : Int32) (n : Nat) (i : Int32) (f : Int64) : loX1_familyOf u x1 (n + 1) i f = (
    if k_lmade u < i then
      f
    else
      loX1_familyOf u x1 n (i + 1) (liX1_familyOf u 41 1 f)) := rfl
def fX1_familyOf (u : cS) (x1 : Int32) : Int64 :=
  loX1_familyOf u x1 41 1 ((1 : Int64) <<< (x1.toInt64 &&& 63))
def fX0_startOfYear (x0 : Int32) : Int32 :=
  (x0 * 365) + ((x0 + 3) / 4)
def fX0_daysBefore (x0 : Int32) (x1 : Int32) : Int32 :=
  if x0 - x0 / 4 * 4 = 0 then
    if x1 ≤ 2 then
      (c_tab (x1 - 1).toNatClampNeg) + 0
    else
      (c_tab (x1 - 1).toNatClampNeg) + 1
  else
    (c_tab (x1 - 1).toNatClampNeg) + 0
def fX0_fromYearDay (x0 : Int32) (x1 : Int32) : Int32 :=
  if x1 < 1 then
    (-1)
  else
    if x1 ≤ fX0_daysBefore x0 13 then
      ((fX0_startOfYear x0) + x1) - 1
    else
      (-1)
def fX0_fromMonthDay (x0 : Int32) (x1 : Int32) (x2 : Int32) : Int32 :=
  if x1 < 1 then
    (-1)
  else
    if 12 < x1 then
      (-1)
    else
      if 1 ≤ x2 then
        if (fX0_daysBefore x0 x1) + x2 ≤ fX0_daysBefore x0 (x1 + 1) then
          fX0_fromYearDay x0 ((fX0_daysBefore x0 x1) + x2)
        else
          (-1)
      else
        (-1)
def lpX0_yearOf (x0 : Int32) : Nat → Int32 → Int32
  | 0, _ => 0
  | n + 1, i =>
    if i ≤ 0 then
      0
    else
      if x0 < fX0_startOfYear i then
        lpX0_yearOf x0 n (i + (-1))
      else
        i
theorem lpX0_yearOf_eq (x0 : Int32) (n : Nat) (i : Int32) : lpX0_yearOf x0 (n + 1) i = (
    if i ≤ 0 then
      0
    else
      if x0 < fX0_startOfYear i then
        lpX0_yearOf x0 n (i + (-1))
      else
        i) := rfl
def fX0_yearOf (x0 : Int32) : Int32 :=
  lpX0_yearOf x0 100 99
def lpX0_monthOf (x0 : Int32) (x1 : Int32) : Nat → Int32 → Int32
  | 0, _ => 0
  | n + 1, i =>
    if i ≤ 1 then
      1
    else
      if x1 ≤ fX0_daysBefore x0 i then
        lpX0_monthOf x0 x1 n (i + (-1))
      else
        i
theorem lpX0_monthOf_eq (x0 : Int32) (x1 : Int32) (n : Nat) (i : Int32) : lpX0_monthOf x0 x1 (n + 1) i = (
    if i ≤ 1 then
      1
    else
      if x1 ≤ fX0_daysBefore x0 i then
        lpX0_monthOf x0 x1 n (i + (-1))
      else
        i) := rfl
def fX0_monthOf (x0 : Int32) (x1 : Int32) : Int32 :=
  lpX0_monthOf x0 x1 12 12
def fX1_add (u : cS) (x1 : Int32) (x2 : Int32) (x3 : Int32) (x4 : Int32) : Int32 × cS :=
  ((k_lmade u) + 1, s_open (s_arr (s_last (s_owners (s_goods (s_lmade u ((k_lmade u) + 1)) (upd (k_goods u) ((k_lmade u) + 1).toNatClampNeg x1)) (upd (k_owners u) ((k_lmade u) + 1).toNatClampNeg x2)) (upd (k_last u) ((k_lmade u) + 1).toNatClampNeg x3)) (upd (k_arr u) ((k_lmade u) + 1).toNatClampNeg x4)) (upd (k_open u) ((k_lmade u) + 1).toNatClampNeg (vp_nar .boolean 1)))
def fX1_addPartOf (u : cS) (x1 : Int32) : Int32 × cS :=
  ((fX1_add u (k_goods u x1.toNatClampNeg) (k_owners u x1.toNatClampNeg) (k_last u x1.toNatClampNeg) (k_arr u x1.toNatClampNeg)).1, s_kin (s_quar (s_reas (fX1_add u (k_goods u x1.toNatClampNeg) (k_owners u x1.toNatClampNeg) (k_last u x1.toNatClampNeg) (k_arr u x1.toNatClampNeg)).2 (upd (k_reas (fX1_add u (k_goods u x1.toNatClampNeg) (k_owners u x1.toNatClampNeg) (k_last u x1.toNatClampNeg) (k_arr u x1.toNatClampNeg)).2) (fX1_add u (k_goods u x1.toNatClampNeg) (k_owners u x1.toNatClampNeg) (k_last u x1.toNatClampNeg) (k_arr u x1.toNatClampNeg)).1.toNatClampNeg (k_reas (fX1_add u (k_goods u x1.toNatClampNeg) (k_owners u x1.toNatClampNeg) (k_last u x1.toNatClampNeg) (k_arr u x1.toNatClampNeg)).2 x1.toNatClampNeg))) (upd (k_quar (fX1_add u (k_goods u x1.toNatClampNeg) (k_owners u x1.toNatClampNeg) (k_last u x1.toNatClampNeg) (k_arr u x1.toNatClampNeg)).2) (fX1_add u (k_goods u x1.toNatClampNeg) (k_owners u x1.toNatClampNeg) (k_last u x1.toNatClampNeg) (k_arr u x1.toNatClampNeg)).1.toNatClampNeg (vp_nar .boolean (k_quar (fX1_add u (k_goods u x1.toNatClampNeg) (k_owners u x1.toNatClampNeg) (k_last u x1.toNatClampNeg) (k_arr u x1.toNatClampNeg)).2 x1.toNatClampNeg)))) (vp_updL (k_kin (fX1_add u (k_goods u x1.toNatClampNeg) (k_owners u x1.toNatClampNeg) (k_last u x1.toNatClampNeg) (k_arr u x1.toNatClampNeg)).2) x1.toNatClampNeg ((k_kin (fX1_add u (k_goods u x1.toNatClampNeg) (k_owners u x1.toNatClampNeg) (k_last u x1.toNatClampNeg) (k_arr u x1.toNatClampNeg)).2 x1.toNatClampNeg) ||| ((1 : Int64) <<< ((fX1_add u (k_goods u x1.toNatClampNeg) (k_owners u x1.toNatClampNeg) (k_last u x1.toNatClampNeg) (k_arr u x1.toNatClampNeg)).1.toInt64 &&& 63)))))
def fX1_closeInto (u : cS) (x1 : Int32) (x2 : Int32) : cS :=
  s_kin (s_open u (upd (k_open u) x2.toNatClampNeg (vp_nar .boolean 0))) (vp_updL (k_kin u) x1.toNatClampNeg ((k_kin u x1.toNatClampNeg) ||| ((1 : Int64) <<< (x2.toInt64 &&& 63))))
def fX3_add (u : cS) (x1 : Int32) : Int32 × cS :=
  ((k_umade u) + 1, s_ufirst (s_uday (s_ucust (s_ubin (s_ulot (s_umade u ((k_umade u) + 1)) (upd (k_ulot u) ((k_umade u) + 1).toNatClampNeg x1)) (upd (k_ubin u) ((k_umade u) + 1).toNatClampNeg (-1))) (upd (k_ucust u) ((k_umade u) + 1).toNatClampNeg (-1))) (upd (k_uday u) ((k_umade u) + 1).toNatClampNeg (-1))) (upd (k_ufirst u) ((k_umade u) + 1).toNatClampNeg x1))
def fX3_send (u : cS) (x1 : Int32) (x2 : Int32) (x3 : Int32) : cS :=
  s_ugone (s_uday (s_ucust (s_ubin u (upd (k_ubin u) x1.toNatClampNeg (-1))) (upd (k_ucust u) x1.toNatClampNeg x2)) (upd (k_uday u) x1.toNatClampNeg x3)) ((k_ugone u) + 1)
def lpX3_moveAll (x1 : Int32) (x2 : Int32) : Nat → Int32 → cS → cS
  | 0, _, v => v
  | n + 1, i, v =>
    if k_umade v < i then
      v
    else
      if k_ulot v i.toNatClampNeg = x1 then
        lpX3_moveAll x1 x2 n (i + 1) (s_ulot v (upd (k_ulot v) i.toNatClampNeg x2))
      else
        lpX3_moveAll x1 x2 n (i + 1) v
theorem lpX3_moveAll_eq (x1 : Int32) (x2 : Int32) (n : Nat) (i : Int32) (v : cS) : lpX3_moveAll x1 x2 (n + 1) i v = (
    if k_umade v < i then
      v
    else
      if k_ulot v i.toNatClampNeg = x1 then
        lpX3_moveAll x1 x2 n (i + 1) (s_ulot v (upd (k_ulot v) i.toNatClampNeg x2))
      else
        lpX3_moveAll x1 x2 n (i + 1) v) := rfl
def fX3_moveAll (u : cS) (x1 : Int32) (x2 : Int32) : cS :=
  lpX3_moveAll x1 x2 121 1 u
def fX2_write (u : cS) (x1 : Int32) (x2 : Int32) (x3 : Int32) : cS :=
  s_rwrit (s_rnum (s_rkind (s_rlot u (upd (k_rlot u) (k_rwrit u).toNatClampNeg x1)) (upd (k_rkind u) (k_rwrit u).toNatClampNeg x2)) (upd (k_rnum u) (k_rwrit u).toNatClampNeg x3)) ((k_rwrit u) + 1)
def fX4_mayGo (u : cS) (x1 : Int32) (x2 : Int32) (x3 : Int32) : Int32 :=
  if fX1_mayBeTaken u x1 = 0 then
    0
  else
    if x3 < k_arr u x1.toNatClampNeg then
      0
    else
      if k_last u x1.toNatClampNeg < x3 then
        0
      else
        if ((k_last u x1.toNatClampNeg) - x3) + 1 < k_want u x2.toNatClampNeg then
          0
        else
          1
theorem fX4_mayGo_01 (u : cS) (x1 : Int32) (x2 : Int32) (x3 : Int32) : fX4_mayGo u x1 x2 x3 = 0 ∨ fX4_mayGo u x1 x2 x3 = 1 := by
  unfold fX4_mayGo
  repeat (first | exact Or.inl rfl | exact Or.inr rfl | exact fX1_mayBeTaken_01 _ _ | split)
def lpX4_lotThatHinders (u : cS) (x1 : Int32) (x2 : Int32) : Nat → Int32 → Int32
  | 0, _ => 0
  | n + 1, i =>
    if k_umade u < i then
      0
    else
      if k_ubin u i.toNatClampNeg = x2 then
        if fX1_lieTooFarApart u (k_ulot u x1.toNatClampNeg) (k_ulot u i.toNatClampNeg) (k_mix u (k_owners u (k_ulot u x1.toNatClampNeg).toNatClampNeg).toNatClampNeg) = 0 then
          lpX4_lotThatHinders u x1 x2 n (i + 1)
        else
          k_ulot u i.toNatClampNeg
      else
        lpX4_lotThatHinders u x1 x2 n (i + 1)
theorem lpX4_lotThatHinders_eq (u : cS) (x1 : Int32) (x2 : Int32) (n : Nat) (i : Int32) : lpX4_lotThatHinders u x1 x2 (n + 1) i = (
    if k_umade u < i then
      0
    else
      if k_ubin u i.toNatClampNeg = x2 then
        if fX1_lieTooFarApart u (k_ulot u x1.toNatClampNeg) (k_ulot u i.toNatClampNeg) (k_mix u (k_owners u (k_ulot u x1.toNatClampNeg).toNatClampNeg).toNatClampNeg) = 0 then
          lpX4_lotThatHinders u x1 x2 n (i + 1)
        else
          k_ulot u i.toNatClampNeg
      else
        lpX4_lotThatHinders u x1 x2 n (i + 1)) := rfl
def fX4_lotThatHinders (u : cS) (x1 : Int32) (x2 : Int32) : Int32 :=
  lpX4_lotThatHinders u x1 x2 121 1
def fX4_count (u : cS) (x1 : Int32) : Int32 :=
  if x1 = 0 then
    k_lmade u
  else
    if x1 = 1 then
      k_umade u
    else
      if x1 = 2 then
        k_rwrit u
      else
        if x1 = 3 then
          k_ugone u
        else
          (-1)
def fX4_lot (u : cS) (x1 : Int32) (x2 : Int32) (x3 : Int32) (x4 : Int32) : Nat × Int32 × cS :=
  if fX4_requireRange x1 0 9 = 0 then
    if fX4_requireRange x2 0 7 = 0 then
      if fX4_requireRange x3 0 36524 = 0 then
        if fX4_requireRange x4 0 36524 = 0 then
          if x4 ≤ x3 then
            if fX1_haveRoom u = 0 then
              (4, 0, u)
            else
              if fX2_haveRoomFor u 1 = 0 then
                (4, 0, u)
              else
                (0, (fX1_add u x1 x2 x3 x4).1, (fX2_write (fX1_add u x1 x2 x3 x4).2 (fX1_add u x1 x2 x3 x4).1 1 0))
          else
            (0, 0, u)
        else
          (2, 0, u)
      else
        (2, 0, u)
    else
      (2, 0, u)
  else
    (2, 0, u)
def fX4_rule (u : cS) (x1 : Int32) (x2 : Int32) (x3 : Int32) : Nat × Int32 × cS :=
  if fX4_requireRange x1 0 7 = 0 then
    if fX4_requireRange x2 0 1 = 0 then
      if x2 = 0 then
        if fX4_requireRange x3 0 2 = 0 then
          (0, 0, s_rot u (upd (k_rot u) x1.toNatClampNeg x3))
        else
          (2, 0, u)
      else
        if fX4_requireRange x3 0 1000 = 0 then
          (0, 0, s_mix u (upd (k_mix u) x1.toNatClampNeg x3))
        else
          (2, 0, u)
    else
      (2, 0, u)
  else
    (2, 0, u)
def fX4_wants (u : cS) (x1 : Int32) (x2 : Int32) : Nat × Int32 × cS :=
  if fX4_requireRange x1 0 7 = 0 then
    if fX4_requireRange x2 1 1000 = 0 then
      (0, 0, s_want u (upd (k_want u) x1.toNatClampNeg x2))
    else
      (2, 0, u)
  else
    (2, 0, u)
def fX4_right (u : cS) (x1 : Int32) (x2 : Int32) (x3 : Int32) : Nat × Int32 × cS :=
  if fX4_requireRange x1 0 7 = 0 then
    if fX4_requireRange x2 1 9 = 0 then
      if x3 = 0 then
        (0, 0, s_may u (upd (k_may u) x1.toNatClampNeg ((k_may u x1.toNatClampNeg) &&& (((1 : Int32) <<< (x2 &&& 31)) ^^^ (-1)))))
      else
        (0, 0, s_may u (upd (k_may u) x1.toNatClampNeg ((k_may u x1.toNatClampNeg) ||| ((1 : Int32) <<< (x2 &&& 31)))))
    else
      (2, 0, u)
  else
    (2, 0, u)
def fX4_block (u : cS) (x1 : Int32) (x2 : Int32) : Nat × Int32 × cS :=
  if fX4_requireLot u x1 = 0 then
    if fX4_requireRange x2 1 9 = 0 then
      if k_open u x1.toNatClampNeg = 0 then
        (3, 0, u)
      else
        if (k_reas u x1.toNatClampNeg) &&& ((1 : Int32) <<< (x2 &&& 31)) = 0 then
          if fX4_requireRoom (fX2_haveRoomFor u 1) = 0 then
            (0, fJ6_bitCount (k_reas (fX2_write (s_reas u (upd (k_reas u) x1.toNatClampNeg ((k_reas u x1.toNatClampNeg) ||| ((1 : Int32) <<< (x2 &&& 31))))) x1 6 x2) x1.toNatClampNeg), (fX2_write (s_reas u (upd (k_reas u) x1.toNatClampNeg ((k_reas u x1.toNatClampNeg) ||| ((1 : Int32) <<< (x2 &&& 31))))) x1 6 x2))
          else
            (4, 0, u)
        else
          (3, 0, u)
    else
      (2, 0, u)
  else
    (1, 0, u)
def fX4_release (u : cS) (x1 : Int32) (x2 : Int32) : Nat × Int32 × cS :=
  if fX4_requireLot u x1 = 0 then
    if fX4_requireRange x2 0 7 = 0 then
      if k_open u x1.toNatClampNeg = 0 then
        (3, 0, u)
      else
        if (k_reas u x1.toNatClampNeg) &&& (k_may u x2.toNatClampNeg) = 0 then
          (3, 0, u)
        else
          if fX4_requireRoom (fX2_haveRoomFor u 1) = 0 then
            (0, fJ6_bitCount ((k_reas u x1.toNatClampNeg) &&& (k_may u x2.toNatClampNeg)), (fX2_write (s_reas u (upd (k_reas u) x1.toNatClampNeg ((k_reas u x1.toNatClampNeg) &&& (((k_reas u x1.toNatClampNeg) &&& (k_may u x2.toNatClampNeg)) ^^^ (-1))))) x1 7 x2))
          else
            (4, 0, u)
    else
      (2, 0, u)
  else
    (1, 0, u)
def fX4_quarantine (u : cS) (x1 : Int32) (x2 : Int32) : Nat × Int32 × cS :=
  if fX4_requireLot u x1 = 0 then
    if k_open u x1.toNatClampNeg = 0 then
      (3, 0, u)
    else
      if k_quar u x1.toNatClampNeg = x2 then
        (3, 0, u)
      else
        if fX4_requireRoom (fX2_haveRoomFor u 1) = 0 then
          if x2 = 0 then
            (0, 0, (fX2_write (s_quar u (upd (k_quar u) x1.toNatClampNeg (vp_nar .boolean x2))) x1 9 0))
          else
            (0, 0, (fX2_write (s_quar u (upd (k_quar u) x1.toNatClampNeg (vp_nar .boolean x2))) x1 8 0))
        else
          (4, 0, u)
  else
    (1, 0, u)
def lpX4_order (u : cS) (x1 : Int32) (x2 : Int32) (x3 : Int32) : Nat → Int32 → Nat × Int32 × cS
  | 0, _ => (0, 0, u)
  | n + 1, i =>
    if k_lmade u < i then
      (0, (-1), u)
    else
      if fX1_mayBeTakenFor u i x1 x2 = 0 then
        lpX4_order u x1 x2 x3 n (i + 1)
      else
        if fX1_rivalsBefore u i (k_rot u x2.toNatClampNeg) = x3 then
          (0, i, u)
        else
          lpX4_order u x1 x2 x3 n (i + 1)
theorem lpX4_order_eq (u : cS) (x1 : Int32) (x2 : Int32) (x3 : Int32) (n : Nat) (i : Int32) : lpX4_order u x1 x2 x3 (n + 1) i = (
    if k_lmade u < i then
      (0, (-1), u)
    else
      if fX1_mayBeTakenFor u i x1 x2 = 0 then
        lpX4_order u x1 x2 x3 n (i + 1)
      else
        if fX1_rivalsBefore u i (k_rot u x2.toNatClampNeg) = x3 then
          (0, i, u)
        else
          lpX4_order u x1 x2 x3 n (i + 1)) := rfl
def fX4_order (u : cS) (x1 : Int32) (x2 : Int32) (x3 : Int32) : Nat × Int32 × cS :=
  if fX4_requireRange x1 0 9 = 0 then
    if fX4_requireRange x2 0 7 = 0 then
      if fX4_requireNotNegative x3 = 0 then
        lpX4_order u x1 x2 x3 41 1
      else
        (2, 0, u)
    else
      (2, 0, u)
  else
    (2, 0, u)
def fX4_allowed (u : cS) (x1 : Int32) (x2 : Int32) (x3 : Int32) : Nat × Int32 × cS :=
  if fX4_requireLot u x1 = 0 then
    if fX4_requireRange x2 0 7 = 0 then
      if fX4_requireRange x3 0 36524 = 0 then
        (0, fX4_mayGo u x1 x2 x3, u)
      else
        (2, 0, u)
    else
      (2, 0, u)
  else
    (1, 0, u)
def fX4_split (u : cS) (x1 : Int32) : Nat × Int32 × cS :=
  if fX4_requireLot u x1 = 0 then
    if fX4_requireState (k_open u x1.toNatClampNeg) = 0 then
      if fX1_haveRoom u = 0 then
        (4, 0, u)
      else
        if fX2_haveRoomFor u 2 = 0 then
          (4, 0, u)
        else
          (0, (fX1_addPartOf u x1).1, (fX2_write (fX2_write (fX1_addPartOf u x1).2 (fX1_addPartOf u x1).1 2 x1) x1 3 (fX1_addPartOf u x1).1))
    else
      (3, 0, u)
  else
    (1, 0, u)
def fX4_join (u : cS) (x1 : Int32) (x2 : Int32) : Nat × Int32 × cS :=
  if fX4_requireLot u x1 = 0 then
    if fX4_requireLot u x2 = 0 then
      if x1 = x2 then
        (3, 0, u)
      else
        if k_open u x1.toNatClampNeg = 0 then
          (3, 0, u)
        else
          if k_open u x2.toNatClampNeg = 0 then
            (3, 0, u)
          else
            if fX1_areAlike u x1 x2 = 0 then
              (3, 0, u)
            else
              if fX4_requireRoom (fX2_haveRoomFor u 2) = 0 then
                (0, 0, (fX2_write (fX2_write (fX3_moveAll (fX1_closeInto u x1 x2) x2 x1) x1 4 x2) x2 5 x1))
              else
                (4, 0, u)
    else
      (1, 0, u)
  else
    (1, 0, u)
def fX4_unit (u : cS) (x1 : Int32) : Nat × Int32 × cS :=
  if fX4_requireLot u x1 = 0 then
    if fX4_requireState (k_open u x1.toNatClampNeg) = 0 then
      if fX3_haveRoom u = 0 then
        (4, 0, u)
      else
        if fX2_haveRoomFor u 1 = 0 then
          (4, 0, u)
        else
          (0, (fX3_add u x1).1, (fX2_write (fX3_add u x1).2 x1 10 (fX3_add u x1).1))
    else
      (3, 0, u)
  else
    (1, 0, u)
def fX4_put (u : cS) (x1 : Int32) (x2 : Int32) : Nat × Int32 × cS :=
  if fX4_requireUnit u x1 = 0 then
    if fX4_requireRange x2 0 19 = 0 then
      if fX3_isGone u x1 = 0 then
        if k_ubin u x1.toNatClampNeg = x2 then
          (3, 0, u)
        else
          if fX4_lotThatHinders u x1 x2 = 0 then
            (0, 0, s_ubin u (upd (k_ubin u) x1.toNatClampNeg x2))
          else
            (3, 0, s_hinder (s_refused u (k_ulot u x1.toNatClampNeg)) (fX4_lotThatHinders u x1 x2))
      else
        (3, 0, u)
    else
      (2, 0, u)
  else
    (1, 0, u)
def fX4_mixed (u : cS) (x1 : Int32) : Nat × Int32 × cS :=
  if fX4_requireRange x1 0 1 = 0 then
    if x1 = 0 then
      (0, k_refused u, u)
    else
      (0, k_hinder u, u)
  else
    (2, 0, u)
def fX4_ship (u : cS) (x1 : Int32) (x2 : Int32) (x3 : Int32) : Nat × Int32 × cS :=
  if fX4_requireUnit u x1 = 0 then
    if fX4_requireRange x2 0 7 = 0 then
      if fX4_requireRange x3 0 36524 = 0 then
        if fX3_isGone u x1 = 0 then
          if fX4_mayGo u (k_ulot u x1.toNatClampNeg) x2 x3 = 0 then
            (3, 0, u)
          else
            if fX4_requireRoom (fX2_haveRoomFor u 1) = 0 then
              (0, 0, (fX2_write (fX3_send u x1 x2 x3) (k_ulot u x1.toNatClampNeg) 11 x1))
            else
              (4, 0, u)
        else
          (3, 0, u)
      else
        (2, 0, u)
    else
      (2, 0, u)
  else
    (1, 0, u)
def fX4_recall (u : cS) (x1 : Int32) (x2 : Int32) : Nat × Int32 × cS :=
  if fX4_requireLot u x1 = 0 then
    if fX4_requireNotNegative x2 = 0 then
      (0, fX3_everOfFamily u (fX1_familyOf u x1) x2, u)
    else
      (2, 0, u)
  else
    (1, 0, u)
def fX4_where (u : cS) (x1 : Int32) (x2 : Int32) : Nat × Int32 × cS :=
  if fX4_requireUnit u x1 = 0 then
    if x2 = 0 then
      (0, k_ulot u x1.toNatClampNeg, u)
    else
      if x2 = 1 then
        (0, k_ubin u x1.toNatClampNeg, u)
      else
        if x2 = 2 then
          (0, k_ucust u x1.toNatClampNeg, u)
        else
          if x2 = 3 then
            (0, k_uday u x1.toNatClampNeg, u)
          else
            (2, 0, u)
  else
    (1, 0, u)
def fX4_history (u : cS) (x1 : Int32) (x2 : Int32) (x3 : Int32) : Nat × Int32 × cS :=
  if fX4_requireLot u x1 = 0 then
    if fX2_find u x1 x2 = (-1) then
      (1, 0, u)
    else
      if fX4_requireRange x3 0 1 = 0 then
        if x3 = 0 then
          (0, k_rkind u (fX2_find u x1 x2).toNatClampNeg, u)
        else
          (0, k_rnum u (fX2_find u x1 x2).toNatClampNeg, u)
      else
        (2, 0, u)
  else
    (1, 0, u)
def fX4_told (u : cS) (x1 : Int32) (x2 : Int32) : Nat × Int32 × cS :=
  if fX4_requireLot u x1 = 0 then
    if x2 = 0 then
      (0, k_goods u x1.toNatClampNeg, u)
    else
      if x2 = 1 then
        (0, k_owners u x1.toNatClampNeg, u)
      else
        if x2 = 2 then
          (0, k_last u x1.toNatClampNeg, u)
        else
          if x2 = 3 then
            (0, k_arr u x1.toNatClampNeg, u)
          else
            if x2 = 4 then
              if k_open u x1.toNatClampNeg = 0 then
                (0, 0, u)
              else
                (0, 1, u)
            else
              if x2 = 5 then
                (0, k_reas u x1.toNatClampNeg, u)
              else
                if x2 = 6 then
                  if k_quar u x1.toNatClampNeg = 0 then
                    (0, 0, u)
                  else
                    (0, 1, u)
                else
                  if x2 = 7 then
                    (0, fX3_leftOf u x1, u)
                  else
                    (2, 0, u)
  else
    (1, 0, u)
def fX4_day (u : cS) (x1 : Int32) (x2 : Int32) : Nat × Int32 × cS :=
  if fX4_requireRange x1 0 2 = 0 then
    if x1 = 2 then
      if fX4_requireRange x2 0 99999 = 0 then
        (0, fX0_fromYearDay (x2 / 1000) (x2 - x2 / 1000 * 1000), u)
      else
        (2, 0, u)
    else
      if fX4_requireRange x2 0 999999 = 0 then
        if x1 = 1 then
          (0, fX0_fromMonthDay (x2 - x2 / 100 * 100) ((x2 / 100) - (x2 / 100) / 100 * 100) (x2 / 10000), u)
        else
          (0, fX0_fromMonthDay (x2 / 10000) ((x2 / 100) - (x2 / 100) / 100 * 100) (x2 - x2 / 100 * 100), u)
      else
        (2, 0, u)
  else
    (2, 0, u)
def fX4_date (u : cS) (x1 : Int32) (x2 : Int32) : Nat × Int32 × cS :=
  if fX4_requireRange x1 0 2 = 0 then
    if fX4_requireRange x2 0 36524 = 0 then
      if x1 = 2 then
        (0, ((fX0_yearOf x2) * 1000) + ((x2 - (fX0_startOfYear (fX0_yearOf x2))) + 1), u)
      else
        if x1 = 1 then
          (0, (((((x2 - (fX0_startOfYear (fX0_yearOf x2))) + 1) - (fX0_daysBefore (fX0_yearOf x2) (fX0_monthOf (fX0_yearOf x2) ((x2 - (fX0_startOfYear (fX0_yearOf x2))) + 1)))) * 10000) + ((fX0_monthOf (fX0_yearOf x2) ((x2 - (fX0_startOfYear (fX0_yearOf x2))) + 1)) * 100)) + (fX0_yearOf x2), u)
        else
          (0, (((fX0_yearOf x2) * 10000) + ((fX0_monthOf (fX0_yearOf x2) ((x2 - (fX0_startOfYear (fX0_yearOf x2))) + 1)) * 100)) + (((x2 - (fX0_startOfYear (fX0_yearOf x2))) + 1) - (fX0_daysBefore (fX0_yearOf x2) (fX0_monthOf (fX0_yearOf x2) ((x2 - (fX0_startOfYear (fX0_yearOf x2))) + 1)))), u)
    else
      (2, 0, u)
  else
    (2, 0, u)
theorem rr_lo {x a b : Int32} (h : fX4_requireRange x a b = 0) : a.toInt ≤ x.toInt := by
  unfold fX4_requireRange at h
  by_cases h1 : x < a
  · rw [if_pos h1] at h; cases h
  · exact i_nlt h1 rfl rfl
theorem rr_hi {x a b : Int32} (h : fX4_requireRange x a b = 0) : x.toInt ≤ b.toInt := by
  unfold fX4_requireRange at h
  by_cases h1 : x < a
  · rw [if_pos h1] at h; cases h
  · rw [if_neg h1] at h
    by_cases h2 : x ≤ b
    · exact i_le h2 rfl rfl
    · rw [if_neg h2] at h; cases h
theorem rl_lo {u : cS} {x : Int32} (h : fX4_requireLot u x = 0) : 1 ≤ x.toInt := by
  unfold fX4_requireLot at h
  by_cases h1 : x < 1
  · rw [if_pos h1] at h; cases h
  · exact i_nlt h1 rfl (by decide)
theorem rl_hi {u : cS} {x : Int32} (h : fX4_requireLot u x = 0) : x.toInt ≤ (k_lmade u).toInt := by
  unfold fX4_requireLot at h
  by_cases h1 : x < 1
  · rw [if_pos h1] at h; cases h
  · rw [if_neg h1] at h
    by_cases h2 : x ≤ k_lmade u
    · exact i_le h2 rfl rfl
    · rw [if_neg h2] at h; cases h
theorem ru_lo {u : cS} {x : Int32} (h : fX4_requireUnit u x = 0) : 1 ≤ x.toInt := by
  unfold fX4_requireUnit at h
  by_cases h1 : x < 1
  · rw [if_pos h1] at h; cases h
  · exact i_nlt h1 rfl (by decide)
theorem ru_hi {u : cS} {x : Int32} (h : fX4_requireUnit u x = 0) : x.toInt ≤ (k_umade u).toInt := by
  unfold fX4_requireUnit at h
  by_cases h1 : x < 1
  · rw [if_pos h1] at h; cases h
  · rw [if_neg h1] at h
    by_cases h2 : x ≤ k_umade u
    · exact i_le h2 rfl rfl
    · rw [if_neg h2] at h; cases h
theorem hl_room {u : cS} (h : ¬ fX1_haveRoom u = 0) : (k_lmade u).toInt < 40 := by
  unfold fX1_haveRoom at h
  by_cases h1 : 40 ≤ k_lmade u
  · rw [if_pos h1] at h; exact absurd rfl h
  · exact i_nle h1 (by decide) rfl
theorem hu_room {u : cS} (h : ¬ fX3_haveRoom u = 0) : (k_umade u).toInt < 120 := by
  unfold fX3_haveRoom at h
  by_cases h1 : 120 ≤ k_umade u
  · rw [if_pos h1] at h; exact absurd rfl h
  · exact i_nle h1 (by decide) rfl
theorem hr_room {u : cS} {y : Int32} {k : Int} (hy : y.toInt = k) (hk : 0 ≤ k ∧ k ≤ 2) (h : ¬ fX2_haveRoomFor u y = 0) (hI : 0 ≤ (k_rwrit u).toInt ∧ (k_rwrit u).toInt ≤ 400) : (k_rwrit u).toInt + k ≤ 400 := by
  unfold fX2_haveRoomFor at h
  have e := i_add (x := k_rwrit u) (y := y) (by omega) (by omega)
  by_cases h1 : 400 < k_rwrit u + y
  · rw [if_pos h1] at h; exact absurd rfl h
  · have := i_nlt h1 (by decide : (400 : Int32).toInt = 400) rfl
    omega
theorem hr_room1 {u : cS} (h : ¬ fX2_haveRoomFor u 1 = 0) (hI : 0 ≤ (k_rwrit u).toInt ∧ (k_rwrit u).toInt ≤ 400) : (k_rwrit u).toInt + 1 ≤ 400 := hr_room (by decide) (by decide) h hI
theorem hr_room2 {u : cS} (h : ¬ fX2_haveRoomFor u 2 = 0) (hI : 0 ≤ (k_rwrit u).toInt ∧ (k_rwrit u).toInt ≤ 400) : (k_rwrit u).toInt + 2 ≤ 400 := hr_room (by decide) (by decide) h hI
theorem rq_ne {x : Int32} (h : fX4_requireRoom x = 0) : ¬ x = 0 := by
  intro h1
  unfold fX4_requireRoom at h
  rw [if_pos h1] at h; cases h
theorem hr_roomq1 {u : cS} (h : fX4_requireRoom (fX2_haveRoomFor u 1) = 0) (hI : 0 ≤ (k_rwrit u).toInt ∧ (k_rwrit u).toInt ≤ 400) : (k_rwrit u).toInt + 1 ≤ 400 := hr_room1 (rq_ne h) hI
theorem hr_roomq2 {u : cS} (h : fX4_requireRoom (fX2_haveRoomFor u 2) = 0) (hI : 0 ≤ (k_rwrit u).toInt ∧ (k_rwrit u).toInt ≤ 400) : (k_rwrit u).toInt + 2 ≤ 400 := hr_room2 (rq_ne h) hI
theorem find_lp {u : cS} {x1 x2 : Int32} (hI : (k_rwrit u).toInt ≤ 400) : ∀ (n : Nat) (i a : Int32), 0 ≤ i.toInt → lpX2_find u x1 x2 n i a = (-1) ∨ (0 ≤ (lpX2_find u x1 x2 n i a).toInt ∧ (lpX2_find u x1 x2 n i a).toInt < 400) := by
  intro n
  induction n with
  | zero => intro i a _; exact Or.inr (show 0 ≤ (0 : Int32).toInt ∧ (0 : Int32).toInt < 400 by decide)
  | succ n ih =>
    intro i a hi
    rw [lpX2_find_eq]
    by_cases h1 : k_rwrit u ≤ i
    · rw [if_pos h1]; exact Or.inl rfl
    · rw [if_neg h1]
      have t1 := i_nle h1 rfl rfl
      have e := i_inc (x := i) (by omega)
      by_cases h2 : k_rlot u i.toNatClampNeg = x1
      · rw [if_pos h2]
        by_cases h3 : a = x2
        · rw [if_pos h3]; exact Or.inr ⟨hi, by omega⟩
        · rw [if_neg h3]; exact ih _ _ (by omega)
      · rw [if_neg h2]; exact ih _ _ (by omega)
theorem find_rg {u : cS} {x1 x2 : Int32} (hI : cInv u) (h : ¬ fX2_find u x1 x2 = (-1)) : 0 ≤ (fX2_find u x1 x2).toInt ∧ (fX2_find u x1 x2).toInt < ((400 : Nat) : Int) := by
  rcases find_lp (x1 := x1) (x2 := x2) hI.2.2.1.2 401 0 0 (by decide) with q | q
  · exact absurd q h
  · exact q
theorem month_lp {x0 x1 : Int32} : ∀ (n : Nat) (i : Int32), 1 ≤ i.toInt → i.toInt ≤ 12 → i.toInt - 1 < (n : Int) → 1 ≤ (lpX0_monthOf x0 x1 n i).toInt ∧ (lpX0_monthOf x0 x1 n i).toInt ≤ 13 := by
  intro n
  induction n with
  | zero => intro i h1 h2 h3; omega
  | succ n ih =>
    intro i h1 h2 h3
    rw [lpX0_monthOf_eq]
    by_cases c1 : i ≤ 1
    · rw [if_pos c1]; decide
    · rw [if_neg c1]
      have t1 := i_nle c1 rfl (by decide : (1 : Int32).toInt = 1)
      by_cases c2 : x1 ≤ fX0_daysBefore x0 i
      · rw [if_pos c2]
        have e := i_dec (x := i) (by omega)
        exact ih _ (by omega) (by omega) (by omega)
      · rw [if_neg c2]; omega
theorem month_rg (x0 x1 : Int32) : 1 ≤ (fX0_monthOf x0 x1).toInt ∧ (fX0_monthOf x0 x1).toInt ≤ 13 := month_lp 12 12 (by decide) (by decide) (by decide)
theorem mv_lp {x1 x2 : Int32} : ∀ (n : Nat) (i : Int32) (v : cS), k_rwrit (lpX3_moveAll x1 x2 n i v) = k_rwrit v := by
  intro n
  induction n with
  | zero => intro i v; rfl
  | succ n ih =>
    intro i v
    rw [lpX3_moveAll_eq]
    by_cases c1 : k_umade v < i
    · rw [if_pos c1]
    · rw [if_neg c1]
      by_cases c2 : k_ulot v i.toNatClampNeg = x1
      · rw [if_pos c2, ih]; rfl
      · rw [if_neg c2, ih]
theorem mv_rwrit (u : cS) (x1 x2 : Int32) : k_rwrit (fX3_moveAll u x1 x2) = k_rwrit u := mv_lp _ _ _
theorem wr_rwrit (u : cS) (x1 x2 x3 : Int32) : k_rwrit (fX2_write u x1 x2 x3) = k_rwrit u + 1 := rfl
