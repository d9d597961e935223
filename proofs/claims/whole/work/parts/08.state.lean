abbrev cS : Type := ((Nat → Int32) × (Nat → Int32) × (Nat → Int32) × (Nat → Int32) × Int32 × Int32) × ((Nat → Int32) × (Nat → Int32) × (Nat → Int32) × (Nat → Int32) × (Nat → Int32) × (Nat → Int32) × (Nat → Int32) × (Nat → Int64) × Int32) × ((Nat → Int32) × (Nat → Int32) × (Nat → Int32) × (Nat → Int32) × (Nat → Int32) × Int32 × Int32) × ((Nat → Int32) × (Nat → Int32) × (Nat → Int32) × Int32)
def k_rot (u : cS) : Nat → Int32 := u.1.1
def s_rot (u : cS) (x : Nat → Int32) : cS := ((x, u.1.2), u.2)
def k_mix (u : cS) : Nat → Int32 := u.1.2.1
def s_mix (u : cS) (x : Nat → Int32) : cS := ((u.1.1, (x, u.1.2.2)), u.2)
def k_want (u : cS) : Nat → Int32 := u.1.2.2.1
def s_want (u : cS) (x : Nat → Int32) : cS := ((u.1.1, (u.1.2.1, (x, u.1.2.2.2))), u.2)
def k_may (u : cS) : Nat → Int32 := u.1.2.2.2.1
def s_may (u : cS) (x : Nat → Int32) : cS := ((u.1.1, (u.1.2.1, (u.1.2.2.1, (x, u.1.2.2.2.2)))), u.2)
def k_refused (u : cS) : Int32 := u.1.2.2.2.2.1
def s_refused (u : cS) (x : Int32) : cS := ((u.1.1, (u.1.2.1, (u.1.2.2.1, (u.1.2.2.2.1, (x, u.1.2.2.2.2.2))))), u.2)
def k_hinder (u : cS) : Int32 := u.1.2.2.2.2.2
def s_hinder (u : cS) (x : Int32) : cS := ((u.1.1, (u.1.2.1, (u.1.2.2.1, (u.1.2.2.2.1, (u.1.2.2.2.2.1, x))))), u.2)
def k_goods (u : cS) : Nat → Int32 := u.2.1.1
def s_goods (u : cS) (x : Nat → Int32) : cS := (u.1, ((x, u.2.1.2), u.2.2))
def k_owners (u : cS) : Nat → Int32 := u.2.1.2.1
def s_owners (u : cS) (x : Nat → Int32) : cS := (u.1, ((u.2.1.1, (x, u.2.1.2.2)), u.2.2))
def k_last (u : cS) : Nat → Int32 := u.2.1.2.2.1
def s_last (u : cS) (x : Nat → Int32) : cS := (u.1, ((u.2.1.1, (u.2.1.2.1, (x, u.2.1.2.2.2))), u.2.2))
def k_arr (u : cS) : Nat → Int32 := u.2.1.2.2.2.1
def s_arr (u : cS) (x : Nat → Int32) : cS := (u.1, ((u.2.1.1, (u.2.1.2.1, (u.2.1.2.2.1, (x, u.2.1.2.2.2.2)))), u.2.2))
def k_open (u : cS) : Nat → Int32 := u.2.1.2.2.2.2.1
def s_open (u : cS) (x : Nat → Int32) : cS := (u.1, ((u.2.1.1, (u.2.1.2.1, (u.2.1.2.2.1, (u.2.1.2.2.2.1, (x, u.2.1.2.2.2.2.2))))), u.2.2))
def k_reas (u : cS) : Nat → Int32 := u.2.1.2.2.2.2.2.1
def s_reas (u : cS) (x : Nat → Int32) : cS := (u.1, ((u.2.1.1, (u.2.1.2.1, (u.2.1.2.2.1, (u.2.1.2.2.2.1, (u.2.1.2.2.2.2.1, (x, u.2.1.2.2.2.2.2.2)))))), u.2.2))
def k_quar (u : cS) : Nat → Int32 := u.2.1.2.2.2.2.2.2.1
def s_quar (u : cS) (x : Nat → Int32) : cS := (u.1, ((u.2.1.1, (u.2.1.2.1, (u.2.1.2.2.1, (u.2.1.2.2.2.1, (u.2.1.2.2.2.2.1, (u.2.1.2.2.2.2.2.1, (x, u.2.1.2.2.2.2.2.2.2))))))), u.2.2))
def k_kin (u : cS) : Nat → Int64 := u.2.1.2.2.2.2.2.2.2.1
def s_kin (u : cS) (x : Nat → Int64) : cS := (u.1, ((u.2.1.1, (u.2.1.2.1, (u.2.1.2.2.1, (u.2.1.2.2.2.1, (u.2.1.2.2.2.2.1, (u.2.1.2.2.2.2.2.1, (u.2.1.2.2.2.2.2.2.1, (x, u.2.1.2.2.2.2.2.2.2.2)))))))), u.2.2))
def k_lmade (u : cS) : Int32 := u.2.1.2.2.2.2.2.2.2.2
def s_lmade (u : cS) (x : Int32) : cS := (u.1, ((u.2.1.1, (u.2.1.2.1, (u.2.1.2.2.1, (u.2.1.2.2.2.1, (u.2.1.2.2.2.2.1, (u.2.1.2.2.2.2.2.1, (u.2.1.2.2.2.2.2.2.1, (u.2.1.2.2.2.2.2.2.2.1, x)))))))), u.2.2))
def k_ulot (u : cS) : Nat → Int32 := u.2.2.1.1
def s_ulot (u : cS) (x : Nat → Int32) : cS := (u.1, (u.2.1, ((x, u.2.2.1.2), u.2.2.2)))
def k_ubin (u : cS) : Nat → Int32 := u.2.2.1.2.1
def s_ubin (u : cS) (x : Nat → Int32) : cS := (u.1, (u.2.1, ((u.2.2.1.1, (x, u.2.2.1.2.2)), u.2.2.2)))
def k_ucust (u : cS) : Nat → Int32 := u.2.2.1.2.2.1
def s_ucust (u : cS) (x : Nat → Int32) : cS := (u.1, (u.2.1, ((u.2.2.1.1, (u.2.2.1.2.1, (x, u.2.2.1.2.2.2))), u.2.2.2)))
def k_uday (u : cS) : Nat → Int32 := u.2.2.1.2.2.2.1
def s_uday (u : cS) (x : Nat → Int32) : cS := (u.1, (u.2.1, ((u.2.2.1.1, (u.2.2.1.2.1, (u.2.2.1.2.2.1, (x, u.2.2.1.2.2.2.2)))), u.2.2.2)))
def k_ufirst (u : cS) : Nat → Int32 := u.2.2.1.2.2.2.2.1
def s_ufirst (u : cS) (x : Nat → Int32) : cS := (u.1, (u.2.1, ((u.2.2.1.1, (u.2.2.1.2.1, (u.2.2.1.2.2.1, (u.2.2.1.2.2.2.1, (x, u.2.2.1.2.2.2.2.2))))), u.2.2.2)))
def k_umade (u : cS) : Int32 := u.2.2.1.2.2.2.2.2.1
def s_umade (u : cS) (x : Int32) : cS := (u.1, (u.2.1, ((u.2.2.1.1, (u.2.2.1.2.1, (u.2.2.1.2.2.1, (u.2.2.1.2.2.2.1, (u.2.2.1.2.2.2.2.1, (x, u.2.2.1.2.2.2.2.2.2)))))), u.2.2.2)))
def k_ugone (u : cS) : Int32 := u.2.2.1.2.2.2.2.2.2
def s_ugone (u : cS) (x : Int32) : cS := (u.1, (u.2.1, ((u.2.2.1.1, (u.2.2.1.2.1, (u.2.2.1.2.2.1, (u.2.2.1.2.2.2.1, (u.2.2.1.2.2.2.2.1, (u.2.2.1.2.2.2.2.2.1, x)))))), u.2.2.2)))
def k_rlot (u : cS) : Nat → Int32 := u.2.2.2.1
def s_rlot (u : cS) (x : Nat → Int32) : cS := (u.1, (u.2.1, (u.2.2.1, (x, u.2.2.2.2))))
def k_rkind (u : cS) : Nat → Int32 := u.2.2.2.2.1
def s_rkind (u : cS) (x : Nat → Int32) : cS := (u.1, (u.2.1, (u.2.2.1, (u.2.2.2.1, (x, u.2.2.2.2.2)))))
def k_rnum (u : cS) : Nat → Int32 := u.2.2.2.2.2.1
def s_rnum (u : cS) (x : Nat → Int32) : cS := (u.1, (u.2.1, (u.2.2.1, (u.2.2.2.1, (u.2.2.2.2.1, (x, u.2.2.2.2.2.2))))))
def k_rwrit (u : cS) : Int32 := u.2.2.2.2.2.2
def s_rwrit (u : cS) (x : Int32) : cS := (u.1, (u.2.1, (u.2.2.1, (u.2.2.2.1, (u.2.2.2.2.1, (u.2.2.2.2.2.1, x))))))
abbrev cG : Type := ClassId × ClassId × ClassId
abbrev cTys (g : cG) : List (ClassId × FieldType) := [(g.1, .int), (g.2.1, .boolean), (g.2.2, .long)]
def cw (g : cG) (h : Nat → Nat) (u : cS) : va_W := [
  (h 0, .inr (3, [.ref (h 1), .ref (h 2), .ref (h 3), .ref (h 4), .ref (h 5), .ref (h 6), .ref (h 7), .int (k_refused u), .int (k_hinder u)])),
  (h 1, .inr (0, [.ref (h 8), .ref (h 9), .ref (h 10), .ref (h 11), .ref (h 12), .ref (h 13), .ref (h 14), .ref (h 15), .int (k_lmade u)])),
  (h 2, .inr (2, [.ref (h 16), .ref (h 17), .ref (h 18), .ref (h 19), .ref (h 20), .int (k_umade u), .int (k_ugone u)])),
  (h 3, .inr (1, [.ref (h 21), .ref (h 22), .ref (h 23), .int (k_rwrit u)])),
  (h 4, .inl (g.1, 8, .inl (k_rot u))),
  (h 5, .inl (g.1, 8, .inl (k_mix u))),
  (h 6, .inl (g.1, 8, .inl (k_want u))),
  (h 7, .inl (g.1, 8, .inl (k_may u))),
  (h 8, .inl (g.1, 41, .inl (k_goods u))),
  (h 9, .inl (g.1, 41, .inl (k_owners u))),
  (h 10, .inl (g.1, 41, .inl (k_last u))),
  (h 11, .inl (g.1, 41, .inl (k_arr u))),
  (h 12, .inl (g.2.1, 41, .inl (k_open u))),
  (h 13, .inl (g.1, 41, .inl (k_reas u))),
  (h 14, .inl (g.2.1, 41, .inl (k_quar u))),
  (h 15, .inl (g.2.2, 41, .inr (.inl (k_kin u)))),
  (h 16, .inl (g.1, 121, .inl (k_ulot u))),
  (h 17, .inl (g.1, 121, .inl (k_ubin u))),
  (h 18, .inl (g.1, 121, .inl (k_ucust u))),
  (h 19, .inl (g.1, 121, .inl (k_uday u))),
  (h 20, .inl (g.1, 121, .inl (k_ufirst u))),
  (h 21, .inl (g.1, 400, .inl (k_rlot u))),
  (h 22, .inl (g.1, 400, .inl (k_rkind u))),
  (h 23, .inl (g.1, 400, .inl (k_rnum u)))]
theorem cw_at0 (g : cG) (h : Nat → Nat) (u : cS) : (cw g h u)[0]? = some (h 0, .inr (3, [.ref (h 1), .ref (h 2), .ref (h 3), .ref (h 4), .ref (h 5), .ref (h 6), .ref (h 7), .int (k_refused u), .int (k_hinder u)])) := rfl
theorem cw_at1 (g : cG) (h : Nat → Nat) (u : cS) : (cw g h u)[1]? = some (h 1, .inr (0, [.ref (h 8), .ref (h 9), .ref (h 10), .ref (h 11), .ref (h 12), .ref (h 13), .ref (h 14), .ref (h 15), .int (k_lmade u)])) := rfl
theorem cw_at2 (g : cG) (h : Nat → Nat) (u : cS) : (cw g h u)[2]? = some (h 2, .inr (2, [.ref (h 16), .ref (h 17), .ref (h 18), .ref (h 19), .ref (h 20), .int (k_umade u), .int (k_ugone u)])) := rfl
theorem cw_at3 (g : cG) (h : Nat → Nat) (u : cS) : (cw g h u)[3]? = some (h 3, .inr (1, [.ref (h 21), .ref (h 22), .ref (h 23), .int (k_rwrit u)])) := rfl
theorem cw_at4 (g : cG) (h : Nat → Nat) (u : cS) : (cw g h u)[4]? = some (h 4, .inl (g.1, 8, .inl (k_rot u))) := rfl
theorem cw_at5 (g : cG) (h : Nat → Nat) (u : cS) : (cw g h u)[5]? = some (h 5, .inl (g.1, 8, .inl (k_mix u))) := rfl
theorem cw_at6 (g : cG) (h : Nat → Nat) (u : cS) : (cw g h u)[6]? = some (h 6, .inl (g.1, 8, .inl (k_want u))) := rfl
theorem cw_at7 (g : cG) (h : Nat → Nat) (u : cS) : (cw g h u)[7]? = some (h 7, .inl (g.1, 8, .inl (k_may u))) := rfl
theorem cw_at8 (g : cG) (h : Nat → Nat) (u : cS) : (cw g h u)[8]? = some (h 8, .inl (g.1, 41, .inl (k_goods u))) := rfl
theorem cw_at9 (g : cG) (h : Nat → Nat) (u : cS) : (cw g h u)[9]? = some (h 9, .inl (g.1, 41, .inl (k_owners u))) := rfl
theorem cw_at10 (g : cG) (h : Nat → Nat) (u : cS) : (cw g h u)[10]? = some (h 10, .inl (g.1, 41, .inl (k_last u))) := rfl
theorem cw_at11 (g : cG) (h : Nat → Nat) (u : cS) : (cw g h u)[11]? = some (h 11, .inl (g.1, 41, .inl (k_arr u))) := rfl
theorem cw_at12 (g : cG) (h : Nat → Nat) (u : cS) : (cw g h u)[12]? = some (h 12, .inl (g.2.1, 41, .inl (k_open u))) := rfl
theorem cw_at13 (g : cG) (h : Nat → Nat) (u : cS) : (cw g h u)[13]? = some (h 13, .inl (g.1, 41, .inl (k_reas u))) := rfl
theorem cw_at14 (g : cG) (h : Nat → Nat) (u : cS) : (cw g h u)[14]? = some (h 14, .inl (g.2.1, 41, .inl (k_quar u))) := rfl
theorem cw_at15 (g : cG) (h : Nat → Nat) (u : cS) : (cw g h u)[15]? = some (h 15, .inl (g.2.2, 41, .inr (.inl (k_kin u)))) := rfl
theorem cw_at16 (g : cG) (h : Nat → Nat) (u : cS) : (cw g h u)[16]? = some (h 16, .inl (g.1, 121, .inl (k_ulot u))) := rfl
theorem cw_at17 (g : cG) (h : Nat → Nat) (u : cS) : (cw g h u)[17]? = some (h 17, .inl (g.1, 121, .inl (k_ubin u))) := rfl
theorem cw_at18 (g : cG) (h : Nat → Nat) (u : cS) : (cw g h u)[18]? = some (h 18, .inl (g.1, 121, .inl (k_ucust u))) := rfl
theorem cw_at19 (g : cG) (h : Nat → Nat) (u : cS) : (cw g h u)[19]? = some (h 19, .inl (g.1, 121, .inl (k_uday u))) := rfl
theorem cw_at20 (g : cG) (h : Nat → Nat) (u : cS) : (cw g h u)[20]? = some (h 20, .inl (g.1, 121, .inl (k_ufirst u))) := rfl
theorem cw_at21 (g : cG) (h : Nat → Nat) (u : cS) : (cw g h u)[21]? = some (h 21, .inl (g.1, 400, .inl (k_rlot u))) := rfl
theorem cw_at22 (g : cG) (h : Nat → Nat) (u : cS) : (cw g h u)[22]? = some (h 22, .inl (g.1, 400, .inl (k_rkind u))) := rfl
theorem cw_at23 (g : cG) (h : Nat → Nat) (u : cS) : (cw g h u)[23]? = some (h 23, .inl (g.1, 400, .inl (k_rnum u))) := rfl
def zz_txt : List (String × Nat × String) := [(RX4, 148, "it may not lie with what is there"), (RX4, 172, "what is not 0 .. 3"), (RX4, 180, "no such row"), (RX4, 204, "what is not 0 .. 7"), (RX4, 242, "no such lot"), (RX4, 244, "no such unit"), (RX4, 246, "a number outside its range"), (RX4, 248, "i is below 0"), (RX4, 250, "not as it is now"), (RX4, 254, "no room")]
/-- which exception a number is -/
def ex_is (k : Nat) (E : String) : Prop := match k with
  | 1 => E = "java/util/NoSuchElementException"
  | 2 => E = "java/lang/IllegalArgumentException"
  | 3 => E = "java/lang/IllegalStateException"
  | 4 => E = "java/lang/UnsupportedOperationException"
  | _ => False
/-! what the throws and the calendar's table take as given: words, texts, statics -/
def zz_bad : List Cond := [.castable "java/util/NoSuchElementException" "java/util/NoSuchElementException", .castable "java/lang/IllegalArgumentException" "java/lang/IllegalArgumentException", .castable "java/lang/IllegalStateException" "java/lang/IllegalStateException", .castable "java/lang/UnsupportedOperationException" "java/lang/UnsupportedOperationException", .declares ⟨"java/lang/RuntimeException", "<init>", "(Ljava/lang/String;)V"⟩, .declares ⟨"java/lang/Exception", "<init>", "(Ljava/lang/String;)V"⟩, .declares ⟨"java/lang/Throwable", "<init>", "(Ljava/lang/String;)V"⟩]
def c_tab (j : Nat) : Int32 := ([0, 31, 59, 90, 120, 151, 181, 212, 243, 273, 304, 334, 365] : List Int32).getD j 0
def zt (A : Nat → Prop) (U : State) (H : Heap) : Prop := ∃ t : Nat, va_Z "LotRules$Calendar" "DAYS_BEFORE_MONTH" "[I" (.ref t) A U H ∧ va_T .int t 13 (fun j => .int (c_tab j)) A U H
abbrev zr (U : State) (H : Heap) : Prop := zt (fun _ => False) U H
def zz (A : Nat → Prop) (U : State) (H : Heap) : Prop := (∀ w ∈ zz_bad, va_Nw w U) ∧ (∀ q ∈ zz_txt, ∃ sa : Nat, vk_R q.1 q.2.1 q.2.2 sa U) ∧ vx_Zq Bundle.tN "UNASSIGNED_STACK" Bundle.steD A U H ∧ vx_Zq Bundle.tN "SUPPRESSED_SENTINEL" Bundle.listD A U H ∧ zt A U H
theorem zz_U {A : Nat → Prop} {U : State} {H : Heap} (h : zz A U H) : vx_Zq Bundle.tN "UNASSIGNED_STACK" Bundle.steD A U H := h.2.2.1
theorem zz_N {A : Nat → Prop} {U : State} {H : Heap} (h : zz A U H) : vx_Zq Bundle.tN "SUPPRESSED_SENTINEL" Bundle.listD A U H := h.2.2.2.1
theorem zz_ws {A : Nat → Prop} {U : State} {H : Heap} {args : Array Value} {B : List Cond} (h : zz A U H) (hB : ∀ w ∈ B, w ∈ zz_bad ∧ w.onTables = true) : ∀ w ∈ B, w.before args U = true := fun w hw => va_Nw.use (hB w hw).2 (h.1 w (hB w hw).1)
theorem zz_st {A : Nat → Prop} {U : State} {H : Heap} (h : zz A U H) {own : String} {k : Nat} {tx : String} (hq : (own, k, tx) ∈ zz_txt) : ∃ sa : Nat, vk_R own k tx sa U := h.2.1 _ hq
theorem zz_warm {s U : State} (hW : s.WarmedH U.vm) (h : ∀ w ∈ zz_bad, va_Nw w s) : ∀ w ∈ zz_bad, va_Nw w U := by
  intro w hw
  have h1 := h w hw
  simp only [zz_bad, List.mem_cons, List.not_mem_nil, or_false] at hw
  rcases hw with rfl | rfl | rfl | rfl | rfl | rfl | rfl
  · exact va_Nw.warmC hW h1
  · exact va_Nw.warmC hW h1
  · exact va_Nw.warmC hW h1
  · exact va_Nw.warmC hW h1
  · exact va_Nw.warmD hW h1
  · exact va_Nw.warmD hW h1
  · exact va_Nw.warmD hW h1
theorem zt_moved {A : Nat → Prop} {u U : State} {H : Heap} (hvm : u.vm.Alike U.vm) (h : zt A u H) : zt A U H := by
  obtain ⟨t, h1, h2⟩ := h
  exact ⟨t, h1.moved hvm, h2.moved hvm⟩
theorem zt_kept {A : Nat → Prop} {U : State} {H H1 : Heap} (h : zt A U H) (hq : ∀ a : Nat, a < H.size → ¬ A a → H1[a]? = H[a]?) : zt A U H1 := by
  obtain ⟨t, h1, h2⟩ := h
  exact ⟨t, h1.kept hq, h2.kept hq⟩
theorem zt_narrow {A B : Nat → Prop} {U : State} {H : Heap} (h : zt A U H) (hAB : ∀ q, B q → A q) : zt B U H := by
  obtain ⟨t, h1, h2⟩ := h
  exact ⟨t, h1.narrow hAB, h2.narrow hAB⟩
theorem zz_to {A B : Nat → Prop} {s U : State} {H : Heap} {locs : List Loc} (h : zz A s s.heap) (hS : va_S A s.heap H locs) (hAB : ∀ q, B q → A q) (hW : s.WarmedH U.vm) : zz B U H :=
  ⟨zz_warm hW h.1, fun q hq => (h.2.1 q hq).imp (fun _ h => vk_R.warm hW h), ((h.2.2.1.kept (fun a h1 h2 => hS.2.1 a h1 h2)).narrow hAB).moved hW.alike, ((h.2.2.2.1.kept (fun a h1 h2 => hS.2.1 a h1 h2)).narrow hAB).moved hW.alike, zt_moved hW.alike (zt_narrow (zt_kept h.2.2.2.2 (fun a h1 h2 => hS.2.1 a h1 h2)) hAB)⟩
theorem zz_same {A : Nat → Prop} {u U : State} {H H1 : Heap} (hv : U.vm = u.vm) (hh : H1 = H) (h : zz A u H) : zz A U H1 := by
  subst hh
  have hal : u.vm.Alike U.vm := hv ▸ Vm.Alike.refl u.vm
  refine ⟨fun w hw => ?_, fun q hq => (h.2.1 q hq).imp (fun _ h => vk_R.same hv h), h.2.2.1.moved hal, h.2.2.2.1.moved hal, zt_moved hal h.2.2.2.2⟩
  have h1 := h.1 w hw
  simp only [zz_bad, List.mem_cons, List.not_mem_nil, or_false] at hw
  rcases hw with rfl | rfl | rfl | rfl | rfl | rfl | rfl <;> exact va_Nw.same rfl hv.symm h1
theorem zr_to {A : Nat → Prop} {s U : State} {H : Heap} {locs : List Loc} (h : zz A s s.heap) (hS : va_S A s.heap H locs) (hW : s.WarmedH U.vm) : zr U H := (zz_to h hS (B := fun _ => False) (fun _ q => q.elim) hW).2.2.2.2
theorem zr_to2 {A : Nat → Prop} {s U : State} {H : Heap} {locs : List Loc} (h : zt A s s.heap) (hS : va_S A s.heap H locs) (hW : s.WarmedH U.vm) : zr U H := zt_moved hW.alike (zt_narrow (zt_kept h (fun a h1 h2 => hS.2.1 a h1 h2)) (fun _ q => q.elim))
theorem zr_same {u U : State} {H H1 : Heap} (hv : U.vm = u.vm) (hh : H1 = H) (h : zr u H) : zr U H1 := by
  subst hh
  exact zt_moved (hv ▸ Vm.Alike.refl u.vm) h

/-- what every state of the class keeps: the counts and the numbers that are used as places -/
def cInv (u : cS) : Prop := (0 ≤ (k_lmade u).toInt ∧ (k_lmade u).toInt ≤ 40) ∧ (0 ≤ (k_umade u).toInt ∧ (k_umade u).toInt ≤ 120) ∧ (0 ≤ (k_rwrit u).toInt ∧ (k_rwrit u).toInt ≤ 400) ∧ (∀ j : Nat, 0 ≤ (k_owners u j).toInt ∧ (k_owners u j).toInt < 8) ∧ (∀ j : Nat, 0 ≤ (k_ulot u j).toInt ∧ (k_ulot u j).toInt ≤ 40) ∧ (∀ j : Nat, 0 ≤ (k_ufirst u j).toInt ∧ (k_ufirst u j).toInt ≤ 40)
