def R_law : String := "LotRulesLaw"
def lw_P (b : Addr) (xs : List Int32) (args : Array Value) (s : State) : Prop := args = #[.ref b] ∧ s.IntsAt b xs ∧ xs.length ≤ 2560 ∧ (Jvm.Cond.and given_1 narrow_1).before args s = true
def lw_Q (_ : Array Value) (s : State) (o : Outcome) (t : State) : Prop := o = .returned (some (.int 1)) ∧ Framed s o t [] 1082 17521
def lw_Z (below : List Frame) (a : Array Value) (s : State) : State → Prop := fun t => ∃ o, t.status = .running ∧ Ended t below o ∧ lw_Q a s o t
/-- the law's own end, with 1 on the stack, nothing written that was there before, its room as the claim has it -/
theorem lw_ret {p : Program} {l : Launch} {e : Env} {s : State} {m : MethodId} {below : List Frame} {meth : Method} {c : Code} {b : Nat} (hx : p.tables.exec = Jvm.exec) (hb : c.code = code) (hr : meth.sig.returnType = ret) (hlocks : meth.locks = false) {pc : Nat} {H : Heap} {ls : Array Slot} (hdg : decode code pc = .ok (.ireturn, 1)) : W p l e room_1 s m #[Value.ref b] below meth c H [] 1082 17521 (lw_Z below #[Value.ref b] s) (F0 m pc ls [.int 1]) := by
  intro T hT X
  obtain ⟨fs, hret, hrun, hended, hW, hframe⟩ := X.leave (v := some (.int 1)) (hlocks := hlocks) (fun h => by rw [hr] at h; cases h)
  have hmeth' : T.vm.method? m = some meth := X.method'
  refine ⟨T.setFrames fs, ?_, .returned (some (.int 1)), hrun, hended, rfl, ⟨_, rfl⟩, hW, hframe⟩
  jvm_step X.here [X.here.top, hx, hb, hdg, hmeth', hr, ret, narrow_b1]
  (try refine ⟨rfl, ?_⟩); (try refine ⟨rfl, ?_⟩)
  first | (intro acts; rw [hret _ acts rfl rfl rfl]) | rw [hret _ _ rfl rfl rfl]
  exact Steps.refl _
/-- what holds at the law's entry: the machine, the code, the tables' words (any of lw_tbl by 'hts w (by decide +kernel)'), the script of L ints xs at the cell b, what the Statement gives of the start (any of its parts by flat_of_before) -/
def lw_At (p : Program) (s : State) (m : MethodId) (meth : Method) (c : Code) (b L : Nat) (xs : Nat → Int32) : Prop :=
  p.tables.exec = Jvm.exec ∧ c.code = code ∧ meth.sig.returnType = ret ∧ c.maxLocals = 7 ∧ s.vm.findClass R_law = some m.cls ∧ (∀ w ∈ lw_tbl, w.before #[Value.ref b] s = true) ∧ va_X b L xs s s.heap ∧ b < s.heap.size ∧ meth.locks = false ∧ (Jvm.Cond.and given_1 narrow_1).before #[Value.ref b] s = true
/-! the law's own world: the class', the reference's, the array for answers -/
theorem gd_l {w : Cond} (h : w ∈ WS) : w ∈ lw_tbl ∧ ((w.onTables && w.keeps) = true ∨ ∃ ty, w = .arrayClass ty) := ⟨ws_of h, good_of_word (List.mem_filter.mp h).2⟩
theorem gd_lc {w c2 : Cond} (f : c2 ∈ WS) (h : w ∈ c2 :: WS) : w ∈ lw_tbl ∧ ((w.onTables && w.keeps) = true ∨ ∃ ty, w = .arrayClass ty) := (List.mem_cons.mp h).elim (fun e => by rw [e]; exact gd_l f) gd_l
theorem lgI {c2 : Cond} (f : c2 ∈ WS) : GoodIn lw_tbl (c2 :: WS) := fun w h => gd_lc f h
theorem lgV {c2 : Cond} {own C : String} {k : Nat} {y : MethodName} (a : .methodLink own k y ∈ WS) (b : .instanceMethod y ∈ WS) (d : .selects C y y ∈ WS) (e : .initialized C ∈ WS) (f : c2 ∈ WS) : GoodIn lw_tbl (wsV own k C y (c2 :: WS)) := by
  intro w hw
  rcases List.mem_append.mp hw with h | h
  · simp only [List.mem_cons, List.not_mem_nil, or_false] at h
    rcases h with rfl | rfl | rfl | rfl
    · exact gd_l a
    · exact gd_l b
    · exact gd_l d
    · exact gd_l e
  · exact gd_lc f h
theorem lgT {c2 : Cond} {own : String} {k : Nat} {y : MethodName} (a : .methodLink own k y ∈ WS) (b : .static y ∈ WS) (e : .initialized y.cls ∈ WS) (f : c2 ∈ WS) : GoodIn lw_tbl (va_wsS own k y (c2 :: WS)) := by
  intro w hw
  rcases List.mem_append.mp hw with h | h
  · simp only [List.mem_cons, List.not_mem_nil, or_false] at h
    rcases h with rfl | rfl | rfl
    · exact gd_l a
    · exact gd_l b
    · exact gd_l e
  · exact gd_lc f h
def LW (g : cG) (h h2 : Nat → Nat) (o : Nat) (u : cS) (v : mS) (f : Nat → Int64) : va_W := cw g h u ++ (mw g h2 v ++ [(o, .inl (g.2.2, 1, .inr (.inl f)))])
theorem LW_at47 (g : cG) (h h2 : Nat → Nat) (o : Nat) (u : cS) (v : mS) (f : Nat → Int64) : (LW g h h2 o u v f)[47]? = some (o, .inl (g.2.2, 1, .inr (.inl f))) := rfl
theorem wk_0 {L : List Nat} {k : Nat} (hL : L.length ≤ 100) (h : wk L k = 0) : k = 0 := by
  by_cases hk : k = 0
  · exact hk
  · unfold wk at h
    rw [if_neg hk] at h
    have h1 := List.findIdx_le_length (p := fun x => x == k) (xs := L)
    have h2 : (Int32.ofNat (L.findIdx (fun x => x == k) + 1)).toInt = (L.findIdx (fun x => x == k) + 1 : Nat) := nI_toInt (by omega)
    rw [h] at h2
    have h3 : (0 : Int32).toInt = 0 := by decide
    omega
theorem lg_self (x : Int64) : lg_cmp x x = 0 := by simp [lg_cmp]
/-- where the law stands: the machine, its words, the script; what the class' throws take as given -/
def lw_X (p : Program) (l : Launch) (s : State) (m : MethodId) (meth : Method) (c : Code) (b L : Nat) (xs : Nat → Int32) : Prop := lw_At p s m meth c b L xs ∧ l.stackTraces = false ∧ zz (fun q => s.heap.size ≤ q) s s.heap ∧ nn s
