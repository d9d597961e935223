section
-- ===== PART A: goes FIRST, ahead of the names: the tables' words, and 'selects' of the private methods out of them =====
/-- a private method of a class that the tables say can be made, by its rows of tables_1 -/
def lw_okq (q : MethodName × Nat) : Prop := (q.1.cls ≠ "java/lang/invoke/MethodHandle" ∧ q.1.cls ≠ "java/lang/invoke/VarHandle") ∧ Cond.instantiable q.1.cls q.2 ∈ tables_1 ∧ Cond.privateMethod q.1 ∈ tables_1 ∧ Cond.instanceMethod q.1 ∈ tables_1
theorem lw_p0 : lw_okq (⟨"java/lang/Throwable", "fillInStackTrace", "(I)Ljava/lang/Throwable;"⟩, 6) := ⟨⟨by decide +kernel, by decide +kernel⟩, List.mem_of_getElem? (i := 209) (by decide +kernel), List.mem_of_getElem? (i := 207) (by decide +kernel), List.mem_of_getElem? (i := 208) (by decide +kernel)⟩
theorem lw_p1 : lw_okq (⟨"LotRules", "requireLot", "(I)V"⟩, 9) := ⟨⟨by decide +kernel, by decide +kernel⟩, List.mem_of_getElem? (i := 17) (by decide +kernel), List.mem_of_getElem? (i := 305) (by decide +kernel), List.mem_of_getElem? (i := 306) (by decide +kernel)⟩
theorem lw_p2 : lw_okq (⟨"LotRules$Lots", "comesBefore", "(III)Z"⟩, 9) := ⟨⟨by decide +kernel, by decide +kernel⟩, List.mem_of_getElem? (i := 25) (by decide +kernel), List.mem_of_getElem? (i := 388) (by decide +kernel), List.mem_of_getElem? (i := 389) (by decide +kernel)⟩
theorem lw_p3 : lw_okq (⟨"LotRules$Lots", "arrivedBefore", "(II)Z"⟩, 9) := ⟨⟨by decide +kernel, by decide +kernel⟩, List.mem_of_getElem? (i := 25) (by decide +kernel), List.mem_of_getElem? (i := 392) (by decide +kernel), List.mem_of_getElem? (i := 393) (by decide +kernel)⟩
theorem lw_p4 : lw_okq (⟨"LotRules", "mayGo", "(III)Z"⟩, 9) := ⟨⟨by decide +kernel, by decide +kernel⟩, List.mem_of_getElem? (i := 17) (by decide +kernel), List.mem_of_getElem? (i := 403) (by decide +kernel), List.mem_of_getElem? (i := 404) (by decide +kernel)⟩
theorem lw_p5 : lw_okq (⟨"LotRules", "requireUnit", "(I)V"⟩, 9) := ⟨⟨by decide +kernel, by decide +kernel⟩, List.mem_of_getElem? (i := 17) (by decide +kernel), List.mem_of_getElem? (i := 461) (by decide +kernel), List.mem_of_getElem? (i := 462) (by decide +kernel)⟩
theorem lw_p6 : lw_okq (⟨"LotRules", "lotThatHinders", "(II)I"⟩, 9) := ⟨⟨by decide +kernel, by decide +kernel⟩, List.mem_of_getElem? (i := 17) (by decide +kernel), List.mem_of_getElem? (i := 470) (by decide +kernel), List.mem_of_getElem? (i := 471) (by decide +kernel)⟩
theorem lw_p7 : lw_okq (⟨"LotRulesModel", "make", "(IIIII)I"⟩, 26) := ⟨⟨by decide +kernel, by decide +kernel⟩, List.mem_of_getElem? (i := 587) (by decide +kernel), List.mem_of_getElem? (i := 684) (by decide +kernel), List.mem_of_getElem? (i := 685) (by decide +kernel)⟩
theorem lw_p8 : lw_okq (⟨"LotRulesModel", "row", "(III)V"⟩, 26) := ⟨⟨by decide +kernel, by decide +kernel⟩, List.mem_of_getElem? (i := 587) (by decide +kernel), List.mem_of_getElem? (i := 688) (by decide +kernel), List.mem_of_getElem? (i := 689) (by decide +kernel)⟩
theorem lw_p9 : lw_okq (⟨"LotRulesModel", "isLot", "(I)Z"⟩, 26) := ⟨⟨by decide +kernel, by decide +kernel⟩, List.mem_of_getElem? (i := 587) (by decide +kernel), List.mem_of_getElem? (i := 708) (by decide +kernel), List.mem_of_getElem? (i := 709) (by decide +kernel)⟩
theorem lw_p10 : lw_okq (⟨"LotRulesModel", "isOpen", "(I)Z"⟩, 26) := ⟨⟨by decide +kernel, by decide +kernel⟩, List.mem_of_getElem? (i := 587) (by decide +kernel), List.mem_of_getElem? (i := 712) (by decide +kernel), List.mem_of_getElem? (i := 713) (by decide +kernel)⟩
theorem lw_p11 : lw_okq (⟨"LotRulesModel", "mayBeTaken", "(I)Z"⟩, 26) := ⟨⟨by decide +kernel, by decide +kernel⟩, List.mem_of_getElem? (i := 587) (by decide +kernel), List.mem_of_getElem? (i := 731) (by decide +kernel), List.mem_of_getElem? (i := 732) (by decide +kernel)⟩
theorem lw_p12 : lw_okq (⟨"LotRulesModel", "isBefore", "(II)Z"⟩, 26) := ⟨⟨by decide +kernel, by decide +kernel⟩, List.mem_of_getElem? (i := 587) (by decide +kernel), List.mem_of_getElem? (i := 735) (by decide +kernel), List.mem_of_getElem? (i := 736) (by decide +kernel)⟩
theorem lw_p13 : lw_okq (⟨"LotRulesModel", "isAllowed", "(III)Z"⟩, 26) := ⟨⟨by decide +kernel, by decide +kernel⟩, List.mem_of_getElem? (i := 587) (by decide +kernel), List.mem_of_getElem? (i := 743) (by decide +kernel), List.mem_of_getElem? (i := 744) (by decide +kernel)⟩
theorem lw_p14 : lw_okq (⟨"LotRulesModel", "isUnit", "(I)Z"⟩, 26) := ⟨⟨by decide +kernel, by decide +kernel⟩, List.mem_of_getElem? (i := 587) (by decide +kernel), List.mem_of_getElem? (i := 763) (by decide +kernel), List.mem_of_getElem? (i := 764) (by decide +kernel)⟩
theorem lw_p15 : lw_okq (⟨"LotRulesModel", "isGone", "(I)Z"⟩, 26) := ⟨⟨by decide +kernel, by decide +kernel⟩, List.mem_of_getElem? (i := 587) (by decide +kernel), List.mem_of_getElem? (i := 767) (by decide +kernel), List.mem_of_getElem? (i := 768) (by decide +kernel)⟩
def lw_privs_1 : List (MethodName × Nat) := [(⟨"java/lang/Throwable", "fillInStackTrace", "(I)Ljava/lang/Throwable;"⟩, 6), (⟨"LotRules", "requireLot", "(I)V"⟩, 9), (⟨"LotRules$Lots", "comesBefore", "(III)Z"⟩, 9), (⟨"LotRules$Lots", "arrivedBefore", "(II)Z"⟩, 9), (⟨"LotRules", "mayGo", "(III)Z"⟩, 9), (⟨"LotRules", "requireUnit", "(I)V"⟩, 9), (⟨"LotRules", "lotThatHinders", "(II)I"⟩, 9), (⟨"LotRulesModel", "make", "(IIIII)I"⟩, 26), (⟨"LotRulesModel", "row", "(III)V"⟩, 26), (⟨"LotRulesModel", "isLot", "(I)Z"⟩, 26), (⟨"LotRulesModel", "isOpen", "(I)Z"⟩, 26), (⟨"LotRulesModel", "mayBeTaken", "(I)Z"⟩, 26), (⟨"LotRulesModel", "isBefore", "(II)Z"⟩, 26), (⟨"LotRulesModel", "isAllowed", "(III)Z"⟩, 26), (⟨"LotRulesModel", "isUnit", "(I)Z"⟩, 26), (⟨"LotRulesModel", "isGone", "(I)Z"⟩, 26)]
theorem lw_r1 : ∀ q ∈ lw_privs_1, lw_okq q := List.forall_mem_cons.mpr ⟨lw_p0, List.forall_mem_cons.mpr ⟨lw_p1, List.forall_mem_cons.mpr ⟨lw_p2, List.forall_mem_cons.mpr ⟨lw_p3, List.forall_mem_cons.mpr ⟨lw_p4, List.forall_mem_cons.mpr ⟨lw_p5, List.forall_mem_cons.mpr ⟨lw_p6, List.forall_mem_cons.mpr ⟨lw_p7, List.forall_mem_cons.mpr ⟨lw_p8, List.forall_mem_cons.mpr ⟨lw_p9, List.forall_mem_cons.mpr ⟨lw_p10, List.forall_mem_cons.mpr ⟨lw_p11, List.forall_mem_cons.mpr ⟨lw_p12, List.forall_mem_cons.mpr ⟨lw_p13, List.forall_mem_cons.mpr ⟨lw_p14, List.forall_mem_cons.mpr ⟨lw_p15, fun _ h => absurd h List.not_mem_nil⟩⟩⟩⟩⟩⟩⟩⟩⟩⟩⟩⟩⟩⟩⟩⟩
theorem lw_p16 : lw_okq (⟨"LotRulesModel", "mayMix", "(II)Z"⟩, 26) := ⟨⟨by decide +kernel, by decide +kernel⟩, List.mem_of_getElem? (i := 587) (by decide +kernel), List.mem_of_getElem? (i := 771) (by decide +kernel), List.mem_of_getElem? (i := 772) (by decide +kernel)⟩
theorem lw_p17 : lw_okq (⟨"LotRulesModel", "findFamily", "(I)V"⟩, 26) := ⟨⟨by decide +kernel, by decide +kernel⟩, List.mem_of_getElem? (i := 587) (by decide +kernel), List.mem_of_getElem? (i := 787) (by decide +kernel), List.mem_of_getElem? (i := 788) (by decide +kernel)⟩
def lw_privs_2 : List (MethodName × Nat) := [(⟨"LotRulesModel", "mayMix", "(II)Z"⟩, 26), (⟨"LotRulesModel", "findFamily", "(I)V"⟩, 26)]
theorem lw_r2 : ∀ q ∈ lw_privs_2, lw_okq q := List.forall_mem_cons.mpr ⟨lw_p16, List.forall_mem_cons.mpr ⟨lw_p17, fun _ h => absurd h List.not_mem_nil⟩⟩
def lw_privs : List (MethodName × Nat) := lw_privs_1 ++ (lw_privs_2)
def lw_tbl : List Cond := k2_sels lw_privs ++ tables_1
theorem lw_privs_ok : ∀ q ∈ lw_privs, lw_okq q := by
  show ∀ q ∈ lw_privs_1 ++ (lw_privs_2), lw_okq q
  exact List.forall_mem_append.mpr ⟨lw_r1, lw_r2⟩
end
section
/-! ===== BEGIN words of one list among another's, by their places ===== -/
theorem goodIn_r {big : List Cond} (ws : List Cond) (ps : List Nat) (hp : ws = ps.filterMap (fun i => big[i]?)) (h : ws.all goodWord = true) : GoodIn big ws := by
  intro w hw
  have h1 := List.all_eq_true.mp h w hw
  rw [hp] at hw
  obtain ⟨i, -, hi⟩ := List.mem_filterMap.mp hw
  have hm : w ∈ big := by first | exact List.mem_of_getElem? hi | exact List.getElem?_mem hi
  exact ⟨hm, good_of_word h1⟩
theorem goodIn_app {big a b : List Cond} (ha : GoodIn big a) (hb : GoodIn big b) : GoodIn big (a ++ b) := fun w h => (List.mem_append.mp h).elim (ha w) (hb w)
theorem goodIn_ca {big a b : List Cond} {c : Cond} (ha : GoodIn big (c :: a)) (hb : GoodIn big b) : GoodIn big (c :: (a ++ b)) := fun w h => (List.mem_cons.mp h).elim (fun e => ha w (List.mem_cons.mpr (Or.inl e))) (fun h => (List.mem_append.mp h).elim (fun h => ha w (List.mem_cons.mpr (Or.inr h))) (hb w))
theorem goodIn_sub {big ws : List Cond} (hm : ∀ w ∈ ws, w ∈ big) (h : ws.all goodWord = true) : GoodIn big ws := fun w hw => ⟨hm w hw, good_of_word (List.all_eq_true.mp h w hw)⟩
/-! ===== END ===== -/

/-! ===== BEGIN exceptions that leave a method, and their catching by the caller (launches without stack traces) ===== -/
section VXA
/-! The laws vx_back, vx_callV, vx_callS, vx_callSW, vx_throw0, vx_throwS follow proofs of the library, with one case more: JvmDerived/Free/Laws.lean (Back.of_free), Shelf42/LK1.lean (callV, callS), Shelf/KitTraced.lean (throwNew0V, throwNewS). -/
/-- where a method has thrown q: the class by its name, the cell, what was written, the world -/
def vx_T (XC : String → State → State → Prop) (st : State) (q : Addr) (t : State) (mc ms : Nat) (free : Addr → Prop) : Prop :=
  ∃ (E : String) (ce : Cell) (L : List Loc), XC E st t ∧ t.heap[q]? = some ce ∧ ce.vm = .none ∧ st.vm.findClass E = some ce.cls ∧ st.WarmedH t.vm ∧ st.sameButNew ({ t with vm := st.vm } : State) L mc ms ∧ ∀ z ∈ L, free z.base
def vx_Q (Qc : Array Value → State → Outcome → State → Prop) (XC : String → State → State → Prop) (mc ms : Nat) (free : Addr → Prop) : Array Value → State → Outcome → State → Prop := fun a st o t =>
  (Qc a st o t ∧ ∃ L, FrameEnd st o t L mc ms ∧ ∀ q ∈ L, free q.base) ∨ ∃ q, o = .threw q ∧ vx_T XC st q t mc ms free
/-- a callee that returns or throws -/
def vx_Met (l : Launch) (y : MethodName) (ws : List Cond) (rm : Room) (Pc : Array Value → State → Prop) (Qc : Array Value → State → Outcome → State → Prop) (XC : String → State → State → Prop) (mc ms : Nat) (free : Addr → Prop) : Prop :=
  MetFree l y (headSpec ws rm) Pc (fun _ _ _ _ _ => True) (vx_Q Qc XC mc ms free)
def vx_Post (XC : String → State → State → Prop) (mc ms : Nat) (free : Addr → Prop) : Pt → Array Value → Addr → Pt → Prop := fun A a q B =>
  ∃ (g : JFrame) (mk : MethodId) (t : State) (L : List Loc) (E : String) (ce : Cell), B.U.heap = t.heap ∧ B.U.vm = t.vm ∧ XC E (A.U.calling g mk a) t ∧ t.heap[q]? = some ce ∧ ce.vm = .none ∧ A.U.vm.findClass E = some ce.cls ∧ B.locs = A.locs ++ L ∧ (∀ z ∈ L, free z.base) ∧ B.cells = A.cells + mc ∧ B.slots = A.slots + ms
def vx_Back (l : Launch) (R : Room) (p : Program) (e : Env) (below : List Frame) (s : State) (sargs : Array Value) (y : MethodName) (len W9 : Nat)
    (Pre : Pt → Array Value → Prop) (Post : Pt → Array Value → Option Value → Pt → Prop) (PostX : Pt → Array Value → Addr → Pt → Prop) : Prop :=
  ∀ (m : MethodId) (meth : Method) (c : Code) (A : Pt) (g : JFrame) (ig : Instr) (mk : MethodId) (a : Array Value),
    Stand p l e R s m sargs below meth c A.U A.locs A.cells A.slots → g.method = m → g.locals.size = c.maxLocals → decode c.code g.pc = .ok (ig, len) →
    2 * g.monitorRoom + (g.stack.map fun v => v.category).sum ≤ W9 → A.U.methodNamed? y = some mk → Pre A a →
    (∃ (v : Option Value) (B : Pt), Stand p l e R s m sargs below meth c B.U B.locs B.cells B.slots ∧ Post A a v B ∧
      Steps p.tables e below (doInvoke e (A.U.setTop g) [] mk a).1 (B.U.setTop { g with pc := g.pc + len, stack := v.toList ++ g.stack })) ∨
    (∃ (q : Addr) (B : Pt), Stand p l e R s m sargs below meth c B.U B.locs B.cells B.slots ∧ PostX A a q B ∧
      Steps p.tables e below (doInvoke e (A.U.setTop g) [] mk a).1 ((B.U.setTop g).pushFrame (.throwing q)))
section Payer
variable {l : Launch} {R : Room} {p : Program} {e : Env} {below : List Frame} {s : State} {sargs : Array Value} {y : MethodName} {len W9 : Nat}
theorem vx_back {ws : List Cond} {rm : Room} {Pc : Array Value → State → Prop} {Qc : Array Value → State → Outcome → State → Prop} {XC : String → State → State → Prop} {mc ms : Nat} {free : Addr → Prop} {bytes : ByteArray} {maxL : Nat} {ret : Option FieldType}
    (hM : vx_Met l y ws rm Pc Qc XC mc ms free) (hblind : FrameBlind Pc) (hrc : rm.cells = mc) (hrs : rm.slots = ms)
    (hframes : rm.frames + 1 ≤ R.frames) (hlocals : W9 + (maxL + 11) + rm.locals ≤ R.locals)
    (hws : ∀ w ∈ ws, ∀ a' U, s.WarmedH U.vm → w.before a' U = true) (hcode : Cond.code y bytes maxL ret ∈ ws) (hinit : ∀ a' U, s.WarmedH U.vm → (Cond.initialized y.cls).before a' U = true) :
    vx_Back l R p e below s sargs y len W9 (PreOf R mc ms Pc) (PostOf Qc mc ms free) (vx_Post XC mc ms free) := by
  intro m meth c A g ig mk a X hg hsize hdg hW hn hp
  have h1 : (headSpec ws rm).pre.before a A.U = true := atoms_intro fun w hw => hws w hw _ _ X.warmed
  have h2 : (Cond.code y bytes maxL ret).before a A.U = true := hws _ hcode _ _ X.warmed
  have h3 : (Cond.initialized y.cls).before a A.U = true := hinit _ _ X.warmed
  have h4 : A.cells + (headSpec ws rm).room.cells ≤ R.cells := by rw [show (headSpec ws rm).room.cells = mc from hrc]; exact hp.1
  have h5 : A.slots + (headSpec ws rm).room.slots ≤ R.slots := by rw [show (headSpec ws rm).room.slots = ms from hrs]; exact hp.2.1
  have hPc : Pc a (A.U.calling g mk a) := hblind _ _ _ _ hp.2.2
  obtain ⟨U, Ls, c0, s0⟩ := A
  dsimp only [Pt.U, Pt.locs, Pt.cells, Pt.slots] at h1 h2 h3 h4 h5 X hn hPc ⊢
  obtain ⟨methY, cY, hmY, hcY, -, hlY, -, -, -, -⟩ := Cond.code_spec hn h2
  obtain ⟨kY, hkY, -⟩ := className_of_methodNamed hn
  have hinitY : kY.init = .initialized := Cond.initialized_spec (findClass_of_methodNamed hn) hkY h3
  have h : At U g.method c below := by rw [hg]; exact X.here
  have hlocals9 : W9 + (maxL + 11) + (headSpec ws rm).room.locals ≤ R.locals := hlocals
  have happ : (headSpec ws rm).appliesLoose y e.platform (U.calling g mk a) = true :=
    Spec.appliesLoose_calling (g := g) h hdg hn hkY hinitY
      (X.room_calling (g := g) (R' := (headSpec ws rm).room) hsize hmY hcY hframes (by rw [hlY]; omega) h4 h5) h1
  obtain ⟨mid, hmid⟩ := h.above
  have hfr : (U.setTop g).frames = (.java g :: mid) ++ below := by rw [State.frames_setTop' g h.top, hmid]; rfl
  obtain ⟨o, s₂, hsteps, -, hend, hq⟩ := Steps.callFree hM p X.admits X.cas X.clock (acts := []) hfr happ hPc trivial
  have hq' : vx_Q Qc XC mc ms free a (U.calling g mk a) o s₂ := hq
  rw [State.frames_setTop' g h.top] at hend
  obtain ⟨g₀, hg0⟩ := Option.isSome_iff_exists.mp h.top
  obtain ⟨r, hr⟩ := State.topJava?_eq_some.mp hg0
  have hr' : (({ U with heap := s₂.heap, slotsUsed := s₂.slotsUsed } : State).setVm s₂.vm).frames = .java g₀ :: r := hr
  rcases hq' with ⟨hqc, L, hfe, hL⟩ | ⟨q, rfl, E, ce, L, hx, hce, hcv, hcl, hW₂, hsm, hL⟩
  · obtain ⟨⟨v, rfl⟩, hW₂, e2, q2, q3, q4, q5, q6⟩ := id hfe
    have e3 : s₂ = ({ (U.calling g mk a).setFrames s₂.frames with heap := s₂.heap, slotsUsed := s₂.slotsUsed } : State).setVm s₂.vm := by
      have : s₂ = ({ s₂ with vm := (U.calling g mk a).vm } : State).setVm s₂.vm := rfl
      rw [e2] at this
      exact this
    obtain ⟨c₂, i₂, len₂, hc₂, hd₂, hf₂⟩ := hend
    have hW' : U.WarmedH s₂.vm := hW₂
    have hcc : c₂ = c := by
      have h1 : s₂.code? g.method = U.code? g.method := by
        rw [State.code?_eq, State.code?_eq, hW'.alike.method?]
      exact Option.some.inj (hc₂.symm.trans (h1.trans h.code))
    subst hcc
    have hlen : len₂ = len := by rw [hdg] at hd₂; cases hd₂; rfl
    subst hlen
    have hs₂ : s₂ = (({ U with heap := s₂.heap, slotsUsed := s₂.slotsUsed } : State).setVm s₂.vm).setTop { g with pc := g.pc + len₂, stack := v.toList ++ g.stack } := by
      refine e3.trans ?_
      rw [hf₂, State.calling_eq h.top, State.setFrames_setFrames, State.setTop_of_frames _ hr', hr]
      rfl
    have hsame : U.sameButNew ({ U with heap := s₂.heap, slotsUsed := s₂.slotsUsed } : State) L mc ms := by
      refine ⟨?_, q2, q3, q4, q5, q6⟩
      obtain ⟨t, ht, -⟩ := State.frames_cons hr
      show ({ U with heap := s₂.heap, slotsUsed := s₂.slotsUsed } : State) = { U.setFrames U.frames with heap := s₂.heap, slotsUsed := s₂.slotsUsed }
      rw [State.setFrames_self ht]
    subst hg
    refine Or.inl ⟨v, ⟨(({ U with heap := s₂.heap, slotsUsed := s₂.slotsUsed } : State).setVm s₂.vm), Ls ++ L, c0 + mc, s0 + ms⟩,
      ⟨X.admits, X.cas, X.clock, X.frames, X.room, X.hears, X.method, X.code, (X.here.setHeapUsed s₂.heap s₂.slotsUsed).setVm hW'.alike, X.tail, State.WarmedH.trans X.warmed hW', X.limits, X.bytes, X.same.trans (hsame.setVm s.vm)⟩,
      ⟨g, mk, s₂, L, rfl, rfl, hqc, rfl, hL, rfl, rfl⟩, ?_⟩
    show Steps p.tables e below _ ((({ U with heap := s₂.heap, slotsUsed := s₂.slotsUsed } : State).setVm s₂.vm).setTop { g with pc := g.pc + len₂, stack := v.toList ++ g.stack })
    rw [← hs₂]
    exact hsteps
  · obtain ⟨e2, q2, q3, q4, q5, q6⟩ := id hsm
    have e3 : s₂ = ({ (U.calling g mk a).setFrames s₂.frames with heap := s₂.heap, slotsUsed := s₂.slotsUsed } : State).setVm s₂.vm := by
      have : s₂ = ({ s₂ with vm := (U.calling g mk a).vm } : State).setVm s₂.vm := rfl
      rw [e2] at this
      exact this
    have hf₂ : s₂.frames = .throwing q :: .java g :: U.frames.tail := hend
    have hW' : U.WarmedH s₂.vm := hW₂
    have hs₂ : s₂ = ((({ U with heap := s₂.heap, slotsUsed := s₂.slotsUsed } : State).setVm s₂.vm).setTop g).pushFrame (.throwing q) := by
      refine e3.trans ?_
      rw [hf₂, State.calling_eq h.top, State.setFrames_setFrames, State.pushFrame, State.frames_setTop _ hr', State.setTop_of_frames _ hr', State.setFrames_setFrames, hr]
      rfl
    have hsame : U.sameButNew ({ U with heap := s₂.heap, slotsUsed := s₂.slotsUsed } : State) L mc ms := by
      refine ⟨?_, q2, q3, q4, q5, q6⟩
      obtain ⟨t, ht, -⟩ := State.frames_cons hr
      show ({ U with heap := s₂.heap, slotsUsed := s₂.slotsUsed } : State) = { U.setFrames U.frames with heap := s₂.heap, slotsUsed := s₂.slotsUsed }
      rw [State.setFrames_self ht]
    subst hg
    refine Or.inr ⟨q, ⟨(({ U with heap := s₂.heap, slotsUsed := s₂.slotsUsed } : State).setVm s₂.vm), Ls ++ L, c0 + mc, s0 + ms⟩,
      ⟨X.admits, X.cas, X.clock, X.frames, X.room, X.hears, X.method, X.code, (X.here.setHeapUsed s₂.heap s₂.slotsUsed).setVm hW'.alike, X.tail, State.WarmedH.trans X.warmed hW', X.limits, X.bytes, X.same.trans (hsame.setVm s.vm)⟩,
      ⟨g, mk, s₂, L, E, ce, rfl, rfl, hx, hce, hcv, hcl, rfl, hL, rfl, rfl⟩, ?_⟩
    show Steps p.tables e below _ (((({ U with heap := s₂.heap, slotsUsed := s₂.slotsUsed } : State).setVm s₂.vm).setTop g).pushFrame (.throwing q))
    rw [← hs₂]
    exact hsteps
end Payer
section Calls
variable {p : Program} {l : Launch} {e : Env} {R : Room} {s : State} {m : MethodId} {args : Array Value} {below : List Frame} {meth : Method} {c : Code} {T : State} {locs : List Loc} {cells slots : Nat}
theorem vx_callV (X : Stand p l e R s m args below meth c T locs cells slots) (hexec : p.tables.exec = Jvm.exec) {own C : String} {index : Nat} {y : MethodName} {bytes : ByteArray} {maxL : Nat} {ret : Option FieldType}
    (hown : s.vm.findClass own = some m.cls) (hlink : (Cond.methodLink own index y).before args s = true) (hinst : (Cond.instanceMethod y).before args s = true) (hsel : (Cond.selects C y y).before args s = true)
    (hcode : (Cond.code y bytes maxL ret).before args s = true) (hy : y.cls ≠ "java/lang/invoke/MethodHandle" ∧ y.cls ≠ "java/lang/invoke/VarHandle")
    {W9 : Nat} {Pre : Pt → Array Value → Prop} {Post : Pt → Array Value → Option Value → Pt → Prop} {PostX : Pt → Array Value → Addr → Pt → Prop} (hK : vx_Back l R p e below s args y 3 W9 Pre Post PostX)
    {b : Addr} {cellB : Cell} (hcell : T.heap[b]? = some cellB) (hobj : cellB.vm.isStatics = false) (hcls : s.vm.findClass C = some cellB.cls)
    {g : JFrame} (hg : g.method = m) (hsize : g.locals.size = c.maxLocals) {argsL rest : List Value} (hlen : ∀ sig, parseMethodDescriptor y.desc = some sig → argsL.length = sig.parameters.length)
    (hstack : g.stack = argsL.reverse ++ .ref b :: rest) (hW : 2 * g.monitorRoom + (rest.map fun v => v.category).sum ≤ W9) (hdg : decode c.code g.pc = .ok (.invokevirtual index, 3))
    (hpre : ∀ vm₁, s.WarmedH vm₁ → Pre ⟨T.setVm vm₁, locs, cells, slots⟩ (Value.ref b :: argsL).toArray) :
    (∃ (v : Option Value) (vm₁ : Vm) (B : Pt), s.WarmedH vm₁ ∧ Stand p l e R s m args below meth c B.U B.locs B.cells B.slots ∧ Post ⟨T.setVm vm₁, locs, cells, slots⟩ (Value.ref b :: argsL).toArray v B ∧
      ∀ target, Steps p.tables e below (B.U.setTop { g with pc := g.pc + 3, stack := v.toList ++ rest }) target → Steps p.tables e below (T.setTop g) target) ∨
    (∃ (q : Addr) (vm₁ : Vm) (B : Pt), s.WarmedH vm₁ ∧ Stand p l e R s m args below meth c B.U B.locs B.cells B.slots ∧ PostX ⟨T.setVm vm₁, locs, cells, slots⟩ (Value.ref b :: argsL).toArray q B ∧
      Steps p.tables e below (T.setTop g) ((B.U.setTop { g with stack := rest }).pushFrame (.throwing q))) := by
  obtain ⟨mk, methM, hnamed, hmethM, hstM, habM⟩ := Cond.instanceMethod_spec hinst
  obtain ⟨methM', cM, hmethM', -, -, -, -, -, -, hsigM⟩ := Cond.code_spec hnamed hcode
  cases hmethM.symm.trans hmethM'
  obtain ⟨c2, r2, m2, q1, q2, q3, q4, kP, hkP, hkPi⟩ := Cond.selects_spec hsel
  cases hcls.symm.trans q1
  cases (State.methodFound?_of_named hnamed hy).symm.trans q2
  cases hnamed.symm.trans q3
  have hselP : selectMethod e.platform s.vm cellB.cls mk = .method mk := by rw [Launch.admits_selectMethod X.admits]; exact q4
  obtain ⟨vm₁, X₁, hstep₁⟩ := X.invokevirtual hexec hown hlink hnamed hmethM hstM hkP hkPi hy (a := b) (cell := cellB) hcell
    (fun z h => by rw [h] at hobj; cases hobj) hselP hmethM habM hkP hkPi (g := g) hg (argsL := argsL) (rest := rest) (hlen _ hsigM) hstack hdg
  rcases hK m meth c ⟨T.setVm vm₁, locs, cells, slots⟩ { g with stack := rest } (.invokevirtual index) mk (Value.ref b :: argsL).toArray X₁ hg hsize hdg hW (X₁.named hnamed) (hpre vm₁ X₁.warmed) with ⟨v, B, X', hpost, hsteps⟩ | ⟨q, B, X', hpost, hsteps⟩
  · exact Or.inl ⟨v, vm₁, B, X₁.warmed, X', hpost, fun target h => hstep₁ _ fun acts => by rw [doInvoke_state]; exact hsteps.trans h⟩
  · exact Or.inr ⟨q, vm₁, B, X₁.warmed, X', hpost, hstep₁ _ fun acts => by rw [doInvoke_state]; exact hsteps⟩
theorem vx_callS (X : Stand p l e R s m args below meth c T locs cells slots) (hexec : p.tables.exec = Jvm.exec) {own : String} {index : Nat} {y : MethodName} {bytes : ByteArray} {maxL : Nat} {ret : Option FieldType}
    (hown : s.vm.findClass own = some m.cls) (hlink : (Cond.methodLink own index y).before args s = true) (hstat : (Cond.static y).before args s = true) (hinit : (Cond.initialized y.cls).before args s = true)
    (hcode : (Cond.code y bytes maxL ret).before args s = true) (hy : y.cls ≠ "java/lang/invoke/MethodHandle" ∧ y.cls ≠ "java/lang/invoke/VarHandle")
    {W9 : Nat} {Pre : Pt → Array Value → Prop} {Post : Pt → Array Value → Option Value → Pt → Prop} {PostX : Pt → Array Value → Addr → Pt → Prop} (hK : vx_Back l R p e below s args y 3 W9 Pre Post PostX)
    {g : JFrame} (hg : g.method = m) (hsize : g.locals.size = c.maxLocals) {argsL rest : List Value} (hlen : ∀ sig, parseMethodDescriptor y.desc = some sig → argsL.length = sig.parameters.length)
    (hstack : g.stack = argsL.reverse ++ rest) (hW : 2 * g.monitorRoom + (rest.map fun v => v.category).sum ≤ W9) (hdg : decode c.code g.pc = .ok (.invokestatic index, 3))
    (hpre : ∀ vm₁, s.WarmedH vm₁ → Pre ⟨T.setVm vm₁, locs, cells, slots⟩ argsL.toArray) :
    (∃ (v : Option Value) (vm₁ : Vm) (B : Pt), s.WarmedH vm₁ ∧ Stand p l e R s m args below meth c B.U B.locs B.cells B.slots ∧ Post ⟨T.setVm vm₁, locs, cells, slots⟩ argsL.toArray v B ∧
      ∀ target, Steps p.tables e below (B.U.setTop { g with pc := g.pc + 3, stack := v.toList ++ rest }) target → Steps p.tables e below (T.setTop g) target) ∨
    (∃ (q : Addr) (vm₁ : Vm) (B : Pt), s.WarmedH vm₁ ∧ Stand p l e R s m args below meth c B.U B.locs B.cells B.slots ∧ PostX ⟨T.setVm vm₁, locs, cells, slots⟩ argsL.toArray q B ∧
      Steps p.tables e below (T.setTop g) ((B.U.setTop { g with stack := rest }).pushFrame (.throwing q))) := by
  obtain ⟨mk, hnamed⟩ := Cond.code_named hcode
  obtain ⟨methM, cM, hmethM, -, -, -, -, -, -, hsigM⟩ := Cond.code_spec hnamed hcode
  have hstatic : methM.isStatic = true := Cond.static_spec hnamed hmethM hstat
  obtain ⟨kP, hkP, -⟩ := className_of_methodNamed hnamed
  have hinitP : kP.init = .initialized := Cond.initialized_spec (findClass_of_methodNamed hnamed) hkP hinit
  obtain ⟨vm₁, X₁, hstep₁⟩ := X.invokestatic hexec hown hlink hnamed hmethM hstatic hkP hinitP hy (g := g) hg (argsL := argsL) (rest := rest) (hlen _ hsigM) hstack hdg
  rcases hK m meth c ⟨T.setVm vm₁, locs, cells, slots⟩ { g with stack := rest } (.invokestatic index) mk argsL.toArray X₁ hg hsize hdg hW (X₁.named hnamed) (hpre vm₁ X₁.warmed) with ⟨v, B, X', hpost, hsteps⟩ | ⟨q, B, X', hpost, hsteps⟩
  · exact Or.inl ⟨v, vm₁, B, X₁.warmed, X', hpost, fun target h => hstep₁ _ fun acts => by rw [doInvoke_state]; exact hsteps.trans h⟩
  · exact Or.inr ⟨q, vm₁, B, X₁.warmed, X', hpost, hstep₁ _ fun acts => by rw [doInvoke_state]; exact hsteps⟩
end Calls
theorem vx_cls {s : State} {T : State} {vm₁ : Vm} {E : String} {k : ClassId} (hW : s.WarmedH vm₁) (h : (T.setVm vm₁).vm.findClass E = some k) : s.vm.findClass E = some k := by
  have h1 : vm₁.findClass E = some k := h
  rw [hW.alike.findClass] at h1
  exact h1
/-- the method's frame g, with q thrown over it -/
def vx_W (p : Program) (l : Launch) (e : Env) (R : Room) (s : State) (m : MethodId) (args : Array Value) (below : List Frame) (meth : Method) (c : Code) (H : Heap) (locs : List Loc) (cells slots : Nat) (Q : State → Prop) (g : JFrame) (q : Addr) : Prop :=
  ∀ T : State, T.heap = H → Stand p l e R s m args below meth c T locs cells slots → ∃ t, Steps p.tables e below ((T.setTop g).pushFrame (.throwing q)) t ∧ Q t
def vx_Run (p : Program) (l : Launch) (e : Env) (R : Room) (s : State) (m : MethodId) (args : Array Value) (below : List Frame) (meth : Method) (c : Code) (H : Heap) (locs : List Loc) (cells slots mc ms : Nat) (g : JFrame) (rest : List Value) (Qa : State → Outcome → State → Prop) (XC : String → State → State → Prop) (free : Addr → Prop) : Prop :=
  ∀ T : State, T.heap = H → Stand p l e R s m args below meth c T locs cells slots →
    (∃ (v : Option Value) (st₀ t T' : State) (L : List Loc), st₀.heap = H ∧ Stand p l e R s m args below meth c T' (locs ++ L) (cells + mc) (slots + ms) ∧ (∀ q ∈ L, free q.base) ∧ T'.heap = t.heap ∧ T'.vm = t.vm ∧ Qa st₀ (.returned v) t ∧
      Goes p e below T g T' { g with pc := g.pc + 3, stack := v.toList ++ rest }) ∨
    (∃ (q : Addr) (st₀ t T' : State) (L : List Loc) (E : String) (ce : Cell), st₀.heap = H ∧ Stand p l e R s m args below meth c T' (locs ++ L) (cells + mc) (slots + ms) ∧ (∀ z ∈ L, free z.base) ∧ T'.heap = t.heap ∧ T'.vm = t.vm ∧ XC E st₀ t ∧ t.heap[q]? = some ce ∧ ce.vm = .none ∧ s.vm.findClass E = some ce.cls ∧
      Steps p.tables e below (T.setTop g) ((T'.setTop { g with stack := rest }).pushFrame (.throwing q)))
def vx_X {S : Type} (px : S → Prop) (B : String → S → State → Prop) (A : Nat → Prop) : String → State → State → Prop := fun E st t => ∃ u : S, px u ∧ B E u t ∧ va_F A st t
section Runs
variable {p : Program} {l : Launch} {e : Env} {R : Room} {s : State} {m : MethodId} {args : Array Value} {below : List Frame} {meth : Method} {c : Code} {H : Heap} {locs : List Loc} {cells slots : Nat}
variable {y : MethodName} {bytes cc : ByteArray} {maxL nL mc ms n index : Nat} {ret : Option FieldType} {ws : List Cond} {rm : Room} {Pc : Array Value → State → Prop} {Qc : Array Value → State → Outcome → State → Prop} {XC : String → State → State → Prop} {free : Addr → Prop} {Ts : List Cond} {own C : String} {b : Addr} {As rest : List Value} {g : JFrame}
theorem vx_callBack (cb : CallB R s args own index y bytes maxL ret ws rm mc ms n) (hM : vx_Met l y ws rm Pc Qc XC mc ms free) (hbl : FrameBlind Pc) : vx_Back l R p e below s args y 3 8 (PreOf R mc ms Pc) (PostOf Qc mc ms free) (vx_Post XC mc ms free) := by
  obtain ⟨hrc, hrs, hfr, hlo, hws, hcw, -, hini, -⟩ := cb
  exact vx_back (bytes := bytes) (maxL := maxL) (ret := ret) hM hbl hrc hrs hfr hlo hws hcw (fun a' U hW => word_at hW (Or.inl (by first | rfl | simp [Cond.onTables, Cond.keeps, Cond.steady])) hini)
theorem vx_runV (S : CallFix p m c cc nL s args Ts own) (hM : vx_Met l y ws rm Pc Qc XC mc ms free) (cw : CallW R s args own C index y bytes maxL ret ws rm mc ms n) (hp : PreV s H C b Pc As)
    (hg : g.method = m) (hn : As.length = n) (hsize : g.locals.size = nL) (hstack : g.stack = As.reverse ++ .ref b :: rest) (hW : 2 * g.monitorRoom + (rest.map fun v => v.category).sum ≤ 8) (hdg : decode cc g.pc = .ok (.invokevirtual index, 3)) (hf : cells + mc ≤ R.cells ∧ slots + ms ≤ R.slots) :
    vx_Run p l e R s m args below meth c H locs cells slots mc ms g rest (Qc (Value.ref b :: As).toArray) XC free := by
  have hK : vx_Back l R p e below s args y 3 8 (PreOf R mc ms Pc) (PostOf Qc mc ms free) (vx_Post XC mc ms free) := vx_callBack cw.1 hM hp.1
  obtain ⟨⟨-, -, -, -, -, -, hcode, -, hy, hlen, hl⟩, hin, hse⟩ := cw
  obtain ⟨hx, hb, hml, ho, -⟩ := S
  obtain ⟨-, ⟨cellB, hcB, hoB, hclB⟩, hPc⟩ := hp
  intro T hT X
  rcases vx_callV X hx (C := C) (bytes := bytes) (maxL := maxL) (ret := ret) ho hl hin hse hcode hy hK (by rw [hT]; exact hcB) hoB hclB hg (hsize.trans hml.symm) (argsL := As) (rest := rest) (fun sig h => hn.trans (hlen sig h)) hstack hW (by rw [hb]; exact hdg)
    (fun vm₁ hW₁ => ⟨hf.1, hf.2, hPc (T.setVm vm₁) hT hW₁⟩) with ⟨v, vm₁, ⟨U', l2, c2, s2⟩, hW₁, X', ⟨g', mk, t, L, e1, e2, hq, h1, hL, h2, h3⟩, st⟩ | ⟨q, vm₁, ⟨U', l2, c2, s2⟩, hW₁, X', ⟨g', mk, t, L, E, ce, e1, e2, hq, hce, hcv, hcl, h1, hL, h2, h3⟩, st⟩
  · dsimp only [Pt.U, Pt.locs, Pt.cells, Pt.slots] at X' e1 e2 h1 h2 h3 st
    subst h1; subst h2; subst h3
    exact Or.inl ⟨v, (T.setVm vm₁).calling g' mk (Value.ref b :: As).toArray, t, U', L, hT, X', hL, e1, e2, hq, st⟩
  · dsimp only [Pt.U, Pt.locs, Pt.cells, Pt.slots] at X' e1 e2 h1 h2 h3 st hcl
    subst h1; subst h2; subst h3
    exact Or.inr ⟨q, (T.setVm vm₁).calling g' mk (Value.ref b :: As).toArray, t, U', L, E, ce, hT, X', hL, e1, e2, hq, hce, hcv, vx_cls hW₁ hcl, st⟩
theorem vx_runS (S : CallFix p m c cc nL s args Ts own) (hM : vx_Met l y ws rm Pc Qc XC mc ms free) (cw : CallB R s args own index y bytes maxL ret ws rm mc ms n ∧ (Cond.static y).before args s = true) (hp : PreS s H Pc As)
    (hg : g.method = m) (hn : As.length = n) (hsize : g.locals.size = nL) (hstack : g.stack = As.reverse ++ rest) (hW : 2 * g.monitorRoom + (rest.map fun v => v.category).sum ≤ 8) (hdg : decode cc g.pc = .ok (.invokestatic index, 3)) (hf : cells + mc ≤ R.cells ∧ slots + ms ≤ R.slots) :
    vx_Run p l e R s m args below meth c H locs cells slots mc ms g rest (Qc As.toArray) XC free := by
  have hK : vx_Back l R p e below s args y 3 8 (PreOf R mc ms Pc) (PostOf Qc mc ms free) (vx_Post XC mc ms free) := vx_callBack cw.1 hM hp.1
  obtain ⟨⟨-, -, -, -, -, -, hcode, hini, hy, hlen, hl⟩, hstt⟩ := cw
  obtain ⟨hx, hb, hml, ho, -⟩ := S
  intro T hT X
  rcases vx_callS X hx (bytes := bytes) (maxL := maxL) (ret := ret) ho hl hstt hini hcode hy hK hg (hsize.trans hml.symm) (argsL := As) (rest := rest) (fun sig h => hn.trans (hlen sig h)) hstack hW (by rw [hb]; exact hdg)
    (fun vm₁ hW₁ => ⟨hf.1, hf.2, hp.2 (T.setVm vm₁) hT hW₁⟩) with ⟨v, vm₁, ⟨U', l2, c2, s2⟩, hW₁, X', ⟨g', mk, t, L, e1, e2, hq, h1, hL, h2, h3⟩, st⟩ | ⟨q, vm₁, ⟨U', l2, c2, s2⟩, hW₁, X', ⟨g', mk, t, L, E, ce, e1, e2, hq, hce, hcv, hcl, h1, hL, h2, h3⟩, st⟩
  · dsimp only [Pt.U, Pt.locs, Pt.cells, Pt.slots] at X' e1 e2 h1 h2 h3 st
    subst h1; subst h2; subst h3
    exact Or.inl ⟨v, (T.setVm vm₁).calling g' mk As.toArray, t, U', L, hT, X', hL, e1, e2, hq, st⟩
  · dsimp only [Pt.U, Pt.locs, Pt.cells, Pt.slots] at X' e1 e2 h1 h2 h3 st hcl
    subst h1; subst h2; subst h3
    exact Or.inr ⟨q, (T.setVm vm₁).calling g' mk As.toArray, t, U', L, E, ce, hT, X', hL, e1, e2, hq, hce, hcv, vx_cls hW₁ hcl, st⟩
end Runs
section Rows
variable {p : Program} {l : Launch} {e : Env} {R : Room} {s : State} {m : MethodId} {args : Array Value} {below : List Frame} {meth : Method} {c : Code} {H : Heap} {locs : List Loc} {cells slots : Nat} {Q : State → Prop}
variable {mc ms : Nat} {free : Addr → Prop} {A0 A1 : Nat → Prop} {H0 : Heap} {a : Array Value} {pc : Nat} {ls : Array Slot} {st0 rest : List Value}
theorem vx_keep {st₀ t T' : State} {L : List Loc} (h0 : st₀.heap = H) (e1 : T'.heap = t.heap) (hS : va_S A0 H0 H locs) (hA : ∀ q, q < H.size → A1 q → A0 q) (hf : ∀ q, free q → A0 q) (hL : ∀ q ∈ L, free q.base) (hF : va_F A1 st₀ t) :
    H.size ≤ T'.heap.size ∧ (∀ q : Nat, q < H.size → ¬ A1 q → T'.heap[q]? = H[q]?) ∧ va_S A0 H0 T'.heap (locs ++ L) := by
  obtain ⟨hz, hk⟩ := hF
  rw [h0] at hz hk
  exact ⟨by rw [e1]; exact hz, fun q h1 h2 => by rw [e1]; exact hk q h1 h2,
    ⟨Nat.le_trans hS.1 (by rw [e1]; exact hz), fun q h1 h2 => by rw [e1, hk q (Nat.lt_of_lt_of_le h1 hS.1) (fun z => h2 (hA q (Nat.lt_of_lt_of_le h1 hS.1) z))]; exact hS.2.1 q h1 h2, fun q hq => by
      rcases List.mem_append.mp hq with h | h
      · exact hS.2.2 q h
      · exact hf _ (hL q h)⟩⟩
theorem vx_calli {S SX : Type} {post : Int32 → S → Prop} {px : SX → Prop} {B : S → State → Prop} {BX : String → SX → State → Prop} {AX : Nat → Prop} (hr : vx_Run p l e R s m args below meth c H locs cells slots mc ms (F0 m pc ls st0) rest (va_Qi post B A1 a) (vx_X px BX AX) free) (hS : va_S A0 H0 H locs) (hA : ∀ q, q < H.size → A1 q → A0 q) (hf : ∀ q, free q → A0 q) (hAX : ∀ q, q < H.size → AX q → A0 q)
    (kx : ∀ (E : String) (ce : Cell) (q9 : Addr) (u : SX) (t : State) (H1 : Heap) (locs1 : List Loc), t.heap = H1 → s.vm.Alike t.vm → px u → BX E u t → H.size ≤ H1.size → (∀ q : Nat, q < H.size → ¬ AX q → H1[q]? = H[q]?) → va_S A0 H0 H1 locs1 → H1[q9]? = some ce → ce.vm = .none → s.vm.findClass E = some ce.cls → vx_W p l e R s m args below meth c H1 locs1 (cells + mc) (slots + ms) Q (F0 m pc ls rest) q9)
    (kk : ∀ (r : Int32) (u : S) (t : State) (H1 : Heap) (locs1 : List Loc), t.heap = H1 → s.vm.Alike t.vm → post r u → B u t → H.size ≤ H1.size → (∀ q : Nat, q < H.size → ¬ A1 q → H1[q]? = H[q]?) → va_S A0 H0 H1 locs1 → W p l e R s m args below meth c H1 locs1 (cells + mc) (slots + ms) Q (F0 m (pc + 3) ls (.int r :: rest))) : W p l e R s m args below meth c H locs cells slots Q (F0 m pc ls st0) := by
  intro T hT X
  rcases hr T hT X with ⟨v, st₀, t, T', L, h0, X', hL, e1, e2, ⟨⟨r, u, hv, hp, hb⟩, hF⟩, st⟩ | ⟨q, st₀, t, T', L, E, ce, h0, X', hL, e1, e2, ⟨u, hp, hb, hF⟩, hce, hcv, hcl, st⟩
  · cases hv
    obtain ⟨k1, k2, k3⟩ := vx_keep h0 e1 hS hA hf hL hF
    obtain ⟨t2, a1, b1⟩ := kk r u t T'.heap (locs ++ L) e1.symm (by rw [← e2]; exact X'.warmed.alike) hp hb k1 k2 k3 T' rfl X'
    exact ⟨t2, st t2 a1, b1⟩
  · obtain ⟨k1, k2, k3⟩ := vx_keep h0 e1 hS hAX hf hL hF
    obtain ⟨t2, a1, b1⟩ := kx E ce q u t T'.heap (locs ++ L) e1.symm (by rw [← e2]; exact X'.warmed.alike) hp hb k1 k2 k3 (by rw [e1]; exact hce) hcv hcl T' rfl X'
    exact ⟨t2, st.trans a1, b1⟩
theorem vx_calll {S SX : Type} {post : Int64 → S → Prop} {px : SX → Prop} {B : S → State → Prop} {BX : String → SX → State → Prop} {AX : Nat → Prop} (hr : vx_Run p l e R s m args below meth c H locs cells slots mc ms (F0 m pc ls st0) rest (va_Ql post B A1 a) (vx_X px BX AX) free) (hS : va_S A0 H0 H locs) (hA : ∀ q, q < H.size → A1 q → A0 q) (hf : ∀ q, free q → A0 q) (hAX : ∀ q, q < H.size → AX q → A0 q)
    (kx : ∀ (E : String) (ce : Cell) (q9 : Addr) (u : SX) (t : State) (H1 : Heap) (locs1 : List Loc), t.heap = H1 → s.vm.Alike t.vm → px u → BX E u t → H.size ≤ H1.size → (∀ q : Nat, q < H.size → ¬ AX q → H1[q]? = H[q]?) → va_S A0 H0 H1 locs1 → H1[q9]? = some ce → ce.vm = .none → s.vm.findClass E = some ce.cls → vx_W p l e R s m args below meth c H1 locs1 (cells + mc) (slots + ms) Q (F0 m pc ls rest) q9)
    (kk : ∀ (r : Int64) (u : S) (t : State) (H1 : Heap) (locs1 : List Loc), t.heap = H1 → s.vm.Alike t.vm → post r u → B u t → H.size ≤ H1.size → (∀ q : Nat, q < H.size → ¬ A1 q → H1[q]? = H[q]?) → va_S A0 H0 H1 locs1 → W p l e R s m args below meth c H1 locs1 (cells + mc) (slots + ms) Q (F0 m (pc + 3) ls (.long r :: rest))) : W p l e R s m args below meth c H locs cells slots Q (F0 m pc ls st0) := by
  intro T hT X
  rcases hr T hT X with ⟨v, st₀, t, T', L, h0, X', hL, e1, e2, ⟨⟨r, u, hv, hp, hb⟩, hF⟩, st⟩ | ⟨q, st₀, t, T', L, E, ce, h0, X', hL, e1, e2, ⟨u, hp, hb, hF⟩, hce, hcv, hcl, st⟩
  · cases hv
    obtain ⟨k1, k2, k3⟩ := vx_keep h0 e1 hS hA hf hL hF
    obtain ⟨t2, a1, b1⟩ := kk r u t T'.heap (locs ++ L) e1.symm (by rw [← e2]; exact X'.warmed.alike) hp hb k1 k2 k3 T' rfl X'
    exact ⟨t2, st t2 a1, b1⟩
  · obtain ⟨k1, k2, k3⟩ := vx_keep h0 e1 hS hAX hf hL hF
    obtain ⟨t2, a1, b1⟩ := kx E ce q u t T'.heap (locs ++ L) e1.symm (by rw [← e2]; exact X'.warmed.alike) hp hb k1 k2 k3 (by rw [e1]; exact hce) hcv hcl T' rfl X'
    exact ⟨t2, st.trans a1, b1⟩
theorem vx_callf {S SX : Type} {post : UInt32 → S → Prop} {px : SX → Prop} {B : S → State → Prop} {BX : String → SX → State → Prop} {AX : Nat → Prop} (hr : vx_Run p l e R s m args below meth c H locs cells slots mc ms (F0 m pc ls st0) rest (va_Qf post B A1 a) (vx_X px BX AX) free) (hS : va_S A0 H0 H locs) (hA : ∀ q, q < H.size → A1 q → A0 q) (hf : ∀ q, free q → A0 q) (hAX : ∀ q, q < H.size → AX q → A0 q)
    (kx : ∀ (E : String) (ce : Cell) (q9 : Addr) (u : SX) (t : State) (H1 : Heap) (locs1 : List Loc), t.heap = H1 → s.vm.Alike t.vm → px u → BX E u t → H.size ≤ H1.size → (∀ q : Nat, q < H.size → ¬ AX q → H1[q]? = H[q]?) → va_S A0 H0 H1 locs1 → H1[q9]? = some ce → ce.vm = .none → s.vm.findClass E = some ce.cls → vx_W p l e R s m args below meth c H1 locs1 (cells + mc) (slots + ms) Q (F0 m pc ls rest) q9)
    (kk : ∀ (r : UInt32) (u : S) (t : State) (H1 : Heap) (locs1 : List Loc), t.heap = H1 → s.vm.Alike t.vm → post r u → B u t → H.size ≤ H1.size → (∀ q : Nat, q < H.size → ¬ A1 q → H1[q]? = H[q]?) → va_S A0 H0 H1 locs1 → W p l e R s m args below meth c H1 locs1 (cells + mc) (slots + ms) Q (F0 m (pc + 3) ls (.float r :: rest))) : W p l e R s m args below meth c H locs cells slots Q (F0 m pc ls st0) := by
  intro T hT X
  rcases hr T hT X with ⟨v, st₀, t, T', L, h0, X', hL, e1, e2, ⟨⟨r, u, hv, hp, hb⟩, hF⟩, st⟩ | ⟨q, st₀, t, T', L, E, ce, h0, X', hL, e1, e2, ⟨u, hp, hb, hF⟩, hce, hcv, hcl, st⟩
  · cases hv
    obtain ⟨k1, k2, k3⟩ := vx_keep h0 e1 hS hA hf hL hF
    obtain ⟨t2, a1, b1⟩ := kk r u t T'.heap (locs ++ L) e1.symm (by rw [← e2]; exact X'.warmed.alike) hp hb k1 k2 k3 T' rfl X'
    exact ⟨t2, st t2 a1, b1⟩
  · obtain ⟨k1, k2, k3⟩ := vx_keep h0 e1 hS hAX hf hL hF
    obtain ⟨t2, a1, b1⟩ := kx E ce q u t T'.heap (locs ++ L) e1.symm (by rw [← e2]; exact X'.warmed.alike) hp hb k1 k2 k3 (by rw [e1]; exact hce) hcv hcl T' rfl X'
    exact ⟨t2, st.trans a1, b1⟩
theorem vx_calld {S SX : Type} {post : UInt64 → S → Prop} {px : SX → Prop} {B : S → State → Prop} {BX : String → SX → State → Prop} {AX : Nat → Prop} (hr : vx_Run p l e R s m args below meth c H locs cells slots mc ms (F0 m pc ls st0) rest (va_Qd post B A1 a) (vx_X px BX AX) free) (hS : va_S A0 H0 H locs) (hA : ∀ q, q < H.size → A1 q → A0 q) (hf : ∀ q, free q → A0 q) (hAX : ∀ q, q < H.size → AX q → A0 q)
    (kx : ∀ (E : String) (ce : Cell) (q9 : Addr) (u : SX) (t : State) (H1 : Heap) (locs1 : List Loc), t.heap = H1 → s.vm.Alike t.vm → px u → BX E u t → H.size ≤ H1.size → (∀ q : Nat, q < H.size → ¬ AX q → H1[q]? = H[q]?) → va_S A0 H0 H1 locs1 → H1[q9]? = some ce → ce.vm = .none → s.vm.findClass E = some ce.cls → vx_W p l e R s m args below meth c H1 locs1 (cells + mc) (slots + ms) Q (F0 m pc ls rest) q9)
    (kk : ∀ (r : UInt64) (u : S) (t : State) (H1 : Heap) (locs1 : List Loc), t.heap = H1 → s.vm.Alike t.vm → post r u → B u t → H.size ≤ H1.size → (∀ q : Nat, q < H.size → ¬ A1 q → H1[q]? = H[q]?) → va_S A0 H0 H1 locs1 → W p l e R s m args below meth c H1 locs1 (cells + mc) (slots + ms) Q (F0 m (pc + 3) ls (.double r :: rest))) : W p l e R s m args below meth c H locs cells slots Q (F0 m pc ls st0) := by
  intro T hT X
  rcases hr T hT X with ⟨v, st₀, t, T', L, h0, X', hL, e1, e2, ⟨⟨r, u, hv, hp, hb⟩, hF⟩, st⟩ | ⟨q, st₀, t, T', L, E, ce, h0, X', hL, e1, e2, ⟨u, hp, hb, hF⟩, hce, hcv, hcl, st⟩
  · cases hv
    obtain ⟨k1, k2, k3⟩ := vx_keep h0 e1 hS hA hf hL hF
    obtain ⟨t2, a1, b1⟩ := kk r u t T'.heap (locs ++ L) e1.symm (by rw [← e2]; exact X'.warmed.alike) hp hb k1 k2 k3 T' rfl X'
    exact ⟨t2, st t2 a1, b1⟩
  · obtain ⟨k1, k2, k3⟩ := vx_keep h0 e1 hS hAX hf hL hF
    obtain ⟨t2, a1, b1⟩ := kx E ce q u t T'.heap (locs ++ L) e1.symm (by rw [← e2]; exact X'.warmed.alike) hp hb k1 k2 k3 (by rw [e1]; exact hce) hcv hcl T' rfl X'
    exact ⟨t2, st.trans a1, b1⟩
theorem vx_callv {S SX : Type} {post : S → Prop} {px : SX → Prop} {B : S → State → Prop} {BX : String → SX → State → Prop} {AX : Nat → Prop} (hr : vx_Run p l e R s m args below meth c H locs cells slots mc ms (F0 m pc ls st0) rest (va_Qv post B A1 a) (vx_X px BX AX) free) (hS : va_S A0 H0 H locs) (hA : ∀ q, q < H.size → A1 q → A0 q) (hf : ∀ q, free q → A0 q) (hAX : ∀ q, q < H.size → AX q → A0 q)
    (kx : ∀ (E : String) (ce : Cell) (q9 : Addr) (u : SX) (t : State) (H1 : Heap) (locs1 : List Loc), t.heap = H1 → s.vm.Alike t.vm → px u → BX E u t → H.size ≤ H1.size → (∀ q : Nat, q < H.size → ¬ AX q → H1[q]? = H[q]?) → va_S A0 H0 H1 locs1 → H1[q9]? = some ce → ce.vm = .none → s.vm.findClass E = some ce.cls → vx_W p l e R s m args below meth c H1 locs1 (cells + mc) (slots + ms) Q (F0 m pc ls rest) q9)
    (kk : ∀ (u : S) (t : State) (H1 : Heap) (locs1 : List Loc), t.heap = H1 → s.vm.Alike t.vm → post u → B u t → H.size ≤ H1.size → (∀ q : Nat, q < H.size → ¬ A1 q → H1[q]? = H[q]?) → va_S A0 H0 H1 locs1 → W p l e R s m args below meth c H1 locs1 (cells + mc) (slots + ms) Q (F0 m (pc + 3) ls (rest))) : W p l e R s m args below meth c H locs cells slots Q (F0 m pc ls st0) := by
  intro T hT X
  rcases hr T hT X with ⟨v, st₀, t, T', L, h0, X', hL, e1, e2, ⟨⟨u, hv, hp, hb⟩, hF⟩, st⟩ | ⟨q, st₀, t, T', L, E, ce, h0, X', hL, e1, e2, ⟨u, hp, hb, hF⟩, hce, hcv, hcl, st⟩
  · cases hv
    obtain ⟨k1, k2, k3⟩ := vx_keep h0 e1 hS hA hf hL hF
    obtain ⟨t2, a1, b1⟩ := kk u t T'.heap (locs ++ L) e1.symm (by rw [← e2]; exact X'.warmed.alike) hp hb k1 k2 k3 T' rfl X'
    exact ⟨t2, st t2 a1, b1⟩
  · obtain ⟨k1, k2, k3⟩ := vx_keep h0 e1 hS hAX hf hL hF
    obtain ⟨t2, a1, b1⟩ := kx E ce q u t T'.heap (locs ++ L) e1.symm (by rw [← e2]; exact X'.warmed.alike) hp hb k1 k2 k3 (by rw [e1]; exact hce) hcv hcl T' rfl X'
    exact ⟨t2, st.trans a1, b1⟩
/-- caught by the row x of this method's table; the rows ahead don't take it -/
theorem vx_catch {own name : String} {E : String} {ce : Cell} {q : Addr} (hown : s.vm.findClass own = some m.cls) (pre : List ExceptionTableEntry) (x : ExceptionTableEntry) (suf : List ExceptionTableEntry) (hsplit : c.exceptionTable.toList = pre ++ x :: suf)
    (hpass : ∀ z ∈ pre, covers z pc = false ∨ (z.catchType ≠ 0 ∧ ∃ nm : String, (Cond.classLink own z.catchType nm).before args s = true ∧ va_Nc E nm s)) (hx : covers x pc = true) (h0 : x.catchType ≠ 0)
    (hlink : (Cond.classLink own x.catchType name).before args s = true) (hcast : (Cond.castable E name).before args s = true) (hcell : H[q]? = some ce) (hv : ce.vm = .none) (hcl : s.vm.findClass E = some ce.cls)
    (kk : W p l e R s m args below meth c H locs cells slots Q (F0 m x.handlerPc ls [.ref q])) : vx_W p l e R s m args below meth c H locs cells slots Q (F0 m pc ls rest) q := by
  intro T hT X
  have hpl : e.platform.magicAccessors = ({} : Platform).magicAccessors := by rw [X.admits.platform]
  obtain ⟨c3, c4, hc3, hc4, hasg⟩ := Cond.castable_spec hcast
  cases Option.some.inj (hc3.symm.trans hcl)
  obtain ⟨c5, hc5, hcl5⟩ := Cond.classLink_spec hown hlink e.platform hpl
  cases Option.some.inj (hc4.symm.trans hc5)
  obtain ⟨vm', X', st⟩ := X.thenCaughtThrough q (g := F0 m pc ls rest) rfl (Steps.refl _) (by rw [hT]; exact hcell) (by rw [hv]; rfl) (by obtain ⟨k9, h9, -⟩ := Vm.findClass_spec hcl; exact ⟨k9, h9⟩) pre x suf hsplit
    (fun z hz => by
      rcases hpass z hz with h | ⟨hz0, nm, hl1, hn1⟩
      · exact Or.inl h
      · obtain ⟨c6, hc6, hcl6⟩ := Cond.classLink_spec hown hl1 e.platform hpl
        obtain ⟨a8, b8, h1, h2, h3⟩ := hn1
        cases Option.some.inj (h1.symm.trans hcl)
        cases Option.some.inj (h2.symm.trans hc6)
        exact Or.inr ⟨hz0, _, hcl6, h3⟩) hx (Or.inr ⟨h0, c4, hcl5, hasg⟩)
  obtain ⟨t, a1, b1⟩ := kk (T.setVm vm') hT X'
  exact ⟨t, st.trans a1, b1⟩
end Rows
section Ends
variable {p : Program} {l : Launch} {e : Env} {R : Room} {s : State} {m : MethodId} {args : Array Value} {below : List Frame} {meth : Method} {c : Code} {H : Heap} {locs : List Loc} {cells slots : Nat} {Q : State → Prop}
variable {mc ms : Nat} {free : Addr → Prop} {A0 A1 : Nat → Prop} {H0 : Heap} {a : Array Value} {ls : Array Slot} {st0 rest : List Value}
variable {Qc : Array Value → State → Outcome → State → Prop} {XC : String → State → State → Prop}
/-- what a body that may throw owes at its end -/
def vx_MQ (below : List Frame) (Qc : Array Value → State → Outcome → State → Prop) (XC : String → State → State → Prop) (a : Array Value) (s : State) (mc ms : Nat) (free : Addr → Prop) : State → Prop := fun t =>
  ∃ o, t.status = .running ∧ Ended t below o ∧ vx_Q Qc XC mc ms free a s o t
theorem vx_ret {g : JFrame} {mc ms : Nat} (k : W p l e R s m args below meth c H locs cells slots (MQ below Qc args s mc ms free) g) : W p l e R s m args below meth c H locs cells slots (vx_MQ below Qc XC args s mc ms free) g := by
  intro T hT X
  obtain ⟨t, a1, o, b1, b2, b3, b4⟩ := k T hT X
  exact ⟨t, a1, o, b1, b2, Or.inl ⟨b3, b4⟩⟩
/-- not caught here: it goes on to the caller -/
theorem vx_widen {g : JFrame} {q : Addr} {k n : Nat} (h1 : cells ≤ k) (h2 : slots ≤ n) (kk : vx_W p l e R s m args below meth c H locs k n Q g q) : vx_W p l e R s m args below meth c H locs cells slots Q g q := fun T hT X => kk T hT (stand_widen X h1 h2)
theorem vx_out {pc : Nat} {E : String} {ce : Cell} {q : Addr} {mc ms : Nat} (hout : ∀ x ∈ c.exceptionTable.toList, covers x pc = false) (hlocks : meth.locks = false) (hcell : H[q]? = some ce) (hv : ce.vm = .none) (hcl : s.vm.findClass E = some ce.cls)
    (hx : ∀ t : State, t.heap = H → s.vm.Alike t.vm → XC E s t) (hf : ∀ z ∈ locs, free z.base) (hc : cells ≤ mc) (hs : slots ≤ ms) :
    vx_W p l e R s m args below meth c H locs cells slots (vx_MQ below Qc XC args s mc ms free) (F0 m pc ls rest) q := by
  intro T hT X
  obtain ⟨st1, hrun, hend, hW, hsm⟩ := X.leaveThrown q (g := F0 m pc ls rest) rfl rfl rfl hout hlocks
  have hcell9 : (T.setFrames (.throwing q :: below)).heap[q]? = some ce := by
    show T.heap[q]? = some ce
    rw [hT]; exact hcell
  exact ⟨_, st1, .threw q, hrun, hend, Or.inr ⟨q, rfl, E, ce, locs, hx _ hT hW.alike, hcell9, hv, hcl, hW, hsm.mono hc hs, hf⟩⟩
theorem vx_frame {U : State} {k n : Nat} (h : s.sameButNew ({ U with vm := s.vm } : State) locs k n) : s.heap.size ≤ U.heap.size ∧ ∀ q : Nat, q < s.heap.size → (∀ z ∈ locs, z.base ≠ q) → U.heap[q]? = s.heap[q]? := by
  obtain ⟨-, h2, -, -, -, h6⟩ := h
  refine ⟨h2, fun q hq hz => ?_⟩
  obtain ⟨c9, e1, e2, e3, e4⟩ := h6 q _ (Array.getElem?_eq_getElem hq)
  have hs : c9.slots = (s.heap[q]).slots := Array.ext_getElem? fun i => e4 i fun hm => hz _ hm rfl
  have h9 : c9 = s.heap[q] := by
    rw [hs] at e2
    exact e2
  have e5 : U.heap[q]? = some c9 := e1
  rw [e5, h9, Array.getElem?_eq_getElem hq]
/-- the words of a throw but the four that speak of the heap -/
def vx_no (w : Cond) : Bool := decide (w ≠ .isRef (.static Bundle.tN "UNASSIGNED_STACK" Bundle.steD)) && decide (w ≠ .isRef (.static Bundle.tN "SUPPRESSED_SENTINEL" Bundle.listD)) && decide (w ≠ .laysStatic Bundle.tN "UNASSIGNED_STACK" Bundle.steD) && decide (w ≠ .laysStatic Bundle.tN "SUPPRESSED_SENTINEL" Bundle.listD)
def vx_at0 (own : String) (ic : Nat) (X : String) (names : List String) : List Cond := (Bundle.ownAtoms0 own ic X names).filter vx_no
def vx_atS (own : String) (ic : Nat) (X : String) (names : List String) : List Cond := (Bundle.ownAtoms own ic X names).filter vx_no
/-- a word that the tables alone decide, or a good one -/
def vx_ot (w : Cond) : Bool := w.onTables || goodWord w
theorem vx_ot_at {args a' : Array Value} {s U : State} {w : Cond} (hW : s.WarmedH U.vm) (hvm : s.vm = U.vm) (hg : vx_ot w = true) (h : w.before args s = true) : w.before a' U = true := by
  simp only [vx_ot, Bool.or_eq_true] at hg
  rcases hg with hg | hg
  · exact va_tabs hg hvm h
  · exact word_at hW (good_of_word hg) h
/-- a list's words: the good ones out of the method's own list, the others by premises of their own -/
theorem vx_hat {args : Array Value} {s : State} {L B : List Cond} (h1 : ∀ w ∈ L.filter goodWord, w.before args s = true) (h2 : ∀ w ∈ L.filter (fun w => !goodWord w), w ∈ B) (h3 : ∀ w ∈ B, w.before args s = true) : ∀ w ∈ L, w.before args s = true := by
  intro w hw
  by_cases g : goodWord w = true
  · exact h1 w (List.mem_filter.mpr ⟨hw, g⟩)
  · refine h3 w (h2 w (List.mem_filter.mpr ⟨hw, ?_⟩))
    show (!goodWord w) = true
    cases hgw : goodWord w
    · rfl
    · exact absurd hgw g
theorem vx_c {args : Array Value} {s : State} {w : Cond} {B : List Cond} (h : w.before args s = true) (t : ∀ w ∈ B, w.before args s = true) : ∀ w' ∈ w :: B, w'.before args s = true := fun w' h' => (List.mem_cons.mp h').elim (fun e => by rw [e]; exact h) (t w')
theorem vx_n {args : Array Value} {s : State} : ∀ w ∈ ([] : List Cond), w.before args s = true := fun _ h => nomatch h
theorem vx_own {args : Array Value} {s : State} {L : List Cond} (h1 : ∀ w ∈ L.filter vx_no, w.before args s = true)
    (hU : (Cond.isRef (.static Bundle.tN "UNASSIGNED_STACK" Bundle.steD)).before args s = true) (hN : (Cond.isRef (.static Bundle.tN "SUPPRESSED_SENTINEL" Bundle.listD)).before args s = true)
    (lU : (Cond.laysStatic Bundle.tN "UNASSIGNED_STACK" Bundle.steD).before args s = true) (lN : (Cond.laysStatic Bundle.tN "SUPPRESSED_SENTINEL" Bundle.listD).before args s = true) : ∀ w ∈ L, w.before args s = true := by
  intro w hw
  by_cases e1 : w = .isRef (.static Bundle.tN "UNASSIGNED_STACK" Bundle.steD)
  · rw [e1]; exact hU
  · by_cases e2 : w = .isRef (.static Bundle.tN "SUPPRESSED_SENTINEL" Bundle.listD)
    · rw [e2]; exact hN
    · by_cases e3 : w = .laysStatic Bundle.tN "UNASSIGNED_STACK" Bundle.steD
      · rw [e3]; exact lU
      · by_cases e4 : w = .laysStatic Bundle.tN "SUPPRESSED_SENTINEL" Bundle.listD
        · rw [e4]; exact lN
        · exact h1 w (List.mem_filter.mpr ⟨hw, by unfold vx_no; rw [decide_eq_true e1, decide_eq_true e2, decide_eq_true e3, decide_eq_true e4]; rfl⟩)
/-- where a static field lies, its class's statics cell in H -/
def vx_L (C n d : String) (A : Nat → Prop) (U : State) (H : Heap) : Prop := ∃ (c : ClassId) (k : Class) (i : Nat) (f : Field) (a : Nat) (cell : Cell), U.vm.findClass C = some c ∧ U.fieldFound? C n d = some (c, k, i, f) ∧ f.isStatic = true ∧ k.statics = some a ∧ H[a]? = some cell ∧ cell.vm.isStatics = true ∧ cell.cls = c ∧ f.slot < cell.slots.size ∧ k.staticTypes[f.slot]? = some f.type ∧ ¬ A a
theorem vx_L.moved {C n d : String} {A : Nat → Prop} {u U : State} {H : Heap} (hvm : u.vm.Alike U.vm) (h : vx_L C n d A u H) : vx_L C n d A U H := by
  obtain ⟨c, k, i, f, a, cell, h1, h2, h3, h4, h5, h6, h7, h8, h9, h10⟩ := h
  obtain ⟨k', hi', he⟩ := State.fieldFound?_setVm hvm h2
  exact ⟨c, k', i, f, a, cell, by rw [hvm.findClass]; exact h1, hi', h3, by rw [he]; exact h4, h5, h6, h7, h8, by rw [he]; exact h9, h10⟩
theorem vx_L.kept {C n d : String} {A : Nat → Prop} {U : State} {H H1 : Heap} (h : vx_L C n d A U H) (hq : ∀ a : Nat, a < H.size → ¬ A a → H1[a]? = H[a]?) : vx_L C n d A U H1 := by
  obtain ⟨c, k, i, f, a, cell, h1, h2, h3, h4, h5, h6, h7, h8, h9, h10⟩ := h
  exact ⟨c, k, i, f, a, cell, h1, h2, h3, h4, by rw [hq a (Array.getElem?_eq_some_iff.mp h5).1 h10]; exact h5, h6, h7, h8, h9, h10⟩
theorem vx_L.narrow {C n d : String} {A B : Nat → Prop} {U : State} {H : Heap} (h : vx_L C n d A U H) (hAB : ∀ q, B q → A q) : vx_L C n d B U H := by
  obtain ⟨c, k, i, f, a, cell, h1, h2, h3, h4, h5, h6, h7, h8, h9, h10⟩ := h
  exact ⟨c, k, i, f, a, cell, h1, h2, h3, h4, h5, h6, h7, h8, h9, fun z => h10 (hAB _ z)⟩
theorem vx_L.word {C n d : String} {A : Nat → Prop} {s : State} {args : Array Value} (h : vx_L C n d A s s.heap) : (Cond.laysStatic C n d).before args s = true := by
  obtain ⟨c, k, i, f, a, cell, h1, h2, h3, h4, h5, h6, h7, h8, h9, -⟩ := h
  show (Cond.laysStatic C n d).holds args s none s [] = true
  exact Cond.laysStatic_of h1 h2 h3 h4 h5 h6 h7 h8 h9
/-- .. and what it holds: null or some reference -/
def vx_Zq (C n d : String) (A : Nat → Prop) (U : State) (H : Heap) : Prop := va_Zq C n d A U H ∧ vx_L C n d A U H
theorem vx_Zq.moved {C n d : String} {A : Nat → Prop} {u U : State} {H : Heap} (hvm : u.vm.Alike U.vm) (h : vx_Zq C n d A u H) : vx_Zq C n d A U H := ⟨va_Zq.moved hvm h.1, vx_L.moved hvm h.2⟩
theorem vx_Zq.kept {C n d : String} {A : Nat → Prop} {U : State} {H H1 : Heap} (h : vx_Zq C n d A U H) (hq : ∀ a : Nat, a < H.size → ¬ A a → H1[a]? = H[a]?) : vx_Zq C n d A U H1 := ⟨va_Zq.kept h.1 hq, vx_L.kept h.2 hq⟩
theorem vx_Zq.narrow {C n d : String} {A B : Nat → Prop} {U : State} {H : Heap} (h : vx_Zq C n d A U H) (hAB : ∀ q, B q → A q) : vx_Zq C n d B U H := ⟨va_Zq.narrow h.1 hAB, vx_L.narrow h.2 hAB⟩
theorem vx_Zqof {args : Array Value} {s : State} {C n d : String} {A : Nat → Prop} (hl : (Cond.laysStatic C n d).before args s = true) (hini : (Cond.initialized C).before args s = true) (h : (Cond.isRef (.static C n d)).before args s = true) (hA : ∀ a : Nat, a < s.heap.size → ¬ A a) : vx_Zq C n d A s s.heap := by
  refine ⟨va_Zqof hl hini h hA, ?_⟩
  obtain ⟨c, k, i, f, a, cell, h1, h2, h3, h4, h5, h6, h7, h8, h9⟩ := Cond.laysStatic_spec hl
  exact ⟨c, k, i, f, a, cell, h1, h2, h3, h4, h5, h6, h7, h8, h9, hA a (Array.getElem?_eq_some_iff.mp h5).1⟩
theorem vx_isRef {C n d : String} {v : Value} {A : Nat → Prop} {s : State} {args : Array Value} (h : va_Z C n d v A s s.heap) (hv : v.isRef = true) : (Cond.isRef (.static C n d)).before args s = true := by
  obtain ⟨cf, kf, fi, f, a, cell, h1, h2, h3, h4, h5, h6, h7, -⟩ := h
  have he : (Term.static C n d).eval args s none [] s = some v := by
    simp [Term.eval, State.fieldNamed?, h1, h2, h4, h5, h6, h7]
  simp only [Cond.before, Cond.holds, Cond.value, he]
  cases v <;> simp_all [Value.isRef]
theorem vx_isRefq {C n d : String} {A : Nat → Prop} {s : State} {args : Array Value} (h : va_Zq C n d A s s.heap) : (Cond.isRef (.static C n d)).before args s = true := by
  rcases h with h | ⟨t, h⟩
  · exact vx_isRef h rfl
  · exact vx_isRef h rfl
/-- the same frame, seen from here: as if the method were called anew in this heap -/
theorem vx_rebase {T : State} (X : Stand p l e R s m args below meth c T locs cells slots) {R' : Room} (hf : R'.frames ≤ R.frames) (hl : R'.locals ≤ R.locals) (hc : cells + R'.cells ≤ R.cells) (hs : slots + R'.slots ≤ R.slots) :
    Stand p l e R' ((T.setVm s.vm).setFrames (.invoking m args :: below)) m args below meth c T [] 0 0 := by
  have htop : (T.setVm s.vm).topJava?.isSome := X.here.top
  have hF : ((T.setVm s.vm).setFrames (.invoking m args :: below)).frames = .invoking m args :: below := State.frames_setFrames _ (State.cur_lt_of_top htop)
  obtain ⟨g₀, hg0⟩ := Option.isSome_iff_exists.mp htop
  obtain ⟨r, hr⟩ := State.topJava?_eq_some.mp hg0
  have hl9 : e.platform.stackLimits (T.setVm s.vm).me = e.platform.stackLimits s.me := X.limits
  have hb9 : (T.setVm s.vm).me.stackBytes = s.me.stackBytes := X.bytes
  refine ⟨X.admits, X.cas, X.clock, hF, ?_, X.hears, X.method, X.code, X.here, X.tail, X.warmed, ?_, ?_, ?_⟩
  · have h := X.room
    have hU : ((T.setVm s.vm).setFrames (.invoking m args :: below)).localsInUse = s.localsInUse := by
      rw [State.localsInUse_invoking hF (meth := meth) (c := c) X.method X.code, State.localsInUse_invoking X.frames X.method X.code]
    simp only [State.hasRoom, Bool.and_eq_true, decide_eq_true_eq] at h ⊢
    obtain ⟨⟨⟨⟨h1, h2, h3, h4, h5, h6⟩, h7⟩, h8⟩, h9⟩ := h
    rw [X.frames, List.length_cons] at h2 h3
    have q1 := X.heapSize
    have q2 := X.used
    simp only [hF, hU, List.length_cons, State.stackLimits_setFrames, State.stackBytes_setFrames, hl9, hb9]
    refine ⟨⟨⟨⟨by omega, by omega, by omega, by omega, by omega, h6⟩, ?_⟩, ?_⟩, X.book⟩
    · show T.heap.size + R'.cells ≤ e.platform.maxCells
      omega
    · show T.slotsUsed + R'.slots ≤ e.platform.maxSlots
      omega
  · rw [State.stackLimits_setFrames]; rfl
  · rw [State.stackBytes_setFrames]; rfl
  · refine ⟨?_, Nat.le_refl _, Nat.le_refl _, ?_, ?_, fun a c9 h9 => ⟨c9, h9, rfl, rfl, fun _ _ => rfl⟩⟩
    · obtain ⟨t, ht, -⟩ := State.frames_cons hr
      show T.setVm s.vm = { ((T.setVm s.vm).setFrames (.invoking m args :: below)).setFrames (T.setVm s.vm).frames with heap := T.heap, slotsUsed := T.slotsUsed }
      rw [State.setFrames_setFrames, State.setFrames_self ht]
      rfl
    · show T.slotsUsed = T.slotsUsed + ((T.heap.toList.drop T.heap.size).map (·.slots.size)).sum
      rw [List.drop_eq_nil_of_le (Nat.le_of_eq Array.length_toList)]
      rfl
    · show ((T.heap.toList.drop T.heap.size).map (·.slots.size)).sum ≤ 0
      rw [List.drop_eq_nil_of_le (Nat.le_of_eq Array.length_toList)]
      exact Nat.le_refl _
/-- 'throw new E()': new; dup; invokespecial; athrow -/
theorem vx_throw0 {cc : ByteArray} {pc : Nat} (hexec : p.tables.exec = Jvm.exec) (hb : c.code = cc) (hl : l.stackTraces = false) {own cls : String} {names : List String} {ik ic mc ms : Nat} {A : Nat → Prop}
    (hown : s.vm.findClass own = some m.cls) (hcls : Bundle.fit cls = true) (hnames : ∀ n ∈ names, Bundle.fit n = true)
    (hk : (Cond.classLink own ik cls).before args s = true) (hini : (Cond.initialized cls).before args s = true) (hat : ∀ w ∈ vx_at0 own ic cls names, w.before args s = true)
    (hgood : ∀ w ∈ Cond.classLink own ik cls :: Cond.initialized cls :: vx_at0 own ic cls names, vx_ot w = true)
    (hU : vx_Zq Bundle.tN "UNASSIGNED_STACK" Bundle.steD A s s.heap) (hN : vx_Zq Bundle.tN "SUPPRESSED_SENTINEL" Bundle.listD A s s.heap) (hS : va_S A s.heap H locs) (hsize : ls.size = c.maxLocals)
    (d0 : decode cc pc = .ok (.new ik, 3)) (d3 : decode cc (pc + 3) = .ok (.dup, 1)) (d4 : decode cc (pc + 4) = .ok (.invokespecial ic, 3)) (d7 : decode cc (pc + 7) = .ok (.athrow, 1))
    (hout : ∀ x ∈ c.exceptionTable.toList, covers x (pc + 7) = false)
    (hRframes : names.length + 3 < R.frames) (hRlocals : (rest.map fun v => v.category).sum + (13 * (names.length + 1) + 42) ≤ R.locals) (hRcells : cells + 1 ≤ R.cells) (hRslots : slots + 6 ≤ R.slots) (hlocks : meth.locks = false)
    (hx : ∀ t : State, s.vm.Alike t.vm → H.size ≤ t.heap.size → (∀ q : Nat, q < H.size → t.heap[q]? = H[q]?) → XC cls s t)
    (hf : ∀ z ∈ locs, free z.base) (hc : cells + 1 ≤ mc) (hs : slots + 6 ≤ ms) :
    W p l e R s m args below meth c H locs cells slots (vx_MQ below Qc XC args s mc ms free) (F0 m pc ls rest) := by
  intro T hT X
  have htr : e.platform.stackTraces = false := (show e.platform.stackTraces = l.stackTraces by rw [X.admits.platform]).trans hl
  have Y := vx_rebase X (R' := { frames := R.frames, locals := R.locals, cells := 1, slots := 6 }) (Nat.le_refl _) (Nat.le_refl _) hRcells hRslots
  obtain ⟨s', hA⟩ : ∃ z, z = (T.setVm s.vm).setFrames (.invoking m args :: below) := ⟨_, rfl⟩
  rw [← hA] at Y
  have hvm : s'.vm = s.vm := by rw [hA]; rfl
  have hhp : s'.heap = H := by rw [hA]; exact hT
  have hW0 : s.WarmedH s'.vm := by rw [hvm]; exact State.WarmedH.refl s
  have hat' : ∀ w ∈ vx_at0 own ic cls names, w.before args s' = true := fun w hw => vx_ot_at hW0 hvm.symm (hgood w (List.mem_cons_of_mem _ (List.mem_cons_of_mem _ hw))) (hat w hw)
  have hk' : (Cond.classLink own ik cls).before args s' = true := vx_ot_at hW0 hvm.symm (hgood _ List.mem_cons_self) hk
  have hini' : (Cond.initialized cls).before args s' = true := vx_ot_at hW0 hvm.symm (hgood _ (List.mem_cons_of_mem _ List.mem_cons_self)) hini
  have hU' : vx_Zq Bundle.tN "UNASSIGNED_STACK" Bundle.steD A s' s'.heap := by rw [hhp]; exact vx_Zq.moved hW0.alike (hU.kept hS.2.1)
  have hN' : vx_Zq Bundle.tN "SUPPRESSED_SENTINEL" Bundle.listD A s' s'.heap := by rw [hhp]; exact vx_Zq.moved hW0.alike (hN.kept hS.2.1)
  have h : ∀ w ∈ Bundle.ownAtoms0 own ic cls names, w.before args s' = true := vx_own hat' (vx_isRefq hU'.1) (vx_isRefq hN'.1) hU'.2.word hN'.2.word
  have hown' : s'.vm.findClass own = some m.cls := by rw [hvm]; exact hown
  have hins : (Cond.instantiable cls 6).before args s' = true := h _ (by simp [Bundle.ownAtoms0])
  obtain ⟨vm₁, cX, kX, hfX, hkX, -, -, X₁, st1⟩ := Y.newCold hexec (own := own) (C := cls) (index := ik) (n := 6) hown' hk' hins hini'
    (g := F0 m pc ls rest) rfl (by rw [hb]; exact d0) (Nat.le_refl _) (Nat.le_refl _)
  generalize hT1 : (T.setVm vm₁).pushCell { cls := cX, slots := kX.instanceTypes.map defaultValue, vm := .none } = T1 at X₁ st1
  have hcat : (Value.ref T.heap.size).category = 1 := rfl
  have hcellA : T1.heap[T.heap.size]? = some (freshCell cX kX) := by rw [← hT1]; exact State.heap_pushCell_size _ _
  have d3' : decode c.code (pc + 3) = .ok (.dup, 1) := by rw [hb]; exact d3
  obtain ⟨U, hsteps, hrun, hend, hW, hsame, ce, hce, hO⟩ := X₁.ctorThrow0 hexec htr (own := own) (cls := cls) (names := names) (ic := ic) hown' hcls hnames h (fun x hx => nomatch hx) hfX hkX hcellA (by rw [hhp, hT]; exact Nat.le_refl _)
    (g := { method := m, pc := pc + 4, locals := ls, stack := .ref T.heap.size :: .ref T.heap.size :: rest, locked := none }) rfl hsize rfl rfl (rest := rest) rfl
    (by rw [hb]; exact d4) (by rw [hb]; exact d7) hout hRframes (by simp only [List.map_cons, List.sum_cons, hcat]; omega) hlocks
  obtain ⟨f1, f2⟩ := vx_frame hsame
  rw [hhp] at f1 f2
  have hWs : s.WarmedH U.vm := State.WarmedH.trans hW0 hW
  have hcl : s.vm.findClass cls = some ce.cls := by
    have h9 := hO.cls
    rw [hvm] at h9
    exact h9
  have hall : s.sameButNew ({ U with vm := s.vm } : State) locs mc ms := by
    subst hA
    obtain ⟨e1, e2⟩ := hsame
    rw [State.setFrames_setFrames] at e1
    have h2 : (T.setVm s.vm).sameButNew ({ U with vm := s.vm } : State) [] (0 + 1) (0 + 6) := ⟨e1, e2⟩
    have h3 := X.same.trans h2
    rw [List.append_nil] at h3
    exact h3.mono hc hs
  refine ⟨U, ?_, .threw T.heap.size, hrun, hend, Or.inr ⟨T.heap.size, rfl, cls, ce, locs, hx U hWs.alike f1 (fun q hq => f2 q hq (fun z hz => nomatch hz)), hce, hO.vm, hcl, hWs, hall, hf⟩⟩
  refine st1 _ ?_
  show Steps p.tables e below (T1.setTop { method := m, pc := pc + 3, locals := ls, stack := .ref T.heap.size :: rest, locked := none }) _
  jvm_step X₁.here [X₁.here.top, hexec, d3', Value.category]
  exact hsteps
/-- 'throw new E("text")': new; dup; ldc; invokespecial; athrow -/
theorem vx_throwS {cc : ByteArray} {pc : Nat} (hexec : p.tables.exec = Jvm.exec) (hb : c.code = cc) (hl : l.stackTraces = false) {own cls text : String} {names : List String} {ik is ic mc ms sa : Nat} {A : Nat → Prop}
    (hown : s.vm.findClass own = some m.cls) (hcls : Bundle.fit cls = true) (hnames : ∀ n ∈ names, Bundle.fit n = true)
    (hk : (Cond.classLink own ik cls).before args s = true) (hini : (Cond.initialized cls).before args s = true) (hstr : vk_R own is text sa s) (hat : ∀ w ∈ vx_atS own ic cls names, w.before args s = true)
    (hgood : ∀ w ∈ Cond.classLink own ik cls :: Cond.initialized cls :: vx_atS own ic cls names, vx_ot w = true)
    (hU : vx_Zq Bundle.tN "UNASSIGNED_STACK" Bundle.steD A s s.heap) (hN : vx_Zq Bundle.tN "SUPPRESSED_SENTINEL" Bundle.listD A s s.heap) (hS : va_S A s.heap H locs) (hsize : ls.size = c.maxLocals)
    (d0 : decode cc pc = .ok (.new ik, 3)) (d3 : decode cc (pc + 3) = .ok (.dup, 1)) (d4 : decode cc (pc + 4) = .ok (.ldc is, 2)) (d6 : decode cc (pc + 6) = .ok (.invokespecial ic, 3)) (d9 : decode cc (pc + 9) = .ok (.athrow, 1))
    (hout : ∀ x ∈ c.exceptionTable.toList, covers x (pc + 9) = false)
    (hRframes : names.length + 3 < R.frames) (hRlocals : (rest.map fun v => v.category).sum + (13 * (names.length + 1) + 43) ≤ R.locals) (hRcells : cells + 1 ≤ R.cells) (hRslots : slots + 6 ≤ R.slots) (hlocks : meth.locks = false)
    (hx : ∀ t : State, s.vm.Alike t.vm → H.size ≤ t.heap.size → (∀ q : Nat, q < H.size → t.heap[q]? = H[q]?) → XC cls s t)
    (hf : ∀ z ∈ locs, free z.base) (hc : cells + 1 ≤ mc) (hs : slots + 6 ≤ ms) :
    W p l e R s m args below meth c H locs cells slots (vx_MQ below Qc XC args s mc ms free) (F0 m pc ls rest) := by
  intro T hT X
  have htr : e.platform.stackTraces = false := (show e.platform.stackTraces = l.stackTraces by rw [X.admits.platform]).trans hl
  have Y := vx_rebase X (R' := { frames := R.frames, locals := R.locals, cells := 1, slots := 6 }) (Nat.le_refl _) (Nat.le_refl _) hRcells hRslots
  obtain ⟨s', hA⟩ : ∃ z, z = (T.setVm s.vm).setFrames (.invoking m args :: below) := ⟨_, rfl⟩
  rw [← hA] at Y
  have hvm : s'.vm = s.vm := by rw [hA]; rfl
  have hhp : s'.heap = H := by rw [hA]; exact hT
  have hW0 : s.WarmedH s'.vm := by rw [hvm]; exact State.WarmedH.refl s
  have hat' : ∀ w ∈ vx_atS own ic cls names, w.before args s' = true := fun w hw => vx_ot_at hW0 hvm.symm (hgood w (List.mem_cons_of_mem _ (List.mem_cons_of_mem _ hw))) (hat w hw)
  have hk' : (Cond.classLink own ik cls).before args s' = true := vx_ot_at hW0 hvm.symm (hgood _ List.mem_cons_self) hk
  have hini' : (Cond.initialized cls).before args s' = true := vx_ot_at hW0 hvm.symm (hgood _ (List.mem_cons_of_mem _ List.mem_cons_self)) hini
  have hU' : vx_Zq Bundle.tN "UNASSIGNED_STACK" Bundle.steD A s' s'.heap := by rw [hhp]; exact vx_Zq.moved hW0.alike (hU.kept hS.2.1)
  have hN' : vx_Zq Bundle.tN "SUPPRESSED_SENTINEL" Bundle.listD A s' s'.heap := by rw [hhp]; exact vx_Zq.moved hW0.alike (hN.kept hS.2.1)
  have h : ∀ w ∈ Bundle.ownAtoms own ic cls names, w.before args s' = true := vx_own hat' (vx_isRefq hU'.1) (vx_isRefq hN'.1) hU'.2.word hN'.2.word
  have hown' : s'.vm.findClass own = some m.cls := by rw [hvm]; exact hown
  have hins : (Cond.instantiable cls 6).before args s' = true := h _ (by simp [Bundle.ownAtoms])
  obtain ⟨vm₁, cX, kX, hfX, hkX, -, -, X₁, st1⟩ := Y.newCold hexec (own := own) (C := cls) (index := ik) (n := 6) hown' hk' hins hini'
    (g := F0 m pc ls rest) rfl (by rw [hb]; exact d0) (Nat.le_refl _) (Nat.le_refl _)
  generalize hT1 : (T.setVm vm₁).pushCell { cls := cX, slots := kX.instanceTypes.map defaultValue, vm := .none } = T1 at X₁ st1
  have hcat : (Value.ref T.heap.size).category = 1 := rfl
  have hcellA : T1.heap[T.heap.size]? = some (freshCell cX kX) := by rw [← hT1]; exact State.heap_pushCell_size _ _
  have d3' : decode c.code (pc + 3) = .ok (.dup, 1) := by rw [hb]; exact d3
  have d4' : decode c.code (pc + 4) = .ok (.ldc is, 2) := by rw [hb]; exact d4
  have hstr' : vk_R own is text sa s' := vk_R.warm hW0 hstr
  obtain ⟨U, hsteps, hrun, hend, hW, hsame, ce, hce, hO⟩ := X₁.ctorThrowS hexec htr (own := own) (cls := cls) (names := names) (ic := ic) hown' hcls hnames h (fun x hx => nomatch hx) hfX hkX hcellA (by rw [hhp, hT]; exact Nat.le_refl _) (msg := .ref sa) rfl
    (g := { method := m, pc := pc + 6, locals := ls, stack := .ref sa :: .ref T.heap.size :: .ref T.heap.size :: rest, locked := none }) rfl hsize rfl rfl (rest := rest) rfl
    (by rw [hb]; exact d6) (by rw [hb]; exact d9) hout hRframes (by simp only [List.map_cons, List.sum_cons, hcat]; omega) hlocks
  obtain ⟨f1, f2⟩ := vx_frame hsame
  rw [hhp] at f1 f2
  have hWs : s.WarmedH U.vm := State.WarmedH.trans hW0 hW
  have hcl : s.vm.findClass cls = some ce.cls := by
    have h9 := hO.cls
    rw [hvm] at h9
    exact h9
  have hall : s.sameButNew ({ U with vm := s.vm } : State) locs mc ms := by
    subst hA
    obtain ⟨e1, e2⟩ := hsame
    rw [State.setFrames_setFrames] at e1
    have h2 : (T.setVm s.vm).sameButNew ({ U with vm := s.vm } : State) [] (0 + 1) (0 + 6) := ⟨e1, e2⟩
    have h3 := X.same.trans h2
    rw [List.append_nil] at h3
    exact h3.mono hc hs
  refine ⟨U, ?_, .threw T.heap.size, hrun, hend, Or.inr ⟨T.heap.size, rfl, cls, ce, locs, hx U hWs.alike f1 (fun q hq => f2 q hq (fun z hz => nomatch hz)), hce, hO.vm, hcl, hWs, hall, hf⟩⟩
  refine st1 _ ?_
  show Steps p.tables e below (T1.setTop { method := m, pc := pc + 3, locals := ls, stack := .ref T.heap.size :: rest, locked := none }) _
  jvm_step X₁.here [X₁.here.top, hexec, d3', Value.category]
  exact X₁.ldcString hexec (own := own) (text := text) (index := is) (a := sa) hown' hstr'.1 hstr'.2
    (g := { method := m, pc := pc + 4, locals := ls, stack := .ref T.heap.size :: .ref T.heap.size :: rest, locked := none }) rfl d4' _ hsteps
/-- 'throw new E("text")', the text by a wide index -/
theorem vx_throwSW {cc : ByteArray} {pc : Nat} (hexec : p.tables.exec = Jvm.exec) (hb : c.code = cc) (hl : l.stackTraces = false) {own cls text : String} {names : List String} {ik is ic mc ms sa : Nat} {A : Nat → Prop}
    (hown : s.vm.findClass own = some m.cls) (hcls : Bundle.fit cls = true) (hnames : ∀ n ∈ names, Bundle.fit n = true)
    (hk : (Cond.classLink own ik cls).before args s = true) (hini : (Cond.initialized cls).before args s = true) (hstr : vk_R own is text sa s) (hat : ∀ w ∈ vx_atS own ic cls names, w.before args s = true)
    (hgood : ∀ w ∈ Cond.classLink own ik cls :: Cond.initialized cls :: vx_atS own ic cls names, vx_ot w = true)
    (hU : vx_Zq Bundle.tN "UNASSIGNED_STACK" Bundle.steD A s s.heap) (hN : vx_Zq Bundle.tN "SUPPRESSED_SENTINEL" Bundle.listD A s s.heap) (hS : va_S A s.heap H locs) (hsize : ls.size = c.maxLocals)
    (d0 : decode cc pc = .ok (.new ik, 3)) (d3 : decode cc (pc + 3) = .ok (.dup, 1)) (d4 : decode cc (pc + 4) = .ok (.ldc_w is, 3)) (d7 : decode cc (pc + 7) = .ok (.invokespecial ic, 3)) (d10 : decode cc (pc + 10) = .ok (.athrow, 1))
    (hout : ∀ x ∈ c.exceptionTable.toList, covers x (pc + 10) = false)
    (hRframes : names.length + 3 < R.frames) (hRlocals : (rest.map fun v => v.category).sum + (13 * (names.length + 1) + 43) ≤ R.locals) (hRcells : cells + 1 ≤ R.cells) (hRslots : slots + 6 ≤ R.slots) (hlocks : meth.locks = false)
    (hx : ∀ t : State, s.vm.Alike t.vm → H.size ≤ t.heap.size → (∀ q : Nat, q < H.size → t.heap[q]? = H[q]?) → XC cls s t)
    (hf : ∀ z ∈ locs, free z.base) (hc : cells + 1 ≤ mc) (hs : slots + 6 ≤ ms) :
    W p l e R s m args below meth c H locs cells slots (vx_MQ below Qc XC args s mc ms free) (F0 m pc ls rest) := by
  intro T hT X
  have htr : e.platform.stackTraces = false := (show e.platform.stackTraces = l.stackTraces by rw [X.admits.platform]).trans hl
  have Y := vx_rebase X (R' := { frames := R.frames, locals := R.locals, cells := 1, slots := 6 }) (Nat.le_refl _) (Nat.le_refl _) hRcells hRslots
  obtain ⟨s', hA⟩ : ∃ z, z = (T.setVm s.vm).setFrames (.invoking m args :: below) := ⟨_, rfl⟩
  rw [← hA] at Y
  have hvm : s'.vm = s.vm := by rw [hA]; rfl
  have hhp : s'.heap = H := by rw [hA]; exact hT
  have hW0 : s.WarmedH s'.vm := by rw [hvm]; exact State.WarmedH.refl s
  have hat' : ∀ w ∈ vx_atS own ic cls names, w.before args s' = true := fun w hw => vx_ot_at hW0 hvm.symm (hgood w (List.mem_cons_of_mem _ (List.mem_cons_of_mem _ hw))) (hat w hw)
  have hk' : (Cond.classLink own ik cls).before args s' = true := vx_ot_at hW0 hvm.symm (hgood _ List.mem_cons_self) hk
  have hini' : (Cond.initialized cls).before args s' = true := vx_ot_at hW0 hvm.symm (hgood _ (List.mem_cons_of_mem _ List.mem_cons_self)) hini
  have hU' : vx_Zq Bundle.tN "UNASSIGNED_STACK" Bundle.steD A s' s'.heap := by rw [hhp]; exact vx_Zq.moved hW0.alike (hU.kept hS.2.1)
  have hN' : vx_Zq Bundle.tN "SUPPRESSED_SENTINEL" Bundle.listD A s' s'.heap := by rw [hhp]; exact vx_Zq.moved hW0.alike (hN.kept hS.2.1)
  have h : ∀ w ∈ Bundle.ownAtoms own ic cls names, w.before args s' = true := vx_own hat' (vx_isRefq hU'.1) (vx_isRefq hN'.1) hU'.2.word hN'.2.word
  have hown' : s'.vm.findClass own = some m.cls := by rw [hvm]; exact hown
  have hins : (Cond.instantiable cls 6).before args s' = true := h _ (by simp [Bundle.ownAtoms])
  obtain ⟨vm₁, cX, kX, hfX, hkX, -, -, X₁, st1⟩ := Y.newCold hexec (own := own) (C := cls) (index := ik) (n := 6) hown' hk' hins hini'
    (g := F0 m pc ls rest) rfl (by rw [hb]; exact d0) (Nat.le_refl _) (Nat.le_refl _)
  generalize hT1 : (T.setVm vm₁).pushCell { cls := cX, slots := kX.instanceTypes.map defaultValue, vm := .none } = T1 at X₁ st1
  have hcat : (Value.ref T.heap.size).category = 1 := rfl
  have hcellA : T1.heap[T.heap.size]? = some (freshCell cX kX) := by rw [← hT1]; exact State.heap_pushCell_size _ _
  have d3' : decode c.code (pc + 3) = .ok (.dup, 1) := by rw [hb]; exact d3
  have d4' : decode c.code (pc + 4) = .ok (.ldc_w is, 3) := by rw [hb]; exact d4
  have hstr' : vk_R own is text sa s' := vk_R.warm hW0 hstr
  obtain ⟨U, hsteps, hrun, hend, hW, hsame, ce, hce, hO⟩ := X₁.ctorThrowS hexec htr (own := own) (cls := cls) (names := names) (ic := ic) hown' hcls hnames h (fun x hx => nomatch hx) hfX hkX hcellA (by rw [hhp, hT]; exact Nat.le_refl _) (msg := .ref sa) rfl
    (g := { method := m, pc := pc + 7, locals := ls, stack := .ref sa :: .ref T.heap.size :: .ref T.heap.size :: rest, locked := none }) rfl hsize rfl rfl (rest := rest) rfl
    (by rw [hb]; exact d7) (by rw [hb]; exact d10) hout hRframes (by simp only [List.map_cons, List.sum_cons, hcat]; omega) hlocks
  obtain ⟨f1, f2⟩ := vx_frame hsame
  rw [hhp] at f1 f2
  have hWs : s.WarmedH U.vm := State.WarmedH.trans hW0 hW
  have hcl : s.vm.findClass cls = some ce.cls := by
    have h9 := hO.cls
    rw [hvm] at h9
    exact h9
  have hall : s.sameButNew ({ U with vm := s.vm } : State) locs mc ms := by
    subst hA
    obtain ⟨e1, e2⟩ := hsame
    rw [State.setFrames_setFrames] at e1
    have h2 : (T.setVm s.vm).sameButNew ({ U with vm := s.vm } : State) [] (0 + 1) (0 + 6) := ⟨e1, e2⟩
    have h3 := X.same.trans h2
    rw [List.append_nil] at h3
    exact h3.mono hc hs
  refine ⟨U, ?_, .threw T.heap.size, hrun, hend, Or.inr ⟨T.heap.size, rfl, cls, ce, locs, hx U hWs.alike f1 (fun q hq => f2 q hq (fun z hz => nomatch hz)), hce, hO.vm, hcl, hWs, hall, hf⟩⟩
  refine st1 _ ?_
  show Steps p.tables e below (T1.setTop { method := m, pc := pc + 3, locals := ls, stack := .ref T.heap.size :: rest, locked := none }) _
  jvm_step X₁.here [X₁.here.top, hexec, d3', Value.category]
  exact X₁.ldcStringW hexec (own := own) (text := text) (index := is) (a := sa) hown' hstr'.1 hstr'.2
    (g := { method := m, pc := pc + 4, locals := ls, stack := .ref T.heap.size :: .ref T.heap.size :: rest, locked := none }) rfl d4' _ hsteps
end Ends
section Bodies
variable {l : Launch}
theorem vx_ofW {y : MethodName} {ws ws' : List Cond} {rm : Room} {Pc : Array Value → State → Prop} {Qc : Array Value → State → Outcome → State → Prop} {XC : String → State → State → Prop} {mc ms : Nat} {free : Addr → Prop} {cc : ByteArray} {maxL : Nat} {ret : Option FieldType}
    (hy : plainName y.cls = true) (hw : ws = Cond.code y cc maxL ret :: ws')
    (body : ∀ p e s m args below meth c s₁, BodyLoose p l y (headSpec ws rm) cc maxL ret e s m args below meth c s₁ → c.maxLocals = maxL → (∀ x ∈ c.exceptionTable.toList, False) → Pc args s →
      W p l e (headSpec ws rm).room s m args below meth c s.heap [] 0 0 (vx_MQ below Qc XC args s mc ms free) (entryFrame m args maxL)) : vx_Met l y ws rm Pc Qc XC mc ms free := by
  refine MetFree.of_bodyS (code := cc) (maxLocals := maxL) (ret := ret) hy ?_ ?_
  · intro args s m h hn
    obtain ⟨meth, c, h1, h2, h3, h4, h5, h6, -, -⟩ := Cond.code_spec hn (atoms_spec (ws := ws) h _ (by rw [hw]; exact List.mem_cons_self))
    exact ⟨meth, c, h1, h2, h3, h4, h5, h6⟩
  · intro p e s m args below meth c s₁ B hml hP _
    have hh0 : s₁.heap = s.heap := by rw [B.state]; rfl
    have ht : ∀ x ∈ c.exceptionTable.toList, False := by
      obtain ⟨meth9, c9, h1, h2, -, -, -, -, h7, -⟩ := Cond.code_spec B.named (atoms_spec (ws := ws) B.pre _ (by rw [hw]; exact List.mem_cons_self))
      cases Option.some.inj (h1.symm.trans B.method)
      cases Option.some.inj (h2.symm.trans (Stand.of_body B).code)
      intro x hx
      rw [Array.isEmpty_iff.mp h7] at hx
      cases hx
    obtain ⟨t, a1, o, b1, b2, b3⟩ := body p e s m args below meth c s₁ B hml ht hP s₁ hh0 (Stand.of_body B)
    exact ⟨t, o, a1, b1, b2, b3⟩
/-- the table of a body with handlers -/
theorem vx_table {p : Program} {x y : MethodName} {S : Spec} {cc bytes : ByteArray} {maxL maxL' : Nat} {ret ret' : Option FieldType} {e : Env} {s s₁ : State} {m : MethodId} {args : Array Value} {below : List Frame} {meth : Method} {c : Code} {hh : List (Nat × Nat × Nat × Nat)}
    (B : BodyLoose p l y S cc maxL ret e s m args below meth c s₁) (h : (Cond.codeWith y bytes maxL' ret' hh).before args s = true) : c.exceptionTable.toList = tableOf hh := by
  obtain ⟨m9, meth9, c9, hn9, h1, h2, -, -, h6, -⟩ := Cond.codeWith_spec h
  cases Option.some.inj (hn9.symm.trans B.named)
  cases Option.some.inj (h1.symm.trans B.method)
  cases Option.some.inj (h2.symm.trans (Stand.of_body B).code)
  rw [← h6, table_eq]
end Bodies
end VXA
/-! ===== END ===== -/
/-! ===== BEGIN a static call of a method with an exception table ===== -/
section VXS
variable {p : Program} {l : Launch} {e : Env} {R : Room} {s : State} {m : MethodId} {args : Array Value} {below : List Frame} {meth : Method} {c : Code} {T : State} {H : Heap} {locs : List Loc} {cells slots : Nat}
abbrev vx_CSW (R : Room) (s : State) (args : Array Value) (own : String) (index : Nat) (y : MethodName) (bytes : ByteArray) (maxL : Nat) (ret : Option FieldType) (hh : List (Nat × Nat × Nat × Nat)) (ws : List Cond) (rm : Room) (mc ms n : Nat) : Prop :=
  (rm.cells = mc ∧ rm.slots = ms ∧ rm.frames + 1 ≤ R.frames ∧ 8 + (maxL + 11) + rm.locals ≤ R.locals ∧ (∀ w ∈ ws, ∀ (a' : Array Value) (U : State), s.WarmedH U.vm → w.before a' U = true) ∧ Cond.codeWith y bytes maxL ret hh ∈ ws) ∧
  (Cond.codeWith y bytes maxL ret hh).before args s = true ∧ (Cond.initialized y.cls).before args s = true ∧ (y.cls ≠ "java/lang/invoke/MethodHandle" ∧ y.cls ≠ "java/lang/invoke/VarHandle") ∧
  (∀ sig, parseMethodDescriptor y.desc = some sig → n = sig.parameters.length) ∧ (Cond.methodLink own index y).before args s = true ∧ (Cond.static y).before args s = true
theorem vx_cwSW {own : String} {index maxL mc ms : Nat} {y : MethodName} {bytes : ByteArray} {ret : Option FieldType} {hh : List (Nat × Nat × Nat × Nat)} {Ts ws ws' : List Cond} {rm : Room} (n : Nat) (ht : ∀ w ∈ Ts, w.before args s = true) (hT : GoodIn Ts (va_wsS own index y ws)) (hw : ws = Cond.codeWith y bytes maxL ret hh :: ws') (hrc : rm.cells = mc) (hrs : rm.slots = ms)
    (hd : y.cls ≠ "java/lang/invoke/MethodHandle" ∧ y.cls ≠ "java/lang/invoke/VarHandle" ∧ (parseMethodDescriptor y.desc).map (fun d => d.parameters.length) = some n) (hR : rm.frames + 1 ≤ R.frames ∧ 8 + (maxL + 11) + rm.locals ≤ R.locals) :
    vx_CSW R s args own index y bytes maxL ret hh ws rm mc ms n := by
  have ok : ∀ w ∈ va_wsS own index y ws, w.before args s = true := fun w h => ht w (hT w h).1
  have hG : GoodIn Ts ws := fun w h => hT w (by unfold va_wsS; exact List.mem_append_right _ h)
  have hc : Cond.codeWith y bytes maxL ret hh ∈ ws := by rw [hw]; exact List.mem_cons_self
  refine ⟨⟨hrc, hrs, hR.1, hR.2, pay_in ht hG, hc⟩, ht _ (hG _ hc).1, ok _ (by simp [va_wsS]), ⟨hd.1, hd.2.1⟩, fun sig h => ?_, ok _ (by simp [va_wsS]), ok _ (by simp [va_wsS])⟩
  have h2 := hd.2.2
  rw [h] at h2
  exact (Option.some.inj h2).symm
theorem vx_callSW (X : Stand p l e R s m args below meth c T locs cells slots) (hexec : p.tables.exec = Jvm.exec) {own : String} {index : Nat} {y : MethodName} {bytes : ByteArray} {maxL : Nat} {ret : Option FieldType} {hh : List (Nat × Nat × Nat × Nat)}
    (hown : s.vm.findClass own = some m.cls) (hlink : (Cond.methodLink own index y).before args s = true) (hstat : (Cond.static y).before args s = true) (hinit : (Cond.initialized y.cls).before args s = true)
    (hcode : (Cond.codeWith y bytes maxL ret hh).before args s = true) (hy : y.cls ≠ "java/lang/invoke/MethodHandle" ∧ y.cls ≠ "java/lang/invoke/VarHandle")
    {W9 : Nat} {Pre : Pt → Array Value → Prop} {Post : Pt → Array Value → Option Value → Pt → Prop} (hK : Back l R p e below s args y 3 W9 Pre Post)
    {g : JFrame} (hg : g.method = m) (hsize : g.locals.size = c.maxLocals) {argsL rest : List Value} (hlen : ∀ sig, parseMethodDescriptor y.desc = some sig → argsL.length = sig.parameters.length)
    (hstack : g.stack = argsL.reverse ++ rest) (hW : 2 * g.monitorRoom + (rest.map fun v => v.category).sum ≤ W9) (hdg : decode c.code g.pc = .ok (.invokestatic index, 3))
    (hpre : ∀ vm₁, s.WarmedH vm₁ → Pre ⟨T.setVm vm₁, locs, cells, slots⟩ argsL.toArray) :
    ∃ (v : Option Value) (vm₁ : Vm) (B : Pt), s.WarmedH vm₁ ∧ Stand p l e R s m args below meth c B.U B.locs B.cells B.slots ∧ Post ⟨T.setVm vm₁, locs, cells, slots⟩ argsL.toArray v B ∧
      ∀ target, Steps p.tables e below (B.U.setTop { g with pc := g.pc + 3, stack := v.toList ++ rest }) target → Steps p.tables e below (T.setTop g) target := by
  obtain ⟨mk, methM, cM, hnamed, hmethM, -, -, -, -, -, -, hsigM⟩ := Cond.codeWith_spec hcode
  have hstatic : methM.isStatic = true := Cond.static_spec hnamed hmethM hstat
  obtain ⟨kP, hkP, -⟩ := className_of_methodNamed hnamed
  have hinitP : kP.init = .initialized := Cond.initialized_spec (findClass_of_methodNamed hnamed) hkP hinit
  obtain ⟨vm₁, X₁, hstep₁⟩ := X.invokestatic hexec hown hlink hnamed hmethM hstatic hkP hinitP hy (g := g) hg (argsL := argsL) (rest := rest) (hlen _ hsigM) hstack hdg
  obtain ⟨v, B, X', hpost, hsteps⟩ := hK m meth c ⟨T.setVm vm₁, locs, cells, slots⟩ { g with stack := rest } (.invokestatic index) mk argsL.toArray X₁ hg hsize hdg hW (X₁.named hnamed) (hpre vm₁ X₁.warmed)
  exact ⟨v, vm₁, B, X₁.warmed, X', hpost, fun target h => hstep₁ _ fun acts => by rw [doInvoke_state]; exact hsteps.trans h⟩
theorem vx_runSW {y : MethodName} {bytes cc : ByteArray} {maxL nL mc ms n index : Nat} {ret : Option FieldType} {hh : List (Nat × Nat × Nat × Nat)} {ws : List Cond} {rm : Room} {Pc : Array Value → State → Prop} {Qc : Array Value → State → Outcome → State → Prop} {free : Addr → Prop} {Ts : List Cond} {own : String} {As rest : List Value} {g : JFrame}
    (S : CallFix p m c cc nL s args Ts own) (hM : Met l y ws rm Pc Qc mc ms free) (cw : vx_CSW R s args own index y bytes maxL ret hh ws rm mc ms n) (hp : PreS s H Pc As)
    (hg : g.method = m) (hn : As.length = n) (hsize : g.locals.size = nL) (hstack : g.stack = As.reverse ++ rest) (hW : 2 * g.monitorRoom + (rest.map fun v => v.category).sum ≤ 8) (hdg : decode cc g.pc = .ok (.invokestatic index, 3)) (hf : cells + mc ≤ R.cells ∧ slots + ms ≤ R.slots) :
    va_Run p l e R s m args below meth c H locs cells slots mc ms g rest (Qc As.toArray) (free) := by
  obtain ⟨⟨hrc, hrs, hfr, hlo, hws, hcw⟩, hcode, hini, hy, hlen, hl, hstt⟩ := cw
  have hK : Back l R p e below s args y 3 8 (PreOf R mc ms Pc) (PostOf Qc mc ms free) := va_backW (hh := hh) (bytes := bytes) (maxL := maxL) (ret := ret) hM hp.1 hrc hrs hfr hlo hws hcw (fun a' U hW => word_at hW (Or.inl (by first | rfl | simp [Cond.onTables, Cond.keeps, Cond.steady])) hini)
  obtain ⟨hx, hb, hml, ho, -⟩ := S
  intro T hT X
  obtain ⟨v, vm₁, ⟨U', l2, c2, s2⟩, hW₁, X', ⟨g', mk, t, L, e1, e2, hq, h1, hL, h2, h3⟩, st⟩ := vx_callSW X hx (hh := hh) (bytes := bytes) (maxL := maxL) (ret := ret) ho hl hstt hini hcode hy hK hg (hsize.trans hml.symm) (argsL := As) (rest := rest) (fun sig h => hn.trans (hlen sig h)) hstack hW (by rw [hb]; exact hdg)
    (fun vm₁ hW₁ => ⟨hf.1, hf.2, hp.2 (T.setVm vm₁) hT hW₁⟩)
  dsimp only [Pt.U, Pt.locs, Pt.cells, Pt.slots] at X' e1 e2 h1 h2 h3 st
  subst h1; subst h2; subst h3
  exact ⟨v, (T.setVm vm₁).calling g' mk As.toArray, t, U', L, hT, X', hL, e1, e2, hq, st⟩
/-- not caught here, past rows that name other classes: it goes on to the caller -/
theorem vx_outP {p : Program} {l : Launch} {e : Env} {R : Room} {s : State} {m : MethodId} {args : Array Value} {below : List Frame} {meth : Method} {c : Code} {H : Heap} {locs : List Loc} {cells slots : Nat} {free : Addr → Prop} {ls : Array Slot} {rest : List Value} {Qc : Array Value → State → Outcome → State → Prop} {XC : String → State → State → Prop}
    {pc : Nat} {own E : String} {ce : Cell} {q : Addr} {mc ms : Nat} (hown : s.vm.findClass own = some m.cls) (hlocks : meth.locks = false)
    (hpass : ∀ z ∈ c.exceptionTable.toList, covers z pc = false ∨ (z.catchType ≠ 0 ∧ ∃ nm : String, (Cond.classLink own z.catchType nm).before args s = true ∧ va_Nc E nm s)) (hcell : H[q]? = some ce) (hv : ce.vm = .none) (hcl : s.vm.findClass E = some ce.cls)
    (hx : ∀ t : State, t.heap = H → s.vm.Alike t.vm → XC E s t) (hf : ∀ z ∈ locs, free z.base) (hc : cells ≤ mc) (hs : slots ≤ ms) :
    vx_W p l e R s m args below meth c H locs cells slots (vx_MQ below Qc XC args s mc ms free) (F0 m pc ls rest) q := by
  intro T hT X
  have hpl : e.platform.magicAccessors = ({} : Platform).magicAccessors := by rw [X.admits.platform]
  obtain ⟨vm', hW', X', st⟩ := X.outThrough hlocks q (g := F0 m pc ls rest) rfl rfl rfl (cell := ce) (by rw [hT]; exact hcell) (by rw [hv]; rfl)
    (by obtain ⟨k9, h9, -⟩ := Vm.findClass_spec hcl; exact ⟨k9, h9⟩) (fun z hz => by
      rcases hpass z hz with h | ⟨hz0, nm, hl1, hn1⟩
      · exact Or.inl h
      · obtain ⟨c6, hc6, hcl6⟩ := Cond.classLink_spec hown hl1 e.platform hpl
        obtain ⟨a8, b8, h1, h2, h3⟩ := hn1
        cases Option.some.inj (h1.symm.trans hcl)
        cases Option.some.inj (h2.symm.trans hc6)
        exact Or.inr ⟨hz0, _, hcl6, h3⟩)
  obtain ⟨g₀, hfr⟩ := X'.frames_eq
  have hcell9 : ((T.setVm vm').setFrames (.throwing q :: below)).heap[q]? = some ce := by
    show T.heap[q]? = some ce
    rw [hT]; exact hcell
  have hend : Ended ((T.setVm vm').setFrames (.throwing q :: below)) below (.threw q) := State.frames_setFrames _ (State.cur_lt_of_frames hfr)
  refine ⟨(T.setVm vm').setFrames (.throwing q :: below), ?_, .threw q, X'.here.running, hend, Or.inr ⟨q, rfl, E, ce, locs, hx _ hT (X'.ends _).1.alike, hcell9, hv, hcl, (X'.ends _).1, (X'.ends _).2.mono hc hs, hf⟩⟩
  rw [X.pushThrowing_eq]
  exact st
/-- a thing of a world lies in the heap -/
theorem vx_lt {D : va_G} {cl : List vw_C} {ws : va_W} {H1 : Heap} (h : va_P D cl ws H1) {k : Nat} {q : Nat × va_E} (hk : ws[k]? = some q) : q.1 < H1.size := (h k q hk).lt
end VXS
/-! ===== END ===== -/
/-! ===== BEGIN methods with a table of their own: called by a name, returning or throwing ===== -/
section VXH
/-! vx_backW, vx_callVX, vx_callSX, vx_callVW, vx_runVW, vx_runVX, vx_runSX, vx_ofWH follow the same proofs as their sisters above (Free/Laws.lean, Shelf42/LK1.lean); vx_outP calls Shelf42/NT130.lean (outThrough). -/
section
variable {l : Launch} {R : Room} {p : Program} {e : Env} {below : List Frame} {s : State} {sargs : Array Value} {y : MethodName} {len W9 : Nat}
theorem vx_backW {ws : List Cond} {rm : Room} {Pc : Array Value → State → Prop} {Qc : Array Value → State → Outcome → State → Prop} {XC : String → State → State → Prop} {mc ms : Nat} {free : Addr → Prop} {bytes : ByteArray} {maxL : Nat} {ret : Option FieldType} {hh : List (Nat × Nat × Nat × Nat)}
    (hM : vx_Met l y ws rm Pc Qc XC mc ms free) (hblind : FrameBlind Pc) (hrc : rm.cells = mc) (hrs : rm.slots = ms)
    (hframes : rm.frames + 1 ≤ R.frames) (hlocals : W9 + (maxL + 11) + rm.locals ≤ R.locals)
    (hws : ∀ w ∈ ws, ∀ a' U, s.WarmedH U.vm → w.before a' U = true) (hcode : Cond.codeWith y bytes maxL ret hh ∈ ws) (hinit : ∀ a' U, s.WarmedH U.vm → (Cond.initialized y.cls).before a' U = true) :
    vx_Back l R p e below s sargs y len W9 (PreOf R mc ms Pc) (PostOf Qc mc ms free) (vx_Post XC mc ms free) := by
  intro m meth c A g ig mk a X hg hsize hdg hW hn hp
  have h1 : (headSpec ws rm).pre.before a A.U = true := atoms_intro fun w hw => hws w hw _ _ X.warmed
  have h2 : (Cond.codeWith y bytes maxL ret hh).before a A.U = true := hws _ hcode _ _ X.warmed
  have h3 : (Cond.initialized y.cls).before a A.U = true := hinit _ _ X.warmed
  have h4 : A.cells + (headSpec ws rm).room.cells ≤ R.cells := by rw [show (headSpec ws rm).room.cells = mc from hrc]; exact hp.1
  have h5 : A.slots + (headSpec ws rm).room.slots ≤ R.slots := by rw [show (headSpec ws rm).room.slots = ms from hrs]; exact hp.2.1
  have hPc : Pc a (A.U.calling g mk a) := hblind _ _ _ _ hp.2.2
  obtain ⟨U, Ls, c0, s0⟩ := A
  dsimp only [Pt.U, Pt.locs, Pt.cells, Pt.slots] at h1 h2 h3 h4 h5 X hn hPc ⊢
  obtain ⟨m9, methY, cY, hn9, hmY, hcY, -, hlY, -⟩ := Cond.codeWith_spec h2
  cases Option.some.inj (hn9.symm.trans hn)
  obtain ⟨kY, hkY, -⟩ := className_of_methodNamed hn
  have hinitY : kY.init = .initialized := Cond.initialized_spec (findClass_of_methodNamed hn) hkY h3
  have h : At U g.method c below := by rw [hg]; exact X.here
  have hlocals9 : W9 + (maxL + 11) + (headSpec ws rm).room.locals ≤ R.locals := hlocals
  have happ : (headSpec ws rm).appliesLoose y e.platform (U.calling g mk a) = true :=
    Spec.appliesLoose_calling (g := g) h hdg hn hkY hinitY
      (X.room_calling (g := g) (R' := (headSpec ws rm).room) hsize hmY hcY hframes (by rw [hlY]; omega) h4 h5) h1
  obtain ⟨mid, hmid⟩ := h.above
  have hfr : (U.setTop g).frames = (.java g :: mid) ++ below := by rw [State.frames_setTop' g h.top, hmid]; rfl
  obtain ⟨o, s₂, hsteps, -, hend, hq⟩ := Steps.callFree hM p X.admits X.cas X.clock (acts := []) hfr happ hPc trivial
  have hq' : vx_Q Qc XC mc ms free a (U.calling g mk a) o s₂ := hq
  rw [State.frames_setTop' g h.top] at hend
  obtain ⟨g₀, hg0⟩ := Option.isSome_iff_exists.mp h.top
  obtain ⟨r, hr⟩ := State.topJava?_eq_some.mp hg0
  have hr' : (({ U with heap := s₂.heap, slotsUsed := s₂.slotsUsed } : State).setVm s₂.vm).frames = .java g₀ :: r := hr
  rcases hq' with ⟨hqc, L, hfe, hL⟩ | ⟨q, rfl, E, ce, L, hx, hce, hcv, hcl, hW₂, hsm, hL⟩
  · obtain ⟨⟨v, rfl⟩, hW₂, e2, q2, q3, q4, q5, q6⟩ := id hfe
    have e3 : s₂ = ({ (U.calling g mk a).setFrames s₂.frames with heap := s₂.heap, slotsUsed := s₂.slotsUsed } : State).setVm s₂.vm := by
      have : s₂ = ({ s₂ with vm := (U.calling g mk a).vm } : State).setVm s₂.vm := rfl
      rw [e2] at this
      exact this
    obtain ⟨c₂, i₂, len₂, hc₂, hd₂, hf₂⟩ := hend
    have hW' : U.WarmedH s₂.vm := hW₂
    have hcc : c₂ = c := by
      have h1 : s₂.code? g.method = U.code? g.method := by
        rw [State.code?_eq, State.code?_eq, hW'.alike.method?]
      exact Option.some.inj (hc₂.symm.trans (h1.trans h.code))
    subst hcc
    have hlen : len₂ = len := by rw [hdg] at hd₂; cases hd₂; rfl
    subst hlen
    have hs₂ : s₂ = (({ U with heap := s₂.heap, slotsUsed := s₂.slotsUsed } : State).setVm s₂.vm).setTop { g with pc := g.pc + len₂, stack := v.toList ++ g.stack } := by
      refine e3.trans ?_
      rw [hf₂, State.calling_eq h.top, State.setFrames_setFrames, State.setTop_of_frames _ hr', hr]
      rfl
    have hsame : U.sameButNew ({ U with heap := s₂.heap, slotsUsed := s₂.slotsUsed } : State) L mc ms := by
      refine ⟨?_, q2, q3, q4, q5, q6⟩
      obtain ⟨t, ht, -⟩ := State.frames_cons hr
      show ({ U with heap := s₂.heap, slotsUsed := s₂.slotsUsed } : State) = { U.setFrames U.frames with heap := s₂.heap, slotsUsed := s₂.slotsUsed }
      rw [State.setFrames_self ht]
    subst hg
    refine Or.inl ⟨v, ⟨(({ U with heap := s₂.heap, slotsUsed := s₂.slotsUsed } : State).setVm s₂.vm), Ls ++ L, c0 + mc, s0 + ms⟩,
      ⟨X.admits, X.cas, X.clock, X.frames, X.room, X.hears, X.method, X.code, (X.here.setHeapUsed s₂.heap s₂.slotsUsed).setVm hW'.alike, X.tail, State.WarmedH.trans X.warmed hW', X.limits, X.bytes, X.same.trans (hsame.setVm s.vm)⟩,
      ⟨g, mk, s₂, L, rfl, rfl, hqc, rfl, hL, rfl, rfl⟩, ?_⟩
    show Steps p.tables e below _ ((({ U with heap := s₂.heap, slotsUsed := s₂.slotsUsed } : State).setVm s₂.vm).setTop { g with pc := g.pc + len₂, stack := v.toList ++ g.stack })
    rw [← hs₂]
    exact hsteps
  · obtain ⟨e2, q2, q3, q4, q5, q6⟩ := id hsm
    have e3 : s₂ = ({ (U.calling g mk a).setFrames s₂.frames with heap := s₂.heap, slotsUsed := s₂.slotsUsed } : State).setVm s₂.vm := by
      have : s₂ = ({ s₂ with vm := (U.calling g mk a).vm } : State).setVm s₂.vm := rfl
      rw [e2] at this
      exact this
    have hf₂ : s₂.frames = .throwing q :: .java g :: U.frames.tail := hend
    have hW' : U.WarmedH s₂.vm := hW₂
    have hs₂ : s₂ = ((({ U with heap := s₂.heap, slotsUsed := s₂.slotsUsed } : State).setVm s₂.vm).setTop g).pushFrame (.throwing q) := by
      refine e3.trans ?_
      rw [hf₂, State.calling_eq h.top, State.setFrames_setFrames, State.pushFrame, State.frames_setTop _ hr', State.setTop_of_frames _ hr', State.setFrames_setFrames, hr]
      rfl
    have hsame : U.sameButNew ({ U with heap := s₂.heap, slotsUsed := s₂.slotsUsed } : State) L mc ms := by
      refine ⟨?_, q2, q3, q4, q5, q6⟩
      obtain ⟨t, ht, -⟩ := State.frames_cons hr
      show ({ U with heap := s₂.heap, slotsUsed := s₂.slotsUsed } : State) = { U.setFrames U.frames with heap := s₂.heap, slotsUsed := s₂.slotsUsed }
      rw [State.setFrames_self ht]
    subst hg
    refine Or.inr ⟨q, ⟨(({ U with heap := s₂.heap, slotsUsed := s₂.slotsUsed } : State).setVm s₂.vm), Ls ++ L, c0 + mc, s0 + ms⟩,
      ⟨X.admits, X.cas, X.clock, X.frames, X.room, X.hears, X.method, X.code, (X.here.setHeapUsed s₂.heap s₂.slotsUsed).setVm hW'.alike, X.tail, State.WarmedH.trans X.warmed hW', X.limits, X.bytes, X.same.trans (hsame.setVm s.vm)⟩,
      ⟨g, mk, s₂, L, E, ce, rfl, rfl, hx, hce, hcv, hcl, rfl, hL, rfl, rfl⟩, ?_⟩
    show Steps p.tables e below _ (((({ U with heap := s₂.heap, slotsUsed := s₂.slotsUsed } : State).setVm s₂.vm).setTop g).pushFrame (.throwing q))
    rw [← hs₂]
    exact hsteps
end
variable {p : Program} {l : Launch} {e : Env} {R : Room} {s : State} {m : MethodId} {args : Array Value} {below : List Frame} {meth : Method} {c : Code} {T : State} {H : Heap} {locs : List Loc} {cells slots : Nat}
theorem vx_callVX (X : Stand p l e R s m args below meth c T locs cells slots) (hexec : p.tables.exec = Jvm.exec) {own C : String} {index : Nat} {y : MethodName} {bytes : ByteArray} {maxL : Nat} {ret : Option FieldType} {hh : List (Nat × Nat × Nat × Nat)}
    (hown : s.vm.findClass own = some m.cls) (hlink : (Cond.methodLink own index y).before args s = true) (hinst : (Cond.instanceMethod y).before args s = true) (hsel : (Cond.selects C y y).before args s = true)
    (hcode : (Cond.codeWith y bytes maxL ret hh).before args s = true) (hy : y.cls ≠ "java/lang/invoke/MethodHandle" ∧ y.cls ≠ "java/lang/invoke/VarHandle")
    {W9 : Nat} {Pre : Pt → Array Value → Prop} {Post : Pt → Array Value → Option Value → Pt → Prop} {PostX : Pt → Array Value → Addr → Pt → Prop} (hK : vx_Back l R p e below s args y 3 W9 Pre Post PostX)
    {b : Addr} {cellB : Cell} (hcell : T.heap[b]? = some cellB) (hobj : cellB.vm.isStatics = false) (hcls : s.vm.findClass C = some cellB.cls)
    {g : JFrame} (hg : g.method = m) (hsize : g.locals.size = c.maxLocals) {argsL rest : List Value} (hlen : ∀ sig, parseMethodDescriptor y.desc = some sig → argsL.length = sig.parameters.length)
    (hstack : g.stack = argsL.reverse ++ .ref b :: rest) (hW : 2 * g.monitorRoom + (rest.map fun v => v.category).sum ≤ W9) (hdg : decode c.code g.pc = .ok (.invokevirtual index, 3))
    (hpre : ∀ vm₁, s.WarmedH vm₁ → Pre ⟨T.setVm vm₁, locs, cells, slots⟩ (Value.ref b :: argsL).toArray) :
    (∃ (v : Option Value) (vm₁ : Vm) (B : Pt), s.WarmedH vm₁ ∧ Stand p l e R s m args below meth c B.U B.locs B.cells B.slots ∧ Post ⟨T.setVm vm₁, locs, cells, slots⟩ (Value.ref b :: argsL).toArray v B ∧
      ∀ target, Steps p.tables e below (B.U.setTop { g with pc := g.pc + 3, stack := v.toList ++ rest }) target → Steps p.tables e below (T.setTop g) target) ∨
    (∃ (q : Addr) (vm₁ : Vm) (B : Pt), s.WarmedH vm₁ ∧ Stand p l e R s m args below meth c B.U B.locs B.cells B.slots ∧ PostX ⟨T.setVm vm₁, locs, cells, slots⟩ (Value.ref b :: argsL).toArray q B ∧
      Steps p.tables e below (T.setTop g) ((B.U.setTop { g with stack := rest }).pushFrame (.throwing q))) := by
  obtain ⟨mk, methM, hnamed, hmethM, hstM, habM⟩ := Cond.instanceMethod_spec hinst
  obtain ⟨m8, methM', cM, hn8, hmethM', -, -, -, -, -, -, hsigM⟩ := Cond.codeWith_spec hcode
  cases Option.some.inj (hn8.symm.trans hnamed)
  cases hmethM.symm.trans hmethM'
  obtain ⟨c2, r2, m2, q1, q2, q3, q4, kP, hkP, hkPi⟩ := Cond.selects_spec hsel
  cases hcls.symm.trans q1
  cases (State.methodFound?_of_named hnamed hy).symm.trans q2
  cases hnamed.symm.trans q3
  have hselP : selectMethod e.platform s.vm cellB.cls mk = .method mk := by rw [Launch.admits_selectMethod X.admits]; exact q4
  obtain ⟨vm₁, X₁, hstep₁⟩ := X.invokevirtual hexec hown hlink hnamed hmethM hstM hkP hkPi hy (a := b) (cell := cellB) hcell
    (fun z h => by rw [h] at hobj; cases hobj) hselP hmethM habM hkP hkPi (g := g) hg (argsL := argsL) (rest := rest) (hlen _ hsigM) hstack hdg
  rcases hK m meth c ⟨T.setVm vm₁, locs, cells, slots⟩ { g with stack := rest } (.invokevirtual index) mk (Value.ref b :: argsL).toArray X₁ hg hsize hdg hW (X₁.named hnamed) (hpre vm₁ X₁.warmed) with ⟨v, B, X', hpost, hsteps⟩ | ⟨q, B, X', hpost, hsteps⟩
  · exact Or.inl ⟨v, vm₁, B, X₁.warmed, X', hpost, fun target h => hstep₁ _ fun acts => by rw [doInvoke_state]; exact hsteps.trans h⟩
  · exact Or.inr ⟨q, vm₁, B, X₁.warmed, X', hpost, hstep₁ _ fun acts => by rw [doInvoke_state]; exact hsteps⟩
theorem vx_callSX (X : Stand p l e R s m args below meth c T locs cells slots) (hexec : p.tables.exec = Jvm.exec) {own : String} {index : Nat} {y : MethodName} {bytes : ByteArray} {maxL : Nat} {ret : Option FieldType} {hh : List (Nat × Nat × Nat × Nat)}
    (hown : s.vm.findClass own = some m.cls) (hlink : (Cond.methodLink own index y).before args s = true) (hstat : (Cond.static y).before args s = true) (hinit : (Cond.initialized y.cls).before args s = true)
    (hcode : (Cond.codeWith y bytes maxL ret hh).before args s = true) (hy : y.cls ≠ "java/lang/invoke/MethodHandle" ∧ y.cls ≠ "java/lang/invoke/VarHandle")
    {W9 : Nat} {Pre : Pt → Array Value → Prop} {Post : Pt → Array Value → Option Value → Pt → Prop} {PostX : Pt → Array Value → Addr → Pt → Prop} (hK : vx_Back l R p e below s args y 3 W9 Pre Post PostX)
    {g : JFrame} (hg : g.method = m) (hsize : g.locals.size = c.maxLocals) {argsL rest : List Value} (hlen : ∀ sig, parseMethodDescriptor y.desc = some sig → argsL.length = sig.parameters.length)
    (hstack : g.stack = argsL.reverse ++ rest) (hW : 2 * g.monitorRoom + (rest.map fun v => v.category).sum ≤ W9) (hdg : decode c.code g.pc = .ok (.invokestatic index, 3))
    (hpre : ∀ vm₁, s.WarmedH vm₁ → Pre ⟨T.setVm vm₁, locs, cells, slots⟩ argsL.toArray) :
    (∃ (v : Option Value) (vm₁ : Vm) (B : Pt), s.WarmedH vm₁ ∧ Stand p l e R s m args below meth c B.U B.locs B.cells B.slots ∧ Post ⟨T.setVm vm₁, locs, cells, slots⟩ argsL.toArray v B ∧
      ∀ target, Steps p.tables e below (B.U.setTop { g with pc := g.pc + 3, stack := v.toList ++ rest }) target → Steps p.tables e below (T.setTop g) target) ∨
    (∃ (q : Addr) (vm₁ : Vm) (B : Pt), s.WarmedH vm₁ ∧ Stand p l e R s m args below meth c B.U B.locs B.cells B.slots ∧ PostX ⟨T.setVm vm₁, locs, cells, slots⟩ argsL.toArray q B ∧
      Steps p.tables e below (T.setTop g) ((B.U.setTop { g with stack := rest }).pushFrame (.throwing q))) := by
  obtain ⟨mk, methM, cM, hnamed, hmethM, -, -, -, -, -, -, hsigM⟩ := Cond.codeWith_spec hcode
  have hstatic : methM.isStatic = true := Cond.static_spec hnamed hmethM hstat
  obtain ⟨kP, hkP, -⟩ := className_of_methodNamed hnamed
  have hinitP : kP.init = .initialized := Cond.initialized_spec (findClass_of_methodNamed hnamed) hkP hinit
  obtain ⟨vm₁, X₁, hstep₁⟩ := X.invokestatic hexec hown hlink hnamed hmethM hstatic hkP hinitP hy (g := g) hg (argsL := argsL) (rest := rest) (hlen _ hsigM) hstack hdg
  rcases hK m meth c ⟨T.setVm vm₁, locs, cells, slots⟩ { g with stack := rest } (.invokestatic index) mk argsL.toArray X₁ hg hsize hdg hW (X₁.named hnamed) (hpre vm₁ X₁.warmed) with ⟨v, B, X', hpost, hsteps⟩ | ⟨q, B, X', hpost, hsteps⟩
  · exact Or.inl ⟨v, vm₁, B, X₁.warmed, X', hpost, fun target h => hstep₁ _ fun acts => by rw [doInvoke_state]; exact hsteps.trans h⟩
  · exact Or.inr ⟨q, vm₁, B, X₁.warmed, X', hpost, hstep₁ _ fun acts => by rw [doInvoke_state]; exact hsteps⟩
theorem vx_callVW (X : Stand p l e R s m args below meth c T locs cells slots) (hexec : p.tables.exec = Jvm.exec) {own C : String} {index : Nat} {y : MethodName} {bytes : ByteArray} {maxL : Nat} {ret : Option FieldType} {hh : List (Nat × Nat × Nat × Nat)}
    (hown : s.vm.findClass own = some m.cls) (hlink : (Cond.methodLink own index y).before args s = true) (hinst : (Cond.instanceMethod y).before args s = true) (hsel : (Cond.selects C y y).before args s = true)
    (hcode : (Cond.codeWith y bytes maxL ret hh).before args s = true) (hy : y.cls ≠ "java/lang/invoke/MethodHandle" ∧ y.cls ≠ "java/lang/invoke/VarHandle")
    {W9 : Nat} {Pre : Pt → Array Value → Prop} {Post : Pt → Array Value → Option Value → Pt → Prop} (hK : Back l R p e below s args y 3 W9 Pre Post)
    {b : Addr} {cellB : Cell} (hcell : T.heap[b]? = some cellB) (hobj : cellB.vm.isStatics = false) (hcls : s.vm.findClass C = some cellB.cls)
    {g : JFrame} (hg : g.method = m) (hsize : g.locals.size = c.maxLocals) {argsL rest : List Value} (hlen : ∀ sig, parseMethodDescriptor y.desc = some sig → argsL.length = sig.parameters.length)
    (hstack : g.stack = argsL.reverse ++ .ref b :: rest) (hW : 2 * g.monitorRoom + (rest.map fun v => v.category).sum ≤ W9) (hdg : decode c.code g.pc = .ok (.invokevirtual index, 3))
    (hpre : ∀ vm₁, s.WarmedH vm₁ → Pre ⟨T.setVm vm₁, locs, cells, slots⟩ (Value.ref b :: argsL).toArray) :
    ∃ (v : Option Value) (vm₁ : Vm) (B : Pt), s.WarmedH vm₁ ∧ Stand p l e R s m args below meth c B.U B.locs B.cells B.slots ∧ Post ⟨T.setVm vm₁, locs, cells, slots⟩ (Value.ref b :: argsL).toArray v B ∧
      ∀ target, Steps p.tables e below (B.U.setTop { g with pc := g.pc + 3, stack := v.toList ++ rest }) target → Steps p.tables e below (T.setTop g) target := by
  obtain ⟨mk, methM, hnamed, hmethM, hstM, habM⟩ := Cond.instanceMethod_spec hinst
  obtain ⟨m8, methM', cM, hn8, hmethM', -, -, -, -, -, -, hsigM⟩ := Cond.codeWith_spec hcode
  cases Option.some.inj (hn8.symm.trans hnamed)
  cases hmethM.symm.trans hmethM'
  obtain ⟨c2, r2, m2, q1, q2, q3, q4, kP, hkP, hkPi⟩ := Cond.selects_spec hsel
  cases hcls.symm.trans q1
  cases (State.methodFound?_of_named hnamed hy).symm.trans q2
  cases hnamed.symm.trans q3
  have hselP : selectMethod e.platform s.vm cellB.cls mk = .method mk := by rw [Launch.admits_selectMethod X.admits]; exact q4
  obtain ⟨vm₁, X₁, hstep₁⟩ := X.invokevirtual hexec hown hlink hnamed hmethM hstM hkP hkPi hy (a := b) (cell := cellB) hcell
    (fun z h => by rw [h] at hobj; cases hobj) hselP hmethM habM hkP hkPi (g := g) hg (argsL := argsL) (rest := rest) (hlen _ hsigM) hstack hdg
  obtain ⟨v, B, X', hpost, hsteps⟩ := hK m meth c ⟨T.setVm vm₁, locs, cells, slots⟩ { g with stack := rest } (.invokevirtual index) mk (Value.ref b :: argsL).toArray X₁ hg hsize hdg hW (X₁.named hnamed) (hpre vm₁ X₁.warmed)
  exact ⟨v, vm₁, B, X₁.warmed, X', hpost, fun target h => hstep₁ _ fun acts => by rw [doInvoke_state]; exact hsteps.trans h⟩
abbrev vx_CVW (R : Room) (s : State) (args : Array Value) (own C : String) (index : Nat) (y : MethodName) (bytes : ByteArray) (maxL : Nat) (ret : Option FieldType) (hh : List (Nat × Nat × Nat × Nat)) (ws : List Cond) (rm : Room) (mc ms n : Nat) : Prop :=
  (rm.cells = mc ∧ rm.slots = ms ∧ rm.frames + 1 ≤ R.frames ∧ 8 + (maxL + 11) + rm.locals ≤ R.locals ∧ (∀ w ∈ ws, ∀ (a' : Array Value) (U : State), s.WarmedH U.vm → w.before a' U = true) ∧ Cond.codeWith y bytes maxL ret hh ∈ ws) ∧
  (Cond.codeWith y bytes maxL ret hh).before args s = true ∧ (Cond.initialized y.cls).before args s = true ∧ (y.cls ≠ "java/lang/invoke/MethodHandle" ∧ y.cls ≠ "java/lang/invoke/VarHandle") ∧
  (∀ sig, parseMethodDescriptor y.desc = some sig → n = sig.parameters.length) ∧ (Cond.methodLink own index y).before args s = true ∧ (Cond.instanceMethod y).before args s = true ∧ (Cond.selects C y y).before args s = true
theorem vx_cwVW {own C : String} {index maxL mc ms : Nat} {y : MethodName} {bytes : ByteArray} {ret : Option FieldType} {hh : List (Nat × Nat × Nat × Nat)} {Ts ws ws' : List Cond} {rm : Room} (n : Nat) (ht : ∀ w ∈ Ts, w.before args s = true) (hT : GoodIn Ts (wsV own index C y ws)) (hw : ws = Cond.codeWith y bytes maxL ret hh :: ws') (hrc : rm.cells = mc) (hrs : rm.slots = ms)
    (hd : y.cls = C ∧ y.cls ≠ "java/lang/invoke/MethodHandle" ∧ y.cls ≠ "java/lang/invoke/VarHandle" ∧ (parseMethodDescriptor y.desc).map (fun d => d.parameters.length) = some n) (hR : rm.frames + 1 ≤ R.frames ∧ 8 + (maxL + 11) + rm.locals ≤ R.locals) :
    vx_CVW R s args own C index y bytes maxL ret hh ws rm mc ms n := by
  obtain ⟨hC, hd⟩ := hd
  subst hC
  have ok : ∀ w ∈ wsV own index y.cls y ws, w.before args s = true := fun w h => ht w (hT w h).1
  have hG : GoodIn Ts ws := fun w h => hT w (by unfold wsV; exact List.mem_append_right _ h)
  have hc : Cond.codeWith y bytes maxL ret hh ∈ ws := by rw [hw]; exact List.mem_cons_self
  refine ⟨⟨hrc, hrs, hR.1, hR.2, pay_in ht hG, hc⟩, ht _ (hG _ hc).1, ok _ (by simp [wsV]), ⟨hd.1, hd.2.1⟩, fun sig h => ?_, ok _ (by simp [wsV]), ok _ (by simp [wsV]), ok _ (by simp [wsV])⟩
  have h2 := hd.2.2
  rw [h] at h2
  exact (Option.some.inj h2).symm
theorem vx_runVW {y : MethodName} {bytes cc : ByteArray} {maxL nL mc ms n index : Nat} {ret : Option FieldType} {hh : List (Nat × Nat × Nat × Nat)} {ws : List Cond} {rm : Room} {Pc : Array Value → State → Prop} {Qc : Array Value → State → Outcome → State → Prop} {free : Addr → Prop} {Ts : List Cond} {own C : String} {b : Addr} {As rest : List Value} {g : JFrame}
    (S : CallFix p m c cc nL s args Ts own) (hM : Met l y ws rm Pc Qc mc ms free) (cw : vx_CVW R s args own C index y bytes maxL ret hh ws rm mc ms n) (hp : PreV s H C b Pc As)
    (hg : g.method = m) (hn : As.length = n) (hsize : g.locals.size = nL) (hstack : g.stack = As.reverse ++ .ref b :: rest) (hW : 2 * g.monitorRoom + (rest.map fun v => v.category).sum ≤ 8) (hdg : decode cc g.pc = .ok (.invokevirtual index, 3)) (hf : cells + mc ≤ R.cells ∧ slots + ms ≤ R.slots) :
    va_Run p l e R s m args below meth c H locs cells slots mc ms g rest (Qc (Value.ref b :: As).toArray) free := by
  obtain ⟨⟨hrc, hrs, hfr, hlo, hws, hcw⟩, hcode, hini, hy, hlen, hl, hin, hse⟩ := cw
  have hK : Back l R p e below s args y 3 8 (PreOf R mc ms Pc) (PostOf Qc mc ms free) := va_backW (hh := hh) (bytes := bytes) (maxL := maxL) (ret := ret) hM hp.1 hrc hrs hfr hlo hws hcw (fun a' U hW => word_at hW (Or.inl (by first | rfl | simp [Cond.onTables, Cond.keeps, Cond.steady])) hini)
  obtain ⟨hx, hb, hml, ho, -⟩ := S
  obtain ⟨-, ⟨cellB, hcB, hoB, hclB⟩, hPc⟩ := hp
  intro T hT X
  obtain ⟨v, vm₁, ⟨U', l2, c2, s2⟩, hW₁, X', ⟨g', mk, t, L, e1, e2, hq, h1, hL, h2, h3⟩, st⟩ := vx_callVW X hx (C := C) (hh := hh) (bytes := bytes) (maxL := maxL) (ret := ret) ho hl hin hse hcode hy hK (by rw [hT]; exact hcB) hoB hclB hg (hsize.trans hml.symm) (argsL := As) (rest := rest) (fun sig h => hn.trans (hlen sig h)) hstack hW (by rw [hb]; exact hdg)
    (fun vm₁ hW₁ => ⟨hf.1, hf.2, hPc (T.setVm vm₁) hT hW₁⟩)
  dsimp only [Pt.U, Pt.locs, Pt.cells, Pt.slots] at X' e1 e2 h1 h2 h3 st
  subst h1; subst h2; subst h3
  exact ⟨v, (T.setVm vm₁).calling g' mk (Value.ref b :: As).toArray, t, U', L, hT, X', hL, e1, e2, hq, st⟩
section
variable {y : MethodName} {bytes cc : ByteArray} {maxL nL mc ms n index : Nat} {ret : Option FieldType} {ws : List Cond} {rm : Room} {Pc : Array Value → State → Prop} {Qc : Array Value → State → Outcome → State → Prop} {XC : String → State → State → Prop} {free : Addr → Prop} {Ts : List Cond} {own C : String} {b : Addr} {As rest : List Value} {g : JFrame}
theorem vx_runVX {hh : List (Nat × Nat × Nat × Nat)} (S : CallFix p m c cc nL s args Ts own) (hM : vx_Met l y ws rm Pc Qc XC mc ms free) (cw : vx_CVW R s args own C index y bytes maxL ret hh ws rm mc ms n) (hp : PreV s H C b Pc As)
    (hg : g.method = m) (hn : As.length = n) (hsize : g.locals.size = nL) (hstack : g.stack = As.reverse ++ .ref b :: rest) (hW : 2 * g.monitorRoom + (rest.map fun v => v.category).sum ≤ 8) (hdg : decode cc g.pc = .ok (.invokevirtual index, 3)) (hf : cells + mc ≤ R.cells ∧ slots + ms ≤ R.slots) :
    vx_Run p l e R s m args below meth c H locs cells slots mc ms g rest (Qc (Value.ref b :: As).toArray) XC free := by
  obtain ⟨⟨hrc, hrs, hfr, hlo, hws, hcw⟩, hcode, hini, hy, hlen, hl, hin, hse⟩ := cw
  have hK : vx_Back l R p e below s args y 3 8 (PreOf R mc ms Pc) (PostOf Qc mc ms free) (vx_Post XC mc ms free) := vx_backW (hh := hh) (bytes := bytes) (maxL := maxL) (ret := ret) hM hp.1 hrc hrs hfr hlo hws hcw (fun a' U hW => word_at hW (Or.inl (by first | rfl | simp [Cond.onTables, Cond.keeps, Cond.steady])) hini)
  obtain ⟨hx, hb, hml, ho, -⟩ := S
  obtain ⟨-, ⟨cellB, hcB, hoB, hclB⟩, hPc⟩ := hp
  intro T hT X
  rcases vx_callVX X hx (C := C) (hh := hh) (bytes := bytes) (maxL := maxL) (ret := ret) ho hl hin hse hcode hy hK (by rw [hT]; exact hcB) hoB hclB hg (hsize.trans hml.symm) (argsL := As) (rest := rest) (fun sig h => hn.trans (hlen sig h)) hstack hW (by rw [hb]; exact hdg)
    (fun vm₁ hW₁ => ⟨hf.1, hf.2, hPc (T.setVm vm₁) hT hW₁⟩) with ⟨v, vm₁, ⟨U', l2, c2, s2⟩, hW₁, X', ⟨g', mk, t, L, e1, e2, hq, h1, hL, h2, h3⟩, st⟩ | ⟨q, vm₁, ⟨U', l2, c2, s2⟩, hW₁, X', ⟨g', mk, t, L, E, ce, e1, e2, hq, hce, hcv, hcl, h1, hL, h2, h3⟩, st⟩
  · dsimp only [Pt.U, Pt.locs, Pt.cells, Pt.slots] at X' e1 e2 h1 h2 h3 st
    subst h1; subst h2; subst h3
    exact Or.inl ⟨v, (T.setVm vm₁).calling g' mk (Value.ref b :: As).toArray, t, U', L, hT, X', hL, e1, e2, hq, st⟩
  · dsimp only [Pt.U, Pt.locs, Pt.cells, Pt.slots] at X' e1 e2 h1 h2 h3 st hcl
    subst h1; subst h2; subst h3
    exact Or.inr ⟨q, (T.setVm vm₁).calling g' mk (Value.ref b :: As).toArray, t, U', L, E, ce, hT, X', hL, e1, e2, hq, hce, hcv, vx_cls hW₁ hcl, st⟩
theorem vx_runSX {hh : List (Nat × Nat × Nat × Nat)} (S : CallFix p m c cc nL s args Ts own) (hM : vx_Met l y ws rm Pc Qc XC mc ms free) (cw : vx_CSW R s args own index y bytes maxL ret hh ws rm mc ms n) (hp : PreS s H Pc As)
    (hg : g.method = m) (hn : As.length = n) (hsize : g.locals.size = nL) (hstack : g.stack = As.reverse ++ rest) (hW : 2 * g.monitorRoom + (rest.map fun v => v.category).sum ≤ 8) (hdg : decode cc g.pc = .ok (.invokestatic index, 3)) (hf : cells + mc ≤ R.cells ∧ slots + ms ≤ R.slots) :
    vx_Run p l e R s m args below meth c H locs cells slots mc ms g rest (Qc As.toArray) XC free := by
  obtain ⟨⟨hrc, hrs, hfr, hlo, hws, hcw⟩, hcode, hini, hy, hlen, hl, hstt⟩ := cw
  have hK : vx_Back l R p e below s args y 3 8 (PreOf R mc ms Pc) (PostOf Qc mc ms free) (vx_Post XC mc ms free) := vx_backW (hh := hh) (bytes := bytes) (maxL := maxL) (ret := ret) hM hp.1 hrc hrs hfr hlo hws hcw (fun a' U hW => word_at hW (Or.inl (by first | rfl | simp [Cond.onTables, Cond.keeps, Cond.steady])) hini)
  obtain ⟨hx, hb, hml, ho, -⟩ := S
  intro T hT X
  rcases vx_callSX X hx (hh := hh) (bytes := bytes) (maxL := maxL) (ret := ret) ho hl hstt hini hcode hy hK hg (hsize.trans hml.symm) (argsL := As) (rest := rest) (fun sig h => hn.trans (hlen sig h)) hstack hW (by rw [hb]; exact hdg)
    (fun vm₁ hW₁ => ⟨hf.1, hf.2, hp.2 (T.setVm vm₁) hT hW₁⟩) with ⟨v, vm₁, ⟨U', l2, c2, s2⟩, hW₁, X', ⟨g', mk, t, L, e1, e2, hq, h1, hL, h2, h3⟩, st⟩ | ⟨q, vm₁, ⟨U', l2, c2, s2⟩, hW₁, X', ⟨g', mk, t, L, E, ce, e1, e2, hq, hce, hcv, hcl, h1, hL, h2, h3⟩, st⟩
  · dsimp only [Pt.U, Pt.locs, Pt.cells, Pt.slots] at X' e1 e2 h1 h2 h3 st
    subst h1; subst h2; subst h3
    exact Or.inl ⟨v, (T.setVm vm₁).calling g' mk As.toArray, t, U', L, hT, X', hL, e1, e2, hq, st⟩
  · dsimp only [Pt.U, Pt.locs, Pt.cells, Pt.slots] at X' e1 e2 h1 h2 h3 st hcl
    subst h1; subst h2; subst h3
    exact Or.inr ⟨q, (T.setVm vm₁).calling g' mk As.toArray, t, U', L, E, ce, hT, X', hL, e1, e2, hq, hce, hcv, vx_cls hW₁ hcl, st⟩
end
end VXH
theorem vx_ofWH {l : Launch} {y : MethodName} {ws ws' : List Cond} {rm : Room} {Pc : Array Value → State → Prop} {Qc : Array Value → State → Outcome → State → Prop} {XC : String → State → State → Prop} {mc ms : Nat} {free : Addr → Prop} {cc : ByteArray} {maxL : Nat} {ret : Option FieldType} {hh : List (Nat × Nat × Nat × Nat)}
    (hy : plainName y.cls = true) (hw : ws = Cond.codeWith y cc maxL ret hh :: ws')
    (body : ∀ p e s m args below meth c s₁, BodyLoose p l y (headSpec ws rm) cc maxL ret e s m args below meth c s₁ → c.maxLocals = maxL → Pc args s →
      W p l e (headSpec ws rm).room s m args below meth c s.heap [] 0 0 (vx_MQ below Qc XC args s mc ms free) (entryFrame m args maxL)) : vx_Met l y ws rm Pc Qc XC mc ms free := by
  refine MetFree.of_bodyS (code := cc) (maxLocals := maxL) (ret := ret) hy ?_ ?_
  · intro args s m h hn
    obtain ⟨m9, meth, c, hn9, h1, h2, h3, h4, -, h5, h6, -⟩ := Cond.codeWith_spec (atoms_spec (ws := ws) h _ (by rw [hw]; exact List.mem_cons_self))
    cases hn.symm.trans hn9
    exact ⟨meth, c, h1, h2, h3, h4, h5, h6⟩
  · intro p e s m args below meth c s₁ B hml hP _
    have hh0 : s₁.heap = s.heap := by rw [B.state]; rfl
    obtain ⟨t, a1, o, b1, b2, b3⟩ := body p e s m args below meth c s₁ B hml hP s₁ hh0 (Stand.of_body B)
    exact ⟨t, o, a1, b1, b2, b3⟩
/-! ===== END ===== -/
end
section
def RX0 : String := "LotRules$Calendar"
def RX1 : String := "LotRules$Lots"
def TX1 : u_T := fun k => match k with
  | 0 => ("LotRules$Lots", "goods", "[I", true)
  | 1 => ("LotRules$Lots", "owners", "[I", true)
  | 2 => ("LotRules$Lots", "lastDays", "[I", true)
  | 3 => ("LotRules$Lots", "arrivals", "[I", true)
  | 4 => ("LotRules$Lots", "open", "[Z", true)
  | 5 => ("LotRules$Lots", "reasons", "[I", true)
  | 6 => ("LotRules$Lots", "quarantined", "[Z", true)
  | 7 => ("LotRules$Lots", "kin", "[J", true)
  | _ => ("LotRules$Lots", "made", "I", false)
def tyX1 : Nat → FieldType := fun k => match k with
  | 0 => .array .int
  | 1 => .array .int
  | 2 => .array .int
  | 3 => .array .int
  | 4 => .array .boolean
  | 5 => .array .int
  | 6 => .array .boolean
  | 7 => .array .long
  | _ => .int
theorem nmX1 : ∀ a, a < 9 → ∀ b, b < 9 → a ≠ b → (TX1 a).2.1 ≠ (TX1 b).2.1 := by decide +kernel
theorem tyX1_ok : ∀ k, k < 9 → parseFieldDescriptor (TX1 k).2.2.1 = some (tyX1 k) := by decide +kernel
def RX2 : String := "LotRules$Rows"
def TX2 : u_T := fun k => match k with
  | 0 => ("LotRules$Rows", "lotOf", "[I", true)
  | 1 => ("LotRules$Rows", "kinds", "[I", true)
  | 2 => ("LotRules$Rows", "numbers", "[I", true)
  | _ => ("LotRules$Rows", "written", "I", false)
def tyX2 : Nat → FieldType := fun k => match k with
  | 0 => .array .int
  | 1 => .array .int
  | 2 => .array .int
  | _ => .int
theorem nmX2 : ∀ a, a < 4 → ∀ b, b < 4 → a ≠ b → (TX2 a).2.1 ≠ (TX2 b).2.1 := by decide +kernel
theorem tyX2_ok : ∀ k, k < 4 → parseFieldDescriptor (TX2 k).2.2.1 = some (tyX2 k) := by decide +kernel
def RX3 : String := "LotRules$Units"
def TX3 : u_T := fun k => match k with
  | 0 => ("LotRules$Units", "lotOf", "[I", true)
  | 1 => ("LotRules$Units", "bins", "[I", true)
  | 2 => ("LotRules$Units", "customers", "[I", true)
  | 3 => ("LotRules$Units", "daysOfGoing", "[I", true)
  | 4 => ("LotRules$Units", "firstLotOf", "[I", true)
  | 5 => ("LotRules$Units", "made", "I", false)
  | _ => ("LotRules$Units", "gone", "I", false)
def tyX3 : Nat → FieldType := fun k => match k with
  | 0 => .array .int
  | 1 => .array .int
  | 2 => .array .int
  | 3 => .array .int
  | 4 => .array .int
  | 5 => .int
  | _ => .int
theorem nmX3 : ∀ a, a < 7 → ∀ b, b < 7 → a ≠ b → (TX3 a).2.1 ≠ (TX3 b).2.1 := by decide +kernel
theorem tyX3_ok : ∀ k, k < 7 → parseFieldDescriptor (TX3 k).2.2.1 = some (tyX3 k) := by decide +kernel
def RX4 : String := "LotRules"
def TX4 : u_T := fun k => match k with
  | 0 => ("LotRules", "lots", "LLotRules$Lots;", true)
  | 1 => ("LotRules", "units", "LLotRules$Units;", true)
  | 2 => ("LotRules", "rows", "LLotRules$Rows;", true)
  | 3 => ("LotRules", "rotations", "[I", true)
  | 4 => ("LotRules", "mixtures", "[I", true)
  | 5 => ("LotRules", "wantedDays", "[I", true)
  | 6 => ("LotRules", "releasableReasons", "[I", true)
  | 7 => ("LotRules", "refusedLot", "I", false)
  | _ => ("LotRules", "hinderingLot", "I", false)
def tyX4 : Nat → FieldType := fun k => match k with
  | 0 => .object "LotRules$Lots"
  | 1 => .object "LotRules$Units"
  | 2 => .object "LotRules$Rows"
  | 3 => .array .int
  | 4 => .array .int
  | 5 => .array .int
  | 6 => .array .int
  | 7 => .int
  | _ => .int
theorem nmX4 : ∀ a, a < 9 → ∀ b, b < 9 → a ≠ b → (TX4 a).2.1 ≠ (TX4 b).2.1 := by decide +kernel
theorem tyX4_ok : ∀ k, k < 9 → parseFieldDescriptor (TX4 k).2.2.1 = some (tyX4 k) := by decide +kernel
def RX5 : String := "LotRulesModel"
def TX5 : u_T := fun k => match k with
  | 0 => ("LotRulesModel", "code", "I", false)
  | 1 => ("LotRulesModel", "lots", "I", false)
  | 2 => ("LotRulesModel", "good", "[I", true)
  | 3 => ("LotRulesModel", "owner", "[I", true)
  | 4 => ("LotRulesModel", "until", "[I", true)
  | 5 => ("LotRulesModel", "arrived", "[I", true)
  | 6 => ("LotRulesModel", "from", "[I", true)
  | 7 => ("LotRulesModel", "into", "[I", true)
  | 8 => ("LotRulesModel", "blocks", "[I", true)
  | 9 => ("LotRulesModel", "quiet", "[Z", true)
  | 10 => ("LotRulesModel", "rotation", "[I", true)
  | 11 => ("LotRulesModel", "mixture", "[I", true)
  | 12 => ("LotRulesModel", "want", "[I", true)
  | 13 => ("LotRulesModel", "rights", "[I", true)
  | 14 => ("LotRulesModel", "units", "I", false)
  | 15 => ("LotRulesModel", "lotOf", "[I", true)
  | 16 => ("LotRulesModel", "bin", "[I", true)
  | 17 => ("LotRulesModel", "customer", "[I", true)
  | 18 => ("LotRulesModel", "when", "[I", true)
  | 19 => ("LotRulesModel", "was", "[Z", true)
  | 20 => ("LotRulesModel", "rows", "I", false)
  | 21 => ("LotRulesModel", "rowLot", "[I", true)
  | 22 => ("LotRulesModel", "rowKind", "[I", true)
  | 23 => ("LotRulesModel", "rowNumber", "[I", true)
  | 24 => ("LotRulesModel", "mixed", "[I", true)
  | _ => ("LotRulesModel", "family", "[Z", true)
def tyX5 : Nat → FieldType := fun k => match k with
  | 0 => .int
  | 1 => .int
  | 2 => .array .int
  | 3 => .array .int
  | 4 => .array .int
  | 5 => .array .int
  | 6 => .array .int
  | 7 => .array .int
  | 8 => .array .int
  | 9 => .array .boolean
  | 10 => .array .int
  | 11 => .array .int
  | 12 => .array .int
  | 13 => .array .int
  | 14 => .int
  | 15 => .array .int
  | 16 => .array .int
  | 17 => .array .int
  | 18 => .array .int
  | 19 => .array .boolean
  | 20 => .int
  | 21 => .array .int
  | 22 => .array .int
  | 23 => .array .int
  | 24 => .array .int
  | _ => .array .boolean
theorem nmX5 : ∀ a, a < 26 → ∀ b, b < 26 → a ≠ b → (TX5 a).2.1 ≠ (TX5 b).2.1 := by decide +kernel
theorem tyX5_ok : ∀ k, k < 26 → parseFieldDescriptor (TX5 k).2.2.1 = some (tyX5 k) := by decide +kernel
def RJ6 : String := "java/lang/Integer"
def RL : String := "LotRulesLaw"
abbrev cX4_init : ByteArray := prog_1_method_1_code
def yX4_init : MethodName := ⟨RX4, "<init>", "()V"⟩
abbrev cX1_init : ByteArray := prog_3_method_1_code
def yX1_init : MethodName := ⟨RX1, "<init>", "()V"⟩
abbrev cX3_init : ByteArray := prog_5_method_1_code
def yX3_init : MethodName := ⟨RX3, "<init>", "()V"⟩
abbrev cX2_init : ByteArray := prog_4_method_1_code
def yX2_init : MethodName := ⟨RX2, "<init>", "()V"⟩
abbrev cX4_count : ByteArray := prog_1_method_23_code
def yX4_count : MethodName := ⟨RX4, "count", "(I)I"⟩
abbrev cL_lot : ByteArray := method_3_code
def yL_lot : MethodName := ⟨RL, "lot", "(LLotRules;IIII[J)I"⟩
abbrev cX4_lot : ByteArray := prog_1_method_2_code
def yX4_lot : MethodName := ⟨RX4, "lot", "(IIII)I"⟩
abbrev cX4_requireRange : ByteArray := prog_1_method_28_code
def yX4_requireRange : MethodName := ⟨RX4, "requireRange", "(III)V"⟩
abbrev cX1_haveRoom : ByteArray := prog_3_method_2_code
def yX1_haveRoom : MethodName := ⟨RX1, "haveRoom", "()Z"⟩
abbrev cX2_haveRoomFor : ByteArray := prog_4_method_2_code
def yX2_haveRoomFor : MethodName := ⟨RX2, "haveRoomFor", "(I)Z"⟩
abbrev cX4_requireRoom : ByteArray := prog_1_method_31_code
def yX4_requireRoom : MethodName := ⟨RX4, "requireRoom", "(Z)V"⟩
abbrev cX1_add : ByteArray := prog_3_method_3_code
def yX1_add : MethodName := ⟨RX1, "add", "(IIII)I"⟩
abbrev cX2_write : ByteArray := prog_4_method_3_code
def yX2_write : MethodName := ⟨RX2, "write", "(III)V"⟩
abbrev cL_rule : ByteArray := method_4_code
def yL_rule : MethodName := ⟨RL, "rule", "(LLotRules;III)I"⟩
abbrev cX4_rule : ByteArray := prog_1_method_3_code
def yX4_rule : MethodName := ⟨RX4, "rule", "(III)V"⟩
abbrev cL_wants : ByteArray := method_5_code
def yL_wants : MethodName := ⟨RL, "wants", "(LLotRules;II)I"⟩
abbrev cX4_wants : ByteArray := prog_1_method_4_code
def yX4_wants : MethodName := ⟨RX4, "wants", "(II)V"⟩
abbrev cL_right : ByteArray := method_6_code
def yL_right : MethodName := ⟨RL, "right", "(LLotRules;IIZ)I"⟩
abbrev cX4_right : ByteArray := prog_1_method_5_code
def yX4_right : MethodName := ⟨RX4, "right", "(IIZ)V"⟩
abbrev cL_block : ByteArray := method_7_code
def yL_block : MethodName := ⟨RL, "block", "(LLotRules;II[J)I"⟩
abbrev cX4_block : ByteArray := prog_1_method_6_code
def yX4_block : MethodName := ⟨RX4, "block", "(II)I"⟩
abbrev cX4_requireLot : ByteArray := prog_1_method_26_code
def yX4_requireLot : MethodName := ⟨RX4, "requireLot", "(I)V"⟩
abbrev cX4_requireState : ByteArray := prog_1_method_30_code
def yX4_requireState : MethodName := ⟨RX4, "requireState", "(Z)V"⟩
abbrev cJ6_bitCount : ByteArray := prog_11_method_49_code
def yJ6_bitCount : MethodName := ⟨RJ6, "bitCount", "(I)I"⟩
abbrev cL_release : ByteArray := method_8_code
def yL_release : MethodName := ⟨RL, "release", "(LLotRules;II[J)I"⟩
abbrev cX4_release : ByteArray := prog_1_method_7_code
def yX4_release : MethodName := ⟨RX4, "release", "(II)I"⟩
abbrev cL_quarantine : ByteArray := method_9_code
def yL_quarantine : MethodName := ⟨RL, "quarantine", "(LLotRules;IZ)I"⟩
abbrev cX4_quarantine : ByteArray := prog_1_method_8_code
def yX4_quarantine : MethodName := ⟨RX4, "quarantine", "(IZ)V"⟩
abbrev cL_order : ByteArray := method_10_code
def yL_order : MethodName := ⟨RL, "order", "(LLotRules;III[J)I"⟩
abbrev cX4_order : ByteArray := prog_1_method_9_code
def yX4_order : MethodName := ⟨RX4, "order", "(III)I"⟩
abbrev cX4_requireNotNegative : ByteArray := prog_1_method_29_code
def yX4_requireNotNegative : MethodName := ⟨RX4, "requireNotNegative", "(I)V"⟩
abbrev cX1_mayBeTakenFor : ByteArray := prog_3_method_9_code
def yX1_mayBeTakenFor : MethodName := ⟨RX1, "mayBeTakenFor", "(III)Z"⟩
abbrev cX1_mayBeTaken : ByteArray := prog_3_method_8_code
def yX1_mayBeTaken : MethodName := ⟨RX1, "mayBeTaken", "(I)Z"⟩
abbrev cX1_rivalsBefore : ByteArray := prog_3_method_10_code
def yX1_rivalsBefore : MethodName := ⟨RX1, "rivalsBefore", "(II)I"⟩
abbrev cX1_comesBefore : ByteArray := prog_3_method_11_code
def yX1_comesBefore : MethodName := ⟨RX1, "comesBefore", "(III)Z"⟩
abbrev cX1_arrivedBefore : ByteArray := prog_3_method_12_code
def yX1_arrivedBefore : MethodName := ⟨RX1, "arrivedBefore", "(II)Z"⟩
abbrev cL_allowed : ByteArray := method_11_code
def yL_allowed : MethodName := ⟨RL, "allowed", "(LLotRules;III[J)I"⟩
abbrev cX4_allowed : ByteArray := prog_1_method_10_code
def yX4_allowed : MethodName := ⟨RX4, "allowed", "(III)Z"⟩
abbrev cX4_mayGo : ByteArray := prog_1_method_24_code
def yX4_mayGo : MethodName := ⟨RX4, "mayGo", "(III)Z"⟩
abbrev cL_split : ByteArray := method_12_code
def yL_split : MethodName := ⟨RL, "split", "(LLotRules;I[J)I"⟩
abbrev cX4_split : ByteArray := prog_1_method_11_code
def yX4_split : MethodName := ⟨RX4, "split", "(I)I"⟩
abbrev cX1_addPartOf : ByteArray := prog_3_method_4_code
def yX1_addPartOf : MethodName := ⟨RX1, "addPartOf", "(I)I"⟩
abbrev cL_join : ByteArray := method_13_code
def yL_join : MethodName := ⟨RL, "join", "(LLotRules;II)I"⟩
abbrev cX4_join : ByteArray := prog_1_method_12_code
def yX4_join : MethodName := ⟨RX4, "join", "(II)V"⟩
abbrev cX1_areAlike : ByteArray := prog_3_method_6_code
def yX1_areAlike : MethodName := ⟨RX1, "areAlike", "(II)Z"⟩
abbrev cX1_closeInto : ByteArray := prog_3_method_5_code
def yX1_closeInto : MethodName := ⟨RX1, "closeInto", "(II)V"⟩
abbrev cX3_moveAll : ByteArray := prog_5_method_6_code
def yX3_moveAll : MethodName := ⟨RX3, "moveAll", "(II)V"⟩
abbrev cL_unit : ByteArray := method_14_code
def yL_unit : MethodName := ⟨RL, "unit", "(LLotRules;I[J)I"⟩
abbrev cX4_unit : ByteArray := prog_1_method_13_code
def yX4_unit : MethodName := ⟨RX4, "unit", "(I)I"⟩
abbrev cX3_haveRoom : ByteArray := prog_5_method_2_code
def yX3_haveRoom : MethodName := ⟨RX3, "haveRoom", "()Z"⟩
abbrev cX3_add : ByteArray := prog_5_method_3_code
def yX3_add : MethodName := ⟨RX3, "add", "(I)I"⟩
abbrev cL_put : ByteArray := method_15_code
def yL_put : MethodName := ⟨RL, "put", "(LLotRules;II)I"⟩
abbrev cX4_put : ByteArray := prog_1_method_14_code
def yX4_put : MethodName := ⟨RX4, "put", "(II)V"⟩
abbrev cX4_requireUnit : ByteArray := prog_1_method_27_code
def yX4_requireUnit : MethodName := ⟨RX4, "requireUnit", "(I)V"⟩
abbrev cX3_isGone : ByteArray := prog_5_method_4_code
def yX3_isGone : MethodName := ⟨RX3, "isGone", "(I)Z"⟩
abbrev cX4_lotThatHinders : ByteArray := prog_1_method_25_code
def yX4_lotThatHinders : MethodName := ⟨RX4, "lotThatHinders", "(II)I"⟩
abbrev cX1_lieTooFarApart : ByteArray := prog_3_method_7_code
def yX1_lieTooFarApart : MethodName := ⟨RX1, "lieTooFarApart", "(III)Z"⟩
abbrev cL_mixed : ByteArray := method_16_code
def yL_mixed : MethodName := ⟨RL, "mixed", "(LLotRules;I[J)I"⟩
abbrev cX4_mixed : ByteArray := prog_1_method_15_code
def yX4_mixed : MethodName := ⟨RX4, "mixed", "(I)I"⟩
abbrev cL_ship : ByteArray := method_17_code
def yL_ship : MethodName := ⟨RL, "ship", "(LLotRules;III)I"⟩
abbrev cX4_ship : ByteArray := prog_1_method_16_code
def yX4_ship : MethodName := ⟨RX4, "ship", "(III)V"⟩
abbrev cX3_send : ByteArray := prog_5_method_5_code
def yX3_send : MethodName := ⟨RX3, "send", "(III)V"⟩
abbrev cL_recall : ByteArray := method_18_code
def yL_recall : MethodName := ⟨RL, "recall", "(LLotRules;II[J)I"⟩
abbrev cX4_recall : ByteArray := prog_1_method_17_code
def yX4_recall : MethodName := ⟨RX4, "recall", "(II)I"⟩
abbrev cX1_familyOf : ByteArray := prog_3_method_13_code
def yX1_familyOf : MethodName := ⟨RX1, "familyOf", "(I)J"⟩
abbrev cX3_everOfFamily : ByteArray := prog_5_method_8_code
def yX3_everOfFamily : MethodName := ⟨RX3, "everOfFamily", "(JI)I"⟩
abbrev cL_where : ByteArray := method_19_code
def yL_where : MethodName := ⟨RL, "where", "(LLotRules;II[J)I"⟩
abbrev cX4_where : ByteArray := prog_1_method_18_code
def yX4_where : MethodName := ⟨RX4, "where", "(II)I"⟩
abbrev cL_history : ByteArray := method_20_code
def yL_history : MethodName := ⟨RL, "history", "(LLotRules;III[J)I"⟩
abbrev cX4_history : ByteArray := prog_1_method_19_code
def yX4_history : MethodName := ⟨RX4, "history", "(III)I"⟩
abbrev cX2_find : ByteArray := prog_4_method_4_code
def yX2_find : MethodName := ⟨RX2, "find", "(II)I"⟩
abbrev cL_told : ByteArray := method_21_code
def yL_told : MethodName := ⟨RL, "told", "(LLotRules;II[J)I"⟩
abbrev cX4_told : ByteArray := prog_1_method_20_code
def yX4_told : MethodName := ⟨RX4, "told", "(II)I"⟩
abbrev cX3_leftOf : ByteArray := prog_5_method_7_code
def yX3_leftOf : MethodName := ⟨RX3, "leftOf", "(I)I"⟩
abbrev cL_day : ByteArray := method_22_code
def yL_day : MethodName := ⟨RL, "day", "(LLotRules;II[J)I"⟩
abbrev cX4_day : ByteArray := prog_1_method_21_code
def yX4_day : MethodName := ⟨RX4, "day", "(II)I"⟩
abbrev cX0_fromYearDay : ByteArray := prog_2_method_2_code
def yX0_fromYearDay : MethodName := ⟨RX0, "fromYearDay", "(II)I"⟩
abbrev cX0_daysBefore : ByteArray := prog_2_method_5_code
def yX0_daysBefore : MethodName := ⟨RX0, "daysBefore", "(II)I"⟩
abbrev cX0_startOfYear : ByteArray := prog_2_method_4_code
def yX0_startOfYear : MethodName := ⟨RX0, "startOfYear", "(I)I"⟩
abbrev cX0_fromMonthDay : ByteArray := prog_2_method_3_code
def yX0_fromMonthDay : MethodName := ⟨RX0, "fromMonthDay", "(III)I"⟩
abbrev cL_date : ByteArray := method_23_code
def yL_date : MethodName := ⟨RL, "date", "(LLotRules;II[J)I"⟩
abbrev cX4_date : ByteArray := prog_1_method_22_code
def yX4_date : MethodName := ⟨RX4, "date", "(II)I"⟩
abbrev cX0_yearOf : ByteArray := prog_2_method_6_code
def yX0_yearOf : MethodName := ⟨RX0, "yearOf", "(I)I"⟩
abbrev cX0_monthOf : ByteArray := prog_2_method_7_code
def yX0_monthOf : MethodName := ⟨RX0, "monthOf", "(II)I"⟩
abbrev cX5_init : ByteArray := prog_7_method_1_code
def yX5_init : MethodName := ⟨RX5, "<init>", "()V"⟩
abbrev cX5_thrown : ByteArray := prog_7_method_2_code
def yX5_thrown : MethodName := ⟨RX5, "thrown", "()I"⟩
abbrev cX5_lot : ByteArray := prog_7_method_8_code
def yX5_lot : MethodName := ⟨RX5, "lot", "(IIII)I"⟩
abbrev cX5_in : ByteArray := prog_7_method_3_code
def yX5_in : MethodName := ⟨RX5, "in", "(III)Z"⟩
abbrev cX5_make : ByteArray := prog_7_method_7_code
def yX5_make : MethodName := ⟨RX5, "make", "(IIIII)I"⟩
abbrev cX5_row : ByteArray := prog_7_method_6_code
def yX5_row : MethodName := ⟨RX5, "row", "(III)V"⟩
abbrev cX5_rule : ByteArray := prog_7_method_9_code
def yX5_rule : MethodName := ⟨RX5, "rule", "(III)V"⟩
abbrev cX5_wants : ByteArray := prog_7_method_10_code
def yX5_wants : MethodName := ⟨RX5, "wants", "(II)V"⟩
abbrev cX5_right : ByteArray := prog_7_method_11_code
def yX5_right : MethodName := ⟨RX5, "right", "(IIZ)V"⟩
abbrev cX5_block : ByteArray := prog_7_method_13_code
def yX5_block : MethodName := ⟨RX5, "block", "(II)I"⟩
abbrev cX5_isLot : ByteArray := prog_7_method_4_code
def yX5_isLot : MethodName := ⟨RX5, "isLot", "(I)Z"⟩
abbrev cX5_isOpen : ByteArray := prog_7_method_5_code
def yX5_isOpen : MethodName := ⟨RX5, "isOpen", "(I)Z"⟩
abbrev cX5_bits : ByteArray := prog_7_method_12_code
def yX5_bits : MethodName := ⟨RX5, "bits", "(I)I"⟩
abbrev cX5_release : ByteArray := prog_7_method_14_code
def yX5_release : MethodName := ⟨RX5, "release", "(II)I"⟩
abbrev cX5_quarantine : ByteArray := prog_7_method_15_code
def yX5_quarantine : MethodName := ⟨RX5, "quarantine", "(IZ)V"⟩
abbrev cX5_order : ByteArray := prog_7_method_18_code
def yX5_order : MethodName := ⟨RX5, "order", "(III)I"⟩
abbrev cX5_mayBeTaken : ByteArray := prog_7_method_16_code
def yX5_mayBeTaken : MethodName := ⟨RX5, "mayBeTaken", "(I)Z"⟩
abbrev cX5_isBefore : ByteArray := prog_7_method_17_code
def yX5_isBefore : MethodName := ⟨RX5, "isBefore", "(II)Z"⟩
abbrev cX5_allowed : ByteArray := prog_7_method_20_code
def yX5_allowed : MethodName := ⟨RX5, "allowed", "(III)Z"⟩
abbrev cX5_isAllowed : ByteArray := prog_7_method_19_code
def yX5_isAllowed : MethodName := ⟨RX5, "isAllowed", "(III)Z"⟩
abbrev cX5_split : ByteArray := prog_7_method_21_code
def yX5_split : MethodName := ⟨RX5, "split", "(I)I"⟩
abbrev cX5_join : ByteArray := prog_7_method_22_code
def yX5_join : MethodName := ⟨RX5, "join", "(II)V"⟩
abbrev cX5_unit : ByteArray := prog_7_method_25_code
def yX5_unit : MethodName := ⟨RX5, "unit", "(I)I"⟩
abbrev cX5_put : ByteArray := prog_7_method_27_code
def yX5_put : MethodName := ⟨RX5, "put", "(II)V"⟩
abbrev cX5_isUnit : ByteArray := prog_7_method_23_code
def yX5_isUnit : MethodName := ⟨RX5, "isUnit", "(I)Z"⟩
abbrev cX5_isGone : ByteArray := prog_7_method_24_code
def yX5_isGone : MethodName := ⟨RX5, "isGone", "(I)Z"⟩
abbrev cX5_mayMix : ByteArray := prog_7_method_26_code
def yX5_mayMix : MethodName := ⟨RX5, "mayMix", "(II)Z"⟩
abbrev cX5_mixed : ByteArray := prog_7_method_28_code
def yX5_mixed : MethodName := ⟨RX5, "mixed", "(I)I"⟩
abbrev cX5_ship : ByteArray := prog_7_method_29_code
def yX5_ship : MethodName := ⟨RX5, "ship", "(III)V"⟩
abbrev cX5_recall : ByteArray := prog_7_method_31_code
def yX5_recall : MethodName := ⟨RX5, "recall", "(II)I"⟩
abbrev cX5_findFamily : ByteArray := prog_7_method_30_code
def yX5_findFamily : MethodName := ⟨RX5, "findFamily", "(I)V"⟩
abbrev cX5_where : ByteArray := prog_7_method_32_code
def yX5_where : MethodName := ⟨RX5, "where", "(II)I"⟩
abbrev cX5_history : ByteArray := prog_7_method_33_code
def yX5_history : MethodName := ⟨RX5, "history", "(III)I"⟩
abbrev cX5_told : ByteArray := prog_7_method_34_code
def yX5_told : MethodName := ⟨RX5, "told", "(II)I"⟩
abbrev cX5_day : ByteArray := prog_7_method_39_code
def yX5_day : MethodName := ⟨RX5, "day", "(II)I"⟩
abbrev cX5_dayOf : ByteArray := prog_7_method_38_code
def yX5_dayOf : MethodName := ⟨RX5, "dayOf", "(III)I"⟩
abbrev cX5_daysOfMonth : ByteArray := prog_7_method_36_code
def yX5_daysOfMonth : MethodName := ⟨RX5, "daysOfMonth", "(II)I"⟩
abbrev cX5_firstOf : ByteArray := prog_7_method_37_code
def yX5_firstOf : MethodName := ⟨RX5, "firstOf", "(I)I"⟩
abbrev cX5_daysOfYear : ByteArray := prog_7_method_35_code
def yX5_daysOfYear : MethodName := ⟨RX5, "daysOfYear", "(I)I"⟩
abbrev cX5_date : ByteArray := prog_7_method_40_code
def yX5_date : MethodName := ⟨RX5, "date", "(II)I"⟩
abbrev cX5_count : ByteArray := prog_7_method_41_code
def yX5_count : MethodName := ⟨RX5, "count", "(I)I"⟩
abbrev cL_law : ByteArray := code
def yL_law : MethodName := ⟨RL, "law", "([I)Z"⟩
/-! numbers: what a comparison of ints says of their values -/
theorem i_lt {x y : Int32} {a b : Int} (h : x < y) (ha : x.toInt = a) (hb : y.toInt = b) : a < b := by rw [← ha, ← hb]; exact Int32.lt_iff_toInt_lt.mp h
theorem i_nlt {x y : Int32} {a b : Int} (h : ¬ x < y) (ha : x.toInt = a) (hb : y.toInt = b) : b ≤ a := by rw [← ha, ← hb]; exact Int.not_lt.mp (fun q => h (Int32.lt_iff_toInt_lt.mpr q))
theorem i_le {x y : Int32} {a b : Int} (h : x ≤ y) (ha : x.toInt = a) (hb : y.toInt = b) : a ≤ b := by rw [← ha, ← hb]; exact Int32.le_iff_toInt_le.mp h
theorem i_nle {x y : Int32} {a b : Int} (h : ¬ x ≤ y) (ha : x.toInt = a) (hb : y.toInt = b) : b < a := by rw [← ha, ← hb]; exact Int.not_le.mp (fun q => h (Int32.le_iff_toInt_le.mpr q))
theorem i_eq {x y : Int32} {a b : Int} (h : x = y) (ha : x.toInt = a) (hb : y.toInt = b) : a = b := by rw [← ha, ← hb, h]
theorem i_ne {x y : Int32} {a b : Int} (h : ¬ x = y) (ha : x.toInt = a) (hb : y.toInt = b) : a ≠ b := by rw [← ha, ← hb]; exact fun q => h (Int32.toInt_inj.mp q)
theorem i_of {x y : Int32} {a : Int} (h : x.toInt = a) (hb : y.toInt = a) : x = y := Int32.toInt_inj.mp (h.trans hb.symm)
theorem i_inc {x : Int32} (h : x.toInt < 2147483647) : (x + 1).toInt = x.toInt + 1 := by
  have h1 := Int32.le_toInt x
  rw [Int32.toInt_add, show (1 : Int32).toInt = 1 from by decide]
  exact Int.bmod_eq_of_le (by omega) (by omega)
theorem i_dec {x : Int32} (h : -2147483648 < x.toInt) : (x + (-1)).toInt = x.toInt - 1 := by
  have h1 := Int32.toInt_lt x
  rw [Int32.toInt_add, show (-1 : Int32).toInt = -1 from by decide]
  exact Int.bmod_eq_of_le (by omega) (by omega)
theorem i_dec1 {x : Int32} (h : -2147483648 < x.toInt) : (x - 1).toInt = x.toInt - 1 := by
  have h1 := Int32.toInt_lt x
  rw [Int32.toInt_sub, show (1 : Int32).toInt = 1 from by decide]
  exact Int.bmod_eq_of_le (by omega) (by omega)
theorem i_rg {x : Int32} {a : Int} {n : Nat} (h : 0 ≤ x.toInt ∧ x.toInt < a) (ha : a ≤ n) : 0 ≤ x.toInt ∧ x.toInt < n := ⟨h.1, Int.lt_of_lt_of_le h.2 ha⟩
theorem i_nar {x : Int32} (h : x = 0 ∨ x = 1) : narrow .boolean (.int x) = .int x := by rcases h with rfl | rfl <;> rfl
theorem i_out (x : Int32) {lo hi : Int} (hlh : lo ≤ hi) (h : ∀ k : Int, lo ≤ k → k ≤ hi → ¬ x.toInt = k) : x.toInt < lo ∨ hi < x.toInt := by
  rcases Int.lt_or_le x.toInt lo with q | q
  · exact Or.inl q
  · rcases Int.lt_or_le hi x.toInt with q2 | q2
    · exact Or.inr q2
    · exact absurd rfl (h _ q q2)
/-! loops: an invariant of the fuel and of the locals -/
theorem lp_ind (G : JFrame → Prop) (I : Nat → Array Slot → Prop) (m : MethodId) (pc : Nat) (z : ∀ ls, I 0 ls → G (F0 m pc ls [])) (st : ∀ n ls, I (n + 1) ls → (∀ ls', I n ls' → G (F0 m pc ls' [])) → G (F0 m pc ls [])) (n : Nat) : ∀ ls, I n ls → G (F0 m pc ls []) := by
  induction n with
  | zero => exact z
  | succ n ih => exact fun ls h => st n ls h ih
theorem lp_indH (G : Heap → List Loc → JFrame → Prop) (I : Nat → Heap → List Loc → Array Slot → Prop) (m : MethodId) (pc : Nat) (z : ∀ H locs ls, I 0 H locs ls → G H locs (F0 m pc ls [])) (st : ∀ n H locs ls, I (n + 1) H locs ls → (∀ H' locs' ls', I n H' locs' ls' → G H' locs' (F0 m pc ls' [])) → G H locs (F0 m pc ls [])) (n : Nat) : ∀ H locs ls, I n H locs ls → G H locs (F0 m pc ls []) := by
  induction n with
  | zero => exact z
  | succ n ih => exact fun H locs ls h => st n H locs ls h ih
/-- which exception a number is -/
def ex_is (k : Nat) (E : String) : Prop := (match k with
  | 1 => "java/util/NoSuchElementException"
  | 2 => "java/lang/IllegalArgumentException"
  | 3 => "java/lang/IllegalStateException"
  | 4 => "java/lang/UnsupportedOperationException"
  | _ => "") = E
theorem i_rgl {x : Int32} {a : Int} {n : Nat} (h : 0 ≤ x.toInt ∧ x.toInt ≤ a) (ha : a < n) : 0 ≤ x.toInt ∧ x.toInt < n := ⟨h.1, Int.lt_of_le_of_lt h.2 ha⟩
theorem i_add {x y : Int32} (h1 : -2147483648 ≤ x.toInt + y.toInt) (h2 : x.toInt + y.toInt < 2147483648) : (x + y).toInt = x.toInt + y.toInt := by
  rw [Int32.toInt_add]
  exact Int.bmod_eq_of_le (by omega) (by omega)
theorem i_sub {x y : Int32} (h1 : -2147483648 ≤ x.toInt - y.toInt) (h2 : x.toInt - y.toInt < 2147483648) : (x - y).toInt = x.toInt - y.toInt := by
  rw [Int32.toInt_sub]
  exact Int.bmod_eq_of_le (by omega) (by omega)
theorem va_RA_find {U : State} {cA : ClassId} {ty : FieldType} (h : va_RA U cA ty) : U.vm.findClass ("[" ++ ty.toString) = some cA := by
  cases ty with
  | object C => obtain ⟨_, _, _, _, _, h4⟩ := h; exact h4
  | _ => exact h
theorem arr_id {D : va_G} {cl : List vw_C} {tys : List (ClassId × FieldType)} {s : State} {c1 c2 : ClassId} {ty : FieldType} (hK : va_K D cl tys s) (i j : Nat) (hi : tys[i]? = some (c1, ty)) (hj : tys[j]? = some (c2, ty)) : c1 = c2 := Option.some.inj ((va_RA_find (hK.2 i _ hi).2).symm.trans (va_RA_find (hK.2 j _ hj).2))
end
section
section VY
/-! A callee that returns at the cost of mr cells and sr slots, or throws at that of mc and ms. The rows follow the kit's vx_ rows. -/
def vy_Q (Qc : Array Value → State → Outcome → State → Prop) (XC : String → State → State → Prop) (mr sr mc ms : Nat) (free : Addr → Prop) : Array Value → State → Outcome → State → Prop := fun a st o t =>
  (Qc a st o t ∧ ∃ L, FrameEnd st o t L mr sr ∧ ∀ q ∈ L, free q.base) ∨ ∃ q, o = .threw q ∧ vx_T XC st q t mc ms free
def vy_Met (l : Launch) (y : MethodName) (ws : List Cond) (rm : Room) (Pc : Array Value → State → Prop) (Qc : Array Value → State → Outcome → State → Prop) (XC : String → State → State → Prop) (mr sr mc ms : Nat) (free : Addr → Prop) : Prop :=
  MetFree l y (headSpec ws rm) Pc (fun _ _ _ _ _ => True) (vy_Q Qc XC mr sr mc ms free)
def vy_MQ (below : List Frame) (Qc : Array Value → State → Outcome → State → Prop) (XC : String → State → State → Prop) (a : Array Value) (s : State) (mr sr mc ms : Nat) (free : Addr → Prop) : State → Prop := fun t =>
  ∃ o, t.status = .running ∧ Ended t below o ∧ vy_Q Qc XC mr sr mc ms free a s o t
section
variable {l : Launch} {R : Room} {p : Program} {e : Env} {below : List Frame} {s : State} {sargs : Array Value} {y : MethodName} {len W9 : Nat}
theorem vy_back {ws : List Cond} {rm : Room} {Pc : Array Value → State → Prop} {Qc : Array Value → State → Outcome → State → Prop} {XC : String → State → State → Prop} {mr sr mc ms : Nat} {free : Addr → Prop} {bytes : ByteArray} {maxL : Nat} {ret : Option FieldType}
    (hM : vy_Met l y ws rm Pc Qc XC mr sr mc ms free) (hblind : FrameBlind Pc) (hrc : rm.cells = mc) (hrs : rm.slots = ms)
    (hframes : rm.frames + 1 ≤ R.frames) (hlocals : W9 + (maxL + 11) + rm.locals ≤ R.locals)
    (hws : ∀ w ∈ ws, ∀ a' U, s.WarmedH U.vm → w.before a' U = true) (hcode : Cond.code y bytes maxL ret ∈ ws) (hinit : ∀ a' U, s.WarmedH U.vm → (Cond.initialized y.cls).before a' U = true) :
    vx_Back l R p e below s sargs y len W9 (PreOf R mc ms Pc) (PostOf Qc mr sr free) (vx_Post XC mc ms free) := by
  intro m meth c A g ig mk a X hg hsize hdg hW hn hp
  have h1 : (headSpec ws rm).pre.before a A.U = true := atoms_intro fun w hw => hws w hw _ _ X.warmed
  have h2 : (Cond.code y bytes maxL ret).before a A.U = true := hws _ hcode _ _ X.warmed
  have h3 : (Cond.initialized y.cls).before a A.U = true := hinit _ _ X.warmed
  have h4 : A.cells + (headSpec ws rm).room.cells ≤ R.cells := by rw [show (headSpec ws rm).room.cells = mc from hrc]; exact hp.1
  have h5 : A.slots + (headSpec ws rm).room.slots ≤ R.slots := by rw [show (headSpec ws rm).room.slots = ms from hrs]; exact hp.2.1
  have hPc : Pc a (A.U.calling g mk a) := hblind _ _ _ _ hp.2.2
  obtain ⟨U, Ls, c0, s0⟩ := A
  dsimp only [Pt.U, Pt.locs, Pt.cells, Pt.slots] at h1 h2 h3 h4 h5 X hn hPc ⊢
  obtain ⟨methY, cY, hmY, hcY, -, hlY, -, -, -, -⟩ := Cond.code_spec hn h2
  obtain ⟨kY, hkY, -⟩ := className_of_methodNamed hn
  have hinitY : kY.init = .initialized := Cond.initialized_spec (findClass_of_methodNamed hn) hkY h3
  have h : At U g.method c below := by rw [hg]; exact X.here
  have hlocals9 : W9 + (maxL + 11) + (headSpec ws rm).room.locals ≤ R.locals := hlocals
  have happ : (headSpec ws rm).appliesLoose y e.platform (U.calling g mk a) = true :=
    Spec.appliesLoose_calling (g := g) h hdg hn hkY hinitY
      (X.room_calling (g := g) (R' := (headSpec ws rm).room) hsize hmY hcY hframes (by rw [hlY]; omega) h4 h5) h1
  obtain ⟨mid, hmid⟩ := h.above
  have hfr : (U.setTop g).frames = (.java g :: mid) ++ below := by rw [State.frames_setTop' g h.top, hmid]; rfl
  obtain ⟨o, s₂, hsteps, -, hend, hq⟩ := Steps.callFree hM p X.admits X.cas X.clock (acts := []) hfr happ hPc trivial
  have hq' : vy_Q Qc XC mr sr mc ms free a (U.calling g mk a) o s₂ := hq
  rw [State.frames_setTop' g h.top] at hend
  obtain ⟨g₀, hg0⟩ := Option.isSome_iff_exists.mp h.top
  obtain ⟨r, hr⟩ := State.topJava?_eq_some.mp hg0
  have hr' : (({ U with heap := s₂.heap, slotsUsed := s₂.slotsUsed } : State).setVm s₂.vm).frames = .java g₀ :: r := hr
  rcases hq' with ⟨hqc, L, hfe, hL⟩ | ⟨q, rfl, E, ce, L, hx, hce, hcv, hcl, hW₂, hsm, hL⟩
  · obtain ⟨⟨v, rfl⟩, hW₂, e2, q2, q3, q4, q5, q6⟩ := id hfe
    have e3 : s₂ = ({ (U.calling g mk a).setFrames s₂.frames with heap := s₂.heap, slotsUsed := s₂.slotsUsed } : State).setVm s₂.vm := by
      have : s₂ = ({ s₂ with vm := (U.calling g mk a).vm } : State).setVm s₂.vm := rfl
      rw [e2] at this
      exact this
    obtain ⟨c₂, i₂, len₂, hc₂, hd₂, hf₂⟩ := hend
    have hW' : U.WarmedH s₂.vm := hW₂
    have hcc : c₂ = c := by
      have h1 : s₂.code? g.method = U.code? g.method := by
        rw [State.code?_eq, State.code?_eq, hW'.alike.method?]
      exact Option.some.inj (hc₂.symm.trans (h1.trans h.code))
    subst hcc
    have hlen : len₂ = len := by rw [hdg] at hd₂; cases hd₂; rfl
    subst hlen
    have hs₂ : s₂ = (({ U with heap := s₂.heap, slotsUsed := s₂.slotsUsed } : State).setVm s₂.vm).setTop { g with pc := g.pc + len₂, stack := v.toList ++ g.stack } := by
      refine e3.trans ?_
      rw [hf₂, State.calling_eq h.top, State.setFrames_setFrames, State.setTop_of_frames _ hr', hr]
      rfl
    have hsame : U.sameButNew ({ U with heap := s₂.heap, slotsUsed := s₂.slotsUsed } : State) L mr sr := by
      refine ⟨?_, q2, q3, q4, q5, q6⟩
      obtain ⟨t, ht, -⟩ := State.frames_cons hr
      show ({ U with heap := s₂.heap, slotsUsed := s₂.slotsUsed } : State) = { U.setFrames U.frames with heap := s₂.heap, slotsUsed := s₂.slotsUsed }
      rw [State.setFrames_self ht]
    subst hg
    refine Or.inl ⟨v, ⟨(({ U with heap := s₂.heap, slotsUsed := s₂.slotsUsed } : State).setVm s₂.vm), Ls ++ L, c0 + mr, s0 + sr⟩,
      ⟨X.admits, X.cas, X.clock, X.frames, X.room, X.hears, X.method, X.code, (X.here.setHeapUsed s₂.heap s₂.slotsUsed).setVm hW'.alike, X.tail, State.WarmedH.trans X.warmed hW', X.limits, X.bytes, X.same.trans (hsame.setVm s.vm)⟩,
      ⟨g, mk, s₂, L, rfl, rfl, hqc, rfl, hL, rfl, rfl⟩, ?_⟩
    show Steps p.tables e below _ ((({ U with heap := s₂.heap, slotsUsed := s₂.slotsUsed } : State).setVm s₂.vm).setTop { g with pc := g.pc + len₂, stack := v.toList ++ g.stack })
    rw [← hs₂]
    exact hsteps
  · obtain ⟨e2, q2, q3, q4, q5, q6⟩ := id hsm
    have e3 : s₂ = ({ (U.calling g mk a).setFrames s₂.frames with heap := s₂.heap, slotsUsed := s₂.slotsUsed } : State).setVm s₂.vm := by
      have : s₂ = ({ s₂ with vm := (U.calling g mk a).vm } : State).setVm s₂.vm := rfl
      rw [e2] at this
      exact this
    have hf₂ : s₂.frames = .throwing q :: .java g :: U.frames.tail := hend
    have hW' : U.WarmedH s₂.vm := hW₂
    have hs₂ : s₂ = ((({ U with heap := s₂.heap, slotsUsed := s₂.slotsUsed } : State).setVm s₂.vm).setTop g).pushFrame (.throwing q) := by
      refine e3.trans ?_
      rw [hf₂, State.calling_eq h.top, State.setFrames_setFrames, State.pushFrame, State.frames_setTop _ hr', State.setTop_of_frames _ hr', State.setFrames_setFrames, hr]
      rfl
    have hsame : U.sameButNew ({ U with heap := s₂.heap, slotsUsed := s₂.slotsUsed } : State) L mc ms := by
      refine ⟨?_, q2, q3, q4, q5, q6⟩
      obtain ⟨t, ht, -⟩ := State.frames_cons hr
      show ({ U with heap := s₂.heap, slotsUsed := s₂.slotsUsed } : State) = { U.setFrames U.frames with heap := s₂.heap, slotsUsed := s₂.slotsUsed }
      rw [State.setFrames_self ht]
    subst hg
    refine Or.inr ⟨q, ⟨(({ U with heap := s₂.heap, slotsUsed := s₂.slotsUsed } : State).setVm s₂.vm), Ls ++ L, c0 + mc, s0 + ms⟩,
      ⟨X.admits, X.cas, X.clock, X.frames, X.room, X.hears, X.method, X.code, (X.here.setHeapUsed s₂.heap s₂.slotsUsed).setVm hW'.alike, X.tail, State.WarmedH.trans X.warmed hW', X.limits, X.bytes, X.same.trans (hsame.setVm s.vm)⟩,
      ⟨g, mk, s₂, L, E, ce, rfl, rfl, hx, hce, hcv, hcl, rfl, hL, rfl, rfl⟩, ?_⟩
    show Steps p.tables e below _ (((({ U with heap := s₂.heap, slotsUsed := s₂.slotsUsed } : State).setVm s₂.vm).setTop g).pushFrame (.throwing q))
    rw [← hs₂]
    exact hsteps
end
def vy_Run (p : Program) (l : Launch) (e : Env) (R : Room) (s : State) (m : MethodId) (args : Array Value) (below : List Frame) (meth : Method) (c : Code) (H : Heap) (locs : List Loc) (cells slots mr sr mc ms : Nat) (g : JFrame) (rest : List Value) (Qa : State → Outcome → State → Prop) (XC : String → State → State → Prop) (free : Addr → Prop) : Prop :=
  ∀ T : State, T.heap = H → Stand p l e R s m args below meth c T locs cells slots →
    (∃ (v : Option Value) (st₀ t T' : State) (L : List Loc), st₀.heap = H ∧ Stand p l e R s m args below meth c T' (locs ++ L) (cells + mr) (slots + sr) ∧ (∀ q ∈ L, free q.base) ∧ T'.heap = t.heap ∧ T'.vm = t.vm ∧ Qa st₀ (.returned v) t ∧
      Goes p e below T g T' { g with pc := g.pc + 3, stack := v.toList ++ rest }) ∨
    (∃ (q : Addr) (st₀ t T' : State) (L : List Loc) (E : String) (ce : Cell), st₀.heap = H ∧ Stand p l e R s m args below meth c T' (locs ++ L) (cells + mc) (slots + ms) ∧ (∀ z ∈ L, free z.base) ∧ T'.heap = t.heap ∧ T'.vm = t.vm ∧ XC E st₀ t ∧ t.heap[q]? = some ce ∧ ce.vm = .none ∧ s.vm.findClass E = some ce.cls ∧
      Steps p.tables e below (T.setTop g) ((T'.setTop { g with stack := rest }).pushFrame (.throwing q)))
section
variable {p : Program} {l : Launch} {e : Env} {R : Room} {s : State} {m : MethodId} {args : Array Value} {below : List Frame} {meth : Method} {c : Code} {H : Heap} {locs : List Loc} {cells slots : Nat}
variable {y : MethodName} {bytes cc : ByteArray} {maxL nL mr sr mc ms n index : Nat} {ret : Option FieldType} {ws : List Cond} {rm : Room} {Pc : Array Value → State → Prop} {Qc : Array Value → State → Outcome → State → Prop} {XC : String → State → State → Prop} {free : Addr → Prop} {Ts : List Cond} {own C : String} {b : Addr} {As rest : List Value} {g : JFrame}
theorem vy_callBack (cb : CallB R s args own index y bytes maxL ret ws rm mc ms n) (hM : vy_Met l y ws rm Pc Qc XC mr sr mc ms free) (hbl : FrameBlind Pc) : vx_Back l R p e below s args y 3 8 (PreOf R mc ms Pc) (PostOf Qc mr sr free) (vx_Post XC mc ms free) := by
  obtain ⟨hrc, hrs, hfr, hlo, hws, hcw, -, hini, -⟩ := cb
  exact vy_back (bytes := bytes) (maxL := maxL) (ret := ret) hM hbl hrc hrs hfr hlo hws hcw (fun a' U hW => word_at hW (Or.inl (by first | rfl | simp [Cond.onTables, Cond.keeps, Cond.steady])) hini)
theorem vy_runV (S : CallFix p m c cc nL s args Ts own) (hM : vy_Met l y ws rm Pc Qc XC mr sr mc ms free) (cw : CallW R s args own C index y bytes maxL ret ws rm mc ms n) (hp : PreV s H C b Pc As)
    (hg : g.method = m) (hn : As.length = n) (hsize : g.locals.size = nL) (hstack : g.stack = As.reverse ++ .ref b :: rest) (hW : 2 * g.monitorRoom + (rest.map fun v => v.category).sum ≤ 8) (hdg : decode cc g.pc = .ok (.invokevirtual index, 3)) (hf : cells + mc ≤ R.cells ∧ slots + ms ≤ R.slots) :
    vy_Run p l e R s m args below meth c H locs cells slots mr sr mc ms g rest (Qc (Value.ref b :: As).toArray) XC free := by
  have hK : vx_Back l R p e below s args y 3 8 (PreOf R mc ms Pc) (PostOf Qc mr sr free) (vx_Post XC mc ms free) := vy_callBack cw.1 hM hp.1
  obtain ⟨⟨-, -, -, -, -, -, hcode, -, hy, hlen, hl⟩, hin, hse⟩ := cw
  obtain ⟨hx, hb, hml, ho, -⟩ := S
  obtain ⟨-, ⟨cellB, hcB, hoB, hclB⟩, hPc⟩ := hp
  intro T hT X
  rcases vx_callV X hx (C := C) (bytes := bytes) (maxL := maxL) (ret := ret) ho hl hin hse hcode hy hK (by rw [hT]; exact hcB) hoB hclB hg (hsize.trans hml.symm) (argsL := As) (rest := rest) (fun sig h => hn.trans (hlen sig h)) hstack hW (by rw [hb]; exact hdg)
    (fun vm₁ hW₁ => ⟨hf.1, hf.2, hPc (T.setVm vm₁) hT hW₁⟩) with ⟨v, vm₁, ⟨U', l2, c2, s2⟩, hW₁, X', ⟨g', mk, t, L, e1, e2, hq, h1, hL, h2, h3⟩, st⟩ | ⟨q, vm₁, ⟨U', l2, c2, s2⟩, hW₁, X', ⟨g', mk, t, L, E, ce, e1, e2, hq, hce, hcv, hcl, h1, hL, h2, h3⟩, st⟩
  · dsimp only [Pt.U, Pt.locs, Pt.cells, Pt.slots] at X' e1 e2 h1 h2 h3 st
    subst h1; subst h2; subst h3
    exact Or.inl ⟨v, (T.setVm vm₁).calling g' mk (Value.ref b :: As).toArray, t, U', L, hT, X', hL, e1, e2, hq, st⟩
  · dsimp only [Pt.U, Pt.locs, Pt.cells, Pt.slots] at X' e1 e2 h1 h2 h3 st hcl
    subst h1; subst h2; subst h3
    exact Or.inr ⟨q, (T.setVm vm₁).calling g' mk (Value.ref b :: As).toArray, t, U', L, E, ce, hT, X', hL, e1, e2, hq, hce, hcv, vx_cls hW₁ hcl, st⟩
theorem vy_runS (S : CallFix p m c cc nL s args Ts own) (hM : vy_Met l y ws rm Pc Qc XC mr sr mc ms free) (cw : CallB R s args own index y bytes maxL ret ws rm mc ms n ∧ (Cond.static y).before args s = true) (hp : PreS s H Pc As)
    (hg : g.method = m) (hn : As.length = n) (hsize : g.locals.size = nL) (hstack : g.stack = As.reverse ++ rest) (hW : 2 * g.monitorRoom + (rest.map fun v => v.category).sum ≤ 8) (hdg : decode cc g.pc = .ok (.invokestatic index, 3)) (hf : cells + mc ≤ R.cells ∧ slots + ms ≤ R.slots) :
    vy_Run p l e R s m args below meth c H locs cells slots mr sr mc ms g rest (Qc As.toArray) XC free := by
  have hK : vx_Back l R p e below s args y 3 8 (PreOf R mc ms Pc) (PostOf Qc mr sr free) (vx_Post XC mc ms free) := vy_callBack cw.1 hM hp.1
  obtain ⟨⟨-, -, -, -, -, -, hcode, hini, hy, hlen, hl⟩, hstt⟩ := cw
  obtain ⟨hx, hb, hml, ho, -⟩ := S
  intro T hT X
  rcases vx_callS X hx (bytes := bytes) (maxL := maxL) (ret := ret) ho hl hstt hini hcode hy hK hg (hsize.trans hml.symm) (argsL := As) (rest := rest) (fun sig h => hn.trans (hlen sig h)) hstack hW (by rw [hb]; exact hdg)
    (fun vm₁ hW₁ => ⟨hf.1, hf.2, hp.2 (T.setVm vm₁) hT hW₁⟩) with ⟨v, vm₁, ⟨U', l2, c2, s2⟩, hW₁, X', ⟨g', mk, t, L, e1, e2, hq, h1, hL, h2, h3⟩, st⟩ | ⟨q, vm₁, ⟨U', l2, c2, s2⟩, hW₁, X', ⟨g', mk, t, L, E, ce, e1, e2, hq, hce, hcv, hcl, h1, hL, h2, h3⟩, st⟩
  · dsimp only [Pt.U, Pt.locs, Pt.cells, Pt.slots] at X' e1 e2 h1 h2 h3 st
    subst h1; subst h2; subst h3
    exact Or.inl ⟨v, (T.setVm vm₁).calling g' mk As.toArray, t, U', L, hT, X', hL, e1, e2, hq, st⟩
  · dsimp only [Pt.U, Pt.locs, Pt.cells, Pt.slots] at X' e1 e2 h1 h2 h3 st hcl
    subst h1; subst h2; subst h3
    exact Or.inr ⟨q, (T.setVm vm₁).calling g' mk As.toArray, t, U', L, E, ce, hT, X', hL, e1, e2, hq, hce, hcv, vx_cls hW₁ hcl, st⟩
end
section
variable {p : Program} {l : Launch} {e : Env} {R : Room} {s : State} {m : MethodId} {args : Array Value} {below : List Frame} {meth : Method} {c : Code} {H : Heap} {locs : List Loc} {cells slots : Nat} {Q : State → Prop}
variable {mr sr mc ms : Nat} {free : Addr → Prop} {A0 A1 : Nat → Prop} {H0 : Heap} {a : Array Value} {pc : Nat} {ls : Array Slot} {st0 rest : List Value}
theorem vy_calli {S SX : Type} {post : Int32 → S → Prop} {px : SX → Prop} {B : S → State → Prop} {BX : String → SX → State → Prop} {AX : Nat → Prop} (hr : vy_Run p l e R s m args below meth c H locs cells slots mr sr mc ms (F0 m pc ls st0) rest (va_Qi post B A1 a) (vx_X px BX AX) free) (hS : va_S A0 H0 H locs) (hA : ∀ q, q < H.size → A1 q → A0 q) (hf : ∀ q, free q → A0 q) (hAX : ∀ q, q < H.size → AX q → A0 q)
    (kx : ∀ (E : String) (ce : Cell) (q9 : Addr) (u : SX) (t : State) (H1 : Heap) (locs1 : List Loc), t.heap = H1 → s.vm.Alike t.vm → px u → BX E u t → H.size ≤ H1.size → (∀ q : Nat, q < H.size → ¬ AX q → H1[q]? = H[q]?) → va_S A0 H0 H1 locs1 → H1[q9]? = some ce → ce.vm = .none → s.vm.findClass E = some ce.cls → vx_W p l e R s m args below meth c H1 locs1 (cells + mc) (slots + ms) Q (F0 m pc ls rest) q9)
    (kk : ∀ (r : Int32) (u : S) (t : State) (H1 : Heap) (locs1 : List Loc), t.heap = H1 → s.vm.Alike t.vm → post r u → B u t → H.size ≤ H1.size → (∀ q : Nat, q < H.size → ¬ A1 q → H1[q]? = H[q]?) → va_S A0 H0 H1 locs1 → W p l e R s m args below meth c H1 locs1 (cells + mr) (slots + sr) Q (F0 m (pc + 3) ls (.int r :: rest))) : W p l e R s m args below meth c H locs cells slots Q (F0 m pc ls st0) := by
  intro T hT X
  rcases hr T hT X with ⟨v, st₀, t, T', L, h0, X', hL, e1, e2, ⟨⟨r, u, hv, hp, hb⟩, hF⟩, st⟩ | ⟨q, st₀, t, T', L, E, ce, h0, X', hL, e1, e2, ⟨u, hp, hb, hF⟩, hce, hcv, hcl, st⟩
  · cases hv
    obtain ⟨k1, k2, k3⟩ := vx_keep h0 e1 hS hA hf hL hF
    obtain ⟨t2, a1, b1⟩ := kk r u t T'.heap (locs ++ L) e1.symm (by rw [← e2]; exact X'.warmed.alike) hp hb k1 k2 k3 T' rfl X'
    exact ⟨t2, st t2 a1, b1⟩
  · obtain ⟨k1, k2, k3⟩ := vx_keep h0 e1 hS hAX hf hL hF
    obtain ⟨t2, a1, b1⟩ := kx E ce q u t T'.heap (locs ++ L) e1.symm (by rw [← e2]; exact X'.warmed.alike) hp hb k1 k2 k3 (by rw [e1]; exact hce) hcv hcl T' rfl X'
    exact ⟨t2, st.trans a1, b1⟩
theorem vy_callv {S SX : Type} {post : S → Prop} {px : SX → Prop} {B : S → State → Prop} {BX : String → SX → State → Prop} {AX : Nat → Prop} (hr : vy_Run p l e R s m args below meth c H locs cells slots mr sr mc ms (F0 m pc ls st0) rest (va_Qv post B A1 a) (vx_X px BX AX) free) (hS : va_S A0 H0 H locs) (hA : ∀ q, q < H.size → A1 q → A0 q) (hf : ∀ q, free q → A0 q) (hAX : ∀ q, q < H.size → AX q → A0 q)
    (kx : ∀ (E : String) (ce : Cell) (q9 : Addr) (u : SX) (t : State) (H1 : Heap) (locs1 : List Loc), t.heap = H1 → s.vm.Alike t.vm → px u → BX E u t → H.size ≤ H1.size → (∀ q : Nat, q < H.size → ¬ AX q → H1[q]? = H[q]?) → va_S A0 H0 H1 locs1 → H1[q9]? = some ce → ce.vm = .none → s.vm.findClass E = some ce.cls → vx_W p l e R s m args below meth c H1 locs1 (cells + mc) (slots + ms) Q (F0 m pc ls rest) q9)
    (kk : ∀ (u : S) (t : State) (H1 : Heap) (locs1 : List Loc), t.heap = H1 → s.vm.Alike t.vm → post u → B u t → H.size ≤ H1.size → (∀ q : Nat, q < H.size → ¬ A1 q → H1[q]? = H[q]?) → va_S A0 H0 H1 locs1 → W p l e R s m args below meth c H1 locs1 (cells + mr) (slots + sr) Q (F0 m (pc + 3) ls (rest))) : W p l e R s m args below meth c H locs cells slots Q (F0 m pc ls st0) := by
  intro T hT X
  rcases hr T hT X with ⟨v, st₀, t, T', L, h0, X', hL, e1, e2, ⟨⟨u, hv, hp, hb⟩, hF⟩, st⟩ | ⟨q, st₀, t, T', L, E, ce, h0, X', hL, e1, e2, ⟨u, hp, hb, hF⟩, hce, hcv, hcl, st⟩
  · cases hv
    obtain ⟨k1, k2, k3⟩ := vx_keep h0 e1 hS hA hf hL hF
    obtain ⟨t2, a1, b1⟩ := kk u t T'.heap (locs ++ L) e1.symm (by rw [← e2]; exact X'.warmed.alike) hp hb k1 k2 k3 T' rfl X'
    exact ⟨t2, st t2 a1, b1⟩
  · obtain ⟨k1, k2, k3⟩ := vx_keep h0 e1 hS hAX hf hL hF
    obtain ⟨t2, a1, b1⟩ := kx E ce q u t T'.heap (locs ++ L) e1.symm (by rw [← e2]; exact X'.warmed.alike) hp hb k1 k2 k3 (by rw [e1]; exact hce) hcv hcl T' rfl X'
    exact ⟨t2, st.trans a1, b1⟩
end
section
variable {p : Program} {l : Launch} {e : Env} {R : Room} {s : State} {m : MethodId} {args : Array Value} {below : List Frame} {meth : Method} {c : Code} {H : Heap} {locs : List Loc} {cells slots : Nat} {Qc : Array Value → State → Outcome → State → Prop} {XC : String → State → State → Prop} {mr sr mc ms : Nat} {free : Addr → Prop}
theorem vy_ret {g : JFrame} (k : W p l e R s m args below meth c H locs cells slots (MQ below Qc args s mr sr free) g) : W p l e R s m args below meth c H locs cells slots (vy_MQ below Qc XC args s mr sr mc ms free) g := by
  intro T hT X
  obtain ⟨t, a1, o, b1, b2, b3, b4⟩ := k T hT X
  exact ⟨t, a1, o, b1, b2, Or.inl ⟨b3, b4⟩⟩
theorem vy_thr {g : JFrame} (k : W p l e R s m args below meth c H locs cells slots (vx_MQ below (fun _ _ _ _ => False) XC args s mc ms free) g) : W p l e R s m args below meth c H locs cells slots (vy_MQ below Qc XC args s mr sr mc ms free) g := by
  intro T hT X
  obtain ⟨t, a1, o, b1, b2, b3⟩ := k T hT X
  exact ⟨t, a1, o, b1, b2, b3.elim (fun h => h.1.elim) Or.inr⟩
theorem vy_out {g : JFrame} {q : Addr} (k : vx_W p l e R s m args below meth c H locs cells slots (vx_MQ below (fun _ _ _ _ => False) XC args s mc ms free) g q) : vx_W p l e R s m args below meth c H locs cells slots (vy_MQ below Qc XC args s mr sr mc ms free) g q := by
  intro T hT X
  obtain ⟨t, a1, o, b1, b2, b3⟩ := k T hT X
  exact ⟨t, a1, o, b1, b2, b3.elim (fun h => h.1.elim) Or.inr⟩
end
theorem vy_ofW {l : Launch} {y : MethodName} {ws ws' : List Cond} {rm : Room} {Pc : Array Value → State → Prop} {Qc : Array Value → State → Outcome → State → Prop} {XC : String → State → State → Prop} {mr sr mc ms : Nat} {free : Addr → Prop} {cc : ByteArray} {maxL : Nat} {ret : Option FieldType}
    (hy : plainName y.cls = true) (hw : ws = Cond.code y cc maxL ret :: ws')
    (body : ∀ p e s m args below meth c s₁, BodyLoose p l y (headSpec ws rm) cc maxL ret e s m args below meth c s₁ → c.maxLocals = maxL → (∀ x ∈ c.exceptionTable.toList, False) → Pc args s →
      W p l e (headSpec ws rm).room s m args below meth c s.heap [] 0 0 (vy_MQ below Qc XC args s mr sr mc ms free) (entryFrame m args maxL)) : vy_Met l y ws rm Pc Qc XC mr sr mc ms free := by
  refine MetFree.of_bodyS (code := cc) (maxLocals := maxL) (ret := ret) hy ?_ ?_
  · intro args s m h hn
    obtain ⟨meth, c, h1, h2, h3, h4, h5, h6, -, -⟩ := Cond.code_spec hn (atoms_spec (ws := ws) h _ (by rw [hw]; exact List.mem_cons_self))
    exact ⟨meth, c, h1, h2, h3, h4, h5, h6⟩
  · intro p e s m args below meth c s₁ B hml hP _
    have hh0 : s₁.heap = s.heap := by rw [B.state]; rfl
    have ht : ∀ x ∈ c.exceptionTable.toList, False := by
      obtain ⟨meth9, c9, h1, h2, -, -, -, -, h7, -⟩ := Cond.code_spec B.named (atoms_spec (ws := ws) B.pre _ (by rw [hw]; exact List.mem_cons_self))
      cases Option.some.inj (h1.symm.trans B.method)
      cases Option.some.inj (h2.symm.trans (Stand.of_body B).code)
      intro x hx
      rw [Array.isEmpty_iff.mp h7] at hx
      cases hx
    obtain ⟨t, a1, o, b1, b2, b3⟩ := body p e s m args below meth c s₁ B hml ht hP s₁ hh0 (Stand.of_body B)
    exact ⟨t, o, a1, b1, b2, b3⟩
end VY
end
section
abbrev nxC : String := "java/util/NoSuchElementException"
abbrev nxB : ByteArray := ⟨#[0x2a, 0x2b, 0xb7, 0x00, 0x0d, 0xb1]⟩
theorem nx_d0 : decode nxB 0 = .ok (.aload_n 0, 1) := by decide +kernel
theorem nx_d1 : decode nxB 1 = .ok (.aload_n 1, 1) := by decide +kernel
theorem nx_d2 : decode nxB 2 = .ok (.invokespecial 13, 3) := by decide +kernel
theorem nx_d5 : decode nxB 5 = .ok (.return_, 1) := by decide +kernel
def nx_own : List Cond := ((Bundle.ownAtoms RX4 182 nxC ["java/lang/RuntimeException", "java/lang/Exception"]).filter (fun w => decide (w ∉ Bundle.passSAtoms nxC "java/lang/RuntimeException" 7 Bundle.six))) ++ Bundle.passSAtoms nxC "java/lang/RuntimeException" 13 nxB ++ Bundle.chainSAtoms "java/lang/RuntimeException" ["java/lang/Exception"]
theorem nx_i1 : ∀ x ∈ Bundle.throwableAtoms, x ∈ nx_own := by decide +kernel
theorem nx_i2 : ∀ x ∈ Bundle.throwableSAtoms, x ∈ nx_own := by decide +kernel
theorem nx_i3 : ∀ x ∈ Bundle.passSAtoms nxC "java/lang/RuntimeException" 13 nxB, x ∈ nx_own := by decide +kernel
theorem nx_i4 : ∀ x ∈ Bundle.chainSAtoms "java/lang/RuntimeException" ["java/lang/Exception"], x ∈ nx_own := by decide +kernel
def nx_at : List Cond := nx_own.filter vx_no
section NX
variable {p : Program} {l : Launch} {e : Env} {R : Room} {s : State} {m₀ : MethodId} {args : Array Value} {below : List Frame} {meth : Method} {c : Code} {W : State} {locs : List Loc} {cells slots : Nat}
set_option maxHeartbeats 4000000 in
set_option maxRecDepth 100000 in
theorem nx_ctor (X : Stand p l e R s m₀ args below meth c W locs cells slots) (hexec : p.tables.exec = Jvm.exec) (htr : e.platform.stackTraces = false)
    (hown : s.vm.findClass RX4 = some m₀.cls) 
    (h : ∀ a ∈ nx_own, a.before args s = true)
    (hlocs : ∀ x ∈ locs, ∀ cell, s.heap[x.base]? = some cell → cell.vm.isStatics = false)
    {a : Addr} {cX : ClassId} {kX : Class} (hfoundX : s.vm.findClass nxC = some cX) (hkX : s.vm.classes[cX]? = some kX) (hcell : W.heap[a]? = some (freshCell cX kX)) (hnew : s.heap.size ≤ a)
    {msg : Value} (hmsg : msg.isRef = true)
    {g : JFrame} (hg : g.method = m₀) (hsize : g.locals.size = c.maxLocals) (hlocked : g.locked = none) (hentered : g.entered = []) {rest : List Value} (hstack : g.stack = msg :: .ref a :: .ref a :: rest)
    (hd6 : decode c.code g.pc = .ok (.invokespecial 182, 3)) (hd9 : decode c.code (g.pc + 3) = .ok (.athrow, 1)) (hout : ∀ x ∈ c.exceptionTable.toList, covers x (g.pc + 3) = false)
    (hRframes : 2 + 3 < R.frames) (hRlocals : 2 * g.monitorRoom + ((Value.ref a :: rest).map fun v => v.category).sum + (13 * (2 + 1) + 42) ≤ R.locals) (hlocks : meth.locks = false := by first | assumption | exact BodyLoose.notSynchronized (by assumption) | exact Body.notSynchronized (by assumption)) :
    ∃ U : State, Steps p.tables e below (W.setTop g) U ∧ U.status = .running ∧ Ended U below (.threw a) ∧ s.WarmedH U.vm ∧ s.sameButNew ({ U with vm := s.vm } : State) locs cells slots ∧
      ∃ ce, U.heap[a]? = some ce ∧ (s.vm.findClass nxC = some ce.cls ∧ ce.vm = .none) := by
  have howns : e.platform.frameOwnsMonitors = true := by rw [X.admits.platform]
  have hfin : e.platform.finalization = false := by rw [X.admits.platform]
  have hpl : e.platform.magicAccessors = ({} : Platform).magicAccessors := by rw [X.admits.platform]
  have a' : ∀ x, x ∈ nx_own → x.holds args s none s [] = true := fun x hx => h x hx
  obtain ⟨T, Z0, L, -, Y⟩ := ThrowableC.of_atoms (args := args) howns hfin hpl (fun x hx => h x (nx_i1 x hx))
  obtain ⟨Z, M, LZ, LM, hnZ⟩ := Init0T.ofS_atoms (args := args) hpl L Y (fun x hx => h x (nx_i2 x hx))
  obtain ⟨P1, L1, hP1m, hs1⟩ := PassC.ofS_atoms (args := args) (s := s) hpl (X := nxC) (Y := "java/lang/RuntimeException") (by decide +kernel) (by decide) nx_d0 nx_d1 nx_d2 nx_d5 (fun x hx => h x (nx_i3 x hx))
  obtain ⟨P2, Ps2, hlen2, L2, hL2, hP2m, hlink2, hpass2⟩ := Bundle.chainS (args := args) hpl hnZ ["java/lang/Exception"] "java/lang/RuntimeException" (by decide +kernel) (by decide +kernel) (fun x hx => h x (nx_i4 x hx))
  obtain ⟨Ps, hPs⟩ : ∃ z, z = P2 :: Ps2 := ⟨_, rfl⟩
  have hlen : Ps.length = 2 := by rw [hPs, List.length_cons, hlen2]; rfl
  have hL : ∀ P, P ∈ Ps → P.LinksS e.platform s := fun P hP => by
    rw [hPs] at hP
    rcases List.mem_cons.mp hP with rfl | hP
    · exact L2
    · exact hL2 P hP
  have hlink1 : P1.sup = firstOf (Z.m T.toThrowableT) (Ps.map (·.toPassT)) := by rw [hPs]; exact Option.some.inj (hs1.symm.trans hP2m)
  have hlink : PassesOn (Z.m T.toThrowableT) (Ps.map (·.toPassT)) := by rw [hPs]; exact ⟨hlink2, hpass2⟩
  have hfound : s.vm.findClass nxC = some P1.m.cls := findClass_of_methodNamed hP1m
  cases Option.some.inj (hfoundX.symm.trans hfound)
  obtain ⟨c1, kX', hc1, hk, hord, -, -, hn6⟩ := Cond.instantiable_spec (a' (.instantiable nxC 6) (by decide +kernel))
  cases Option.some.inj (hc1.symm.trans hfound)
  cases Option.some.inj (hkX.symm.trans hk)
  have hsel0 : selectMethod e.platform s.vm P1.m.cls T.fill0 = .method T.fill0 := by
    obtain ⟨c2, r2, m2, q1, q2, q3, q4, -⟩ := Cond.selects_spec (a' (.selects nxC Bundle.tFill0 Bundle.tFill0) (by decide +kernel))
    cases Option.some.inj (q1.symm.trans hfound)
    cases Option.some.inj (q2.symm.trans (State.methodFound?_of_named Y.fill0 (by decide)))
    cases Option.some.inj (q3.symm.trans Y.fill0)
    rw [Launch.admits_selectMethod X.admits]; exact q4
  have hselF : selectMethod e.platform s.vm P1.m.cls T.fill = .method T.fill := by
    obtain ⟨c2, r2, m2, q1, q2, q3, q4, -⟩ := Cond.selects_spec (a' (.selects nxC Bundle.tFill Bundle.tFill) (by decide +kernel))
    cases Option.some.inj (q1.symm.trans hfound)
    cases Option.some.inj (q2.symm.trans (State.methodFound?_of_named Y.fill (by decide)))
    cases Option.some.inj (q3.symm.trans Y.fill)
    rw [Launch.admits_selectMethod X.admits]; exact q4
  obtain ⟨cellS0, hcS0, hiss⟩ := Y.statics
  obtain ⟨u0, hu0⟩ := Cond.staticRefV Y.unassigned L.unassignedStatic L.statics hcS0 hiss (a' (.isRef (.static Bundle.tN "UNASSIGNED_STACK" Bundle.steD)) (by decide +kernel))
  obtain ⟨sen, hsen⟩ := Cond.staticRefV Y.sentinel L.sentinelStatic L.statics hcS0 hiss (a' (.isRef (.static Bundle.tN "SUPPRESSED_SENTINEL" Bundle.listD)) (by decide +kernel))
  obtain ⟨ci198, i198, fB, hk198, hg198, ha198, hsB, -, hnB, htB, hffB⟩ := Cond.ownField (t := .object "java/lang/Object") Y.found L.cls (by decide +kernel) (a' (.fieldLink Bundle.tN 198 Bundle.tN "backtrace" "Ljava/lang/Object;") (by decide +kernel)) (a' (.lays Bundle.tN Bundle.tN "backtrace" "Ljava/lang/Object;") (by decide +kernel)) e.platform hpl
  obtain ⟨cellS, hcS', heS, -, hkeep⟩ := X.same.2.2.2.2.2 T.aS cellS0 hcS0
  have hcellS : W.heap[T.aS]? = some cellS := hcS'
  have hout' : ∀ i, (⟨T.aS, i⟩ : Loc) ∉ locs := fun i hmem => by
    have := hlocs _ hmem cellS0 hcS0
    rw [hiss] at this; cases this
  have hknownS : cellS.vm ≠ .unknown := by
    rw [heS]; intro hu
    rw [show cellS0.vm = .unknown from hu] at hiss
    cases hiss
  have hneS : T.aS ≠ a := Nat.ne_of_lt (Nat.lt_of_lt_of_le (Array.getElem?_eq_some_iff.mp hcS0).1 hnew)
  obtain ⟨iM, hffM⟩ := Y.msg
  obtain ⟨tyC, dC, hdC, hdnC⟩ := Cond.laysAt hfound hk Y.cause (a' (.lays nxC Bundle.tN "cause" "Ljava/lang/Throwable;") (by decide +kernel))
  obtain ⟨tyS, dS, hdS, hdnS⟩ := Cond.laysAt hfound hk Y.stack (a' (.lays nxC Bundle.tN "stackTrace" Bundle.steD) (by decide +kernel))
  obtain ⟨tyP, dP, hdP, hdnP⟩ := Cond.laysAt hfound hk Y.supp (a' (.lays nxC Bundle.tN "suppressedExceptions" Bundle.listD) (by decide +kernel))
  obtain ⟨tyM, dM, hdM, hdnM⟩ := Cond.laysAt hfound hk hffM (a' (.lays nxC Bundle.tN "detailMessage" "Ljava/lang/String;") (by decide +kernel))
  obtain ⟨tyB, dB, hdB, hdnB⟩ := Cond.laysAt hfound hk hffB (a' (.lays nxC Bundle.tN "backtrace" "Ljava/lang/Object;") (by decide +kernel))
  have bC := Cond.laysApart hdB hdC hdnB hdnC (by rw [hnB, Y.causeName]; decide)
  have bS := Cond.laysApart hdB hdS hdnB hdnS (by rw [hnB, Y.stackName]; decide)
  have bP := Cond.laysApart hdB hdP hdnB hdnP (by rw [hnB, Y.suppName]; decide)
  have hskip : SkipFacts T e.platform s (fun u => u) u0 ((preparedCellV T.toThrowableT (freshCell P1.m.cls kX) a u0 sen).withEntry W.cur) :=
    ⟨{ ci198 := ci198, i198 := i198, fBack := fB }, ⟨hk198, hg198, ha198, hsB⟩, by
      have := fresh_default (c := P1.m.cls) tyB
      rw [htB] at this
      simpa [preparedCellV, Cell.setSlot, Cell.withEntry, Array.getElem?_setIfInBounds, bC, bS, bP, bC.symm, bS.symm, bP.symm, defaultValue] using this, fun _ _ => rfl⟩
  obtain ⟨tm, methC, cdC, kC, vm₁, hnC, -, -, -, -, -, -, -, hW₁, st1⟩ := Steps.initColdS (tb := p.tables) (e := e) (below := below) (s := s) (U := W) X.here hexec X.warmed hpl hown (t := Bundle.initS nxC) rfl rfl (by decide)
    (a' (.methodLink RX4 182 (Bundle.initS nxC)) (by decide +kernel)) (h (.instanceMethod (Bundle.initS nxC)) (by decide +kernel)) (bytes := nxB) (maxL := 2) (h (.code (Bundle.initS nxC) nxB 2 none) (by decide +kernel))
    (f := g) hg (a := a) (msg := msg) (rest := .ref a :: rest) hstack hd6
  cases Option.some.inj (hnC.symm.trans hP1m)
  have X₁ := X.noted hW₁
  obtain ⟨vm₂, X₂, st2⟩ := X₁.ctorMessageOffV hexec (g := { g with stack := .ref a :: rest }) hg hsize T L Z LZ M LM (P1 :: Ps)
    (fun P hP => by rcases List.mem_cons.mp hP with rfl | hP; exact L1; exact hL P hP) ⟨hlink1, hlink⟩ (u0 := u0) (sen := sen) (self := a) hmsg (cell := freshCell P1.m.cls kX) (cellS := cellS)
    hcell (fun _ => by simp) (by simp) rfl rfl hsel0 hselF hcellS hneS hknownS (by rw [hkeep _ (hout' _)]; exact hu0) (by rw [hkeep _ (hout' _)]; exact hsen)
    (Takes.of_laid hk hord tyC (by rw [Y.causeType]; rfl)) (Takes.of_laid hk hord tyS (by rw [Y.stackType]; exact fits_refV_array _ u0)) (Takes.of_laid hk hord tyP (by rw [Y.suppType]; exact fits_refV_object _ sen))
    (Takes.of_laid hk hord tyM (by rw [Y.msgType]; exact fits_refV_object _ ⟨msg, hmsg⟩)) Y.objLocals hskip htr [] hd6
    (by simp only [List.length_cons, hlen]; omega) (by simp only [List.length_cons, hlen]; exact hRlocals)
  obtain ⟨hwalk, hrun, hended, hWU, hsame⟩ := X₂.athrowLeaves hexec (g := { g with stack := .ref a :: rest, pc := g.pc + 3 }) hg hlocked hentered hout (a := a) (rest := rest) rfl hd9
  obtain ⟨c3, c4, hc3, hc4, hasg⟩ := Cond.castable_spec (a' (.castable nxC nxC) (by decide +kernel))
  cases Option.some.inj (hc3.symm.trans hfound)
  cases Option.some.inj (hc4.symm.trans hfound)
  have hlt : a < ((W.setVm vm₁).setVm vm₂).heap.size := (Array.getElem?_eq_some_iff.mp hcell).1
  have hU := heapAt_setCell_self (s := (W.setVm vm₁).setVm vm₂) (plainBareV T.toThrowableT (freshCell P1.m.cls kX) a u0 sen msg) hlt
  refine ⟨_, st1 _ (fun acts => ?_), hrun, hended, hWU, hsame.weaken (fun y hy hlt' => ?_) (Nat.le_refl _) (Nat.le_refl _), _, hU, ?_⟩
  · rw [doInvoke_state]
    exact st2 _ hwalk
  · rcases List.mem_append.mp hy with h1 | h1
    · exact h1
    · exfalso
      have hb : y.base = a := by
        simp only [List.mem_cons, List.not_mem_nil, or_false] at h1
        rcases h1 with rfl | rfl | rfl | rfl | rfl <;> rfl
      rw [hb] at hlt'
      exact Nat.not_lt.mpr hnew hlt'
  · exact ⟨hfound, rfl⟩
end NX
section NY
variable {p : Program} {l : Launch} {e : Env} {R : Room} {s : State} {m : MethodId} {args : Array Value} {below : List Frame} {meth : Method} {c : Code} {H : Heap} {locs : List Loc} {cells slots : Nat} {Q : State → Prop}
variable {mc ms : Nat} {free : Addr → Prop} {A0 A1 : Nat → Prop} {H0 : Heap} {a : Array Value} {ls : Array Slot} {st0 rest : List Value}
variable {Qc : Array Value → State → Outcome → State → Prop} {XC : String → State → State → Prop}
theorem nx_throwS {cc : ByteArray} {pc : Nat} (hexec : p.tables.exec = Jvm.exec) (hb : c.code = cc) (hl : l.stackTraces = false) {text : String} {ik is mc ms sa : Nat} {A : Nat → Prop}
    (hown : s.vm.findClass RX4 = some m.cls)
    (hk : (Cond.classLink RX4 ik nxC).before args s = true) (hini : (Cond.initialized nxC).before args s = true) (hstr : vk_R RX4 is text sa s) (hat : ∀ w ∈ nx_at, w.before args s = true)
    (hgood : ∀ w ∈ Cond.classLink RX4 ik nxC :: Cond.initialized nxC :: nx_at, vx_ot w = true)
    (hU : vx_Zq Bundle.tN "UNASSIGNED_STACK" Bundle.steD A s s.heap) (hN : vx_Zq Bundle.tN "SUPPRESSED_SENTINEL" Bundle.listD A s s.heap) (hS : va_S A s.heap H locs) (hsize : ls.size = c.maxLocals)
    (d0 : decode cc pc = .ok (.new ik, 3)) (d3 : decode cc (pc + 3) = .ok (.dup, 1)) (d4 : decode cc (pc + 4) = .ok (.ldc is, 2)) (d6 : decode cc (pc + 6) = .ok (.invokespecial 182, 3)) (d9 : decode cc (pc + 9) = .ok (.athrow, 1))
    (hout : ∀ x ∈ c.exceptionTable.toList, covers x (pc + 9) = false)
    (hRframes : 2 + 3 < R.frames) (hRlocals : (rest.map fun v => v.category).sum + (13 * (2 + 1) + 43) ≤ R.locals) (hRcells : cells + 1 ≤ R.cells) (hRslots : slots + 6 ≤ R.slots) (hlocks : meth.locks = false)
    (hx : ∀ t : State, s.vm.Alike t.vm → H.size ≤ t.heap.size → (∀ q : Nat, q < H.size → t.heap[q]? = H[q]?) → XC nxC s t)
    (hf : ∀ z ∈ locs, free z.base) (hc : cells + 1 ≤ mc) (hs : slots + 6 ≤ ms) :
    W p l e R s m args below meth c H locs cells slots (vx_MQ below Qc XC args s mc ms free) (F0 m pc ls rest) := by
  intro T hT X
  have htr : e.platform.stackTraces = false := (show e.platform.stackTraces = l.stackTraces by rw [X.admits.platform]).trans hl
  have Y := vx_rebase X (R' := { frames := R.frames, locals := R.locals, cells := 1, slots := 6 }) (Nat.le_refl _) (Nat.le_refl _) hRcells hRslots
  obtain ⟨s', hA⟩ : ∃ z, z = (T.setVm s.vm).setFrames (.invoking m args :: below) := ⟨_, rfl⟩
  rw [← hA] at Y
  have hvm : s'.vm = s.vm := by rw [hA]; rfl
  have hhp : s'.heap = H := by rw [hA]; exact hT
  have hW0 : s.WarmedH s'.vm := by rw [hvm]; exact State.WarmedH.refl s
  have hat' : ∀ w ∈ nx_at, w.before args s' = true := fun w hw => vx_ot_at hW0 hvm.symm (hgood w (List.mem_cons_of_mem _ (List.mem_cons_of_mem _ hw))) (hat w hw)
  have hk' : (Cond.classLink RX4 ik nxC).before args s' = true := vx_ot_at hW0 hvm.symm (hgood _ List.mem_cons_self) hk
  have hini' : (Cond.initialized nxC).before args s' = true := vx_ot_at hW0 hvm.symm (hgood _ (List.mem_cons_of_mem _ List.mem_cons_self)) hini
  have hU' : vx_Zq Bundle.tN "UNASSIGNED_STACK" Bundle.steD A s' s'.heap := by rw [hhp]; exact vx_Zq.moved hW0.alike (hU.kept hS.2.1)
  have hN' : vx_Zq Bundle.tN "SUPPRESSED_SENTINEL" Bundle.listD A s' s'.heap := by rw [hhp]; exact vx_Zq.moved hW0.alike (hN.kept hS.2.1)
  have h : ∀ w ∈ nx_own, w.before args s' = true := vx_own hat' (vx_isRefq hU'.1) (vx_isRefq hN'.1) hU'.2.word hN'.2.word
  have hown' : s'.vm.findClass RX4 = some m.cls := by rw [hvm]; exact hown
  have hins : (Cond.instantiable nxC 6).before args s' = true := h _ (by decide +kernel)
  obtain ⟨vm₁, cX, kX, hfX, hkX, -, -, X₁, st1⟩ := Y.newCold hexec (own := RX4) (C := nxC) (index := ik) (n := 6) hown' hk' hins hini'
    (g := F0 m pc ls rest) rfl (by rw [hb]; exact d0) (Nat.le_refl _) (Nat.le_refl _)
  generalize hT1 : (T.setVm vm₁).pushCell { cls := cX, slots := kX.instanceTypes.map defaultValue, vm := .none } = T1 at X₁ st1
  have hcat : (Value.ref T.heap.size).category = 1 := rfl
  have hcellA : T1.heap[T.heap.size]? = some (freshCell cX kX) := by rw [← hT1]; exact State.heap_pushCell_size _ _
  have d3' : decode c.code (pc + 3) = .ok (.dup, 1) := by rw [hb]; exact d3
  have d4' : decode c.code (pc + 4) = .ok (.ldc is, 2) := by rw [hb]; exact d4
  have hstr' : vk_R RX4 is text sa s' := vk_R.warm hW0 hstr
  obtain ⟨U, hsteps, hrun, hend, hW, hsame, ce, hce, hO⟩ := nx_ctor X₁ hexec htr hown' h (fun x hx => nomatch hx) hfX hkX hcellA (by rw [hhp, hT]; exact Nat.le_refl _) (msg := .ref sa) rfl
    (g := { method := m, pc := pc + 6, locals := ls, stack := .ref sa :: .ref T.heap.size :: .ref T.heap.size :: rest, locked := none }) rfl hsize rfl rfl (rest := rest) rfl
    (by rw [hb]; exact d6) (by rw [hb]; exact d9) hout hRframes (by simp only [List.map_cons, List.sum_cons, hcat]; omega) hlocks
  obtain ⟨f1, f2⟩ := vx_frame hsame
  rw [hhp] at f1 f2
  have hWs : s.WarmedH U.vm := State.WarmedH.trans hW0 hW
  have hcl : s.vm.findClass nxC = some ce.cls := by
    have h9 := hO.1
    rw [hvm] at h9
    exact h9
  have hall : s.sameButNew ({ U with vm := s.vm } : State) locs mc ms := by
    subst hA
    obtain ⟨e1, e2⟩ := hsame
    rw [State.setFrames_setFrames] at e1
    have h2 : (T.setVm s.vm).sameButNew ({ U with vm := s.vm } : State) [] (0 + 1) (0 + 6) := ⟨e1, e2⟩
    have h3 := X.same.trans h2
    rw [List.append_nil] at h3
    exact h3.mono hc hs
  refine ⟨U, ?_, .threw T.heap.size, hrun, hend, Or.inr ⟨T.heap.size, rfl, nxC, ce, locs, hx U hWs.alike f1 (fun q hq => f2 q hq (fun z hz => nomatch hz)), hce, hO.2, hcl, hWs, hall, hf⟩⟩
  refine st1 _ ?_
  show Steps p.tables e below (T1.setTop { method := m, pc := pc + 3, locals := ls, stack := .ref T.heap.size :: rest, locked := none }) _
  jvm_step X₁.here [X₁.here.top, hexec, d3', Value.category]
  exact X₁.ldcString hexec (own := RX4) (text := text) (index := is) (a := sa) hown' hstr'.1 hstr'.2
    (g := { method := m, pc := pc + 4, locals := ls, stack := .ref T.heap.size :: .ref T.heap.size :: rest, locked := none }) rfl d4' _ hsteps
end NY
end
section
theorem dX1_init_0 : decode cX1_init 0 = .ok (.aload_n 0, 1) := by decide +kernel
theorem dX1_init_1 : decode cX1_init 1 = .ok (.invokespecial 3, 3) := by decide +kernel
theorem dX1_init_4 : decode cX1_init 4 = .ok (.aload_n 0, 1) := by decide +kernel
theorem dX1_init_5 : decode cX1_init 5 = .ok (.bipush 41, 2) := by decide +kernel
theorem dX1_init_7 : decode cX1_init 7 = .ok (.newarray .int, 2) := by decide +kernel
theorem dX1_init_9 : decode cX1_init 9 = .ok (.putfield 9, 3) := by decide +kernel
theorem dX1_init_12 : decode cX1_init 12 = .ok (.aload_n 0, 1) := by decide +kernel
theorem dX1_init_13 : decode cX1_init 13 = .ok (.bipush 41, 2) := by decide +kernel
theorem dX1_init_15 : decode cX1_init 15 = .ok (.newarray .int, 2) := by decide +kernel
theorem dX1_init_17 : decode cX1_init 17 = .ok (.putfield 15, 3) := by decide +kernel
theorem dX1_init_20 : decode cX1_init 20 = .ok (.aload_n 0, 1) := by decide +kernel
theorem dX1_init_21 : decode cX1_init 21 = .ok (.bipush 41, 2) := by decide +kernel
theorem dX1_init_23 : decode cX1_init 23 = .ok (.newarray .int, 2) := by decide +kernel
theorem dX1_init_25 : decode cX1_init 25 = .ok (.putfield 18, 3) := by decide +kernel
theorem dX1_init_28 : decode cX1_init 28 = .ok (.aload_n 0, 1) := by decide +kernel
theorem dX1_init_29 : decode cX1_init 29 = .ok (.bipush 41, 2) := by decide +kernel
theorem dX1_init_31 : decode cX1_init 31 = .ok (.newarray .int, 2) := by decide +kernel
theorem dX1_init_33 : decode cX1_init 33 = .ok (.putfield 21, 3) := by decide +kernel
theorem dX1_init_36 : decode cX1_init 36 = .ok (.aload_n 0, 1) := by decide +kernel
theorem dX1_init_37 : decode cX1_init 37 = .ok (.bipush 41, 2) := by decide +kernel
theorem dX1_init_39 : decode cX1_init 39 = .ok (.newarray .boolean, 2) := by decide +kernel
theorem dX1_init_41 : decode cX1_init 41 = .ok (.putfield 24, 3) := by decide +kernel
theorem dX1_init_44 : decode cX1_init 44 = .ok (.aload_n 0, 1) := by decide +kernel
theorem dX1_init_45 : decode cX1_init 45 = .ok (.bipush 41, 2) := by decide +kernel
theorem dX1_init_47 : decode cX1_init 47 = .ok (.newarray .int, 2) := by decide +kernel
theorem dX1_init_49 : decode cX1_init 49 = .ok (.putfield 28, 3) := by decide +kernel
theorem dX1_init_52 : decode cX1_init 52 = .ok (.aload_n 0, 1) := by decide +kernel
theorem dX1_init_53 : decode cX1_init 53 = .ok (.bipush 41, 2) := by decide +kernel
theorem dX1_init_55 : decode cX1_init 55 = .ok (.newarray .boolean, 2) := by decide +kernel
theorem dX1_init_57 : decode cX1_init 57 = .ok (.putfield 31, 3) := by decide +kernel
theorem dX1_init_60 : decode cX1_init 60 = .ok (.aload_n 0, 1) := by decide +kernel
theorem dX1_init_61 : decode cX1_init 61 = .ok (.bipush 41, 2) := by decide +kernel
theorem dX1_init_63 : decode cX1_init 63 = .ok (.newarray .long, 2) := by decide +kernel
theorem dX1_init_65 : decode cX1_init 65 = .ok (.putfield 34, 3) := by decide +kernel
theorem dX1_init_68 : decode cX1_init 68 = .ok (.aload_n 0, 1) := by decide +kernel
theorem dX1_init_69 : decode cX1_init 69 = .ok (.iconst 0, 1) := by decide +kernel
theorem dX1_init_70 : decode cX1_init 70 = .ok (.putfield 38, 3) := by decide +kernel
theorem dX1_init_73 : decode cX1_init 73 = .ok (.return_, 1) := by decide +kernel
theorem dX3_init_0 : decode cX3_init 0 = .ok (.aload_n 0, 1) := by decide +kernel
theorem dX3_init_1 : decode cX3_init 1 = .ok (.invokespecial 3, 3) := by decide +kernel
theorem dX3_init_4 : decode cX3_init 4 = .ok (.aload_n 0, 1) := by decide +kernel
theorem dX3_init_5 : decode cX3_init 5 = .ok (.bipush 121, 2) := by decide +kernel
theorem dX3_init_7 : decode cX3_init 7 = .ok (.newarray .int, 2) := by decide +kernel
theorem dX3_init_9 : decode cX3_init 9 = .ok (.putfield 9, 3) := by decide +kernel
theorem dX3_init_12 : decode cX3_init 12 = .ok (.aload_n 0, 1) := by decide +kernel
theorem dX3_init_13 : decode cX3_init 13 = .ok (.bipush 121, 2) := by decide +kernel
theorem dX3_init_15 : decode cX3_init 15 = .ok (.newarray .int, 2) := by decide +kernel
theorem dX3_init_17 : decode cX3_init 17 = .ok (.putfield 15, 3) := by decide +kernel
theorem dX3_init_20 : decode cX3_init 20 = .ok (.aload_n 0, 1) := by decide +kernel
theorem dX3_init_21 : decode cX3_init 21 = .ok (.bipush 121, 2) := by decide +kernel
theorem dX3_init_23 : decode cX3_init 23 = .ok (.newarray .int, 2) := by decide +kernel
theorem dX3_init_25 : decode cX3_init 25 = .ok (.putfield 18, 3) := by decide +kernel
theorem dX3_init_28 : decode cX3_init 28 = .ok (.aload_n 0, 1) := by decide +kernel
theorem dX3_init_29 : decode cX3_init 29 = .ok (.bipush 121, 2) := by decide +kernel
theorem dX3_init_31 : decode cX3_init 31 = .ok (.newarray .int, 2) := by decide +kernel
theorem dX3_init_33 : decode cX3_init 33 = .ok (.putfield 21, 3) := by decide +kernel
theorem dX3_init_36 : decode cX3_init 36 = .ok (.aload_n 0, 1) := by decide +kernel
theorem dX3_init_37 : decode cX3_init 37 = .ok (.bipush 121, 2) := by decide +kernel
theorem dX3_init_39 : decode cX3_init 39 = .ok (.newarray .int, 2) := by decide +kernel
theorem dX3_init_41 : decode cX3_init 41 = .ok (.putfield 24, 3) := by decide +kernel
theorem dX3_init_44 : decode cX3_init 44 = .ok (.aload_n 0, 1) := by decide +kernel
theorem dX3_init_45 : decode cX3_init 45 = .ok (.iconst 0, 1) := by decide +kernel
theorem dX3_init_46 : decode cX3_init 46 = .ok (.putfield 27, 3) := by decide +kernel
theorem dX3_init_49 : decode cX3_init 49 = .ok (.aload_n 0, 1) := by decide +kernel
theorem dX3_init_50 : decode cX3_init 50 = .ok (.iconst 0, 1) := by decide +kernel
theorem dX3_init_51 : decode cX3_init 51 = .ok (.putfield 31, 3) := by decide +kernel
theorem dX3_init_54 : decode cX3_init 54 = .ok (.return_, 1) := by decide +kernel
theorem dX2_init_0 : decode cX2_init 0 = .ok (.aload_n 0, 1) := by decide +kernel
theorem dX2_init_1 : decode cX2_init 1 = .ok (.invokespecial 3, 3) := by decide +kernel
theorem dX2_init_4 : decode cX2_init 4 = .ok (.aload_n 0, 1) := by decide +kernel
theorem dX2_init_5 : decode cX2_init 5 = .ok (.sipush 400, 3) := by decide +kernel
theorem dX2_init_8 : decode cX2_init 8 = .ok (.newarray .int, 2) := by decide +kernel
theorem dX2_init_10 : decode cX2_init 10 = .ok (.putfield 9, 3) := by decide +kernel
theorem dX2_init_13 : decode cX2_init 13 = .ok (.aload_n 0, 1) := by decide +kernel
theorem dX2_init_14 : decode cX2_init 14 = .ok (.sipush 400, 3) := by decide +kernel
theorem dX2_init_17 : decode cX2_init 17 = .ok (.newarray .int, 2) := by decide +kernel
theorem dX2_init_19 : decode cX2_init 19 = .ok (.putfield 15, 3) := by decide +kernel
theorem dX2_init_22 : decode cX2_init 22 = .ok (.aload_n 0, 1) := by decide +kernel
theorem dX2_init_23 : decode cX2_init 23 = .ok (.sipush 400, 3) := by decide +kernel
theorem dX2_init_26 : decode cX2_init 26 = .ok (.newarray .int, 2) := by decide +kernel
theorem dX2_init_28 : decode cX2_init 28 = .ok (.putfield 18, 3) := by decide +kernel
theorem dX2_init_31 : decode cX2_init 31 = .ok (.aload_n 0, 1) := by decide +kernel
theorem dX2_init_32 : decode cX2_init 32 = .ok (.iconst 0, 1) := by decide +kernel
theorem dX2_init_33 : decode cX2_init 33 = .ok (.putfield 21, 3) := by decide +kernel
theorem dX2_init_36 : decode cX2_init 36 = .ok (.return_, 1) := by decide +kernel
theorem dX1_haveRoom_0 : decode cX1_haveRoom 0 = .ok (.aload_n 0, 1) := by decide +kernel
theorem dX1_haveRoom_1 : decode cX1_haveRoom 1 = .ok (.getfield 38, 3) := by decide +kernel
theorem dX1_haveRoom_4 : decode cX1_haveRoom 4 = .ok (.bipush 40, 2) := by decide +kernel
theorem dX1_haveRoom_6 : decode cX1_haveRoom 6 = .ok (.if_icmp .ge 7, 3) := by decide +kernel
theorem dX1_haveRoom_9 : decode cX1_haveRoom 9 = .ok (.iconst 1, 1) := by decide +kernel
theorem dX1_haveRoom_10 : decode cX1_haveRoom 10 = .ok (.goto 4, 3) := by decide +kernel
theorem dX1_haveRoom_13 : decode cX1_haveRoom 13 = .ok (.iconst 0, 1) := by decide +kernel
theorem dX1_haveRoom_14 : decode cX1_haveRoom 14 = .ok (.ireturn, 1) := by decide +kernel
theorem dX2_haveRoomFor_0 : decode cX2_haveRoomFor 0 = .ok (.aload_n 0, 1) := by decide +kernel
theorem dX2_haveRoomFor_1 : decode cX2_haveRoomFor 1 = .ok (.getfield 21, 3) := by decide +kernel
theorem dX2_haveRoomFor_4 : decode cX2_haveRoomFor 4 = .ok (.iload_n 1, 1) := by decide +kernel
theorem dX2_haveRoomFor_5 : decode cX2_haveRoomFor 5 = .ok (.iadd, 1) := by decide +kernel
theorem dX2_haveRoomFor_6 : decode cX2_haveRoomFor 6 = .ok (.sipush 400, 3) := by decide +kernel
theorem dX2_haveRoomFor_9 : decode cX2_haveRoomFor 9 = .ok (.if_icmp .gt 7, 3) := by decide +kernel
theorem dX2_haveRoomFor_12 : decode cX2_haveRoomFor 12 = .ok (.iconst 1, 1) := by decide +kernel
theorem dX2_haveRoomFor_13 : decode cX2_haveRoomFor 13 = .ok (.goto 4, 3) := by decide +kernel
theorem dX2_haveRoomFor_16 : decode cX2_haveRoomFor 16 = .ok (.iconst 0, 1) := by decide +kernel
theorem dX2_haveRoomFor_17 : decode cX2_haveRoomFor 17 = .ok (.ireturn, 1) := by decide +kernel
theorem dX1_add_0 : decode cX1_add 0 = .ok (.aload_n 0, 1) := by decide +kernel
theorem dX1_add_1 : decode cX1_add 1 = .ok (.dup, 1) := by decide +kernel
theorem dX1_add_2 : decode cX1_add 2 = .ok (.getfield 38, 3) := by decide +kernel
theorem dX1_add_5 : decode cX1_add 5 = .ok (.iconst 1, 1) := by decide +kernel
theorem dX1_add_6 : decode cX1_add 6 = .ok (.iadd, 1) := by decide +kernel
theorem dX1_add_7 : decode cX1_add 7 = .ok (.putfield 38, 3) := by decide +kernel
theorem dX1_add_10 : decode cX1_add 10 = .ok (.aload_n 0, 1) := by decide +kernel
theorem dX1_add_11 : decode cX1_add 11 = .ok (.getfield 9, 3) := by decide +kernel
theorem dX1_add_14 : decode cX1_add 14 = .ok (.aload_n 0, 1) := by decide +kernel
theorem dX1_add_15 : decode cX1_add 15 = .ok (.getfield 38, 3) := by decide +kernel
theorem dX1_add_18 : decode cX1_add 18 = .ok (.iload_n 1, 1) := by decide +kernel
theorem dX1_add_19 : decode cX1_add 19 = .ok (.iastore, 1) := by decide +kernel
theorem dX1_add_20 : decode cX1_add 20 = .ok (.aload_n 0, 1) := by decide +kernel
theorem dX1_add_21 : decode cX1_add 21 = .ok (.getfield 15, 3) := by decide +kernel
theorem dX1_add_24 : decode cX1_add 24 = .ok (.aload_n 0, 1) := by decide +kernel
theorem dX1_add_25 : decode cX1_add 25 = .ok (.getfield 38, 3) := by decide +kernel
theorem dX1_add_28 : decode cX1_add 28 = .ok (.iload_n 2, 1) := by decide +kernel
theorem dX1_add_29 : decode cX1_add 29 = .ok (.iastore, 1) := by decide +kernel
theorem dX1_add_30 : decode cX1_add 30 = .ok (.aload_n 0, 1) := by decide +kernel
theorem dX1_add_31 : decode cX1_add 31 = .ok (.getfield 18, 3) := by decide +kernel
theorem dX1_add_34 : decode cX1_add 34 = .ok (.aload_n 0, 1) := by decide +kernel
theorem dX1_add_35 : decode cX1_add 35 = .ok (.getfield 38, 3) := by decide +kernel
theorem dX1_add_38 : decode cX1_add 38 = .ok (.iload_n 3, 1) := by decide +kernel
theorem dX1_add_39 : decode cX1_add 39 = .ok (.iastore, 1) := by decide +kernel
theorem dX1_add_40 : decode cX1_add 40 = .ok (.aload_n 0, 1) := by decide +kernel
theorem dX1_add_41 : decode cX1_add 41 = .ok (.getfield 21, 3) := by decide +kernel
theorem dX1_add_44 : decode cX1_add 44 = .ok (.aload_n 0, 1) := by decide +kernel
theorem dX1_add_45 : decode cX1_add 45 = .ok (.getfield 38, 3) := by decide +kernel
theorem dX1_add_48 : decode cX1_add 48 = .ok (.iload 4, 2) := by decide +kernel
theorem dX1_add_50 : decode cX1_add 50 = .ok (.iastore, 1) := by decide +kernel
theorem dX1_add_51 : decode cX1_add 51 = .ok (.aload_n 0, 1) := by decide +kernel
theorem dX1_add_52 : decode cX1_add 52 = .ok (.getfield 24, 3) := by decide +kernel
theorem dX1_add_55 : decode cX1_add 55 = .ok (.aload_n 0, 1) := by decide +kernel
theorem dX1_add_56 : decode cX1_add 56 = .ok (.getfield 38, 3) := by decide +kernel
theorem dX1_add_59 : decode cX1_add 59 = .ok (.iconst 1, 1) := by decide +kernel
theorem dX1_add_60 : decode cX1_add 60 = .ok (.bastore, 1) := by decide +kernel
theorem dX1_add_61 : decode cX1_add 61 = .ok (.aload_n 0, 1) := by decide +kernel
theorem dX1_add_62 : decode cX1_add 62 = .ok (.getfield 38, 3) := by decide +kernel
theorem dX1_add_65 : decode cX1_add 65 = .ok (.ireturn, 1) := by decide +kernel
theorem dX2_write_0 : decode cX2_write 0 = .ok (.aload_n 0, 1) := by decide +kernel
theorem dX2_write_1 : decode cX2_write 1 = .ok (.getfield 9, 3) := by decide +kernel
theorem dX2_write_4 : decode cX2_write 4 = .ok (.aload_n 0, 1) := by decide +kernel
theorem dX2_write_5 : decode cX2_write 5 = .ok (.getfield 21, 3) := by decide +kernel
theorem dX2_write_8 : decode cX2_write 8 = .ok (.iload_n 1, 1) := by decide +kernel
theorem dX2_write_9 : decode cX2_write 9 = .ok (.iastore, 1) := by decide +kernel
theorem dX2_write_10 : decode cX2_write 10 = .ok (.aload_n 0, 1) := by decide +kernel
theorem dX2_write_11 : decode cX2_write 11 = .ok (.getfield 15, 3) := by decide +kernel
theorem dX2_write_14 : decode cX2_write 14 = .ok (.aload_n 0, 1) := by decide +kernel
theorem dX2_write_15 : decode cX2_write 15 = .ok (.getfield 21, 3) := by decide +kernel
theorem dX2_write_18 : decode cX2_write 18 = .ok (.iload_n 2, 1) := by decide +kernel
theorem dX2_write_19 : decode cX2_write 19 = .ok (.iastore, 1) := by decide +kernel
theorem dX2_write_20 : decode cX2_write 20 = .ok (.aload_n 0, 1) := by decide +kernel
theorem dX2_write_21 : decode cX2_write 21 = .ok (.getfield 18, 3) := by decide +kernel
theorem dX2_write_24 : decode cX2_write 24 = .ok (.aload_n 0, 1) := by decide +kernel
theorem dX2_write_25 : decode cX2_write 25 = .ok (.getfield 21, 3) := by decide +kernel
theorem dX2_write_28 : decode cX2_write 28 = .ok (.iload_n 3, 1) := by decide +kernel
theorem dX2_write_29 : decode cX2_write 29 = .ok (.iastore, 1) := by decide +kernel
theorem dX2_write_30 : decode cX2_write 30 = .ok (.aload_n 0, 1) := by decide +kernel
theorem dX2_write_31 : decode cX2_write 31 = .ok (.dup, 1) := by decide +kernel
theorem dX2_write_32 : decode cX2_write 32 = .ok (.getfield 21, 3) := by decide +kernel
theorem dX2_write_35 : decode cX2_write 35 = .ok (.iconst 1, 1) := by decide +kernel
theorem dX2_write_36 : decode cX2_write 36 = .ok (.iadd, 1) := by decide +kernel
theorem dX2_write_37 : decode cX2_write 37 = .ok (.putfield 21, 3) := by decide +kernel
theorem dX2_write_40 : decode cX2_write 40 = .ok (.return_, 1) := by decide +kernel
theorem dJ6_bitCount_0 : decode cJ6_bitCount 0 = .ok (.iload_n 0, 1) := by decide +kernel
theorem dJ6_bitCount_1 : decode cJ6_bitCount 1 = .ok (.iload_n 0, 1) := by decide +kernel
theorem dJ6_bitCount_2 : decode cJ6_bitCount 2 = .ok (.iconst 1, 1) := by decide +kernel
theorem dJ6_bitCount_3 : decode cJ6_bitCount 3 = .ok (.iushr, 1) := by decide +kernel
theorem dJ6_bitCount_4 : decode cJ6_bitCount 4 = .ok (.ldc_w 265, 3) := by decide +kernel
theorem dJ6_bitCount_7 : decode cJ6_bitCount 7 = .ok (.iand, 1) := by decide +kernel
theorem dJ6_bitCount_8 : decode cJ6_bitCount 8 = .ok (.isub, 1) := by decide +kernel
theorem dJ6_bitCount_9 : decode cJ6_bitCount 9 = .ok (.istore_n 0, 1) := by decide +kernel
theorem dJ6_bitCount_10 : decode cJ6_bitCount 10 = .ok (.iload_n 0, 1) := by decide +kernel
theorem dJ6_bitCount_11 : decode cJ6_bitCount 11 = .ok (.ldc_w 266, 3) := by decide +kernel
theorem dJ6_bitCount_14 : decode cJ6_bitCount 14 = .ok (.iand, 1) := by decide +kernel
theorem dJ6_bitCount_15 : decode cJ6_bitCount 15 = .ok (.iload_n 0, 1) := by decide +kernel
theorem dJ6_bitCount_16 : decode cJ6_bitCount 16 = .ok (.iconst 2, 1) := by decide +kernel
theorem dJ6_bitCount_17 : decode cJ6_bitCount 17 = .ok (.iushr, 1) := by decide +kernel
theorem dJ6_bitCount_18 : decode cJ6_bitCount 18 = .ok (.ldc_w 266, 3) := by decide +kernel
theorem dJ6_bitCount_21 : decode cJ6_bitCount 21 = .ok (.iand, 1) := by decide +kernel
theorem dJ6_bitCount_22 : decode cJ6_bitCount 22 = .ok (.iadd, 1) := by decide +kernel
theorem dJ6_bitCount_23 : decode cJ6_bitCount 23 = .ok (.istore_n 0, 1) := by decide +kernel
theorem dJ6_bitCount_24 : decode cJ6_bitCount 24 = .ok (.iload_n 0, 1) := by decide +kernel
theorem dJ6_bitCount_25 : decode cJ6_bitCount 25 = .ok (.iload_n 0, 1) := by decide +kernel
theorem dJ6_bitCount_26 : decode cJ6_bitCount 26 = .ok (.iconst 4, 1) := by decide +kernel
theorem dJ6_bitCount_27 : decode cJ6_bitCount 27 = .ok (.iushr, 1) := by decide +kernel
theorem dJ6_bitCount_28 : decode cJ6_bitCount 28 = .ok (.iadd, 1) := by decide +kernel
theorem dJ6_bitCount_29 : decode cJ6_bitCount 29 = .ok (.ldc_w 267, 3) := by decide +kernel
theorem dJ6_bitCount_32 : decode cJ6_bitCount 32 = .ok (.iand, 1) := by decide +kernel
theorem dJ6_bitCount_33 : decode cJ6_bitCount 33 = .ok (.istore_n 0, 1) := by decide +kernel
theorem dJ6_bitCount_34 : decode cJ6_bitCount 34 = .ok (.iload_n 0, 1) := by decide +kernel
theorem dJ6_bitCount_35 : decode cJ6_bitCount 35 = .ok (.iload_n 0, 1) := by decide +kernel
theorem dJ6_bitCount_36 : decode cJ6_bitCount 36 = .ok (.bipush 8, 2) := by decide +kernel
theorem dJ6_bitCount_38 : decode cJ6_bitCount 38 = .ok (.iushr, 1) := by decide +kernel
theorem dJ6_bitCount_39 : decode cJ6_bitCount 39 = .ok (.iadd, 1) := by decide +kernel
theorem dJ6_bitCount_40 : decode cJ6_bitCount 40 = .ok (.istore_n 0, 1) := by decide +kernel
theorem dJ6_bitCount_41 : decode cJ6_bitCount 41 = .ok (.iload_n 0, 1) := by decide +kernel
theorem dJ6_bitCount_42 : decode cJ6_bitCount 42 = .ok (.iload_n 0, 1) := by decide +kernel
theorem dJ6_bitCount_43 : decode cJ6_bitCount 43 = .ok (.bipush 16, 2) := by decide +kernel
theorem dJ6_bitCount_45 : decode cJ6_bitCount 45 = .ok (.iushr, 1) := by decide +kernel
theorem dJ6_bitCount_46 : decode cJ6_bitCount 46 = .ok (.iadd, 1) := by decide +kernel
theorem dJ6_bitCount_47 : decode cJ6_bitCount 47 = .ok (.istore_n 0, 1) := by decide +kernel
theorem dJ6_bitCount_48 : decode cJ6_bitCount 48 = .ok (.iload_n 0, 1) := by decide +kernel
theorem dJ6_bitCount_49 : decode cJ6_bitCount 49 = .ok (.bipush 63, 2) := by decide +kernel
theorem dJ6_bitCount_51 : decode cJ6_bitCount 51 = .ok (.iand, 1) := by decide +kernel
theorem dJ6_bitCount_52 : decode cJ6_bitCount 52 = .ok (.ireturn, 1) := by decide +kernel
theorem dX1_mayBeTakenFor_0 : decode cX1_mayBeTakenFor 0 = .ok (.aload_n 0, 1) := by decide +kernel
theorem dX1_mayBeTakenFor_1 : decode cX1_mayBeTakenFor 1 = .ok (.getfield 9, 3) := by decide +kernel
theorem dX1_mayBeTakenFor_4 : decode cX1_mayBeTakenFor 4 = .ok (.iload_n 1, 1) := by decide +kernel
theorem dX1_mayBeTakenFor_5 : decode cX1_mayBeTakenFor 5 = .ok (.iaload, 1) := by decide +kernel
theorem dX1_mayBeTakenFor_6 : decode cX1_mayBeTakenFor 6 = .ok (.iload_n 2, 1) := by decide +kernel
theorem dX1_mayBeTakenFor_7 : decode cX1_mayBeTakenFor 7 = .ok (.if_icmp .ne 25, 3) := by decide +kernel
theorem dX1_mayBeTakenFor_10 : decode cX1_mayBeTakenFor 10 = .ok (.aload_n 0, 1) := by decide +kernel
theorem dX1_mayBeTakenFor_11 : decode cX1_mayBeTakenFor 11 = .ok (.getfield 15, 3) := by decide +kernel
theorem dX1_mayBeTakenFor_14 : decode cX1_mayBeTakenFor 14 = .ok (.iload_n 1, 1) := by decide +kernel
theorem dX1_mayBeTakenFor_15 : decode cX1_mayBeTakenFor 15 = .ok (.iaload, 1) := by decide +kernel
theorem dX1_mayBeTakenFor_16 : decode cX1_mayBeTakenFor 16 = .ok (.iload_n 3, 1) := by decide +kernel
theorem dX1_mayBeTakenFor_17 : decode cX1_mayBeTakenFor 17 = .ok (.if_icmp .ne 15, 3) := by decide +kernel
theorem dX1_mayBeTakenFor_20 : decode cX1_mayBeTakenFor 20 = .ok (.aload_n 0, 1) := by decide +kernel
theorem dX1_mayBeTakenFor_21 : decode cX1_mayBeTakenFor 21 = .ok (.iload_n 1, 1) := by decide +kernel
theorem dX1_mayBeTakenFor_22 : decode cX1_mayBeTakenFor 22 = .ok (.invokevirtual 52, 3) := by decide +kernel
theorem dX1_mayBeTakenFor_25 : decode cX1_mayBeTakenFor 25 = .ok (.ifCond .eq 7, 3) := by decide +kernel
theorem dX1_mayBeTakenFor_28 : decode cX1_mayBeTakenFor 28 = .ok (.iconst 1, 1) := by decide +kernel
theorem dX1_mayBeTakenFor_29 : decode cX1_mayBeTakenFor 29 = .ok (.goto 4, 3) := by decide +kernel
theorem dX1_mayBeTakenFor_32 : decode cX1_mayBeTakenFor 32 = .ok (.iconst 0, 1) := by decide +kernel
theorem dX1_mayBeTakenFor_33 : decode cX1_mayBeTakenFor 33 = .ok (.ireturn, 1) := by decide +kernel
theorem dX1_mayBeTaken_0 : decode cX1_mayBeTaken 0 = .ok (.aload_n 0, 1) := by decide +kernel
theorem dX1_mayBeTaken_1 : decode cX1_mayBeTaken 1 = .ok (.getfield 24, 3) := by decide +kernel
theorem dX1_mayBeTaken_4 : decode cX1_mayBeTaken 4 = .ok (.iload_n 1, 1) := by decide +kernel
theorem dX1_mayBeTaken_5 : decode cX1_mayBeTaken 5 = .ok (.baload, 1) := by decide +kernel
theorem dX1_mayBeTaken_6 : decode cX1_mayBeTaken 6 = .ok (.ifCond .eq 25, 3) := by decide +kernel
theorem dX1_mayBeTaken_9 : decode cX1_mayBeTaken 9 = .ok (.aload_n 0, 1) := by decide +kernel
theorem dX1_mayBeTaken_10 : decode cX1_mayBeTaken 10 = .ok (.getfield 28, 3) := by decide +kernel
theorem dX1_mayBeTaken_13 : decode cX1_mayBeTaken 13 = .ok (.iload_n 1, 1) := by decide +kernel
theorem dX1_mayBeTaken_14 : decode cX1_mayBeTaken 14 = .ok (.iaload, 1) := by decide +kernel
theorem dX1_mayBeTaken_15 : decode cX1_mayBeTaken 15 = .ok (.ifCond .ne 16, 3) := by decide +kernel
theorem dX1_mayBeTaken_18 : decode cX1_mayBeTaken 18 = .ok (.aload_n 0, 1) := by decide +kernel
theorem dX1_mayBeTaken_19 : decode cX1_mayBeTaken 19 = .ok (.getfield 31, 3) := by decide +kernel
theorem dX1_mayBeTaken_22 : decode cX1_mayBeTaken 22 = .ok (.iload_n 1, 1) := by decide +kernel
theorem dX1_mayBeTaken_23 : decode cX1_mayBeTaken 23 = .ok (.baload, 1) := by decide +kernel
theorem dX1_mayBeTaken_24 : decode cX1_mayBeTaken 24 = .ok (.ifCond .ne 7, 3) := by decide +kernel
theorem dX1_mayBeTaken_27 : decode cX1_mayBeTaken 27 = .ok (.iconst 1, 1) := by decide +kernel
theorem dX1_mayBeTaken_28 : decode cX1_mayBeTaken 28 = .ok (.goto 4, 3) := by decide +kernel
theorem dX1_mayBeTaken_31 : decode cX1_mayBeTaken 31 = .ok (.iconst 0, 1) := by decide +kernel
theorem dX1_mayBeTaken_32 : decode cX1_mayBeTaken 32 = .ok (.ireturn, 1) := by decide +kernel
theorem dX1_rivalsBefore_0 : decode cX1_rivalsBefore 0 = .ok (.iconst 0, 1) := by decide +kernel
theorem dX1_rivalsBefore_1 : decode cX1_rivalsBefore 1 = .ok (.istore_n 3, 1) := by decide +kernel
theorem dX1_rivalsBefore_2 : decode cX1_rivalsBefore 2 = .ok (.iconst 1, 1) := by decide +kernel
theorem dX1_rivalsBefore_3 : decode cX1_rivalsBefore 3 = .ok (.istore 4, 2) := by decide +kernel
theorem dX1_rivalsBefore_5 : decode cX1_rivalsBefore 5 = .ok (.iload 4, 2) := by decide +kernel
theorem dX1_rivalsBefore_7 : decode cX1_rivalsBefore 7 = .ok (.aload_n 0, 1) := by decide +kernel
theorem dX1_rivalsBefore_8 : decode cX1_rivalsBefore 8 = .ok (.getfield 38, 3) := by decide +kernel
theorem dX1_rivalsBefore_11 : decode cX1_rivalsBefore 11 = .ok (.if_icmp .gt 44, 3) := by decide +kernel
theorem dX1_rivalsBefore_14 : decode cX1_rivalsBefore 14 = .ok (.aload_n 0, 1) := by decide +kernel
theorem dX1_rivalsBefore_15 : decode cX1_rivalsBefore 15 = .ok (.iload 4, 2) := by decide +kernel
theorem dX1_rivalsBefore_17 : decode cX1_rivalsBefore 17 = .ok (.aload_n 0, 1) := by decide +kernel
theorem dX1_rivalsBefore_18 : decode cX1_rivalsBefore 18 = .ok (.getfield 9, 3) := by decide +kernel
theorem dX1_rivalsBefore_21 : decode cX1_rivalsBefore 21 = .ok (.iload_n 1, 1) := by decide +kernel
theorem dX1_rivalsBefore_22 : decode cX1_rivalsBefore 22 = .ok (.iaload, 1) := by decide +kernel
theorem dX1_rivalsBefore_23 : decode cX1_rivalsBefore 23 = .ok (.aload_n 0, 1) := by decide +kernel
theorem dX1_rivalsBefore_24 : decode cX1_rivalsBefore 24 = .ok (.getfield 15, 3) := by decide +kernel
theorem dX1_rivalsBefore_27 : decode cX1_rivalsBefore 27 = .ok (.iload_n 1, 1) := by decide +kernel
theorem dX1_rivalsBefore_28 : decode cX1_rivalsBefore 28 = .ok (.iaload, 1) := by decide +kernel
theorem dX1_rivalsBefore_29 : decode cX1_rivalsBefore 29 = .ok (.invokevirtual 56, 3) := by decide +kernel
theorem dX1_rivalsBefore_32 : decode cX1_rivalsBefore 32 = .ok (.ifCond .eq 17, 3) := by decide +kernel
theorem dX1_rivalsBefore_35 : decode cX1_rivalsBefore 35 = .ok (.aload_n 0, 1) := by decide +kernel
theorem dX1_rivalsBefore_36 : decode cX1_rivalsBefore 36 = .ok (.iload 4, 2) := by decide +kernel
theorem dX1_rivalsBefore_38 : decode cX1_rivalsBefore 38 = .ok (.iload_n 1, 1) := by decide +kernel
theorem dX1_rivalsBefore_39 : decode cX1_rivalsBefore 39 = .ok (.iload_n 2, 1) := by decide +kernel
theorem dX1_rivalsBefore_40 : decode cX1_rivalsBefore 40 = .ok (.invokevirtual 60, 3) := by decide +kernel
theorem dX1_rivalsBefore_43 : decode cX1_rivalsBefore 43 = .ok (.ifCond .eq 6, 3) := by decide +kernel
theorem dX1_rivalsBefore_46 : decode cX1_rivalsBefore 46 = .ok (.iinc 3 1, 3) := by decide +kernel
theorem dX1_rivalsBefore_49 : decode cX1_rivalsBefore 49 = .ok (.iinc 4 1, 3) := by decide +kernel
theorem dX1_rivalsBefore_52 : decode cX1_rivalsBefore 52 = .ok (.goto (-47), 3) := by decide +kernel
theorem dX1_rivalsBefore_55 : decode cX1_rivalsBefore 55 = .ok (.iload_n 3, 1) := by decide +kernel
theorem dX1_rivalsBefore_56 : decode cX1_rivalsBefore 56 = .ok (.ireturn, 1) := by decide +kernel
theorem dX1_comesBefore_0 : decode cX1_comesBefore 0 = .ok (.iload_n 3, 1) := by decide +kernel
theorem dX1_comesBefore_1 : decode cX1_comesBefore 1 = .ok (.iconst 2, 1) := by decide +kernel
theorem dX1_comesBefore_2 : decode cX1_comesBefore 2 = .ok (.if_icmp .ne 10, 3) := by decide +kernel
theorem dX1_comesBefore_5 : decode cX1_comesBefore 5 = .ok (.aload_n 0, 1) := by decide +kernel
theorem dX1_comesBefore_6 : decode cX1_comesBefore 6 = .ok (.iload_n 2, 1) := by decide +kernel
theorem dX1_comesBefore_7 : decode cX1_comesBefore 7 = .ok (.iload_n 1, 1) := by decide +kernel
theorem dX1_comesBefore_8 : decode cX1_comesBefore 8 = .ok (.invokevirtual 63, 3) := by decide +kernel
theorem dX1_comesBefore_11 : decode cX1_comesBefore 11 = .ok (.ireturn, 1) := by decide +kernel
theorem dX1_comesBefore_12 : decode cX1_comesBefore 12 = .ok (.iload_n 3, 1) := by decide +kernel
theorem dX1_comesBefore_13 : decode cX1_comesBefore 13 = .ok (.ifCond .ne 39, 3) := by decide +kernel
theorem dX1_comesBefore_16 : decode cX1_comesBefore 16 = .ok (.aload_n 0, 1) := by decide +kernel
theorem dX1_comesBefore_17 : decode cX1_comesBefore 17 = .ok (.getfield 18, 3) := by decide +kernel
theorem dX1_comesBefore_20 : decode cX1_comesBefore 20 = .ok (.iload_n 1, 1) := by decide +kernel
theorem dX1_comesBefore_21 : decode cX1_comesBefore 21 = .ok (.iaload, 1) := by decide +kernel
theorem dX1_comesBefore_22 : decode cX1_comesBefore 22 = .ok (.aload_n 0, 1) := by decide +kernel
theorem dX1_comesBefore_23 : decode cX1_comesBefore 23 = .ok (.getfield 18, 3) := by decide +kernel
theorem dX1_comesBefore_26 : decode cX1_comesBefore 26 = .ok (.iload_n 2, 1) := by decide +kernel
theorem dX1_comesBefore_27 : decode cX1_comesBefore 27 = .ok (.iaload, 1) := by decide +kernel
theorem dX1_comesBefore_28 : decode cX1_comesBefore 28 = .ok (.if_icmp .eq 24, 3) := by decide +kernel
theorem dX1_comesBefore_31 : decode cX1_comesBefore 31 = .ok (.aload_n 0, 1) := by decide +kernel
theorem dX1_comesBefore_32 : decode cX1_comesBefore 32 = .ok (.getfield 18, 3) := by decide +kernel
theorem dX1_comesBefore_35 : decode cX1_comesBefore 35 = .ok (.iload_n 1, 1) := by decide +kernel
theorem dX1_comesBefore_36 : decode cX1_comesBefore 36 = .ok (.iaload, 1) := by decide +kernel
theorem dX1_comesBefore_37 : decode cX1_comesBefore 37 = .ok (.aload_n 0, 1) := by decide +kernel
theorem dX1_comesBefore_38 : decode cX1_comesBefore 38 = .ok (.getfield 18, 3) := by decide +kernel
theorem dX1_comesBefore_41 : decode cX1_comesBefore 41 = .ok (.iload_n 2, 1) := by decide +kernel
theorem dX1_comesBefore_42 : decode cX1_comesBefore 42 = .ok (.iaload, 1) := by decide +kernel
theorem dX1_comesBefore_43 : decode cX1_comesBefore 43 = .ok (.if_icmp .ge 7, 3) := by decide +kernel
theorem dX1_comesBefore_46 : decode cX1_comesBefore 46 = .ok (.iconst 1, 1) := by decide +kernel
theorem dX1_comesBefore_47 : decode cX1_comesBefore 47 = .ok (.goto 4, 3) := by decide +kernel
theorem dX1_comesBefore_50 : decode cX1_comesBefore 50 = .ok (.iconst 0, 1) := by decide +kernel
theorem dX1_comesBefore_51 : decode cX1_comesBefore 51 = .ok (.ireturn, 1) := by decide +kernel
theorem dX1_comesBefore_52 : decode cX1_comesBefore 52 = .ok (.aload_n 0, 1) := by decide +kernel
theorem dX1_comesBefore_53 : decode cX1_comesBefore 53 = .ok (.iload_n 1, 1) := by decide +kernel
theorem dX1_comesBefore_54 : decode cX1_comesBefore 54 = .ok (.iload_n 2, 1) := by decide +kernel
theorem dX1_comesBefore_55 : decode cX1_comesBefore 55 = .ok (.invokevirtual 63, 3) := by decide +kernel
theorem dX1_comesBefore_58 : decode cX1_comesBefore 58 = .ok (.ireturn, 1) := by decide +kernel
theorem dX1_arrivedBefore_0 : decode cX1_arrivedBefore 0 = .ok (.aload_n 0, 1) := by decide +kernel
theorem dX1_arrivedBefore_1 : decode cX1_arrivedBefore 1 = .ok (.getfield 21, 3) := by decide +kernel
theorem dX1_arrivedBefore_4 : decode cX1_arrivedBefore 4 = .ok (.iload_n 1, 1) := by decide +kernel
theorem dX1_arrivedBefore_5 : decode cX1_arrivedBefore 5 = .ok (.iaload, 1) := by decide +kernel
theorem dX1_arrivedBefore_6 : decode cX1_arrivedBefore 6 = .ok (.aload_n 0, 1) := by decide +kernel
theorem dX1_arrivedBefore_7 : decode cX1_arrivedBefore 7 = .ok (.getfield 21, 3) := by decide +kernel
theorem dX1_arrivedBefore_10 : decode cX1_arrivedBefore 10 = .ok (.iload_n 2, 1) := by decide +kernel
theorem dX1_arrivedBefore_11 : decode cX1_arrivedBefore 11 = .ok (.iaload, 1) := by decide +kernel
theorem dX1_arrivedBefore_12 : decode cX1_arrivedBefore 12 = .ok (.if_icmp .eq 24, 3) := by decide +kernel
theorem dX1_arrivedBefore_15 : decode cX1_arrivedBefore 15 = .ok (.aload_n 0, 1) := by decide +kernel
theorem dX1_arrivedBefore_16 : decode cX1_arrivedBefore 16 = .ok (.getfield 21, 3) := by decide +kernel
theorem dX1_arrivedBefore_19 : decode cX1_arrivedBefore 19 = .ok (.iload_n 1, 1) := by decide +kernel
theorem dX1_arrivedBefore_20 : decode cX1_arrivedBefore 20 = .ok (.iaload, 1) := by decide +kernel
theorem dX1_arrivedBefore_21 : decode cX1_arrivedBefore 21 = .ok (.aload_n 0, 1) := by decide +kernel
theorem dX1_arrivedBefore_22 : decode cX1_arrivedBefore 22 = .ok (.getfield 21, 3) := by decide +kernel
theorem dX1_arrivedBefore_25 : decode cX1_arrivedBefore 25 = .ok (.iload_n 2, 1) := by decide +kernel
theorem dX1_arrivedBefore_26 : decode cX1_arrivedBefore 26 = .ok (.iaload, 1) := by decide +kernel
theorem dX1_arrivedBefore_27 : decode cX1_arrivedBefore 27 = .ok (.if_icmp .ge 7, 3) := by decide +kernel
theorem dX1_arrivedBefore_30 : decode cX1_arrivedBefore 30 = .ok (.iconst 1, 1) := by decide +kernel
theorem dX1_arrivedBefore_31 : decode cX1_arrivedBefore 31 = .ok (.goto 4, 3) := by decide +kernel
theorem dX1_arrivedBefore_34 : decode cX1_arrivedBefore 34 = .ok (.iconst 0, 1) := by decide +kernel
theorem dX1_arrivedBefore_35 : decode cX1_arrivedBefore 35 = .ok (.ireturn, 1) := by decide +kernel
theorem dX1_arrivedBefore_36 : decode cX1_arrivedBefore 36 = .ok (.iload_n 1, 1) := by decide +kernel
theorem dX1_arrivedBefore_37 : decode cX1_arrivedBefore 37 = .ok (.iload_n 2, 1) := by decide +kernel
theorem dX1_arrivedBefore_38 : decode cX1_arrivedBefore 38 = .ok (.if_icmp .ge 7, 3) := by decide +kernel
theorem dX1_arrivedBefore_41 : decode cX1_arrivedBefore 41 = .ok (.iconst 1, 1) := by decide +kernel
theorem dX1_arrivedBefore_42 : decode cX1_arrivedBefore 42 = .ok (.goto 4, 3) := by decide +kernel
theorem dX1_arrivedBefore_45 : decode cX1_arrivedBefore 45 = .ok (.iconst 0, 1) := by decide +kernel
theorem dX1_arrivedBefore_46 : decode cX1_arrivedBefore 46 = .ok (.ireturn, 1) := by decide +kernel
theorem dX1_addPartOf_0 : decode cX1_addPartOf 0 = .ok (.aload_n 0, 1) := by decide +kernel
theorem dX1_addPartOf_1 : decode cX1_addPartOf 1 = .ok (.aload_n 0, 1) := by decide +kernel
theorem dX1_addPartOf_2 : decode cX1_addPartOf 2 = .ok (.getfield 9, 3) := by decide +kernel
theorem dX1_addPartOf_5 : decode cX1_addPartOf 5 = .ok (.iload_n 1, 1) := by decide +kernel
theorem dX1_addPartOf_6 : decode cX1_addPartOf 6 = .ok (.iaload, 1) := by decide +kernel
theorem dX1_addPartOf_7 : decode cX1_addPartOf 7 = .ok (.aload_n 0, 1) := by decide +kernel
theorem dX1_addPartOf_8 : decode cX1_addPartOf 8 = .ok (.getfield 15, 3) := by decide +kernel
theorem dX1_addPartOf_11 : decode cX1_addPartOf 11 = .ok (.iload_n 1, 1) := by decide +kernel
theorem dX1_addPartOf_12 : decode cX1_addPartOf 12 = .ok (.iaload, 1) := by decide +kernel
theorem dX1_addPartOf_13 : decode cX1_addPartOf 13 = .ok (.aload_n 0, 1) := by decide +kernel
theorem dX1_addPartOf_14 : decode cX1_addPartOf 14 = .ok (.getfield 18, 3) := by decide +kernel
theorem dX1_addPartOf_17 : decode cX1_addPartOf 17 = .ok (.iload_n 1, 1) := by decide +kernel
theorem dX1_addPartOf_18 : decode cX1_addPartOf 18 = .ok (.iaload, 1) := by decide +kernel
theorem dX1_addPartOf_19 : decode cX1_addPartOf 19 = .ok (.aload_n 0, 1) := by decide +kernel
theorem dX1_addPartOf_20 : decode cX1_addPartOf 20 = .ok (.getfield 21, 3) := by decide +kernel
theorem dX1_addPartOf_23 : decode cX1_addPartOf 23 = .ok (.iload_n 1, 1) := by decide +kernel
theorem dX1_addPartOf_24 : decode cX1_addPartOf 24 = .ok (.iaload, 1) := by decide +kernel
theorem dX1_addPartOf_25 : decode cX1_addPartOf 25 = .ok (.invokevirtual 42, 3) := by decide +kernel
theorem dX1_addPartOf_28 : decode cX1_addPartOf 28 = .ok (.istore_n 2, 1) := by decide +kernel
theorem dX1_addPartOf_29 : decode cX1_addPartOf 29 = .ok (.aload_n 0, 1) := by decide +kernel
theorem dX1_addPartOf_30 : decode cX1_addPartOf 30 = .ok (.getfield 28, 3) := by decide +kernel
theorem dX1_addPartOf_33 : decode cX1_addPartOf 33 = .ok (.iload_n 2, 1) := by decide +kernel
theorem dX1_addPartOf_34 : decode cX1_addPartOf 34 = .ok (.aload_n 0, 1) := by decide +kernel
theorem dX1_addPartOf_35 : decode cX1_addPartOf 35 = .ok (.getfield 28, 3) := by decide +kernel
theorem dX1_addPartOf_38 : decode cX1_addPartOf 38 = .ok (.iload_n 1, 1) := by decide +kernel
theorem dX1_addPartOf_39 : decode cX1_addPartOf 39 = .ok (.iaload, 1) := by decide +kernel
theorem dX1_addPartOf_40 : decode cX1_addPartOf 40 = .ok (.iastore, 1) := by decide +kernel
theorem dX1_addPartOf_41 : decode cX1_addPartOf 41 = .ok (.aload_n 0, 1) := by decide +kernel
theorem dX1_addPartOf_42 : decode cX1_addPartOf 42 = .ok (.getfield 31, 3) := by decide +kernel
theorem dX1_addPartOf_45 : decode cX1_addPartOf 45 = .ok (.iload_n 2, 1) := by decide +kernel
theorem dX1_addPartOf_46 : decode cX1_addPartOf 46 = .ok (.aload_n 0, 1) := by decide +kernel
theorem dX1_addPartOf_47 : decode cX1_addPartOf 47 = .ok (.getfield 31, 3) := by decide +kernel
theorem dX1_addPartOf_50 : decode cX1_addPartOf 50 = .ok (.iload_n 1, 1) := by decide +kernel
theorem dX1_addPartOf_51 : decode cX1_addPartOf 51 = .ok (.baload, 1) := by decide +kernel
theorem dX1_addPartOf_52 : decode cX1_addPartOf 52 = .ok (.bastore, 1) := by decide +kernel
theorem dX1_addPartOf_53 : decode cX1_addPartOf 53 = .ok (.aload_n 0, 1) := by decide +kernel
theorem dX1_addPartOf_54 : decode cX1_addPartOf 54 = .ok (.getfield 34, 3) := by decide +kernel
theorem dX1_addPartOf_57 : decode cX1_addPartOf 57 = .ok (.iload_n 1, 1) := by decide +kernel
theorem dX1_addPartOf_58 : decode cX1_addPartOf 58 = .ok (.dup2, 1) := by decide +kernel
theorem dX1_addPartOf_59 : decode cX1_addPartOf 59 = .ok (.laload, 1) := by decide +kernel
theorem dX1_addPartOf_60 : decode cX1_addPartOf 60 = .ok (.lconst 1, 1) := by decide +kernel
theorem dX1_addPartOf_61 : decode cX1_addPartOf 61 = .ok (.iload_n 2, 1) := by decide +kernel
theorem dX1_addPartOf_62 : decode cX1_addPartOf 62 = .ok (.lshl, 1) := by decide +kernel
theorem dX1_addPartOf_63 : decode cX1_addPartOf 63 = .ok (.lor, 1) := by decide +kernel
theorem dX1_addPartOf_64 : decode cX1_addPartOf 64 = .ok (.lastore, 1) := by decide +kernel
theorem dX1_addPartOf_65 : decode cX1_addPartOf 65 = .ok (.iload_n 2, 1) := by decide +kernel
theorem dX1_addPartOf_66 : decode cX1_addPartOf 66 = .ok (.ireturn, 1) := by decide +kernel
theorem dX1_areAlike_0 : decode cX1_areAlike 0 = .ok (.aload_n 0, 1) := by decide +kernel
theorem dX1_areAlike_1 : decode cX1_areAlike 1 = .ok (.getfield 9, 3) := by decide +kernel
theorem dX1_areAlike_4 : decode cX1_areAlike 4 = .ok (.iload_n 1, 1) := by decide +kernel
theorem dX1_areAlike_5 : decode cX1_areAlike 5 = .ok (.iaload, 1) := by decide +kernel
theorem dX1_areAlike_6 : decode cX1_areAlike 6 = .ok (.aload_n 0, 1) := by decide +kernel
theorem dX1_areAlike_7 : decode cX1_areAlike 7 = .ok (.getfield 9, 3) := by decide +kernel
theorem dX1_areAlike_10 : decode cX1_areAlike 10 = .ok (.iload_n 2, 1) := by decide +kernel
theorem dX1_areAlike_11 : decode cX1_areAlike 11 = .ok (.iaload, 1) := by decide +kernel
theorem dX1_areAlike_12 : decode cX1_areAlike 12 = .ok (.if_icmp .ne 67, 3) := by decide +kernel
theorem dX1_areAlike_15 : decode cX1_areAlike 15 = .ok (.aload_n 0, 1) := by decide +kernel
theorem dX1_areAlike_16 : decode cX1_areAlike 16 = .ok (.getfield 15, 3) := by decide +kernel
theorem dX1_areAlike_19 : decode cX1_areAlike 19 = .ok (.iload_n 1, 1) := by decide +kernel
theorem dX1_areAlike_20 : decode cX1_areAlike 20 = .ok (.iaload, 1) := by decide +kernel
theorem dX1_areAlike_21 : decode cX1_areAlike 21 = .ok (.aload_n 0, 1) := by decide +kernel
theorem dX1_areAlike_22 : decode cX1_areAlike 22 = .ok (.getfield 15, 3) := by decide +kernel
theorem dX1_areAlike_25 : decode cX1_areAlike 25 = .ok (.iload_n 2, 1) := by decide +kernel
theorem dX1_areAlike_26 : decode cX1_areAlike 26 = .ok (.iaload, 1) := by decide +kernel
theorem dX1_areAlike_27 : decode cX1_areAlike 27 = .ok (.if_icmp .ne 52, 3) := by decide +kernel
theorem dX1_areAlike_30 : decode cX1_areAlike 30 = .ok (.aload_n 0, 1) := by decide +kernel
theorem dX1_areAlike_31 : decode cX1_areAlike 31 = .ok (.getfield 18, 3) := by decide +kernel
theorem dX1_areAlike_34 : decode cX1_areAlike 34 = .ok (.iload_n 1, 1) := by decide +kernel
theorem dX1_areAlike_35 : decode cX1_areAlike 35 = .ok (.iaload, 1) := by decide +kernel
theorem dX1_areAlike_36 : decode cX1_areAlike 36 = .ok (.aload_n 0, 1) := by decide +kernel
theorem dX1_areAlike_37 : decode cX1_areAlike 37 = .ok (.getfield 18, 3) := by decide +kernel
theorem dX1_areAlike_40 : decode cX1_areAlike 40 = .ok (.iload_n 2, 1) := by decide +kernel
theorem dX1_areAlike_41 : decode cX1_areAlike 41 = .ok (.iaload, 1) := by decide +kernel
theorem dX1_areAlike_42 : decode cX1_areAlike 42 = .ok (.if_icmp .ne 37, 3) := by decide +kernel
theorem dX1_areAlike_45 : decode cX1_areAlike 45 = .ok (.aload_n 0, 1) := by decide +kernel
theorem dX1_areAlike_46 : decode cX1_areAlike 46 = .ok (.getfield 28, 3) := by decide +kernel
theorem dX1_areAlike_49 : decode cX1_areAlike 49 = .ok (.iload_n 1, 1) := by decide +kernel
theorem dX1_areAlike_50 : decode cX1_areAlike 50 = .ok (.iaload, 1) := by decide +kernel
theorem dX1_areAlike_51 : decode cX1_areAlike 51 = .ok (.aload_n 0, 1) := by decide +kernel
theorem dX1_areAlike_52 : decode cX1_areAlike 52 = .ok (.getfield 28, 3) := by decide +kernel
theorem dX1_areAlike_55 : decode cX1_areAlike 55 = .ok (.iload_n 2, 1) := by decide +kernel
theorem dX1_areAlike_56 : decode cX1_areAlike 56 = .ok (.iaload, 1) := by decide +kernel
theorem dX1_areAlike_57 : decode cX1_areAlike 57 = .ok (.if_icmp .ne 22, 3) := by decide +kernel
theorem dX1_areAlike_60 : decode cX1_areAlike 60 = .ok (.aload_n 0, 1) := by decide +kernel
theorem dX1_areAlike_61 : decode cX1_areAlike 61 = .ok (.getfield 31, 3) := by decide +kernel
theorem dX1_areAlike_64 : decode cX1_areAlike 64 = .ok (.iload_n 1, 1) := by decide +kernel
theorem dX1_areAlike_65 : decode cX1_areAlike 65 = .ok (.baload, 1) := by decide +kernel
theorem dX1_areAlike_66 : decode cX1_areAlike 66 = .ok (.aload_n 0, 1) := by decide +kernel
theorem dX1_areAlike_67 : decode cX1_areAlike 67 = .ok (.getfield 31, 3) := by decide +kernel
theorem dX1_areAlike_70 : decode cX1_areAlike 70 = .ok (.iload_n 2, 1) := by decide +kernel
theorem dX1_areAlike_71 : decode cX1_areAlike 71 = .ok (.baload, 1) := by decide +kernel
theorem dX1_areAlike_72 : decode cX1_areAlike 72 = .ok (.if_icmp .ne 7, 3) := by decide +kernel
theorem dX1_areAlike_75 : decode cX1_areAlike 75 = .ok (.iconst 1, 1) := by decide +kernel
theorem dX1_areAlike_76 : decode cX1_areAlike 76 = .ok (.goto 4, 3) := by decide +kernel
theorem dX1_areAlike_79 : decode cX1_areAlike 79 = .ok (.iconst 0, 1) := by decide +kernel
theorem dX1_areAlike_80 : decode cX1_areAlike 80 = .ok (.ireturn, 1) := by decide +kernel
theorem dX1_closeInto_0 : decode cX1_closeInto 0 = .ok (.aload_n 0, 1) := by decide +kernel
theorem dX1_closeInto_1 : decode cX1_closeInto 1 = .ok (.getfield 24, 3) := by decide +kernel
theorem dX1_closeInto_4 : decode cX1_closeInto 4 = .ok (.iload_n 2, 1) := by decide +kernel
theorem dX1_closeInto_5 : decode cX1_closeInto 5 = .ok (.iconst 0, 1) := by decide +kernel
theorem dX1_closeInto_6 : decode cX1_closeInto 6 = .ok (.bastore, 1) := by decide +kernel
theorem dX1_closeInto_7 : decode cX1_closeInto 7 = .ok (.aload_n 0, 1) := by decide +kernel
theorem dX1_closeInto_8 : decode cX1_closeInto 8 = .ok (.getfield 34, 3) := by decide +kernel
theorem dX1_closeInto_11 : decode cX1_closeInto 11 = .ok (.iload_n 1, 1) := by decide +kernel
theorem dX1_closeInto_12 : decode cX1_closeInto 12 = .ok (.dup2, 1) := by decide +kernel
theorem dX1_closeInto_13 : decode cX1_closeInto 13 = .ok (.laload, 1) := by decide +kernel
theorem dX1_closeInto_14 : decode cX1_closeInto 14 = .ok (.lconst 1, 1) := by decide +kernel
theorem dX1_closeInto_15 : decode cX1_closeInto 15 = .ok (.iload_n 2, 1) := by decide +kernel
theorem dX1_closeInto_16 : decode cX1_closeInto 16 = .ok (.lshl, 1) := by decide +kernel
theorem dX1_closeInto_17 : decode cX1_closeInto 17 = .ok (.lor, 1) := by decide +kernel
theorem dX1_closeInto_18 : decode cX1_closeInto 18 = .ok (.lastore, 1) := by decide +kernel
theorem dX1_closeInto_19 : decode cX1_closeInto 19 = .ok (.return_, 1) := by decide +kernel
theorem dX3_moveAll_0 : decode cX3_moveAll 0 = .ok (.iconst 1, 1) := by decide +kernel
theorem dX3_moveAll_1 : decode cX3_moveAll 1 = .ok (.istore_n 3, 1) := by decide +kernel
theorem dX3_moveAll_2 : decode cX3_moveAll 2 = .ok (.iload_n 3, 1) := by decide +kernel
theorem dX3_moveAll_3 : decode cX3_moveAll 3 = .ok (.aload_n 0, 1) := by decide +kernel
theorem dX3_moveAll_4 : decode cX3_moveAll 4 = .ok (.getfield 27, 3) := by decide +kernel
theorem dX3_moveAll_7 : decode cX3_moveAll 7 = .ok (.if_icmp .gt 26, 3) := by decide +kernel
theorem dX3_moveAll_10 : decode cX3_moveAll 10 = .ok (.aload_n 0, 1) := by decide +kernel
theorem dX3_moveAll_11 : decode cX3_moveAll 11 = .ok (.getfield 9, 3) := by decide +kernel
theorem dX3_moveAll_14 : decode cX3_moveAll 14 = .ok (.iload_n 3, 1) := by decide +kernel
theorem dX3_moveAll_15 : decode cX3_moveAll 15 = .ok (.iaload, 1) := by decide +kernel
theorem dX3_moveAll_16 : decode cX3_moveAll 16 = .ok (.iload_n 1, 1) := by decide +kernel
theorem dX3_moveAll_17 : decode cX3_moveAll 17 = .ok (.if_icmp .ne 10, 3) := by decide +kernel
theorem dX3_moveAll_20 : decode cX3_moveAll 20 = .ok (.aload_n 0, 1) := by decide +kernel
theorem dX3_moveAll_21 : decode cX3_moveAll 21 = .ok (.getfield 9, 3) := by decide +kernel
theorem dX3_moveAll_24 : decode cX3_moveAll 24 = .ok (.iload_n 3, 1) := by decide +kernel
theorem dX3_moveAll_25 : decode cX3_moveAll 25 = .ok (.iload_n 2, 1) := by decide +kernel
theorem dX3_moveAll_26 : decode cX3_moveAll 26 = .ok (.iastore, 1) := by decide +kernel
theorem dX3_moveAll_27 : decode cX3_moveAll 27 = .ok (.iinc 3 1, 3) := by decide +kernel
theorem dX3_moveAll_30 : decode cX3_moveAll 30 = .ok (.goto (-28), 3) := by decide +kernel
theorem dX3_moveAll_33 : decode cX3_moveAll 33 = .ok (.return_, 1) := by decide +kernel
theorem dX3_haveRoom_0 : decode cX3_haveRoom 0 = .ok (.aload_n 0, 1) := by decide +kernel
theorem dX3_haveRoom_1 : decode cX3_haveRoom 1 = .ok (.getfield 27, 3) := by decide +kernel
theorem dX3_haveRoom_4 : decode cX3_haveRoom 4 = .ok (.bipush 120, 2) := by decide +kernel
theorem dX3_haveRoom_6 : decode cX3_haveRoom 6 = .ok (.if_icmp .ge 7, 3) := by decide +kernel
theorem dX3_haveRoom_9 : decode cX3_haveRoom 9 = .ok (.iconst 1, 1) := by decide +kernel
theorem dX3_haveRoom_10 : decode cX3_haveRoom 10 = .ok (.goto 4, 3) := by decide +kernel
theorem dX3_haveRoom_13 : decode cX3_haveRoom 13 = .ok (.iconst 0, 1) := by decide +kernel
theorem dX3_haveRoom_14 : decode cX3_haveRoom 14 = .ok (.ireturn, 1) := by decide +kernel
theorem dX3_add_0 : decode cX3_add 0 = .ok (.aload_n 0, 1) := by decide +kernel
theorem dX3_add_1 : decode cX3_add 1 = .ok (.dup, 1) := by decide +kernel
theorem dX3_add_2 : decode cX3_add 2 = .ok (.getfield 27, 3) := by decide +kernel
theorem dX3_add_5 : decode cX3_add 5 = .ok (.iconst 1, 1) := by decide +kernel
theorem dX3_add_6 : decode cX3_add 6 = .ok (.iadd, 1) := by decide +kernel
theorem dX3_add_7 : decode cX3_add 7 = .ok (.putfield 27, 3) := by decide +kernel
theorem dX3_add_10 : decode cX3_add 10 = .ok (.aload_n 0, 1) := by decide +kernel
theorem dX3_add_11 : decode cX3_add 11 = .ok (.getfield 9, 3) := by decide +kernel
theorem dX3_add_14 : decode cX3_add 14 = .ok (.aload_n 0, 1) := by decide +kernel
theorem dX3_add_15 : decode cX3_add 15 = .ok (.getfield 27, 3) := by decide +kernel
theorem dX3_add_18 : decode cX3_add 18 = .ok (.iload_n 1, 1) := by decide +kernel
theorem dX3_add_19 : decode cX3_add 19 = .ok (.iastore, 1) := by decide +kernel
theorem dX3_add_20 : decode cX3_add 20 = .ok (.aload_n 0, 1) := by decide +kernel
theorem dX3_add_21 : decode cX3_add 21 = .ok (.getfield 15, 3) := by decide +kernel
theorem dX3_add_24 : decode cX3_add 24 = .ok (.aload_n 0, 1) := by decide +kernel
theorem dX3_add_25 : decode cX3_add 25 = .ok (.getfield 27, 3) := by decide +kernel
theorem dX3_add_28 : decode cX3_add 28 = .ok (.iconst (-1), 1) := by decide +kernel
theorem dX3_add_29 : decode cX3_add 29 = .ok (.iastore, 1) := by decide +kernel
theorem dX3_add_30 : decode cX3_add 30 = .ok (.aload_n 0, 1) := by decide +kernel
theorem dX3_add_31 : decode cX3_add 31 = .ok (.getfield 18, 3) := by decide +kernel
theorem dX3_add_34 : decode cX3_add 34 = .ok (.aload_n 0, 1) := by decide +kernel
theorem dX3_add_35 : decode cX3_add 35 = .ok (.getfield 27, 3) := by decide +kernel
theorem dX3_add_38 : decode cX3_add 38 = .ok (.iconst (-1), 1) := by decide +kernel
theorem dX3_add_39 : decode cX3_add 39 = .ok (.iastore, 1) := by decide +kernel
theorem dX3_add_40 : decode cX3_add 40 = .ok (.aload_n 0, 1) := by decide +kernel
theorem dX3_add_41 : decode cX3_add 41 = .ok (.getfield 21, 3) := by decide +kernel
theorem dX3_add_44 : decode cX3_add 44 = .ok (.aload_n 0, 1) := by decide +kernel
theorem dX3_add_45 : decode cX3_add 45 = .ok (.getfield 27, 3) := by decide +kernel
theorem dX3_add_48 : decode cX3_add 48 = .ok (.iconst (-1), 1) := by decide +kernel
theorem dX3_add_49 : decode cX3_add 49 = .ok (.iastore, 1) := by decide +kernel
theorem dX3_add_50 : decode cX3_add 50 = .ok (.aload_n 0, 1) := by decide +kernel
theorem dX3_add_51 : decode cX3_add 51 = .ok (.getfield 24, 3) := by decide +kernel
theorem dX3_add_54 : decode cX3_add 54 = .ok (.aload_n 0, 1) := by decide +kernel
theorem dX3_add_55 : decode cX3_add 55 = .ok (.getfield 27, 3) := by decide +kernel
theorem dX3_add_58 : decode cX3_add 58 = .ok (.iload_n 1, 1) := by decide +kernel
theorem dX3_add_59 : decode cX3_add 59 = .ok (.iastore, 1) := by decide +kernel
theorem dX3_add_60 : decode cX3_add 60 = .ok (.aload_n 0, 1) := by decide +kernel
theorem dX3_add_61 : decode cX3_add 61 = .ok (.getfield 27, 3) := by decide +kernel
theorem dX3_add_64 : decode cX3_add 64 = .ok (.ireturn, 1) := by decide +kernel
theorem dX3_isGone_0 : decode cX3_isGone 0 = .ok (.aload_n 0, 1) := by decide +kernel
theorem dX3_isGone_1 : decode cX3_isGone 1 = .ok (.getfield 18, 3) := by decide +kernel
theorem dX3_isGone_4 : decode cX3_isGone 4 = .ok (.iload_n 1, 1) := by decide +kernel
theorem dX3_isGone_5 : decode cX3_isGone 5 = .ok (.iaload, 1) := by decide +kernel
theorem dX3_isGone_6 : decode cX3_isGone 6 = .ok (.iconst (-1), 1) := by decide +kernel
theorem dX3_isGone_7 : decode cX3_isGone 7 = .ok (.if_icmp .eq 7, 3) := by decide +kernel
theorem dX3_isGone_10 : decode cX3_isGone 10 = .ok (.iconst 1, 1) := by decide +kernel
theorem dX3_isGone_11 : decode cX3_isGone 11 = .ok (.goto 4, 3) := by decide +kernel
theorem dX3_isGone_14 : decode cX3_isGone 14 = .ok (.iconst 0, 1) := by decide +kernel
theorem dX3_isGone_15 : decode cX3_isGone 15 = .ok (.ireturn, 1) := by decide +kernel
theorem dX1_lieTooFarApart_0 : decode cX1_lieTooFarApart 0 = .ok (.aload_n 0, 1) := by decide +kernel
theorem dX1_lieTooFarApart_1 : decode cX1_lieTooFarApart 1 = .ok (.getfield 9, 3) := by decide +kernel
theorem dX1_lieTooFarApart_4 : decode cX1_lieTooFarApart 4 = .ok (.iload_n 1, 1) := by decide +kernel
theorem dX1_lieTooFarApart_5 : decode cX1_lieTooFarApart 5 = .ok (.iaload, 1) := by decide +kernel
theorem dX1_lieTooFarApart_6 : decode cX1_lieTooFarApart 6 = .ok (.aload_n 0, 1) := by decide +kernel
theorem dX1_lieTooFarApart_7 : decode cX1_lieTooFarApart 7 = .ok (.getfield 9, 3) := by decide +kernel
theorem dX1_lieTooFarApart_10 : decode cX1_lieTooFarApart 10 = .ok (.iload_n 2, 1) := by decide +kernel
theorem dX1_lieTooFarApart_11 : decode cX1_lieTooFarApart 11 = .ok (.iaload, 1) := by decide +kernel
theorem dX1_lieTooFarApart_12 : decode cX1_lieTooFarApart 12 = .ok (.if_icmp .ne 42, 3) := by decide +kernel
theorem dX1_lieTooFarApart_15 : decode cX1_lieTooFarApart 15 = .ok (.aload_n 0, 1) := by decide +kernel
theorem dX1_lieTooFarApart_16 : decode cX1_lieTooFarApart 16 = .ok (.getfield 15, 3) := by decide +kernel
theorem dX1_lieTooFarApart_19 : decode cX1_lieTooFarApart 19 = .ok (.iload_n 1, 1) := by decide +kernel
theorem dX1_lieTooFarApart_20 : decode cX1_lieTooFarApart 20 = .ok (.iaload, 1) := by decide +kernel
theorem dX1_lieTooFarApart_21 : decode cX1_lieTooFarApart 21 = .ok (.aload_n 0, 1) := by decide +kernel
theorem dX1_lieTooFarApart_22 : decode cX1_lieTooFarApart 22 = .ok (.getfield 15, 3) := by decide +kernel
theorem dX1_lieTooFarApart_25 : decode cX1_lieTooFarApart 25 = .ok (.iload_n 2, 1) := by decide +kernel
theorem dX1_lieTooFarApart_26 : decode cX1_lieTooFarApart 26 = .ok (.iaload, 1) := by decide +kernel
theorem dX1_lieTooFarApart_27 : decode cX1_lieTooFarApart 27 = .ok (.if_icmp .ne 27, 3) := by decide +kernel
theorem dX1_lieTooFarApart_30 : decode cX1_lieTooFarApart 30 = .ok (.aload_n 0, 1) := by decide +kernel
theorem dX1_lieTooFarApart_31 : decode cX1_lieTooFarApart 31 = .ok (.getfield 18, 3) := by decide +kernel
theorem dX1_lieTooFarApart_34 : decode cX1_lieTooFarApart 34 = .ok (.iload_n 1, 1) := by decide +kernel
theorem dX1_lieTooFarApart_35 : decode cX1_lieTooFarApart 35 = .ok (.iaload, 1) := by decide +kernel
theorem dX1_lieTooFarApart_36 : decode cX1_lieTooFarApart 36 = .ok (.aload_n 0, 1) := by decide +kernel
theorem dX1_lieTooFarApart_37 : decode cX1_lieTooFarApart 37 = .ok (.getfield 18, 3) := by decide +kernel
theorem dX1_lieTooFarApart_40 : decode cX1_lieTooFarApart 40 = .ok (.iload_n 2, 1) := by decide +kernel
theorem dX1_lieTooFarApart_41 : decode cX1_lieTooFarApart 41 = .ok (.iaload, 1) := by decide +kernel
theorem dX1_lieTooFarApart_42 : decode cX1_lieTooFarApart 42 = .ok (.isub, 1) := by decide +kernel
theorem dX1_lieTooFarApart_43 : decode cX1_lieTooFarApart 43 = .ok (.invokestatic 46, 3) := by decide +kernel
theorem dX1_lieTooFarApart_46 : decode cX1_lieTooFarApart 46 = .ok (.iload_n 3, 1) := by decide +kernel
theorem dX1_lieTooFarApart_47 : decode cX1_lieTooFarApart 47 = .ok (.if_icmp .le 7, 3) := by decide +kernel
theorem dX1_lieTooFarApart_50 : decode cX1_lieTooFarApart 50 = .ok (.iconst 1, 1) := by decide +kernel
theorem dX1_lieTooFarApart_51 : decode cX1_lieTooFarApart 51 = .ok (.goto 4, 3) := by decide +kernel
theorem dX1_lieTooFarApart_54 : decode cX1_lieTooFarApart 54 = .ok (.iconst 0, 1) := by decide +kernel
theorem dX1_lieTooFarApart_55 : decode cX1_lieTooFarApart 55 = .ok (.ireturn, 1) := by decide +kernel
theorem dX3_send_0 : decode cX3_send 0 = .ok (.aload_n 0, 1) := by decide +kernel
theorem dX3_send_1 : decode cX3_send 1 = .ok (.getfield 15, 3) := by decide +kernel
theorem dX3_send_4 : decode cX3_send 4 = .ok (.iload_n 1, 1) := by decide +kernel
theorem dX3_send_5 : decode cX3_send 5 = .ok (.iconst (-1), 1) := by decide +kernel
theorem dX3_send_6 : decode cX3_send 6 = .ok (.iastore, 1) := by decide +kernel
theorem dX3_send_7 : decode cX3_send 7 = .ok (.aload_n 0, 1) := by decide +kernel
theorem dX3_send_8 : decode cX3_send 8 = .ok (.getfield 18, 3) := by decide +kernel
theorem dX3_send_11 : decode cX3_send 11 = .ok (.iload_n 1, 1) := by decide +kernel
theorem dX3_send_12 : decode cX3_send 12 = .ok (.iload_n 2, 1) := by decide +kernel
theorem dX3_send_13 : decode cX3_send 13 = .ok (.iastore, 1) := by decide +kernel
theorem dX3_send_14 : decode cX3_send 14 = .ok (.aload_n 0, 1) := by decide +kernel
theorem dX3_send_15 : decode cX3_send 15 = .ok (.getfield 21, 3) := by decide +kernel
theorem dX3_send_18 : decode cX3_send 18 = .ok (.iload_n 1, 1) := by decide +kernel
theorem dX3_send_19 : decode cX3_send 19 = .ok (.iload_n 3, 1) := by decide +kernel
theorem dX3_send_20 : decode cX3_send 20 = .ok (.iastore, 1) := by decide +kernel
theorem dX3_send_21 : decode cX3_send 21 = .ok (.aload_n 0, 1) := by decide +kernel
theorem dX3_send_22 : decode cX3_send 22 = .ok (.dup, 1) := by decide +kernel
theorem dX3_send_23 : decode cX3_send 23 = .ok (.getfield 31, 3) := by decide +kernel
theorem dX3_send_26 : decode cX3_send 26 = .ok (.iconst 1, 1) := by decide +kernel
theorem dX3_send_27 : decode cX3_send 27 = .ok (.iadd, 1) := by decide +kernel
theorem dX3_send_28 : decode cX3_send 28 = .ok (.putfield 31, 3) := by decide +kernel
theorem dX3_send_31 : decode cX3_send 31 = .ok (.return_, 1) := by decide +kernel
theorem dX1_familyOf_0 : decode cX1_familyOf 0 = .ok (.lconst 1, 1) := by decide +kernel
theorem dX1_familyOf_1 : decode cX1_familyOf 1 = .ok (.iload_n 1, 1) := by decide +kernel
theorem dX1_familyOf_2 : decode cX1_familyOf 2 = .ok (.lshl, 1) := by decide +kernel
theorem dX1_familyOf_3 : decode cX1_familyOf 3 = .ok (.lstore_n 2, 1) := by decide +kernel
theorem dX1_familyOf_4 : decode cX1_familyOf 4 = .ok (.iconst 1, 1) := by decide +kernel
theorem dX1_familyOf_5 : decode cX1_familyOf 5 = .ok (.istore 4, 2) := by decide +kernel
theorem dX1_familyOf_7 : decode cX1_familyOf 7 = .ok (.iload 4, 2) := by decide +kernel
theorem dX1_familyOf_9 : decode cX1_familyOf 9 = .ok (.aload_n 0, 1) := by decide +kernel
theorem dX1_familyOf_10 : decode cX1_familyOf 10 = .ok (.getfield 38, 3) := by decide +kernel
theorem dX1_familyOf_13 : decode cX1_familyOf 13 = .ok (.if_icmp .gt 48, 3) := by decide +kernel
theorem dX1_familyOf_16 : decode cX1_familyOf 16 = .ok (.iconst 1, 1) := by decide +kernel
theorem dX1_familyOf_17 : decode cX1_familyOf 17 = .ok (.istore 5, 2) := by decide +kernel
theorem dX1_familyOf_19 : decode cX1_familyOf 19 = .ok (.iload 5, 2) := by decide +kernel
theorem dX1_familyOf_21 : decode cX1_familyOf 21 = .ok (.aload_n 0, 1) := by decide +kernel
theorem dX1_familyOf_22 : decode cX1_familyOf 22 = .ok (.getfield 38, 3) := by decide +kernel
theorem dX1_familyOf_25 : decode cX1_familyOf 25 = .ok (.if_icmp .gt 30, 3) := by decide +kernel
theorem dX1_familyOf_28 : decode cX1_familyOf 28 = .ok (.lload_n 2, 1) := by decide +kernel
theorem dX1_familyOf_29 : decode cX1_familyOf 29 = .ok (.lconst 1, 1) := by decide +kernel
theorem dX1_familyOf_30 : decode cX1_familyOf 30 = .ok (.iload 5, 2) := by decide +kernel
theorem dX1_familyOf_32 : decode cX1_familyOf 32 = .ok (.lshl, 1) := by decide +kernel
theorem dX1_familyOf_33 : decode cX1_familyOf 33 = .ok (.land, 1) := by decide +kernel
theorem dX1_familyOf_34 : decode cX1_familyOf 34 = .ok (.lconst 0, 1) := by decide +kernel
theorem dX1_familyOf_35 : decode cX1_familyOf 35 = .ok (.lcmp, 1) := by decide +kernel
theorem dX1_familyOf_36 : decode cX1_familyOf 36 = .ok (.ifCond .eq 13, 3) := by decide +kernel
theorem dX1_familyOf_39 : decode cX1_familyOf 39 = .ok (.lload_n 2, 1) := by decide +kernel
theorem dX1_familyOf_40 : decode cX1_familyOf 40 = .ok (.aload_n 0, 1) := by decide +kernel
theorem dX1_familyOf_41 : decode cX1_familyOf 41 = .ok (.getfield 34, 3) := by decide +kernel
theorem dX1_familyOf_44 : decode cX1_familyOf 44 = .ok (.iload 5, 2) := by decide +kernel
theorem dX1_familyOf_46 : decode cX1_familyOf 46 = .ok (.laload, 1) := by decide +kernel
theorem dX1_familyOf_47 : decode cX1_familyOf 47 = .ok (.lor, 1) := by decide +kernel
theorem dX1_familyOf_48 : decode cX1_familyOf 48 = .ok (.lstore_n 2, 1) := by decide +kernel
theorem dX1_familyOf_49 : decode cX1_familyOf 49 = .ok (.iinc 5 1, 3) := by decide +kernel
theorem dX1_familyOf_52 : decode cX1_familyOf 52 = .ok (.goto (-33), 3) := by decide +kernel
theorem dX1_familyOf_55 : decode cX1_familyOf 55 = .ok (.iinc 4 1, 3) := by decide +kernel
theorem dX1_familyOf_58 : decode cX1_familyOf 58 = .ok (.goto (-51), 3) := by decide +kernel
theorem dX1_familyOf_61 : decode cX1_familyOf 61 = .ok (.lload_n 2, 1) := by decide +kernel
theorem dX1_familyOf_62 : decode cX1_familyOf 62 = .ok (.lreturn, 1) := by decide +kernel
theorem dX3_everOfFamily_0 : decode cX3_everOfFamily 0 = .ok (.iconst 0, 1) := by decide +kernel
theorem dX3_everOfFamily_1 : decode cX3_everOfFamily 1 = .ok (.istore 4, 2) := by decide +kernel
theorem dX3_everOfFamily_3 : decode cX3_everOfFamily 3 = .ok (.iconst 1, 1) := by decide +kernel
theorem dX3_everOfFamily_4 : decode cX3_everOfFamily 4 = .ok (.istore 5, 2) := by decide +kernel
theorem dX3_everOfFamily_6 : decode cX3_everOfFamily 6 = .ok (.iload 5, 2) := by decide +kernel
theorem dX3_everOfFamily_8 : decode cX3_everOfFamily 8 = .ok (.aload_n 0, 1) := by decide +kernel
theorem dX3_everOfFamily_9 : decode cX3_everOfFamily 9 = .ok (.getfield 27, 3) := by decide +kernel
theorem dX3_everOfFamily_12 : decode cX3_everOfFamily 12 = .ok (.if_icmp .gt 37, 3) := by decide +kernel
theorem dX3_everOfFamily_15 : decode cX3_everOfFamily 15 = .ok (.lload_n 1, 1) := by decide +kernel
theorem dX3_everOfFamily_16 : decode cX3_everOfFamily 16 = .ok (.lconst 1, 1) := by decide +kernel
theorem dX3_everOfFamily_17 : decode cX3_everOfFamily 17 = .ok (.aload_n 0, 1) := by decide +kernel
theorem dX3_everOfFamily_18 : decode cX3_everOfFamily 18 = .ok (.getfield 24, 3) := by decide +kernel
theorem dX3_everOfFamily_21 : decode cX3_everOfFamily 21 = .ok (.iload 5, 2) := by decide +kernel
theorem dX3_everOfFamily_23 : decode cX3_everOfFamily 23 = .ok (.iaload, 1) := by decide +kernel
theorem dX3_everOfFamily_24 : decode cX3_everOfFamily 24 = .ok (.lshl, 1) := by decide +kernel
theorem dX3_everOfFamily_25 : decode cX3_everOfFamily 25 = .ok (.land, 1) := by decide +kernel
theorem dX3_everOfFamily_26 : decode cX3_everOfFamily 26 = .ok (.lconst 0, 1) := by decide +kernel
theorem dX3_everOfFamily_27 : decode cX3_everOfFamily 27 = .ok (.lcmp, 1) := by decide +kernel
theorem dX3_everOfFamily_28 : decode cX3_everOfFamily 28 = .ok (.ifCond .eq 15, 3) := by decide +kernel
theorem dX3_everOfFamily_31 : decode cX3_everOfFamily 31 = .ok (.iload 4, 2) := by decide +kernel
theorem dX3_everOfFamily_33 : decode cX3_everOfFamily 33 = .ok (.iload_n 3, 1) := by decide +kernel
theorem dX3_everOfFamily_34 : decode cX3_everOfFamily 34 = .ok (.if_icmp .ne 6, 3) := by decide +kernel
theorem dX3_everOfFamily_37 : decode cX3_everOfFamily 37 = .ok (.iload 5, 2) := by decide +kernel
theorem dX3_everOfFamily_39 : decode cX3_everOfFamily 39 = .ok (.ireturn, 1) := by decide +kernel
theorem dX3_everOfFamily_40 : decode cX3_everOfFamily 40 = .ok (.iinc 4 1, 3) := by decide +kernel
theorem dX3_everOfFamily_43 : decode cX3_everOfFamily 43 = .ok (.iinc 5 1, 3) := by decide +kernel
theorem dX3_everOfFamily_46 : decode cX3_everOfFamily 46 = .ok (.goto (-40), 3) := by decide +kernel
theorem dX3_everOfFamily_49 : decode cX3_everOfFamily 49 = .ok (.iconst (-1), 1) := by decide +kernel
theorem dX3_everOfFamily_50 : decode cX3_everOfFamily 50 = .ok (.ireturn, 1) := by decide +kernel
theorem dX2_find_0 : decode cX2_find 0 = .ok (.iconst 0, 1) := by decide +kernel
theorem dX2_find_1 : decode cX2_find 1 = .ok (.istore_n 3, 1) := by decide +kernel
theorem dX2_find_2 : decode cX2_find 2 = .ok (.iconst 0, 1) := by decide +kernel
theorem dX2_find_3 : decode cX2_find 3 = .ok (.istore 4, 2) := by decide +kernel
theorem dX2_find_5 : decode cX2_find 5 = .ok (.iload 4, 2) := by decide +kernel
theorem dX2_find_7 : decode cX2_find 7 = .ok (.aload_n 0, 1) := by decide +kernel
theorem dX2_find_8 : decode cX2_find 8 = .ok (.getfield 21, 3) := by decide +kernel
theorem dX2_find_11 : decode cX2_find 11 = .ok (.if_icmp .ge 31, 3) := by decide +kernel
theorem dX2_find_14 : decode cX2_find 14 = .ok (.aload_n 0, 1) := by decide +kernel
theorem dX2_find_15 : decode cX2_find 15 = .ok (.getfield 9, 3) := by decide +kernel
theorem dX2_find_18 : decode cX2_find 18 = .ok (.iload 4, 2) := by decide +kernel
theorem dX2_find_20 : decode cX2_find 20 = .ok (.iaload, 1) := by decide +kernel
theorem dX2_find_21 : decode cX2_find 21 = .ok (.iload_n 1, 1) := by decide +kernel
theorem dX2_find_22 : decode cX2_find 22 = .ok (.if_icmp .ne 14, 3) := by decide +kernel
theorem dX2_find_25 : decode cX2_find 25 = .ok (.iload_n 3, 1) := by decide +kernel
theorem dX2_find_26 : decode cX2_find 26 = .ok (.iload_n 2, 1) := by decide +kernel
theorem dX2_find_27 : decode cX2_find 27 = .ok (.if_icmp .ne 6, 3) := by decide +kernel
theorem dX2_find_30 : decode cX2_find 30 = .ok (.iload 4, 2) := by decide +kernel
theorem dX2_find_32 : decode cX2_find 32 = .ok (.ireturn, 1) := by decide +kernel
theorem dX2_find_33 : decode cX2_find 33 = .ok (.iinc 3 1, 3) := by decide +kernel
theorem dX2_find_36 : decode cX2_find 36 = .ok (.iinc 4 1, 3) := by decide +kernel
theorem dX2_find_39 : decode cX2_find 39 = .ok (.goto (-34), 3) := by decide +kernel
theorem dX2_find_42 : decode cX2_find 42 = .ok (.iconst (-1), 1) := by decide +kernel
theorem dX2_find_43 : decode cX2_find 43 = .ok (.ireturn, 1) := by decide +kernel
theorem dX3_leftOf_0 : decode cX3_leftOf 0 = .ok (.iconst 0, 1) := by decide +kernel
theorem dX3_leftOf_1 : decode cX3_leftOf 1 = .ok (.istore_n 2, 1) := by decide +kernel
theorem dX3_leftOf_2 : decode cX3_leftOf 2 = .ok (.iconst 1, 1) := by decide +kernel
theorem dX3_leftOf_3 : decode cX3_leftOf 3 = .ok (.istore_n 3, 1) := by decide +kernel
theorem dX3_leftOf_4 : decode cX3_leftOf 4 = .ok (.iload_n 3, 1) := by decide +kernel
theorem dX3_leftOf_5 : decode cX3_leftOf 5 = .ok (.aload_n 0, 1) := by decide +kernel
theorem dX3_leftOf_6 : decode cX3_leftOf 6 = .ok (.getfield 27, 3) := by decide +kernel
theorem dX3_leftOf_9 : decode cX3_leftOf 9 = .ok (.if_icmp .gt 30, 3) := by decide +kernel
theorem dX3_leftOf_12 : decode cX3_leftOf 12 = .ok (.aload_n 0, 1) := by decide +kernel
theorem dX3_leftOf_13 : decode cX3_leftOf 13 = .ok (.getfield 9, 3) := by decide +kernel
theorem dX3_leftOf_16 : decode cX3_leftOf 16 = .ok (.iload_n 3, 1) := by decide +kernel
theorem dX3_leftOf_17 : decode cX3_leftOf 17 = .ok (.iaload, 1) := by decide +kernel
theorem dX3_leftOf_18 : decode cX3_leftOf 18 = .ok (.iload_n 1, 1) := by decide +kernel
theorem dX3_leftOf_19 : decode cX3_leftOf 19 = .ok (.if_icmp .ne 14, 3) := by decide +kernel
theorem dX3_leftOf_22 : decode cX3_leftOf 22 = .ok (.aload_n 0, 1) := by decide +kernel
theorem dX3_leftOf_23 : decode cX3_leftOf 23 = .ok (.iload_n 3, 1) := by decide +kernel
theorem dX3_leftOf_24 : decode cX3_leftOf 24 = .ok (.invokevirtual 34, 3) := by decide +kernel
theorem dX3_leftOf_27 : decode cX3_leftOf 27 = .ok (.ifCond .ne 6, 3) := by decide +kernel
theorem dX3_leftOf_30 : decode cX3_leftOf 30 = .ok (.iinc 2 1, 3) := by decide +kernel
theorem dX3_leftOf_33 : decode cX3_leftOf 33 = .ok (.iinc 3 1, 3) := by decide +kernel
theorem dX3_leftOf_36 : decode cX3_leftOf 36 = .ok (.goto (-32), 3) := by decide +kernel
theorem dX3_leftOf_39 : decode cX3_leftOf 39 = .ok (.iload_n 2, 1) := by decide +kernel
theorem dX3_leftOf_40 : decode cX3_leftOf 40 = .ok (.ireturn, 1) := by decide +kernel
theorem dX0_fromYearDay_0 : decode cX0_fromYearDay 0 = .ok (.iload_n 1, 1) := by decide +kernel
theorem dX0_fromYearDay_1 : decode cX0_fromYearDay 1 = .ok (.iconst 1, 1) := by decide +kernel
theorem dX0_fromYearDay_2 : decode cX0_fromYearDay 2 = .ok (.if_icmp .lt 13, 3) := by decide +kernel
theorem dX0_fromYearDay_5 : decode cX0_fromYearDay 5 = .ok (.iload_n 1, 1) := by decide +kernel
theorem dX0_fromYearDay_6 : decode cX0_fromYearDay 6 = .ok (.iload_n 0, 1) := by decide +kernel
theorem dX0_fromYearDay_7 : decode cX0_fromYearDay 7 = .ok (.bipush 13, 2) := by decide +kernel
theorem dX0_fromYearDay_9 : decode cX0_fromYearDay 9 = .ok (.invokestatic 11, 3) := by decide +kernel
theorem dX0_fromYearDay_12 : decode cX0_fromYearDay 12 = .ok (.if_icmp .le 5, 3) := by decide +kernel
theorem dX0_fromYearDay_15 : decode cX0_fromYearDay 15 = .ok (.iconst (-1), 1) := by decide +kernel
theorem dX0_fromYearDay_16 : decode cX0_fromYearDay 16 = .ok (.ireturn, 1) := by decide +kernel
theorem dX0_fromYearDay_17 : decode cX0_fromYearDay 17 = .ok (.iload_n 0, 1) := by decide +kernel
theorem dX0_fromYearDay_18 : decode cX0_fromYearDay 18 = .ok (.invokestatic 15, 3) := by decide +kernel
theorem dX0_fromYearDay_21 : decode cX0_fromYearDay 21 = .ok (.iload_n 1, 1) := by decide +kernel
theorem dX0_fromYearDay_22 : decode cX0_fromYearDay 22 = .ok (.iadd, 1) := by decide +kernel
theorem dX0_fromYearDay_23 : decode cX0_fromYearDay 23 = .ok (.iconst 1, 1) := by decide +kernel
theorem dX0_fromYearDay_24 : decode cX0_fromYearDay 24 = .ok (.isub, 1) := by decide +kernel
theorem dX0_fromYearDay_25 : decode cX0_fromYearDay 25 = .ok (.ireturn, 1) := by decide +kernel
theorem dX0_daysBefore_0 : decode cX0_daysBefore 0 = .ok (.iload_n 0, 1) := by decide +kernel
theorem dX0_daysBefore_1 : decode cX0_daysBefore 1 = .ok (.iconst 4, 1) := by decide +kernel
theorem dX0_daysBefore_2 : decode cX0_daysBefore 2 = .ok (.irem, 1) := by decide +kernel
theorem dX0_daysBefore_3 : decode cX0_daysBefore 3 = .ok (.ifCond .ne 12, 3) := by decide +kernel
theorem dX0_daysBefore_6 : decode cX0_daysBefore 6 = .ok (.iload_n 1, 1) := by decide +kernel
theorem dX0_daysBefore_7 : decode cX0_daysBefore 7 = .ok (.iconst 2, 1) := by decide +kernel
theorem dX0_daysBefore_8 : decode cX0_daysBefore 8 = .ok (.if_icmp .le 7, 3) := by decide +kernel
theorem dX0_daysBefore_11 : decode cX0_daysBefore 11 = .ok (.iconst 1, 1) := by decide +kernel
theorem dX0_daysBefore_12 : decode cX0_daysBefore 12 = .ok (.goto 4, 3) := by decide +kernel
theorem dX0_daysBefore_15 : decode cX0_daysBefore 15 = .ok (.iconst 0, 1) := by decide +kernel
theorem dX0_daysBefore_16 : decode cX0_daysBefore 16 = .ok (.istore_n 2, 1) := by decide +kernel
theorem dX0_daysBefore_17 : decode cX0_daysBefore 17 = .ok (.getstatic 22, 3) := by decide +kernel
theorem dX0_daysBefore_20 : decode cX0_daysBefore 20 = .ok (.iload_n 1, 1) := by decide +kernel
theorem dX0_daysBefore_21 : decode cX0_daysBefore 21 = .ok (.iconst 1, 1) := by decide +kernel
theorem dX0_daysBefore_22 : decode cX0_daysBefore 22 = .ok (.isub, 1) := by decide +kernel
theorem dX0_daysBefore_23 : decode cX0_daysBefore 23 = .ok (.iaload, 1) := by decide +kernel
theorem dX0_daysBefore_24 : decode cX0_daysBefore 24 = .ok (.iload_n 2, 1) := by decide +kernel
theorem dX0_daysBefore_25 : decode cX0_daysBefore 25 = .ok (.iadd, 1) := by decide +kernel
theorem dX0_daysBefore_26 : decode cX0_daysBefore 26 = .ok (.ireturn, 1) := by decide +kernel
theorem dX0_startOfYear_0 : decode cX0_startOfYear 0 = .ok (.iload_n 0, 1) := by decide +kernel
theorem dX0_startOfYear_1 : decode cX0_startOfYear 1 = .ok (.sipush 365, 3) := by decide +kernel
theorem dX0_startOfYear_4 : decode cX0_startOfYear 4 = .ok (.imul, 1) := by decide +kernel
theorem dX0_startOfYear_5 : decode cX0_startOfYear 5 = .ok (.iload_n 0, 1) := by decide +kernel
theorem dX0_startOfYear_6 : decode cX0_startOfYear 6 = .ok (.iconst 3, 1) := by decide +kernel
theorem dX0_startOfYear_7 : decode cX0_startOfYear 7 = .ok (.iadd, 1) := by decide +kernel
theorem dX0_startOfYear_8 : decode cX0_startOfYear 8 = .ok (.iconst 4, 1) := by decide +kernel
theorem dX0_startOfYear_9 : decode cX0_startOfYear 9 = .ok (.idiv, 1) := by decide +kernel
theorem dX0_startOfYear_10 : decode cX0_startOfYear 10 = .ok (.iadd, 1) := by decide +kernel
theorem dX0_startOfYear_11 : decode cX0_startOfYear 11 = .ok (.ireturn, 1) := by decide +kernel
theorem dX0_fromMonthDay_0 : decode cX0_fromMonthDay 0 = .ok (.iload_n 1, 1) := by decide +kernel
theorem dX0_fromMonthDay_1 : decode cX0_fromMonthDay 1 = .ok (.iconst 1, 1) := by decide +kernel
theorem dX0_fromMonthDay_2 : decode cX0_fromMonthDay 2 = .ok (.if_icmp .lt 14, 3) := by decide +kernel
theorem dX0_fromMonthDay_5 : decode cX0_fromMonthDay 5 = .ok (.iload_n 1, 1) := by decide +kernel
theorem dX0_fromMonthDay_6 : decode cX0_fromMonthDay 6 = .ok (.bipush 12, 2) := by decide +kernel
theorem dX0_fromMonthDay_8 : decode cX0_fromMonthDay 8 = .ok (.if_icmp .gt 8, 3) := by decide +kernel
theorem dX0_fromMonthDay_11 : decode cX0_fromMonthDay 11 = .ok (.iload_n 2, 1) := by decide +kernel
theorem dX0_fromMonthDay_12 : decode cX0_fromMonthDay 12 = .ok (.iconst 1, 1) := by decide +kernel
theorem dX0_fromMonthDay_13 : decode cX0_fromMonthDay 13 = .ok (.if_icmp .ge 5, 3) := by decide +kernel
theorem dX0_fromMonthDay_16 : decode cX0_fromMonthDay 16 = .ok (.iconst (-1), 1) := by decide +kernel
theorem dX0_fromMonthDay_17 : decode cX0_fromMonthDay 17 = .ok (.ireturn, 1) := by decide +kernel
theorem dX0_fromMonthDay_18 : decode cX0_fromMonthDay 18 = .ok (.iload_n 0, 1) := by decide +kernel
theorem dX0_fromMonthDay_19 : decode cX0_fromMonthDay 19 = .ok (.iload_n 1, 1) := by decide +kernel
theorem dX0_fromMonthDay_20 : decode cX0_fromMonthDay 20 = .ok (.invokestatic 11, 3) := by decide +kernel
theorem dX0_fromMonthDay_23 : decode cX0_fromMonthDay 23 = .ok (.iload_n 2, 1) := by decide +kernel
theorem dX0_fromMonthDay_24 : decode cX0_fromMonthDay 24 = .ok (.iadd, 1) := by decide +kernel
theorem dX0_fromMonthDay_25 : decode cX0_fromMonthDay 25 = .ok (.istore_n 3, 1) := by decide +kernel
theorem dX0_fromMonthDay_26 : decode cX0_fromMonthDay 26 = .ok (.iload_n 3, 1) := by decide +kernel
theorem dX0_fromMonthDay_27 : decode cX0_fromMonthDay 27 = .ok (.iload_n 0, 1) := by decide +kernel
theorem dX0_fromMonthDay_28 : decode cX0_fromMonthDay 28 = .ok (.iload_n 1, 1) := by decide +kernel
theorem dX0_fromMonthDay_29 : decode cX0_fromMonthDay 29 = .ok (.iconst 1, 1) := by decide +kernel
theorem dX0_fromMonthDay_30 : decode cX0_fromMonthDay 30 = .ok (.iadd, 1) := by decide +kernel
theorem dX0_fromMonthDay_31 : decode cX0_fromMonthDay 31 = .ok (.invokestatic 11, 3) := by decide +kernel
theorem dX0_fromMonthDay_34 : decode cX0_fromMonthDay 34 = .ok (.if_icmp .le 5, 3) := by decide +kernel
theorem dX0_fromMonthDay_37 : decode cX0_fromMonthDay 37 = .ok (.iconst (-1), 1) := by decide +kernel
theorem dX0_fromMonthDay_38 : decode cX0_fromMonthDay 38 = .ok (.ireturn, 1) := by decide +kernel
theorem dX0_fromMonthDay_39 : decode cX0_fromMonthDay 39 = .ok (.iload_n 0, 1) := by decide +kernel
theorem dX0_fromMonthDay_40 : decode cX0_fromMonthDay 40 = .ok (.iload_n 3, 1) := by decide +kernel
theorem dX0_fromMonthDay_41 : decode cX0_fromMonthDay 41 = .ok (.invokestatic 19, 3) := by decide +kernel
theorem dX0_fromMonthDay_44 : decode cX0_fromMonthDay 44 = .ok (.ireturn, 1) := by decide +kernel
theorem dX0_yearOf_0 : decode cX0_yearOf 0 = .ok (.bipush 99, 2) := by decide +kernel
theorem dX0_yearOf_2 : decode cX0_yearOf 2 = .ok (.istore_n 1, 1) := by decide +kernel
theorem dX0_yearOf_3 : decode cX0_yearOf 3 = .ok (.iload_n 1, 1) := by decide +kernel
theorem dX0_yearOf_4 : decode cX0_yearOf 4 = .ok (.ifCond .le 19, 3) := by decide +kernel
theorem dX0_yearOf_7 : decode cX0_yearOf 7 = .ok (.iload_n 1, 1) := by decide +kernel
theorem dX0_yearOf_8 : decode cX0_yearOf 8 = .ok (.invokestatic 15, 3) := by decide +kernel
theorem dX0_yearOf_11 : decode cX0_yearOf 11 = .ok (.iload_n 0, 1) := by decide +kernel
theorem dX0_yearOf_12 : decode cX0_yearOf 12 = .ok (.if_icmp .gt 5, 3) := by decide +kernel
theorem dX0_yearOf_15 : decode cX0_yearOf 15 = .ok (.iload_n 1, 1) := by decide +kernel
theorem dX0_yearOf_16 : decode cX0_yearOf 16 = .ok (.ireturn, 1) := by decide +kernel
theorem dX0_yearOf_17 : decode cX0_yearOf 17 = .ok (.iinc 1 (-1), 3) := by decide +kernel
theorem dX0_yearOf_20 : decode cX0_yearOf 20 = .ok (.goto (-17), 3) := by decide +kernel
theorem dX0_yearOf_23 : decode cX0_yearOf 23 = .ok (.iconst 0, 1) := by decide +kernel
theorem dX0_yearOf_24 : decode cX0_yearOf 24 = .ok (.ireturn, 1) := by decide +kernel
theorem dX0_monthOf_0 : decode cX0_monthOf 0 = .ok (.bipush 12, 2) := by decide +kernel
theorem dX0_monthOf_2 : decode cX0_monthOf 2 = .ok (.istore_n 2, 1) := by decide +kernel
theorem dX0_monthOf_3 : decode cX0_monthOf 3 = .ok (.iload_n 2, 1) := by decide +kernel
theorem dX0_monthOf_4 : decode cX0_monthOf 4 = .ok (.iconst 1, 1) := by decide +kernel
theorem dX0_monthOf_5 : decode cX0_monthOf 5 = .ok (.if_icmp .le 20, 3) := by decide +kernel
theorem dX0_monthOf_8 : decode cX0_monthOf 8 = .ok (.iload_n 0, 1) := by decide +kernel
theorem dX0_monthOf_9 : decode cX0_monthOf 9 = .ok (.iload_n 2, 1) := by decide +kernel
theorem dX0_monthOf_10 : decode cX0_monthOf 10 = .ok (.invokestatic 11, 3) := by decide +kernel
theorem dX0_monthOf_13 : decode cX0_monthOf 13 = .ok (.iload_n 1, 1) := by decide +kernel
theorem dX0_monthOf_14 : decode cX0_monthOf 14 = .ok (.if_icmp .ge 5, 3) := by decide +kernel
theorem dX0_monthOf_17 : decode cX0_monthOf 17 = .ok (.iload_n 2, 1) := by decide +kernel
theorem dX0_monthOf_18 : decode cX0_monthOf 18 = .ok (.ireturn, 1) := by decide +kernel
theorem dX0_monthOf_19 : decode cX0_monthOf 19 = .ok (.iinc 2 (-1), 3) := by decide +kernel
theorem dX0_monthOf_22 : decode cX0_monthOf 22 = .ok (.goto (-19), 3) := by decide +kernel
theorem dX0_monthOf_25 : decode cX0_monthOf 25 = .ok (.iconst 1, 1) := by decide +kernel
theorem dX0_monthOf_26 : decode cX0_monthOf 26 = .ok (.ireturn, 1) := by decide +kernel
end
section
theorem dX4_init_0 : decode cX4_init 0 = .ok (.aload_n 0, 1) := by decide +kernel
theorem dX4_init_1 : decode cX4_init 1 = .ok (.invokespecial 1, 3) := by decide +kernel
theorem dX4_init_4 : decode cX4_init 4 = .ok (.aload_n 0, 1) := by decide +kernel
theorem dX4_init_5 : decode cX4_init 5 = .ok (.new 7, 3) := by decide +kernel
theorem dX4_init_8 : decode cX4_init 8 = .ok (.dup, 1) := by decide +kernel
theorem dX4_init_9 : decode cX4_init 9 = .ok (.invokespecial 9, 3) := by decide +kernel
theorem dX4_init_12 : decode cX4_init 12 = .ok (.putfield 10, 3) := by decide +kernel
theorem dX4_init_15 : decode cX4_init 15 = .ok (.aload_n 0, 1) := by decide +kernel
theorem dX4_init_16 : decode cX4_init 16 = .ok (.new 16, 3) := by decide +kernel
theorem dX4_init_19 : decode cX4_init 19 = .ok (.dup, 1) := by decide +kernel
theorem dX4_init_20 : decode cX4_init 20 = .ok (.invokespecial 18, 3) := by decide +kernel
theorem dX4_init_23 : decode cX4_init 23 = .ok (.putfield 19, 3) := by decide +kernel
theorem dX4_init_26 : decode cX4_init 26 = .ok (.aload_n 0, 1) := by decide +kernel
theorem dX4_init_27 : decode cX4_init 27 = .ok (.new 23, 3) := by decide +kernel
theorem dX4_init_30 : decode cX4_init 30 = .ok (.dup, 1) := by decide +kernel
theorem dX4_init_31 : decode cX4_init 31 = .ok (.invokespecial 25, 3) := by decide +kernel
theorem dX4_init_34 : decode cX4_init 34 = .ok (.putfield 26, 3) := by decide +kernel
theorem dX4_init_37 : decode cX4_init 37 = .ok (.aload_n 0, 1) := by decide +kernel
theorem dX4_init_38 : decode cX4_init 38 = .ok (.bipush 8, 2) := by decide +kernel
theorem dX4_init_40 : decode cX4_init 40 = .ok (.newarray .int, 2) := by decide +kernel
theorem dX4_init_42 : decode cX4_init 42 = .ok (.putfield 30, 3) := by decide +kernel
theorem dX4_init_45 : decode cX4_init 45 = .ok (.aload_n 0, 1) := by decide +kernel
theorem dX4_init_46 : decode cX4_init 46 = .ok (.bipush 8, 2) := by decide +kernel
theorem dX4_init_48 : decode cX4_init 48 = .ok (.newarray .int, 2) := by decide +kernel
theorem dX4_init_50 : decode cX4_init 50 = .ok (.putfield 34, 3) := by decide +kernel
theorem dX4_init_53 : decode cX4_init 53 = .ok (.aload_n 0, 1) := by decide +kernel
theorem dX4_init_54 : decode cX4_init 54 = .ok (.bipush 8, 2) := by decide +kernel
theorem dX4_init_56 : decode cX4_init 56 = .ok (.newarray .int, 2) := by decide +kernel
theorem dX4_init_58 : decode cX4_init 58 = .ok (.putfield 37, 3) := by decide +kernel
theorem dX4_init_61 : decode cX4_init 61 = .ok (.aload_n 0, 1) := by decide +kernel
theorem dX4_init_62 : decode cX4_init 62 = .ok (.bipush 8, 2) := by decide +kernel
theorem dX4_init_64 : decode cX4_init 64 = .ok (.newarray .int, 2) := by decide +kernel
theorem dX4_init_66 : decode cX4_init 66 = .ok (.putfield 40, 3) := by decide +kernel
theorem dX4_init_69 : decode cX4_init 69 = .ok (.iconst 0, 1) := by decide +kernel
theorem dX4_init_70 : decode cX4_init 70 = .ok (.istore_n 1, 1) := by decide +kernel
theorem dX4_init_71 : decode cX4_init 71 = .ok (.iload_n 1, 1) := by decide +kernel
theorem dX4_init_72 : decode cX4_init 72 = .ok (.bipush 8, 2) := by decide +kernel
theorem dX4_init_74 : decode cX4_init 74 = .ok (.if_icmp .ge 16, 3) := by decide +kernel
theorem dX4_init_77 : decode cX4_init 77 = .ok (.aload_n 0, 1) := by decide +kernel
theorem dX4_init_78 : decode cX4_init 78 = .ok (.getfield 37, 3) := by decide +kernel
theorem dX4_init_81 : decode cX4_init 81 = .ok (.iload_n 1, 1) := by decide +kernel
theorem dX4_init_82 : decode cX4_init 82 = .ok (.iconst 1, 1) := by decide +kernel
theorem dX4_init_83 : decode cX4_init 83 = .ok (.iastore, 1) := by decide +kernel
theorem dX4_init_84 : decode cX4_init 84 = .ok (.iinc 1 1, 3) := by decide +kernel
theorem dX4_init_87 : decode cX4_init 87 = .ok (.goto (-16), 3) := by decide +kernel
theorem dX4_init_90 : decode cX4_init 90 = .ok (.aload_n 0, 1) := by decide +kernel
theorem dX4_init_91 : decode cX4_init 91 = .ok (.iconst 0, 1) := by decide +kernel
theorem dX4_init_92 : decode cX4_init 92 = .ok (.putfield 43, 3) := by decide +kernel
theorem dX4_init_95 : decode cX4_init 95 = .ok (.aload_n 0, 1) := by decide +kernel
theorem dX4_init_96 : decode cX4_init 96 = .ok (.iconst 0, 1) := by decide +kernel
theorem dX4_init_97 : decode cX4_init 97 = .ok (.putfield 47, 3) := by decide +kernel
theorem dX4_init_100 : decode cX4_init 100 = .ok (.return_, 1) := by decide +kernel
theorem dX4_count_0 : decode cX4_count 0 = .ok (.iload_n 1, 1) := by decide +kernel
theorem dX4_count_1 : decode cX4_count 1 = .ok (.tableswitch 63 0 3 #[31, 39, 47, 55], 31) := by decide +kernel
theorem dX4_count_32 : decode cX4_count 32 = .ok (.aload_n 0, 1) := by decide +kernel
theorem dX4_count_33 : decode cX4_count 33 = .ok (.getfield 10, 3) := by decide +kernel
theorem dX4_count_36 : decode cX4_count 36 = .ok (.getfield 100, 3) := by decide +kernel
theorem dX4_count_39 : decode cX4_count 39 = .ok (.ireturn, 1) := by decide +kernel
theorem dX4_count_40 : decode cX4_count 40 = .ok (.aload_n 0, 1) := by decide +kernel
theorem dX4_count_41 : decode cX4_count 41 = .ok (.getfield 19, 3) := by decide +kernel
theorem dX4_count_44 : decode cX4_count 44 = .ok (.getfield 229, 3) := by decide +kernel
theorem dX4_count_47 : decode cX4_count 47 = .ok (.ireturn, 1) := by decide +kernel
theorem dX4_count_48 : decode cX4_count 48 = .ok (.aload_n 0, 1) := by decide +kernel
theorem dX4_count_49 : decode cX4_count 49 = .ok (.getfield 26, 3) := by decide +kernel
theorem dX4_count_52 : decode cX4_count 52 = .ok (.getfield 230, 3) := by decide +kernel
theorem dX4_count_55 : decode cX4_count 55 = .ok (.ireturn, 1) := by decide +kernel
theorem dX4_count_56 : decode cX4_count 56 = .ok (.aload_n 0, 1) := by decide +kernel
theorem dX4_count_57 : decode cX4_count 57 = .ok (.getfield 19, 3) := by decide +kernel
theorem dX4_count_60 : decode cX4_count 60 = .ok (.getfield 233, 3) := by decide +kernel
theorem dX4_count_63 : decode cX4_count 63 = .ok (.ireturn, 1) := by decide +kernel
theorem dX4_count_64 : decode cX4_count 64 = .ok (.iconst (-1), 1) := by decide +kernel
theorem dX4_count_65 : decode cX4_count 65 = .ok (.ireturn, 1) := by decide +kernel
theorem dX4_lot_0 : decode cX4_lot 0 = .ok (.iload_n 1, 1) := by decide +kernel
theorem dX4_lot_1 : decode cX4_lot 1 = .ok (.iconst 0, 1) := by decide +kernel
theorem dX4_lot_2 : decode cX4_lot 2 = .ok (.bipush 9, 2) := by decide +kernel
theorem dX4_lot_4 : decode cX4_lot 4 = .ok (.invokestatic 50, 3) := by decide +kernel
theorem dX4_lot_7 : decode cX4_lot 7 = .ok (.iload_n 2, 1) := by decide +kernel
theorem dX4_lot_8 : decode cX4_lot 8 = .ok (.iconst 0, 1) := by decide +kernel
theorem dX4_lot_9 : decode cX4_lot 9 = .ok (.bipush 7, 2) := by decide +kernel
theorem dX4_lot_11 : decode cX4_lot 11 = .ok (.invokestatic 50, 3) := by decide +kernel
theorem dX4_lot_14 : decode cX4_lot 14 = .ok (.iload_n 3, 1) := by decide +kernel
theorem dX4_lot_15 : decode cX4_lot 15 = .ok (.iconst 0, 1) := by decide +kernel
theorem dX4_lot_16 : decode cX4_lot 16 = .ok (.ldc 54, 2) := by decide +kernel
theorem dX4_lot_18 : decode cX4_lot 18 = .ok (.invokestatic 50, 3) := by decide +kernel
theorem dX4_lot_21 : decode cX4_lot 21 = .ok (.iload 4, 2) := by decide +kernel
theorem dX4_lot_23 : decode cX4_lot 23 = .ok (.iconst 0, 1) := by decide +kernel
theorem dX4_lot_24 : decode cX4_lot 24 = .ok (.ldc 54, 2) := by decide +kernel
theorem dX4_lot_26 : decode cX4_lot 26 = .ok (.invokestatic 50, 3) := by decide +kernel
theorem dX4_lot_29 : decode cX4_lot 29 = .ok (.iload_n 3, 1) := by decide +kernel
theorem dX4_lot_30 : decode cX4_lot 30 = .ok (.iload 4, 2) := by decide +kernel
theorem dX4_lot_32 : decode cX4_lot 32 = .ok (.if_icmp .ge 5, 3) := by decide +kernel
theorem dX4_lot_35 : decode cX4_lot 35 = .ok (.iconst 0, 1) := by decide +kernel
theorem dX4_lot_36 : decode cX4_lot 36 = .ok (.ireturn, 1) := by decide +kernel
theorem dX4_lot_37 : decode cX4_lot 37 = .ok (.aload_n 0, 1) := by decide +kernel
theorem dX4_lot_38 : decode cX4_lot 38 = .ok (.getfield 10, 3) := by decide +kernel
theorem dX4_lot_41 : decode cX4_lot 41 = .ok (.invokevirtual 55, 3) := by decide +kernel
theorem dX4_lot_44 : decode cX4_lot 44 = .ok (.ifCond .eq 18, 3) := by decide +kernel
theorem dX4_lot_47 : decode cX4_lot 47 = .ok (.aload_n 0, 1) := by decide +kernel
theorem dX4_lot_48 : decode cX4_lot 48 = .ok (.getfield 26, 3) := by decide +kernel
theorem dX4_lot_51 : decode cX4_lot 51 = .ok (.iconst 1, 1) := by decide +kernel
theorem dX4_lot_52 : decode cX4_lot 52 = .ok (.invokevirtual 59, 3) := by decide +kernel
theorem dX4_lot_55 : decode cX4_lot 55 = .ok (.ifCond .eq 7, 3) := by decide +kernel
theorem dX4_lot_58 : decode cX4_lot 58 = .ok (.iconst 1, 1) := by decide +kernel
theorem dX4_lot_59 : decode cX4_lot 59 = .ok (.goto 4, 3) := by decide +kernel
theorem dX4_lot_62 : decode cX4_lot 62 = .ok (.iconst 0, 1) := by decide +kernel
theorem dX4_lot_63 : decode cX4_lot 63 = .ok (.invokestatic 63, 3) := by decide +kernel
theorem dX4_lot_66 : decode cX4_lot 66 = .ok (.aload_n 0, 1) := by decide +kernel
theorem dX4_lot_67 : decode cX4_lot 67 = .ok (.getfield 10, 3) := by decide +kernel
theorem dX4_lot_70 : decode cX4_lot 70 = .ok (.iload_n 1, 1) := by decide +kernel
theorem dX4_lot_71 : decode cX4_lot 71 = .ok (.iload_n 2, 1) := by decide +kernel
theorem dX4_lot_72 : decode cX4_lot 72 = .ok (.iload_n 3, 1) := by decide +kernel
theorem dX4_lot_73 : decode cX4_lot 73 = .ok (.iload 4, 2) := by decide +kernel
theorem dX4_lot_75 : decode cX4_lot 75 = .ok (.invokevirtual 67, 3) := by decide +kernel
theorem dX4_lot_78 : decode cX4_lot 78 = .ok (.istore 5, 2) := by decide +kernel
theorem dX4_lot_80 : decode cX4_lot 80 = .ok (.aload_n 0, 1) := by decide +kernel
theorem dX4_lot_81 : decode cX4_lot 81 = .ok (.getfield 26, 3) := by decide +kernel
theorem dX4_lot_84 : decode cX4_lot 84 = .ok (.iload 5, 2) := by decide +kernel
theorem dX4_lot_86 : decode cX4_lot 86 = .ok (.iconst 1, 1) := by decide +kernel
theorem dX4_lot_87 : decode cX4_lot 87 = .ok (.iconst 0, 1) := by decide +kernel
theorem dX4_lot_88 : decode cX4_lot 88 = .ok (.invokevirtual 71, 3) := by decide +kernel
theorem dX4_lot_91 : decode cX4_lot 91 = .ok (.iload 5, 2) := by decide +kernel
theorem dX4_lot_93 : decode cX4_lot 93 = .ok (.ireturn, 1) := by decide +kernel
theorem dX4_requireRange_0 : decode cX4_requireRange 0 = .ok (.iload_n 0, 1) := by decide +kernel
theorem dX4_requireRange_1 : decode cX4_requireRange 1 = .ok (.iload_n 1, 1) := by decide +kernel
theorem dX4_requireRange_2 : decode cX4_requireRange 2 = .ok (.if_icmp .lt 8, 3) := by decide +kernel
theorem dX4_requireRange_5 : decode cX4_requireRange 5 = .ok (.iload_n 0, 1) := by decide +kernel
theorem dX4_requireRange_6 : decode cX4_requireRange 6 = .ok (.iload_n 2, 1) := by decide +kernel
theorem dX4_requireRange_7 : decode cX4_requireRange 7 = .ok (.if_icmp .le 13, 3) := by decide +kernel
theorem dX4_requireRange_10 : decode cX4_requireRange 10 = .ok (.new 170, 3) := by decide +kernel
theorem dX4_requireRange_13 : decode cX4_requireRange 13 = .ok (.dup, 1) := by decide +kernel
theorem dX4_requireRange_14 : decode cX4_requireRange 14 = .ok (.ldc 246, 2) := by decide +kernel
theorem dX4_requireRange_16 : decode cX4_requireRange 16 = .ok (.invokespecial 174, 3) := by decide +kernel
theorem dX4_requireRange_19 : decode cX4_requireRange 19 = .ok (.athrow, 1) := by decide +kernel
theorem dX4_requireRange_20 : decode cX4_requireRange 20 = .ok (.return_, 1) := by decide +kernel
theorem dX4_requireRoom_0 : decode cX4_requireRoom 0 = .ok (.iload_n 0, 1) := by decide +kernel
theorem dX4_requireRoom_1 : decode cX4_requireRoom 1 = .ok (.ifCond .ne 13, 3) := by decide +kernel
theorem dX4_requireRoom_4 : decode cX4_requireRoom 4 = .ok (.new 252, 3) := by decide +kernel
theorem dX4_requireRoom_7 : decode cX4_requireRoom 7 = .ok (.dup, 1) := by decide +kernel
theorem dX4_requireRoom_8 : decode cX4_requireRoom 8 = .ok (.ldc 254, 2) := by decide +kernel
theorem dX4_requireRoom_10 : decode cX4_requireRoom 10 = .ok (.invokespecial 256, 3) := by decide +kernel
theorem dX4_requireRoom_13 : decode cX4_requireRoom 13 = .ok (.athrow, 1) := by decide +kernel
theorem dX4_requireRoom_14 : decode cX4_requireRoom 14 = .ok (.return_, 1) := by decide +kernel
theorem dX4_rule_0 : decode cX4_rule 0 = .ok (.iload_n 1, 1) := by decide +kernel
theorem dX4_rule_1 : decode cX4_rule 1 = .ok (.iconst 0, 1) := by decide +kernel
theorem dX4_rule_2 : decode cX4_rule 2 = .ok (.bipush 7, 2) := by decide +kernel
theorem dX4_rule_4 : decode cX4_rule 4 = .ok (.invokestatic 50, 3) := by decide +kernel
theorem dX4_rule_7 : decode cX4_rule 7 = .ok (.iload_n 2, 1) := by decide +kernel
theorem dX4_rule_8 : decode cX4_rule 8 = .ok (.iconst 0, 1) := by decide +kernel
theorem dX4_rule_9 : decode cX4_rule 9 = .ok (.iconst 1, 1) := by decide +kernel
theorem dX4_rule_10 : decode cX4_rule 10 = .ok (.invokestatic 50, 3) := by decide +kernel
theorem dX4_rule_13 : decode cX4_rule 13 = .ok (.iload_n 2, 1) := by decide +kernel
theorem dX4_rule_14 : decode cX4_rule 14 = .ok (.ifCond .ne 19, 3) := by decide +kernel
theorem dX4_rule_17 : decode cX4_rule 17 = .ok (.iload_n 3, 1) := by decide +kernel
theorem dX4_rule_18 : decode cX4_rule 18 = .ok (.iconst 0, 1) := by decide +kernel
theorem dX4_rule_19 : decode cX4_rule 19 = .ok (.iconst 2, 1) := by decide +kernel
theorem dX4_rule_20 : decode cX4_rule 20 = .ok (.invokestatic 50, 3) := by decide +kernel
theorem dX4_rule_23 : decode cX4_rule 23 = .ok (.aload_n 0, 1) := by decide +kernel
theorem dX4_rule_24 : decode cX4_rule 24 = .ok (.getfield 30, 3) := by decide +kernel
theorem dX4_rule_27 : decode cX4_rule 27 = .ok (.iload_n 1, 1) := by decide +kernel
theorem dX4_rule_28 : decode cX4_rule 28 = .ok (.iload_n 3, 1) := by decide +kernel
theorem dX4_rule_29 : decode cX4_rule 29 = .ok (.iastore, 1) := by decide +kernel
theorem dX4_rule_30 : decode cX4_rule 30 = .ok (.goto 18, 3) := by decide +kernel
theorem dX4_rule_33 : decode cX4_rule 33 = .ok (.iload_n 3, 1) := by decide +kernel
theorem dX4_rule_34 : decode cX4_rule 34 = .ok (.iconst 0, 1) := by decide +kernel
theorem dX4_rule_35 : decode cX4_rule 35 = .ok (.sipush 1000, 3) := by decide +kernel
theorem dX4_rule_38 : decode cX4_rule 38 = .ok (.invokestatic 50, 3) := by decide +kernel
theorem dX4_rule_41 : decode cX4_rule 41 = .ok (.aload_n 0, 1) := by decide +kernel
theorem dX4_rule_42 : decode cX4_rule 42 = .ok (.getfield 34, 3) := by decide +kernel
theorem dX4_rule_45 : decode cX4_rule 45 = .ok (.iload_n 1, 1) := by decide +kernel
theorem dX4_rule_46 : decode cX4_rule 46 = .ok (.iload_n 3, 1) := by decide +kernel
theorem dX4_rule_47 : decode cX4_rule 47 = .ok (.iastore, 1) := by decide +kernel
theorem dX4_rule_48 : decode cX4_rule 48 = .ok (.return_, 1) := by decide +kernel
theorem dX4_wants_0 : decode cX4_wants 0 = .ok (.iload_n 1, 1) := by decide +kernel
theorem dX4_wants_1 : decode cX4_wants 1 = .ok (.iconst 0, 1) := by decide +kernel
theorem dX4_wants_2 : decode cX4_wants 2 = .ok (.bipush 7, 2) := by decide +kernel
theorem dX4_wants_4 : decode cX4_wants 4 = .ok (.invokestatic 50, 3) := by decide +kernel
theorem dX4_wants_7 : decode cX4_wants 7 = .ok (.iload_n 2, 1) := by decide +kernel
theorem dX4_wants_8 : decode cX4_wants 8 = .ok (.iconst 1, 1) := by decide +kernel
theorem dX4_wants_9 : decode cX4_wants 9 = .ok (.sipush 1000, 3) := by decide +kernel
theorem dX4_wants_12 : decode cX4_wants 12 = .ok (.invokestatic 50, 3) := by decide +kernel
theorem dX4_wants_15 : decode cX4_wants 15 = .ok (.aload_n 0, 1) := by decide +kernel
theorem dX4_wants_16 : decode cX4_wants 16 = .ok (.getfield 37, 3) := by decide +kernel
theorem dX4_wants_19 : decode cX4_wants 19 = .ok (.iload_n 1, 1) := by decide +kernel
theorem dX4_wants_20 : decode cX4_wants 20 = .ok (.iload_n 2, 1) := by decide +kernel
theorem dX4_wants_21 : decode cX4_wants 21 = .ok (.iastore, 1) := by decide +kernel
theorem dX4_wants_22 : decode cX4_wants 22 = .ok (.return_, 1) := by decide +kernel
theorem dX4_right_0 : decode cX4_right 0 = .ok (.iload_n 1, 1) := by decide +kernel
theorem dX4_right_1 : decode cX4_right 1 = .ok (.iconst 0, 1) := by decide +kernel
theorem dX4_right_2 : decode cX4_right 2 = .ok (.bipush 7, 2) := by decide +kernel
theorem dX4_right_4 : decode cX4_right 4 = .ok (.invokestatic 50, 3) := by decide +kernel
theorem dX4_right_7 : decode cX4_right 7 = .ok (.iload_n 2, 1) := by decide +kernel
theorem dX4_right_8 : decode cX4_right 8 = .ok (.iconst 1, 1) := by decide +kernel
theorem dX4_right_9 : decode cX4_right 9 = .ok (.bipush 9, 2) := by decide +kernel
theorem dX4_right_11 : decode cX4_right 11 = .ok (.invokestatic 50, 3) := by decide +kernel
theorem dX4_right_14 : decode cX4_right 14 = .ok (.iload_n 3, 1) := by decide +kernel
theorem dX4_right_15 : decode cX4_right 15 = .ok (.ifCond .eq 18, 3) := by decide +kernel
theorem dX4_right_18 : decode cX4_right 18 = .ok (.aload_n 0, 1) := by decide +kernel
theorem dX4_right_19 : decode cX4_right 19 = .ok (.getfield 40, 3) := by decide +kernel
theorem dX4_right_22 : decode cX4_right 22 = .ok (.iload_n 1, 1) := by decide +kernel
theorem dX4_right_23 : decode cX4_right 23 = .ok (.dup2, 1) := by decide +kernel
theorem dX4_right_24 : decode cX4_right 24 = .ok (.iaload, 1) := by decide +kernel
theorem dX4_right_25 : decode cX4_right 25 = .ok (.iconst 1, 1) := by decide +kernel
theorem dX4_right_26 : decode cX4_right 26 = .ok (.iload_n 2, 1) := by decide +kernel
theorem dX4_right_27 : decode cX4_right 27 = .ok (.ishl, 1) := by decide +kernel
theorem dX4_right_28 : decode cX4_right 28 = .ok (.ior, 1) := by decide +kernel
theorem dX4_right_29 : decode cX4_right 29 = .ok (.iastore, 1) := by decide +kernel
theorem dX4_right_30 : decode cX4_right 30 = .ok (.goto 17, 3) := by decide +kernel
theorem dX4_right_33 : decode cX4_right 33 = .ok (.aload_n 0, 1) := by decide +kernel
theorem dX4_right_34 : decode cX4_right 34 = .ok (.getfield 40, 3) := by decide +kernel
theorem dX4_right_37 : decode cX4_right 37 = .ok (.iload_n 1, 1) := by decide +kernel
theorem dX4_right_38 : decode cX4_right 38 = .ok (.dup2, 1) := by decide +kernel
theorem dX4_right_39 : decode cX4_right 39 = .ok (.iaload, 1) := by decide +kernel
theorem dX4_right_40 : decode cX4_right 40 = .ok (.iconst 1, 1) := by decide +kernel
theorem dX4_right_41 : decode cX4_right 41 = .ok (.iload_n 2, 1) := by decide +kernel
theorem dX4_right_42 : decode cX4_right 42 = .ok (.ishl, 1) := by decide +kernel
theorem dX4_right_43 : decode cX4_right 43 = .ok (.iconst (-1), 1) := by decide +kernel
theorem dX4_right_44 : decode cX4_right 44 = .ok (.ixor, 1) := by decide +kernel
theorem dX4_right_45 : decode cX4_right 45 = .ok (.iand, 1) := by decide +kernel
theorem dX4_right_46 : decode cX4_right 46 = .ok (.iastore, 1) := by decide +kernel
theorem dX4_right_47 : decode cX4_right 47 = .ok (.return_, 1) := by decide +kernel
theorem dX4_block_0 : decode cX4_block 0 = .ok (.aload_n 0, 1) := by decide +kernel
theorem dX4_block_1 : decode cX4_block 1 = .ok (.iload_n 1, 1) := by decide +kernel
theorem dX4_block_2 : decode cX4_block 2 = .ok (.invokevirtual 74, 3) := by decide +kernel
theorem dX4_block_5 : decode cX4_block 5 = .ok (.iload_n 2, 1) := by decide +kernel
theorem dX4_block_6 : decode cX4_block 6 = .ok (.iconst 1, 1) := by decide +kernel
theorem dX4_block_7 : decode cX4_block 7 = .ok (.bipush 9, 2) := by decide +kernel
theorem dX4_block_9 : decode cX4_block 9 = .ok (.invokestatic 50, 3) := by decide +kernel
theorem dX4_block_12 : decode cX4_block 12 = .ok (.iconst 1, 1) := by decide +kernel
theorem dX4_block_13 : decode cX4_block 13 = .ok (.iload_n 2, 1) := by decide +kernel
theorem dX4_block_14 : decode cX4_block 14 = .ok (.ishl, 1) := by decide +kernel
theorem dX4_block_15 : decode cX4_block 15 = .ok (.istore_n 3, 1) := by decide +kernel
theorem dX4_block_16 : decode cX4_block 16 = .ok (.aload_n 0, 1) := by decide +kernel
theorem dX4_block_17 : decode cX4_block 17 = .ok (.getfield 10, 3) := by decide +kernel
theorem dX4_block_20 : decode cX4_block 20 = .ok (.getfield 78, 3) := by decide +kernel
theorem dX4_block_23 : decode cX4_block 23 = .ok (.iload_n 1, 1) := by decide +kernel
theorem dX4_block_24 : decode cX4_block 24 = .ok (.baload, 1) := by decide +kernel
theorem dX4_block_25 : decode cX4_block 25 = .ok (.ifCond .eq 21, 3) := by decide +kernel
theorem dX4_block_28 : decode cX4_block 28 = .ok (.aload_n 0, 1) := by decide +kernel
theorem dX4_block_29 : decode cX4_block 29 = .ok (.getfield 10, 3) := by decide +kernel
theorem dX4_block_32 : decode cX4_block 32 = .ok (.getfield 82, 3) := by decide +kernel
theorem dX4_block_35 : decode cX4_block 35 = .ok (.iload_n 1, 1) := by decide +kernel
theorem dX4_block_36 : decode cX4_block 36 = .ok (.iaload, 1) := by decide +kernel
theorem dX4_block_37 : decode cX4_block 37 = .ok (.iload_n 3, 1) := by decide +kernel
theorem dX4_block_38 : decode cX4_block 38 = .ok (.iand, 1) := by decide +kernel
theorem dX4_block_39 : decode cX4_block 39 = .ok (.ifCond .ne 7, 3) := by decide +kernel
theorem dX4_block_42 : decode cX4_block 42 = .ok (.iconst 1, 1) := by decide +kernel
theorem dX4_block_43 : decode cX4_block 43 = .ok (.goto 4, 3) := by decide +kernel
theorem dX4_block_46 : decode cX4_block 46 = .ok (.iconst 0, 1) := by decide +kernel
theorem dX4_block_47 : decode cX4_block 47 = .ok (.invokestatic 85, 3) := by decide +kernel
theorem dX4_block_50 : decode cX4_block 50 = .ok (.aload_n 0, 1) := by decide +kernel
theorem dX4_block_51 : decode cX4_block 51 = .ok (.getfield 26, 3) := by decide +kernel
theorem dX4_block_54 : decode cX4_block 54 = .ok (.iconst 1, 1) := by decide +kernel
theorem dX4_block_55 : decode cX4_block 55 = .ok (.invokevirtual 59, 3) := by decide +kernel
theorem dX4_block_58 : decode cX4_block 58 = .ok (.invokestatic 63, 3) := by decide +kernel
theorem dX4_block_61 : decode cX4_block 61 = .ok (.aload_n 0, 1) := by decide +kernel
theorem dX4_block_62 : decode cX4_block 62 = .ok (.getfield 10, 3) := by decide +kernel
theorem dX4_block_65 : decode cX4_block 65 = .ok (.getfield 82, 3) := by decide +kernel
theorem dX4_block_68 : decode cX4_block 68 = .ok (.iload_n 1, 1) := by decide +kernel
theorem dX4_block_69 : decode cX4_block 69 = .ok (.dup2, 1) := by decide +kernel
theorem dX4_block_70 : decode cX4_block 70 = .ok (.iaload, 1) := by decide +kernel
theorem dX4_block_71 : decode cX4_block 71 = .ok (.iload_n 3, 1) := by decide +kernel
theorem dX4_block_72 : decode cX4_block 72 = .ok (.ior, 1) := by decide +kernel
theorem dX4_block_73 : decode cX4_block 73 = .ok (.iastore, 1) := by decide +kernel
theorem dX4_block_74 : decode cX4_block 74 = .ok (.aload_n 0, 1) := by decide +kernel
theorem dX4_block_75 : decode cX4_block 75 = .ok (.getfield 26, 3) := by decide +kernel
theorem dX4_block_78 : decode cX4_block 78 = .ok (.iload_n 1, 1) := by decide +kernel
theorem dX4_block_79 : decode cX4_block 79 = .ok (.bipush 6, 2) := by decide +kernel
theorem dX4_block_81 : decode cX4_block 81 = .ok (.iload_n 2, 1) := by decide +kernel
theorem dX4_block_82 : decode cX4_block 82 = .ok (.invokevirtual 71, 3) := by decide +kernel
theorem dX4_block_85 : decode cX4_block 85 = .ok (.aload_n 0, 1) := by decide +kernel
theorem dX4_block_86 : decode cX4_block 86 = .ok (.getfield 10, 3) := by decide +kernel
theorem dX4_block_89 : decode cX4_block 89 = .ok (.getfield 82, 3) := by decide +kernel
theorem dX4_block_92 : decode cX4_block 92 = .ok (.iload_n 1, 1) := by decide +kernel
theorem dX4_block_93 : decode cX4_block 93 = .ok (.iaload, 1) := by decide +kernel
theorem dX4_block_94 : decode cX4_block 94 = .ok (.invokestatic 88, 3) := by decide +kernel
theorem dX4_block_97 : decode cX4_block 97 = .ok (.ireturn, 1) := by decide +kernel
theorem dX4_requireLot_0 : decode cX4_requireLot 0 = .ok (.iload_n 1, 1) := by decide +kernel
theorem dX4_requireLot_1 : decode cX4_requireLot 1 = .ok (.iconst 1, 1) := by decide +kernel
theorem dX4_requireLot_2 : decode cX4_requireLot 2 = .ok (.if_icmp .lt 14, 3) := by decide +kernel
theorem dX4_requireLot_5 : decode cX4_requireLot 5 = .ok (.iload_n 1, 1) := by decide +kernel
theorem dX4_requireLot_6 : decode cX4_requireLot 6 = .ok (.aload_n 0, 1) := by decide +kernel
theorem dX4_requireLot_7 : decode cX4_requireLot 7 = .ok (.getfield 10, 3) := by decide +kernel
theorem dX4_requireLot_10 : decode cX4_requireLot 10 = .ok (.getfield 100, 3) := by decide +kernel
theorem dX4_requireLot_13 : decode cX4_requireLot 13 = .ok (.if_icmp .le 13, 3) := by decide +kernel
theorem dX4_requireLot_16 : decode cX4_requireLot 16 = .ok (.new 178, 3) := by decide +kernel
theorem dX4_requireLot_19 : decode cX4_requireLot 19 = .ok (.dup, 1) := by decide +kernel
theorem dX4_requireLot_20 : decode cX4_requireLot 20 = .ok (.ldc 242, 2) := by decide +kernel
theorem dX4_requireLot_22 : decode cX4_requireLot 22 = .ok (.invokespecial 182, 3) := by decide +kernel
theorem dX4_requireLot_25 : decode cX4_requireLot 25 = .ok (.athrow, 1) := by decide +kernel
theorem dX4_requireLot_26 : decode cX4_requireLot 26 = .ok (.return_, 1) := by decide +kernel
theorem dX4_requireState_0 : decode cX4_requireState 0 = .ok (.iload_n 0, 1) := by decide +kernel
theorem dX4_requireState_1 : decode cX4_requireState 1 = .ok (.ifCond .ne 13, 3) := by decide +kernel
theorem dX4_requireState_4 : decode cX4_requireState 4 = .ok (.new 146, 3) := by decide +kernel
theorem dX4_requireState_7 : decode cX4_requireState 7 = .ok (.dup, 1) := by decide +kernel
theorem dX4_requireState_8 : decode cX4_requireState 8 = .ok (.ldc 250, 2) := by decide +kernel
theorem dX4_requireState_10 : decode cX4_requireState 10 = .ok (.invokespecial 150, 3) := by decide +kernel
theorem dX4_requireState_13 : decode cX4_requireState 13 = .ok (.athrow, 1) := by decide +kernel
theorem dX4_requireState_14 : decode cX4_requireState 14 = .ok (.return_, 1) := by decide +kernel
theorem dX4_release_0 : decode cX4_release 0 = .ok (.aload_n 0, 1) := by decide +kernel
theorem dX4_release_1 : decode cX4_release 1 = .ok (.iload_n 1, 1) := by decide +kernel
theorem dX4_release_2 : decode cX4_release 2 = .ok (.invokevirtual 74, 3) := by decide +kernel
theorem dX4_release_5 : decode cX4_release 5 = .ok (.iload_n 2, 1) := by decide +kernel
theorem dX4_release_6 : decode cX4_release 6 = .ok (.iconst 0, 1) := by decide +kernel
theorem dX4_release_7 : decode cX4_release 7 = .ok (.bipush 7, 2) := by decide +kernel
theorem dX4_release_9 : decode cX4_release 9 = .ok (.invokestatic 50, 3) := by decide +kernel
theorem dX4_release_12 : decode cX4_release 12 = .ok (.aload_n 0, 1) := by decide +kernel
theorem dX4_release_13 : decode cX4_release 13 = .ok (.getfield 10, 3) := by decide +kernel
theorem dX4_release_16 : decode cX4_release 16 = .ok (.getfield 82, 3) := by decide +kernel
theorem dX4_release_19 : decode cX4_release 19 = .ok (.iload_n 1, 1) := by decide +kernel
theorem dX4_release_20 : decode cX4_release 20 = .ok (.iaload, 1) := by decide +kernel
theorem dX4_release_21 : decode cX4_release 21 = .ok (.aload_n 0, 1) := by decide +kernel
theorem dX4_release_22 : decode cX4_release 22 = .ok (.getfield 40, 3) := by decide +kernel
theorem dX4_release_25 : decode cX4_release 25 = .ok (.iload_n 2, 1) := by decide +kernel
theorem dX4_release_26 : decode cX4_release 26 = .ok (.iaload, 1) := by decide +kernel
theorem dX4_release_27 : decode cX4_release 27 = .ok (.iand, 1) := by decide +kernel
theorem dX4_release_28 : decode cX4_release 28 = .ok (.istore_n 3, 1) := by decide +kernel
theorem dX4_release_29 : decode cX4_release 29 = .ok (.aload_n 0, 1) := by decide +kernel
theorem dX4_release_30 : decode cX4_release 30 = .ok (.getfield 10, 3) := by decide +kernel
theorem dX4_release_33 : decode cX4_release 33 = .ok (.getfield 78, 3) := by decide +kernel
theorem dX4_release_36 : decode cX4_release 36 = .ok (.iload_n 1, 1) := by decide +kernel
theorem dX4_release_37 : decode cX4_release 37 = .ok (.baload, 1) := by decide +kernel
theorem dX4_release_38 : decode cX4_release 38 = .ok (.ifCond .eq 11, 3) := by decide +kernel
theorem dX4_release_41 : decode cX4_release 41 = .ok (.iload_n 3, 1) := by decide +kernel
theorem dX4_release_42 : decode cX4_release 42 = .ok (.ifCond .eq 7, 3) := by decide +kernel
theorem dX4_release_45 : decode cX4_release 45 = .ok (.iconst 1, 1) := by decide +kernel
theorem dX4_release_46 : decode cX4_release 46 = .ok (.goto 4, 3) := by decide +kernel
theorem dX4_release_49 : decode cX4_release 49 = .ok (.iconst 0, 1) := by decide +kernel
theorem dX4_release_50 : decode cX4_release 50 = .ok (.invokestatic 85, 3) := by decide +kernel
theorem dX4_release_53 : decode cX4_release 53 = .ok (.aload_n 0, 1) := by decide +kernel
theorem dX4_release_54 : decode cX4_release 54 = .ok (.getfield 26, 3) := by decide +kernel
theorem dX4_release_57 : decode cX4_release 57 = .ok (.iconst 1, 1) := by decide +kernel
theorem dX4_release_58 : decode cX4_release 58 = .ok (.invokevirtual 59, 3) := by decide +kernel
theorem dX4_release_61 : decode cX4_release 61 = .ok (.invokestatic 63, 3) := by decide +kernel
theorem dX4_release_64 : decode cX4_release 64 = .ok (.aload_n 0, 1) := by decide +kernel
theorem dX4_release_65 : decode cX4_release 65 = .ok (.getfield 10, 3) := by decide +kernel
theorem dX4_release_68 : decode cX4_release 68 = .ok (.getfield 82, 3) := by decide +kernel
theorem dX4_release_71 : decode cX4_release 71 = .ok (.iload_n 1, 1) := by decide +kernel
theorem dX4_release_72 : decode cX4_release 72 = .ok (.dup2, 1) := by decide +kernel
theorem dX4_release_73 : decode cX4_release 73 = .ok (.iaload, 1) := by decide +kernel
theorem dX4_release_74 : decode cX4_release 74 = .ok (.iload_n 3, 1) := by decide +kernel
theorem dX4_release_75 : decode cX4_release 75 = .ok (.iconst (-1), 1) := by decide +kernel
theorem dX4_release_76 : decode cX4_release 76 = .ok (.ixor, 1) := by decide +kernel
theorem dX4_release_77 : decode cX4_release 77 = .ok (.iand, 1) := by decide +kernel
theorem dX4_release_78 : decode cX4_release 78 = .ok (.iastore, 1) := by decide +kernel
theorem dX4_release_79 : decode cX4_release 79 = .ok (.aload_n 0, 1) := by decide +kernel
theorem dX4_release_80 : decode cX4_release 80 = .ok (.getfield 26, 3) := by decide +kernel
theorem dX4_release_83 : decode cX4_release 83 = .ok (.iload_n 1, 1) := by decide +kernel
theorem dX4_release_84 : decode cX4_release 84 = .ok (.bipush 7, 2) := by decide +kernel
theorem dX4_release_86 : decode cX4_release 86 = .ok (.iload_n 2, 1) := by decide +kernel
theorem dX4_release_87 : decode cX4_release 87 = .ok (.invokevirtual 71, 3) := by decide +kernel
theorem dX4_release_90 : decode cX4_release 90 = .ok (.iload_n 3, 1) := by decide +kernel
theorem dX4_release_91 : decode cX4_release 91 = .ok (.invokestatic 88, 3) := by decide +kernel
theorem dX4_release_94 : decode cX4_release 94 = .ok (.ireturn, 1) := by decide +kernel
theorem dX4_quarantine_0 : decode cX4_quarantine 0 = .ok (.aload_n 0, 1) := by decide +kernel
theorem dX4_quarantine_1 : decode cX4_quarantine 1 = .ok (.iload_n 1, 1) := by decide +kernel
theorem dX4_quarantine_2 : decode cX4_quarantine 2 = .ok (.invokevirtual 74, 3) := by decide +kernel
theorem dX4_quarantine_5 : decode cX4_quarantine 5 = .ok (.aload_n 0, 1) := by decide +kernel
theorem dX4_quarantine_6 : decode cX4_quarantine 6 = .ok (.getfield 10, 3) := by decide +kernel
theorem dX4_quarantine_9 : decode cX4_quarantine 9 = .ok (.getfield 78, 3) := by decide +kernel
theorem dX4_quarantine_12 : decode cX4_quarantine 12 = .ok (.iload_n 1, 1) := by decide +kernel
theorem dX4_quarantine_13 : decode cX4_quarantine 13 = .ok (.baload, 1) := by decide +kernel
theorem dX4_quarantine_14 : decode cX4_quarantine 14 = .ok (.ifCond .eq 20, 3) := by decide +kernel
theorem dX4_quarantine_17 : decode cX4_quarantine 17 = .ok (.aload_n 0, 1) := by decide +kernel
theorem dX4_quarantine_18 : decode cX4_quarantine 18 = .ok (.getfield 10, 3) := by decide +kernel
theorem dX4_quarantine_21 : decode cX4_quarantine 21 = .ok (.getfield 94, 3) := by decide +kernel
theorem dX4_quarantine_24 : decode cX4_quarantine 24 = .ok (.iload_n 1, 1) := by decide +kernel
theorem dX4_quarantine_25 : decode cX4_quarantine 25 = .ok (.baload, 1) := by decide +kernel
theorem dX4_quarantine_26 : decode cX4_quarantine 26 = .ok (.iload_n 2, 1) := by decide +kernel
theorem dX4_quarantine_27 : decode cX4_quarantine 27 = .ok (.if_icmp .eq 7, 3) := by decide +kernel
theorem dX4_quarantine_30 : decode cX4_quarantine 30 = .ok (.iconst 1, 1) := by decide +kernel
theorem dX4_quarantine_31 : decode cX4_quarantine 31 = .ok (.goto 4, 3) := by decide +kernel
theorem dX4_quarantine_34 : decode cX4_quarantine 34 = .ok (.iconst 0, 1) := by decide +kernel
theorem dX4_quarantine_35 : decode cX4_quarantine 35 = .ok (.invokestatic 85, 3) := by decide +kernel
theorem dX4_quarantine_38 : decode cX4_quarantine 38 = .ok (.aload_n 0, 1) := by decide +kernel
theorem dX4_quarantine_39 : decode cX4_quarantine 39 = .ok (.getfield 26, 3) := by decide +kernel
theorem dX4_quarantine_42 : decode cX4_quarantine 42 = .ok (.iconst 1, 1) := by decide +kernel
theorem dX4_quarantine_43 : decode cX4_quarantine 43 = .ok (.invokevirtual 59, 3) := by decide +kernel
theorem dX4_quarantine_46 : decode cX4_quarantine 46 = .ok (.invokestatic 63, 3) := by decide +kernel
theorem dX4_quarantine_49 : decode cX4_quarantine 49 = .ok (.aload_n 0, 1) := by decide +kernel
theorem dX4_quarantine_50 : decode cX4_quarantine 50 = .ok (.getfield 10, 3) := by decide +kernel
theorem dX4_quarantine_53 : decode cX4_quarantine 53 = .ok (.getfield 94, 3) := by decide +kernel
theorem dX4_quarantine_56 : decode cX4_quarantine 56 = .ok (.iload_n 1, 1) := by decide +kernel
theorem dX4_quarantine_57 : decode cX4_quarantine 57 = .ok (.iload_n 2, 1) := by decide +kernel
theorem dX4_quarantine_58 : decode cX4_quarantine 58 = .ok (.bastore, 1) := by decide +kernel
theorem dX4_quarantine_59 : decode cX4_quarantine 59 = .ok (.aload_n 0, 1) := by decide +kernel
theorem dX4_quarantine_60 : decode cX4_quarantine 60 = .ok (.getfield 26, 3) := by decide +kernel
theorem dX4_quarantine_63 : decode cX4_quarantine 63 = .ok (.iload_n 1, 1) := by decide +kernel
theorem dX4_quarantine_64 : decode cX4_quarantine 64 = .ok (.iload_n 2, 1) := by decide +kernel
theorem dX4_quarantine_65 : decode cX4_quarantine 65 = .ok (.ifCond .eq 8, 3) := by decide +kernel
theorem dX4_quarantine_68 : decode cX4_quarantine 68 = .ok (.bipush 8, 2) := by decide +kernel
theorem dX4_quarantine_70 : decode cX4_quarantine 70 = .ok (.goto 5, 3) := by decide +kernel
theorem dX4_quarantine_73 : decode cX4_quarantine 73 = .ok (.bipush 9, 2) := by decide +kernel
theorem dX4_quarantine_75 : decode cX4_quarantine 75 = .ok (.iconst 0, 1) := by decide +kernel
theorem dX4_quarantine_76 : decode cX4_quarantine 76 = .ok (.invokevirtual 71, 3) := by decide +kernel
theorem dX4_quarantine_79 : decode cX4_quarantine 79 = .ok (.return_, 1) := by decide +kernel
theorem dX4_order_0 : decode cX4_order 0 = .ok (.iload_n 1, 1) := by decide +kernel
theorem dX4_order_1 : decode cX4_order 1 = .ok (.iconst 0, 1) := by decide +kernel
theorem dX4_order_2 : decode cX4_order 2 = .ok (.bipush 9, 2) := by decide +kernel
theorem dX4_order_4 : decode cX4_order 4 = .ok (.invokestatic 50, 3) := by decide +kernel
theorem dX4_order_7 : decode cX4_order 7 = .ok (.iload_n 2, 1) := by decide +kernel
theorem dX4_order_8 : decode cX4_order 8 = .ok (.iconst 0, 1) := by decide +kernel
theorem dX4_order_9 : decode cX4_order 9 = .ok (.bipush 7, 2) := by decide +kernel
theorem dX4_order_11 : decode cX4_order 11 = .ok (.invokestatic 50, 3) := by decide +kernel
theorem dX4_order_14 : decode cX4_order 14 = .ok (.iload_n 3, 1) := by decide +kernel
theorem dX4_order_15 : decode cX4_order 15 = .ok (.invokestatic 97, 3) := by decide +kernel
theorem dX4_order_18 : decode cX4_order 18 = .ok (.iconst 1, 1) := by decide +kernel
theorem dX4_order_19 : decode cX4_order 19 = .ok (.istore 4, 2) := by decide +kernel
theorem dX4_order_21 : decode cX4_order 21 = .ok (.iload 4, 2) := by decide +kernel
theorem dX4_order_23 : decode cX4_order 23 = .ok (.aload_n 0, 1) := by decide +kernel
theorem dX4_order_24 : decode cX4_order 24 = .ok (.getfield 10, 3) := by decide +kernel
theorem dX4_order_27 : decode cX4_order 27 = .ok (.getfield 100, 3) := by decide +kernel
theorem dX4_order_30 : decode cX4_order 30 = .ok (.if_icmp .gt 45, 3) := by decide +kernel
theorem dX4_order_33 : decode cX4_order 33 = .ok (.aload_n 0, 1) := by decide +kernel
theorem dX4_order_34 : decode cX4_order 34 = .ok (.getfield 10, 3) := by decide +kernel
theorem dX4_order_37 : decode cX4_order 37 = .ok (.iload 4, 2) := by decide +kernel
theorem dX4_order_39 : decode cX4_order 39 = .ok (.iload_n 1, 1) := by decide +kernel
theorem dX4_order_40 : decode cX4_order 40 = .ok (.iload_n 2, 1) := by decide +kernel
theorem dX4_order_41 : decode cX4_order 41 = .ok (.invokevirtual 103, 3) := by decide +kernel
theorem dX4_order_44 : decode cX4_order 44 = .ok (.ifCond .eq 25, 3) := by decide +kernel
theorem dX4_order_47 : decode cX4_order 47 = .ok (.aload_n 0, 1) := by decide +kernel
theorem dX4_order_48 : decode cX4_order 48 = .ok (.getfield 10, 3) := by decide +kernel
theorem dX4_order_51 : decode cX4_order 51 = .ok (.iload 4, 2) := by decide +kernel
theorem dX4_order_53 : decode cX4_order 53 = .ok (.aload_n 0, 1) := by decide +kernel
theorem dX4_order_54 : decode cX4_order 54 = .ok (.getfield 30, 3) := by decide +kernel
theorem dX4_order_57 : decode cX4_order 57 = .ok (.iload_n 2, 1) := by decide +kernel
theorem dX4_order_58 : decode cX4_order 58 = .ok (.iaload, 1) := by decide +kernel
theorem dX4_order_59 : decode cX4_order 59 = .ok (.invokevirtual 107, 3) := by decide +kernel
theorem dX4_order_62 : decode cX4_order 62 = .ok (.iload_n 3, 1) := by decide +kernel
theorem dX4_order_63 : decode cX4_order 63 = .ok (.if_icmp .ne 6, 3) := by decide +kernel
theorem dX4_order_66 : decode cX4_order 66 = .ok (.iload 4, 2) := by decide +kernel
theorem dX4_order_68 : decode cX4_order 68 = .ok (.ireturn, 1) := by decide +kernel
theorem dX4_order_69 : decode cX4_order 69 = .ok (.iinc 4 1, 3) := by decide +kernel
theorem dX4_order_72 : decode cX4_order 72 = .ok (.goto (-51), 3) := by decide +kernel
theorem dX4_order_75 : decode cX4_order 75 = .ok (.iconst (-1), 1) := by decide +kernel
theorem dX4_order_76 : decode cX4_order 76 = .ok (.ireturn, 1) := by decide +kernel
theorem dX4_requireNotNegative_0 : decode cX4_requireNotNegative 0 = .ok (.iload_n 0, 1) := by decide +kernel
theorem dX4_requireNotNegative_1 : decode cX4_requireNotNegative 1 = .ok (.ifCond .ge 13, 3) := by decide +kernel
theorem dX4_requireNotNegative_4 : decode cX4_requireNotNegative 4 = .ok (.new 170, 3) := by decide +kernel
theorem dX4_requireNotNegative_7 : decode cX4_requireNotNegative 7 = .ok (.dup, 1) := by decide +kernel
theorem dX4_requireNotNegative_8 : decode cX4_requireNotNegative 8 = .ok (.ldc 248, 2) := by decide +kernel
theorem dX4_requireNotNegative_10 : decode cX4_requireNotNegative 10 = .ok (.invokespecial 174, 3) := by decide +kernel
theorem dX4_requireNotNegative_13 : decode cX4_requireNotNegative 13 = .ok (.athrow, 1) := by decide +kernel
theorem dX4_requireNotNegative_14 : decode cX4_requireNotNegative 14 = .ok (.return_, 1) := by decide +kernel
theorem dX4_allowed_0 : decode cX4_allowed 0 = .ok (.aload_n 0, 1) := by decide +kernel
theorem dX4_allowed_1 : decode cX4_allowed 1 = .ok (.iload_n 1, 1) := by decide +kernel
theorem dX4_allowed_2 : decode cX4_allowed 2 = .ok (.invokevirtual 74, 3) := by decide +kernel
theorem dX4_allowed_5 : decode cX4_allowed 5 = .ok (.iload_n 2, 1) := by decide +kernel
theorem dX4_allowed_6 : decode cX4_allowed 6 = .ok (.iconst 0, 1) := by decide +kernel
theorem dX4_allowed_7 : decode cX4_allowed 7 = .ok (.bipush 7, 2) := by decide +kernel
theorem dX4_allowed_9 : decode cX4_allowed 9 = .ok (.invokestatic 50, 3) := by decide +kernel
theorem dX4_allowed_12 : decode cX4_allowed 12 = .ok (.iload_n 3, 1) := by decide +kernel
theorem dX4_allowed_13 : decode cX4_allowed 13 = .ok (.iconst 0, 1) := by decide +kernel
theorem dX4_allowed_14 : decode cX4_allowed 14 = .ok (.ldc 54, 2) := by decide +kernel
theorem dX4_allowed_16 : decode cX4_allowed 16 = .ok (.invokestatic 50, 3) := by decide +kernel
theorem dX4_allowed_19 : decode cX4_allowed 19 = .ok (.aload_n 0, 1) := by decide +kernel
theorem dX4_allowed_20 : decode cX4_allowed 20 = .ok (.iload_n 1, 1) := by decide +kernel
theorem dX4_allowed_21 : decode cX4_allowed 21 = .ok (.iload_n 2, 1) := by decide +kernel
theorem dX4_allowed_22 : decode cX4_allowed 22 = .ok (.iload_n 3, 1) := by decide +kernel
theorem dX4_allowed_23 : decode cX4_allowed 23 = .ok (.invokevirtual 111, 3) := by decide +kernel
theorem dX4_allowed_26 : decode cX4_allowed 26 = .ok (.ireturn, 1) := by decide +kernel
theorem dX4_mayGo_0 : decode cX4_mayGo 0 = .ok (.aload_n 0, 1) := by decide +kernel
theorem dX4_mayGo_1 : decode cX4_mayGo 1 = .ok (.getfield 10, 3) := by decide +kernel
theorem dX4_mayGo_4 : decode cX4_mayGo 4 = .ok (.iload_n 1, 1) := by decide +kernel
theorem dX4_mayGo_5 : decode cX4_mayGo 5 = .ok (.invokevirtual 236, 3) := by decide +kernel
theorem dX4_mayGo_8 : decode cX4_mayGo 8 = .ok (.ifCond .eq 55, 3) := by decide +kernel
theorem dX4_mayGo_11 : decode cX4_mayGo 11 = .ok (.iload_n 3, 1) := by decide +kernel
theorem dX4_mayGo_12 : decode cX4_mayGo 12 = .ok (.aload_n 0, 1) := by decide +kernel
theorem dX4_mayGo_13 : decode cX4_mayGo 13 = .ok (.getfield 10, 3) := by decide +kernel
theorem dX4_mayGo_16 : decode cX4_mayGo 16 = .ok (.getfield 198, 3) := by decide +kernel
theorem dX4_mayGo_19 : decode cX4_mayGo 19 = .ok (.iload_n 1, 1) := by decide +kernel
theorem dX4_mayGo_20 : decode cX4_mayGo 20 = .ok (.iaload, 1) := by decide +kernel
theorem dX4_mayGo_21 : decode cX4_mayGo 21 = .ok (.if_icmp .lt 42, 3) := by decide +kernel
theorem dX4_mayGo_24 : decode cX4_mayGo 24 = .ok (.iload_n 3, 1) := by decide +kernel
theorem dX4_mayGo_25 : decode cX4_mayGo 25 = .ok (.aload_n 0, 1) := by decide +kernel
theorem dX4_mayGo_26 : decode cX4_mayGo 26 = .ok (.getfield 10, 3) := by decide +kernel
theorem dX4_mayGo_29 : decode cX4_mayGo 29 = .ok (.getfield 195, 3) := by decide +kernel
theorem dX4_mayGo_32 : decode cX4_mayGo 32 = .ok (.iload_n 1, 1) := by decide +kernel
theorem dX4_mayGo_33 : decode cX4_mayGo 33 = .ok (.iaload, 1) := by decide +kernel
theorem dX4_mayGo_34 : decode cX4_mayGo 34 = .ok (.if_icmp .gt 29, 3) := by decide +kernel
theorem dX4_mayGo_37 : decode cX4_mayGo 37 = .ok (.aload_n 0, 1) := by decide +kernel
theorem dX4_mayGo_38 : decode cX4_mayGo 38 = .ok (.getfield 10, 3) := by decide +kernel
theorem dX4_mayGo_41 : decode cX4_mayGo 41 = .ok (.getfield 195, 3) := by decide +kernel
theorem dX4_mayGo_44 : decode cX4_mayGo 44 = .ok (.iload_n 1, 1) := by decide +kernel
theorem dX4_mayGo_45 : decode cX4_mayGo 45 = .ok (.iaload, 1) := by decide +kernel
theorem dX4_mayGo_46 : decode cX4_mayGo 46 = .ok (.iload_n 3, 1) := by decide +kernel
theorem dX4_mayGo_47 : decode cX4_mayGo 47 = .ok (.isub, 1) := by decide +kernel
theorem dX4_mayGo_48 : decode cX4_mayGo 48 = .ok (.iconst 1, 1) := by decide +kernel
theorem dX4_mayGo_49 : decode cX4_mayGo 49 = .ok (.iadd, 1) := by decide +kernel
theorem dX4_mayGo_50 : decode cX4_mayGo 50 = .ok (.aload_n 0, 1) := by decide +kernel
theorem dX4_mayGo_51 : decode cX4_mayGo 51 = .ok (.getfield 37, 3) := by decide +kernel
theorem dX4_mayGo_54 : decode cX4_mayGo 54 = .ok (.iload_n 2, 1) := by decide +kernel
theorem dX4_mayGo_55 : decode cX4_mayGo 55 = .ok (.iaload, 1) := by decide +kernel
theorem dX4_mayGo_56 : decode cX4_mayGo 56 = .ok (.if_icmp .lt 7, 3) := by decide +kernel
theorem dX4_mayGo_59 : decode cX4_mayGo 59 = .ok (.iconst 1, 1) := by decide +kernel
theorem dX4_mayGo_60 : decode cX4_mayGo 60 = .ok (.goto 4, 3) := by decide +kernel
theorem dX4_mayGo_63 : decode cX4_mayGo 63 = .ok (.iconst 0, 1) := by decide +kernel
theorem dX4_mayGo_64 : decode cX4_mayGo 64 = .ok (.ireturn, 1) := by decide +kernel
theorem dX4_split_0 : decode cX4_split 0 = .ok (.aload_n 0, 1) := by decide +kernel
theorem dX4_split_1 : decode cX4_split 1 = .ok (.iload_n 1, 1) := by decide +kernel
theorem dX4_split_2 : decode cX4_split 2 = .ok (.invokevirtual 74, 3) := by decide +kernel
theorem dX4_split_5 : decode cX4_split 5 = .ok (.aload_n 0, 1) := by decide +kernel
theorem dX4_split_6 : decode cX4_split 6 = .ok (.getfield 10, 3) := by decide +kernel
theorem dX4_split_9 : decode cX4_split 9 = .ok (.getfield 78, 3) := by decide +kernel
theorem dX4_split_12 : decode cX4_split 12 = .ok (.iload_n 1, 1) := by decide +kernel
theorem dX4_split_13 : decode cX4_split 13 = .ok (.baload, 1) := by decide +kernel
theorem dX4_split_14 : decode cX4_split 14 = .ok (.invokestatic 85, 3) := by decide +kernel
theorem dX4_split_17 : decode cX4_split 17 = .ok (.aload_n 0, 1) := by decide +kernel
theorem dX4_split_18 : decode cX4_split 18 = .ok (.getfield 10, 3) := by decide +kernel
theorem dX4_split_21 : decode cX4_split 21 = .ok (.invokevirtual 55, 3) := by decide +kernel
theorem dX4_split_24 : decode cX4_split 24 = .ok (.ifCond .eq 18, 3) := by decide +kernel
theorem dX4_split_27 : decode cX4_split 27 = .ok (.aload_n 0, 1) := by decide +kernel
theorem dX4_split_28 : decode cX4_split 28 = .ok (.getfield 26, 3) := by decide +kernel
theorem dX4_split_31 : decode cX4_split 31 = .ok (.iconst 2, 1) := by decide +kernel
theorem dX4_split_32 : decode cX4_split 32 = .ok (.invokevirtual 59, 3) := by decide +kernel
theorem dX4_split_35 : decode cX4_split 35 = .ok (.ifCond .eq 7, 3) := by decide +kernel
theorem dX4_split_38 : decode cX4_split 38 = .ok (.iconst 1, 1) := by decide +kernel
theorem dX4_split_39 : decode cX4_split 39 = .ok (.goto 4, 3) := by decide +kernel
theorem dX4_split_42 : decode cX4_split 42 = .ok (.iconst 0, 1) := by decide +kernel
theorem dX4_split_43 : decode cX4_split 43 = .ok (.invokestatic 63, 3) := by decide +kernel
theorem dX4_split_46 : decode cX4_split 46 = .ok (.aload_n 0, 1) := by decide +kernel
theorem dX4_split_47 : decode cX4_split 47 = .ok (.getfield 10, 3) := by decide +kernel
theorem dX4_split_50 : decode cX4_split 50 = .ok (.iload_n 1, 1) := by decide +kernel
theorem dX4_split_51 : decode cX4_split 51 = .ok (.invokevirtual 114, 3) := by decide +kernel
theorem dX4_split_54 : decode cX4_split 54 = .ok (.istore_n 2, 1) := by decide +kernel
theorem dX4_split_55 : decode cX4_split 55 = .ok (.aload_n 0, 1) := by decide +kernel
theorem dX4_split_56 : decode cX4_split 56 = .ok (.getfield 26, 3) := by decide +kernel
theorem dX4_split_59 : decode cX4_split 59 = .ok (.iload_n 2, 1) := by decide +kernel
theorem dX4_split_60 : decode cX4_split 60 = .ok (.iconst 2, 1) := by decide +kernel
theorem dX4_split_61 : decode cX4_split 61 = .ok (.iload_n 1, 1) := by decide +kernel
theorem dX4_split_62 : decode cX4_split 62 = .ok (.invokevirtual 71, 3) := by decide +kernel
theorem dX4_split_65 : decode cX4_split 65 = .ok (.aload_n 0, 1) := by decide +kernel
theorem dX4_split_66 : decode cX4_split 66 = .ok (.getfield 26, 3) := by decide +kernel
theorem dX4_split_69 : decode cX4_split 69 = .ok (.iload_n 1, 1) := by decide +kernel
theorem dX4_split_70 : decode cX4_split 70 = .ok (.iconst 3, 1) := by decide +kernel
theorem dX4_split_71 : decode cX4_split 71 = .ok (.iload_n 2, 1) := by decide +kernel
theorem dX4_split_72 : decode cX4_split 72 = .ok (.invokevirtual 71, 3) := by decide +kernel
theorem dX4_split_75 : decode cX4_split 75 = .ok (.iload_n 2, 1) := by decide +kernel
theorem dX4_split_76 : decode cX4_split 76 = .ok (.ireturn, 1) := by decide +kernel
theorem dX4_join_0 : decode cX4_join 0 = .ok (.aload_n 0, 1) := by decide +kernel
theorem dX4_join_1 : decode cX4_join 1 = .ok (.iload_n 1, 1) := by decide +kernel
theorem dX4_join_2 : decode cX4_join 2 = .ok (.invokevirtual 74, 3) := by decide +kernel
theorem dX4_join_5 : decode cX4_join 5 = .ok (.aload_n 0, 1) := by decide +kernel
theorem dX4_join_6 : decode cX4_join 6 = .ok (.iload_n 2, 1) := by decide +kernel
theorem dX4_join_7 : decode cX4_join 7 = .ok (.invokevirtual 74, 3) := by decide +kernel
theorem dX4_join_10 : decode cX4_join 10 = .ok (.iload_n 1, 1) := by decide +kernel
theorem dX4_join_11 : decode cX4_join 11 = .ok (.iload_n 2, 1) := by decide +kernel
theorem dX4_join_12 : decode cX4_join 12 = .ok (.if_icmp .eq 43, 3) := by decide +kernel
theorem dX4_join_15 : decode cX4_join 15 = .ok (.aload_n 0, 1) := by decide +kernel
theorem dX4_join_16 : decode cX4_join 16 = .ok (.getfield 10, 3) := by decide +kernel
theorem dX4_join_19 : decode cX4_join 19 = .ok (.getfield 78, 3) := by decide +kernel
theorem dX4_join_22 : decode cX4_join 22 = .ok (.iload_n 1, 1) := by decide +kernel
theorem dX4_join_23 : decode cX4_join 23 = .ok (.baload, 1) := by decide +kernel
theorem dX4_join_24 : decode cX4_join 24 = .ok (.ifCond .eq 31, 3) := by decide +kernel
theorem dX4_join_27 : decode cX4_join 27 = .ok (.aload_n 0, 1) := by decide +kernel
theorem dX4_join_28 : decode cX4_join 28 = .ok (.getfield 10, 3) := by decide +kernel
theorem dX4_join_31 : decode cX4_join 31 = .ok (.getfield 78, 3) := by decide +kernel
theorem dX4_join_34 : decode cX4_join 34 = .ok (.iload_n 2, 1) := by decide +kernel
theorem dX4_join_35 : decode cX4_join 35 = .ok (.baload, 1) := by decide +kernel
theorem dX4_join_36 : decode cX4_join 36 = .ok (.ifCond .eq 19, 3) := by decide +kernel
theorem dX4_join_39 : decode cX4_join 39 = .ok (.aload_n 0, 1) := by decide +kernel
theorem dX4_join_40 : decode cX4_join 40 = .ok (.getfield 10, 3) := by decide +kernel
theorem dX4_join_43 : decode cX4_join 43 = .ok (.iload_n 1, 1) := by decide +kernel
theorem dX4_join_44 : decode cX4_join 44 = .ok (.iload_n 2, 1) := by decide +kernel
theorem dX4_join_45 : decode cX4_join 45 = .ok (.invokevirtual 117, 3) := by decide +kernel
theorem dX4_join_48 : decode cX4_join 48 = .ok (.ifCond .eq 7, 3) := by decide +kernel
theorem dX4_join_51 : decode cX4_join 51 = .ok (.iconst 1, 1) := by decide +kernel
theorem dX4_join_52 : decode cX4_join 52 = .ok (.goto 4, 3) := by decide +kernel
theorem dX4_join_55 : decode cX4_join 55 = .ok (.iconst 0, 1) := by decide +kernel
theorem dX4_join_56 : decode cX4_join 56 = .ok (.invokestatic 85, 3) := by decide +kernel
theorem dX4_join_59 : decode cX4_join 59 = .ok (.aload_n 0, 1) := by decide +kernel
theorem dX4_join_60 : decode cX4_join 60 = .ok (.getfield 26, 3) := by decide +kernel
theorem dX4_join_63 : decode cX4_join 63 = .ok (.iconst 2, 1) := by decide +kernel
theorem dX4_join_64 : decode cX4_join 64 = .ok (.invokevirtual 59, 3) := by decide +kernel
theorem dX4_join_67 : decode cX4_join 67 = .ok (.invokestatic 63, 3) := by decide +kernel
theorem dX4_join_70 : decode cX4_join 70 = .ok (.aload_n 0, 1) := by decide +kernel
theorem dX4_join_71 : decode cX4_join 71 = .ok (.getfield 10, 3) := by decide +kernel
theorem dX4_join_74 : decode cX4_join 74 = .ok (.iload_n 1, 1) := by decide +kernel
theorem dX4_join_75 : decode cX4_join 75 = .ok (.iload_n 2, 1) := by decide +kernel
theorem dX4_join_76 : decode cX4_join 76 = .ok (.invokevirtual 121, 3) := by decide +kernel
theorem dX4_join_79 : decode cX4_join 79 = .ok (.aload_n 0, 1) := by decide +kernel
theorem dX4_join_80 : decode cX4_join 80 = .ok (.getfield 19, 3) := by decide +kernel
theorem dX4_join_83 : decode cX4_join 83 = .ok (.iload_n 2, 1) := by decide +kernel
theorem dX4_join_84 : decode cX4_join 84 = .ok (.iload_n 1, 1) := by decide +kernel
theorem dX4_join_85 : decode cX4_join 85 = .ok (.invokevirtual 125, 3) := by decide +kernel
theorem dX4_join_88 : decode cX4_join 88 = .ok (.aload_n 0, 1) := by decide +kernel
theorem dX4_join_89 : decode cX4_join 89 = .ok (.getfield 26, 3) := by decide +kernel
theorem dX4_join_92 : decode cX4_join 92 = .ok (.iload_n 1, 1) := by decide +kernel
theorem dX4_join_93 : decode cX4_join 93 = .ok (.iconst 4, 1) := by decide +kernel
theorem dX4_join_94 : decode cX4_join 94 = .ok (.iload_n 2, 1) := by decide +kernel
theorem dX4_join_95 : decode cX4_join 95 = .ok (.invokevirtual 71, 3) := by decide +kernel
theorem dX4_join_98 : decode cX4_join 98 = .ok (.aload_n 0, 1) := by decide +kernel
theorem dX4_join_99 : decode cX4_join 99 = .ok (.getfield 26, 3) := by decide +kernel
theorem dX4_join_102 : decode cX4_join 102 = .ok (.iload_n 2, 1) := by decide +kernel
theorem dX4_join_103 : decode cX4_join 103 = .ok (.iconst 5, 1) := by decide +kernel
theorem dX4_join_104 : decode cX4_join 104 = .ok (.iload_n 1, 1) := by decide +kernel
theorem dX4_join_105 : decode cX4_join 105 = .ok (.invokevirtual 71, 3) := by decide +kernel
theorem dX4_join_108 : decode cX4_join 108 = .ok (.return_, 1) := by decide +kernel
theorem dX4_unit_0 : decode cX4_unit 0 = .ok (.aload_n 0, 1) := by decide +kernel
theorem dX4_unit_1 : decode cX4_unit 1 = .ok (.iload_n 1, 1) := by decide +kernel
theorem dX4_unit_2 : decode cX4_unit 2 = .ok (.invokevirtual 74, 3) := by decide +kernel
theorem dX4_unit_5 : decode cX4_unit 5 = .ok (.aload_n 0, 1) := by decide +kernel
theorem dX4_unit_6 : decode cX4_unit 6 = .ok (.getfield 10, 3) := by decide +kernel
theorem dX4_unit_9 : decode cX4_unit 9 = .ok (.getfield 78, 3) := by decide +kernel
theorem dX4_unit_12 : decode cX4_unit 12 = .ok (.iload_n 1, 1) := by decide +kernel
theorem dX4_unit_13 : decode cX4_unit 13 = .ok (.baload, 1) := by decide +kernel
theorem dX4_unit_14 : decode cX4_unit 14 = .ok (.invokestatic 85, 3) := by decide +kernel
theorem dX4_unit_17 : decode cX4_unit 17 = .ok (.aload_n 0, 1) := by decide +kernel
theorem dX4_unit_18 : decode cX4_unit 18 = .ok (.getfield 19, 3) := by decide +kernel
theorem dX4_unit_21 : decode cX4_unit 21 = .ok (.invokevirtual 128, 3) := by decide +kernel
theorem dX4_unit_24 : decode cX4_unit 24 = .ok (.ifCond .eq 18, 3) := by decide +kernel
theorem dX4_unit_27 : decode cX4_unit 27 = .ok (.aload_n 0, 1) := by decide +kernel
theorem dX4_unit_28 : decode cX4_unit 28 = .ok (.getfield 26, 3) := by decide +kernel
theorem dX4_unit_31 : decode cX4_unit 31 = .ok (.iconst 1, 1) := by decide +kernel
theorem dX4_unit_32 : decode cX4_unit 32 = .ok (.invokevirtual 59, 3) := by decide +kernel
theorem dX4_unit_35 : decode cX4_unit 35 = .ok (.ifCond .eq 7, 3) := by decide +kernel
theorem dX4_unit_38 : decode cX4_unit 38 = .ok (.iconst 1, 1) := by decide +kernel
theorem dX4_unit_39 : decode cX4_unit 39 = .ok (.goto 4, 3) := by decide +kernel
theorem dX4_unit_42 : decode cX4_unit 42 = .ok (.iconst 0, 1) := by decide +kernel
theorem dX4_unit_43 : decode cX4_unit 43 = .ok (.invokestatic 63, 3) := by decide +kernel
theorem dX4_unit_46 : decode cX4_unit 46 = .ok (.aload_n 0, 1) := by decide +kernel
theorem dX4_unit_47 : decode cX4_unit 47 = .ok (.getfield 19, 3) := by decide +kernel
theorem dX4_unit_50 : decode cX4_unit 50 = .ok (.iload_n 1, 1) := by decide +kernel
theorem dX4_unit_51 : decode cX4_unit 51 = .ok (.invokevirtual 129, 3) := by decide +kernel
theorem dX4_unit_54 : decode cX4_unit 54 = .ok (.istore_n 2, 1) := by decide +kernel
theorem dX4_unit_55 : decode cX4_unit 55 = .ok (.aload_n 0, 1) := by decide +kernel
theorem dX4_unit_56 : decode cX4_unit 56 = .ok (.getfield 26, 3) := by decide +kernel
theorem dX4_unit_59 : decode cX4_unit 59 = .ok (.iload_n 1, 1) := by decide +kernel
theorem dX4_unit_60 : decode cX4_unit 60 = .ok (.bipush 10, 2) := by decide +kernel
theorem dX4_unit_62 : decode cX4_unit 62 = .ok (.iload_n 2, 1) := by decide +kernel
theorem dX4_unit_63 : decode cX4_unit 63 = .ok (.invokevirtual 71, 3) := by decide +kernel
theorem dX4_unit_66 : decode cX4_unit 66 = .ok (.iload_n 2, 1) := by decide +kernel
theorem dX4_unit_67 : decode cX4_unit 67 = .ok (.ireturn, 1) := by decide +kernel
theorem dX4_put_0 : decode cX4_put 0 = .ok (.aload_n 0, 1) := by decide +kernel
theorem dX4_put_1 : decode cX4_put 1 = .ok (.iload_n 1, 1) := by decide +kernel
theorem dX4_put_2 : decode cX4_put 2 = .ok (.invokevirtual 131, 3) := by decide +kernel
theorem dX4_put_5 : decode cX4_put 5 = .ok (.iload_n 2, 1) := by decide +kernel
theorem dX4_put_6 : decode cX4_put 6 = .ok (.iconst 0, 1) := by decide +kernel
theorem dX4_put_7 : decode cX4_put 7 = .ok (.bipush 19, 2) := by decide +kernel
theorem dX4_put_9 : decode cX4_put 9 = .ok (.invokestatic 50, 3) := by decide +kernel
theorem dX4_put_12 : decode cX4_put 12 = .ok (.aload_n 0, 1) := by decide +kernel
theorem dX4_put_13 : decode cX4_put 13 = .ok (.getfield 19, 3) := by decide +kernel
theorem dX4_put_16 : decode cX4_put 16 = .ok (.iload_n 1, 1) := by decide +kernel
theorem dX4_put_17 : decode cX4_put 17 = .ok (.invokevirtual 134, 3) := by decide +kernel
theorem dX4_put_20 : decode cX4_put 20 = .ok (.ifCond .ne 20, 3) := by decide +kernel
theorem dX4_put_23 : decode cX4_put 23 = .ok (.aload_n 0, 1) := by decide +kernel
theorem dX4_put_24 : decode cX4_put 24 = .ok (.getfield 19, 3) := by decide +kernel
theorem dX4_put_27 : decode cX4_put 27 = .ok (.getfield 137, 3) := by decide +kernel
theorem dX4_put_30 : decode cX4_put 30 = .ok (.iload_n 1, 1) := by decide +kernel
theorem dX4_put_31 : decode cX4_put 31 = .ok (.iaload, 1) := by decide +kernel
theorem dX4_put_32 : decode cX4_put 32 = .ok (.iload_n 2, 1) := by decide +kernel
theorem dX4_put_33 : decode cX4_put 33 = .ok (.if_icmp .eq 7, 3) := by decide +kernel
theorem dX4_put_36 : decode cX4_put 36 = .ok (.iconst 1, 1) := by decide +kernel
theorem dX4_put_37 : decode cX4_put 37 = .ok (.goto 4, 3) := by decide +kernel
theorem dX4_put_40 : decode cX4_put 40 = .ok (.iconst 0, 1) := by decide +kernel
theorem dX4_put_41 : decode cX4_put 41 = .ok (.invokestatic 85, 3) := by decide +kernel
theorem dX4_put_44 : decode cX4_put 44 = .ok (.aload_n 0, 1) := by decide +kernel
theorem dX4_put_45 : decode cX4_put 45 = .ok (.iload_n 1, 1) := by decide +kernel
theorem dX4_put_46 : decode cX4_put 46 = .ok (.iload_n 2, 1) := by decide +kernel
theorem dX4_put_47 : decode cX4_put 47 = .ok (.invokevirtual 140, 3) := by decide +kernel
theorem dX4_put_50 : decode cX4_put 50 = .ok (.istore_n 3, 1) := by decide +kernel
theorem dX4_put_51 : decode cX4_put 51 = .ok (.iload_n 3, 1) := by decide +kernel
theorem dX4_put_52 : decode cX4_put 52 = .ok (.ifCond .eq 31, 3) := by decide +kernel
theorem dX4_put_55 : decode cX4_put 55 = .ok (.aload_n 0, 1) := by decide +kernel
theorem dX4_put_56 : decode cX4_put 56 = .ok (.aload_n 0, 1) := by decide +kernel
theorem dX4_put_57 : decode cX4_put 57 = .ok (.getfield 19, 3) := by decide +kernel
theorem dX4_put_60 : decode cX4_put 60 = .ok (.getfield 143, 3) := by decide +kernel
theorem dX4_put_63 : decode cX4_put 63 = .ok (.iload_n 1, 1) := by decide +kernel
theorem dX4_put_64 : decode cX4_put 64 = .ok (.iaload, 1) := by decide +kernel
theorem dX4_put_65 : decode cX4_put 65 = .ok (.putfield 43, 3) := by decide +kernel
theorem dX4_put_68 : decode cX4_put 68 = .ok (.aload_n 0, 1) := by decide +kernel
theorem dX4_put_69 : decode cX4_put 69 = .ok (.iload_n 3, 1) := by decide +kernel
theorem dX4_put_70 : decode cX4_put 70 = .ok (.putfield 47, 3) := by decide +kernel
theorem dX4_put_73 : decode cX4_put 73 = .ok (.new 146, 3) := by decide +kernel
theorem dX4_put_76 : decode cX4_put 76 = .ok (.dup, 1) := by decide +kernel
theorem dX4_put_77 : decode cX4_put 77 = .ok (.ldc 148, 2) := by decide +kernel
theorem dX4_put_79 : decode cX4_put 79 = .ok (.invokespecial 150, 3) := by decide +kernel
theorem dX4_put_82 : decode cX4_put 82 = .ok (.athrow, 1) := by decide +kernel
theorem dX4_put_83 : decode cX4_put 83 = .ok (.aload_n 0, 1) := by decide +kernel
theorem dX4_put_84 : decode cX4_put 84 = .ok (.getfield 19, 3) := by decide +kernel
theorem dX4_put_87 : decode cX4_put 87 = .ok (.getfield 137, 3) := by decide +kernel
theorem dX4_put_90 : decode cX4_put 90 = .ok (.iload_n 1, 1) := by decide +kernel
theorem dX4_put_91 : decode cX4_put 91 = .ok (.iload_n 2, 1) := by decide +kernel
theorem dX4_put_92 : decode cX4_put 92 = .ok (.iastore, 1) := by decide +kernel
theorem dX4_put_93 : decode cX4_put 93 = .ok (.return_, 1) := by decide +kernel
theorem dX4_requireUnit_0 : decode cX4_requireUnit 0 = .ok (.iload_n 1, 1) := by decide +kernel
theorem dX4_requireUnit_1 : decode cX4_requireUnit 1 = .ok (.iconst 1, 1) := by decide +kernel
theorem dX4_requireUnit_2 : decode cX4_requireUnit 2 = .ok (.if_icmp .lt 14, 3) := by decide +kernel
theorem dX4_requireUnit_5 : decode cX4_requireUnit 5 = .ok (.iload_n 1, 1) := by decide +kernel
theorem dX4_requireUnit_6 : decode cX4_requireUnit 6 = .ok (.aload_n 0, 1) := by decide +kernel
theorem dX4_requireUnit_7 : decode cX4_requireUnit 7 = .ok (.getfield 19, 3) := by decide +kernel
theorem dX4_requireUnit_10 : decode cX4_requireUnit 10 = .ok (.getfield 229, 3) := by decide +kernel
theorem dX4_requireUnit_13 : decode cX4_requireUnit 13 = .ok (.if_icmp .le 13, 3) := by decide +kernel
theorem dX4_requireUnit_16 : decode cX4_requireUnit 16 = .ok (.new 178, 3) := by decide +kernel
theorem dX4_requireUnit_19 : decode cX4_requireUnit 19 = .ok (.dup, 1) := by decide +kernel
theorem dX4_requireUnit_20 : decode cX4_requireUnit 20 = .ok (.ldc 244, 2) := by decide +kernel
theorem dX4_requireUnit_22 : decode cX4_requireUnit 22 = .ok (.invokespecial 182, 3) := by decide +kernel
theorem dX4_requireUnit_25 : decode cX4_requireUnit 25 = .ok (.athrow, 1) := by decide +kernel
theorem dX4_requireUnit_26 : decode cX4_requireUnit 26 = .ok (.return_, 1) := by decide +kernel
theorem dX4_lotThatHinders_0 : decode cX4_lotThatHinders 0 = .ok (.aload_n 0, 1) := by decide +kernel
theorem dX4_lotThatHinders_1 : decode cX4_lotThatHinders 1 = .ok (.getfield 19, 3) := by decide +kernel
theorem dX4_lotThatHinders_4 : decode cX4_lotThatHinders 4 = .ok (.getfield 143, 3) := by decide +kernel
theorem dX4_lotThatHinders_7 : decode cX4_lotThatHinders 7 = .ok (.iload_n 1, 1) := by decide +kernel
theorem dX4_lotThatHinders_8 : decode cX4_lotThatHinders 8 = .ok (.iaload, 1) := by decide +kernel
theorem dX4_lotThatHinders_9 : decode cX4_lotThatHinders 9 = .ok (.istore_n 3, 1) := by decide +kernel
theorem dX4_lotThatHinders_10 : decode cX4_lotThatHinders 10 = .ok (.aload_n 0, 1) := by decide +kernel
theorem dX4_lotThatHinders_11 : decode cX4_lotThatHinders 11 = .ok (.getfield 34, 3) := by decide +kernel
theorem dX4_lotThatHinders_14 : decode cX4_lotThatHinders 14 = .ok (.aload_n 0, 1) := by decide +kernel
theorem dX4_lotThatHinders_15 : decode cX4_lotThatHinders 15 = .ok (.getfield 10, 3) := by decide +kernel
theorem dX4_lotThatHinders_18 : decode cX4_lotThatHinders 18 = .ok (.getfield 192, 3) := by decide +kernel
theorem dX4_lotThatHinders_21 : decode cX4_lotThatHinders 21 = .ok (.iload_n 3, 1) := by decide +kernel
theorem dX4_lotThatHinders_22 : decode cX4_lotThatHinders 22 = .ok (.iaload, 1) := by decide +kernel
theorem dX4_lotThatHinders_23 : decode cX4_lotThatHinders 23 = .ok (.iaload, 1) := by decide +kernel
theorem dX4_lotThatHinders_24 : decode cX4_lotThatHinders 24 = .ok (.istore 4, 2) := by decide +kernel
theorem dX4_lotThatHinders_26 : decode cX4_lotThatHinders 26 = .ok (.iconst 1, 1) := by decide +kernel
theorem dX4_lotThatHinders_27 : decode cX4_lotThatHinders 27 = .ok (.istore 5, 2) := by decide +kernel
theorem dX4_lotThatHinders_29 : decode cX4_lotThatHinders 29 = .ok (.iload 5, 2) := by decide +kernel
theorem dX4_lotThatHinders_31 : decode cX4_lotThatHinders 31 = .ok (.aload_n 0, 1) := by decide +kernel
theorem dX4_lotThatHinders_32 : decode cX4_lotThatHinders 32 = .ok (.getfield 19, 3) := by decide +kernel
theorem dX4_lotThatHinders_35 : decode cX4_lotThatHinders 35 = .ok (.getfield 229, 3) := by decide +kernel
theorem dX4_lotThatHinders_38 : decode cX4_lotThatHinders 38 = .ok (.if_icmp .gt 57, 3) := by decide +kernel
theorem dX4_lotThatHinders_41 : decode cX4_lotThatHinders 41 = .ok (.aload_n 0, 1) := by decide +kernel
theorem dX4_lotThatHinders_42 : decode cX4_lotThatHinders 42 = .ok (.getfield 19, 3) := by decide +kernel
theorem dX4_lotThatHinders_45 : decode cX4_lotThatHinders 45 = .ok (.getfield 137, 3) := by decide +kernel
theorem dX4_lotThatHinders_48 : decode cX4_lotThatHinders 48 = .ok (.iload 5, 2) := by decide +kernel
theorem dX4_lotThatHinders_50 : decode cX4_lotThatHinders 50 = .ok (.iaload, 1) := by decide +kernel
theorem dX4_lotThatHinders_51 : decode cX4_lotThatHinders 51 = .ok (.iload_n 2, 1) := by decide +kernel
theorem dX4_lotThatHinders_52 : decode cX4_lotThatHinders 52 = .ok (.if_icmp .ne 37, 3) := by decide +kernel
theorem dX4_lotThatHinders_55 : decode cX4_lotThatHinders 55 = .ok (.aload_n 0, 1) := by decide +kernel
theorem dX4_lotThatHinders_56 : decode cX4_lotThatHinders 56 = .ok (.getfield 10, 3) := by decide +kernel
theorem dX4_lotThatHinders_59 : decode cX4_lotThatHinders 59 = .ok (.iload_n 3, 1) := by decide +kernel
theorem dX4_lotThatHinders_60 : decode cX4_lotThatHinders 60 = .ok (.aload_n 0, 1) := by decide +kernel
theorem dX4_lotThatHinders_61 : decode cX4_lotThatHinders 61 = .ok (.getfield 19, 3) := by decide +kernel
theorem dX4_lotThatHinders_64 : decode cX4_lotThatHinders 64 = .ok (.getfield 143, 3) := by decide +kernel
theorem dX4_lotThatHinders_67 : decode cX4_lotThatHinders 67 = .ok (.iload 5, 2) := by decide +kernel
theorem dX4_lotThatHinders_69 : decode cX4_lotThatHinders 69 = .ok (.iaload, 1) := by decide +kernel
theorem dX4_lotThatHinders_70 : decode cX4_lotThatHinders 70 = .ok (.iload 4, 2) := by decide +kernel
theorem dX4_lotThatHinders_72 : decode cX4_lotThatHinders 72 = .ok (.invokevirtual 239, 3) := by decide +kernel
theorem dX4_lotThatHinders_75 : decode cX4_lotThatHinders 75 = .ok (.ifCond .eq 14, 3) := by decide +kernel
theorem dX4_lotThatHinders_78 : decode cX4_lotThatHinders 78 = .ok (.aload_n 0, 1) := by decide +kernel
theorem dX4_lotThatHinders_79 : decode cX4_lotThatHinders 79 = .ok (.getfield 19, 3) := by decide +kernel
theorem dX4_lotThatHinders_82 : decode cX4_lotThatHinders 82 = .ok (.getfield 143, 3) := by decide +kernel
theorem dX4_lotThatHinders_85 : decode cX4_lotThatHinders 85 = .ok (.iload 5, 2) := by decide +kernel
theorem dX4_lotThatHinders_87 : decode cX4_lotThatHinders 87 = .ok (.iaload, 1) := by decide +kernel
theorem dX4_lotThatHinders_88 : decode cX4_lotThatHinders 88 = .ok (.ireturn, 1) := by decide +kernel
theorem dX4_lotThatHinders_89 : decode cX4_lotThatHinders 89 = .ok (.iinc 5 1, 3) := by decide +kernel
theorem dX4_lotThatHinders_92 : decode cX4_lotThatHinders 92 = .ok (.goto (-63), 3) := by decide +kernel
theorem dX4_lotThatHinders_95 : decode cX4_lotThatHinders 95 = .ok (.iconst 0, 1) := by decide +kernel
theorem dX4_lotThatHinders_96 : decode cX4_lotThatHinders 96 = .ok (.ireturn, 1) := by decide +kernel
theorem dX4_mixed_0 : decode cX4_mixed 0 = .ok (.iload_n 1, 1) := by decide +kernel
theorem dX4_mixed_1 : decode cX4_mixed 1 = .ok (.iconst 0, 1) := by decide +kernel
theorem dX4_mixed_2 : decode cX4_mixed 2 = .ok (.iconst 1, 1) := by decide +kernel
theorem dX4_mixed_3 : decode cX4_mixed 3 = .ok (.invokestatic 50, 3) := by decide +kernel
theorem dX4_mixed_6 : decode cX4_mixed 6 = .ok (.iload_n 1, 1) := by decide +kernel
theorem dX4_mixed_7 : decode cX4_mixed 7 = .ok (.ifCond .ne 10, 3) := by decide +kernel
theorem dX4_mixed_10 : decode cX4_mixed 10 = .ok (.aload_n 0, 1) := by decide +kernel
theorem dX4_mixed_11 : decode cX4_mixed 11 = .ok (.getfield 43, 3) := by decide +kernel
theorem dX4_mixed_14 : decode cX4_mixed 14 = .ok (.goto 7, 3) := by decide +kernel
theorem dX4_mixed_17 : decode cX4_mixed 17 = .ok (.aload_n 0, 1) := by decide +kernel
theorem dX4_mixed_18 : decode cX4_mixed 18 = .ok (.getfield 47, 3) := by decide +kernel
theorem dX4_mixed_21 : decode cX4_mixed 21 = .ok (.ireturn, 1) := by decide +kernel
theorem dX4_ship_0 : decode cX4_ship 0 = .ok (.aload_n 0, 1) := by decide +kernel
theorem dX4_ship_1 : decode cX4_ship 1 = .ok (.iload_n 1, 1) := by decide +kernel
theorem dX4_ship_2 : decode cX4_ship 2 = .ok (.invokevirtual 131, 3) := by decide +kernel
theorem dX4_ship_5 : decode cX4_ship 5 = .ok (.iload_n 2, 1) := by decide +kernel
theorem dX4_ship_6 : decode cX4_ship 6 = .ok (.iconst 0, 1) := by decide +kernel
theorem dX4_ship_7 : decode cX4_ship 7 = .ok (.bipush 7, 2) := by decide +kernel
theorem dX4_ship_9 : decode cX4_ship 9 = .ok (.invokestatic 50, 3) := by decide +kernel
theorem dX4_ship_12 : decode cX4_ship 12 = .ok (.iload_n 3, 1) := by decide +kernel
theorem dX4_ship_13 : decode cX4_ship 13 = .ok (.iconst 0, 1) := by decide +kernel
theorem dX4_ship_14 : decode cX4_ship 14 = .ok (.ldc 54, 2) := by decide +kernel
theorem dX4_ship_16 : decode cX4_ship 16 = .ok (.invokestatic 50, 3) := by decide +kernel
theorem dX4_ship_19 : decode cX4_ship 19 = .ok (.aload_n 0, 1) := by decide +kernel
theorem dX4_ship_20 : decode cX4_ship 20 = .ok (.getfield 19, 3) := by decide +kernel
theorem dX4_ship_23 : decode cX4_ship 23 = .ok (.getfield 143, 3) := by decide +kernel
theorem dX4_ship_26 : decode cX4_ship 26 = .ok (.iload_n 1, 1) := by decide +kernel
theorem dX4_ship_27 : decode cX4_ship 27 = .ok (.iaload, 1) := by decide +kernel
theorem dX4_ship_28 : decode cX4_ship 28 = .ok (.istore 4, 2) := by decide +kernel
theorem dX4_ship_30 : decode cX4_ship 30 = .ok (.aload_n 0, 1) := by decide +kernel
theorem dX4_ship_31 : decode cX4_ship 31 = .ok (.getfield 19, 3) := by decide +kernel
theorem dX4_ship_34 : decode cX4_ship 34 = .ok (.iload_n 1, 1) := by decide +kernel
theorem dX4_ship_35 : decode cX4_ship 35 = .ok (.invokevirtual 134, 3) := by decide +kernel
theorem dX4_ship_38 : decode cX4_ship 38 = .ok (.ifCond .ne 18, 3) := by decide +kernel
theorem dX4_ship_41 : decode cX4_ship 41 = .ok (.aload_n 0, 1) := by decide +kernel
theorem dX4_ship_42 : decode cX4_ship 42 = .ok (.iload 4, 2) := by decide +kernel
theorem dX4_ship_44 : decode cX4_ship 44 = .ok (.iload_n 2, 1) := by decide +kernel
theorem dX4_ship_45 : decode cX4_ship 45 = .ok (.iload_n 3, 1) := by decide +kernel
theorem dX4_ship_46 : decode cX4_ship 46 = .ok (.invokevirtual 111, 3) := by decide +kernel
theorem dX4_ship_49 : decode cX4_ship 49 = .ok (.ifCond .eq 7, 3) := by decide +kernel
theorem dX4_ship_52 : decode cX4_ship 52 = .ok (.iconst 1, 1) := by decide +kernel
theorem dX4_ship_53 : decode cX4_ship 53 = .ok (.goto 4, 3) := by decide +kernel
theorem dX4_ship_56 : decode cX4_ship 56 = .ok (.iconst 0, 1) := by decide +kernel
theorem dX4_ship_57 : decode cX4_ship 57 = .ok (.invokestatic 85, 3) := by decide +kernel
theorem dX4_ship_60 : decode cX4_ship 60 = .ok (.aload_n 0, 1) := by decide +kernel
theorem dX4_ship_61 : decode cX4_ship 61 = .ok (.getfield 26, 3) := by decide +kernel
theorem dX4_ship_64 : decode cX4_ship 64 = .ok (.iconst 1, 1) := by decide +kernel
theorem dX4_ship_65 : decode cX4_ship 65 = .ok (.invokevirtual 59, 3) := by decide +kernel
theorem dX4_ship_68 : decode cX4_ship 68 = .ok (.invokestatic 63, 3) := by decide +kernel
theorem dX4_ship_71 : decode cX4_ship 71 = .ok (.aload_n 0, 1) := by decide +kernel
theorem dX4_ship_72 : decode cX4_ship 72 = .ok (.getfield 19, 3) := by decide +kernel
theorem dX4_ship_75 : decode cX4_ship 75 = .ok (.iload_n 1, 1) := by decide +kernel
theorem dX4_ship_76 : decode cX4_ship 76 = .ok (.iload_n 2, 1) := by decide +kernel
theorem dX4_ship_77 : decode cX4_ship 77 = .ok (.iload_n 3, 1) := by decide +kernel
theorem dX4_ship_78 : decode cX4_ship 78 = .ok (.invokevirtual 153, 3) := by decide +kernel
theorem dX4_ship_81 : decode cX4_ship 81 = .ok (.aload_n 0, 1) := by decide +kernel
theorem dX4_ship_82 : decode cX4_ship 82 = .ok (.getfield 26, 3) := by decide +kernel
theorem dX4_ship_85 : decode cX4_ship 85 = .ok (.iload 4, 2) := by decide +kernel
theorem dX4_ship_87 : decode cX4_ship 87 = .ok (.bipush 11, 2) := by decide +kernel
theorem dX4_ship_89 : decode cX4_ship 89 = .ok (.iload_n 1, 1) := by decide +kernel
theorem dX4_ship_90 : decode cX4_ship 90 = .ok (.invokevirtual 71, 3) := by decide +kernel
theorem dX4_ship_93 : decode cX4_ship 93 = .ok (.return_, 1) := by decide +kernel
theorem dX4_recall_0 : decode cX4_recall 0 = .ok (.aload_n 0, 1) := by decide +kernel
theorem dX4_recall_1 : decode cX4_recall 1 = .ok (.iload_n 1, 1) := by decide +kernel
theorem dX4_recall_2 : decode cX4_recall 2 = .ok (.invokevirtual 74, 3) := by decide +kernel
theorem dX4_recall_5 : decode cX4_recall 5 = .ok (.iload_n 2, 1) := by decide +kernel
theorem dX4_recall_6 : decode cX4_recall 6 = .ok (.invokestatic 97, 3) := by decide +kernel
theorem dX4_recall_9 : decode cX4_recall 9 = .ok (.aload_n 0, 1) := by decide +kernel
theorem dX4_recall_10 : decode cX4_recall 10 = .ok (.getfield 19, 3) := by decide +kernel
theorem dX4_recall_13 : decode cX4_recall 13 = .ok (.aload_n 0, 1) := by decide +kernel
theorem dX4_recall_14 : decode cX4_recall 14 = .ok (.getfield 10, 3) := by decide +kernel
theorem dX4_recall_17 : decode cX4_recall 17 = .ok (.iload_n 1, 1) := by decide +kernel
theorem dX4_recall_18 : decode cX4_recall 18 = .ok (.invokevirtual 156, 3) := by decide +kernel
theorem dX4_recall_21 : decode cX4_recall 21 = .ok (.iload_n 2, 1) := by decide +kernel
theorem dX4_recall_22 : decode cX4_recall 22 = .ok (.invokevirtual 160, 3) := by decide +kernel
theorem dX4_recall_25 : decode cX4_recall 25 = .ok (.ireturn, 1) := by decide +kernel
theorem dX4_where_0 : decode cX4_where 0 = .ok (.aload_n 0, 1) := by decide +kernel
theorem dX4_where_1 : decode cX4_where 1 = .ok (.iload_n 1, 1) := by decide +kernel
theorem dX4_where_2 : decode cX4_where 2 = .ok (.invokevirtual 131, 3) := by decide +kernel
theorem dX4_where_5 : decode cX4_where 5 = .ok (.iload_n 2, 1) := by decide +kernel
theorem dX4_where_6 : decode cX4_where 6 = .ok (.tableswitch 70 0 3 #[30, 40, 50, 60], 30) := by decide +kernel
theorem dX4_where_36 : decode cX4_where 36 = .ok (.aload_n 0, 1) := by decide +kernel
theorem dX4_where_37 : decode cX4_where 37 = .ok (.getfield 19, 3) := by decide +kernel
theorem dX4_where_40 : decode cX4_where 40 = .ok (.getfield 143, 3) := by decide +kernel
theorem dX4_where_43 : decode cX4_where 43 = .ok (.iload_n 1, 1) := by decide +kernel
theorem dX4_where_44 : decode cX4_where 44 = .ok (.iaload, 1) := by decide +kernel
theorem dX4_where_45 : decode cX4_where 45 = .ok (.ireturn, 1) := by decide +kernel
theorem dX4_where_46 : decode cX4_where 46 = .ok (.aload_n 0, 1) := by decide +kernel
theorem dX4_where_47 : decode cX4_where 47 = .ok (.getfield 19, 3) := by decide +kernel
theorem dX4_where_50 : decode cX4_where 50 = .ok (.getfield 137, 3) := by decide +kernel
theorem dX4_where_53 : decode cX4_where 53 = .ok (.iload_n 1, 1) := by decide +kernel
theorem dX4_where_54 : decode cX4_where 54 = .ok (.iaload, 1) := by decide +kernel
theorem dX4_where_55 : decode cX4_where 55 = .ok (.ireturn, 1) := by decide +kernel
theorem dX4_where_56 : decode cX4_where 56 = .ok (.aload_n 0, 1) := by decide +kernel
theorem dX4_where_57 : decode cX4_where 57 = .ok (.getfield 19, 3) := by decide +kernel
theorem dX4_where_60 : decode cX4_where 60 = .ok (.getfield 164, 3) := by decide +kernel
theorem dX4_where_63 : decode cX4_where 63 = .ok (.iload_n 1, 1) := by decide +kernel
theorem dX4_where_64 : decode cX4_where 64 = .ok (.iaload, 1) := by decide +kernel
theorem dX4_where_65 : decode cX4_where 65 = .ok (.ireturn, 1) := by decide +kernel
theorem dX4_where_66 : decode cX4_where 66 = .ok (.aload_n 0, 1) := by decide +kernel
theorem dX4_where_67 : decode cX4_where 67 = .ok (.getfield 19, 3) := by decide +kernel
theorem dX4_where_70 : decode cX4_where 70 = .ok (.getfield 167, 3) := by decide +kernel
theorem dX4_where_73 : decode cX4_where 73 = .ok (.iload_n 1, 1) := by decide +kernel
theorem dX4_where_74 : decode cX4_where 74 = .ok (.iaload, 1) := by decide +kernel
theorem dX4_where_75 : decode cX4_where 75 = .ok (.ireturn, 1) := by decide +kernel
theorem dX4_where_76 : decode cX4_where 76 = .ok (.new 170, 3) := by decide +kernel
theorem dX4_where_79 : decode cX4_where 79 = .ok (.dup, 1) := by decide +kernel
theorem dX4_where_80 : decode cX4_where 80 = .ok (.ldc 172, 2) := by decide +kernel
theorem dX4_where_82 : decode cX4_where 82 = .ok (.invokespecial 174, 3) := by decide +kernel
theorem dX4_where_85 : decode cX4_where 85 = .ok (.athrow, 1) := by decide +kernel
theorem dX4_history_0 : decode cX4_history 0 = .ok (.aload_n 0, 1) := by decide +kernel
theorem dX4_history_1 : decode cX4_history 1 = .ok (.iload_n 1, 1) := by decide +kernel
theorem dX4_history_2 : decode cX4_history 2 = .ok (.invokevirtual 74, 3) := by decide +kernel
theorem dX4_history_5 : decode cX4_history 5 = .ok (.aload_n 0, 1) := by decide +kernel
theorem dX4_history_6 : decode cX4_history 6 = .ok (.getfield 26, 3) := by decide +kernel
theorem dX4_history_9 : decode cX4_history 9 = .ok (.iload_n 1, 1) := by decide +kernel
theorem dX4_history_10 : decode cX4_history 10 = .ok (.iload_n 2, 1) := by decide +kernel
theorem dX4_history_11 : decode cX4_history 11 = .ok (.invokevirtual 175, 3) := by decide +kernel
theorem dX4_history_14 : decode cX4_history 14 = .ok (.istore 4, 2) := by decide +kernel
theorem dX4_history_16 : decode cX4_history 16 = .ok (.iload 4, 2) := by decide +kernel
theorem dX4_history_18 : decode cX4_history 18 = .ok (.iconst (-1), 1) := by decide +kernel
theorem dX4_history_19 : decode cX4_history 19 = .ok (.if_icmp .ne 13, 3) := by decide +kernel
theorem dX4_history_22 : decode cX4_history 22 = .ok (.new 178, 3) := by decide +kernel
theorem dX4_history_25 : decode cX4_history 25 = .ok (.dup, 1) := by decide +kernel
theorem dX4_history_26 : decode cX4_history 26 = .ok (.ldc 180, 2) := by decide +kernel
theorem dX4_history_28 : decode cX4_history 28 = .ok (.invokespecial 182, 3) := by decide +kernel
theorem dX4_history_31 : decode cX4_history 31 = .ok (.athrow, 1) := by decide +kernel
theorem dX4_history_32 : decode cX4_history 32 = .ok (.iload_n 3, 1) := by decide +kernel
theorem dX4_history_33 : decode cX4_history 33 = .ok (.iconst 0, 1) := by decide +kernel
theorem dX4_history_34 : decode cX4_history 34 = .ok (.iconst 1, 1) := by decide +kernel
theorem dX4_history_35 : decode cX4_history 35 = .ok (.invokestatic 50, 3) := by decide +kernel
theorem dX4_history_38 : decode cX4_history 38 = .ok (.iload_n 3, 1) := by decide +kernel
theorem dX4_history_39 : decode cX4_history 39 = .ok (.ifCond .ne 16, 3) := by decide +kernel
theorem dX4_history_42 : decode cX4_history 42 = .ok (.aload_n 0, 1) := by decide +kernel
theorem dX4_history_43 : decode cX4_history 43 = .ok (.getfield 26, 3) := by decide +kernel
theorem dX4_history_46 : decode cX4_history 46 = .ok (.getfield 183, 3) := by decide +kernel
theorem dX4_history_49 : decode cX4_history 49 = .ok (.iload 4, 2) := by decide +kernel
theorem dX4_history_51 : decode cX4_history 51 = .ok (.iaload, 1) := by decide +kernel
theorem dX4_history_52 : decode cX4_history 52 = .ok (.goto 13, 3) := by decide +kernel
theorem dX4_history_55 : decode cX4_history 55 = .ok (.aload_n 0, 1) := by decide +kernel
theorem dX4_history_56 : decode cX4_history 56 = .ok (.getfield 26, 3) := by decide +kernel
theorem dX4_history_59 : decode cX4_history 59 = .ok (.getfield 186, 3) := by decide +kernel
theorem dX4_history_62 : decode cX4_history 62 = .ok (.iload 4, 2) := by decide +kernel
theorem dX4_history_64 : decode cX4_history 64 = .ok (.iaload, 1) := by decide +kernel
theorem dX4_history_65 : decode cX4_history 65 = .ok (.ireturn, 1) := by decide +kernel
theorem dX4_told_0 : decode cX4_told 0 = .ok (.aload_n 0, 1) := by decide +kernel
theorem dX4_told_1 : decode cX4_told 1 = .ok (.iload_n 1, 1) := by decide +kernel
theorem dX4_told_2 : decode cX4_told 2 = .ok (.invokevirtual 74, 3) := by decide +kernel
theorem dX4_told_5 : decode cX4_told 5 = .ok (.iload_n 2, 1) := by decide +kernel
theorem dX4_told_6 : decode cX4_told 6 = .ok (.tableswitch 141 0 7 #[46, 56, 66, 76, 86, 104, 114, 132], 46) := by decide +kernel
theorem dX4_told_52 : decode cX4_told 52 = .ok (.aload_n 0, 1) := by decide +kernel
theorem dX4_told_53 : decode cX4_told 53 = .ok (.getfield 10, 3) := by decide +kernel
theorem dX4_told_56 : decode cX4_told 56 = .ok (.getfield 189, 3) := by decide +kernel
theorem dX4_told_59 : decode cX4_told 59 = .ok (.iload_n 1, 1) := by decide +kernel
theorem dX4_told_60 : decode cX4_told 60 = .ok (.iaload, 1) := by decide +kernel
theorem dX4_told_61 : decode cX4_told 61 = .ok (.ireturn, 1) := by decide +kernel
theorem dX4_told_62 : decode cX4_told 62 = .ok (.aload_n 0, 1) := by decide +kernel
theorem dX4_told_63 : decode cX4_told 63 = .ok (.getfield 10, 3) := by decide +kernel
theorem dX4_told_66 : decode cX4_told 66 = .ok (.getfield 192, 3) := by decide +kernel
theorem dX4_told_69 : decode cX4_told 69 = .ok (.iload_n 1, 1) := by decide +kernel
theorem dX4_told_70 : decode cX4_told 70 = .ok (.iaload, 1) := by decide +kernel
theorem dX4_told_71 : decode cX4_told 71 = .ok (.ireturn, 1) := by decide +kernel
theorem dX4_told_72 : decode cX4_told 72 = .ok (.aload_n 0, 1) := by decide +kernel
theorem dX4_told_73 : decode cX4_told 73 = .ok (.getfield 10, 3) := by decide +kernel
theorem dX4_told_76 : decode cX4_told 76 = .ok (.getfield 195, 3) := by decide +kernel
theorem dX4_told_79 : decode cX4_told 79 = .ok (.iload_n 1, 1) := by decide +kernel
theorem dX4_told_80 : decode cX4_told 80 = .ok (.iaload, 1) := by decide +kernel
theorem dX4_told_81 : decode cX4_told 81 = .ok (.ireturn, 1) := by decide +kernel
theorem dX4_told_82 : decode cX4_told 82 = .ok (.aload_n 0, 1) := by decide +kernel
theorem dX4_told_83 : decode cX4_told 83 = .ok (.getfield 10, 3) := by decide +kernel
theorem dX4_told_86 : decode cX4_told 86 = .ok (.getfield 198, 3) := by decide +kernel
theorem dX4_told_89 : decode cX4_told 89 = .ok (.iload_n 1, 1) := by decide +kernel
theorem dX4_told_90 : decode cX4_told 90 = .ok (.iaload, 1) := by decide +kernel
theorem dX4_told_91 : decode cX4_told 91 = .ok (.ireturn, 1) := by decide +kernel
theorem dX4_told_92 : decode cX4_told 92 = .ok (.aload_n 0, 1) := by decide +kernel
theorem dX4_told_93 : decode cX4_told 93 = .ok (.getfield 10, 3) := by decide +kernel
theorem dX4_told_96 : decode cX4_told 96 = .ok (.getfield 78, 3) := by decide +kernel
theorem dX4_told_99 : decode cX4_told 99 = .ok (.iload_n 1, 1) := by decide +kernel
theorem dX4_told_100 : decode cX4_told 100 = .ok (.baload, 1) := by decide +kernel
theorem dX4_told_101 : decode cX4_told 101 = .ok (.ifCond .eq 7, 3) := by decide +kernel
theorem dX4_told_104 : decode cX4_told 104 = .ok (.iconst 1, 1) := by decide +kernel
theorem dX4_told_105 : decode cX4_told 105 = .ok (.goto 4, 3) := by decide +kernel
theorem dX4_told_108 : decode cX4_told 108 = .ok (.iconst 0, 1) := by decide +kernel
theorem dX4_told_109 : decode cX4_told 109 = .ok (.ireturn, 1) := by decide +kernel
theorem dX4_told_110 : decode cX4_told 110 = .ok (.aload_n 0, 1) := by decide +kernel
theorem dX4_told_111 : decode cX4_told 111 = .ok (.getfield 10, 3) := by decide +kernel
theorem dX4_told_114 : decode cX4_told 114 = .ok (.getfield 82, 3) := by decide +kernel
theorem dX4_told_117 : decode cX4_told 117 = .ok (.iload_n 1, 1) := by decide +kernel
theorem dX4_told_118 : decode cX4_told 118 = .ok (.iaload, 1) := by decide +kernel
theorem dX4_told_119 : decode cX4_told 119 = .ok (.ireturn, 1) := by decide +kernel
theorem dX4_told_120 : decode cX4_told 120 = .ok (.aload_n 0, 1) := by decide +kernel
theorem dX4_told_121 : decode cX4_told 121 = .ok (.getfield 10, 3) := by decide +kernel
theorem dX4_told_124 : decode cX4_told 124 = .ok (.getfield 94, 3) := by decide +kernel
theorem dX4_told_127 : decode cX4_told 127 = .ok (.iload_n 1, 1) := by decide +kernel
theorem dX4_told_128 : decode cX4_told 128 = .ok (.baload, 1) := by decide +kernel
theorem dX4_told_129 : decode cX4_told 129 = .ok (.ifCond .eq 7, 3) := by decide +kernel
theorem dX4_told_132 : decode cX4_told 132 = .ok (.iconst 1, 1) := by decide +kernel
theorem dX4_told_133 : decode cX4_told 133 = .ok (.goto 4, 3) := by decide +kernel
theorem dX4_told_136 : decode cX4_told 136 = .ok (.iconst 0, 1) := by decide +kernel
theorem dX4_told_137 : decode cX4_told 137 = .ok (.ireturn, 1) := by decide +kernel
theorem dX4_told_138 : decode cX4_told 138 = .ok (.aload_n 0, 1) := by decide +kernel
theorem dX4_told_139 : decode cX4_told 139 = .ok (.getfield 19, 3) := by decide +kernel
theorem dX4_told_142 : decode cX4_told 142 = .ok (.iload_n 1, 1) := by decide +kernel
theorem dX4_told_143 : decode cX4_told 143 = .ok (.invokevirtual 201, 3) := by decide +kernel
theorem dX4_told_146 : decode cX4_told 146 = .ok (.ireturn, 1) := by decide +kernel
theorem dX4_told_147 : decode cX4_told 147 = .ok (.new 170, 3) := by decide +kernel
theorem dX4_told_150 : decode cX4_told 150 = .ok (.dup, 1) := by decide +kernel
theorem dX4_told_151 : decode cX4_told 151 = .ok (.ldc 204, 2) := by decide +kernel
theorem dX4_told_153 : decode cX4_told 153 = .ok (.invokespecial 174, 3) := by decide +kernel
theorem dX4_told_156 : decode cX4_told 156 = .ok (.athrow, 1) := by decide +kernel
theorem dX4_day_0 : decode cX4_day 0 = .ok (.iload_n 1, 1) := by decide +kernel
theorem dX4_day_1 : decode cX4_day 1 = .ok (.iconst 0, 1) := by decide +kernel
theorem dX4_day_2 : decode cX4_day 2 = .ok (.iconst 2, 1) := by decide +kernel
theorem dX4_day_3 : decode cX4_day 3 = .ok (.invokestatic 50, 3) := by decide +kernel
theorem dX4_day_6 : decode cX4_day 6 = .ok (.iload_n 2, 1) := by decide +kernel
theorem dX4_day_7 : decode cX4_day 7 = .ok (.iconst 0, 1) := by decide +kernel
theorem dX4_day_8 : decode cX4_day 8 = .ok (.iload_n 1, 1) := by decide +kernel
theorem dX4_day_9 : decode cX4_day 9 = .ok (.iconst 2, 1) := by decide +kernel
theorem dX4_day_10 : decode cX4_day 10 = .ok (.if_icmp .ne 8, 3) := by decide +kernel
theorem dX4_day_13 : decode cX4_day 13 = .ok (.ldc 206, 2) := by decide +kernel
theorem dX4_day_15 : decode cX4_day 15 = .ok (.goto 5, 3) := by decide +kernel
theorem dX4_day_18 : decode cX4_day 18 = .ok (.ldc 207, 2) := by decide +kernel
theorem dX4_day_20 : decode cX4_day 20 = .ok (.invokestatic 50, 3) := by decide +kernel
theorem dX4_day_23 : decode cX4_day 23 = .ok (.iload_n 1, 1) := by decide +kernel
theorem dX4_day_24 : decode cX4_day 24 = .ok (.iconst 2, 1) := by decide +kernel
theorem dX4_day_25 : decode cX4_day 25 = .ok (.if_icmp .ne 17, 3) := by decide +kernel
theorem dX4_day_28 : decode cX4_day 28 = .ok (.iload_n 2, 1) := by decide +kernel
theorem dX4_day_29 : decode cX4_day 29 = .ok (.sipush 1000, 3) := by decide +kernel
theorem dX4_day_32 : decode cX4_day 32 = .ok (.idiv, 1) := by decide +kernel
theorem dX4_day_33 : decode cX4_day 33 = .ok (.iload_n 2, 1) := by decide +kernel
theorem dX4_day_34 : decode cX4_day 34 = .ok (.sipush 1000, 3) := by decide +kernel
theorem dX4_day_37 : decode cX4_day 37 = .ok (.irem, 1) := by decide +kernel
theorem dX4_day_38 : decode cX4_day 38 = .ok (.invokestatic 208, 3) := by decide +kernel
theorem dX4_day_41 : decode cX4_day 41 = .ok (.ireturn, 1) := by decide +kernel
theorem dX4_day_42 : decode cX4_day 42 = .ok (.iload_n 2, 1) := by decide +kernel
theorem dX4_day_43 : decode cX4_day 43 = .ok (.sipush 10000, 3) := by decide +kernel
theorem dX4_day_46 : decode cX4_day 46 = .ok (.idiv, 1) := by decide +kernel
theorem dX4_day_47 : decode cX4_day 47 = .ok (.istore_n 3, 1) := by decide +kernel
theorem dX4_day_48 : decode cX4_day 48 = .ok (.iload_n 2, 1) := by decide +kernel
theorem dX4_day_49 : decode cX4_day 49 = .ok (.bipush 100, 2) := by decide +kernel
theorem dX4_day_51 : decode cX4_day 51 = .ok (.idiv, 1) := by decide +kernel
theorem dX4_day_52 : decode cX4_day 52 = .ok (.bipush 100, 2) := by decide +kernel
theorem dX4_day_54 : decode cX4_day 54 = .ok (.irem, 1) := by decide +kernel
theorem dX4_day_55 : decode cX4_day 55 = .ok (.istore 4, 2) := by decide +kernel
theorem dX4_day_57 : decode cX4_day 57 = .ok (.iload_n 2, 1) := by decide +kernel
theorem dX4_day_58 : decode cX4_day 58 = .ok (.bipush 100, 2) := by decide +kernel
theorem dX4_day_60 : decode cX4_day 60 = .ok (.irem, 1) := by decide +kernel
theorem dX4_day_61 : decode cX4_day 61 = .ok (.istore 5, 2) := by decide +kernel
theorem dX4_day_63 : decode cX4_day 63 = .ok (.iload_n 1, 1) := by decide +kernel
theorem dX4_day_64 : decode cX4_day 64 = .ok (.iconst 1, 1) := by decide +kernel
theorem dX4_day_65 : decode cX4_day 65 = .ok (.if_icmp .ne 14, 3) := by decide +kernel
theorem dX4_day_68 : decode cX4_day 68 = .ok (.iload 5, 2) := by decide +kernel
theorem dX4_day_70 : decode cX4_day 70 = .ok (.iload 4, 2) := by decide +kernel
theorem dX4_day_72 : decode cX4_day 72 = .ok (.iload_n 3, 1) := by decide +kernel
theorem dX4_day_73 : decode cX4_day 73 = .ok (.invokestatic 213, 3) := by decide +kernel
theorem dX4_day_76 : decode cX4_day 76 = .ok (.goto 11, 3) := by decide +kernel
theorem dX4_day_79 : decode cX4_day 79 = .ok (.iload_n 3, 1) := by decide +kernel
theorem dX4_day_80 : decode cX4_day 80 = .ok (.iload 4, 2) := by decide +kernel
theorem dX4_day_82 : decode cX4_day 82 = .ok (.iload 5, 2) := by decide +kernel
theorem dX4_day_84 : decode cX4_day 84 = .ok (.invokestatic 213, 3) := by decide +kernel
theorem dX4_day_87 : decode cX4_day 87 = .ok (.ireturn, 1) := by decide +kernel
theorem dX4_date_0 : decode cX4_date 0 = .ok (.iload_n 1, 1) := by decide +kernel
theorem dX4_date_1 : decode cX4_date 1 = .ok (.iconst 0, 1) := by decide +kernel
theorem dX4_date_2 : decode cX4_date 2 = .ok (.iconst 2, 1) := by decide +kernel
theorem dX4_date_3 : decode cX4_date 3 = .ok (.invokestatic 50, 3) := by decide +kernel
theorem dX4_date_6 : decode cX4_date 6 = .ok (.iload_n 2, 1) := by decide +kernel
theorem dX4_date_7 : decode cX4_date 7 = .ok (.iconst 0, 1) := by decide +kernel
theorem dX4_date_8 : decode cX4_date 8 = .ok (.ldc 54, 2) := by decide +kernel
theorem dX4_date_10 : decode cX4_date 10 = .ok (.invokestatic 50, 3) := by decide +kernel
theorem dX4_date_13 : decode cX4_date 13 = .ok (.iload_n 2, 1) := by decide +kernel
theorem dX4_date_14 : decode cX4_date 14 = .ok (.invokestatic 217, 3) := by decide +kernel
theorem dX4_date_17 : decode cX4_date 17 = .ok (.istore_n 3, 1) := by decide +kernel
theorem dX4_date_18 : decode cX4_date 18 = .ok (.iload_n 2, 1) := by decide +kernel
theorem dX4_date_19 : decode cX4_date 19 = .ok (.iload_n 3, 1) := by decide +kernel
theorem dX4_date_20 : decode cX4_date 20 = .ok (.invokestatic 220, 3) := by decide +kernel
theorem dX4_date_23 : decode cX4_date 23 = .ok (.isub, 1) := by decide +kernel
theorem dX4_date_24 : decode cX4_date 24 = .ok (.iconst 1, 1) := by decide +kernel
theorem dX4_date_25 : decode cX4_date 25 = .ok (.iadd, 1) := by decide +kernel
theorem dX4_date_26 : decode cX4_date 26 = .ok (.istore 4, 2) := by decide +kernel
theorem dX4_date_28 : decode cX4_date 28 = .ok (.iload_n 1, 1) := by decide +kernel
theorem dX4_date_29 : decode cX4_date 29 = .ok (.iconst 2, 1) := by decide +kernel
theorem dX4_date_30 : decode cX4_date 30 = .ok (.if_icmp .ne 12, 3) := by decide +kernel
theorem dX4_date_33 : decode cX4_date 33 = .ok (.iload_n 3, 1) := by decide +kernel
theorem dX4_date_34 : decode cX4_date 34 = .ok (.sipush 1000, 3) := by decide +kernel
theorem dX4_date_37 : decode cX4_date 37 = .ok (.imul, 1) := by decide +kernel
theorem dX4_date_38 : decode cX4_date 38 = .ok (.iload 4, 2) := by decide +kernel
theorem dX4_date_40 : decode cX4_date 40 = .ok (.iadd, 1) := by decide +kernel
theorem dX4_date_41 : decode cX4_date 41 = .ok (.ireturn, 1) := by decide +kernel
theorem dX4_date_42 : decode cX4_date 42 = .ok (.iload_n 3, 1) := by decide +kernel
theorem dX4_date_43 : decode cX4_date 43 = .ok (.iload 4, 2) := by decide +kernel
theorem dX4_date_45 : decode cX4_date 45 = .ok (.invokestatic 223, 3) := by decide +kernel
theorem dX4_date_48 : decode cX4_date 48 = .ok (.istore 5, 2) := by decide +kernel
theorem dX4_date_50 : decode cX4_date 50 = .ok (.iload 4, 2) := by decide +kernel
theorem dX4_date_52 : decode cX4_date 52 = .ok (.iload_n 3, 1) := by decide +kernel
theorem dX4_date_53 : decode cX4_date 53 = .ok (.iload 5, 2) := by decide +kernel
theorem dX4_date_55 : decode cX4_date 55 = .ok (.invokestatic 226, 3) := by decide +kernel
theorem dX4_date_58 : decode cX4_date 58 = .ok (.isub, 1) := by decide +kernel
theorem dX4_date_59 : decode cX4_date 59 = .ok (.istore 6, 2) := by decide +kernel
theorem dX4_date_61 : decode cX4_date 61 = .ok (.iload_n 1, 1) := by decide +kernel
theorem dX4_date_62 : decode cX4_date 62 = .ok (.iconst 1, 1) := by decide +kernel
theorem dX4_date_63 : decode cX4_date 63 = .ok (.if_icmp .ne 20, 3) := by decide +kernel
theorem dX4_date_66 : decode cX4_date 66 = .ok (.iload 6, 2) := by decide +kernel
theorem dX4_date_68 : decode cX4_date 68 = .ok (.sipush 10000, 3) := by decide +kernel
theorem dX4_date_71 : decode cX4_date 71 = .ok (.imul, 1) := by decide +kernel
theorem dX4_date_72 : decode cX4_date 72 = .ok (.iload 5, 2) := by decide +kernel
theorem dX4_date_74 : decode cX4_date 74 = .ok (.bipush 100, 2) := by decide +kernel
theorem dX4_date_76 : decode cX4_date 76 = .ok (.imul, 1) := by decide +kernel
theorem dX4_date_77 : decode cX4_date 77 = .ok (.iadd, 1) := by decide +kernel
theorem dX4_date_78 : decode cX4_date 78 = .ok (.iload_n 3, 1) := by decide +kernel
theorem dX4_date_79 : decode cX4_date 79 = .ok (.iadd, 1) := by decide +kernel
theorem dX4_date_80 : decode cX4_date 80 = .ok (.goto 17, 3) := by decide +kernel
theorem dX4_date_83 : decode cX4_date 83 = .ok (.iload_n 3, 1) := by decide +kernel
theorem dX4_date_84 : decode cX4_date 84 = .ok (.sipush 10000, 3) := by decide +kernel
theorem dX4_date_87 : decode cX4_date 87 = .ok (.imul, 1) := by decide +kernel
theorem dX4_date_88 : decode cX4_date 88 = .ok (.iload 5, 2) := by decide +kernel
theorem dX4_date_90 : decode cX4_date 90 = .ok (.bipush 100, 2) := by decide +kernel
theorem dX4_date_92 : decode cX4_date 92 = .ok (.imul, 1) := by decide +kernel
theorem dX4_date_93 : decode cX4_date 93 = .ok (.iadd, 1) := by decide +kernel
theorem dX4_date_94 : decode cX4_date 94 = .ok (.iload 6, 2) := by decide +kernel
theorem dX4_date_96 : decode cX4_date 96 = .ok (.iadd, 1) := by decide +kernel
theorem dX4_date_97 : decode cX4_date 97 = .ok (.ireturn, 1) := by decide +kernel
end
section
/-! one list of words for all methods: what of the tables is good -/
theorem mt_1 {w : Cond} (h : w ∈ tables_1_1) : w ∈ lw_tbl := List.mem_append_right _ (List.mem_append_left _ h)
theorem mt_2 {w : Cond} (h : w ∈ tables_1_2) : w ∈ lw_tbl := List.mem_append_right _ (List.mem_append_right _ (List.mem_append_left _ h))
theorem mt_3 {w : Cond} (h : w ∈ tables_1_3) : w ∈ lw_tbl := List.mem_append_right _ (List.mem_append_right _ (List.mem_append_right _ (List.mem_append_left _ h)))
theorem mt_4 {w : Cond} (h : w ∈ tables_1_4) : w ∈ lw_tbl := List.mem_append_right _ (List.mem_append_right _ (List.mem_append_right _ (List.mem_append_right _ h)))
def WS : List Cond := lw_tbl.filter goodWord
theorem ws_in {w : Cond} (h : w ∈ lw_tbl) (g : goodWord w = true) : w ∈ WS := List.mem_filter.mpr ⟨h, g⟩
theorem ws_of {w : Cond} (h : w ∈ WS) : w ∈ lw_tbl := (List.mem_filter.mp h).1
theorem gd_1 {c w : Cond} (h : w ∈ WS) : w ∈ (c :: WS) ∧ ((w.onTables && w.keeps) = true ∨ ∃ ty, w = .arrayClass ty) := ⟨List.mem_cons_of_mem _ h, good_of_word (List.mem_filter.mp h).2⟩
theorem gd_c {c w c2 : Cond} (f : c2 ∈ WS) (h : w ∈ c2 :: WS) : w ∈ (c :: WS) ∧ ((w.onTables && w.keeps) = true ∨ ∃ ty, w = .arrayClass ty) := (List.mem_cons.mp h).elim (fun e => by rw [e]; exact gd_1 f) gd_1
theorem gI {c c2 : Cond} (f : c2 ∈ WS) : GoodIn (c :: WS) (c2 :: WS) := fun w h => gd_c f h
theorem gV {c c2 : Cond} {own C : String} {k : Nat} {y : MethodName} (a : .methodLink own k y ∈ WS) (b : .instanceMethod y ∈ WS) (d : .selects C y y ∈ WS) (e : .initialized C ∈ WS) (f : c2 ∈ WS) : GoodIn (c :: WS) (wsV own k C y (c2 :: WS)) := by
  intro w hw
  rcases List.mem_append.mp hw with h | h
  · simp only [List.mem_cons, List.not_mem_nil, or_false] at h
    rcases h with rfl | rfl | rfl | rfl
    · exact gd_1 a
    · exact gd_1 b
    · exact gd_1 d
    · exact gd_1 e
  · exact gd_c f h
theorem gS {c c2 : Cond} {own : String} {k : Nat} {y : MethodName} (a : .methodLink own k y ∈ WS) (b : .static y ∈ WS) (e : .initialized own ∈ WS) (f : c2 ∈ WS) : GoodIn (c :: WS) (wsS own k y (c2 :: WS)) := by
  intro w hw
  rcases List.mem_append.mp hw with h | h
  · simp only [List.mem_cons, List.not_mem_nil, or_false] at h
    rcases h with rfl | rfl | rfl
    · exact gd_1 a
    · exact gd_1 b
    · exact gd_1 e
  · exact gd_c f h
theorem gT {c c2 : Cond} {own : String} {k : Nat} {y : MethodName} (a : .methodLink own k y ∈ WS) (b : .static y ∈ WS) (e : .initialized y.cls ∈ WS) (f : c2 ∈ WS) : GoodIn (c :: WS) (va_wsS own k y (c2 :: WS)) := by
  intro w hw
  rcases List.mem_append.mp hw with h | h
  · simp only [List.mem_cons, List.not_mem_nil, or_false] at h
    rcases h with rfl | rfl | rfl
    · exact gd_1 a
    · exact gd_1 b
    · exact gd_1 e
  · exact gd_c f h
theorem fi_X1 (c : Cond) : ∀ w ∈ u_ws RX1 TX1 9, w ∈ c :: WS := fun w h => List.mem_cons_of_mem _ (ws_in ((by decide +kernel : ∀ w ∈ u_ws RX1 TX1 9, w ∈ lw_tbl) w h) ((by decide +kernel : ∀ w ∈ u_ws RX1 TX1 9, goodWord w = true) w h))
theorem fi_X2 (c : Cond) : ∀ w ∈ u_ws RX2 TX2 4, w ∈ c :: WS := fun w h => List.mem_cons_of_mem _ (ws_in ((by decide +kernel : ∀ w ∈ u_ws RX2 TX2 4, w ∈ lw_tbl) w h) ((by decide +kernel : ∀ w ∈ u_ws RX2 TX2 4, goodWord w = true) w h))
theorem fi_X3 (c : Cond) : ∀ w ∈ u_ws RX3 TX3 7, w ∈ c :: WS := fun w h => List.mem_cons_of_mem _ (ws_in ((by decide +kernel : ∀ w ∈ u_ws RX3 TX3 7, w ∈ lw_tbl) w h) ((by decide +kernel : ∀ w ∈ u_ws RX3 TX3 7, goodWord w = true) w h))
theorem fi_X4 (c : Cond) : ∀ w ∈ u_ws RX4 TX4 9, w ∈ c :: WS := fun w h => List.mem_cons_of_mem _ (ws_in ((by decide +kernel : ∀ w ∈ u_ws RX4 TX4 9, w ∈ lw_tbl) w h) ((by decide +kernel : ∀ w ∈ u_ws RX4 TX4 9, goodWord w = true) w h))
abbrev vwCl : List vw_C := [(RX1, TX1, 9), (RX2, TX2, 4), (RX3, TX3, 7), (RX4, TX4, 9), (RX5, TX5, 26)]
theorem wcobj : (.code objectInit ⟨#[0xb1]⟩ 1 none : Cond) ∈ WS := ws_in (mt_1 (List.mem_of_getElem? (i := 23) rfl)) rfl
theorem wcabs : (.code Lib.Math.abs.name Lib.Math.abs.code 1 (some .int) : Cond) ∈ WS := ws_in (mt_2 (List.mem_of_getElem? (i := 239) rfl)) rfl
theorem at_1 : ∀ w ∈ (nx_at).filter goodWord, w ∈ WS := fun w h => ws_in ((by decide +kernel : ∀ w ∈ (nx_at).filter goodWord, w ∈ lw_tbl) w h) (List.mem_filter.mp h).2
theorem bt_1 : ∀ w ∈ (nx_at).filter (fun w => !goodWord w), w ∈ ([.castable "java/util/NoSuchElementException" "java/util/NoSuchElementException", .declares ⟨"java/lang/RuntimeException", "<init>", "(Ljava/lang/String;)V"⟩, .declares ⟨"java/lang/Exception", "<init>", "(Ljava/lang/String;)V"⟩, .declares ⟨"java/lang/Throwable", "<init>", "(Ljava/lang/String;)V"⟩] : List Cond) := by decide +kernel
theorem gt_1 : ∀ w ∈ Cond.classLink RX4 178 "java/util/NoSuchElementException" :: Cond.initialized "java/util/NoSuchElementException" :: nx_at, vx_ot w = true := by decide +kernel
theorem at_2 : ∀ w ∈ (vx_atS RX4 174 "java/lang/IllegalArgumentException" ["java/lang/RuntimeException", "java/lang/Exception"]).filter goodWord, w ∈ WS := fun w h => ws_in ((by decide +kernel : ∀ w ∈ (vx_atS RX4 174 "java/lang/IllegalArgumentException" ["java/lang/RuntimeException", "java/lang/Exception"]).filter goodWord, w ∈ lw_tbl) w h) (List.mem_filter.mp h).2
theorem bt_2 : ∀ w ∈ (vx_atS RX4 174 "java/lang/IllegalArgumentException" ["java/lang/RuntimeException", "java/lang/Exception"]).filter (fun w => !goodWord w), w ∈ ([.castable "java/lang/IllegalArgumentException" "java/lang/IllegalArgumentException", .declares ⟨"java/lang/RuntimeException", "<init>", "(Ljava/lang/String;)V"⟩, .declares ⟨"java/lang/Exception", "<init>", "(Ljava/lang/String;)V"⟩, .declares ⟨"java/lang/Throwable", "<init>", "(Ljava/lang/String;)V"⟩] : List Cond) := by decide +kernel
theorem gt_2 : ∀ w ∈ Cond.classLink RX4 170 "java/lang/IllegalArgumentException" :: Cond.initialized "java/lang/IllegalArgumentException" :: vx_atS RX4 174 "java/lang/IllegalArgumentException" ["java/lang/RuntimeException", "java/lang/Exception"], vx_ot w = true := by decide +kernel
theorem at_3 : ∀ w ∈ (vx_atS RX4 150 "java/lang/IllegalStateException" ["java/lang/RuntimeException", "java/lang/Exception"]).filter goodWord, w ∈ WS := fun w h => ws_in ((by decide +kernel : ∀ w ∈ (vx_atS RX4 150 "java/lang/IllegalStateException" ["java/lang/RuntimeException", "java/lang/Exception"]).filter goodWord, w ∈ lw_tbl) w h) (List.mem_filter.mp h).2
theorem bt_3 : ∀ w ∈ (vx_atS RX4 150 "java/lang/IllegalStateException" ["java/lang/RuntimeException", "java/lang/Exception"]).filter (fun w => !goodWord w), w ∈ ([.castable "java/lang/IllegalStateException" "java/lang/IllegalStateException", .declares ⟨"java/lang/RuntimeException", "<init>", "(Ljava/lang/String;)V"⟩, .declares ⟨"java/lang/Exception", "<init>", "(Ljava/lang/String;)V"⟩, .declares ⟨"java/lang/Throwable", "<init>", "(Ljava/lang/String;)V"⟩] : List Cond) := by decide +kernel
theorem gt_3 : ∀ w ∈ Cond.classLink RX4 146 "java/lang/IllegalStateException" :: Cond.initialized "java/lang/IllegalStateException" :: vx_atS RX4 150 "java/lang/IllegalStateException" ["java/lang/RuntimeException", "java/lang/Exception"], vx_ot w = true := by decide +kernel
theorem at_4 : ∀ w ∈ (vx_atS RX4 256 "java/lang/UnsupportedOperationException" ["java/lang/RuntimeException", "java/lang/Exception"]).filter goodWord, w ∈ WS := fun w h => ws_in ((by decide +kernel : ∀ w ∈ (vx_atS RX4 256 "java/lang/UnsupportedOperationException" ["java/lang/RuntimeException", "java/lang/Exception"]).filter goodWord, w ∈ lw_tbl) w h) (List.mem_filter.mp h).2
theorem bt_4 : ∀ w ∈ (vx_atS RX4 256 "java/lang/UnsupportedOperationException" ["java/lang/RuntimeException", "java/lang/Exception"]).filter (fun w => !goodWord w), w ∈ ([.castable "java/lang/UnsupportedOperationException" "java/lang/UnsupportedOperationException", .declares ⟨"java/lang/RuntimeException", "<init>", "(Ljava/lang/String;)V"⟩, .declares ⟨"java/lang/Exception", "<init>", "(Ljava/lang/String;)V"⟩, .declares ⟨"java/lang/Throwable", "<init>", "(Ljava/lang/String;)V"⟩] : List Cond) := by decide +kernel
theorem gt_4 : ∀ w ∈ Cond.classLink RX4 252 "java/lang/UnsupportedOperationException" :: Cond.initialized "java/lang/UnsupportedOperationException" :: vx_atS RX4 256 "java/lang/UnsupportedOperationException" ["java/lang/RuntimeException", "java/lang/Exception"], vx_ot w = true := by decide +kernel
theorem wd_0 : (.constant RJ6 265 1431655765 : Cond) ∈ WS := ws_in (mt_2 (List.mem_of_getElem? (i := 106) (by decide +kernel))) (by decide +kernel)
theorem wd_1 : (.constant RJ6 266 858993459 : Cond) ∈ WS := ws_in (mt_2 (List.mem_of_getElem? (i := 107) (by decide +kernel))) (by decide +kernel)
theorem wd_2 : (.constant RJ6 267 252645135 : Cond) ∈ WS := ws_in (mt_2 (List.mem_of_getElem? (i := 108) (by decide +kernel))) (by decide +kernel)
theorem wd_3 : (.classLink RX4 170 "java/lang/IllegalArgumentException" : Cond) ∈ WS := ws_in (mt_1 (List.mem_of_getElem? (i := 169) (by decide +kernel))) (by decide +kernel)
theorem wd_4 : (.initialized "java/lang/IllegalArgumentException" : Cond) ∈ WS := ws_in (mt_1 (List.mem_of_getElem? (i := 9) (by decide +kernel))) (by decide +kernel)
theorem wd_5 : (.classLink RX4 146 "java/lang/IllegalStateException" : Cond) ∈ WS := ws_in (mt_2 (List.mem_of_getElem? (i := 87) (by decide +kernel))) (by decide +kernel)
theorem wd_6 : (.initialized "java/lang/IllegalStateException" : Cond) ∈ WS := ws_in (mt_1 (List.mem_of_getElem? (i := 12) (by decide +kernel))) (by decide +kernel)
theorem wd_7 : (.classLink RX4 252 "java/lang/UnsupportedOperationException" : Cond) ∈ WS := ws_in (mt_2 (List.mem_of_getElem? (i := 10) (by decide +kernel))) (by decide +kernel)
theorem wd_8 : (.initialized "java/lang/UnsupportedOperationException" : Cond) ∈ WS := ws_in (mt_1 (List.mem_of_getElem? (i := 10) (by decide +kernel))) (by decide +kernel)
theorem wd_9 : (.classLink RX4 178 "java/util/NoSuchElementException" : Cond) ∈ WS := ws_in (mt_2 (List.mem_of_getElem? (i := 68) (by decide +kernel))) (by decide +kernel)
theorem wd_10 : (.initialized "java/util/NoSuchElementException" : Cond) ∈ WS := ws_in (mt_1 (List.mem_of_getElem? (i := 11) (by decide +kernel))) (by decide +kernel)
theorem wd_11 : (.fieldLink RX4 10 "LotRules" "lots" "LLotRules$Lots;" : Cond) ∈ WS := ws_in (mt_1 (List.mem_of_getElem? (i := 125) (by decide +kernel))) (by decide +kernel)
theorem wd_12 : (.fieldLink RX4 100 "LotRules$Lots" "made" "I" : Cond) ∈ WS := ws_in (mt_1 (List.mem_of_getElem? (i := 46) (by decide +kernel))) (by decide +kernel)
theorem wd_13 : (.fieldLink RX4 19 "LotRules" "units" "LLotRules$Units;" : Cond) ∈ WS := ws_in (mt_1 (List.mem_of_getElem? (i := 126) (by decide +kernel))) (by decide +kernel)
theorem wd_14 : (.fieldLink RX4 229 "LotRules$Units" "made" "I" : Cond) ∈ WS := ws_in (mt_1 (List.mem_of_getElem? (i := 85) (by decide +kernel))) (by decide +kernel)
theorem wd_15 : (.fieldLink RX1 38 "LotRules$Lots" "made" "I" : Cond) ∈ WS := ws_in (mt_1 (List.mem_of_getElem? (i := 45) (by decide +kernel))) (by decide +kernel)
theorem wd_16 : (.fieldLink RX1 9 "LotRules$Lots" "goods" "[I" : Cond) ∈ WS := ws_in (mt_1 (List.mem_of_getElem? (i := 30) (by decide +kernel))) (by decide +kernel)
theorem wd_17 : (.fieldLink RX1 15 "LotRules$Lots" "owners" "[I" : Cond) ∈ WS := ws_in (mt_1 (List.mem_of_getElem? (i := 32) (by decide +kernel))) (by decide +kernel)
theorem wd_18 : (.fieldLink RX1 18 "LotRules$Lots" "lastDays" "[I" : Cond) ∈ WS := ws_in (mt_1 (List.mem_of_getElem? (i := 34) (by decide +kernel))) (by decide +kernel)
theorem wd_19 : (.fieldLink RX1 28 "LotRules$Lots" "reasons" "[I" : Cond) ∈ WS := ws_in (mt_1 (List.mem_of_getElem? (i := 40) (by decide +kernel))) (by decide +kernel)
theorem wd_20 : (.fieldLink RX1 31 "LotRules$Lots" "quarantined" "[Z" : Cond) ∈ WS := ws_in (mt_1 (List.mem_of_getElem? (i := 42) (by decide +kernel))) (by decide +kernel)
theorem wd_21 : (.methodLink RX1 46 Lib.Math.abs.name : Cond) ∈ WS := ws_in (mt_2 (List.mem_of_getElem? (i := 237) (by decide +kernel))) (by decide +kernel)
theorem wd_22 : (.static Lib.Math.abs.name : Cond) ∈ WS := ws_in (mt_2 (List.mem_of_getElem? (i := 238) (by decide +kernel))) (by decide +kernel)
theorem wd_23 : (.initialized "java/lang/Math" : Cond) ∈ WS := ws_in (mt_1 (List.mem_of_getElem? (i := 14) (by decide +kernel))) (by decide +kernel)
theorem wd_24 : (.fieldLink RX1 24 "LotRules$Lots" "open" "[Z" : Cond) ∈ WS := ws_in (mt_1 (List.mem_of_getElem? (i := 38) (by decide +kernel))) (by decide +kernel)
theorem wd_25 : (.methodLink RX1 52 yX1_mayBeTaken : Cond) ∈ WS := ws_in (mt_2 (List.mem_of_getElem? (i := 138) (by decide +kernel))) (by decide +kernel)
theorem wd_26 : (.instanceMethod yX1_mayBeTaken : Cond) ∈ WS := ws_in (mt_2 (List.mem_of_getElem? (i := 139) (by decide +kernel))) (by decide +kernel)
theorem wd_27 : (.selects RX1 yX1_mayBeTaken yX1_mayBeTaken : Cond) ∈ WS := ws_in (mt_2 (List.mem_of_getElem? (i := 140) (by decide +kernel))) (by decide +kernel)
theorem wd_28 : (.initialized RX1 : Cond) ∈ WS := ws_in (mt_1 (List.mem_of_getElem? (i := 2) (by decide +kernel))) (by decide +kernel)
theorem wcX1_mayBeTaken : (.code yX1_mayBeTaken cX1_mayBeTaken 2 (some .boolean) : Cond) ∈ WS := ws_in (mt_2 (List.mem_of_getElem? (i := 141) rfl)) rfl
theorem wd_30 : (.fieldLink RX1 21 "LotRules$Lots" "arrivals" "[I" : Cond) ∈ WS := ws_in (mt_1 (List.mem_of_getElem? (i := 36) (by decide +kernel))) (by decide +kernel)
theorem wd_31 : (.methodLink RX1 63 yX1_arrivedBefore : Cond) ∈ WS := ws_in (mt_2 (List.mem_of_getElem? (i := 151) (by decide +kernel))) (by decide +kernel)
theorem wd_32 : (.instanceMethod yX1_arrivedBefore : Cond) ∈ WS := ws_in (mt_2 (List.mem_of_getElem? (i := 153) (by decide +kernel))) (by decide +kernel)
theorem wd_33 : (.selects RX1 yX1_arrivedBefore yX1_arrivedBefore : Cond) ∈ WS := ws_in (List.mem_append_left _ (List.mem_of_getElem? (i := 3) (by decide +kernel))) (by decide +kernel)
theorem wcX1_arrivedBefore : (.code yX1_arrivedBefore cX1_arrivedBefore 3 (some .boolean) : Cond) ∈ WS := ws_in (mt_2 (List.mem_of_getElem? (i := 154) rfl)) rfl
theorem wd_35 : (.methodLink RX1 56 yX1_mayBeTakenFor : Cond) ∈ WS := ws_in (mt_2 (List.mem_of_getElem? (i := 146) (by decide +kernel))) (by decide +kernel)
theorem wd_36 : (.instanceMethod yX1_mayBeTakenFor : Cond) ∈ WS := ws_in (mt_2 (List.mem_of_getElem? (i := 135) (by decide +kernel))) (by decide +kernel)
theorem wd_37 : (.selects RX1 yX1_mayBeTakenFor yX1_mayBeTakenFor : Cond) ∈ WS := ws_in (mt_2 (List.mem_of_getElem? (i := 136) (by decide +kernel))) (by decide +kernel)
theorem wcX1_mayBeTakenFor : (.code yX1_mayBeTakenFor cX1_mayBeTakenFor 4 (some .boolean) : Cond) ∈ WS := ws_in (mt_2 (List.mem_of_getElem? (i := 137) rfl)) rfl
theorem wd_39 : (.methodLink RX1 60 yX1_comesBefore : Cond) ∈ WS := ws_in (mt_2 (List.mem_of_getElem? (i := 147) (by decide +kernel))) (by decide +kernel)
theorem wd_40 : (.instanceMethod yX1_comesBefore : Cond) ∈ WS := ws_in (mt_2 (List.mem_of_getElem? (i := 149) (by decide +kernel))) (by decide +kernel)
theorem wd_41 : (.selects RX1 yX1_comesBefore yX1_comesBefore : Cond) ∈ WS := ws_in (List.mem_append_left _ (List.mem_of_getElem? (i := 2) (by decide +kernel))) (by decide +kernel)
theorem wcX1_comesBefore : (.code yX1_comesBefore cX1_comesBefore 4 (some .boolean) : Cond) ∈ WS := ws_in (mt_2 (List.mem_of_getElem? (i := 150) rfl)) rfl
theorem wd_43 : (.fieldLink RX3 27 "LotRules$Units" "made" "I" : Cond) ∈ WS := ws_in (mt_1 (List.mem_of_getElem? (i := 84) (by decide +kernel))) (by decide +kernel)
theorem wd_44 : (.fieldLink RX3 18 "LotRules$Units" "customers" "[I" : Cond) ∈ WS := ws_in (mt_1 (List.mem_of_getElem? (i := 79) (by decide +kernel))) (by decide +kernel)
theorem wd_45 : (.fieldLink RX3 9 "LotRules$Units" "lotOf" "[I" : Cond) ∈ WS := ws_in (mt_1 (List.mem_of_getElem? (i := 75) (by decide +kernel))) (by decide +kernel)
theorem wd_46 : (.methodLink RX3 34 yX3_isGone : Cond) ∈ WS := ws_in (mt_3 (List.mem_of_getElem? (i := 65) (by decide +kernel))) (by decide +kernel)
theorem wd_47 : (.instanceMethod yX3_isGone : Cond) ∈ WS := ws_in (mt_2 (List.mem_of_getElem? (i := 226) (by decide +kernel))) (by decide +kernel)
theorem wd_48 : (.selects RX3 yX3_isGone yX3_isGone : Cond) ∈ WS := ws_in (mt_2 (List.mem_of_getElem? (i := 227) (by decide +kernel))) (by decide +kernel)
theorem wd_49 : (.initialized RX3 : Cond) ∈ WS := ws_in (mt_1 (List.mem_of_getElem? (i := 3) (by decide +kernel))) (by decide +kernel)
theorem wcX3_isGone : (.code yX3_isGone cX3_isGone 2 (some .boolean) : Cond) ∈ WS := ws_in (mt_2 (List.mem_of_getElem? (i := 228) rfl)) rfl
theorem wd_51 : (.fieldLink RX3 24 "LotRules$Units" "firstLotOf" "[I" : Cond) ∈ WS := ws_in (mt_1 (List.mem_of_getElem? (i := 83) (by decide +kernel))) (by decide +kernel)
theorem wd_52 : (.fieldLink RX2 21 "LotRules$Rows" "written" "I" : Cond) ∈ WS := ws_in (mt_1 (List.mem_of_getElem? (i := 114) (by decide +kernel))) (by decide +kernel)
theorem wd_53 : (.fieldLink RX2 9 "LotRules$Rows" "lotOf" "[I" : Cond) ∈ WS := ws_in (mt_1 (List.mem_of_getElem? (i := 109) (by decide +kernel))) (by decide +kernel)
theorem wd_54 : (.fieldLink RX1 34 "LotRules$Lots" "kin" "[J" : Cond) ∈ WS := ws_in (mt_1 (List.mem_of_getElem? (i := 44) (by decide +kernel))) (by decide +kernel)
theorem wd_55 : (.fieldLink RX0 22 "LotRules$Calendar" "DAYS_BEFORE_MONTH" "[I" : Cond) ∈ WS := ws_in (mt_3 (List.mem_of_getElem? (i := 82) (by decide +kernel))) (by decide +kernel)
theorem wd_56 : (.methodLink RX0 11 yX0_daysBefore : Cond) ∈ WS := ws_in (mt_3 (List.mem_of_getElem? (i := 79) (by decide +kernel))) (by decide +kernel)
theorem wd_57 : (.static yX0_daysBefore : Cond) ∈ WS := ws_in (mt_3 (List.mem_of_getElem? (i := 80) (by decide +kernel))) (by decide +kernel)
theorem wd_58 : (.initialized RX0 : Cond) ∈ WS := ws_in (mt_1 (List.mem_of_getElem? (i := 15) (by decide +kernel))) (by decide +kernel)
theorem wcX0_daysBefore : (.code yX0_daysBefore cX0_daysBefore 3 (some .int) : Cond) ∈ WS := ws_in (mt_3 (List.mem_of_getElem? (i := 81) rfl)) rfl
theorem wd_60 : (.methodLink RX0 15 yX0_startOfYear : Cond) ∈ WS := ws_in (mt_3 (List.mem_of_getElem? (i := 84) (by decide +kernel))) (by decide +kernel)
theorem wd_61 : (.static yX0_startOfYear : Cond) ∈ WS := ws_in (mt_3 (List.mem_of_getElem? (i := 85) (by decide +kernel))) (by decide +kernel)
theorem wcX0_startOfYear : (.code yX0_startOfYear cX0_startOfYear 1 (some .int) : Cond) ∈ WS := ws_in (mt_3 (List.mem_of_getElem? (i := 86) rfl)) rfl
theorem wd_63 : (.methodLink RX0 19 yX0_fromYearDay : Cond) ∈ WS := ws_in (mt_3 (List.mem_of_getElem? (i := 90) (by decide +kernel))) (by decide +kernel)
theorem wd_64 : (.static yX0_fromYearDay : Cond) ∈ WS := ws_in (mt_3 (List.mem_of_getElem? (i := 77) (by decide +kernel))) (by decide +kernel)
theorem wcX0_fromYearDay : (.code yX0_fromYearDay cX0_fromYearDay 2 (some .int) : Cond) ∈ WS := ws_in (mt_3 (List.mem_of_getElem? (i := 78) rfl)) rfl
theorem wd_66 : (.methodLink RX1 42 yX1_add : Cond) ∈ WS := ws_in (mt_2 (List.mem_of_getElem? (i := 178) (by decide +kernel))) (by decide +kernel)
theorem wd_67 : (.instanceMethod yX1_add : Cond) ∈ WS := ws_in (mt_2 (List.mem_of_getElem? (i := 27) (by decide +kernel))) (by decide +kernel)
theorem wd_68 : (.selects RX1 yX1_add yX1_add : Cond) ∈ WS := ws_in (mt_2 (List.mem_of_getElem? (i := 28) (by decide +kernel))) (by decide +kernel)
theorem wcX1_add : (.code yX1_add cX1_add 5 (some .int) : Cond) ∈ WS := ws_in (mt_2 (List.mem_of_getElem? (i := 29) rfl)) rfl
theorem wd_70 : (.fieldLink RX3 15 "LotRules$Units" "bins" "[I" : Cond) ∈ WS := ws_in (mt_1 (List.mem_of_getElem? (i := 77) (by decide +kernel))) (by decide +kernel)
theorem wd_71 : (.fieldLink RX3 21 "LotRules$Units" "daysOfGoing" "[I" : Cond) ∈ WS := ws_in (mt_1 (List.mem_of_getElem? (i := 81) (by decide +kernel))) (by decide +kernel)
theorem wd_72 : (.fieldLink RX3 31 "LotRules$Units" "gone" "I" : Cond) ∈ WS := ws_in (mt_1 (List.mem_of_getElem? (i := 86) (by decide +kernel))) (by decide +kernel)
theorem wd_73 : (.fieldLink RX2 15 "LotRules$Rows" "kinds" "[I" : Cond) ∈ WS := ws_in (mt_1 (List.mem_of_getElem? (i := 110) (by decide +kernel))) (by decide +kernel)
theorem wd_74 : (.fieldLink RX2 18 "LotRules$Rows" "numbers" "[I" : Cond) ∈ WS := ws_in (mt_1 (List.mem_of_getElem? (i := 112) (by decide +kernel))) (by decide +kernel)
theorem wd_75 : (.methodLink RX4 236 yX1_mayBeTaken : Cond) ∈ WS := ws_in (mt_2 (List.mem_of_getElem? (i := 166) (by decide +kernel))) (by decide +kernel)
theorem wd_76 : (.fieldLink RX4 198 "LotRules$Lots" "arrivals" "[I" : Cond) ∈ WS := ws_in (mt_1 (List.mem_of_getElem? (i := 37) (by decide +kernel))) (by decide +kernel)
theorem wd_77 : (.fieldLink RX4 195 "LotRules$Lots" "lastDays" "[I" : Cond) ∈ WS := ws_in (mt_1 (List.mem_of_getElem? (i := 35) (by decide +kernel))) (by decide +kernel)
theorem wd_78 : (.fieldLink RX4 37 "LotRules" "wantedDays" "[I" : Cond) ∈ WS := ws_in (mt_1 (List.mem_of_getElem? (i := 130) (by decide +kernel))) (by decide +kernel)
theorem wd_79 : (.fieldLink RX4 143 "LotRules$Units" "lotOf" "[I" : Cond) ∈ WS := ws_in (mt_1 (List.mem_of_getElem? (i := 76) (by decide +kernel))) (by decide +kernel)
theorem wd_80 : (.fieldLink RX4 34 "LotRules" "mixtures" "[I" : Cond) ∈ WS := ws_in (mt_1 (List.mem_of_getElem? (i := 129) (by decide +kernel))) (by decide +kernel)
theorem wd_81 : (.fieldLink RX4 192 "LotRules$Lots" "owners" "[I" : Cond) ∈ WS := ws_in (mt_1 (List.mem_of_getElem? (i := 33) (by decide +kernel))) (by decide +kernel)
theorem wd_82 : (.fieldLink RX4 137 "LotRules$Units" "bins" "[I" : Cond) ∈ WS := ws_in (mt_1 (List.mem_of_getElem? (i := 78) (by decide +kernel))) (by decide +kernel)
theorem wd_83 : (.methodLink RX4 239 yX1_lieTooFarApart : Cond) ∈ WS := ws_in (mt_2 (List.mem_of_getElem? (i := 233) (by decide +kernel))) (by decide +kernel)
theorem wd_84 : (.instanceMethod yX1_lieTooFarApart : Cond) ∈ WS := ws_in (mt_2 (List.mem_of_getElem? (i := 234) (by decide +kernel))) (by decide +kernel)
theorem wd_85 : (.selects RX1 yX1_lieTooFarApart yX1_lieTooFarApart : Cond) ∈ WS := ws_in (mt_2 (List.mem_of_getElem? (i := 235) (by decide +kernel))) (by decide +kernel)
theorem wcX1_lieTooFarApart : (.code yX1_lieTooFarApart cX1_lieTooFarApart 4 (some .boolean) : Cond) ∈ WS := ws_in (mt_2 (List.mem_of_getElem? (i := 236) rfl)) rfl
theorem wd_87 : (.fieldLink RX4 26 "LotRules" "rows" "LLotRules$Rows;" : Cond) ∈ WS := ws_in (mt_1 (List.mem_of_getElem? (i := 127) (by decide +kernel))) (by decide +kernel)
theorem wd_88 : (.fieldLink RX4 230 "LotRules$Rows" "written" "I" : Cond) ∈ WS := ws_in (mt_1 (List.mem_of_getElem? (i := 115) (by decide +kernel))) (by decide +kernel)
theorem wd_89 : (.fieldLink RX4 233 "LotRules$Units" "gone" "I" : Cond) ∈ WS := ws_in (mt_1 (List.mem_of_getElem? (i := 87) (by decide +kernel))) (by decide +kernel)
theorem wd_90 : (.methodLink RX4 50 yX4_requireRange : Cond) ∈ WS := ws_in (mt_1 (List.mem_of_getElem? (i := 166) (by decide +kernel))) (by decide +kernel)
theorem wd_91 : (.static yX4_requireRange : Cond) ∈ WS := ws_in (mt_1 (List.mem_of_getElem? (i := 167) (by decide +kernel))) (by decide +kernel)
theorem wd_92 : (.initialized RX4 : Cond) ∈ WS := ws_in (mt_1 (List.mem_of_getElem? (i := 1) (by decide +kernel))) (by decide +kernel)
theorem wcX4_requireRange : (.code yX4_requireRange cX4_requireRange 3 none : Cond) ∈ WS := ws_in (mt_1 (List.mem_of_getElem? (i := 168) rfl)) rfl
theorem wd_94 : (.constant RX4 54 36524 : Cond) ∈ WS := ws_in (mt_1 (List.mem_of_getElem? (i := 238) (by decide +kernel))) (by decide +kernel)
theorem wd_95 : (.methodLink RX4 55 yX1_haveRoom : Cond) ∈ WS := ws_in (mt_1 (List.mem_of_getElem? (i := 239) (by decide +kernel))) (by decide +kernel)
theorem wd_96 : (.instanceMethod yX1_haveRoom : Cond) ∈ WS := ws_in (mt_2 (List.mem_of_getElem? (i := 0) (by decide +kernel))) (by decide +kernel)
theorem wd_97 : (.selects RX1 yX1_haveRoom yX1_haveRoom : Cond) ∈ WS := ws_in (mt_2 (List.mem_of_getElem? (i := 1) (by decide +kernel))) (by decide +kernel)
theorem wcX1_haveRoom : (.code yX1_haveRoom cX1_haveRoom 1 (some .boolean) : Cond) ∈ WS := ws_in (mt_2 (List.mem_of_getElem? (i := 2) rfl)) rfl
theorem wd_99 : (.methodLink RX4 63 yX4_requireRoom : Cond) ∈ WS := ws_in (mt_2 (List.mem_of_getElem? (i := 7) (by decide +kernel))) (by decide +kernel)
theorem wd_100 : (.static yX4_requireRoom : Cond) ∈ WS := ws_in (mt_2 (List.mem_of_getElem? (i := 8) (by decide +kernel))) (by decide +kernel)
theorem wcX4_requireRoom : (.code yX4_requireRoom cX4_requireRoom 1 none : Cond) ∈ WS := ws_in (mt_2 (List.mem_of_getElem? (i := 9) rfl)) rfl
theorem wd_102 : (.methodLink RX4 59 yX2_haveRoomFor : Cond) ∈ WS := ws_in (mt_2 (List.mem_of_getElem? (i := 3) (by decide +kernel))) (by decide +kernel)
theorem wd_103 : (.instanceMethod yX2_haveRoomFor : Cond) ∈ WS := ws_in (mt_2 (List.mem_of_getElem? (i := 4) (by decide +kernel))) (by decide +kernel)
theorem wd_104 : (.selects RX2 yX2_haveRoomFor yX2_haveRoomFor : Cond) ∈ WS := ws_in (mt_2 (List.mem_of_getElem? (i := 5) (by decide +kernel))) (by decide +kernel)
theorem wd_105 : (.initialized RX2 : Cond) ∈ WS := ws_in (mt_1 (List.mem_of_getElem? (i := 4) (by decide +kernel))) (by decide +kernel)
theorem wcX2_haveRoomFor : (.code yX2_haveRoomFor cX2_haveRoomFor 2 (some .boolean) : Cond) ∈ WS := ws_in (mt_2 (List.mem_of_getElem? (i := 6) rfl)) rfl
theorem wd_107 : (.methodLink RX4 67 yX1_add : Cond) ∈ WS := ws_in (mt_2 (List.mem_of_getElem? (i := 26) (by decide +kernel))) (by decide +kernel)
theorem wd_108 : (.methodLink RX4 71 yX2_write : Cond) ∈ WS := ws_in (mt_2 (List.mem_of_getElem? (i := 30) (by decide +kernel))) (by decide +kernel)
theorem wd_109 : (.instanceMethod yX2_write : Cond) ∈ WS := ws_in (mt_2 (List.mem_of_getElem? (i := 31) (by decide +kernel))) (by decide +kernel)
theorem wd_110 : (.selects RX2 yX2_write yX2_write : Cond) ∈ WS := ws_in (mt_2 (List.mem_of_getElem? (i := 32) (by decide +kernel))) (by decide +kernel)
theorem wcX2_write : (.code yX2_write cX2_write 4 none : Cond) ∈ WS := ws_in (mt_2 (List.mem_of_getElem? (i := 33) rfl)) rfl
theorem wd_112 : (.fieldLink RX4 30 "LotRules" "rotations" "[I" : Cond) ∈ WS := ws_in (mt_1 (List.mem_of_getElem? (i := 128) (by decide +kernel))) (by decide +kernel)
theorem wd_113 : (.fieldLink RX4 40 "LotRules" "releasableReasons" "[I" : Cond) ∈ WS := ws_in (mt_1 (List.mem_of_getElem? (i := 131) (by decide +kernel))) (by decide +kernel)
theorem wd_114 : (.methodLink RX4 74 yX4_requireLot : Cond) ∈ WS := ws_in (mt_2 (List.mem_of_getElem? (i := 64) (by decide +kernel))) (by decide +kernel)
theorem wd_115 : (.instanceMethod yX4_requireLot : Cond) ∈ WS := ws_in (mt_2 (List.mem_of_getElem? (i := 66) (by decide +kernel))) (by decide +kernel)
theorem wd_116 : (.selects RX4 yX4_requireLot yX4_requireLot : Cond) ∈ WS := ws_in (List.mem_append_left _ (List.mem_of_getElem? (i := 1) (by decide +kernel))) (by decide +kernel)
theorem wcX4_requireLot : (.code yX4_requireLot cX4_requireLot 2 none : Cond) ∈ WS := ws_in (mt_2 (List.mem_of_getElem? (i := 67) rfl)) rfl
theorem wd_118 : (.fieldLink RX4 78 "LotRules$Lots" "open" "[Z" : Cond) ∈ WS := ws_in (mt_1 (List.mem_of_getElem? (i := 39) (by decide +kernel))) (by decide +kernel)
theorem wd_119 : (.methodLink RX4 85 yX4_requireState : Cond) ∈ WS := ws_in (mt_2 (List.mem_of_getElem? (i := 84) (by decide +kernel))) (by decide +kernel)
theorem wd_120 : (.static yX4_requireState : Cond) ∈ WS := ws_in (mt_2 (List.mem_of_getElem? (i := 85) (by decide +kernel))) (by decide +kernel)
theorem wcX4_requireState : (.code yX4_requireState cX4_requireState 1 none : Cond) ∈ WS := ws_in (mt_2 (List.mem_of_getElem? (i := 86) rfl)) rfl
theorem wd_122 : (.fieldLink RX4 82 "LotRules$Lots" "reasons" "[I" : Cond) ∈ WS := ws_in (mt_1 (List.mem_of_getElem? (i := 41) (by decide +kernel))) (by decide +kernel)
theorem wd_123 : (.methodLink RX4 88 yJ6_bitCount : Cond) ∈ WS := ws_in (mt_2 (List.mem_of_getElem? (i := 103) (by decide +kernel))) (by decide +kernel)
theorem wd_124 : (.static yJ6_bitCount : Cond) ∈ WS := ws_in (mt_2 (List.mem_of_getElem? (i := 104) (by decide +kernel))) (by decide +kernel)
theorem wd_125 : (.initialized RJ6 : Cond) ∈ WS := ws_in (mt_1 (List.mem_of_getElem? (i := 13) (by decide +kernel))) (by decide +kernel)
theorem wcJ6_bitCount : (.code yJ6_bitCount cJ6_bitCount 1 (some .int) : Cond) ∈ WS := ws_in (mt_2 (List.mem_of_getElem? (i := 105) rfl)) rfl
theorem wd_127 : (.fieldLink RX4 94 "LotRules$Lots" "quarantined" "[Z" : Cond) ∈ WS := ws_in (mt_1 (List.mem_of_getElem? (i := 43) (by decide +kernel))) (by decide +kernel)
theorem wd_128 : (.methodLink RX4 97 yX4_requireNotNegative : Cond) ∈ WS := ws_in (mt_2 (List.mem_of_getElem? (i := 130) (by decide +kernel))) (by decide +kernel)
theorem wd_129 : (.static yX4_requireNotNegative : Cond) ∈ WS := ws_in (mt_2 (List.mem_of_getElem? (i := 131) (by decide +kernel))) (by decide +kernel)
theorem wcX4_requireNotNegative : (.code yX4_requireNotNegative cX4_requireNotNegative 1 none : Cond) ∈ WS := ws_in (mt_2 (List.mem_of_getElem? (i := 132) rfl)) rfl
theorem wd_131 : (.methodLink RX4 103 yX1_mayBeTakenFor : Cond) ∈ WS := ws_in (mt_2 (List.mem_of_getElem? (i := 134) (by decide +kernel))) (by decide +kernel)
theorem wd_132 : (.methodLink RX4 107 yX1_rivalsBefore : Cond) ∈ WS := ws_in (mt_2 (List.mem_of_getElem? (i := 142) (by decide +kernel))) (by decide +kernel)
theorem wd_133 : (.instanceMethod yX1_rivalsBefore : Cond) ∈ WS := ws_in (mt_2 (List.mem_of_getElem? (i := 143) (by decide +kernel))) (by decide +kernel)
theorem wd_134 : (.selects RX1 yX1_rivalsBefore yX1_rivalsBefore : Cond) ∈ WS := ws_in (mt_2 (List.mem_of_getElem? (i := 144) (by decide +kernel))) (by decide +kernel)
theorem wcX1_rivalsBefore : (.code yX1_rivalsBefore cX1_rivalsBefore 5 (some .int) : Cond) ∈ WS := ws_in (mt_2 (List.mem_of_getElem? (i := 145) rfl)) rfl
theorem wd_136 : (.methodLink RX4 111 yX4_mayGo : Cond) ∈ WS := ws_in (mt_2 (List.mem_of_getElem? (i := 162) (by decide +kernel))) (by decide +kernel)
theorem wd_137 : (.instanceMethod yX4_mayGo : Cond) ∈ WS := ws_in (mt_2 (List.mem_of_getElem? (i := 164) (by decide +kernel))) (by decide +kernel)
theorem wd_138 : (.selects RX4 yX4_mayGo yX4_mayGo : Cond) ∈ WS := ws_in (List.mem_append_left _ (List.mem_of_getElem? (i := 4) (by decide +kernel))) (by decide +kernel)
theorem wcX4_mayGo : (.code yX4_mayGo cX4_mayGo 4 (some .boolean) : Cond) ∈ WS := ws_in (mt_2 (List.mem_of_getElem? (i := 165) rfl)) rfl
theorem wd_140 : (.methodLink RX4 114 yX1_addPartOf : Cond) ∈ WS := ws_in (mt_2 (List.mem_of_getElem? (i := 174) (by decide +kernel))) (by decide +kernel)
theorem wd_141 : (.instanceMethod yX1_addPartOf : Cond) ∈ WS := ws_in (mt_2 (List.mem_of_getElem? (i := 175) (by decide +kernel))) (by decide +kernel)
theorem wd_142 : (.selects RX1 yX1_addPartOf yX1_addPartOf : Cond) ∈ WS := ws_in (mt_2 (List.mem_of_getElem? (i := 176) (by decide +kernel))) (by decide +kernel)
theorem wcX1_addPartOf : (.code yX1_addPartOf cX1_addPartOf 3 (some .int) : Cond) ∈ WS := ws_in (mt_2 (List.mem_of_getElem? (i := 177) rfl)) rfl
theorem wd_144 : (.methodLink RX4 117 yX1_areAlike : Cond) ∈ WS := ws_in (mt_2 (List.mem_of_getElem? (i := 186) (by decide +kernel))) (by decide +kernel)
theorem wd_145 : (.instanceMethod yX1_areAlike : Cond) ∈ WS := ws_in (mt_2 (List.mem_of_getElem? (i := 187) (by decide +kernel))) (by decide +kernel)
theorem wd_146 : (.selects RX1 yX1_areAlike yX1_areAlike : Cond) ∈ WS := ws_in (mt_2 (List.mem_of_getElem? (i := 188) (by decide +kernel))) (by decide +kernel)
theorem wcX1_areAlike : (.code yX1_areAlike cX1_areAlike 3 (some .boolean) : Cond) ∈ WS := ws_in (mt_2 (List.mem_of_getElem? (i := 189) rfl)) rfl
theorem wd_148 : (.methodLink RX4 121 yX1_closeInto : Cond) ∈ WS := ws_in (mt_2 (List.mem_of_getElem? (i := 190) (by decide +kernel))) (by decide +kernel)
theorem wd_149 : (.instanceMethod yX1_closeInto : Cond) ∈ WS := ws_in (mt_2 (List.mem_of_getElem? (i := 191) (by decide +kernel))) (by decide +kernel)
theorem wd_150 : (.selects RX1 yX1_closeInto yX1_closeInto : Cond) ∈ WS := ws_in (mt_2 (List.mem_of_getElem? (i := 192) (by decide +kernel))) (by decide +kernel)
theorem wcX1_closeInto : (.code yX1_closeInto cX1_closeInto 3 none : Cond) ∈ WS := ws_in (mt_2 (List.mem_of_getElem? (i := 193) rfl)) rfl
theorem wd_152 : (.methodLink RX4 125 yX3_moveAll : Cond) ∈ WS := ws_in (mt_2 (List.mem_of_getElem? (i := 194) (by decide +kernel))) (by decide +kernel)
theorem wd_153 : (.instanceMethod yX3_moveAll : Cond) ∈ WS := ws_in (mt_2 (List.mem_of_getElem? (i := 195) (by decide +kernel))) (by decide +kernel)
theorem wd_154 : (.selects RX3 yX3_moveAll yX3_moveAll : Cond) ∈ WS := ws_in (mt_2 (List.mem_of_getElem? (i := 196) (by decide +kernel))) (by decide +kernel)
theorem wcX3_moveAll : (.code yX3_moveAll cX3_moveAll 4 none : Cond) ∈ WS := ws_in (mt_2 (List.mem_of_getElem? (i := 197) rfl)) rfl
theorem wd_156 : (.methodLink RX4 128 yX3_haveRoom : Cond) ∈ WS := ws_in (mt_2 (List.mem_of_getElem? (i := 205) (by decide +kernel))) (by decide +kernel)
theorem wd_157 : (.instanceMethod yX3_haveRoom : Cond) ∈ WS := ws_in (mt_2 (List.mem_of_getElem? (i := 206) (by decide +kernel))) (by decide +kernel)
theorem wd_158 : (.selects RX3 yX3_haveRoom yX3_haveRoom : Cond) ∈ WS := ws_in (mt_2 (List.mem_of_getElem? (i := 207) (by decide +kernel))) (by decide +kernel)
theorem wcX3_haveRoom : (.code yX3_haveRoom cX3_haveRoom 1 (some .boolean) : Cond) ∈ WS := ws_in (mt_2 (List.mem_of_getElem? (i := 208) rfl)) rfl
theorem wd_160 : (.methodLink RX4 129 yX3_add : Cond) ∈ WS := ws_in (mt_2 (List.mem_of_getElem? (i := 209) (by decide +kernel))) (by decide +kernel)
theorem wd_161 : (.instanceMethod yX3_add : Cond) ∈ WS := ws_in (mt_2 (List.mem_of_getElem? (i := 210) (by decide +kernel))) (by decide +kernel)
theorem wd_162 : (.selects RX3 yX3_add yX3_add : Cond) ∈ WS := ws_in (mt_2 (List.mem_of_getElem? (i := 211) (by decide +kernel))) (by decide +kernel)
theorem wcX3_add : (.code yX3_add cX3_add 2 (some .int) : Cond) ∈ WS := ws_in (mt_2 (List.mem_of_getElem? (i := 212) rfl)) rfl
theorem wd_164 : (.methodLink RX4 131 yX4_requireUnit : Cond) ∈ WS := ws_in (mt_2 (List.mem_of_getElem? (i := 220) (by decide +kernel))) (by decide +kernel)
theorem wd_165 : (.instanceMethod yX4_requireUnit : Cond) ∈ WS := ws_in (mt_2 (List.mem_of_getElem? (i := 222) (by decide +kernel))) (by decide +kernel)
theorem wd_166 : (.selects RX4 yX4_requireUnit yX4_requireUnit : Cond) ∈ WS := ws_in (List.mem_append_left _ (List.mem_of_getElem? (i := 5) (by decide +kernel))) (by decide +kernel)
theorem wcX4_requireUnit : (.code yX4_requireUnit cX4_requireUnit 2 none : Cond) ∈ WS := ws_in (mt_2 (List.mem_of_getElem? (i := 223) rfl)) rfl
theorem wd_168 : (.methodLink RX4 134 yX3_isGone : Cond) ∈ WS := ws_in (mt_2 (List.mem_of_getElem? (i := 225) (by decide +kernel))) (by decide +kernel)
theorem wd_169 : (.methodLink RX4 140 yX4_lotThatHinders : Cond) ∈ WS := ws_in (mt_2 (List.mem_of_getElem? (i := 229) (by decide +kernel))) (by decide +kernel)
theorem wd_170 : (.instanceMethod yX4_lotThatHinders : Cond) ∈ WS := ws_in (mt_2 (List.mem_of_getElem? (i := 231) (by decide +kernel))) (by decide +kernel)
theorem wd_171 : (.selects RX4 yX4_lotThatHinders yX4_lotThatHinders : Cond) ∈ WS := ws_in (List.mem_append_left _ (List.mem_of_getElem? (i := 6) (by decide +kernel))) (by decide +kernel)
theorem wcX4_lotThatHinders : (.code yX4_lotThatHinders cX4_lotThatHinders 6 (some .int) : Cond) ∈ WS := ws_in (mt_2 (List.mem_of_getElem? (i := 232) rfl)) rfl
theorem wd_173 : (.fieldLink RX4 43 "LotRules" "refusedLot" "I" : Cond) ∈ WS := ws_in (mt_1 (List.mem_of_getElem? (i := 132) (by decide +kernel))) (by decide +kernel)
theorem wd_174 : (.fieldLink RX4 47 "LotRules" "hinderingLot" "I" : Cond) ∈ WS := ws_in (mt_1 (List.mem_of_getElem? (i := 133) (by decide +kernel))) (by decide +kernel)
theorem wd_175 : (.methodLink RX4 153 yX3_send : Cond) ∈ WS := ws_in (mt_3 (List.mem_of_getElem? (i := 15) (by decide +kernel))) (by decide +kernel)
theorem wd_176 : (.instanceMethod yX3_send : Cond) ∈ WS := ws_in (mt_3 (List.mem_of_getElem? (i := 16) (by decide +kernel))) (by decide +kernel)
theorem wd_177 : (.selects RX3 yX3_send yX3_send : Cond) ∈ WS := ws_in (mt_3 (List.mem_of_getElem? (i := 17) (by decide +kernel))) (by decide +kernel)
theorem wcX3_send : (.code yX3_send cX3_send 4 none : Cond) ∈ WS := ws_in (mt_3 (List.mem_of_getElem? (i := 18) rfl)) rfl
theorem wd_179 : (.methodLink RX4 156 yX1_familyOf : Cond) ∈ WS := ws_in (mt_3 (List.mem_of_getElem? (i := 26) (by decide +kernel))) (by decide +kernel)
theorem wd_180 : (.instanceMethod yX1_familyOf : Cond) ∈ WS := ws_in (mt_3 (List.mem_of_getElem? (i := 27) (by decide +kernel))) (by decide +kernel)
theorem wd_181 : (.selects RX1 yX1_familyOf yX1_familyOf : Cond) ∈ WS := ws_in (mt_3 (List.mem_of_getElem? (i := 28) (by decide +kernel))) (by decide +kernel)
theorem wcX1_familyOf : (.code yX1_familyOf cX1_familyOf 6 (some .long) : Cond) ∈ WS := ws_in (mt_3 (List.mem_of_getElem? (i := 29) rfl)) rfl
theorem wd_183 : (.methodLink RX4 160 yX3_everOfFamily : Cond) ∈ WS := ws_in (mt_3 (List.mem_of_getElem? (i := 30) (by decide +kernel))) (by decide +kernel)
theorem wd_184 : (.instanceMethod yX3_everOfFamily : Cond) ∈ WS := ws_in (mt_3 (List.mem_of_getElem? (i := 31) (by decide +kernel))) (by decide +kernel)
theorem wd_185 : (.selects RX3 yX3_everOfFamily yX3_everOfFamily : Cond) ∈ WS := ws_in (mt_3 (List.mem_of_getElem? (i := 32) (by decide +kernel))) (by decide +kernel)
theorem wcX3_everOfFamily : (.code yX3_everOfFamily cX3_everOfFamily 6 (some .int) : Cond) ∈ WS := ws_in (mt_3 (List.mem_of_getElem? (i := 33) rfl)) rfl
theorem wd_187 : (.fieldLink RX4 164 "LotRules$Units" "customers" "[I" : Cond) ∈ WS := ws_in (mt_1 (List.mem_of_getElem? (i := 80) (by decide +kernel))) (by decide +kernel)
theorem wd_188 : (.fieldLink RX4 167 "LotRules$Units" "daysOfGoing" "[I" : Cond) ∈ WS := ws_in (mt_1 (List.mem_of_getElem? (i := 82) (by decide +kernel))) (by decide +kernel)
theorem wd_189 : (.methodLink RX4 175 yX2_find : Cond) ∈ WS := ws_in (mt_3 (List.mem_of_getElem? (i := 49) (by decide +kernel))) (by decide +kernel)
theorem wd_190 : (.instanceMethod yX2_find : Cond) ∈ WS := ws_in (mt_3 (List.mem_of_getElem? (i := 50) (by decide +kernel))) (by decide +kernel)
theorem wd_191 : (.selects RX2 yX2_find yX2_find : Cond) ∈ WS := ws_in (mt_3 (List.mem_of_getElem? (i := 51) (by decide +kernel))) (by decide +kernel)
theorem wcX2_find : (.code yX2_find cX2_find 5 (some .int) : Cond) ∈ WS := ws_in (mt_3 (List.mem_of_getElem? (i := 52) rfl)) rfl
theorem wd_193 : (.fieldLink RX4 186 "LotRules$Rows" "numbers" "[I" : Cond) ∈ WS := ws_in (mt_1 (List.mem_of_getElem? (i := 113) (by decide +kernel))) (by decide +kernel)
theorem wd_194 : (.fieldLink RX4 183 "LotRules$Rows" "kinds" "[I" : Cond) ∈ WS := ws_in (mt_1 (List.mem_of_getElem? (i := 111) (by decide +kernel))) (by decide +kernel)
theorem wd_195 : (.fieldLink RX4 189 "LotRules$Lots" "goods" "[I" : Cond) ∈ WS := ws_in (mt_1 (List.mem_of_getElem? (i := 31) (by decide +kernel))) (by decide +kernel)
theorem wd_196 : (.methodLink RX4 201 yX3_leftOf : Cond) ∈ WS := ws_in (mt_3 (List.mem_of_getElem? (i := 61) (by decide +kernel))) (by decide +kernel)
theorem wd_197 : (.instanceMethod yX3_leftOf : Cond) ∈ WS := ws_in (mt_3 (List.mem_of_getElem? (i := 62) (by decide +kernel))) (by decide +kernel)
theorem wd_198 : (.selects RX3 yX3_leftOf yX3_leftOf : Cond) ∈ WS := ws_in (mt_3 (List.mem_of_getElem? (i := 63) (by decide +kernel))) (by decide +kernel)
theorem wcX3_leftOf : (.code yX3_leftOf cX3_leftOf 4 (some .int) : Cond) ∈ WS := ws_in (mt_3 (List.mem_of_getElem? (i := 64) rfl)) rfl
theorem wd_200 : (.constant RX4 207 999999 : Cond) ∈ WS := ws_in (mt_3 (List.mem_of_getElem? (i := 75) (by decide +kernel))) (by decide +kernel)
theorem wd_201 : (.methodLink RX4 213 yX0_fromMonthDay : Cond) ∈ WS := ws_in (mt_3 (List.mem_of_getElem? (i := 87) (by decide +kernel))) (by decide +kernel)
theorem wd_202 : (.static yX0_fromMonthDay : Cond) ∈ WS := ws_in (mt_3 (List.mem_of_getElem? (i := 88) (by decide +kernel))) (by decide +kernel)
theorem wcX0_fromMonthDay : (.code yX0_fromMonthDay cX0_fromMonthDay 4 (some .int) : Cond) ∈ WS := ws_in (mt_3 (List.mem_of_getElem? (i := 89) rfl)) rfl
theorem wd_204 : (.constant RX4 206 99999 : Cond) ∈ WS := ws_in (mt_3 (List.mem_of_getElem? (i := 74) (by decide +kernel))) (by decide +kernel)
theorem wd_205 : (.methodLink RX4 208 yX0_fromYearDay : Cond) ∈ WS := ws_in (mt_3 (List.mem_of_getElem? (i := 76) (by decide +kernel))) (by decide +kernel)
theorem wd_206 : (.methodLink RX4 217 yX0_yearOf : Cond) ∈ WS := ws_in (mt_3 (List.mem_of_getElem? (i := 98) (by decide +kernel))) (by decide +kernel)
theorem wd_207 : (.static yX0_yearOf : Cond) ∈ WS := ws_in (mt_3 (List.mem_of_getElem? (i := 99) (by decide +kernel))) (by decide +kernel)
theorem wcX0_yearOf : (.code yX0_yearOf cX0_yearOf 2 (some .int) : Cond) ∈ WS := ws_in (mt_3 (List.mem_of_getElem? (i := 100) rfl)) rfl
theorem wd_209 : (.methodLink RX4 220 yX0_startOfYear : Cond) ∈ WS := ws_in (mt_3 (List.mem_of_getElem? (i := 101) (by decide +kernel))) (by decide +kernel)
theorem wd_210 : (.methodLink RX4 223 yX0_monthOf : Cond) ∈ WS := ws_in (mt_3 (List.mem_of_getElem? (i := 102) (by decide +kernel))) (by decide +kernel)
theorem wd_211 : (.static yX0_monthOf : Cond) ∈ WS := ws_in (mt_3 (List.mem_of_getElem? (i := 103) (by decide +kernel))) (by decide +kernel)
theorem wcX0_monthOf : (.code yX0_monthOf cX0_monthOf 3 (some .int) : Cond) ∈ WS := ws_in (mt_3 (List.mem_of_getElem? (i := 104) rfl)) rfl
theorem wd_213 : (.methodLink RX4 226 yX0_daysBefore : Cond) ∈ WS := ws_in (mt_3 (List.mem_of_getElem? (i := 105) (by decide +kernel))) (by decide +kernel)
theorem wd_214 : (.methodLink RX1 3 objectInit : Cond) ∈ WS := ws_in (mt_1 (List.mem_of_getElem? (i := 29) (by decide +kernel))) (by decide +kernel)
theorem wd_215 : (.instanceMethod objectInit : Cond) ∈ WS := ws_in (mt_1 (List.mem_of_getElem? (i := 22) (by decide +kernel))) (by decide +kernel)
theorem wd_216 : (.arrayClass .int : Cond) ∈ WS := ws_in (mt_1 (List.mem_of_getElem? (i := 66) (by decide +kernel))) (by decide +kernel)
theorem wd_217 : (.arrayClass .boolean : Cond) ∈ WS := ws_in (mt_1 (List.mem_of_getElem? (i := 67) (by decide +kernel))) (by decide +kernel)
theorem wd_218 : (.arrayClass .long : Cond) ∈ WS := ws_in (mt_1 (List.mem_of_getElem? (i := 68) (by decide +kernel))) (by decide +kernel)
theorem wd_219 : (.methodLink RX3 3 objectInit : Cond) ∈ WS := ws_in (mt_1 (List.mem_of_getElem? (i := 74) (by decide +kernel))) (by decide +kernel)
theorem wd_220 : (.methodLink RX2 3 objectInit : Cond) ∈ WS := ws_in (mt_1 (List.mem_of_getElem? (i := 108) (by decide +kernel))) (by decide +kernel)
theorem wd_221 : (.methodLink RX4 1 objectInit : Cond) ∈ WS := ws_in (mt_1 (List.mem_of_getElem? (i := 21) (by decide +kernel))) (by decide +kernel)
theorem wd_222 : (.classLink RX4 7 RX1 : Cond) ∈ WS := ws_in (mt_1 (List.mem_of_getElem? (i := 24) (by decide +kernel))) (by decide +kernel)
theorem wd_223 : (.instantiable RX1 9 : Cond) ∈ WS := ws_in (mt_1 (List.mem_of_getElem? (i := 25) (by decide +kernel))) (by decide +kernel)
theorem wcX1_init : (.code yX1_init cX1_init 1 none : Cond) ∈ WS := ws_in (mt_1 (List.mem_of_getElem? (i := 28) rfl)) rfl
theorem wd_225 : (.methodLink RX4 9 yX1_init : Cond) ∈ WS := ws_in (mt_1 (List.mem_of_getElem? (i := 26) (by decide +kernel))) (by decide +kernel)
theorem wd_226 : (.instanceMethod yX1_init : Cond) ∈ WS := ws_in (mt_1 (List.mem_of_getElem? (i := 27) (by decide +kernel))) (by decide +kernel)
theorem wd_227 : (.classLink RX4 16 RX3 : Cond) ∈ WS := ws_in (mt_1 (List.mem_of_getElem? (i := 69) (by decide +kernel))) (by decide +kernel)
theorem wd_228 : (.instantiable RX3 7 : Cond) ∈ WS := ws_in (mt_1 (List.mem_of_getElem? (i := 70) (by decide +kernel))) (by decide +kernel)
theorem wcX3_init : (.code yX3_init cX3_init 1 none : Cond) ∈ WS := ws_in (mt_1 (List.mem_of_getElem? (i := 73) rfl)) rfl
theorem wd_230 : (.methodLink RX4 18 yX3_init : Cond) ∈ WS := ws_in (mt_1 (List.mem_of_getElem? (i := 71) (by decide +kernel))) (by decide +kernel)
theorem wd_231 : (.instanceMethod yX3_init : Cond) ∈ WS := ws_in (mt_1 (List.mem_of_getElem? (i := 72) (by decide +kernel))) (by decide +kernel)
theorem wd_232 : (.classLink RX4 23 RX2 : Cond) ∈ WS := ws_in (mt_1 (List.mem_of_getElem? (i := 103) (by decide +kernel))) (by decide +kernel)
theorem wd_233 : (.instantiable RX2 4 : Cond) ∈ WS := ws_in (mt_1 (List.mem_of_getElem? (i := 104) (by decide +kernel))) (by decide +kernel)
theorem wcX2_init : (.code yX2_init cX2_init 1 none : Cond) ∈ WS := ws_in (mt_1 (List.mem_of_getElem? (i := 107) rfl)) rfl
theorem wd_235 : (.methodLink RX4 25 yX2_init : Cond) ∈ WS := ws_in (mt_1 (List.mem_of_getElem? (i := 105) (by decide +kernel))) (by decide +kernel)
theorem wd_236 : (.instanceMethod yX2_init : Cond) ∈ WS := ws_in (mt_1 (List.mem_of_getElem? (i := 106) (by decide +kernel))) (by decide +kernel)
abbrev wsX4_init : List Cond := .code yX4_init cX4_init 2 none :: WS
abbrev wsX1_init : List Cond := .code yX1_init cX1_init 1 none :: WS
abbrev wsX3_init : List Cond := .code yX3_init cX3_init 1 none :: WS
abbrev wsX2_init : List Cond := .code yX2_init cX2_init 1 none :: WS
abbrev wsX4_count : List Cond := .code yX4_count cX4_count 2 (some .int) :: WS
abbrev wsL_lot : List Cond := .codeWith yL_lot cL_lot 7 (some .int) [(0, 14, 17, 13), (0, 14, 21, 15)] :: WS
abbrev wsX4_lot : List Cond := .code yX4_lot cX4_lot 6 (some .int) :: WS
abbrev wsX4_requireRange : List Cond := .code yX4_requireRange cX4_requireRange 3 none :: WS
abbrev wsX1_haveRoom : List Cond := .code yX1_haveRoom cX1_haveRoom 1 (some .boolean) :: WS
abbrev wsX2_haveRoomFor : List Cond := .code yX2_haveRoomFor cX2_haveRoomFor 2 (some .boolean) :: WS
abbrev wsX4_requireRoom : List Cond := .code yX4_requireRoom cX4_requireRoom 1 none :: WS
abbrev wsX1_add : List Cond := .code yX1_add cX1_add 5 (some .int) :: WS
abbrev wsX2_write : List Cond := .code yX2_write cX2_write 4 none :: WS
abbrev wsL_rule : List Cond := .codeWith yL_rule cL_rule 5 (some .int) [(0, 7, 10, 13)] :: WS
abbrev wsX4_rule : List Cond := .code yX4_rule cX4_rule 4 none :: WS
abbrev wsL_wants : List Cond := .codeWith yL_wants cL_wants 4 (some .int) [(0, 6, 9, 13)] :: WS
abbrev wsX4_wants : List Cond := .code yX4_wants cX4_wants 3 none :: WS
abbrev wsL_right : List Cond := .codeWith yL_right cL_right 5 (some .int) [(0, 7, 10, 13)] :: WS
abbrev wsX4_right : List Cond := .code yX4_right cX4_right 4 none :: WS
abbrev wsL_block : List Cond := .codeWith yL_block cL_block 5 (some .int) [(0, 10, 13, 33), (0, 10, 17, 13), (0, 10, 21, 35), (0, 10, 25, 15)] :: WS
abbrev wsX4_block : List Cond := .code yX4_block cX4_block 4 (some .int) :: WS
abbrev wsX4_requireLot : List Cond := .code yX4_requireLot cX4_requireLot 2 none :: WS
abbrev wsX4_requireState : List Cond := .code yX4_requireState cX4_requireState 1 none :: WS
abbrev wsJ6_bitCount : List Cond := .code yJ6_bitCount cJ6_bitCount 1 (some .int) :: WS
abbrev wsL_release : List Cond := .codeWith yL_release cL_release 5 (some .int) [(0, 10, 13, 33), (0, 10, 17, 13), (0, 10, 21, 35), (0, 10, 25, 15)] :: WS
abbrev wsX4_release : List Cond := .code yX4_release cX4_release 4 (some .int) :: WS
abbrev wsL_quarantine : List Cond := .codeWith yL_quarantine cL_quarantine 4 (some .int) [(0, 6, 9, 33), (0, 6, 12, 35), (0, 6, 15, 15)] :: WS
abbrev wsX4_quarantine : List Cond := .code yX4_quarantine cX4_quarantine 3 none :: WS
abbrev wsL_order : List Cond := .codeWith yL_order cL_order 6 (some .int) [(0, 12, 15, 13)] :: WS
abbrev wsX4_order : List Cond := .code yX4_order cX4_order 5 (some .int) :: WS
abbrev wsX4_requireNotNegative : List Cond := .code yX4_requireNotNegative cX4_requireNotNegative 1 none :: WS
abbrev wsX1_mayBeTakenFor : List Cond := .code yX1_mayBeTakenFor cX1_mayBeTakenFor 4 (some .boolean) :: WS
abbrev wsX1_mayBeTaken : List Cond := .code yX1_mayBeTaken cX1_mayBeTaken 2 (some .boolean) :: WS
abbrev wsX1_rivalsBefore : List Cond := .code yX1_rivalsBefore cX1_rivalsBefore 5 (some .int) :: WS
abbrev wsX1_comesBefore : List Cond := .code yX1_comesBefore cX1_comesBefore 4 (some .boolean) :: WS
abbrev wsX1_arrivedBefore : List Cond := .code yX1_arrivedBefore cX1_arrivedBefore 3 (some .boolean) :: WS
abbrev wsL_allowed : List Cond := .codeWith yL_allowed cL_allowed 6 (some .int) [(0, 19, 22, 33), (0, 19, 26, 13)] :: WS
abbrev wsX4_allowed : List Cond := .code yX4_allowed cX4_allowed 4 (some .boolean) :: WS
abbrev wsX4_mayGo : List Cond := .code yX4_mayGo cX4_mayGo 4 (some .boolean) :: WS
abbrev wsL_split : List Cond := .codeWith yL_split cL_split 4 (some .int) [(0, 9, 12, 33), (0, 9, 15, 35), (0, 9, 18, 15)] :: WS
abbrev wsX4_split : List Cond := .code yX4_split cX4_split 3 (some .int) :: WS
abbrev wsX1_addPartOf : List Cond := .code yX1_addPartOf cX1_addPartOf 3 (some .int) :: WS
abbrev wsL_join : List Cond := .codeWith yL_join cL_join 4 (some .int) [(0, 6, 9, 33), (0, 6, 12, 35), (0, 6, 15, 15)] :: WS
abbrev wsX4_join : List Cond := .code yX4_join cX4_join 3 none :: WS
abbrev wsX1_areAlike : List Cond := .code yX1_areAlike cX1_areAlike 3 (some .boolean) :: WS
abbrev wsX1_closeInto : List Cond := .code yX1_closeInto cX1_closeInto 3 none :: WS
abbrev wsX3_moveAll : List Cond := .code yX3_moveAll cX3_moveAll 4 none :: WS
abbrev wsL_unit : List Cond := .codeWith yL_unit cL_unit 4 (some .int) [(0, 9, 12, 33), (0, 9, 15, 35), (0, 9, 18, 15)] :: WS
abbrev wsX4_unit : List Cond := .code yX4_unit cX4_unit 3 (some .int) :: WS
abbrev wsX3_haveRoom : List Cond := .code yX3_haveRoom cX3_haveRoom 1 (some .boolean) :: WS
abbrev wsX3_add : List Cond := .code yX3_add cX3_add 2 (some .int) :: WS
abbrev wsL_put : List Cond := .codeWith yL_put cL_put 4 (some .int) [(0, 6, 9, 33), (0, 6, 12, 13), (0, 6, 15, 35)] :: WS
abbrev wsX4_put : List Cond := .code yX4_put cX4_put 4 none :: WS
abbrev wsX4_requireUnit : List Cond := .code yX4_requireUnit cX4_requireUnit 2 none :: WS
abbrev wsX3_isGone : List Cond := .code yX3_isGone cX3_isGone 2 (some .boolean) :: WS
abbrev wsX4_lotThatHinders : List Cond := .code yX4_lotThatHinders cX4_lotThatHinders 6 (some .int) :: WS
abbrev wsX1_lieTooFarApart : List Cond := .code yX1_lieTooFarApart cX1_lieTooFarApart 4 (some .boolean) :: WS
abbrev wsL_mixed : List Cond := .codeWith yL_mixed cL_mixed 4 (some .int) [(0, 9, 12, 13)] :: WS
abbrev wsX4_mixed : List Cond := .code yX4_mixed cX4_mixed 2 (some .int) :: WS
abbrev wsL_ship : List Cond := .codeWith yL_ship cL_ship 5 (some .int) [(0, 7, 10, 33), (0, 7, 14, 13), (0, 7, 18, 35), (0, 7, 22, 15)] :: WS
abbrev wsX4_ship : List Cond := .code yX4_ship cX4_ship 5 none :: WS
abbrev wsX3_send : List Cond := .code yX3_send cX3_send 4 none :: WS
abbrev wsL_recall : List Cond := .codeWith yL_recall cL_recall 5 (some .int) [(0, 10, 13, 33), (0, 10, 17, 13)] :: WS
abbrev wsX4_recall : List Cond := .code yX4_recall cX4_recall 3 (some .int) :: WS
abbrev wsX1_familyOf : List Cond := .code yX1_familyOf cX1_familyOf 6 (some .long) :: WS
abbrev wsX3_everOfFamily : List Cond := .code yX3_everOfFamily cX3_everOfFamily 6 (some .int) :: WS
abbrev wsL_where : List Cond := .codeWith yL_where cL_where 5 (some .int) [(0, 10, 13, 33), (0, 10, 17, 13)] :: WS
abbrev wsX4_where : List Cond := .code yX4_where cX4_where 3 (some .int) :: WS
abbrev wsL_history : List Cond := .codeWith yL_history cL_history 6 (some .int) [(0, 12, 15, 33), (0, 12, 19, 13)] :: WS
abbrev wsX4_history : List Cond := .code yX4_history cX4_history 5 (some .int) :: WS
abbrev wsX2_find : List Cond := .code yX2_find cX2_find 5 (some .int) :: WS
abbrev wsL_told : List Cond := .codeWith yL_told cL_told 5 (some .int) [(0, 10, 13, 33), (0, 10, 17, 13)] :: WS
abbrev wsX4_told : List Cond := .code yX4_told cX4_told 3 (some .int) :: WS
abbrev wsX3_leftOf : List Cond := .code yX3_leftOf cX3_leftOf 4 (some .int) :: WS
abbrev wsL_day : List Cond := .codeWith yL_day cL_day 5 (some .int) [(0, 10, 13, 13)] :: WS
abbrev wsX4_day : List Cond := .code yX4_day cX4_day 6 (some .int) :: WS
abbrev wsX0_fromYearDay : List Cond := .code yX0_fromYearDay cX0_fromYearDay 2 (some .int) :: WS
abbrev wsX0_daysBefore : List Cond := .code yX0_daysBefore cX0_daysBefore 3 (some .int) :: WS
abbrev wsX0_startOfYear : List Cond := .code yX0_startOfYear cX0_startOfYear 1 (some .int) :: WS
abbrev wsX0_fromMonthDay : List Cond := .code yX0_fromMonthDay cX0_fromMonthDay 4 (some .int) :: WS
abbrev wsL_date : List Cond := .codeWith yL_date cL_date 5 (some .int) [(0, 10, 13, 13)] :: WS
abbrev wsX4_date : List Cond := .code yX4_date cX4_date 7 (some .int) :: WS
abbrev wsX0_yearOf : List Cond := .code yX0_yearOf cX0_yearOf 2 (some .int) :: WS
abbrev wsX0_monthOf : List Cond := .code yX0_monthOf cX0_monthOf 3 (some .int) :: WS
abbrev wsX5_init : List Cond := .code yX5_init cX5_init 1 none :: WS
abbrev wsX5_thrown : List Cond := .code yX5_thrown cX5_thrown 1 (some .int) :: WS
abbrev wsX5_lot : List Cond := .code yX5_lot cX5_lot 6 (some .int) :: WS
abbrev wsX5_in : List Cond := .code yX5_in cX5_in 3 (some .boolean) :: WS
abbrev wsX5_make : List Cond := .code yX5_make cX5_make 6 (some .int) :: WS
abbrev wsX5_row : List Cond := .code yX5_row cX5_row 4 none :: WS
abbrev wsX5_rule : List Cond := .code yX5_rule cX5_rule 4 none :: WS
abbrev wsX5_wants : List Cond := .code yX5_wants cX5_wants 3 none :: WS
abbrev wsX5_right : List Cond := .code yX5_right cX5_right 4 none :: WS
abbrev wsX5_block : List Cond := .code yX5_block cX5_block 3 (some .int) :: WS
abbrev wsX5_isLot : List Cond := .code yX5_isLot cX5_isLot 2 (some .boolean) :: WS
abbrev wsX5_isOpen : List Cond := .code yX5_isOpen cX5_isOpen 2 (some .boolean) :: WS
abbrev wsX5_bits : List Cond := .code yX5_bits cX5_bits 3 (some .int) :: WS
abbrev wsX5_release : List Cond := .code yX5_release cX5_release 4 (some .int) :: WS
abbrev wsX5_quarantine : List Cond := .code yX5_quarantine cX5_quarantine 3 none :: WS
abbrev wsX5_order : List Cond := .code yX5_order cX5_order 7 (some .int) :: WS
abbrev wsX5_mayBeTaken : List Cond := .code yX5_mayBeTaken cX5_mayBeTaken 2 (some .boolean) :: WS
abbrev wsX5_isBefore : List Cond := .code yX5_isBefore cX5_isBefore 4 (some .boolean) :: WS
abbrev wsX5_allowed : List Cond := .code yX5_allowed cX5_allowed 4 (some .boolean) :: WS
abbrev wsX5_isAllowed : List Cond := .code yX5_isAllowed cX5_isAllowed 4 (some .boolean) :: WS
abbrev wsX5_split : List Cond := .code yX5_split cX5_split 3 (some .int) :: WS
abbrev wsX5_join : List Cond := .code yX5_join cX5_join 4 none :: WS
abbrev wsX5_unit : List Cond := .code yX5_unit cX5_unit 2 (some .int) :: WS
abbrev wsX5_put : List Cond := .code yX5_put cX5_put 4 none :: WS
abbrev wsX5_isUnit : List Cond := .code yX5_isUnit cX5_isUnit 2 (some .boolean) :: WS
abbrev wsX5_isGone : List Cond := .code yX5_isGone cX5_isGone 2 (some .boolean) :: WS
abbrev wsX5_mayMix : List Cond := .code yX5_mayMix cX5_mayMix 4 (some .boolean) :: WS
abbrev wsX5_mixed : List Cond := .code yX5_mixed cX5_mixed 2 (some .int) :: WS
abbrev wsX5_ship : List Cond := .code yX5_ship cX5_ship 4 none :: WS
abbrev wsX5_recall : List Cond := .code yX5_recall cX5_recall 7 (some .int) :: WS
abbrev wsX5_findFamily : List Cond := .code yX5_findFamily cX5_findFamily 4 none :: WS
abbrev wsX5_where : List Cond := .code yX5_where cX5_where 3 (some .int) :: WS
abbrev wsX5_history : List Cond := .code yX5_history cX5_history 7 (some .int) :: WS
abbrev wsX5_told : List Cond := .code yX5_told cX5_told 5 (some .int) :: WS
abbrev wsX5_day : List Cond := .code yX5_day cX5_day 4 (some .int) :: WS
abbrev wsX5_dayOf : List Cond := .code yX5_dayOf cX5_dayOf 5 (some .int) :: WS
abbrev wsX5_daysOfMonth : List Cond := .code yX5_daysOfMonth cX5_daysOfMonth 2 (some .int) :: WS
abbrev wsX5_firstOf : List Cond := .code yX5_firstOf cX5_firstOf 3 (some .int) :: WS
abbrev wsX5_daysOfYear : List Cond := .code yX5_daysOfYear cX5_daysOfYear 1 (some .int) :: WS
abbrev wsX5_date : List Cond := .code yX5_date cX5_date 6 (some .int) :: WS
abbrev wsX5_count : List Cond := .code yX5_count cX5_count 4 (some .int) :: WS
end
section
abbrev cS : Type := ((Nat → Int32) × (Nat → Int32) × (Nat → Int32) × (Nat → Int32) × Int32 × Int32) × ((Nat → Int32) × (Nat → Int32) × (Nat → Int32) × (Nat → Int32) × (Nat → Int32) × (Nat → Int32) × (Nat → Int32) × (Nat → Int64) × Int32) × ((Nat → Int32) × (Nat → Int32) × (Nat → Int32) × (Nat → Int32) × (Nat → Int32) × Int32 × Int32) × ((Nat → Int32) × (Nat → Int32) × (Nat → Int32) × Int32)
def k_rot (u : cS) : Nat → Int32 := u.1.1
def s_rot (u : cS) (x : Nat → Int32) : cS := ((x, u.1.2), u.2)
def k_mix (u : cS) : Nat → Int32 := u.1.2.1
def s_mix (u : cS) (x : Nat → Int32) : cS := ((u.1.1, (x, u.1.2.2)), u.2)
def k_want (u : cS) : Nat → Int32 := u.1.2.2.1
def s_want (u : cS) (x : Nat → Int32) : cS := ((u.1.1, (u.1.2.1, (x, u.1.2.2.2))), u.2)
def k_may (u : cS) : Nat → Int32 := u.1.2.2.2.1
def s_may (u : cS) (x : Nat → Int32) : cS := ((u.1.1, (u.1.2.1, (u.1.2.2.1, (x, u.1.2.2.2.2)))), u.2)
def k_refused (u : cS) : Int32 := u.1.2.2.2.2.1
def s_refused (u : cS) (x : Int32) : cS := ((u.1.1, (u.1.2.1, (u.1.2.2.1, (u.1.2.2.2.1, (x, u.1.2.2.2.2.2))))), u.2)
def k_hinder (u : cS) : Int32 := u.1.2.2.2.2.2
def s_hinder (u : cS) (x : Int32) : cS := ((u.1.1, (u.1.2.1, (u.1.2.2.1, (u.1.2.2.2.1, (u.1.2.2.2.2.1, x))))), u.2)
def k_goods (u : cS) : Nat → Int32 := u.2.1.1
def s_goods (u : cS) (x : Nat → Int32) : cS := (u.1, ((x, u.2.1.2), u.2.2))
def k_owners (u : cS) : Nat → Int32 := u.2.1.2.1
def s_owners (u : cS) (x : Nat → Int32) : cS := (u.1, ((u.2.1.1, (x, u.2.1.2.2)), u.2.2))
def k_last (u : cS) : Nat → Int32 := u.2.1.2.2.1
def s_last (u : cS) (x : Nat → Int32) : cS := (u.1, ((u.2.1.1, (u.2.1.2.1, (x, u.2.1.2.2.2))), u.2.2))
def k_arr (u : cS) : Nat → Int32 := u.2.1.2.2.2.1
def s_arr (u : cS) (x : Nat → Int32) : cS := (u.1, ((u.2.1.1, (u.2.1.2.1, (u.2.1.2.2.1, (x, u.2.1.2.2.2.2)))), u.2.2))
def k_open (u : cS) : Nat → Int32 := u.2.1.2.2.2.2.1
def s_open (u : cS) (x : Nat → Int32) : cS := (u.1, ((u.2.1.1, (u.2.1.2.1, (u.2.1.2.2.1, (u.2.1.2.2.2.1, (x, u.2.1.2.2.2.2.2))))), u.2.2))
def k_reas (u : cS) : Nat → Int32 := u.2.1.2.2.2.2.2.1
def s_reas (u : cS) (x : Nat → Int32) : cS := (u.1, ((u.2.1.1, (u.2.1.2.1, (u.2.1.2.2.1, (u.2.1.2.2.2.1, (u.2.1.2.2.2.2.1, (x, u.2.1.2.2.2.2.2.2)))))), u.2.2))
def k_quar (u : cS) : Nat → Int32 := u.2.1.2.2.2.2.2.2.1
def s_quar (u : cS) (x : Nat → Int32) : cS := (u.1, ((u.2.1.1, (u.2.1.2.1, (u.2.1.2.2.1, (u.2.1.2.2.2.1, (u.2.1.2.2.2.2.1, (u.2.1.2.2.2.2.2.1, (x, u.2.1.2.2.2.2.2.2.2))))))), u.2.2))
def k_kin (u : cS) : Nat → Int64 := u.2.1.2.2.2.2.2.2.2.1
def s_kin (u : cS) (x : Nat → Int64) : cS := (u.1, ((u.2.1.1, (u.2.1.2.1, (u.2.1.2.2.1, (u.2.1.2.2.2.1, (u.2.1.2.2.2.2.1, (u.2.1.2.2.2.2.2.1, (u.2.1.2.2.2.2.2.2.1, (x, u.2.1.2.2.2.2.2.2.2.2)))))))), u.2.2))
def k_lmade (u : cS) : Int32 := u.2.1.2.2.2.2.2.2.2.2
def s_lmade (u : cS) (x : Int32) : cS := (u.1, ((u.2.1.1, (u.2.1.2.1, (u.2.1.2.2.1, (u.2.1.2.2.2.1, (u.2.1.2.2.2.2.1, (u.2.1.2.2.2.2.2.1, (u.2.1.2.2.2.2.2.2.1, (u.2.1.2.2.2.2.2.2.2.1, x)))))))), u.2.2))
def k_ulot (u : cS) : Nat → Int32 := u.2.2.1.1
def s_ulot (u : cS) (x : Nat → Int32) : cS := (u.1, (u.2.1, ((x, u.2.2.1.2), u.2.2.2)))
def k_ubin (u : cS) : Nat → Int32 := u.2.2.1.2.1
def s_ubin (u : cS) (x : Nat → Int32) : cS := (u.1, (u.2.1, ((u.2.2.1.1, (x, u.2.2.1.2.2)), u.2.2.2)))
def k_ucust (u : cS) : Nat → Int32 := u.2.2.1.2.2.1
def s_ucust (u : cS) (x : Nat → Int32) : cS := (u.1, (u.2.1, ((u.2.2.1.1, (u.2.2.1.2.1, (x, u.2.2.1.2.2.2))), u.2.2.2)))
def k_uday (u : cS) : Nat → Int32 := u.2.2.1.2.2.2.1
def s_uday (u : cS) (x : Nat → Int32) : cS := (u.1, (u.2.1, ((u.2.2.1.1, (u.2.2.1.2.1, (u.2.2.1.2.2.1, (x, u.2.2.1.2.2.2.2)))), u.2.2.2)))
def k_ufirst (u : cS) : Nat → Int32 := u.2.2.1.2.2.2.2.1
def s_ufirst (u : cS) (x : Nat → Int32) : cS := (u.1, (u.2.1, ((u.2.2.1.1, (u.2.2.1.2.1, (u.2.2.1.2.2.1, (u.2.2.1.2.2.2.1, (x, u.2.2.1.2.2.2.2.2))))), u.2.2.2)))
def k_umade (u : cS) : Int32 := u.2.2.1.2.2.2.2.2.1
def s_umade (u : cS) (x : Int32) : cS := (u.1, (u.2.1, ((u.2.2.1.1, (u.2.2.1.2.1, (u.2.2.1.2.2.1, (u.2.2.1.2.2.2.1, (u.2.2.1.2.2.2.2.1, (x, u.2.2.1.2.2.2.2.2.2)))))), u.2.2.2)))
def k_ugone (u : cS) : Int32 := u.2.2.1.2.2.2.2.2.2
def s_ugone (u : cS) (x : Int32) : cS := (u.1, (u.2.1, ((u.2.2.1.1, (u.2.2.1.2.1, (u.2.2.1.2.2.1, (u.2.2.1.2.2.2.1, (u.2.2.1.2.2.2.2.1, (u.2.2.1.2.2.2.2.2.1, x)))))), u.2.2.2)))
def k_rlot (u : cS) : Nat → Int32 := u.2.2.2.1
def s_rlot (u : cS) (x : Nat → Int32) : cS := (u.1, (u.2.1, (u.2.2.1, (x, u.2.2.2.2))))
def k_rkind (u : cS) : Nat → Int32 := u.2.2.2.2.1
def s_rkind (u : cS) (x : Nat → Int32) : cS := (u.1, (u.2.1, (u.2.2.1, (u.2.2.2.1, (x, u.2.2.2.2.2)))))
def k_rnum (u : cS) : Nat → Int32 := u.2.2.2.2.2.1
def s_rnum (u : cS) (x : Nat → Int32) : cS := (u.1, (u.2.1, (u.2.2.1, (u.2.2.2.1, (u.2.2.2.2.1, (x, u.2.2.2.2.2.2))))))
def k_rwrit (u : cS) : Int32 := u.2.2.2.2.2.2
def s_rwrit (u : cS) (x : Int32) : cS := (u.1, (u.2.1, (u.2.2.1, (u.2.2.2.1, (u.2.2.2.2.1, (u.2.2.2.2.2.1, x))))))
abbrev cG : Type := ClassId × ClassId × ClassId
abbrev cTys (g : cG) : List (ClassId × FieldType) := [(g.1, .int), (g.2.1, .boolean), (g.2.2, .long)]
def cw (g : cG) (h : Nat → Nat) (u : cS) : va_W := [
  (h 0, .inr (3, [.ref (h 1), .ref (h 2), .ref (h 3), .ref (h 4), .ref (h 5), .ref (h 6), .ref (h 7), .int (k_refused u), .int (k_hinder u)])),
  (h 1, .inr (0, [.ref (h 8), .ref (h 9), .ref (h 10), .ref (h 11), .ref (h 12), .ref (h 13), .ref (h 14), .ref (h 15), .int (k_lmade u)])),
  (h 2, .inr (2, [.ref (h 16), .ref (h 17), .ref (h 18), .ref (h 19), .ref (h 20), .int (k_umade u), .int (k_ugone u)])),
  (h 3, .inr (1, [.ref (h 21), .ref (h 22), .ref (h 23), .int (k_rwrit u)])),
  (h 4, .inl (g.1, 8, .inl (k_rot u))),
  (h 5, .inl (g.1, 8, .inl (k_mix u))),
  (h 6, .inl (g.1, 8, .inl (k_want u))),
  (h 7, .inl (g.1, 8, .inl (k_may u))),
  (h 8, .inl (g.1, 41, .inl (k_goods u))),
  (h 9, .inl (g.1, 41, .inl (k_owners u))),
  (h 10, .inl (g.1, 41, .inl (k_last u))),
  (h 11, .inl (g.1, 41, .inl (k_arr u))),
  (h 12, .inl (g.2.1, 41, .inl (k_open u))),
  (h 13, .inl (g.1, 41, .inl (k_reas u))),
  (h 14, .inl (g.2.1, 41, .inl (k_quar u))),
  (h 15, .inl (g.2.2, 41, .inr (.inl (k_kin u)))),
  (h 16, .inl (g.1, 121, .inl (k_ulot u))),
  (h 17, .inl (g.1, 121, .inl (k_ubin u))),
  (h 18, .inl (g.1, 121, .inl (k_ucust u))),
  (h 19, .inl (g.1, 121, .inl (k_uday u))),
  (h 20, .inl (g.1, 121, .inl (k_ufirst u))),
  (h 21, .inl (g.1, 400, .inl (k_rlot u))),
  (h 22, .inl (g.1, 400, .inl (k_rkind u))),
  (h 23, .inl (g.1, 400, .inl (k_rnum u)))]
theorem cw_at0 (g : cG) (h : Nat → Nat) (u : cS) : (cw g h u)[0]? = some (h 0, .inr (3, [.ref (h 1), .ref (h 2), .ref (h 3), .ref (h 4), .ref (h 5), .ref (h 6), .ref (h 7), .int (k_refused u), .int (k_hinder u)])) := rfl
theorem cw_at1 (g : cG) (h : Nat → Nat) (u : cS) : (cw g h u)[1]? = some (h 1, .inr (0, [.ref (h 8), .ref (h 9), .ref (h 10), .ref (h 11), .ref (h 12), .ref (h 13), .ref (h 14), .ref (h 15), .int (k_lmade u)])) := rfl
theorem cw_at2 (g : cG) (h : Nat → Nat) (u : cS) : (cw g h u)[2]? = some (h 2, .inr (2, [.ref (h 16), .ref (h 17), .ref (h 18), .ref (h 19), .ref (h 20), .int (k_umade u), .int (k_ugone u)])) := rfl
theorem cw_at3 (g : cG) (h : Nat → Nat) (u : cS) : (cw g h u)[3]? = some (h 3, .inr (1, [.ref (h 21), .ref (h 22), .ref (h 23), .int (k_rwrit u)])) := rfl
theorem cw_at4 (g : cG) (h : Nat → Nat) (u : cS) : (cw g h u)[4]? = some (h 4, .inl (g.1, 8, .inl (k_rot u))) := rfl
theorem cw_at5 (g : cG) (h : Nat → Nat) (u : cS) : (cw g h u)[5]? = some (h 5, .inl (g.1, 8, .inl (k_mix u))) := rfl
theorem cw_at6 (g : cG) (h : Nat → Nat) (u : cS) : (cw g h u)[6]? = some (h 6, .inl (g.1, 8, .inl (k_want u))) := rfl
theorem cw_at7 (g : cG) (h : Nat → Nat) (u : cS) : (cw g h u)[7]? = some (h 7, .inl (g.1, 8, .inl (k_may u))) := rfl
theorem cw_at8 (g : cG) (h : Nat → Nat) (u : cS) : (cw g h u)[8]? = some (h 8, .inl (g.1, 41, .inl (k_goods u))) := rfl
theorem cw_at9 (g : cG) (h : Nat → Nat) (u : cS) : (cw g h u)[9]? = some (h 9, .inl (g.1, 41, .inl (k_owners u))) := rfl
theorem cw_at10 (g : cG) (h : Nat → Nat) (u : cS) : (cw g h u)[10]? = some (h 10, .inl (g.1, 41, .inl (k_last u))) := rfl
theorem cw_at11 (g : cG) (h : Nat → Nat) (u : cS) : (cw g h u)[11]? = some (h 11, .inl (g.1, 41, .inl (k_arr u))) := rfl
theorem cw_at12 (g : cG) (h : Nat → Nat) (u : cS) : (cw g h u)[12]? = some (h 12, .inl (g.2.1, 41, .inl (k_open u))) := rfl
theorem cw_at13 (g : cG) (h : Nat → Nat) (u : cS) : (cw g h u)[13]? = some (h 13, .inl (g.1, 41, .inl (k_reas u))) := rfl
theorem cw_at14 (g : cG) (h : Nat → Nat) (u : cS) : (cw g h u)[14]? = some (h 14, .inl (g.2.1, 41, .inl (k_quar u))) := rfl
theorem cw_at15 (g : cG) (h : Nat → Nat) (u : cS) : (cw g h u)[15]? = some (h 15, .inl (g.2.2, 41, .inr (.inl (k_kin u)))) := rfl
theorem cw_at16 (g : cG) (h : Nat → Nat) (u : cS) : (cw g h u)[16]? = some (h 16, .inl (g.1, 121, .inl (k_ulot u))) := rfl
theorem cw_at17 (g : cG) (h : Nat → Nat) (u : cS) : (cw g h u)[17]? = some (h 17, .inl (g.1, 121, .inl (k_ubin u))) := rfl
theorem cw_at18 (g : cG) (h : Nat → Nat) (u : cS) : (cw g h u)[18]? = some (h 18, .inl (g.1, 121, .inl (k_ucust u))) := rfl
theorem cw_at19 (g : cG) (h : Nat → Nat) (u : cS) : (cw g h u)[19]? = some (h 19, .inl (g.1, 121, .inl (k_uday u))) := rfl
theorem cw_at20 (g : cG) (h : Nat → Nat) (u : cS) : (cw g h u)[20]? = some (h 20, .inl (g.1, 121, .inl (k_ufirst u))) := rfl
theorem cw_at21 (g : cG) (h : Nat → Nat) (u : cS) : (cw g h u)[21]? = some (h 21, .inl (g.1, 400, .inl (k_rlot u))) := rfl
theorem cw_at22 (g : cG) (h : Nat → Nat) (u : cS) : (cw g h u)[22]? = some (h 22, .inl (g.1, 400, .inl (k_rkind u))) := rfl
theorem cw_at23 (g : cG) (h : Nat → Nat) (u : cS) : (cw g h u)[23]? = some (h 23, .inl (g.1, 400, .inl (k_rnum u))) := rfl
def zz_txt : List (String × Nat × String) := [(RX4, 148, "it may not lie with what is there"), (RX4, 172, "what is not 0 .. 3"), (RX4, 180, "no such row"), (RX4, 204, "what is not 0 .. 7"), (RX4, 242, "no such lot"), (RX4, 244, "no such unit"), (RX4, 246, "a number outside its range"), (RX4, 248, "i is below 0"), (RX4, 250, "not as it is now"), (RX4, 254, "no room")]
/-! what the throws and the calendar's table take as given: words, texts, statics -/
def zz_bad : List Cond := [.castable "java/util/NoSuchElementException" "java/util/NoSuchElementException", .castable "java/lang/IllegalArgumentException" "java/lang/IllegalArgumentException", .castable "java/lang/IllegalStateException" "java/lang/IllegalStateException", .castable "java/lang/UnsupportedOperationException" "java/lang/UnsupportedOperationException", .declares ⟨"java/lang/RuntimeException", "<init>", "(Ljava/lang/String;)V"⟩, .declares ⟨"java/lang/Exception", "<init>", "(Ljava/lang/String;)V"⟩, .declares ⟨"java/lang/Throwable", "<init>", "(Ljava/lang/String;)V"⟩]
def c_tab (j : Nat) : Int32 := ([0, 31, 59, 90, 120, 151, 181, 212, 243, 273, 304, 334, 365] : List Int32).getD j 0
def zt (A : Nat → Prop) (U : State) (H : Heap) : Prop := ∃ t : Nat, va_Z "LotRules$Calendar" "DAYS_BEFORE_MONTH" "[I" (.ref t) A U H ∧ va_T .int t 13 (fun j => .int (c_tab j)) A U H
abbrev zr (U : State) (H : Heap) : Prop := zt (fun _ => False) U H
def zz (A : Nat → Prop) (U : State) (H : Heap) : Prop := (∀ w ∈ zz_bad, va_Nw w U) ∧ (∀ q ∈ zz_txt, ∃ sa : Nat, vk_R q.1 q.2.1 q.2.2 sa U) ∧ vx_Zq Bundle.tN "UNASSIGNED_STACK" Bundle.steD A U H ∧ vx_Zq Bundle.tN "SUPPRESSED_SENTINEL" Bundle.listD A U H ∧ zt A U H
theorem zz_U {A : Nat → Prop} {U : State} {H : Heap} (h : zz A U H) : vx_Zq Bundle.tN "UNASSIGNED_STACK" Bundle.steD A U H := h.2.2.1
theorem zz_N {A : Nat → Prop} {U : State} {H : Heap} (h : zz A U H) : vx_Zq Bundle.tN "SUPPRESSED_SENTINEL" Bundle.listD A U H := h.2.2.2.1
theorem zz_ws {A : Nat → Prop} {U : State} {H : Heap} {args : Array Value} {B : List Cond} (h : zz A U H) (hB : ∀ w ∈ B, w ∈ zz_bad ∧ w.onTables = true) : ∀ w ∈ B, w.before args U = true := fun w hw => va_Nw.use (hB w hw).2 (h.1 w (hB w hw).1)
theorem zz_st {A : Nat → Prop} {U : State} {H : Heap} (h : zz A U H) {own : String} {k : Nat} {tx : String} (hq : (own, k, tx) ∈ zz_txt) : ∃ sa : Nat, vk_R own k tx sa U := h.2.1 _ hq
theorem zz_warm {s U : State} (hW : s.WarmedH U.vm) (h : ∀ w ∈ zz_bad, va_Nw w s) : ∀ w ∈ zz_bad, va_Nw w U := by
  intro w hw
  have h1 := h w hw
  simp only [zz_bad, List.mem_cons, List.not_mem_nil, or_false] at hw
  rcases hw with rfl | rfl | rfl | rfl | rfl | rfl | rfl
  · exact va_Nw.warmC hW h1
  · exact va_Nw.warmC hW h1
  · exact va_Nw.warmC hW h1
  · exact va_Nw.warmC hW h1
  · exact va_Nw.warmD hW h1
  · exact va_Nw.warmD hW h1
  · exact va_Nw.warmD hW h1
theorem zt_moved {A : Nat → Prop} {u U : State} {H : Heap} (hvm : u.vm.Alike U.vm) (h : zt A u H) : zt A U H := by
  obtain ⟨t, h1, h2⟩ := h
  exact ⟨t, h1.moved hvm, h2.moved hvm⟩
theorem zt_kept {A : Nat → Prop} {U : State} {H H1 : Heap} (h : zt A U H) (hq : ∀ a : Nat, a < H.size → ¬ A a → H1[a]? = H[a]?) : zt A U H1 := by
  obtain ⟨t, h1, h2⟩ := h
  exact ⟨t, h1.kept hq, h2.kept hq⟩
theorem zt_narrow {A B : Nat → Prop} {U : State} {H : Heap} (h : zt A U H) (hAB : ∀ q, B q → A q) : zt B U H := by
  obtain ⟨t, h1, h2⟩ := h
  exact ⟨t, h1.narrow hAB, h2.narrow hAB⟩
theorem zz_to {A B : Nat → Prop} {s U : State} {H : Heap} {locs : List Loc} (h : zz A s s.heap) (hS : va_S A s.heap H locs) (hAB : ∀ q, B q → A q) (hW : s.WarmedH U.vm) : zz B U H :=
  ⟨zz_warm hW h.1, fun q hq => (h.2.1 q hq).imp (fun _ h => vk_R.warm hW h), ((h.2.2.1.kept (fun a h1 h2 => hS.2.1 a h1 h2)).narrow hAB).moved hW.alike, ((h.2.2.2.1.kept (fun a h1 h2 => hS.2.1 a h1 h2)).narrow hAB).moved hW.alike, zt_moved hW.alike (zt_narrow (zt_kept h.2.2.2.2 (fun a h1 h2 => hS.2.1 a h1 h2)) hAB)⟩
theorem zz_same {A : Nat → Prop} {u U : State} {H H1 : Heap} (hv : U.vm = u.vm) (hh : H1 = H) (h : zz A u H) : zz A U H1 := by
  subst hh
  have hal : u.vm.Alike U.vm := hv ▸ Vm.Alike.refl u.vm
  refine ⟨fun w hw => ?_, fun q hq => (h.2.1 q hq).imp (fun _ h => vk_R.same hv h), h.2.2.1.moved hal, h.2.2.2.1.moved hal, zt_moved hal h.2.2.2.2⟩
  have h1 := h.1 w hw
  simp only [zz_bad, List.mem_cons, List.not_mem_nil, or_false] at hw
  rcases hw with rfl | rfl | rfl | rfl | rfl | rfl | rfl <;> exact va_Nw.same rfl hv.symm h1
theorem zr_to {A : Nat → Prop} {s U : State} {H : Heap} {locs : List Loc} (h : zz A s s.heap) (hS : va_S A s.heap H locs) (hW : s.WarmedH U.vm) : zr U H := (zz_to h hS (B := fun _ => False) (fun _ q => q.elim) hW).2.2.2.2
theorem zr_to2 {A : Nat → Prop} {s U : State} {H : Heap} {locs : List Loc} (h : zt A s s.heap) (hS : va_S A s.heap H locs) (hW : s.WarmedH U.vm) : zr U H := zt_moved hW.alike (zt_narrow (zt_kept h (fun a h1 h2 => hS.2.1 a h1 h2)) (fun _ q => q.elim))
theorem zr_same {u U : State} {H H1 : Heap} (hv : U.vm = u.vm) (hh : H1 = H) (h : zr u H) : zr U H1 := by
  subst hh
  exact zt_moved (hv ▸ Vm.Alike.refl u.vm) h

/-- what every state of the class keeps: the counts and the numbers that are used as places -/
def cInv (u : cS) : Prop := (0 ≤ (k_lmade u).toInt ∧ (k_lmade u).toInt ≤ 40) ∧ (0 ≤ (k_umade u).toInt ∧ (k_umade u).toInt ≤ 120) ∧ (0 ≤ (k_rwrit u).toInt ∧ (k_rwrit u).toInt ≤ 400) ∧ (∀ j : Nat, 0 ≤ (k_owners u j).toInt ∧ (k_owners u j).toInt < 8) ∧ (∀ j : Nat, 0 ≤ (k_ulot u j).toInt ∧ (k_ulot u j).toInt ≤ 40) ∧ (∀ j : Nat, 0 ≤ (k_ufirst u j).toInt ∧ (k_ufirst u j).toInt ≤ 40)
end
section
def fJ6_bitCount (x0 : Int32) : Int32 :=
  (((((((x0 - (((x0.toUInt32 >>> ((1 : Int32).toUInt32 &&& Int32.toUInt32 31)).toInt32) &&& 1431655765)) &&& 858993459) + ((((x0 - (((x0.toUInt32 >>> ((1 : Int32).toUInt32 &&& Int32.toUInt32 31)).toInt32) &&& 1431655765)).toUInt32 >>> ((2 : Int32).toUInt32 &&& Int32.toUInt32 31)).toInt32) &&& 858993459)) + (((((x0 - (((x0.toUInt32 >>> ((1 : Int32).toUInt32 &&& Int32.toUInt32 31)).toInt32) &&& 1431655765)) &&& 858993459) + ((((x0 - (((x0.toUInt32 >>> ((1 : Int32).toUInt32 &&& Int32.toUInt32 31)).toInt32) &&& 1431655765)).toUInt32 >>> ((2 : Int32).toUInt32 &&& Int32.toUInt32 31)).toInt32) &&& 858993459)).toUInt32 >>> ((4 : Int32).toUInt32 &&& Int32.toUInt32 31)).toInt32)) &&& 252645135) + (((((((x0 - (((x0.toUInt32 >>> ((1 : Int32).toUInt32 &&& Int32.toUInt32 31)).toInt32) &&& 1431655765)) &&& 858993459) + ((((x0 - (((x0.toUInt32 >>> ((1 : Int32).toUInt32 &&& Int32.toUInt32 31)).toInt32) &&& 1431655765)).toUInt32 >>> ((2 : Int32).toUInt32 &&& Int32.toUInt32 31)).toInt32) &&& 858993459)) + (((((x0 - (((x0.toUInt32 >>> ((1 : Int32).toUInt32 &&& Int32.toUInt32 31)).toInt32) &&& 1431655765)) &&& 858993459) + ((((x0 - (((x0.toUInt32 >>> ((1 : Int32).toUInt32 &&& Int32.toUInt32 31)).toInt32) &&& 1431655765)).toUInt32 >>> ((2 : Int32).toUInt32 &&& Int32.toUInt32 31)).toInt32) &&& 858993459)).toUInt32 >>> ((4 : Int32).toUInt32 &&& Int32.toUInt32 31)).toInt32)) &&& 252645135).toUInt32 >>> ((8 : Int32).toUInt32 &&& Int32.toUInt32 31)).toInt32)) + ((((((((x0 - (((x0.toUInt32 >>> ((1 : Int32).toUInt32 &&& Int32.toUInt32 31)).toInt32) &&& 1431655765)) &&& 858993459) + ((((x0 - (((x0.toUInt32 >>> ((1 : Int32).toUInt32 &&& Int32.toUInt32 31)).toInt32) &&& 1431655765)).toUInt32 >>> ((2 : Int32).toUInt32 &&& Int32.toUInt32 31)).toInt32) &&& 858993459)) + (((((x0 - (((x0.toUInt32 >>> ((1 : Int32).toUInt32 &&& Int32.toUInt32 31)).toInt32) &&& 1431655765)) &&& 858993459) + ((((x0 - (((x0.toUInt32 >>> ((1 : Int32).toUInt32 &&& Int32.toUInt32 31)).toInt32) &&& 1431655765)).toUInt32 >>> ((2 : Int32).toUInt32 &&& Int32.toUInt32 31)).toInt32) &&& 858993459)).toUInt32 >>> ((4 : Int32).toUInt32 &&& Int32.toUInt32 31)).toInt32)) &&& 252645135) + (((((((x0 - (((x0.toUInt32 >>> ((1 : Int32).toUInt32 &&& Int32.toUInt32 31)).toInt32) &&& 1431655765)) &&& 858993459) + ((((x0 - (((x0.toUInt32 >>> ((1 : Int32).toUInt32 &&& Int32.toUInt32 31)).toInt32) &&& 1431655765)).toUInt32 >>> ((2 : Int32).toUInt32 &&& Int32.toUInt32 31)).toInt32) &&& 858993459)) + (((((x0 - (((x0.toUInt32 >>> ((1 : Int32).toUInt32 &&& Int32.toUInt32 31)).toInt32) &&& 1431655765)) &&& 858993459) + ((((x0 - (((x0.toUInt32 >>> ((1 : Int32).toUInt32 &&& Int32.toUInt32 31)).toInt32) &&& 1431655765)).toUInt32 >>> ((2 : Int32).toUInt32 &&& Int32.toUInt32 31)).toInt32) &&& 858993459)).toUInt32 >>> ((4 : Int32).toUInt32 &&& Int32.toUInt32 31)).toInt32)) &&& 252645135).toUInt32 >>> ((8 : Int32).toUInt32 &&& Int32.toUInt32 31)).toInt32)).toUInt32 >>> ((16 : Int32).toUInt32 &&& Int32.toUInt32 31)).toInt32)) &&& 63
def fX4_requireRange (x0 : Int32) (x1 : Int32) (x2 : Int32) : Nat :=
  if x0 < x1 then
    2
  else
    if x0 ≤ x2 then
      0
    else
      2
def fX4_requireNotNegative (x0 : Int32) : Nat :=
  if 0 ≤ x0 then
    0
  else
    2
def fX4_requireState (x0 : Int32) : Nat :=
  if x0 = 0 then
    3
  else
    0
def fX4_requireRoom (x0 : Int32) : Nat :=
  if x0 = 0 then
    4
  else
    0
def fX4_requireLot (u : cS) (x1 : Int32) : Nat :=
  if x1 < 1 then
    1
  else
    if x1 ≤ k_lmade u then
      0
    else
      1
def fX4_requireUnit (u : cS) (x1 : Int32) : Nat :=
  if x1 < 1 then
    1
  else
    if x1 ≤ k_umade u then
      0
    else
      1
def fX1_haveRoom (u : cS) : Int32 :=
  if 40 ≤ k_lmade u then
    0
  else
    1
theorem fX1_haveRoom_01 (u : cS) : fX1_haveRoom u = 0 ∨ fX1_haveRoom u = 1 := by
  unfold fX1_haveRoom
  repeat (first | exact Or.inl rfl | exact Or.inr rfl | split)
def fX1_areAlike (u : cS) (x1 : Int32) (x2 : Int32) : Int32 :=
  if k_goods u x1.toNatClampNeg = k_goods u x2.toNatClampNeg then
    if k_owners u x1.toNatClampNeg = k_owners u x2.toNatClampNeg then
      if k_last u x1.toNatClampNeg = k_last u x2.toNatClampNeg then
        if k_reas u x1.toNatClampNeg = k_reas u x2.toNatClampNeg then
          if k_quar u x1.toNatClampNeg = k_quar u x2.toNatClampNeg then
            1
          else
            0
        else
          0
      else
        0
    else
      0
  else
    0
theorem fX1_areAlike_01 (u : cS) (x1 : Int32) (x2 : Int32) : fX1_areAlike u x1 x2 = 0 ∨ fX1_areAlike u x1 x2 = 1 := by
  unfold fX1_areAlike
  repeat (first | exact Or.inl rfl | exact Or.inr rfl | split)
def fX1_lieTooFarApart (u : cS) (x1 : Int32) (x2 : Int32) (x3 : Int32) : Int32 :=
  if k_goods u x1.toNatClampNeg = k_goods u x2.toNatClampNeg then
    if k_owners u x1.toNatClampNeg = k_owners u x2.toNatClampNeg then
      if (if 0 ≤ (k_last u x1.toNatClampNeg) - (k_last u x2.toNatClampNeg) then (k_last u x1.toNatClampNeg) - (k_last u x2.toNatClampNeg) else 0 - ((k_last u x1.toNatClampNeg) - (k_last u x2.toNatClampNeg))) ≤ x3 then
        0
      else
        1
    else
      0
  else
    0
theorem fX1_lieTooFarApart_01 (u : cS) (x1 : Int32) (x2 : Int32) (x3 : Int32) : fX1_lieTooFarApart u x1 x2 x3 = 0 ∨ fX1_lieTooFarApart u x1 x2 x3 = 1 := by
  unfold fX1_lieTooFarApart
  repeat (first | exact Or.inl rfl | exact Or.inr rfl | split)
def fX1_mayBeTaken (u : cS) (x1 : Int32) : Int32 :=
  if k_open u x1.toNatClampNeg = 0 then
    0
  else
    if k_reas u x1.toNatClampNeg = 0 then
      if k_quar u x1.toNatClampNeg = 0 then
        1
      else
        0
    else
      0
theorem fX1_mayBeTaken_01 (u : cS) (x1 : Int32) : fX1_mayBeTaken u x1 = 0 ∨ fX1_mayBeTaken u x1 = 1 := by
  unfold fX1_mayBeTaken
  repeat (first | exact Or.inl rfl | exact Or.inr rfl | split)
def fX1_mayBeTakenFor (u : cS) (x1 : Int32) (x2 : Int32) (x3 : Int32) : Int32 :=
  if k_goods u x1.toNatClampNeg = x2 then
    if k_owners u x1.toNatClampNeg = x3 then
      if fX1_mayBeTaken u x1 = 0 then
        0
      else
        1
    else
      0
  else
    0
theorem fX1_mayBeTakenFor_01 (u : cS) (x1 : Int32) (x2 : Int32) (x3 : Int32) : fX1_mayBeTakenFor u x1 x2 x3 = 0 ∨ fX1_mayBeTakenFor u x1 x2 x3 = 1 := by
  unfold fX1_mayBeTakenFor
  repeat (first | exact Or.inl rfl | exact Or.inr rfl | exact fX1_mayBeTaken_01 _ _ | split)
def fX1_arrivedBefore (u : cS) (x1 : Int32) (x2 : Int32) : Int32 :=
  if k_arr u x1.toNatClampNeg = k_arr u x2.toNatClampNeg then
    if x2 ≤ x1 then
      0
    else
      1
  else
    if k_arr u x2.toNatClampNeg ≤ k_arr u x1.toNatClampNeg then
      0
    else
      1
theorem fX1_arrivedBefore_01 (u : cS) (x1 : Int32) (x2 : Int32) : fX1_arrivedBefore u x1 x2 = 0 ∨ fX1_arrivedBefore u x1 x2 = 1 := by
  unfold fX1_arrivedBefore
  repeat (first | exact Or.inl rfl | exact Or.inr rfl | split)
def fX1_comesBefore (u : cS) (x1 : Int32) (x2 : Int32) (x3 : Int32) : Int32 :=
  if x3 = 2 then
    fX1_arrivedBefore u x2 x1
  else
    if x3 = 0 then
      if k_last u x1.toNatClampNeg = k_last u x2.toNatClampNeg then
        fX1_arrivedBefore u x1 x2
      else
        if k_last u x2.toNatClampNeg ≤ k_last u x1.toNatClampNeg then
          0
        else
          1
    else
      fX1_arrivedBefore u x1 x2
theorem fX1_comesBefore_01 (u : cS) (x1 : Int32) (x2 : Int32) (x3 : Int32) : fX1_comesBefore u x1 x2 x3 = 0 ∨ fX1_comesBefore u x1 x2 x3 = 1 := by
  unfold fX1_comesBefore
  repeat (first | exact Or.inl rfl | exact Or.inr rfl | exact fX1_arrivedBefore_01 _ _ _ | split)
def lpX1_rivalsBefore (u : cS) (x1 : Int32) (x2 : Int32) : Nat → Int32 → Int32 → Int32
  | 0, _, _ => 0
  | n + 1, i, a =>
    if k_lmade u < i then
      a
    else
      if fX1_mayBeTakenFor u i (k_goods u x1.toNatClampNeg) (k_owners u x1.toNatClampNeg) = 0 then
        lpX1_rivalsBefore u x1 x2 n (i + 1) a
      else
        if fX1_comesBefore u i x1 x2 = 0 then
          lpX1_rivalsBefore u x1 x2 n (i + 1) a
        else
          lpX1_rivalsBefore u x1 x2 n (i + 1) (a + 1)
theorem lpX1_rivalsBefore_eq (u : cS) (x1 : Int32) (x2 : Int32) (n : Nat) (i : Int32) (a : Int32) : lpX1_rivalsBefore u x1 x2 (n + 1) i a = (
    if k_lmade u < i then
      a
    else
      if fX1_mayBeTakenFor u i (k_goods u x1.toNatClampNeg) (k_owners u x1.toNatClampNeg) = 0 then
        lpX1_rivalsBefore u x1 x2 n (i + 1) a
      else
        if fX1_comesBefore u i x1 x2 = 0 then
          lpX1_rivalsBefore u x1 x2 n (i + 1) a
        else
          lpX1_rivalsBefore u x1 x2 n (i + 1) (a + 1)) := rfl
def fX1_rivalsBefore (u : cS) (x1 : Int32) (x2 : Int32) : Int32 :=
  lpX1_rivalsBefore u x1 x2 41 1 0
def fX3_haveRoom (u : cS) : Int32 :=
  if 120 ≤ k_umade u then
    0
  else
    1
theorem fX3_haveRoom_01 (u : cS) : fX3_haveRoom u = 0 ∨ fX3_haveRoom u = 1 := by
  unfold fX3_haveRoom
  repeat (first | exact Or.inl rfl | exact Or.inr rfl | split)
def fX3_isGone (u : cS) (x1 : Int32) : Int32 :=
  if k_ucust u x1.toNatClampNeg = (-1) then
    0
  else
    1
theorem fX3_isGone_01 (u : cS) (x1 : Int32) : fX3_isGone u x1 = 0 ∨ fX3_isGone u x1 = 1 := by
  unfold fX3_isGone
  repeat (first | exact Or.inl rfl | exact Or.inr rfl | split)
def lpX3_leftOf (u : cS) (x1 : Int32) : Nat → Int32 → Int32 → Int32
  | 0, _, _ => 0
  | n + 1, i, a =>
    if k_umade u < i then
      a
    else
      if k_ulot u i.toNatClampNeg = x1 then
        if fX3_isGone u i = 0 then
          lpX3_leftOf u x1 n (i + 1) (a + 1)
        else
          lpX3_leftOf u x1 n (i + 1) a
      else
        lpX3_leftOf u x1 n (i + 1) a
theorem lpX3_leftOf_eq (u : cS) (x1 : Int32) (n : Nat) (i : Int32) (a : Int32) : lpX3_leftOf u x1 (n + 1) i a = (
    if k_umade u < i then
      a
    else
      if k_ulot u i.toNatClampNeg = x1 then
        if fX3_isGone u i = 0 then
          lpX3_leftOf u x1 n (i + 1) (a + 1)
        else
          lpX3_leftOf u x1 n (i + 1) a
      else
        lpX3_leftOf u x1 n (i + 1) a) := rfl
def fX3_leftOf (u : cS) (x1 : Int32) : Int32 :=
  lpX3_leftOf u x1 121 1 0
def lpX3_everOfFamily (u : cS) (x1 : Int64) (x3 : Int32) : Nat → Int32 → Int32 → Int32
  | 0, _, _ => 0
  | n + 1, i, a =>
    if k_umade u < i then
      (-1)
    else
      if lg_cmp (x1 &&& ((1 : Int64) <<< ((k_ufirst u i.toNatClampNeg).toInt64 &&& 63))) 0 = 0 then
        lpX3_everOfFamily u x1 x3 n (i + 1) a
      else
        if a = x3 then
          i
        else
          lpX3_everOfFamily u x1 x3 n (i + 1) (a + 1)
theorem lpX3_everOfFamily_eq (u : cS) (x1 : Int64) (x3 : Int32) (n : Nat) (i : Int32) (a : Int32) : lpX3_everOfFamily u x1 x3 (n + 1) i a = (
    if k_umade u < i then
      (-1)
    else
      if lg_cmp (x1 &&& ((1 : Int64) <<< ((k_ufirst u i.toNatClampNeg).toInt64 &&& 63))) 0 = 0 then
        lpX3_everOfFamily u x1 x3 n (i + 1) a
      else
        if a = x3 then
          i
        else
          lpX3_everOfFamily u x1 x3 n (i + 1) (a + 1)) := rfl
def fX3_everOfFamily (u : cS) (x1 : Int64) (x3 : Int32) : Int32 :=
  lpX3_everOfFamily u x1 x3 121 1 0
def fX2_haveRoomFor (u : cS) (x1 : Int32) : Int32 :=
  if 400 < (k_rwrit u) + x1 then
    0
  else
    1
theorem fX2_haveRoomFor_01 (u : cS) (x1 : Int32) : fX2_haveRoomFor u x1 = 0 ∨ fX2_haveRoomFor u x1 = 1 := by
  unfold fX2_haveRoomFor
  repeat (first | exact Or.inl rfl | exact Or.inr rfl | split)
def lpX2_find (u : cS) (x1 : Int32) (x2 : Int32) : Nat → Int32 → Int32 → Int32
  | 0, _, _ => 0
  | n + 1, i, a =>
    if k_rwrit u ≤ i then
      (-1)
    else
      if k_rlot u i.toNatClampNeg = x1 then
        if a = x2 then
          i
        else
          lpX2_find u x1 x2 n (i + 1) (a + 1)
      else
        lpX2_find u x1 x2 n (i + 1) a
theorem lpX2_find_eq (u : cS) (x1 : Int32) (x2 : Int32) (n : Nat) (i : Int32) (a : Int32) : lpX2_find u x1 x2 (n + 1) i a = (
    if k_rwrit u ≤ i then
      (-1)
    else
      if k_rlot u i.toNatClampNeg = x1 then
        if a = x2 then
          i
        else
          lpX2_find u x1 x2 n (i + 1) (a + 1)
      else
        lpX2_find u x1 x2 n (i + 1) a) := rfl
def fX2_find (u : cS) (x1 : Int32) (x2 : Int32) : Int32 :=
  lpX2_find u x1 x2 401 0 0
def liX1_familyOf (u : cS) : Nat → Int32 → Int64 → Int64
  | 0, _, _ => 0
  | n2 + 1, k, f =>
    if k_lmade u < k then
      f
    else
      if lg_cmp (f &&& ((1 : Int64) <<< (k.toInt64 &&& 63))) 0 = 0 then
        liX1_familyOf u n2 (k + 1) f
      else
        liX1_familyOf u n2 (k + 1) (f ||| (k_kin u k.toNatClampNeg))
theorem liX1_familyOf_eq (u : cS) (n2 : Nat) (k : Int32) (f : Int64) : liX1_familyOf u (n2 + 1) k f = (
    if k_lmade u < k then
      f
    else
      if lg_cmp (f &&& ((1 : Int64) <<< (k.toInt64 &&& 63))) 0 = 0 then
        liX1_familyOf u n2 (k + 1) f
      else
        liX1_familyOf u n2 (k + 1) (f ||| (k_kin u k.toNatClampNeg))) := rfl
def loX1_familyOf (u : cS) (x1 : Int32) : Nat → Int32 → Int64 → Int64
  | 0, _, _ => 0
  | n + 1, i, f =>
    if k_lmade u < i then
      f
    else
      loX1_familyOf u x1 n (i + 1) (liX1_familyOf u 41 1 f)
theorem loX1_familyOf_eq (u : cS) (x1 : Int32) (n : Nat) (i : Int32) (f : Int64) : loX1_familyOf u x1 (n + 1) i f = (
    if k_lmade u < i then
      f
    else
      loX1_familyOf u x1 n (i + 1) (liX1_familyOf u 41 1 f)) := rfl
def fX1_familyOf (u : cS) (x1 : Int32) : Int64 :=
  loX1_familyOf u x1 41 1 ((1 : Int64) <<< (x1.toInt64 &&& 63))
def fX0_startOfYear (x0 : Int32) : Int32 :=
  (x0 * 365) + ((x0 + 3) / 4)
def fX0_daysBefore (x0 : Int32) (x1 : Int32) : Int32 :=
  if x0 - x0 / 4 * 4 = 0 then
    if x1 ≤ 2 then
      (c_tab (x1 - 1).toNatClampNeg) + 0
    else
      (c_tab (x1 - 1).toNatClampNeg) + 1
  else
    (c_tab (x1 - 1).toNatClampNeg) + 0
def fX0_fromYearDay (x0 : Int32) (x1 : Int32) : Int32 :=
  if x1 < 1 then
    (-1)
  else
    if x1 ≤ fX0_daysBefore x0 13 then
      ((fX0_startOfYear x0) + x1) - 1
    else
      (-1)
def fX0_fromMonthDay (x0 : Int32) (x1 : Int32) (x2 : Int32) : Int32 :=
  if x1 < 1 then
    (-1)
  else
    if 12 < x1 then
      (-1)
    else
      if 1 ≤ x2 then
        if (fX0_daysBefore x0 x1) + x2 ≤ fX0_daysBefore x0 (x1 + 1) then
          fX0_fromYearDay x0 ((fX0_daysBefore x0 x1) + x2)
        else
          (-1)
      else
        (-1)
def lpX0_yearOf (x0 : Int32) : Nat → Int32 → Int32
  | 0, _ => 0
  | n + 1, i =>
    if i ≤ 0 then
      0
    else
      if x0 < fX0_startOfYear i then
        lpX0_yearOf x0 n (i + (-1))
      else
        i
theorem lpX0_yearOf_eq (x0 : Int32) (n : Nat) (i : Int32) : lpX0_yearOf x0 (n + 1) i = (
    if i ≤ 0 then
      0
    else
      if x0 < fX0_startOfYear i then
        lpX0_yearOf x0 n (i + (-1))
      else
        i) := rfl
def fX0_yearOf (x0 : Int32) : Int32 :=
  lpX0_yearOf x0 100 99
def lpX0_monthOf (x0 : Int32) (x1 : Int32) : Nat → Int32 → Int32
  | 0, _ => 0
  | n + 1, i =>
    if i ≤ 1 then
      1
    else
      if x1 ≤ fX0_daysBefore x0 i then
        lpX0_monthOf x0 x1 n (i + (-1))
      else
        i
theorem lpX0_monthOf_eq (x0 : Int32) (x1 : Int32) (n : Nat) (i : Int32) : lpX0_monthOf x0 x1 (n + 1) i = (
    if i ≤ 1 then
      1
    else
      if x1 ≤ fX0_daysBefore x0 i then
        lpX0_monthOf x0 x1 n (i + (-1))
      else
        i) := rfl
def fX0_monthOf (x0 : Int32) (x1 : Int32) : Int32 :=
  lpX0_monthOf x0 x1 12 12
def fX1_add (u : cS) (x1 : Int32) (x2 : Int32) (x3 : Int32) (x4 : Int32) : Int32 × cS :=
  ((k_lmade u) + 1, s_open (s_arr (s_last (s_owners (s_goods (s_lmade u ((k_lmade u) + 1)) (upd (k_goods u) ((k_lmade u) + 1).toNatClampNeg x1)) (upd (k_owners u) ((k_lmade u) + 1).toNatClampNeg x2)) (upd (k_last u) ((k_lmade u) + 1).toNatClampNeg x3)) (upd (k_arr u) ((k_lmade u) + 1).toNatClampNeg x4)) (upd (k_open u) ((k_lmade u) + 1).toNatClampNeg (vp_nar .boolean 1)))
def fX1_addPartOf (u : cS) (x1 : Int32) : Int32 × cS :=
  ((fX1_add u (k_goods u x1.toNatClampNeg) (k_owners u x1.toNatClampNeg) (k_last u x1.toNatClampNeg) (k_arr u x1.toNatClampNeg)).1, s_kin (s_quar (s_reas (fX1_add u (k_goods u x1.toNatClampNeg) (k_owners u x1.toNatClampNeg) (k_last u x1.toNatClampNeg) (k_arr u x1.toNatClampNeg)).2 (upd (k_reas (fX1_add u (k_goods u x1.toNatClampNeg) (k_owners u x1.toNatClampNeg) (k_last u x1.toNatClampNeg) (k_arr u x1.toNatClampNeg)).2) (fX1_add u (k_goods u x1.toNatClampNeg) (k_owners u x1.toNatClampNeg) (k_last u x1.toNatClampNeg) (k_arr u x1.toNatClampNeg)).1.toNatClampNeg (k_reas (fX1_add u (k_goods u x1.toNatClampNeg) (k_owners u x1.toNatClampNeg) (k_last u x1.toNatClampNeg) (k_arr u x1.toNatClampNeg)).2 x1.toNatClampNeg))) (upd (k_quar (fX1_add u (k_goods u x1.toNatClampNeg) (k_owners u x1.toNatClampNeg) (k_last u x1.toNatClampNeg) (k_arr u x1.toNatClampNeg)).2) (fX1_add u (k_goods u x1.toNatClampNeg) (k_owners u x1.toNatClampNeg) (k_last u x1.toNatClampNeg) (k_arr u x1.toNatClampNeg)).1.toNatClampNeg (vp_nar .boolean (k_quar (fX1_add u (k_goods u x1.toNatClampNeg) (k_owners u x1.toNatClampNeg) (k_last u x1.toNatClampNeg) (k_arr u x1.toNatClampNeg)).2 x1.toNatClampNeg)))) (vp_updL (k_kin (fX1_add u (k_goods u x1.toNatClampNeg) (k_owners u x1.toNatClampNeg) (k_last u x1.toNatClampNeg) (k_arr u x1.toNatClampNeg)).2) x1.toNatClampNeg ((k_kin (fX1_add u (k_goods u x1.toNatClampNeg) (k_owners u x1.toNatClampNeg) (k_last u x1.toNatClampNeg) (k_arr u x1.toNatClampNeg)).2 x1.toNatClampNeg) ||| ((1 : Int64) <<< ((fX1_add u (k_goods u x1.toNatClampNeg) (k_owners u x1.toNatClampNeg) (k_last u x1.toNatClampNeg) (k_arr u x1.toNatClampNeg)).1.toInt64 &&& 63)))))
def fX1_closeInto (u : cS) (x1 : Int32) (x2 : Int32) : cS :=
  s_kin (s_open u (upd (k_open u) x2.toNatClampNeg (vp_nar .boolean 0))) (vp_updL (k_kin u) x1.toNatClampNeg ((k_kin u x1.toNatClampNeg) ||| ((1 : Int64) <<< (x2.toInt64 &&& 63))))
def fX3_add (u : cS) (x1 : Int32) : Int32 × cS :=
  ((k_umade u) + 1, s_ufirst (s_uday (s_ucust (s_ubin (s_ulot (s_umade u ((k_umade u) + 1)) (upd (k_ulot u) ((k_umade u) + 1).toNatClampNeg x1)) (upd (k_ubin u) ((k_umade u) + 1).toNatClampNeg (-1))) (upd (k_ucust u) ((k_umade u) + 1).toNatClampNeg (-1))) (upd (k_uday u) ((k_umade u) + 1).toNatClampNeg (-1))) (upd (k_ufirst u) ((k_umade u) + 1).toNatClampNeg x1))
def fX3_send (u : cS) (x1 : Int32) (x2 : Int32) (x3 : Int32) : cS :=
  s_ugone (s_uday (s_ucust (s_ubin u (upd (k_ubin u) x1.toNatClampNeg (-1))) (upd (k_ucust u) x1.toNatClampNeg x2)) (upd (k_uday u) x1.toNatClampNeg x3)) ((k_ugone u) + 1)
def lpX3_moveAll (x1 : Int32) (x2 : Int32) : Nat → Int32 → cS → cS
  | 0, _, v => v
  | n + 1, i, v =>
    if k_umade v < i then
      v
    else
      if k_ulot v i.toNatClampNeg = x1 then
        lpX3_moveAll x1 x2 n (i + 1) (s_ulot v (upd (k_ulot v) i.toNatClampNeg x2))
      else
        lpX3_moveAll x1 x2 n (i + 1) v
theorem lpX3_moveAll_eq (x1 : Int32) (x2 : Int32) (n : Nat) (i : Int32) (v : cS) : lpX3_moveAll x1 x2 (n + 1) i v = (
    if k_umade v < i then
      v
    else
      if k_ulot v i.toNatClampNeg = x1 then
        lpX3_moveAll x1 x2 n (i + 1) (s_ulot v (upd (k_ulot v) i.toNatClampNeg x2))
      else
        lpX3_moveAll x1 x2 n (i + 1) v) := rfl
def fX3_moveAll (u : cS) (x1 : Int32) (x2 : Int32) : cS :=
  lpX3_moveAll x1 x2 121 1 u
def fX2_write (u : cS) (x1 : Int32) (x2 : Int32) (x3 : Int32) : cS :=
  s_rwrit (s_rnum (s_rkind (s_rlot u (upd (k_rlot u) (k_rwrit u).toNatClampNeg x1)) (upd (k_rkind u) (k_rwrit u).toNatClampNeg x2)) (upd (k_rnum u) (k_rwrit u).toNatClampNeg x3)) ((k_rwrit u) + 1)
def fX4_mayGo (u : cS) (x1 : Int32) (x2 : Int32) (x3 : Int32) : Int32 :=
  if fX1_mayBeTaken u x1 = 0 then
    0
  else
    if x3 < k_arr u x1.toNatClampNeg then
      0
    else
      if k_last u x1.toNatClampNeg < x3 then
        0
      else
        if ((k_last u x1.toNatClampNeg) - x3) + 1 < k_want u x2.toNatClampNeg then
          0
        else
          1
theorem fX4_mayGo_01 (u : cS) (x1 : Int32) (x2 : Int32) (x3 : Int32) : fX4_mayGo u x1 x2 x3 = 0 ∨ fX4_mayGo u x1 x2 x3 = 1 := by
  unfold fX4_mayGo
  repeat (first | exact Or.inl rfl | exact Or.inr rfl | exact fX1_mayBeTaken_01 _ _ | split)
def lpX4_lotThatHinders (u : cS) (x1 : Int32) (x2 : Int32) : Nat → Int32 → Int32
  | 0, _ => 0
  | n + 1, i =>
    if k_umade u < i then
      0
    else
      if k_ubin u i.toNatClampNeg = x2 then
        if fX1_lieTooFarApart u (k_ulot u x1.toNatClampNeg) (k_ulot u i.toNatClampNeg) (k_mix u (k_owners u (k_ulot u x1.toNatClampNeg).toNatClampNeg).toNatClampNeg) = 0 then
          lpX4_lotThatHinders u x1 x2 n (i + 1)
        else
          k_ulot u i.toNatClampNeg
      else
        lpX4_lotThatHinders u x1 x2 n (i + 1)
theorem lpX4_lotThatHinders_eq (u : cS) (x1 : Int32) (x2 : Int32) (n : Nat) (i : Int32) : lpX4_lotThatHinders u x1 x2 (n + 1) i = (
    if k_umade u < i then
      0
    else
      if k_ubin u i.toNatClampNeg = x2 then
        if fX1_lieTooFarApart u (k_ulot u x1.toNatClampNeg) (k_ulot u i.toNatClampNeg) (k_mix u (k_owners u (k_ulot u x1.toNatClampNeg).toNatClampNeg).toNatClampNeg) = 0 then
          lpX4_lotThatHinders u x1 x2 n (i + 1)
        else
          k_ulot u i.toNatClampNeg
      else
        lpX4_lotThatHinders u x1 x2 n (i + 1)) := rfl
def fX4_lotThatHinders (u : cS) (x1 : Int32) (x2 : Int32) : Int32 :=
  lpX4_lotThatHinders u x1 x2 121 1
def fX4_count (u : cS) (x1 : Int32) : Int32 :=
  if x1 = 0 then
    k_lmade u
  else
    if x1 = 1 then
      k_umade u
    else
      if x1 = 2 then
        k_rwrit u
      else
        if x1 = 3 then
          k_ugone u
        else
          (-1)
def fX4_lot (u : cS) (x1 : Int32) (x2 : Int32) (x3 : Int32) (x4 : Int32) : Nat × Int32 × cS :=
  if fX4_requireRange x1 0 9 = 0 then
    if fX4_requireRange x2 0 7 = 0 then
      if fX4_requireRange x3 0 36524 = 0 then
        if fX4_requireRange x4 0 36524 = 0 then
          if x4 ≤ x3 then
            if fX1_haveRoom u = 0 then
              (4, 0, u)
            else
              if fX2_haveRoomFor u 1 = 0 then
                (4, 0, u)
              else
                (0, (fX1_add u x1 x2 x3 x4).1, (fX2_write (fX1_add u x1 x2 x3 x4).2 (fX1_add u x1 x2 x3 x4).1 1 0))
          else
            (0, 0, u)
        else
          (2, 0, u)
      else
        (2, 0, u)
    else
      (2, 0, u)
  else
    (2, 0, u)
def fX4_rule (u : cS) (x1 : Int32) (x2 : Int32) (x3 : Int32) : Nat × Int32 × cS :=
  if fX4_requireRange x1 0 7 = 0 then
    if fX4_requireRange x2 0 1 = 0 then
      if x2 = 0 then
        if fX4_requireRange x3 0 2 = 0 then
          (0, 0, s_rot u (upd (k_rot u) x1.toNatClampNeg x3))
        else
          (2, 0, u)
      else
        if fX4_requireRange x3 0 1000 = 0 then
          (0, 0, s_mix u (upd (k_mix u) x1.toNatClampNeg x3))
        else
          (2, 0, u)
    else
      (2, 0, u)
  else
    (2, 0, u)
def fX4_wants (u : cS) (x1 : Int32) (x2 : Int32) : Nat × Int32 × cS :=
  if fX4_requireRange x1 0 7 = 0 then
    if fX4_requireRange x2 1 1000 = 0 then
      (0, 0, s_want u (upd (k_want u) x1.toNatClampNeg x2))
    else
      (2, 0, u)
  else
    (2, 0, u)
def fX4_right (u : cS) (x1 : Int32) (x2 : Int32) (x3 : Int32) : Nat × Int32 × cS :=
  if fX4_requireRange x1 0 7 = 0 then
    if fX4_requireRange x2 1 9 = 0 then
      if x3 = 0 then
        (0, 0, s_may u (upd (k_may u) x1.toNatClampNeg ((k_may u x1.toNatClampNeg) &&& (((1 : Int32) <<< (x2 &&& 31)) ^^^ (-1)))))
      else
        (0, 0, s_may u (upd (k_may u) x1.toNatClampNeg ((k_may u x1.toNatClampNeg) ||| ((1 : Int32) <<< (x2 &&& 31)))))
    else
      (2, 0, u)
  else
    (2, 0, u)
def fX4_block (u : cS) (x1 : Int32) (x2 : Int32) : Nat × Int32 × cS :=
  if fX4_requireLot u x1 = 0 then
    if fX4_requireRange x2 1 9 = 0 then
      if k_open u x1.toNatClampNeg = 0 then
        (3, 0, u)
      else
        if (k_reas u x1.toNatClampNeg) &&& ((1 : Int32) <<< (x2 &&& 31)) = 0 then
          if fX4_requireRoom (fX2_haveRoomFor u 1) = 0 then
            (0, fJ6_bitCount (k_reas (fX2_write (s_reas u (upd (k_reas u) x1.toNatClampNeg ((k_reas u x1.toNatClampNeg) ||| ((1 : Int32) <<< (x2 &&& 31))))) x1 6 x2) x1.toNatClampNeg), (fX2_write (s_reas u (upd (k_reas u) x1.toNatClampNeg ((k_reas u x1.toNatClampNeg) ||| ((1 : Int32) <<< (x2 &&& 31))))) x1 6 x2))
          else
            (4, 0, u)
        else
          (3, 0, u)
    else
      (2, 0, u)
  else
    (1, 0, u)
def fX4_release (u : cS) (x1 : Int32) (x2 : Int32) : Nat × Int32 × cS :=
  if fX4_requireLot u x1 = 0 then
    if fX4_requireRange x2 0 7 = 0 then
      if k_open u x1.toNatClampNeg = 0 then
        (3, 0, u)
      else
        if (k_reas u x1.toNatClampNeg) &&& (k_may u x2.toNatClampNeg) = 0 then
          (3, 0, u)
        else
          if fX4_requireRoom (fX2_haveRoomFor u 1) = 0 then
            (0, fJ6_bitCount ((k_reas u x1.toNatClampNeg) &&& (k_may u x2.toNatClampNeg)), (fX2_write (s_reas u (upd (k_reas u) x1.toNatClampNeg ((k_reas u x1.toNatClampNeg) &&& (((k_reas u x1.toNatClampNeg) &&& (k_may u x2.toNatClampNeg)) ^^^ (-1))))) x1 7 x2))
          else
            (4, 0, u)
    else
      (2, 0, u)
  else
    (1, 0, u)
def fX4_quarantine (u : cS) (x1 : Int32) (x2 : Int32) : Nat × Int32 × cS :=
  if fX4_requireLot u x1 = 0 then
    if k_open u x1.toNatClampNeg = 0 then
      (3, 0, u)
    else
      if k_quar u x1.toNatClampNeg = x2 then
        (3, 0, u)
      else
        if fX4_requireRoom (fX2_haveRoomFor u 1) = 0 then
          if x2 = 0 then
            (0, 0, (fX2_write (s_quar u (upd (k_quar u) x1.toNatClampNeg (vp_nar .boolean x2))) x1 9 0))
          else
            (0, 0, (fX2_write (s_quar u (upd (k_quar u) x1.toNatClampNeg (vp_nar .boolean x2))) x1 8 0))
        else
          (4, 0, u)
  else
    (1, 0, u)
def lpX4_order (u : cS) (x1 : Int32) (x2 : Int32) (x3 : Int32) : Nat → Int32 → Nat × Int32 × cS
  | 0, _ => (0, 0, u)
  | n + 1, i =>
    if k_lmade u < i then
      (0, (-1), u)
    else
      if fX1_mayBeTakenFor u i x1 x2 = 0 then
        lpX4_order u x1 x2 x3 n (i + 1)
      else
        if fX1_rivalsBefore u i (k_rot u x2.toNatClampNeg) = x3 then
          (0, i, u)
        else
          lpX4_order u x1 x2 x3 n (i + 1)
theorem lpX4_order_eq (u : cS) (x1 : Int32) (x2 : Int32) (x3 : Int32) (n : Nat) (i : Int32) : lpX4_order u x1 x2 x3 (n + 1) i = (
    if k_lmade u < i then
      (0, (-1), u)
    else
      if fX1_mayBeTakenFor u i x1 x2 = 0 then
        lpX4_order u x1 x2 x3 n (i + 1)
      else
        if fX1_rivalsBefore u i (k_rot u x2.toNatClampNeg) = x3 then
          (0, i, u)
        else
          lpX4_order u x1 x2 x3 n (i + 1)) := rfl
def fX4_order (u : cS) (x1 : Int32) (x2 : Int32) (x3 : Int32) : Nat × Int32 × cS :=
  if fX4_requireRange x1 0 9 = 0 then
    if fX4_requireRange x2 0 7 = 0 then
      if fX4_requireNotNegative x3 = 0 then
        lpX4_order u x1 x2 x3 41 1
      else
        (2, 0, u)
    else
      (2, 0, u)
  else
    (2, 0, u)
def fX4_allowed (u : cS) (x1 : Int32) (x2 : Int32) (x3 : Int32) : Nat × Int32 × cS :=
  if fX4_requireLot u x1 = 0 then
    if fX4_requireRange x2 0 7 = 0 then
      if fX4_requireRange x3 0 36524 = 0 then
        (0, fX4_mayGo u x1 x2 x3, u)
      else
        (2, 0, u)
    else
      (2, 0, u)
  else
    (1, 0, u)
def fX4_split (u : cS) (x1 : Int32) : Nat × Int32 × cS :=
  if fX4_requireLot u x1 = 0 then
    if fX4_requireState (k_open u x1.toNatClampNeg) = 0 then
      if fX1_haveRoom u = 0 then
        (4, 0, u)
      else
        if fX2_haveRoomFor u 2 = 0 then
          (4, 0, u)
        else
          (0, (fX1_addPartOf u x1).1, (fX2_write (fX2_write (fX1_addPartOf u x1).2 (fX1_addPartOf u x1).1 2 x1) x1 3 (fX1_addPartOf u x1).1))
    else
      (3, 0, u)
  else
    (1, 0, u)
def fX4_join (u : cS) (x1 : Int32) (x2 : Int32) : Nat × Int32 × cS :=
  if fX4_requireLot u x1 = 0 then
    if fX4_requireLot u x2 = 0 then
      if x1 = x2 then
        (3, 0, u)
      else
        if k_open u x1.toNatClampNeg = 0 then
          (3, 0, u)
        else
          if k_open u x2.toNatClampNeg = 0 then
            (3, 0, u)
          else
            if fX1_areAlike u x1 x2 = 0 then
              (3, 0, u)
            else
              if fX4_requireRoom (fX2_haveRoomFor u 2) = 0 then
                (0, 0, (fX2_write (fX2_write (fX3_moveAll (fX1_closeInto u x1 x2) x2 x1) x1 4 x2) x2 5 x1))
              else
                (4, 0, u)
    else
      (1, 0, u)
  else
    (1, 0, u)
def fX4_unit (u : cS) (x1 : Int32) : Nat × Int32 × cS :=
  if fX4_requireLot u x1 = 0 then
    if fX4_requireState (k_open u x1.toNatClampNeg) = 0 then
      if fX3_haveRoom u = 0 then
        (4, 0, u)
      else
        if fX2_haveRoomFor u 1 = 0 then
          (4, 0, u)
        else
          (0, (fX3_add u x1).1, (fX2_write (fX3_add u x1).2 x1 10 (fX3_add u x1).1))
    else
      (3, 0, u)
  else
    (1, 0, u)
def fX4_put (u : cS) (x1 : Int32) (x2 : Int32) : Nat × Int32 × cS :=
  if fX4_requireUnit u x1 = 0 then
    if fX4_requireRange x2 0 19 = 0 then
      if fX3_isGone u x1 = 0 then
        if k_ubin u x1.toNatClampNeg = x2 then
          (3, 0, u)
        else
          if fX4_lotThatHinders u x1 x2 = 0 then
            (0, 0, s_ubin u (upd (k_ubin u) x1.toNatClampNeg x2))
          else
            (3, 0, s_hinder (s_refused u (k_ulot u x1.toNatClampNeg)) (fX4_lotThatHinders u x1 x2))
      else
        (3, 0, u)
    else
      (2, 0, u)
  else
    (1, 0, u)
def fX4_mixed (u : cS) (x1 : Int32) : Nat × Int32 × cS :=
  if fX4_requireRange x1 0 1 = 0 then
    if x1 = 0 then
      (0, k_refused u, u)
    else
      (0, k_hinder u, u)
  else
    (2, 0, u)
def fX4_ship (u : cS) (x1 : Int32) (x2 : Int32) (x3 : Int32) : Nat × Int32 × cS :=
  if fX4_requireUnit u x1 = 0 then
    if fX4_requireRange x2 0 7 = 0 then
      if fX4_requireRange x3 0 36524 = 0 then
        if fX3_isGone u x1 = 0 then
          if fX4_mayGo u (k_ulot u x1.toNatClampNeg) x2 x3 = 0 then
            (3, 0, u)
          else
            if fX4_requireRoom (fX2_haveRoomFor u 1) = 0 then
              (0, 0, (fX2_write (fX3_send u x1 x2 x3) (k_ulot u x1.toNatClampNeg) 11 x1))
            else
              (4, 0, u)
        else
          (3, 0, u)
      else
        (2, 0, u)
    else
      (2, 0, u)
  else
    (1, 0, u)
def fX4_recall (u : cS) (x1 : Int32) (x2 : Int32) : Nat × Int32 × cS :=
  if fX4_requireLot u x1 = 0 then
    if fX4_requireNotNegative x2 = 0 then
      (0, fX3_everOfFamily u (fX1_familyOf u x1) x2, u)
    else
      (2, 0, u)
  else
    (1, 0, u)
def fX4_where (u : cS) (x1 : Int32) (x2 : Int32) : Nat × Int32 × cS :=
  if fX4_requireUnit u x1 = 0 then
    if x2 = 0 then
      (0, k_ulot u x1.toNatClampNeg, u)
    else
      if x2 = 1 then
        (0, k_ubin u x1.toNatClampNeg, u)
      else
        if x2 = 2 then
          (0, k_ucust u x1.toNatClampNeg, u)
        else
          if x2 = 3 then
            (0, k_uday u x1.toNatClampNeg, u)
          else
            (2, 0, u)
  else
    (1, 0, u)
def fX4_history (u : cS) (x1 : Int32) (x2 : Int32) (x3 : Int32) : Nat × Int32 × cS :=
  if fX4_requireLot u x1 = 0 then
    if fX2_find u x1 x2 = (-1) then
      (1, 0, u)
    else
      if fX4_requireRange x3 0 1 = 0 then
        if x3 = 0 then
          (0, k_rkind u (fX2_find u x1 x2).toNatClampNeg, u)
        else
          (0, k_rnum u (fX2_find u x1 x2).toNatClampNeg, u)
      else
        (2, 0, u)
  else
    (1, 0, u)
def fX4_told (u : cS) (x1 : Int32) (x2 : Int32) : Nat × Int32 × cS :=
  if fX4_requireLot u x1 = 0 then
    if x2 = 0 then
      (0, k_goods u x1.toNatClampNeg, u)
    else
      if x2 = 1 then
        (0, k_owners u x1.toNatClampNeg, u)
      else
        if x2 = 2 then
          (0, k_last u x1.toNatClampNeg, u)
        else
          if x2 = 3 then
            (0, k_arr u x1.toNatClampNeg, u)
          else
            if x2 = 4 then
              if k_open u x1.toNatClampNeg = 0 then
                (0, 0, u)
              else
                (0, 1, u)
            else
              if x2 = 5 then
                (0, k_reas u x1.toNatClampNeg, u)
              else
                if x2 = 6 then
                  if k_quar u x1.toNatClampNeg = 0 then
                    (0, 0, u)
                  else
                    (0, 1, u)
                else
                  if x2 = 7 then
                    (0, fX3_leftOf u x1, u)
                  else
                    (2, 0, u)
  else
    (1, 0, u)
def fX4_day (u : cS) (x1 : Int32) (x2 : Int32) : Nat × Int32 × cS :=
  if fX4_requireRange x1 0 2 = 0 then
    if x1 = 2 then
      if fX4_requireRange x2 0 99999 = 0 then
        (0, fX0_fromYearDay (x2 / 1000) (x2 - x2 / 1000 * 1000), u)
      else
        (2, 0, u)
    else
      if fX4_requireRange x2 0 999999 = 0 then
        if x1 = 1 then
          (0, fX0_fromMonthDay (x2 - x2 / 100 * 100) ((x2 / 100) - (x2 / 100) / 100 * 100) (x2 / 10000), u)
        else
          (0, fX0_fromMonthDay (x2 / 10000) ((x2 / 100) - (x2 / 100) / 100 * 100) (x2 - x2 / 100 * 100), u)
      else
        (2, 0, u)
  else
    (2, 0, u)
def fX4_date (u : cS) (x1 : Int32) (x2 : Int32) : Nat × Int32 × cS :=
  if fX4_requireRange x1 0 2 = 0 then
    if fX4_requireRange x2 0 36524 = 0 then
      if x1 = 2 then
        (0, ((fX0_yearOf x2) * 1000) + ((x2 - (fX0_startOfYear (fX0_yearOf x2))) + 1), u)
      else
        if x1 = 1 then
          (0, (((((x2 - (fX0_startOfYear (fX0_yearOf x2))) + 1) - (fX0_daysBefore (fX0_yearOf x2) (fX0_monthOf (fX0_yearOf x2) ((x2 - (fX0_startOfYear (fX0_yearOf x2))) + 1)))) * 10000) + ((fX0_monthOf (fX0_yearOf x2) ((x2 - (fX0_startOfYear (fX0_yearOf x2))) + 1)) * 100)) + (fX0_yearOf x2), u)
        else
          (0, (((fX0_yearOf x2) * 10000) + ((fX0_monthOf (fX0_yearOf x2) ((x2 - (fX0_startOfYear (fX0_yearOf x2))) + 1)) * 100)) + (((x2 - (fX0_startOfYear (fX0_yearOf x2))) + 1) - (fX0_daysBefore (fX0_yearOf x2) (fX0_monthOf (fX0_yearOf x2) ((x2 - (fX0_startOfYear (fX0_yearOf x2))) + 1)))), u)
    else
      (2, 0, u)
  else
    (2, 0, u)
theorem rr_lo {x a b : Int32} (h : fX4_requireRange x a b = 0) : a.toInt ≤ x.toInt := by
  unfold fX4_requireRange at h
  by_cases h1 : x < a
  · rw [if_pos h1] at h; cases h
  · exact i_nlt h1 rfl rfl
theorem rr_hi {x a b : Int32} (h : fX4_requireRange x a b = 0) : x.toInt ≤ b.toInt := by
  unfold fX4_requireRange at h
  by_cases h1 : x < a
  · rw [if_pos h1] at h; cases h
  · rw [if_neg h1] at h
    by_cases h2 : x ≤ b
    · exact i_le h2 rfl rfl
    · rw [if_neg h2] at h; cases h
theorem rl_lo {u : cS} {x : Int32} (h : fX4_requireLot u x = 0) : 1 ≤ x.toInt := by
  unfold fX4_requireLot at h
  by_cases h1 : x < 1
  · rw [if_pos h1] at h; cases h
  · exact i_nlt h1 rfl (by decide)
theorem rl_hi {u : cS} {x : Int32} (h : fX4_requireLot u x = 0) : x.toInt ≤ (k_lmade u).toInt := by
  unfold fX4_requireLot at h
  by_cases h1 : x < 1
  · rw [if_pos h1] at h; cases h
  · rw [if_neg h1] at h
    by_cases h2 : x ≤ k_lmade u
    · exact i_le h2 rfl rfl
    · rw [if_neg h2] at h; cases h
theorem ru_lo {u : cS} {x : Int32} (h : fX4_requireUnit u x = 0) : 1 ≤ x.toInt := by
  unfold fX4_requireUnit at h
  by_cases h1 : x < 1
  · rw [if_pos h1] at h; cases h
  · exact i_nlt h1 rfl (by decide)
theorem ru_hi {u : cS} {x : Int32} (h : fX4_requireUnit u x = 0) : x.toInt ≤ (k_umade u).toInt := by
  unfold fX4_requireUnit at h
  by_cases h1 : x < 1
  · rw [if_pos h1] at h; cases h
  · rw [if_neg h1] at h
    by_cases h2 : x ≤ k_umade u
    · exact i_le h2 rfl rfl
    · rw [if_neg h2] at h; cases h
theorem hl_room {u : cS} (h : ¬ fX1_haveRoom u = 0) : (k_lmade u).toInt < 40 := by
  unfold fX1_haveRoom at h
  by_cases h1 : 40 ≤ k_lmade u
  · rw [if_pos h1] at h; exact absurd rfl h
  · exact i_nle h1 (by decide) rfl
theorem hu_room {u : cS} (h : ¬ fX3_haveRoom u = 0) : (k_umade u).toInt < 120 := by
  unfold fX3_haveRoom at h
  by_cases h1 : 120 ≤ k_umade u
  · rw [if_pos h1] at h; exact absurd rfl h
  · exact i_nle h1 (by decide) rfl
theorem hr_room {u : cS} {y : Int32} {k : Int} (hy : y.toInt = k) (hk : 0 ≤ k ∧ k ≤ 2) (h : ¬ fX2_haveRoomFor u y = 0) (hI : 0 ≤ (k_rwrit u).toInt ∧ (k_rwrit u).toInt ≤ 400) : (k_rwrit u).toInt + k ≤ 400 := by
  unfold fX2_haveRoomFor at h
  have e := i_add (x := k_rwrit u) (y := y) (by omega) (by omega)
  by_cases h1 : 400 < k_rwrit u + y
  · rw [if_pos h1] at h; exact absurd rfl h
  · have := i_nlt h1 (by decide : (400 : Int32).toInt = 400) rfl
    omega
theorem hr_room1 {u : cS} (h : ¬ fX2_haveRoomFor u 1 = 0) (hI : 0 ≤ (k_rwrit u).toInt ∧ (k_rwrit u).toInt ≤ 400) : (k_rwrit u).toInt + 1 ≤ 400 := hr_room (by decide) (by decide) h hI
theorem hr_room2 {u : cS} (h : ¬ fX2_haveRoomFor u 2 = 0) (hI : 0 ≤ (k_rwrit u).toInt ∧ (k_rwrit u).toInt ≤ 400) : (k_rwrit u).toInt + 2 ≤ 400 := hr_room (by decide) (by decide) h hI
theorem rq_ne {x : Int32} (h : fX4_requireRoom x = 0) : ¬ x = 0 := by
  intro h1
  unfold fX4_requireRoom at h
  rw [if_pos h1] at h; cases h
theorem hr_roomq1 {u : cS} (h : fX4_requireRoom (fX2_haveRoomFor u 1) = 0) (hI : 0 ≤ (k_rwrit u).toInt ∧ (k_rwrit u).toInt ≤ 400) : (k_rwrit u).toInt + 1 ≤ 400 := hr_room1 (rq_ne h) hI
theorem hr_roomq2 {u : cS} (h : fX4_requireRoom (fX2_haveRoomFor u 2) = 0) (hI : 0 ≤ (k_rwrit u).toInt ∧ (k_rwrit u).toInt ≤ 400) : (k_rwrit u).toInt + 2 ≤ 400 := hr_room2 (rq_ne h) hI
theorem find_lp {u : cS} {x1 x2 : Int32} (hI : (k_rwrit u).toInt ≤ 400) : ∀ (n : Nat) (i a : Int32), 0 ≤ i.toInt → lpX2_find u x1 x2 n i a = (-1) ∨ (0 ≤ (lpX2_find u x1 x2 n i a).toInt ∧ (lpX2_find u x1 x2 n i a).toInt < 400) := by
  intro n
  induction n with
  | zero => intro i a _; exact Or.inr (show 0 ≤ (0 : Int32).toInt ∧ (0 : Int32).toInt < 400 by decide)
  | succ n ih =>
    intro i a hi
    rw [lpX2_find_eq]
    by_cases h1 : k_rwrit u ≤ i
    · rw [if_pos h1]; exact Or.inl rfl
    · rw [if_neg h1]
      have t1 := i_nle h1 rfl rfl
      have e := i_inc (x := i) (by omega)
      by_cases h2 : k_rlot u i.toNatClampNeg = x1
      · rw [if_pos h2]
        by_cases h3 : a = x2
        · rw [if_pos h3]; exact Or.inr ⟨hi, by omega⟩
        · rw [if_neg h3]; exact ih _ _ (by omega)
      · rw [if_neg h2]; exact ih _ _ (by omega)
theorem find_rg {u : cS} {x1 x2 : Int32} (hI : cInv u) (h : ¬ fX2_find u x1 x2 = (-1)) : 0 ≤ (fX2_find u x1 x2).toInt ∧ (fX2_find u x1 x2).toInt < ((400 : Nat) : Int) := by
  rcases find_lp (x1 := x1) (x2 := x2) hI.2.2.1.2 401 0 0 (by decide) with q | q
  · exact absurd q h
  · exact q
theorem month_lp {x0 x1 : Int32} : ∀ (n : Nat) (i : Int32), 1 ≤ i.toInt → i.toInt ≤ 12 → i.toInt - 1 < (n : Int) → 1 ≤ (lpX0_monthOf x0 x1 n i).toInt ∧ (lpX0_monthOf x0 x1 n i).toInt ≤ 13 := by
  intro n
  induction n with
  | zero => intro i h1 h2 h3; omega
  | succ n ih =>
    intro i h1 h2 h3
    rw [lpX0_monthOf_eq]
    by_cases c1 : i ≤ 1
    · rw [if_pos c1]; decide
    · rw [if_neg c1]
      have t1 := i_nle c1 rfl (by decide : (1 : Int32).toInt = 1)
      by_cases c2 : x1 ≤ fX0_daysBefore x0 i
      · rw [if_pos c2]
        have e := i_dec (x := i) (by omega)
        exact ih _ (by omega) (by omega) (by omega)
      · rw [if_neg c2]; omega
theorem month_rg (x0 x1 : Int32) : 1 ≤ (fX0_monthOf x0 x1).toInt ∧ (fX0_monthOf x0 x1).toInt ≤ 13 := month_lp 12 12 (by decide) (by decide) (by decide)
theorem mv_lp {x1 x2 : Int32} : ∀ (n : Nat) (i : Int32) (v : cS), k_rwrit (lpX3_moveAll x1 x2 n i v) = k_rwrit v := by
  intro n
  induction n with
  | zero => intro i v; rfl
  | succ n ih =>
    intro i v
    rw [lpX3_moveAll_eq]
    by_cases c1 : k_umade v < i
    · rw [if_pos c1]
    · rw [if_neg c1]
      by_cases c2 : k_ulot v i.toNatClampNeg = x1
      · rw [if_pos c2, ih]; rfl
      · rw [if_neg c2, ih]
theorem mv_rwrit (u : cS) (x1 x2 : Int32) : k_rwrit (fX3_moveAll u x1 x2) = k_rwrit u := mv_lp _ _ _
theorem wr_rwrit (u : cS) (x1 x2 x3 : Int32) : k_rwrit (fX2_write u x1 x2 x3) = k_rwrit u + 1 := rfl
end
section
set_option maxHeartbeats 4000000 in
set_option maxRecDepth 100000 in
theorem kX4_requireRange (l : Launch) (hl9 : l.stackTraces = false) (dC : Nat → ClassId) (dI : Nat → Nat → Nat) (H0 : Heap) (x0 : Int32) (x1 : Int32) (x2 : Int32) : vy_Met l yX4_requireRange wsX4_requireRange ({ frames := 6, cells := 1, slots := 6, locals := 82 }) (va_Pc [.int x0, .int x1, .int x2] (fun U => U.heap = H0 ∧ zz (fun q => H0.size ≤ q) U U.heap)) (va_Qv (fun _ : Unit => fX4_requireRange x0 x1 x2 = 0) (fun _ t => t.heap = H0) (fun q => H0.size ≤ q)) (vx_X (fun _ : Unit => fX4_requireRange x0 x1 x2 = 2) (fun E _ _ => E = "java/lang/IllegalArgumentException") (fun q => H0.size ≤ q)) 0 0 1 6 (fun q => H0.size ≤ q) := by
  refine vy_ofW (cc := cX4_requireRange) (maxL := 3) (ret := none) (by decide) rfl ?_
  intro p e s m args below meth c s₁ B hml hxt hv
  obtain ⟨rfl, hH, hZ⟩ := hv
  have hx := B.exec
  have hb := B.bytes
  have hr := B.returns
  have hts := atoms_spec (ws := wsX4_requireRange) B.pre
  have hown : s.vm.findClass RX4 = some m.cls := findClass_of_methodNamed B.named
  have hlocks := B.notSynchronized
  subst hH
  have hA : ∀ q : Nat, s.heap.size ≤ q → (fun q => s.heap.size ≤ q) q := fun q h => h
  have hS : va_S (fun q => s.heap.size ≤ q) s.heap s.heap [] := va_S.rf
  have hl := lv_entry ([.int x0, .int x1, .int x2]) (n := 3) (Nat.le_of_ble_eq_true rfl)
  rw [lg_entry_eq]
  generalize (lg_sl ([.int x0, .int x1, .int x2]) ++ List.replicate (3 - (lg_sl ([.int x0, .int x1, .int x2])).length) Slot.unset).toArray = ls at hl ⊢
  have hl : lv_has ls 3 [(0, .int x0), (1, .int x1), (2, .int x2)] := hl
  refine lv_iload_n hx hb dX4_requireRange_0 rfl (lv_at hl 0 rfl) ?_
  refine lv_iload_n hx hb dX4_requireRange_1 rfl (lv_at hl 1 rfl) ?_
  refine lv_icmp_lt (tgt := 10) hx hb dX4_requireRange_2 (by decide) (fun c_1 => ?_) (fun c_1 => ?_)
  · skip
    have t_2 : x0.toInt < x1.toInt := i_lt c_1 rfl rfl
    obtain ⟨sa_3, hsa_3⟩ := zz_st hZ (own := RX4) (k := 246) (tx := "a number outside its range") (by decide +kernel)
    exact vy_thr (vx_throwS (own := RX4) (cls := "java/lang/IllegalArgumentException") (names := ["java/lang/RuntimeException", "java/lang/Exception"]) hx hb hl9 hown (by decide +kernel) (by decide +kernel) (hts _ (List.mem_cons_of_mem _ wd_3)) (hts _ (List.mem_cons_of_mem _ wd_4)) hsa_3 (vx_hat (L := vx_atS RX4 174 "java/lang/IllegalArgumentException" ["java/lang/RuntimeException", "java/lang/Exception"]) (B := [.castable "java/lang/IllegalArgumentException" "java/lang/IllegalArgumentException", .declares ⟨"java/lang/RuntimeException", "<init>", "(Ljava/lang/String;)V"⟩, .declares ⟨"java/lang/Exception", "<init>", "(Ljava/lang/String;)V"⟩, .declares ⟨"java/lang/Throwable", "<init>", "(Ljava/lang/String;)V"⟩]) (fun w hw => hts w (List.mem_cons_of_mem _ (at_2 w hw))) bt_2 (zz_ws hZ (by decide +kernel))) gt_2 (zz_U hZ) (zz_N hZ) hS (hl.1.trans hml.symm) dX4_requireRange_10 dX4_requireRange_13 dX4_requireRange_14 dX4_requireRange_16 dX4_requireRange_19 (fun x hx => (hxt x hx).elim) (Nat.le_of_ble_eq_true rfl) (Nat.le_of_ble_eq_true rfl) (Nat.le_of_ble_eq_true rfl) (Nat.le_of_ble_eq_true rfl) hlocks (fun t ha hsz hk => ⟨(), (by unfold fX4_requireRange; rw [if_pos c_1]), rfl, hsz, fun q h1 _ => hk q h1⟩) hS.2.2 (Nat.le_of_ble_eq_true rfl) (Nat.le_of_ble_eq_true rfl))
  · skip
    have t_4 : x1.toInt ≤ x0.toInt := i_nlt c_1 rfl rfl
    refine lv_iload_n hx hb dX4_requireRange_5 rfl (lv_at hl 0 rfl) ?_
    refine lv_iload_n hx hb dX4_requireRange_6 rfl (lv_at hl 2 rfl) ?_
    refine lv_icmp_le (tgt := 20) hx hb dX4_requireRange_7 (by decide) (fun c_5 => ?_) (fun c_5 => ?_)
    · skip
      have t_6 : x0.toInt ≤ x2.toInt := i_le c_5 rfl rfl
      exact vy_ret (W.vret hx hb hr (fun t ht hW => ⟨⟨(), rfl, (by unfold fX4_requireRange; rw [if_neg c_1, if_pos c_5]), ht⟩, hS.F ht⟩) hS.2.2 dX4_requireRange_20)
    · skip
      have t_7 : x2.toInt < x0.toInt := i_nle c_5 rfl rfl
      obtain ⟨sa_8, hsa_8⟩ := zz_st hZ (own := RX4) (k := 246) (tx := "a number outside its range") (by decide +kernel)
      exact vy_thr (vx_throwS (own := RX4) (cls := "java/lang/IllegalArgumentException") (names := ["java/lang/RuntimeException", "java/lang/Exception"]) hx hb hl9 hown (by decide +kernel) (by decide +kernel) (hts _ (List.mem_cons_of_mem _ wd_3)) (hts _ (List.mem_cons_of_mem _ wd_4)) hsa_8 (vx_hat (L := vx_atS RX4 174 "java/lang/IllegalArgumentException" ["java/lang/RuntimeException", "java/lang/Exception"]) (B := [.castable "java/lang/IllegalArgumentException" "java/lang/IllegalArgumentException", .declares ⟨"java/lang/RuntimeException", "<init>", "(Ljava/lang/String;)V"⟩, .declares ⟨"java/lang/Exception", "<init>", "(Ljava/lang/String;)V"⟩, .declares ⟨"java/lang/Throwable", "<init>", "(Ljava/lang/String;)V"⟩]) (fun w hw => hts w (List.mem_cons_of_mem _ (at_2 w hw))) bt_2 (zz_ws hZ (by decide +kernel))) gt_2 (zz_U hZ) (zz_N hZ) hS (hl.1.trans hml.symm) dX4_requireRange_10 dX4_requireRange_13 dX4_requireRange_14 dX4_requireRange_16 dX4_requireRange_19 (fun x hx => (hxt x hx).elim) (Nat.le_of_ble_eq_true rfl) (Nat.le_of_ble_eq_true rfl) (Nat.le_of_ble_eq_true rfl) (Nat.le_of_ble_eq_true rfl) hlocks (fun t ha hsz hk => ⟨(), (by unfold fX4_requireRange; rw [if_neg c_1, if_neg c_5]), rfl, hsz, fun q h1 _ => hk q h1⟩) hS.2.2 (Nat.le_of_ble_eq_true rfl) (Nat.le_of_ble_eq_true rfl))
set_option maxHeartbeats 4000000 in
set_option maxRecDepth 100000 in
theorem kX4_requireNotNegative (l : Launch) (hl9 : l.stackTraces = false) (dC : Nat → ClassId) (dI : Nat → Nat → Nat) (H0 : Heap) (x0 : Int32) : vy_Met l yX4_requireNotNegative wsX4_requireNotNegative ({ frames := 6, cells := 1, slots := 6, locals := 82 }) (va_Pc [.int x0] (fun U => U.heap = H0 ∧ zz (fun q => H0.size ≤ q) U U.heap)) (va_Qv (fun _ : Unit => fX4_requireNotNegative x0 = 0) (fun _ t => t.heap = H0) (fun q => H0.size ≤ q)) (vx_X (fun _ : Unit => fX4_requireNotNegative x0 = 2) (fun E _ _ => E = "java/lang/IllegalArgumentException") (fun q => H0.size ≤ q)) 0 0 1 6 (fun q => H0.size ≤ q) := by
  refine vy_ofW (cc := cX4_requireNotNegative) (maxL := 1) (ret := none) (by decide) rfl ?_
  intro p e s m args below meth c s₁ B hml hxt hv
  obtain ⟨rfl, hH, hZ⟩ := hv
  have hx := B.exec
  have hb := B.bytes
  have hr := B.returns
  have hts := atoms_spec (ws := wsX4_requireNotNegative) B.pre
  have hown : s.vm.findClass RX4 = some m.cls := findClass_of_methodNamed B.named
  have hlocks := B.notSynchronized
  subst hH
  have hA : ∀ q : Nat, s.heap.size ≤ q → (fun q => s.heap.size ≤ q) q := fun q h => h
  have hS : va_S (fun q => s.heap.size ≤ q) s.heap s.heap [] := va_S.rf
  have hl := lv_entry ([.int x0]) (n := 1) (Nat.le_of_ble_eq_true rfl)
  rw [lg_entry_eq]
  generalize (lg_sl ([.int x0]) ++ List.replicate (1 - (lg_sl ([.int x0])).length) Slot.unset).toArray = ls at hl ⊢
  have hl : lv_has ls 1 [(0, .int x0)] := hl
  refine lv_iload_n hx hb dX4_requireNotNegative_0 rfl (lv_at hl 0 rfl) ?_
  refine lv_if_ge (tgt := 14) hx hb dX4_requireNotNegative_1 (by decide) (fun c_1 => ?_) (fun c_1 => ?_)
  · skip
    have t_2 : 0 ≤ x0.toInt := i_le c_1 (by decide) rfl
    exact vy_ret (W.vret hx hb hr (fun t ht hW => ⟨⟨(), rfl, (by unfold fX4_requireNotNegative; rw [if_pos c_1]), ht⟩, hS.F ht⟩) hS.2.2 dX4_requireNotNegative_14)
  · skip
    have t_3 : x0.toInt < 0 := i_nle c_1 (by decide) rfl
    obtain ⟨sa_4, hsa_4⟩ := zz_st hZ (own := RX4) (k := 248) (tx := "i is below 0") (by decide +kernel)
    exact vy_thr (vx_throwS (own := RX4) (cls := "java/lang/IllegalArgumentException") (names := ["java/lang/RuntimeException", "java/lang/Exception"]) hx hb hl9 hown (by decide +kernel) (by decide +kernel) (hts _ (List.mem_cons_of_mem _ wd_3)) (hts _ (List.mem_cons_of_mem _ wd_4)) hsa_4 (vx_hat (L := vx_atS RX4 174 "java/lang/IllegalArgumentException" ["java/lang/RuntimeException", "java/lang/Exception"]) (B := [.castable "java/lang/IllegalArgumentException" "java/lang/IllegalArgumentException", .declares ⟨"java/lang/RuntimeException", "<init>", "(Ljava/lang/String;)V"⟩, .declares ⟨"java/lang/Exception", "<init>", "(Ljava/lang/String;)V"⟩, .declares ⟨"java/lang/Throwable", "<init>", "(Ljava/lang/String;)V"⟩]) (fun w hw => hts w (List.mem_cons_of_mem _ (at_2 w hw))) bt_2 (zz_ws hZ (by decide +kernel))) gt_2 (zz_U hZ) (zz_N hZ) hS (hl.1.trans hml.symm) dX4_requireNotNegative_4 dX4_requireNotNegative_7 dX4_requireNotNegative_8 dX4_requireNotNegative_10 dX4_requireNotNegative_13 (fun x hx => (hxt x hx).elim) (Nat.le_of_ble_eq_true rfl) (Nat.le_of_ble_eq_true rfl) (Nat.le_of_ble_eq_true rfl) (Nat.le_of_ble_eq_true rfl) hlocks (fun t ha hsz hk => ⟨(), (by unfold fX4_requireNotNegative; rw [if_neg c_1]), rfl, hsz, fun q h1 _ => hk q h1⟩) hS.2.2 (Nat.le_of_ble_eq_true rfl) (Nat.le_of_ble_eq_true rfl))
set_option maxHeartbeats 4000000 in
set_option maxRecDepth 100000 in
theorem kX4_requireState (l : Launch) (hl9 : l.stackTraces = false) (dC : Nat → ClassId) (dI : Nat → Nat → Nat) (H0 : Heap) (x0 : Int32) : vy_Met l yX4_requireState wsX4_requireState ({ frames := 6, cells := 1, slots := 6, locals := 82 }) (va_Pc [.int x0] (fun U => U.heap = H0 ∧ zz (fun q => H0.size ≤ q) U U.heap)) (va_Qv (fun _ : Unit => fX4_requireState x0 = 0) (fun _ t => t.heap = H0) (fun q => H0.size ≤ q)) (vx_X (fun _ : Unit => fX4_requireState x0 = 3) (fun E _ _ => E = "java/lang/IllegalStateException") (fun q => H0.size ≤ q)) 0 0 1 6 (fun q => H0.size ≤ q) := by
  refine vy_ofW (cc := cX4_requireState) (maxL := 1) (ret := none) (by decide) rfl ?_
  intro p e s m args below meth c s₁ B hml hxt hv
  obtain ⟨rfl, hH, hZ⟩ := hv
  have hx := B.exec
  have hb := B.bytes
  have hr := B.returns
  have hts := atoms_spec (ws := wsX4_requireState) B.pre
  have hown : s.vm.findClass RX4 = some m.cls := findClass_of_methodNamed B.named
  have hlocks := B.notSynchronized
  subst hH
  have hA : ∀ q : Nat, s.heap.size ≤ q → (fun q => s.heap.size ≤ q) q := fun q h => h
  have hS : va_S (fun q => s.heap.size ≤ q) s.heap s.heap [] := va_S.rf
  have hl := lv_entry ([.int x0]) (n := 1) (Nat.le_of_ble_eq_true rfl)
  rw [lg_entry_eq]
  generalize (lg_sl ([.int x0]) ++ List.replicate (1 - (lg_sl ([.int x0])).length) Slot.unset).toArray = ls at hl ⊢
  have hl : lv_has ls 1 [(0, .int x0)] := hl
  refine lv_iload_n hx hb dX4_requireState_0 rfl (lv_at hl 0 rfl) ?_
  refine lv_if_ne (tgt := 14) hx hb dX4_requireState_1 (by decide) (fun c_1 => ?_) (fun c_1 => ?_)
  · skip
    have t_2 : x0.toInt ≠ 0 := i_ne c_1 rfl (by decide)
    exact vy_ret (W.vret hx hb hr (fun t ht hW => ⟨⟨(), rfl, (by unfold fX4_requireState; rw [if_neg c_1]), ht⟩, hS.F ht⟩) hS.2.2 dX4_requireState_14)
  · skip
    have t_3 : x0.toInt = 0 := i_eq c_1 rfl (by decide)
    obtain ⟨sa_4, hsa_4⟩ := zz_st hZ (own := RX4) (k := 250) (tx := "not as it is now") (by decide +kernel)
    exact vy_thr (vx_throwS (own := RX4) (cls := "java/lang/IllegalStateException") (names := ["java/lang/RuntimeException", "java/lang/Exception"]) hx hb hl9 hown (by decide +kernel) (by decide +kernel) (hts _ (List.mem_cons_of_mem _ wd_5)) (hts _ (List.mem_cons_of_mem _ wd_6)) hsa_4 (vx_hat (L := vx_atS RX4 150 "java/lang/IllegalStateException" ["java/lang/RuntimeException", "java/lang/Exception"]) (B := [.castable "java/lang/IllegalStateException" "java/lang/IllegalStateException", .declares ⟨"java/lang/RuntimeException", "<init>", "(Ljava/lang/String;)V"⟩, .declares ⟨"java/lang/Exception", "<init>", "(Ljava/lang/String;)V"⟩, .declares ⟨"java/lang/Throwable", "<init>", "(Ljava/lang/String;)V"⟩]) (fun w hw => hts w (List.mem_cons_of_mem _ (at_3 w hw))) bt_3 (zz_ws hZ (by decide +kernel))) gt_3 (zz_U hZ) (zz_N hZ) hS (hl.1.trans hml.symm) dX4_requireState_4 dX4_requireState_7 dX4_requireState_8 dX4_requireState_10 dX4_requireState_13 (fun x hx => (hxt x hx).elim) (Nat.le_of_ble_eq_true rfl) (Nat.le_of_ble_eq_true rfl) (Nat.le_of_ble_eq_true rfl) (Nat.le_of_ble_eq_true rfl) hlocks (fun t ha hsz hk => ⟨(), (by unfold fX4_requireState; rw [if_pos c_1]), rfl, hsz, fun q h1 _ => hk q h1⟩) hS.2.2 (Nat.le_of_ble_eq_true rfl) (Nat.le_of_ble_eq_true rfl))
set_option maxHeartbeats 4000000 in
set_option maxRecDepth 100000 in
theorem kX4_requireRoom (l : Launch) (hl9 : l.stackTraces = false) (dC : Nat → ClassId) (dI : Nat → Nat → Nat) (H0 : Heap) (x0 : Int32) : vy_Met l yX4_requireRoom wsX4_requireRoom ({ frames := 6, cells := 1, slots := 6, locals := 82 }) (va_Pc [.int x0] (fun U => U.heap = H0 ∧ zz (fun q => H0.size ≤ q) U U.heap)) (va_Qv (fun _ : Unit => fX4_requireRoom x0 = 0) (fun _ t => t.heap = H0) (fun q => H0.size ≤ q)) (vx_X (fun _ : Unit => fX4_requireRoom x0 = 4) (fun E _ _ => E = "java/lang/UnsupportedOperationException") (fun q => H0.size ≤ q)) 0 0 1 6 (fun q => H0.size ≤ q) := by
  refine vy_ofW (cc := cX4_requireRoom) (maxL := 1) (ret := none) (by decide) rfl ?_
  intro p e s m args below meth c s₁ B hml hxt hv
  obtain ⟨rfl, hH, hZ⟩ := hv
  have hx := B.exec
  have hb := B.bytes
  have hr := B.returns
  have hts := atoms_spec (ws := wsX4_requireRoom) B.pre
  have hown : s.vm.findClass RX4 = some m.cls := findClass_of_methodNamed B.named
  have hlocks := B.notSynchronized
  subst hH
  have hA : ∀ q : Nat, s.heap.size ≤ q → (fun q => s.heap.size ≤ q) q := fun q h => h
  have hS : va_S (fun q => s.heap.size ≤ q) s.heap s.heap [] := va_S.rf
  have hl := lv_entry ([.int x0]) (n := 1) (Nat.le_of_ble_eq_true rfl)
  rw [lg_entry_eq]
  generalize (lg_sl ([.int x0]) ++ List.replicate (1 - (lg_sl ([.int x0])).length) Slot.unset).toArray = ls at hl ⊢
  have hl : lv_has ls 1 [(0, .int x0)] := hl
  refine lv_iload_n hx hb dX4_requireRoom_0 rfl (lv_at hl 0 rfl) ?_
  refine lv_if_ne (tgt := 14) hx hb dX4_requireRoom_1 (by decide) (fun c_1 => ?_) (fun c_1 => ?_)
  · skip
    have t_2 : x0.toInt ≠ 0 := i_ne c_1 rfl (by decide)
    exact vy_ret (W.vret hx hb hr (fun t ht hW => ⟨⟨(), rfl, (by unfold fX4_requireRoom; rw [if_neg c_1]), ht⟩, hS.F ht⟩) hS.2.2 dX4_requireRoom_14)
  · skip
    have t_3 : x0.toInt = 0 := i_eq c_1 rfl (by decide)
    obtain ⟨sa_4, hsa_4⟩ := zz_st hZ (own := RX4) (k := 254) (tx := "no room") (by decide +kernel)
    exact vy_thr (vx_throwS (own := RX4) (cls := "java/lang/UnsupportedOperationException") (names := ["java/lang/RuntimeException", "java/lang/Exception"]) hx hb hl9 hown (by decide +kernel) (by decide +kernel) (hts _ (List.mem_cons_of_mem _ wd_7)) (hts _ (List.mem_cons_of_mem _ wd_8)) hsa_4 (vx_hat (L := vx_atS RX4 256 "java/lang/UnsupportedOperationException" ["java/lang/RuntimeException", "java/lang/Exception"]) (B := [.castable "java/lang/UnsupportedOperationException" "java/lang/UnsupportedOperationException", .declares ⟨"java/lang/RuntimeException", "<init>", "(Ljava/lang/String;)V"⟩, .declares ⟨"java/lang/Exception", "<init>", "(Ljava/lang/String;)V"⟩, .declares ⟨"java/lang/Throwable", "<init>", "(Ljava/lang/String;)V"⟩]) (fun w hw => hts w (List.mem_cons_of_mem _ (at_4 w hw))) bt_4 (zz_ws hZ (by decide +kernel))) gt_4 (zz_U hZ) (zz_N hZ) hS (hl.1.trans hml.symm) dX4_requireRoom_4 dX4_requireRoom_7 dX4_requireRoom_8 dX4_requireRoom_10 dX4_requireRoom_13 (fun x hx => (hxt x hx).elim) (Nat.le_of_ble_eq_true rfl) (Nat.le_of_ble_eq_true rfl) (Nat.le_of_ble_eq_true rfl) (Nat.le_of_ble_eq_true rfl) hlocks (fun t ha hsz hk => ⟨(), (by unfold fX4_requireRoom; rw [if_pos c_1]), rfl, hsz, fun q h1 _ => hk q h1⟩) hS.2.2 (Nat.le_of_ble_eq_true rfl) (Nat.le_of_ble_eq_true rfl))
set_option maxHeartbeats 4000000 in
set_option maxRecDepth 100000 in
theorem kX4_requireLot (l : Launch) (hl9 : l.stackTraces = false) (dC : Nat → ClassId) (dI : Nat → Nat → Nat) (g : cG) (h : Nat → Nat) (u : cS) (H0 : Heap) (x1 : Int32) : vy_Met l yX4_requireLot wsX4_requireLot ({ frames := 6, cells := 1, slots := 6, locals := 82 }) (va_Pc [.ref (h 0), .int x1] (fun U => U.heap = H0 ∧ va_P (dC, dI) vwCl (cw g h u) U.heap ∧ va_K (dC, dI) vwCl (cTys g) U ∧ zz (fun q => H0.size ≤ q) U U.heap)) (va_Qv (fun _ : Unit => fX4_requireLot u x1 = 0) (fun _ t => t.heap = H0) (fun q => H0.size ≤ q)) (vx_X (fun _ : Unit => fX4_requireLot u x1 = 1) (fun E _ _ => E = "java/util/NoSuchElementException") (fun q => H0.size ≤ q)) 0 0 1 6 (fun q => H0.size ≤ q) := by
  refine vy_ofW (cc := cX4_requireLot) (maxL := 2) (ret := none) (by decide) rfl ?_
  intro p e s m args below meth c s₁ B hml hxt hv
  obtain ⟨rfl, hH, hP, hK, hZ⟩ := hv
  have hx := B.exec
  have hb := B.bytes
  have hr := B.returns
  have hts := atoms_spec (ws := wsX4_requireLot) B.pre
  have hown : s.vm.findClass RX4 = some m.cls := findClass_of_methodNamed B.named
  have hlocks := B.notSynchronized
  subst hH
  have hA : ∀ q : Nat, s.heap.size ≤ q → (fun q => s.heap.size ≤ q) q := fun q h => h
  have hS : va_S (fun q => s.heap.size ≤ q) s.heap s.heap [] := va_S.rf
  have hl := lv_entry ([.ref (h 0), .int x1]) (n := 2) (Nat.le_of_ble_eq_true rfl)
  rw [lg_entry_eq]
  generalize (lg_sl ([.ref (h 0), .int x1]) ++ List.replicate (2 - (lg_sl ([.ref (h 0), .int x1])).length) Slot.unset).toArray = ls at hl ⊢
  have hl : lv_has ls 2 [(0, .ref (h 0)), (1, .int x1)] := hl
  refine lv_iload_n hx hb dX4_requireLot_0 rfl (lv_at hl 1 rfl) ?_
  refine lv_iconst (v := 1) hx hb dX4_requireLot_1 (by decide) ?_
  refine lv_icmp_lt (tgt := 16) hx hb dX4_requireLot_2 (by decide) (fun c_1 => ?_) (fun c_1 => ?_)
  · skip
    have t_2 : x1.toInt < 1 := i_lt c_1 rfl (by decide)
    obtain ⟨sa_3, hsa_3⟩ := zz_st hZ (own := RX4) (k := 242) (tx := "no such lot") (by decide +kernel)
    exact vy_thr (nx_throwS hx hb hl9 hown (hts _ (List.mem_cons_of_mem _ wd_9)) (hts _ (List.mem_cons_of_mem _ wd_10)) hsa_3 (vx_hat (L := nx_at) (B := [.castable "java/util/NoSuchElementException" "java/util/NoSuchElementException", .declares ⟨"java/lang/RuntimeException", "<init>", "(Ljava/lang/String;)V"⟩, .declares ⟨"java/lang/Exception", "<init>", "(Ljava/lang/String;)V"⟩, .declares ⟨"java/lang/Throwable", "<init>", "(Ljava/lang/String;)V"⟩]) (fun w hw => hts w (List.mem_cons_of_mem _ (at_1 w hw))) bt_1 (zz_ws hZ (by decide +kernel))) gt_1 (zz_U hZ) (zz_N hZ) hS (hl.1.trans hml.symm) dX4_requireLot_16 dX4_requireLot_19 dX4_requireLot_20 dX4_requireLot_22 dX4_requireLot_25 (fun x hx => (hxt x hx).elim) (Nat.le_of_ble_eq_true rfl) (Nat.le_of_ble_eq_true rfl) (Nat.le_of_ble_eq_true rfl) (Nat.le_of_ble_eq_true rfl) hlocks (fun t ha hsz hk => ⟨(), (by unfold fX4_requireLot; rw [if_pos c_1]), rfl, hsz, fun q h1 _ => hk q h1⟩) hS.2.2 (Nat.le_of_ble_eq_true rfl) (Nat.le_of_ble_eq_true rfl))
  · skip
    have t_4 : 1 ≤ x1.toInt := i_nlt c_1 rfl (by decide)
    refine lv_iload_n hx hb dX4_requireLot_5 rfl (lv_at hl 1 rfl) ?_
    refine lv_aload_n hx hb dX4_requireLot_6 rfl (lv_at hl 0 rfl) ?_
    refine va_get (D := (dC, dI)) (C := RX4) (T := TX4) (N := 9) (v := .ref (h 1)) hx hb hts (fi_X4 _) hown hK hP 0 (cw_at0 _ _ _) rfl 0 (by decide) (hts _ (List.mem_cons_of_mem _ wd_11)) (fun _ h9 => h9) rfl dX4_requireLot_7 ?_
    refine va_get (D := (dC, dI)) (C := RX1) (T := TX1) (N := 9) (v := .int (k_lmade u)) hx hb hts (fi_X1 _) hown hK hP 1 (cw_at1 _ _ _) rfl 8 (by decide) (hts _ (List.mem_cons_of_mem _ wd_12)) (fun _ h9 => h9) rfl dX4_requireLot_10 ?_
    refine lv_icmp_le (tgt := 26) hx hb dX4_requireLot_13 (by decide) (fun c_5 => ?_) (fun c_5 => ?_)
    · skip
      have t_6 : x1.toInt ≤ (k_lmade u).toInt := i_le c_5 rfl rfl
      exact vy_ret (W.vret hx hb hr (fun t ht hW => ⟨⟨(), rfl, (by unfold fX4_requireLot; rw [if_neg c_1, if_pos c_5]), ht⟩, hS.F ht⟩) hS.2.2 dX4_requireLot_26)
    · skip
      have t_7 : (k_lmade u).toInt < x1.toInt := i_nle c_5 rfl rfl
      obtain ⟨sa_8, hsa_8⟩ := zz_st hZ (own := RX4) (k := 242) (tx := "no such lot") (by decide +kernel)
      exact vy_thr (nx_throwS hx hb hl9 hown (hts _ (List.mem_cons_of_mem _ wd_9)) (hts _ (List.mem_cons_of_mem _ wd_10)) hsa_8 (vx_hat (L := nx_at) (B := [.castable "java/util/NoSuchElementException" "java/util/NoSuchElementException", .declares ⟨"java/lang/RuntimeException", "<init>", "(Ljava/lang/String;)V"⟩, .declares ⟨"java/lang/Exception", "<init>", "(Ljava/lang/String;)V"⟩, .declares ⟨"java/lang/Throwable", "<init>", "(Ljava/lang/String;)V"⟩]) (fun w hw => hts w (List.mem_cons_of_mem _ (at_1 w hw))) bt_1 (zz_ws hZ (by decide +kernel))) gt_1 (zz_U hZ) (zz_N hZ) hS (hl.1.trans hml.symm) dX4_requireLot_16 dX4_requireLot_19 dX4_requireLot_20 dX4_requireLot_22 dX4_requireLot_25 (fun x hx => (hxt x hx).elim) (Nat.le_of_ble_eq_true rfl) (Nat.le_of_ble_eq_true rfl) (Nat.le_of_ble_eq_true rfl) (Nat.le_of_ble_eq_true rfl) hlocks (fun t ha hsz hk => ⟨(), (by unfold fX4_requireLot; rw [if_neg c_1, if_neg c_5]), rfl, hsz, fun q h1 _ => hk q h1⟩) hS.2.2 (Nat.le_of_ble_eq_true rfl) (Nat.le_of_ble_eq_true rfl))
set_option maxHeartbeats 4000000 in
set_option maxRecDepth 100000 in
theorem kX4_requireUnit (l : Launch) (hl9 : l.stackTraces = false) (dC : Nat → ClassId) (dI : Nat → Nat → Nat) (g : cG) (h : Nat → Nat) (u : cS) (H0 : Heap) (x1 : Int32) : vy_Met l yX4_requireUnit wsX4_requireUnit ({ frames := 6, cells := 1, slots := 6, locals := 82 }) (va_Pc [.ref (h 0), .int x1] (fun U => U.heap = H0 ∧ va_P (dC, dI) vwCl (cw g h u) U.heap ∧ va_K (dC, dI) vwCl (cTys g) U ∧ zz (fun q => H0.size ≤ q) U U.heap)) (va_Qv (fun _ : Unit => fX4_requireUnit u x1 = 0) (fun _ t => t.heap = H0) (fun q => H0.size ≤ q)) (vx_X (fun _ : Unit => fX4_requireUnit u x1 = 1) (fun E _ _ => E = "java/util/NoSuchElementException") (fun q => H0.size ≤ q)) 0 0 1 6 (fun q => H0.size ≤ q) := by
  refine vy_ofW (cc := cX4_requireUnit) (maxL := 2) (ret := none) (by decide) rfl ?_
  intro p e s m args below meth c s₁ B hml hxt hv
  obtain ⟨rfl, hH, hP, hK, hZ⟩ := hv
  have hx := B.exec
  have hb := B.bytes
  have hr := B.returns
  have hts := atoms_spec (ws := wsX4_requireUnit) B.pre
  have hown : s.vm.findClass RX4 = some m.cls := findClass_of_methodNamed B.named
  have hlocks := B.notSynchronized
  subst hH
  have hA : ∀ q : Nat, s.heap.size ≤ q → (fun q => s.heap.size ≤ q) q := fun q h => h
  have hS : va_S (fun q => s.heap.size ≤ q) s.heap s.heap [] := va_S.rf
  have hl := lv_entry ([.ref (h 0), .int x1]) (n := 2) (Nat.le_of_ble_eq_true rfl)
  rw [lg_entry_eq]
  generalize (lg_sl ([.ref (h 0), .int x1]) ++ List.replicate (2 - (lg_sl ([.ref (h 0), .int x1])).length) Slot.unset).toArray = ls at hl ⊢
  have hl : lv_has ls 2 [(0, .ref (h 0)), (1, .int x1)] := hl
  refine lv_iload_n hx hb dX4_requireUnit_0 rfl (lv_at hl 1 rfl) ?_
  refine lv_iconst (v := 1) hx hb dX4_requireUnit_1 (by decide) ?_
  refine lv_icmp_lt (tgt := 16) hx hb dX4_requireUnit_2 (by decide) (fun c_1 => ?_) (fun c_1 => ?_)
  · skip
    have t_2 : x1.toInt < 1 := i_lt c_1 rfl (by decide)
    obtain ⟨sa_3, hsa_3⟩ := zz_st hZ (own := RX4) (k := 244) (tx := "no such unit") (by decide +kernel)
    exact vy_thr (nx_throwS hx hb hl9 hown (hts _ (List.mem_cons_of_mem _ wd_9)) (hts _ (List.mem_cons_of_mem _ wd_10)) hsa_3 (vx_hat (L := nx_at) (B := [.castable "java/util/NoSuchElementException" "java/util/NoSuchElementException", .declares ⟨"java/lang/RuntimeException", "<init>", "(Ljava/lang/String;)V"⟩, .declares ⟨"java/lang/Exception", "<init>", "(Ljava/lang/String;)V"⟩, .declares ⟨"java/lang/Throwable", "<init>", "(Ljava/lang/String;)V"⟩]) (fun w hw => hts w (List.mem_cons_of_mem _ (at_1 w hw))) bt_1 (zz_ws hZ (by decide +kernel))) gt_1 (zz_U hZ) (zz_N hZ) hS (hl.1.trans hml.symm) dX4_requireUnit_16 dX4_requireUnit_19 dX4_requireUnit_20 dX4_requireUnit_22 dX4_requireUnit_25 (fun x hx => (hxt x hx).elim) (Nat.le_of_ble_eq_true rfl) (Nat.le_of_ble_eq_true rfl) (Nat.le_of_ble_eq_true rfl) (Nat.le_of_ble_eq_true rfl) hlocks (fun t ha hsz hk => ⟨(), (by unfold fX4_requireUnit; rw [if_pos c_1]), rfl, hsz, fun q h1 _ => hk q h1⟩) hS.2.2 (Nat.le_of_ble_eq_true rfl) (Nat.le_of_ble_eq_true rfl))
  · skip
    have t_4 : 1 ≤ x1.toInt := i_nlt c_1 rfl (by decide)
    refine lv_iload_n hx hb dX4_requireUnit_5 rfl (lv_at hl 1 rfl) ?_
    refine lv_aload_n hx hb dX4_requireUnit_6 rfl (lv_at hl 0 rfl) ?_
    refine va_get (D := (dC, dI)) (C := RX4) (T := TX4) (N := 9) (v := .ref (h 2)) hx hb hts (fi_X4 _) hown hK hP 0 (cw_at0 _ _ _) rfl 1 (by decide) (hts _ (List.mem_cons_of_mem _ wd_13)) (fun _ h9 => h9) rfl dX4_requireUnit_7 ?_
    refine va_get (D := (dC, dI)) (C := RX3) (T := TX3) (N := 7) (v := .int (k_umade u)) hx hb hts (fi_X3 _) hown hK hP 2 (cw_at2 _ _ _) rfl 5 (by decide) (hts _ (List.mem_cons_of_mem _ wd_14)) (fun _ h9 => h9) rfl dX4_requireUnit_10 ?_
    refine lv_icmp_le (tgt := 26) hx hb dX4_requireUnit_13 (by decide) (fun c_5 => ?_) (fun c_5 => ?_)
    · skip
      have t_6 : x1.toInt ≤ (k_umade u).toInt := i_le c_5 rfl rfl
      exact vy_ret (W.vret hx hb hr (fun t ht hW => ⟨⟨(), rfl, (by unfold fX4_requireUnit; rw [if_neg c_1, if_pos c_5]), ht⟩, hS.F ht⟩) hS.2.2 dX4_requireUnit_26)
    · skip
      have t_7 : (k_umade u).toInt < x1.toInt := i_nle c_5 rfl rfl
      obtain ⟨sa_8, hsa_8⟩ := zz_st hZ (own := RX4) (k := 244) (tx := "no such unit") (by decide +kernel)
      exact vy_thr (nx_throwS hx hb hl9 hown (hts _ (List.mem_cons_of_mem _ wd_9)) (hts _ (List.mem_cons_of_mem _ wd_10)) hsa_8 (vx_hat (L := nx_at) (B := [.castable "java/util/NoSuchElementException" "java/util/NoSuchElementException", .declares ⟨"java/lang/RuntimeException", "<init>", "(Ljava/lang/String;)V"⟩, .declares ⟨"java/lang/Exception", "<init>", "(Ljava/lang/String;)V"⟩, .declares ⟨"java/lang/Throwable", "<init>", "(Ljava/lang/String;)V"⟩]) (fun w hw => hts w (List.mem_cons_of_mem _ (at_1 w hw))) bt_1 (zz_ws hZ (by decide +kernel))) gt_1 (zz_U hZ) (zz_N hZ) hS (hl.1.trans hml.symm) dX4_requireUnit_16 dX4_requireUnit_19 dX4_requireUnit_20 dX4_requireUnit_22 dX4_requireUnit_25 (fun x hx => (hxt x hx).elim) (Nat.le_of_ble_eq_true rfl) (Nat.le_of_ble_eq_true rfl) (Nat.le_of_ble_eq_true rfl) (Nat.le_of_ble_eq_true rfl) hlocks (fun t ha hsz hk => ⟨(), (by unfold fX4_requireUnit; rw [if_neg c_1, if_neg c_5]), rfl, hsz, fun q h1 _ => hk q h1⟩) hS.2.2 (Nat.le_of_ble_eq_true rfl) (Nat.le_of_ble_eq_true rfl))
end
section
set_option maxHeartbeats 4000000 in
set_option maxRecDepth 100000 in
theorem kJ6_bitCount (l : Launch) (dC : Nat → ClassId) (dI : Nat → Nat → Nat) (x0 : Int32) : Met l yJ6_bitCount wsJ6_bitCount ({ frames := 0, cells := 0, slots := 0, locals := 0 }) (va_Pc [.int x0] (fun U => True)) (vp_Si (fun r => r = fJ6_bitCount x0)) 0 0 (fun _ => False) := by
  refine Met.ofW (cc := cJ6_bitCount) (maxL := 1) (ret := (some .int)) (by decide) rfl ?_
  intro p e s m args below meth c s₁ B hml hv
  obtain ⟨rfl, -⟩ := hv
  have hx := B.exec
  have hb := B.bytes
  have hr := B.returns
  have hts := atoms_spec (ws := wsJ6_bitCount) B.pre
  have hown : s.vm.findClass RJ6 = some m.cls := findClass_of_methodNamed B.named
  have hlocks := B.notSynchronized
  have hS : va_S (fun _ => False) s.heap s.heap [] := va_S.rf
  have hl := lv_entry ([.int x0]) (n := 1) (Nat.le_of_ble_eq_true rfl)
  rw [lg_entry_eq]
  generalize (lg_sl ([.int x0]) ++ List.replicate (1 - (lg_sl ([.int x0])).length) Slot.unset).toArray = ls at hl ⊢
  have hl : lv_has ls 1 [(0, .int x0)] := hl
  refine lv_iload_n hx hb dJ6_bitCount_0 rfl (lv_at hl 0 rfl) ?_
  refine lv_iload_n hx hb dJ6_bitCount_1 rfl (lv_at hl 0 rfl) ?_
  refine lv_iconst (v := 1) hx hb dJ6_bitCount_2 (by decide) ?_
  refine lv_iushr (v := (x0.toUInt32 >>> ((1 : Int32).toUInt32 &&& Int32.toUInt32 31)).toInt32) hx hb dJ6_bitCount_3 rfl ?_
  refine lv_ldcw (v := 1431655765) hx hb hown (hts _ (List.mem_cons_of_mem _ wd_0)) dJ6_bitCount_4 ?_
  refine lv_iand hx hb dJ6_bitCount_7 ?_
  refine lv_isub hx hb dJ6_bitCount_8 ?_
  refine lv_istore_n (lv' := [(0, .int (x0 - (((x0.toUInt32 >>> ((1 : Int32).toUInt32 &&& Int32.toUInt32 31)).toInt32) &&& 1431655765)))]) hx hb dJ6_bitCount_9 rfl hl (by decide) rfl (fun ls hl => ?_)
  refine lv_iload_n hx hb dJ6_bitCount_10 rfl (lv_at hl 0 rfl) ?_
  refine lv_ldcw (v := 858993459) hx hb hown (hts _ (List.mem_cons_of_mem _ wd_1)) dJ6_bitCount_11 ?_
  refine lv_iand hx hb dJ6_bitCount_14 ?_
  refine lv_iload_n hx hb dJ6_bitCount_15 rfl (lv_at hl 0 rfl) ?_
  refine lv_iconst (v := 2) hx hb dJ6_bitCount_16 (by decide) ?_
  refine lv_iushr (v := ((x0 - (((x0.toUInt32 >>> ((1 : Int32).toUInt32 &&& Int32.toUInt32 31)).toInt32) &&& 1431655765)).toUInt32 >>> ((2 : Int32).toUInt32 &&& Int32.toUInt32 31)).toInt32) hx hb dJ6_bitCount_17 rfl ?_
  refine lv_ldcw (v := 858993459) hx hb hown (hts _ (List.mem_cons_of_mem _ wd_1)) dJ6_bitCount_18 ?_
  refine lv_iand hx hb dJ6_bitCount_21 ?_
  refine lv_iadd hx hb dJ6_bitCount_22 ?_
  refine lv_istore_n (lv' := [(0, .int (((x0 - (((x0.toUInt32 >>> ((1 : Int32).toUInt32 &&& Int32.toUInt32 31)).toInt32) &&& 1431655765)) &&& 858993459) + ((((x0 - (((x0.toUInt32 >>> ((1 : Int32).toUInt32 &&& Int32.toUInt32 31)).toInt32) &&& 1431655765)).toUInt32 >>> ((2 : Int32).toUInt32 &&& Int32.toUInt32 31)).toInt32) &&& 858993459)))]) hx hb dJ6_bitCount_23 rfl hl (by decide) rfl (fun ls hl => ?_)
  refine lv_iload_n hx hb dJ6_bitCount_24 rfl (lv_at hl 0 rfl) ?_
  refine lv_iload_n hx hb dJ6_bitCount_25 rfl (lv_at hl 0 rfl) ?_
  refine lv_iconst (v := 4) hx hb dJ6_bitCount_26 (by decide) ?_
  refine lv_iushr (v := ((((x0 - (((x0.toUInt32 >>> ((1 : Int32).toUInt32 &&& Int32.toUInt32 31)).toInt32) &&& 1431655765)) &&& 858993459) + ((((x0 - (((x0.toUInt32 >>> ((1 : Int32).toUInt32 &&& Int32.toUInt32 31)).toInt32) &&& 1431655765)).toUInt32 >>> ((2 : Int32).toUInt32 &&& Int32.toUInt32 31)).toInt32) &&& 858993459)).toUInt32 >>> ((4 : Int32).toUInt32 &&& Int32.toUInt32 31)).toInt32) hx hb dJ6_bitCount_27 rfl ?_
  refine lv_iadd hx hb dJ6_bitCount_28 ?_
  refine lv_ldcw (v := 252645135) hx hb hown (hts _ (List.mem_cons_of_mem _ wd_2)) dJ6_bitCount_29 ?_
  refine lv_iand hx hb dJ6_bitCount_32 ?_
  refine lv_istore_n (lv' := [(0, .int (((((x0 - (((x0.toUInt32 >>> ((1 : Int32).toUInt32 &&& Int32.toUInt32 31)).toInt32) &&& 1431655765)) &&& 858993459) + ((((x0 - (((x0.toUInt32 >>> ((1 : Int32).toUInt32 &&& Int32.toUInt32 31)).toInt32) &&& 1431655765)).toUInt32 >>> ((2 : Int32).toUInt32 &&& Int32.toUInt32 31)).toInt32) &&& 858993459)) + (((((x0 - (((x0.toUInt32 >>> ((1 : Int32).toUInt32 &&& Int32.toUInt32 31)).toInt32) &&& 1431655765)) &&& 858993459) + ((((x0 - (((x0.toUInt32 >>> ((1 : Int32).toUInt32 &&& Int32.toUInt32 31)).toInt32) &&& 1431655765)).toUInt32 >>> ((2 : Int32).toUInt32 &&& Int32.toUInt32 31)).toInt32) &&& 858993459)).toUInt32 >>> ((4 : Int32).toUInt32 &&& Int32.toUInt32 31)).toInt32)) &&& 252645135))]) hx hb dJ6_bitCount_33 rfl hl (by decide) rfl (fun ls hl => ?_)
  refine lv_iload_n hx hb dJ6_bitCount_34 rfl (lv_at hl 0 rfl) ?_
  refine lv_iload_n hx hb dJ6_bitCount_35 rfl (lv_at hl 0 rfl) ?_
  refine lv_bipush (v := 8) hx hb dJ6_bitCount_36 (by decide) ?_
  refine lv_iushr (v := ((((((x0 - (((x0.toUInt32 >>> ((1 : Int32).toUInt32 &&& Int32.toUInt32 31)).toInt32) &&& 1431655765)) &&& 858993459) + ((((x0 - (((x0.toUInt32 >>> ((1 : Int32).toUInt32 &&& Int32.toUInt32 31)).toInt32) &&& 1431655765)).toUInt32 >>> ((2 : Int32).toUInt32 &&& Int32.toUInt32 31)).toInt32) &&& 858993459)) + (((((x0 - (((x0.toUInt32 >>> ((1 : Int32).toUInt32 &&& Int32.toUInt32 31)).toInt32) &&& 1431655765)) &&& 858993459) + ((((x0 - (((x0.toUInt32 >>> ((1 : Int32).toUInt32 &&& Int32.toUInt32 31)).toInt32) &&& 1431655765)).toUInt32 >>> ((2 : Int32).toUInt32 &&& Int32.toUInt32 31)).toInt32) &&& 858993459)).toUInt32 >>> ((4 : Int32).toUInt32 &&& Int32.toUInt32 31)).toInt32)) &&& 252645135).toUInt32 >>> ((8 : Int32).toUInt32 &&& Int32.toUInt32 31)).toInt32) hx hb dJ6_bitCount_38 rfl ?_
  refine lv_iadd hx hb dJ6_bitCount_39 ?_
  refine lv_istore_n (lv' := [(0, .int ((((((x0 - (((x0.toUInt32 >>> ((1 : Int32).toUInt32 &&& Int32.toUInt32 31)).toInt32) &&& 1431655765)) &&& 858993459) + ((((x0 - (((x0.toUInt32 >>> ((1 : Int32).toUInt32 &&& Int32.toUInt32 31)).toInt32) &&& 1431655765)).toUInt32 >>> ((2 : Int32).toUInt32 &&& Int32.toUInt32 31)).toInt32) &&& 858993459)) + (((((x0 - (((x0.toUInt32 >>> ((1 : Int32).toUInt32 &&& Int32.toUInt32 31)).toInt32) &&& 1431655765)) &&& 858993459) + ((((x0 - (((x0.toUInt32 >>> ((1 : Int32).toUInt32 &&& Int32.toUInt32 31)).toInt32) &&& 1431655765)).toUInt32 >>> ((2 : Int32).toUInt32 &&& Int32.toUInt32 31)).toInt32) &&& 858993459)).toUInt32 >>> ((4 : Int32).toUInt32 &&& Int32.toUInt32 31)).toInt32)) &&& 252645135) + (((((((x0 - (((x0.toUInt32 >>> ((1 : Int32).toUInt32 &&& Int32.toUInt32 31)).toInt32) &&& 1431655765)) &&& 858993459) + ((((x0 - (((x0.toUInt32 >>> ((1 : Int32).toUInt32 &&& Int32.toUInt32 31)).toInt32) &&& 1431655765)).toUInt32 >>> ((2 : Int32).toUInt32 &&& Int32.toUInt32 31)).toInt32) &&& 858993459)) + (((((x0 - (((x0.toUInt32 >>> ((1 : Int32).toUInt32 &&& Int32.toUInt32 31)).toInt32) &&& 1431655765)) &&& 858993459) + ((((x0 - (((x0.toUInt32 >>> ((1 : Int32).toUInt32 &&& Int32.toUInt32 31)).toInt32) &&& 1431655765)).toUInt32 >>> ((2 : Int32).toUInt32 &&& Int32.toUInt32 31)).toInt32) &&& 858993459)).toUInt32 >>> ((4 : Int32).toUInt32 &&& Int32.toUInt32 31)).toInt32)) &&& 252645135).toUInt32 >>> ((8 : Int32).toUInt32 &&& Int32.toUInt32 31)).toInt32)))]) hx hb dJ6_bitCount_40 rfl hl (by decide) rfl (fun ls hl => ?_)
  refine lv_iload_n hx hb dJ6_bitCount_41 rfl (lv_at hl 0 rfl) ?_
  refine lv_iload_n hx hb dJ6_bitCount_42 rfl (lv_at hl 0 rfl) ?_
  refine lv_bipush (v := 16) hx hb dJ6_bitCount_43 (by decide) ?_
  refine lv_iushr (v := (((((((x0 - (((x0.toUInt32 >>> ((1 : Int32).toUInt32 &&& Int32.toUInt32 31)).toInt32) &&& 1431655765)) &&& 858993459) + ((((x0 - (((x0.toUInt32 >>> ((1 : Int32).toUInt32 &&& Int32.toUInt32 31)).toInt32) &&& 1431655765)).toUInt32 >>> ((2 : Int32).toUInt32 &&& Int32.toUInt32 31)).toInt32) &&& 858993459)) + (((((x0 - (((x0.toUInt32 >>> ((1 : Int32).toUInt32 &&& Int32.toUInt32 31)).toInt32) &&& 1431655765)) &&& 858993459) + ((((x0 - (((x0.toUInt32 >>> ((1 : Int32).toUInt32 &&& Int32.toUInt32 31)).toInt32) &&& 1431655765)).toUInt32 >>> ((2 : Int32).toUInt32 &&& Int32.toUInt32 31)).toInt32) &&& 858993459)).toUInt32 >>> ((4 : Int32).toUInt32 &&& Int32.toUInt32 31)).toInt32)) &&& 252645135) + (((((((x0 - (((x0.toUInt32 >>> ((1 : Int32).toUInt32 &&& Int32.toUInt32 31)).toInt32) &&& 1431655765)) &&& 858993459) + ((((x0 - (((x0.toUInt32 >>> ((1 : Int32).toUInt32 &&& Int32.toUInt32 31)).toInt32) &&& 1431655765)).toUInt32 >>> ((2 : Int32).toUInt32 &&& Int32.toUInt32 31)).toInt32) &&& 858993459)) + (((((x0 - (((x0.toUInt32 >>> ((1 : Int32).toUInt32 &&& Int32.toUInt32 31)).toInt32) &&& 1431655765)) &&& 858993459) + ((((x0 - (((x0.toUInt32 >>> ((1 : Int32).toUInt32 &&& Int32.toUInt32 31)).toInt32) &&& 1431655765)).toUInt32 >>> ((2 : Int32).toUInt32 &&& Int32.toUInt32 31)).toInt32) &&& 858993459)).toUInt32 >>> ((4 : Int32).toUInt32 &&& Int32.toUInt32 31)).toInt32)) &&& 252645135).toUInt32 >>> ((8 : Int32).toUInt32 &&& Int32.toUInt32 31)).toInt32)).toUInt32 >>> ((16 : Int32).toUInt32 &&& Int32.toUInt32 31)).toInt32) hx hb dJ6_bitCount_45 rfl ?_
  refine lv_iadd hx hb dJ6_bitCount_46 ?_
  refine lv_istore_n (lv' := [(0, .int (((((((x0 - (((x0.toUInt32 >>> ((1 : Int32).toUInt32 &&& Int32.toUInt32 31)).toInt32) &&& 1431655765)) &&& 858993459) + ((((x0 - (((x0.toUInt32 >>> ((1 : Int32).toUInt32 &&& Int32.toUInt32 31)).toInt32) &&& 1431655765)).toUInt32 >>> ((2 : Int32).toUInt32 &&& Int32.toUInt32 31)).toInt32) &&& 858993459)) + (((((x0 - (((x0.toUInt32 >>> ((1 : Int32).toUInt32 &&& Int32.toUInt32 31)).toInt32) &&& 1431655765)) &&& 858993459) + ((((x0 - (((x0.toUInt32 >>> ((1 : Int32).toUInt32 &&& Int32.toUInt32 31)).toInt32) &&& 1431655765)).toUInt32 >>> ((2 : Int32).toUInt32 &&& Int32.toUInt32 31)).toInt32) &&& 858993459)).toUInt32 >>> ((4 : Int32).toUInt32 &&& Int32.toUInt32 31)).toInt32)) &&& 252645135) + (((((((x0 - (((x0.toUInt32 >>> ((1 : Int32).toUInt32 &&& Int32.toUInt32 31)).toInt32) &&& 1431655765)) &&& 858993459) + ((((x0 - (((x0.toUInt32 >>> ((1 : Int32).toUInt32 &&& Int32.toUInt32 31)).toInt32) &&& 1431655765)).toUInt32 >>> ((2 : Int32).toUInt32 &&& Int32.toUInt32 31)).toInt32) &&& 858993459)) + (((((x0 - (((x0.toUInt32 >>> ((1 : Int32).toUInt32 &&& Int32.toUInt32 31)).toInt32) &&& 1431655765)) &&& 858993459) + ((((x0 - (((x0.toUInt32 >>> ((1 : Int32).toUInt32 &&& Int32.toUInt32 31)).toInt32) &&& 1431655765)).toUInt32 >>> ((2 : Int32).toUInt32 &&& Int32.toUInt32 31)).toInt32) &&& 858993459)).toUInt32 >>> ((4 : Int32).toUInt32 &&& Int32.toUInt32 31)).toInt32)) &&& 252645135).toUInt32 >>> ((8 : Int32).toUInt32 &&& Int32.toUInt32 31)).toInt32)) + ((((((((x0 - (((x0.toUInt32 >>> ((1 : Int32).toUInt32 &&& Int32.toUInt32 31)).toInt32) &&& 1431655765)) &&& 858993459) + ((((x0 - (((x0.toUInt32 >>> ((1 : Int32).toUInt32 &&& Int32.toUInt32 31)).toInt32) &&& 1431655765)).toUInt32 >>> ((2 : Int32).toUInt32 &&& Int32.toUInt32 31)).toInt32) &&& 858993459)) + (((((x0 - (((x0.toUInt32 >>> ((1 : Int32).toUInt32 &&& Int32.toUInt32 31)).toInt32) &&& 1431655765)) &&& 858993459) + ((((x0 - (((x0.toUInt32 >>> ((1 : Int32).toUInt32 &&& Int32.toUInt32 31)).toInt32) &&& 1431655765)).toUInt32 >>> ((2 : Int32).toUInt32 &&& Int32.toUInt32 31)).toInt32) &&& 858993459)).toUInt32 >>> ((4 : Int32).toUInt32 &&& Int32.toUInt32 31)).toInt32)) &&& 252645135) + (((((((x0 - (((x0.toUInt32 >>> ((1 : Int32).toUInt32 &&& Int32.toUInt32 31)).toInt32) &&& 1431655765)) &&& 858993459) + ((((x0 - (((x0.toUInt32 >>> ((1 : Int32).toUInt32 &&& Int32.toUInt32 31)).toInt32) &&& 1431655765)).toUInt32 >>> ((2 : Int32).toUInt32 &&& Int32.toUInt32 31)).toInt32) &&& 858993459)) + (((((x0 - (((x0.toUInt32 >>> ((1 : Int32).toUInt32 &&& Int32.toUInt32 31)).toInt32) &&& 1431655765)) &&& 858993459) + ((((x0 - (((x0.toUInt32 >>> ((1 : Int32).toUInt32 &&& Int32.toUInt32 31)).toInt32) &&& 1431655765)).toUInt32 >>> ((2 : Int32).toUInt32 &&& Int32.toUInt32 31)).toInt32) &&& 858993459)).toUInt32 >>> ((4 : Int32).toUInt32 &&& Int32.toUInt32 31)).toInt32)) &&& 252645135).toUInt32 >>> ((8 : Int32).toUInt32 &&& Int32.toUInt32 31)).toInt32)).toUInt32 >>> ((16 : Int32).toUInt32 &&& Int32.toUInt32 31)).toInt32)))]) hx hb dJ6_bitCount_47 rfl hl (by decide) rfl (fun ls hl => ?_)
  refine lv_iload_n hx hb dJ6_bitCount_48 rfl (lv_at hl 0 rfl) ?_
  refine lv_bipush (v := 63) hx hb dJ6_bitCount_49 (by decide) ?_
  refine lv_iand hx hb dJ6_bitCount_51 ?_
  exact W.iret (v := (((((((x0 - (((x0.toUInt32 >>> ((1 : Int32).toUInt32 &&& Int32.toUInt32 31)).toInt32) &&& 1431655765)) &&& 858993459) + ((((x0 - (((x0.toUInt32 >>> ((1 : Int32).toUInt32 &&& Int32.toUInt32 31)).toInt32) &&& 1431655765)).toUInt32 >>> ((2 : Int32).toUInt32 &&& Int32.toUInt32 31)).toInt32) &&& 858993459)) + (((((x0 - (((x0.toUInt32 >>> ((1 : Int32).toUInt32 &&& Int32.toUInt32 31)).toInt32) &&& 1431655765)) &&& 858993459) + ((((x0 - (((x0.toUInt32 >>> ((1 : Int32).toUInt32 &&& Int32.toUInt32 31)).toInt32) &&& 1431655765)).toUInt32 >>> ((2 : Int32).toUInt32 &&& Int32.toUInt32 31)).toInt32) &&& 858993459)).toUInt32 >>> ((4 : Int32).toUInt32 &&& Int32.toUInt32 31)).toInt32)) &&& 252645135) + (((((((x0 - (((x0.toUInt32 >>> ((1 : Int32).toUInt32 &&& Int32.toUInt32 31)).toInt32) &&& 1431655765)) &&& 858993459) + ((((x0 - (((x0.toUInt32 >>> ((1 : Int32).toUInt32 &&& Int32.toUInt32 31)).toInt32) &&& 1431655765)).toUInt32 >>> ((2 : Int32).toUInt32 &&& Int32.toUInt32 31)).toInt32) &&& 858993459)) + (((((x0 - (((x0.toUInt32 >>> ((1 : Int32).toUInt32 &&& Int32.toUInt32 31)).toInt32) &&& 1431655765)) &&& 858993459) + ((((x0 - (((x0.toUInt32 >>> ((1 : Int32).toUInt32 &&& Int32.toUInt32 31)).toInt32) &&& 1431655765)).toUInt32 >>> ((2 : Int32).toUInt32 &&& Int32.toUInt32 31)).toInt32) &&& 858993459)).toUInt32 >>> ((4 : Int32).toUInt32 &&& Int32.toUInt32 31)).toInt32)) &&& 252645135).toUInt32 >>> ((8 : Int32).toUInt32 &&& Int32.toUInt32 31)).toInt32)) + ((((((((x0 - (((x0.toUInt32 >>> ((1 : Int32).toUInt32 &&& Int32.toUInt32 31)).toInt32) &&& 1431655765)) &&& 858993459) + ((((x0 - (((x0.toUInt32 >>> ((1 : Int32).toUInt32 &&& Int32.toUInt32 31)).toInt32) &&& 1431655765)).toUInt32 >>> ((2 : Int32).toUInt32 &&& Int32.toUInt32 31)).toInt32) &&& 858993459)) + (((((x0 - (((x0.toUInt32 >>> ((1 : Int32).toUInt32 &&& Int32.toUInt32 31)).toInt32) &&& 1431655765)) &&& 858993459) + ((((x0 - (((x0.toUInt32 >>> ((1 : Int32).toUInt32 &&& Int32.toUInt32 31)).toInt32) &&& 1431655765)).toUInt32 >>> ((2 : Int32).toUInt32 &&& Int32.toUInt32 31)).toInt32) &&& 858993459)).toUInt32 >>> ((4 : Int32).toUInt32 &&& Int32.toUInt32 31)).toInt32)) &&& 252645135) + (((((((x0 - (((x0.toUInt32 >>> ((1 : Int32).toUInt32 &&& Int32.toUInt32 31)).toInt32) &&& 1431655765)) &&& 858993459) + ((((x0 - (((x0.toUInt32 >>> ((1 : Int32).toUInt32 &&& Int32.toUInt32 31)).toInt32) &&& 1431655765)).toUInt32 >>> ((2 : Int32).toUInt32 &&& Int32.toUInt32 31)).toInt32) &&& 858993459)) + (((((x0 - (((x0.toUInt32 >>> ((1 : Int32).toUInt32 &&& Int32.toUInt32 31)).toInt32) &&& 1431655765)) &&& 858993459) + ((((x0 - (((x0.toUInt32 >>> ((1 : Int32).toUInt32 &&& Int32.toUInt32 31)).toInt32) &&& 1431655765)).toUInt32 >>> ((2 : Int32).toUInt32 &&& Int32.toUInt32 31)).toInt32) &&& 858993459)).toUInt32 >>> ((4 : Int32).toUInt32 &&& Int32.toUInt32 31)).toInt32)) &&& 252645135).toUInt32 >>> ((8 : Int32).toUInt32 &&& Int32.toUInt32 31)).toInt32)).toUInt32 >>> ((16 : Int32).toUInt32 &&& Int32.toUInt32 31)).toInt32)) &&& 63) hx hb hr (fun t ht hW => ⟨((((((((x0 - (((x0.toUInt32 >>> ((1 : Int32).toUInt32 &&& Int32.toUInt32 31)).toInt32) &&& 1431655765)) &&& 858993459) + ((((x0 - (((x0.toUInt32 >>> ((1 : Int32).toUInt32 &&& Int32.toUInt32 31)).toInt32) &&& 1431655765)).toUInt32 >>> ((2 : Int32).toUInt32 &&& Int32.toUInt32 31)).toInt32) &&& 858993459)) + (((((x0 - (((x0.toUInt32 >>> ((1 : Int32).toUInt32 &&& Int32.toUInt32 31)).toInt32) &&& 1431655765)) &&& 858993459) + ((((x0 - (((x0.toUInt32 >>> ((1 : Int32).toUInt32 &&& Int32.toUInt32 31)).toInt32) &&& 1431655765)).toUInt32 >>> ((2 : Int32).toUInt32 &&& Int32.toUInt32 31)).toInt32) &&& 858993459)).toUInt32 >>> ((4 : Int32).toUInt32 &&& Int32.toUInt32 31)).toInt32)) &&& 252645135) + (((((((x0 - (((x0.toUInt32 >>> ((1 : Int32).toUInt32 &&& Int32.toUInt32 31)).toInt32) &&& 1431655765)) &&& 858993459) + ((((x0 - (((x0.toUInt32 >>> ((1 : Int32).toUInt32 &&& Int32.toUInt32 31)).toInt32) &&& 1431655765)).toUInt32 >>> ((2 : Int32).toUInt32 &&& Int32.toUInt32 31)).toInt32) &&& 858993459)) + (((((x0 - (((x0.toUInt32 >>> ((1 : Int32).toUInt32 &&& Int32.toUInt32 31)).toInt32) &&& 1431655765)) &&& 858993459) + ((((x0 - (((x0.toUInt32 >>> ((1 : Int32).toUInt32 &&& Int32.toUInt32 31)).toInt32) &&& 1431655765)).toUInt32 >>> ((2 : Int32).toUInt32 &&& Int32.toUInt32 31)).toInt32) &&& 858993459)).toUInt32 >>> ((4 : Int32).toUInt32 &&& Int32.toUInt32 31)).toInt32)) &&& 252645135).toUInt32 >>> ((8 : Int32).toUInt32 &&& Int32.toUInt32 31)).toInt32)) + ((((((((x0 - (((x0.toUInt32 >>> ((1 : Int32).toUInt32 &&& Int32.toUInt32 31)).toInt32) &&& 1431655765)) &&& 858993459) + ((((x0 - (((x0.toUInt32 >>> ((1 : Int32).toUInt32 &&& Int32.toUInt32 31)).toInt32) &&& 1431655765)).toUInt32 >>> ((2 : Int32).toUInt32 &&& Int32.toUInt32 31)).toInt32) &&& 858993459)) + (((((x0 - (((x0.toUInt32 >>> ((1 : Int32).toUInt32 &&& Int32.toUInt32 31)).toInt32) &&& 1431655765)) &&& 858993459) + ((((x0 - (((x0.toUInt32 >>> ((1 : Int32).toUInt32 &&& Int32.toUInt32 31)).toInt32) &&& 1431655765)).toUInt32 >>> ((2 : Int32).toUInt32 &&& Int32.toUInt32 31)).toInt32) &&& 858993459)).toUInt32 >>> ((4 : Int32).toUInt32 &&& Int32.toUInt32 31)).toInt32)) &&& 252645135) + (((((((x0 - (((x0.toUInt32 >>> ((1 : Int32).toUInt32 &&& Int32.toUInt32 31)).toInt32) &&& 1431655765)) &&& 858993459) + ((((x0 - (((x0.toUInt32 >>> ((1 : Int32).toUInt32 &&& Int32.toUInt32 31)).toInt32) &&& 1431655765)).toUInt32 >>> ((2 : Int32).toUInt32 &&& Int32.toUInt32 31)).toInt32) &&& 858993459)) + (((((x0 - (((x0.toUInt32 >>> ((1 : Int32).toUInt32 &&& Int32.toUInt32 31)).toInt32) &&& 1431655765)) &&& 858993459) + ((((x0 - (((x0.toUInt32 >>> ((1 : Int32).toUInt32 &&& Int32.toUInt32 31)).toInt32) &&& 1431655765)).toUInt32 >>> ((2 : Int32).toUInt32 &&& Int32.toUInt32 31)).toInt32) &&& 858993459)).toUInt32 >>> ((4 : Int32).toUInt32 &&& Int32.toUInt32 31)).toInt32)) &&& 252645135).toUInt32 >>> ((8 : Int32).toUInt32 &&& Int32.toUInt32 31)).toInt32)).toUInt32 >>> ((16 : Int32).toUInt32 &&& Int32.toUInt32 31)).toInt32)) &&& 63), rfl, rfl, ht⟩) (fun _ h => nomatch h) dJ6_bitCount_52
set_option maxHeartbeats 4000000 in
set_option maxRecDepth 100000 in
theorem kX1_haveRoom (l : Launch) (dC : Nat → ClassId) (dI : Nat → Nat → Nat) (g : cG) (h : Nat → Nat) (u : cS) : Met l yX1_haveRoom wsX1_haveRoom ({ frames := 0, cells := 0, slots := 0, locals := 0 }) (va_Pc [.ref (h 1)] (fun U => va_P (dC, dI) vwCl (cw g h u) U.heap ∧ va_K (dC, dI) vwCl (cTys g) U)) (vp_Si (fun r => r = fX1_haveRoom u)) 0 0 (fun _ => False) := by
  refine Met.ofW (cc := cX1_haveRoom) (maxL := 1) (ret := (some .boolean)) (by decide) rfl ?_
  intro p e s m args below meth c s₁ B hml hv
  obtain ⟨rfl, hP, hK⟩ := hv
  have hx := B.exec
  have hb := B.bytes
  have hr := B.returns
  have hts := atoms_spec (ws := wsX1_haveRoom) B.pre
  have hown : s.vm.findClass RX1 = some m.cls := findClass_of_methodNamed B.named
  have hlocks := B.notSynchronized
  have hS : va_S (fun _ => False) s.heap s.heap [] := va_S.rf
  have hl := lv_entry ([.ref (h 1)]) (n := 1) (Nat.le_of_ble_eq_true rfl)
  rw [lg_entry_eq]
  generalize (lg_sl ([.ref (h 1)]) ++ List.replicate (1 - (lg_sl ([.ref (h 1)])).length) Slot.unset).toArray = ls at hl ⊢
  have hl : lv_has ls 1 [(0, .ref (h 1))] := hl
  refine lv_aload_n hx hb dX1_haveRoom_0 rfl (lv_at hl 0 rfl) ?_
  refine va_get (D := (dC, dI)) (C := RX1) (T := TX1) (N := 9) (v := .int (k_lmade u)) hx hb hts (fi_X1 _) hown hK hP 1 (cw_at1 _ _ _) rfl 8 (by decide) (hts _ (List.mem_cons_of_mem _ wd_15)) (fun _ h9 => h9) rfl dX1_haveRoom_1 ?_
  refine lv_bipush (v := 40) hx hb dX1_haveRoom_4 (by decide) ?_
  refine lv_icmp_ge (tgt := 13) hx hb dX1_haveRoom_6 (by decide) (fun c_1 => ?_) (fun c_1 => ?_)
  · skip
    have t_2 : 40 ≤ (k_lmade u).toInt := i_le c_1 (by decide) rfl
    refine lv_iconst (v := 0) hx hb dX1_haveRoom_13 (by decide) ?_
    exact W.zret (v := 0) hx hb hr rfl (fun t ht hW => ⟨0, rfl, (by unfold fX1_haveRoom; rw [if_pos c_1]), ht⟩) (fun _ h => nomatch h) dX1_haveRoom_14
  · skip
    have t_3 : (k_lmade u).toInt < 40 := i_nle c_1 (by decide) rfl
    refine lv_iconst (v := 1) hx hb dX1_haveRoom_9 (by decide) ?_
    refine lv_goto (tgt := 14) hx hb dX1_haveRoom_10 (by decide) ?_
    exact W.zret (v := 1) hx hb hr rfl (fun t ht hW => ⟨1, rfl, (by unfold fX1_haveRoom; rw [if_neg c_1]), ht⟩) (fun _ h => nomatch h) dX1_haveRoom_14
set_option maxHeartbeats 4000000 in
set_option maxRecDepth 100000 in
theorem kX1_areAlike (l : Launch) (dC : Nat → ClassId) (dI : Nat → Nat → Nat) (g : cG) (h : Nat → Nat) (u : cS) (x1 : Int32) (x2 : Int32) (h1 : 0 ≤ x1.toInt ∧ x1.toInt ≤ 40) (h2 : 0 ≤ x2.toInt ∧ x2.toInt ≤ 40) : Met l yX1_areAlike wsX1_areAlike ({ frames := 0, cells := 0, slots := 0, locals := 0 }) (va_Pc [.ref (h 1), .int x1, .int x2] (fun U => va_P (dC, dI) vwCl (cw g h u) U.heap ∧ va_K (dC, dI) vwCl (cTys g) U)) (vp_Si (fun r => r = fX1_areAlike u x1 x2)) 0 0 (fun _ => False) := by
  refine Met.ofW (cc := cX1_areAlike) (maxL := 3) (ret := (some .boolean)) (by decide) rfl ?_
  intro p e s m args below meth c s₁ B hml hv
  obtain ⟨rfl, hP, hK⟩ := hv
  have hx := B.exec
  have hb := B.bytes
  have hr := B.returns
  have hts := atoms_spec (ws := wsX1_areAlike) B.pre
  have hown : s.vm.findClass RX1 = some m.cls := findClass_of_methodNamed B.named
  have hlocks := B.notSynchronized
  have hS : va_S (fun _ => False) s.heap s.heap [] := va_S.rf
  have hl := lv_entry ([.ref (h 1), .int x1, .int x2]) (n := 3) (Nat.le_of_ble_eq_true rfl)
  rw [lg_entry_eq]
  generalize (lg_sl ([.ref (h 1), .int x1, .int x2]) ++ List.replicate (3 - (lg_sl ([.ref (h 1), .int x1, .int x2])).length) Slot.unset).toArray = ls at hl ⊢
  have hl : lv_has ls 3 [(0, .ref (h 1)), (1, .int x1), (2, .int x2)] := hl
  refine lv_aload_n hx hb dX1_areAlike_0 rfl (lv_at hl 0 rfl) ?_
  refine va_get (D := (dC, dI)) (C := RX1) (T := TX1) (N := 9) (v := .ref (h 8)) hx hb hts (fi_X1 _) hown hK hP 1 (cw_at1 _ _ _) rfl 0 (by decide) (hts _ (List.mem_cons_of_mem _ wd_16)) (fun _ h9 => h9) rfl dX1_areAlike_1 ?_
  refine lv_iload_n hx hb dX1_areAlike_4 rfl (lv_at hl 1 rfl) ?_
  refine va_iald (f := k_goods u) hx hb hK hP 8 0 (cw_at8 _ _ _) rfl (vp_in_iff.mpr (by omega)) dX1_areAlike_5 ?_
  refine lv_aload_n hx hb dX1_areAlike_6 rfl (lv_at hl 0 rfl) ?_
  refine va_get (D := (dC, dI)) (C := RX1) (T := TX1) (N := 9) (v := .ref (h 8)) hx hb hts (fi_X1 _) hown hK hP 1 (cw_at1 _ _ _) rfl 0 (by decide) (hts _ (List.mem_cons_of_mem _ wd_16)) (fun _ h9 => h9) rfl dX1_areAlike_7 ?_
  refine lv_iload_n hx hb dX1_areAlike_10 rfl (lv_at hl 2 rfl) ?_
  refine va_iald (f := k_goods u) hx hb hK hP 8 0 (cw_at8 _ _ _) rfl (vp_in_iff.mpr (by omega)) dX1_areAlike_11 ?_
  refine lv_icmp_ne (tgt := 79) hx hb dX1_areAlike_12 (by decide) (fun c_1 => ?_) (fun c_1 => ?_)
  · skip
    have t_2 : (k_goods u x1.toNatClampNeg).toInt ≠ (k_goods u x2.toNatClampNeg).toInt := i_ne c_1 rfl rfl
    refine lv_iconst (v := 0) hx hb dX1_areAlike_79 (by decide) ?_
    exact W.zret (v := 0) hx hb hr rfl (fun t ht hW => ⟨0, rfl, (by unfold fX1_areAlike; rw [if_neg c_1]), ht⟩) (fun _ h => nomatch h) dX1_areAlike_80
  · skip
    have t_3 : (k_goods u x1.toNatClampNeg).toInt = (k_goods u x2.toNatClampNeg).toInt := i_eq c_1 rfl rfl
    refine lv_aload_n hx hb dX1_areAlike_15 rfl (lv_at hl 0 rfl) ?_
    refine va_get (D := (dC, dI)) (C := RX1) (T := TX1) (N := 9) (v := .ref (h 9)) hx hb hts (fi_X1 _) hown hK hP 1 (cw_at1 _ _ _) rfl 1 (by decide) (hts _ (List.mem_cons_of_mem _ wd_17)) (fun _ h9 => h9) rfl dX1_areAlike_16 ?_
    refine lv_iload_n hx hb dX1_areAlike_19 rfl (lv_at hl 1 rfl) ?_
    refine va_iald (f := k_owners u) hx hb hK hP 9 0 (cw_at9 _ _ _) rfl (vp_in_iff.mpr (by omega)) dX1_areAlike_20 ?_
    refine lv_aload_n hx hb dX1_areAlike_21 rfl (lv_at hl 0 rfl) ?_
    refine va_get (D := (dC, dI)) (C := RX1) (T := TX1) (N := 9) (v := .ref (h 9)) hx hb hts (fi_X1 _) hown hK hP 1 (cw_at1 _ _ _) rfl 1 (by decide) (hts _ (List.mem_cons_of_mem _ wd_17)) (fun _ h9 => h9) rfl dX1_areAlike_22 ?_
    refine lv_iload_n hx hb dX1_areAlike_25 rfl (lv_at hl 2 rfl) ?_
    refine va_iald (f := k_owners u) hx hb hK hP 9 0 (cw_at9 _ _ _) rfl (vp_in_iff.mpr (by omega)) dX1_areAlike_26 ?_
    refine lv_icmp_ne (tgt := 79) hx hb dX1_areAlike_27 (by decide) (fun c_4 => ?_) (fun c_4 => ?_)
    · skip
      have t_5 : (k_owners u x1.toNatClampNeg).toInt ≠ (k_owners u x2.toNatClampNeg).toInt := i_ne c_4 rfl rfl
      refine lv_iconst (v := 0) hx hb dX1_areAlike_79 (by decide) ?_
      exact W.zret (v := 0) hx hb hr rfl (fun t ht hW => ⟨0, rfl, (by unfold fX1_areAlike; rw [if_pos c_1, if_neg c_4]), ht⟩) (fun _ h => nomatch h) dX1_areAlike_80
    · skip
      have t_6 : (k_owners u x1.toNatClampNeg).toInt = (k_owners u x2.toNatClampNeg).toInt := i_eq c_4 rfl rfl
      refine lv_aload_n hx hb dX1_areAlike_30 rfl (lv_at hl 0 rfl) ?_
      refine va_get (D := (dC, dI)) (C := RX1) (T := TX1) (N := 9) (v := .ref (h 10)) hx hb hts (fi_X1 _) hown hK hP 1 (cw_at1 _ _ _) rfl 2 (by decide) (hts _ (List.mem_cons_of_mem _ wd_18)) (fun _ h9 => h9) rfl dX1_areAlike_31 ?_
      refine lv_iload_n hx hb dX1_areAlike_34 rfl (lv_at hl 1 rfl) ?_
      refine va_iald (f := k_last u) hx hb hK hP 10 0 (cw_at10 _ _ _) rfl (vp_in_iff.mpr (by omega)) dX1_areAlike_35 ?_
      refine lv_aload_n hx hb dX1_areAlike_36 rfl (lv_at hl 0 rfl) ?_
      refine va_get (D := (dC, dI)) (C := RX1) (T := TX1) (N := 9) (v := .ref (h 10)) hx hb hts (fi_X1 _) hown hK hP 1 (cw_at1 _ _ _) rfl 2 (by decide) (hts _ (List.mem_cons_of_mem _ wd_18)) (fun _ h9 => h9) rfl dX1_areAlike_37 ?_
      refine lv_iload_n hx hb dX1_areAlike_40 rfl (lv_at hl 2 rfl) ?_
      refine va_iald (f := k_last u) hx hb hK hP 10 0 (cw_at10 _ _ _) rfl (vp_in_iff.mpr (by omega)) dX1_areAlike_41 ?_
      refine lv_icmp_ne (tgt := 79) hx hb dX1_areAlike_42 (by decide) (fun c_7 => ?_) (fun c_7 => ?_)
      · skip
        have t_8 : (k_last u x1.toNatClampNeg).toInt ≠ (k_last u x2.toNatClampNeg).toInt := i_ne c_7 rfl rfl
        refine lv_iconst (v := 0) hx hb dX1_areAlike_79 (by decide) ?_
        exact W.zret (v := 0) hx hb hr rfl (fun t ht hW => ⟨0, rfl, (by unfold fX1_areAlike; rw [if_pos c_1, if_pos c_4, if_neg c_7]), ht⟩) (fun _ h => nomatch h) dX1_areAlike_80
      · skip
        have t_9 : (k_last u x1.toNatClampNeg).toInt = (k_last u x2.toNatClampNeg).toInt := i_eq c_7 rfl rfl
        refine lv_aload_n hx hb dX1_areAlike_45 rfl (lv_at hl 0 rfl) ?_
        refine va_get (D := (dC, dI)) (C := RX1) (T := TX1) (N := 9) (v := .ref (h 13)) hx hb hts (fi_X1 _) hown hK hP 1 (cw_at1 _ _ _) rfl 5 (by decide) (hts _ (List.mem_cons_of_mem _ wd_19)) (fun _ h9 => h9) rfl dX1_areAlike_46 ?_
        refine lv_iload_n hx hb dX1_areAlike_49 rfl (lv_at hl 1 rfl) ?_
        refine va_iald (f := k_reas u) hx hb hK hP 13 0 (cw_at13 _ _ _) rfl (vp_in_iff.mpr (by omega)) dX1_areAlike_50 ?_
        refine lv_aload_n hx hb dX1_areAlike_51 rfl (lv_at hl 0 rfl) ?_
        refine va_get (D := (dC, dI)) (C := RX1) (T := TX1) (N := 9) (v := .ref (h 13)) hx hb hts (fi_X1 _) hown hK hP 1 (cw_at1 _ _ _) rfl 5 (by decide) (hts _ (List.mem_cons_of_mem _ wd_19)) (fun _ h9 => h9) rfl dX1_areAlike_52 ?_
        refine lv_iload_n hx hb dX1_areAlike_55 rfl (lv_at hl 2 rfl) ?_
        refine va_iald (f := k_reas u) hx hb hK hP 13 0 (cw_at13 _ _ _) rfl (vp_in_iff.mpr (by omega)) dX1_areAlike_56 ?_
        refine lv_icmp_ne (tgt := 79) hx hb dX1_areAlike_57 (by decide) (fun c_10 => ?_) (fun c_10 => ?_)
        · skip
          have t_11 : (k_reas u x1.toNatClampNeg).toInt ≠ (k_reas u x2.toNatClampNeg).toInt := i_ne c_10 rfl rfl
          refine lv_iconst (v := 0) hx hb dX1_areAlike_79 (by decide) ?_
          exact W.zret (v := 0) hx hb hr rfl (fun t ht hW => ⟨0, rfl, (by unfold fX1_areAlike; rw [if_pos c_1, if_pos c_4, if_pos c_7, if_neg c_10]), ht⟩) (fun _ h => nomatch h) dX1_areAlike_80
        · skip
          have t_12 : (k_reas u x1.toNatClampNeg).toInt = (k_reas u x2.toNatClampNeg).toInt := i_eq c_10 rfl rfl
          refine lv_aload_n hx hb dX1_areAlike_60 rfl (lv_at hl 0 rfl) ?_
          refine va_get (D := (dC, dI)) (C := RX1) (T := TX1) (N := 9) (v := .ref (h 14)) hx hb hts (fi_X1 _) hown hK hP 1 (cw_at1 _ _ _) rfl 6 (by decide) (hts _ (List.mem_cons_of_mem _ wd_20)) (fun _ h9 => h9) rfl dX1_areAlike_61 ?_
          refine lv_iload_n hx hb dX1_areAlike_64 rfl (lv_at hl 1 rfl) ?_
          refine va_zald (f := k_quar u) hx hb hK hP 14 1 (cw_at14 _ _ _) rfl (vp_in_iff.mpr (by omega)) dX1_areAlike_65 ?_
          refine lv_aload_n hx hb dX1_areAlike_66 rfl (lv_at hl 0 rfl) ?_
          refine va_get (D := (dC, dI)) (C := RX1) (T := TX1) (N := 9) (v := .ref (h 14)) hx hb hts (fi_X1 _) hown hK hP 1 (cw_at1 _ _ _) rfl 6 (by decide) (hts _ (List.mem_cons_of_mem _ wd_20)) (fun _ h9 => h9) rfl dX1_areAlike_67 ?_
          refine lv_iload_n hx hb dX1_areAlike_70 rfl (lv_at hl 2 rfl) ?_
          refine va_zald (f := k_quar u) hx hb hK hP 14 1 (cw_at14 _ _ _) rfl (vp_in_iff.mpr (by omega)) dX1_areAlike_71 ?_
          refine lv_icmp_ne (tgt := 79) hx hb dX1_areAlike_72 (by decide) (fun c_13 => ?_) (fun c_13 => ?_)
          · skip
            have t_14 : (k_quar u x1.toNatClampNeg).toInt ≠ (k_quar u x2.toNatClampNeg).toInt := i_ne c_13 rfl rfl
            refine lv_iconst (v := 0) hx hb dX1_areAlike_79 (by decide) ?_
            exact W.zret (v := 0) hx hb hr rfl (fun t ht hW => ⟨0, rfl, (by unfold fX1_areAlike; rw [if_pos c_1, if_pos c_4, if_pos c_7, if_pos c_10, if_neg c_13]), ht⟩) (fun _ h => nomatch h) dX1_areAlike_80
          · skip
            have t_15 : (k_quar u x1.toNatClampNeg).toInt = (k_quar u x2.toNatClampNeg).toInt := i_eq c_13 rfl rfl
            refine lv_iconst (v := 1) hx hb dX1_areAlike_75 (by decide) ?_
            refine lv_goto (tgt := 80) hx hb dX1_areAlike_76 (by decide) ?_
            exact W.zret (v := 1) hx hb hr rfl (fun t ht hW => ⟨1, rfl, (by unfold fX1_areAlike; rw [if_pos c_1, if_pos c_4, if_pos c_7, if_pos c_10, if_pos c_13]), ht⟩) (fun _ h => nomatch h) dX1_areAlike_80
set_option maxHeartbeats 4000000 in
set_option maxRecDepth 100000 in
theorem kX1_lieTooFarApart (l : Launch) (dC : Nat → ClassId) (dI : Nat → Nat → Nat) (g : cG) (h : Nat → Nat) (u : cS) (x1 : Int32) (x2 : Int32) (x3 : Int32) (h1 : 0 ≤ x1.toInt ∧ x1.toInt ≤ 40) (h2 : 0 ≤ x2.toInt ∧ x2.toInt ≤ 40) : Met l yX1_lieTooFarApart wsX1_lieTooFarApart ({ frames := 1, cells := 0, slots := 0, locals := 21 }) (va_Pc [.ref (h 1), .int x1, .int x2, .int x3] (fun U => va_P (dC, dI) vwCl (cw g h u) U.heap ∧ va_K (dC, dI) vwCl (cTys g) U)) (vp_Si (fun r => r = fX1_lieTooFarApart u x1 x2 x3)) 0 0 (fun _ => False) := by
  refine Met.ofW (cc := cX1_lieTooFarApart) (maxL := 4) (ret := (some .boolean)) (by decide) rfl ?_
  intro p e s m args below meth c s₁ B hml hv
  obtain ⟨rfl, hP, hK⟩ := hv
  have hx := B.exec
  have hb := B.bytes
  have hr := B.returns
  have hts := atoms_spec (ws := wsX1_lieTooFarApart) B.pre
  have hown : s.vm.findClass RX1 = some m.cls := findClass_of_methodNamed B.named
  have hlocks := B.notSynchronized
  have hS : va_S (fun _ => False) s.heap s.heap [] := va_S.rf
  have hl := lv_entry ([.ref (h 1), .int x1, .int x2, .int x3]) (n := 4) (Nat.le_of_ble_eq_true rfl)
  rw [lg_entry_eq]
  generalize (lg_sl ([.ref (h 1), .int x1, .int x2, .int x3]) ++ List.replicate (4 - (lg_sl ([.ref (h 1), .int x1, .int x2, .int x3])).length) Slot.unset).toArray = ls at hl ⊢
  have hl : lv_has ls 4 [(0, .ref (h 1)), (1, .int x1), (2, .int x2), (3, .int x3)] := hl
  refine lv_aload_n hx hb dX1_lieTooFarApart_0 rfl (lv_at hl 0 rfl) ?_
  refine va_get (D := (dC, dI)) (C := RX1) (T := TX1) (N := 9) (v := .ref (h 8)) hx hb hts (fi_X1 _) hown hK hP 1 (cw_at1 _ _ _) rfl 0 (by decide) (hts _ (List.mem_cons_of_mem _ wd_16)) (fun _ h9 => h9) rfl dX1_lieTooFarApart_1 ?_
  refine lv_iload_n hx hb dX1_lieTooFarApart_4 rfl (lv_at hl 1 rfl) ?_
  refine va_iald (f := k_goods u) hx hb hK hP 8 0 (cw_at8 _ _ _) rfl (vp_in_iff.mpr (by omega)) dX1_lieTooFarApart_5 ?_
  refine lv_aload_n hx hb dX1_lieTooFarApart_6 rfl (lv_at hl 0 rfl) ?_
  refine va_get (D := (dC, dI)) (C := RX1) (T := TX1) (N := 9) (v := .ref (h 8)) hx hb hts (fi_X1 _) hown hK hP 1 (cw_at1 _ _ _) rfl 0 (by decide) (hts _ (List.mem_cons_of_mem _ wd_16)) (fun _ h9 => h9) rfl dX1_lieTooFarApart_7 ?_
  refine lv_iload_n hx hb dX1_lieTooFarApart_10 rfl (lv_at hl 2 rfl) ?_
  refine va_iald (f := k_goods u) hx hb hK hP 8 0 (cw_at8 _ _ _) rfl (vp_in_iff.mpr (by omega)) dX1_lieTooFarApart_11 ?_
  refine lv_icmp_ne (tgt := 54) hx hb dX1_lieTooFarApart_12 (by decide) (fun c_1 => ?_) (fun c_1 => ?_)
  · skip
    have t_2 : (k_goods u x1.toNatClampNeg).toInt ≠ (k_goods u x2.toNatClampNeg).toInt := i_ne c_1 rfl rfl
    refine lv_iconst (v := 0) hx hb dX1_lieTooFarApart_54 (by decide) ?_
    exact W.zret (v := 0) hx hb hr rfl (fun t ht hW => ⟨0, rfl, (by unfold fX1_lieTooFarApart; rw [if_neg c_1]), ht⟩) (fun _ h => nomatch h) dX1_lieTooFarApart_55
  · skip
    have t_3 : (k_goods u x1.toNatClampNeg).toInt = (k_goods u x2.toNatClampNeg).toInt := i_eq c_1 rfl rfl
    refine lv_aload_n hx hb dX1_lieTooFarApart_15 rfl (lv_at hl 0 rfl) ?_
    refine va_get (D := (dC, dI)) (C := RX1) (T := TX1) (N := 9) (v := .ref (h 9)) hx hb hts (fi_X1 _) hown hK hP 1 (cw_at1 _ _ _) rfl 1 (by decide) (hts _ (List.mem_cons_of_mem _ wd_17)) (fun _ h9 => h9) rfl dX1_lieTooFarApart_16 ?_
    refine lv_iload_n hx hb dX1_lieTooFarApart_19 rfl (lv_at hl 1 rfl) ?_
    refine va_iald (f := k_owners u) hx hb hK hP 9 0 (cw_at9 _ _ _) rfl (vp_in_iff.mpr (by omega)) dX1_lieTooFarApart_20 ?_
    refine lv_aload_n hx hb dX1_lieTooFarApart_21 rfl (lv_at hl 0 rfl) ?_
    refine va_get (D := (dC, dI)) (C := RX1) (T := TX1) (N := 9) (v := .ref (h 9)) hx hb hts (fi_X1 _) hown hK hP 1 (cw_at1 _ _ _) rfl 1 (by decide) (hts _ (List.mem_cons_of_mem _ wd_17)) (fun _ h9 => h9) rfl dX1_lieTooFarApart_22 ?_
    refine lv_iload_n hx hb dX1_lieTooFarApart_25 rfl (lv_at hl 2 rfl) ?_
    refine va_iald (f := k_owners u) hx hb hK hP 9 0 (cw_at9 _ _ _) rfl (vp_in_iff.mpr (by omega)) dX1_lieTooFarApart_26 ?_
    refine lv_icmp_ne (tgt := 54) hx hb dX1_lieTooFarApart_27 (by decide) (fun c_4 => ?_) (fun c_4 => ?_)
    · skip
      have t_5 : (k_owners u x1.toNatClampNeg).toInt ≠ (k_owners u x2.toNatClampNeg).toInt := i_ne c_4 rfl rfl
      refine lv_iconst (v := 0) hx hb dX1_lieTooFarApart_54 (by decide) ?_
      exact W.zret (v := 0) hx hb hr rfl (fun t ht hW => ⟨0, rfl, (by unfold fX1_lieTooFarApart; rw [if_pos c_1, if_neg c_4]), ht⟩) (fun _ h => nomatch h) dX1_lieTooFarApart_55
    · skip
      have t_6 : (k_owners u x1.toNatClampNeg).toInt = (k_owners u x2.toNatClampNeg).toInt := i_eq c_4 rfl rfl
      refine lv_aload_n hx hb dX1_lieTooFarApart_30 rfl (lv_at hl 0 rfl) ?_
      refine va_get (D := (dC, dI)) (C := RX1) (T := TX1) (N := 9) (v := .ref (h 10)) hx hb hts (fi_X1 _) hown hK hP 1 (cw_at1 _ _ _) rfl 2 (by decide) (hts _ (List.mem_cons_of_mem _ wd_18)) (fun _ h9 => h9) rfl dX1_lieTooFarApart_31 ?_
      refine lv_iload_n hx hb dX1_lieTooFarApart_34 rfl (lv_at hl 1 rfl) ?_
      refine va_iald (f := k_last u) hx hb hK hP 10 0 (cw_at10 _ _ _) rfl (vp_in_iff.mpr (by omega)) dX1_lieTooFarApart_35 ?_
      refine lv_aload_n hx hb dX1_lieTooFarApart_36 rfl (lv_at hl 0 rfl) ?_
      refine va_get (D := (dC, dI)) (C := RX1) (T := TX1) (N := 9) (v := .ref (h 10)) hx hb hts (fi_X1 _) hown hK hP 1 (cw_at1 _ _ _) rfl 2 (by decide) (hts _ (List.mem_cons_of_mem _ wd_18)) (fun _ h9 => h9) rfl dX1_lieTooFarApart_37 ?_
      refine lv_iload_n hx hb dX1_lieTooFarApart_40 rfl (lv_at hl 2 rfl) ?_
      refine va_iald (f := k_last u) hx hb hK hP 10 0 (cw_at10 _ _ _) rfl (vp_in_iff.mpr (by omega)) dX1_lieTooFarApart_41 ?_
      refine lv_isub hx hb dX1_lieTooFarApart_42 ?_
      refine va_mabs hx hb (hml.trans hl.1.symm) hown (hts _ (List.mem_cons_of_mem _ wd_21)) (hts _ (List.mem_cons_of_mem _ wd_22)) (hts _ (List.mem_cons_of_mem _ wd_23)) (hts _ (List.mem_cons_of_mem _ wcabs)) (Nat.le_of_ble_eq_true rfl) (Nat.le_of_ble_eq_true rfl) (Nat.le_of_ble_eq_true rfl) (Nat.le_of_ble_eq_true rfl) dX1_lieTooFarApart_43 ?_
      refine lv_iload_n hx hb dX1_lieTooFarApart_46 rfl (lv_at hl 3 rfl) ?_
      refine lv_icmp_le (tgt := 54) hx hb dX1_lieTooFarApart_47 (by decide) (fun c_7 => ?_) (fun c_7 => ?_)
      · skip
        have t_8 : (if 0 ≤ (k_last u x1.toNatClampNeg) - (k_last u x2.toNatClampNeg) then (k_last u x1.toNatClampNeg) - (k_last u x2.toNatClampNeg) else 0 - ((k_last u x1.toNatClampNeg) - (k_last u x2.toNatClampNeg))).toInt ≤ x3.toInt := i_le c_7 rfl rfl
        refine lv_iconst (v := 0) hx hb dX1_lieTooFarApart_54 (by decide) ?_
        exact W.zret (v := 0) hx hb hr rfl (fun t ht hW => ⟨0, rfl, (by unfold fX1_lieTooFarApart; rw [if_pos c_1, if_pos c_4, if_pos c_7]), ht⟩) (fun _ h => nomatch h) dX1_lieTooFarApart_55
      · skip
        have t_9 : x3.toInt < (if 0 ≤ (k_last u x1.toNatClampNeg) - (k_last u x2.toNatClampNeg) then (k_last u x1.toNatClampNeg) - (k_last u x2.toNatClampNeg) else 0 - ((k_last u x1.toNatClampNeg) - (k_last u x2.toNatClampNeg))).toInt := i_nle c_7 rfl rfl
        refine lv_iconst (v := 1) hx hb dX1_lieTooFarApart_50 (by decide) ?_
        refine lv_goto (tgt := 55) hx hb dX1_lieTooFarApart_51 (by decide) ?_
        exact W.zret (v := 1) hx hb hr rfl (fun t ht hW => ⟨1, rfl, (by unfold fX1_lieTooFarApart; rw [if_pos c_1, if_pos c_4, if_neg c_7]), ht⟩) (fun _ h => nomatch h) dX1_lieTooFarApart_55
set_option maxHeartbeats 4000000 in
set_option maxRecDepth 100000 in
theorem kX1_mayBeTaken (l : Launch) (dC : Nat → ClassId) (dI : Nat → Nat → Nat) (g : cG) (h : Nat → Nat) (u : cS) (x1 : Int32) (h1 : 0 ≤ x1.toInt ∧ x1.toInt ≤ 40) : Met l yX1_mayBeTaken wsX1_mayBeTaken ({ frames := 0, cells := 0, slots := 0, locals := 0 }) (va_Pc [.ref (h 1), .int x1] (fun U => va_P (dC, dI) vwCl (cw g h u) U.heap ∧ va_K (dC, dI) vwCl (cTys g) U)) (vp_Si (fun r => r = fX1_mayBeTaken u x1)) 0 0 (fun _ => False) := by
  refine Met.ofW (cc := cX1_mayBeTaken) (maxL := 2) (ret := (some .boolean)) (by decide) rfl ?_
  intro p e s m args below meth c s₁ B hml hv
  obtain ⟨rfl, hP, hK⟩ := hv
  have hx := B.exec
  have hb := B.bytes
  have hr := B.returns
  have hts := atoms_spec (ws := wsX1_mayBeTaken) B.pre
  have hown : s.vm.findClass RX1 = some m.cls := findClass_of_methodNamed B.named
  have hlocks := B.notSynchronized
  have hS : va_S (fun _ => False) s.heap s.heap [] := va_S.rf
  have hl := lv_entry ([.ref (h 1), .int x1]) (n := 2) (Nat.le_of_ble_eq_true rfl)
  rw [lg_entry_eq]
  generalize (lg_sl ([.ref (h 1), .int x1]) ++ List.replicate (2 - (lg_sl ([.ref (h 1), .int x1])).length) Slot.unset).toArray = ls at hl ⊢
  have hl : lv_has ls 2 [(0, .ref (h 1)), (1, .int x1)] := hl
  refine lv_aload_n hx hb dX1_mayBeTaken_0 rfl (lv_at hl 0 rfl) ?_
  refine va_get (D := (dC, dI)) (C := RX1) (T := TX1) (N := 9) (v := .ref (h 12)) hx hb hts (fi_X1 _) hown hK hP 1 (cw_at1 _ _ _) rfl 4 (by decide) (hts _ (List.mem_cons_of_mem _ wd_24)) (fun _ h9 => h9) rfl dX1_mayBeTaken_1 ?_
  refine lv_iload_n hx hb dX1_mayBeTaken_4 rfl (lv_at hl 1 rfl) ?_
  refine va_zald (f := k_open u) hx hb hK hP 12 1 (cw_at12 _ _ _) rfl (vp_in_iff.mpr (by omega)) dX1_mayBeTaken_5 ?_
  refine lv_if_eq (tgt := 31) hx hb dX1_mayBeTaken_6 (by decide) (fun c_1 => ?_) (fun c_1 => ?_)
  · skip
    have t_2 : (k_open u x1.toNatClampNeg).toInt = 0 := i_eq c_1 rfl (by decide)
    refine lv_iconst (v := 0) hx hb dX1_mayBeTaken_31 (by decide) ?_
    exact W.zret (v := 0) hx hb hr rfl (fun t ht hW => ⟨0, rfl, (by unfold fX1_mayBeTaken; rw [if_pos c_1]), ht⟩) (fun _ h => nomatch h) dX1_mayBeTaken_32
  · skip
    have t_3 : (k_open u x1.toNatClampNeg).toInt ≠ 0 := i_ne c_1 rfl (by decide)
    refine lv_aload_n hx hb dX1_mayBeTaken_9 rfl (lv_at hl 0 rfl) ?_
    refine va_get (D := (dC, dI)) (C := RX1) (T := TX1) (N := 9) (v := .ref (h 13)) hx hb hts (fi_X1 _) hown hK hP 1 (cw_at1 _ _ _) rfl 5 (by decide) (hts _ (List.mem_cons_of_mem _ wd_19)) (fun _ h9 => h9) rfl dX1_mayBeTaken_10 ?_
    refine lv_iload_n hx hb dX1_mayBeTaken_13 rfl (lv_at hl 1 rfl) ?_
    refine va_iald (f := k_reas u) hx hb hK hP 13 0 (cw_at13 _ _ _) rfl (vp_in_iff.mpr (by omega)) dX1_mayBeTaken_14 ?_
    refine lv_if_ne (tgt := 31) hx hb dX1_mayBeTaken_15 (by decide) (fun c_4 => ?_) (fun c_4 => ?_)
    · skip
      have t_5 : (k_reas u x1.toNatClampNeg).toInt ≠ 0 := i_ne c_4 rfl (by decide)
      refine lv_iconst (v := 0) hx hb dX1_mayBeTaken_31 (by decide) ?_
      exact W.zret (v := 0) hx hb hr rfl (fun t ht hW => ⟨0, rfl, (by unfold fX1_mayBeTaken; rw [if_neg c_1, if_neg c_4]), ht⟩) (fun _ h => nomatch h) dX1_mayBeTaken_32
    · skip
      have t_6 : (k_reas u x1.toNatClampNeg).toInt = 0 := i_eq c_4 rfl (by decide)
      refine lv_aload_n hx hb dX1_mayBeTaken_18 rfl (lv_at hl 0 rfl) ?_
      refine va_get (D := (dC, dI)) (C := RX1) (T := TX1) (N := 9) (v := .ref (h 14)) hx hb hts (fi_X1 _) hown hK hP 1 (cw_at1 _ _ _) rfl 6 (by decide) (hts _ (List.mem_cons_of_mem _ wd_20)) (fun _ h9 => h9) rfl dX1_mayBeTaken_19 ?_
      refine lv_iload_n hx hb dX1_mayBeTaken_22 rfl (lv_at hl 1 rfl) ?_
      refine va_zald (f := k_quar u) hx hb hK hP 14 1 (cw_at14 _ _ _) rfl (vp_in_iff.mpr (by omega)) dX1_mayBeTaken_23 ?_
      refine lv_if_ne (tgt := 31) hx hb dX1_mayBeTaken_24 (by decide) (fun c_7 => ?_) (fun c_7 => ?_)
      · skip
        have t_8 : (k_quar u x1.toNatClampNeg).toInt ≠ 0 := i_ne c_7 rfl (by decide)
        refine lv_iconst (v := 0) hx hb dX1_mayBeTaken_31 (by decide) ?_
        exact W.zret (v := 0) hx hb hr rfl (fun t ht hW => ⟨0, rfl, (by unfold fX1_mayBeTaken; rw [if_neg c_1, if_pos c_4, if_neg c_7]), ht⟩) (fun _ h => nomatch h) dX1_mayBeTaken_32
      · skip
        have t_9 : (k_quar u x1.toNatClampNeg).toInt = 0 := i_eq c_7 rfl (by decide)
        refine lv_iconst (v := 1) hx hb dX1_mayBeTaken_27 (by decide) ?_
        refine lv_goto (tgt := 32) hx hb dX1_mayBeTaken_28 (by decide) ?_
        exact W.zret (v := 1) hx hb hr rfl (fun t ht hW => ⟨1, rfl, (by unfold fX1_mayBeTaken; rw [if_neg c_1, if_pos c_4, if_pos c_7]), ht⟩) (fun _ h => nomatch h) dX1_mayBeTaken_32
set_option maxHeartbeats 4000000 in
set_option maxRecDepth 100000 in
theorem kX1_mayBeTakenFor (l : Launch) (dC : Nat → ClassId) (dI : Nat → Nat → Nat) (g : cG) (h : Nat → Nat) (u : cS) (x1 : Int32) (x2 : Int32) (x3 : Int32) (h1 : 0 ≤ x1.toInt ∧ x1.toInt ≤ 40) : Met l yX1_mayBeTakenFor wsX1_mayBeTakenFor ({ frames := 1, cells := 0, slots := 0, locals := 21 }) (va_Pc [.ref (h 1), .int x1, .int x2, .int x3] (fun U => va_P (dC, dI) vwCl (cw g h u) U.heap ∧ va_K (dC, dI) vwCl (cTys g) U)) (vp_Si (fun r => r = fX1_mayBeTakenFor u x1 x2 x3)) 0 0 (fun _ => False) := by
  refine Met.ofW (cc := cX1_mayBeTakenFor) (maxL := 4) (ret := (some .boolean)) (by decide) rfl ?_
  intro p e s m args below meth c s₁ B hml hv
  obtain ⟨rfl, hP, hK⟩ := hv
  have hx := B.exec
  have hb := B.bytes
  have hr := B.returns
  have hts := atoms_spec (ws := wsX1_mayBeTakenFor) B.pre
  have hown : s.vm.findClass RX1 = some m.cls := findClass_of_methodNamed B.named
  have hlocks := B.notSynchronized
  have hS : va_S (fun _ => False) s.heap s.heap [] := va_S.rf
  have hl := lv_entry ([.ref (h 1), .int x1, .int x2, .int x3]) (n := 4) (Nat.le_of_ble_eq_true rfl)
  rw [lg_entry_eq]
  generalize (lg_sl ([.ref (h 1), .int x1, .int x2, .int x3]) ++ List.replicate (4 - (lg_sl ([.ref (h 1), .int x1, .int x2, .int x3])).length) Slot.unset).toArray = ls at hl ⊢
  have hl : lv_has ls 4 [(0, .ref (h 1)), (1, .int x1), (2, .int x2), (3, .int x3)] := hl
  refine lv_aload_n hx hb dX1_mayBeTakenFor_0 rfl (lv_at hl 0 rfl) ?_
  refine va_get (D := (dC, dI)) (C := RX1) (T := TX1) (N := 9) (v := .ref (h 8)) hx hb hts (fi_X1 _) hown hK hP 1 (cw_at1 _ _ _) rfl 0 (by decide) (hts _ (List.mem_cons_of_mem _ wd_16)) (fun _ h9 => h9) rfl dX1_mayBeTakenFor_1 ?_
  refine lv_iload_n hx hb dX1_mayBeTakenFor_4 rfl (lv_at hl 1 rfl) ?_
  refine va_iald (f := k_goods u) hx hb hK hP 8 0 (cw_at8 _ _ _) rfl (vp_in_iff.mpr (by omega)) dX1_mayBeTakenFor_5 ?_
  refine lv_iload_n hx hb dX1_mayBeTakenFor_6 rfl (lv_at hl 2 rfl) ?_
  refine lv_icmp_ne (tgt := 32) hx hb dX1_mayBeTakenFor_7 (by decide) (fun c_1 => ?_) (fun c_1 => ?_)
  · skip
    have t_2 : (k_goods u x1.toNatClampNeg).toInt ≠ x2.toInt := i_ne c_1 rfl rfl
    refine lv_iconst (v := 0) hx hb dX1_mayBeTakenFor_32 (by decide) ?_
    exact W.zret (v := 0) hx hb hr rfl (fun t ht hW => ⟨0, rfl, (by unfold fX1_mayBeTakenFor; rw [if_neg c_1]), ht⟩) (fun _ h => nomatch h) dX1_mayBeTakenFor_33
  · skip
    have t_3 : (k_goods u x1.toNatClampNeg).toInt = x2.toInt := i_eq c_1 rfl rfl
    refine lv_aload_n hx hb dX1_mayBeTakenFor_10 rfl (lv_at hl 0 rfl) ?_
    refine va_get (D := (dC, dI)) (C := RX1) (T := TX1) (N := 9) (v := .ref (h 9)) hx hb hts (fi_X1 _) hown hK hP 1 (cw_at1 _ _ _) rfl 1 (by decide) (hts _ (List.mem_cons_of_mem _ wd_17)) (fun _ h9 => h9) rfl dX1_mayBeTakenFor_11 ?_
    refine lv_iload_n hx hb dX1_mayBeTakenFor_14 rfl (lv_at hl 1 rfl) ?_
    refine va_iald (f := k_owners u) hx hb hK hP 9 0 (cw_at9 _ _ _) rfl (vp_in_iff.mpr (by omega)) dX1_mayBeTakenFor_15 ?_
    refine lv_iload_n hx hb dX1_mayBeTakenFor_16 rfl (lv_at hl 3 rfl) ?_
    refine lv_icmp_ne (tgt := 32) hx hb dX1_mayBeTakenFor_17 (by decide) (fun c_4 => ?_) (fun c_4 => ?_)
    · skip
      have t_5 : (k_owners u x1.toNatClampNeg).toInt ≠ x3.toInt := i_ne c_4 rfl rfl
      refine lv_iconst (v := 0) hx hb dX1_mayBeTakenFor_32 (by decide) ?_
      exact W.zret (v := 0) hx hb hr rfl (fun t ht hW => ⟨0, rfl, (by unfold fX1_mayBeTakenFor; rw [if_pos c_1, if_neg c_4]), ht⟩) (fun _ h => nomatch h) dX1_mayBeTakenFor_33
    · skip
      have t_6 : (k_owners u x1.toNatClampNeg).toInt = x3.toInt := i_eq c_4 rfl rfl
      refine lv_aload_n hx hb dX1_mayBeTakenFor_20 rfl (lv_at hl 0 rfl) ?_
      refine lv_iload_n hx hb dX1_mayBeTakenFor_21 rfl (lv_at hl 1 rfl) ?_
      refine vp_callSi (W.runV (As := [.int x1]) (rest := []) ⟨hx, hb, hml, hown, hts⟩ (kX1_mayBeTaken l dC dI g h u x1 (by omega)) (cwV 1 hts (gV wd_25 wd_26 wd_27 wd_28 wcX1_mayBeTaken) rfl rfl rfl (by decide +kernel) ⟨(Nat.le_of_ble_eq_true rfl), (Nat.le_of_ble_eq_true rfl)⟩) ⟨fun a U g mk q => by obtain ⟨q0, qP, qK⟩ := q; exact ⟨q0, qP, va_K.moved (u := U) (U := U.calling g mk a) (Vm.Alike.refl U.vm) qK⟩, va_recv hK hP (ci := 0) (q0 := 1) rfl (cw_at1 _ _ _), fun U hU hW => ⟨rfl, by rw [hU]; exact hP, va_K.moved hW.alike hK⟩⟩ rfl rfl hl.1 rfl (lv_room (Nat.le_of_ble_eq_true rfl)) dX1_mayBeTakenFor_22 ⟨(Nat.le_of_ble_eq_true rfl), (Nat.le_of_ble_eq_true rfl)⟩) (fun r_7 hw => ?_)
      subst hw
      refine lv_if_eq (tgt := 32) hx hb dX1_mayBeTakenFor_25 (by decide) (fun c_8 => ?_) (fun c_8 => ?_)
      · skip
        have t_9 : (fX1_mayBeTaken u x1).toInt = 0 := i_eq c_8 rfl (by decide)
        refine lv_iconst (v := 0) hx hb dX1_mayBeTakenFor_32 (by decide) ?_
        exact W.zret (v := 0) hx hb hr rfl (fun t ht hW => ⟨0, rfl, (by unfold fX1_mayBeTakenFor; rw [if_pos c_1, if_pos c_4, if_pos c_8]), ht⟩) (fun _ h => nomatch h) dX1_mayBeTakenFor_33
      · skip
        have t_10 : (fX1_mayBeTaken u x1).toInt ≠ 0 := i_ne c_8 rfl (by decide)
        refine lv_iconst (v := 1) hx hb dX1_mayBeTakenFor_28 (by decide) ?_
        refine lv_goto (tgt := 33) hx hb dX1_mayBeTakenFor_29 (by decide) ?_
        exact W.zret (v := 1) hx hb hr rfl (fun t ht hW => ⟨1, rfl, (by unfold fX1_mayBeTakenFor; rw [if_pos c_1, if_pos c_4, if_neg c_8]), ht⟩) (fun _ h => nomatch h) dX1_mayBeTakenFor_33
set_option maxHeartbeats 4000000 in
set_option maxRecDepth 100000 in
theorem kX1_arrivedBefore (l : Launch) (dC : Nat → ClassId) (dI : Nat → Nat → Nat) (g : cG) (h : Nat → Nat) (u : cS) (x1 : Int32) (x2 : Int32) (h1 : 0 ≤ x1.toInt ∧ x1.toInt ≤ 40) (h2 : 0 ≤ x2.toInt ∧ x2.toInt ≤ 40) : Met l yX1_arrivedBefore wsX1_arrivedBefore ({ frames := 0, cells := 0, slots := 0, locals := 0 }) (va_Pc [.ref (h 1), .int x1, .int x2] (fun U => va_P (dC, dI) vwCl (cw g h u) U.heap ∧ va_K (dC, dI) vwCl (cTys g) U)) (vp_Si (fun r => r = fX1_arrivedBefore u x1 x2)) 0 0 (fun _ => False) := by
  refine Met.ofW (cc := cX1_arrivedBefore) (maxL := 3) (ret := (some .boolean)) (by decide) rfl ?_
  intro p e s m args below meth c s₁ B hml hv
  obtain ⟨rfl, hP, hK⟩ := hv
  have hx := B.exec
  have hb := B.bytes
  have hr := B.returns
  have hts := atoms_spec (ws := wsX1_arrivedBefore) B.pre
  have hown : s.vm.findClass RX1 = some m.cls := findClass_of_methodNamed B.named
  have hlocks := B.notSynchronized
  have hS : va_S (fun _ => False) s.heap s.heap [] := va_S.rf
  have hl := lv_entry ([.ref (h 1), .int x1, .int x2]) (n := 3) (Nat.le_of_ble_eq_true rfl)
  rw [lg_entry_eq]
  generalize (lg_sl ([.ref (h 1), .int x1, .int x2]) ++ List.replicate (3 - (lg_sl ([.ref (h 1), .int x1, .int x2])).length) Slot.unset).toArray = ls at hl ⊢
  have hl : lv_has ls 3 [(0, .ref (h 1)), (1, .int x1), (2, .int x2)] := hl
  refine lv_aload_n hx hb dX1_arrivedBefore_0 rfl (lv_at hl 0 rfl) ?_
  refine va_get (D := (dC, dI)) (C := RX1) (T := TX1) (N := 9) (v := .ref (h 11)) hx hb hts (fi_X1 _) hown hK hP 1 (cw_at1 _ _ _) rfl 3 (by decide) (hts _ (List.mem_cons_of_mem _ wd_30)) (fun _ h9 => h9) rfl dX1_arrivedBefore_1 ?_
  refine lv_iload_n hx hb dX1_arrivedBefore_4 rfl (lv_at hl 1 rfl) ?_
  refine va_iald (f := k_arr u) hx hb hK hP 11 0 (cw_at11 _ _ _) rfl (vp_in_iff.mpr (by omega)) dX1_arrivedBefore_5 ?_
  refine lv_aload_n hx hb dX1_arrivedBefore_6 rfl (lv_at hl 0 rfl) ?_
  refine va_get (D := (dC, dI)) (C := RX1) (T := TX1) (N := 9) (v := .ref (h 11)) hx hb hts (fi_X1 _) hown hK hP 1 (cw_at1 _ _ _) rfl 3 (by decide) (hts _ (List.mem_cons_of_mem _ wd_30)) (fun _ h9 => h9) rfl dX1_arrivedBefore_7 ?_
  refine lv_iload_n hx hb dX1_arrivedBefore_10 rfl (lv_at hl 2 rfl) ?_
  refine va_iald (f := k_arr u) hx hb hK hP 11 0 (cw_at11 _ _ _) rfl (vp_in_iff.mpr (by omega)) dX1_arrivedBefore_11 ?_
  refine lv_icmp_eq (tgt := 36) hx hb dX1_arrivedBefore_12 (by decide) (fun c_1 => ?_) (fun c_1 => ?_)
  · skip
    have t_2 : (k_arr u x1.toNatClampNeg).toInt = (k_arr u x2.toNatClampNeg).toInt := i_eq c_1 rfl rfl
    refine lv_iload_n hx hb dX1_arrivedBefore_36 rfl (lv_at hl 1 rfl) ?_
    refine lv_iload_n hx hb dX1_arrivedBefore_37 rfl (lv_at hl 2 rfl) ?_
    refine lv_icmp_ge (tgt := 45) hx hb dX1_arrivedBefore_38 (by decide) (fun c_3 => ?_) (fun c_3 => ?_)
    · skip
      have t_4 : x2.toInt ≤ x1.toInt := i_le c_3 rfl rfl
      refine lv_iconst (v := 0) hx hb dX1_arrivedBefore_45 (by decide) ?_
      exact W.zret (v := 0) hx hb hr rfl (fun t ht hW => ⟨0, rfl, (by unfold fX1_arrivedBefore; rw [if_pos c_1, if_pos c_3]), ht⟩) (fun _ h => nomatch h) dX1_arrivedBefore_46
    · skip
      have t_5 : x1.toInt < x2.toInt := i_nle c_3 rfl rfl
      refine lv_iconst (v := 1) hx hb dX1_arrivedBefore_41 (by decide) ?_
      refine lv_goto (tgt := 46) hx hb dX1_arrivedBefore_42 (by decide) ?_
      exact W.zret (v := 1) hx hb hr rfl (fun t ht hW => ⟨1, rfl, (by unfold fX1_arrivedBefore; rw [if_pos c_1, if_neg c_3]), ht⟩) (fun _ h => nomatch h) dX1_arrivedBefore_46
  · skip
    have t_6 : (k_arr u x1.toNatClampNeg).toInt ≠ (k_arr u x2.toNatClampNeg).toInt := i_ne c_1 rfl rfl
    refine lv_aload_n hx hb dX1_arrivedBefore_15 rfl (lv_at hl 0 rfl) ?_
    refine va_get (D := (dC, dI)) (C := RX1) (T := TX1) (N := 9) (v := .ref (h 11)) hx hb hts (fi_X1 _) hown hK hP 1 (cw_at1 _ _ _) rfl 3 (by decide) (hts _ (List.mem_cons_of_mem _ wd_30)) (fun _ h9 => h9) rfl dX1_arrivedBefore_16 ?_
    refine lv_iload_n hx hb dX1_arrivedBefore_19 rfl (lv_at hl 1 rfl) ?_
    refine va_iald (f := k_arr u) hx hb hK hP 11 0 (cw_at11 _ _ _) rfl (vp_in_iff.mpr (by omega)) dX1_arrivedBefore_20 ?_
    refine lv_aload_n hx hb dX1_arrivedBefore_21 rfl (lv_at hl 0 rfl) ?_
    refine va_get (D := (dC, dI)) (C := RX1) (T := TX1) (N := 9) (v := .ref (h 11)) hx hb hts (fi_X1 _) hown hK hP 1 (cw_at1 _ _ _) rfl 3 (by decide) (hts _ (List.mem_cons_of_mem _ wd_30)) (fun _ h9 => h9) rfl dX1_arrivedBefore_22 ?_
    refine lv_iload_n hx hb dX1_arrivedBefore_25 rfl (lv_at hl 2 rfl) ?_
    refine va_iald (f := k_arr u) hx hb hK hP 11 0 (cw_at11 _ _ _) rfl (vp_in_iff.mpr (by omega)) dX1_arrivedBefore_26 ?_
    refine lv_icmp_ge (tgt := 34) hx hb dX1_arrivedBefore_27 (by decide) (fun c_7 => ?_) (fun c_7 => ?_)
    · skip
      have t_8 : (k_arr u x2.toNatClampNeg).toInt ≤ (k_arr u x1.toNatClampNeg).toInt := i_le c_7 rfl rfl
      refine lv_iconst (v := 0) hx hb dX1_arrivedBefore_34 (by decide) ?_
      exact W.zret (v := 0) hx hb hr rfl (fun t ht hW => ⟨0, rfl, (by unfold fX1_arrivedBefore; rw [if_neg c_1, if_pos c_7]), ht⟩) (fun _ h => nomatch h) dX1_arrivedBefore_35
    · skip
      have t_9 : (k_arr u x1.toNatClampNeg).toInt < (k_arr u x2.toNatClampNeg).toInt := i_nle c_7 rfl rfl
      refine lv_iconst (v := 1) hx hb dX1_arrivedBefore_30 (by decide) ?_
      refine lv_goto (tgt := 35) hx hb dX1_arrivedBefore_31 (by decide) ?_
      exact W.zret (v := 1) hx hb hr rfl (fun t ht hW => ⟨1, rfl, (by unfold fX1_arrivedBefore; rw [if_neg c_1, if_neg c_7]), ht⟩) (fun _ h => nomatch h) dX1_arrivedBefore_35
set_option maxHeartbeats 4000000 in
set_option maxRecDepth 100000 in
theorem kX1_comesBefore (l : Launch) (dC : Nat → ClassId) (dI : Nat → Nat → Nat) (g : cG) (h : Nat → Nat) (u : cS) (x1 : Int32) (x2 : Int32) (x3 : Int32) (h1 : 0 ≤ x1.toInt ∧ x1.toInt ≤ 40) (h2 : 0 ≤ x2.toInt ∧ x2.toInt ≤ 40) : Met l yX1_comesBefore wsX1_comesBefore ({ frames := 1, cells := 0, slots := 0, locals := 22 }) (va_Pc [.ref (h 1), .int x1, .int x2, .int x3] (fun U => va_P (dC, dI) vwCl (cw g h u) U.heap ∧ va_K (dC, dI) vwCl (cTys g) U)) (vp_Si (fun r => r = fX1_comesBefore u x1 x2 x3)) 0 0 (fun _ => False) := by
  refine Met.ofW (cc := cX1_comesBefore) (maxL := 4) (ret := (some .boolean)) (by decide) rfl ?_
  intro p e s m args below meth c s₁ B hml hv
  obtain ⟨rfl, hP, hK⟩ := hv
  have hx := B.exec
  have hb := B.bytes
  have hr := B.returns
  have hts := atoms_spec (ws := wsX1_comesBefore) B.pre
  have hown : s.vm.findClass RX1 = some m.cls := findClass_of_methodNamed B.named
  have hlocks := B.notSynchronized
  have hS : va_S (fun _ => False) s.heap s.heap [] := va_S.rf
  have hl := lv_entry ([.ref (h 1), .int x1, .int x2, .int x3]) (n := 4) (Nat.le_of_ble_eq_true rfl)
  rw [lg_entry_eq]
  generalize (lg_sl ([.ref (h 1), .int x1, .int x2, .int x3]) ++ List.replicate (4 - (lg_sl ([.ref (h 1), .int x1, .int x2, .int x3])).length) Slot.unset).toArray = ls at hl ⊢
  have hl : lv_has ls 4 [(0, .ref (h 1)), (1, .int x1), (2, .int x2), (3, .int x3)] := hl
  refine lv_iload_n hx hb dX1_comesBefore_0 rfl (lv_at hl 3 rfl) ?_
  refine lv_iconst (v := 2) hx hb dX1_comesBefore_1 (by decide) ?_
  refine lv_icmp_ne (tgt := 12) hx hb dX1_comesBefore_2 (by decide) (fun c_1 => ?_) (fun c_1 => ?_)
  · skip
    have t_2 : x3.toInt ≠ 2 := i_ne c_1 rfl (by decide)
    refine lv_iload_n hx hb dX1_comesBefore_12 rfl (lv_at hl 3 rfl) ?_
    refine lv_if_ne (tgt := 52) hx hb dX1_comesBefore_13 (by decide) (fun c_3 => ?_) (fun c_3 => ?_)
    · skip
      have t_4 : x3.toInt ≠ 0 := i_ne c_3 rfl (by decide)
      refine lv_aload_n hx hb dX1_comesBefore_52 rfl (lv_at hl 0 rfl) ?_
      refine lv_iload_n hx hb dX1_comesBefore_53 rfl (lv_at hl 1 rfl) ?_
      refine lv_iload_n hx hb dX1_comesBefore_54 rfl (lv_at hl 2 rfl) ?_
      refine vp_callSi (W.runV (As := [.int x1, .int x2]) (rest := []) ⟨hx, hb, hml, hown, hts⟩ (kX1_arrivedBefore l dC dI g h u x1 x2 (by omega) (by omega)) (cwV 2 hts (gV wd_31 wd_32 wd_33 wd_28 wcX1_arrivedBefore) rfl rfl rfl (by decide +kernel) ⟨(Nat.le_of_ble_eq_true rfl), (Nat.le_of_ble_eq_true rfl)⟩) ⟨fun a U g mk q => by obtain ⟨q0, qP, qK⟩ := q; exact ⟨q0, qP, va_K.moved (u := U) (U := U.calling g mk a) (Vm.Alike.refl U.vm) qK⟩, va_recv hK hP (ci := 0) (q0 := 1) rfl (cw_at1 _ _ _), fun U hU hW => ⟨rfl, by rw [hU]; exact hP, va_K.moved hW.alike hK⟩⟩ rfl rfl hl.1 rfl (lv_room (Nat.le_of_ble_eq_true rfl)) dX1_comesBefore_55 ⟨(Nat.le_of_ble_eq_true rfl), (Nat.le_of_ble_eq_true rfl)⟩) (fun r_5 hw => ?_)
      subst hw
      exact W.zret (v := fX1_arrivedBefore u x1 x2) hx hb hr (i_nar (fX1_arrivedBefore_01 _ _ _)) (fun t ht hW => ⟨(fX1_arrivedBefore u x1 x2), rfl, (by unfold fX1_comesBefore; rw [if_neg c_1, if_neg c_3]), ht⟩) (fun _ h => nomatch h) dX1_comesBefore_58
    · skip
      have t_6 : x3.toInt = 0 := i_eq c_3 rfl (by decide)
      refine lv_aload_n hx hb dX1_comesBefore_16 rfl (lv_at hl 0 rfl) ?_
      refine va_get (D := (dC, dI)) (C := RX1) (T := TX1) (N := 9) (v := .ref (h 10)) hx hb hts (fi_X1 _) hown hK hP 1 (cw_at1 _ _ _) rfl 2 (by decide) (hts _ (List.mem_cons_of_mem _ wd_18)) (fun _ h9 => h9) rfl dX1_comesBefore_17 ?_
      refine lv_iload_n hx hb dX1_comesBefore_20 rfl (lv_at hl 1 rfl) ?_
      refine va_iald (f := k_last u) hx hb hK hP 10 0 (cw_at10 _ _ _) rfl (vp_in_iff.mpr (by omega)) dX1_comesBefore_21 ?_
      refine lv_aload_n hx hb dX1_comesBefore_22 rfl (lv_at hl 0 rfl) ?_
      refine va_get (D := (dC, dI)) (C := RX1) (T := TX1) (N := 9) (v := .ref (h 10)) hx hb hts (fi_X1 _) hown hK hP 1 (cw_at1 _ _ _) rfl 2 (by decide) (hts _ (List.mem_cons_of_mem _ wd_18)) (fun _ h9 => h9) rfl dX1_comesBefore_23 ?_
      refine lv_iload_n hx hb dX1_comesBefore_26 rfl (lv_at hl 2 rfl) ?_
      refine va_iald (f := k_last u) hx hb hK hP 10 0 (cw_at10 _ _ _) rfl (vp_in_iff.mpr (by omega)) dX1_comesBefore_27 ?_
      refine lv_icmp_eq (tgt := 52) hx hb dX1_comesBefore_28 (by decide) (fun c_7 => ?_) (fun c_7 => ?_)
      · skip
        have t_8 : (k_last u x1.toNatClampNeg).toInt = (k_last u x2.toNatClampNeg).toInt := i_eq c_7 rfl rfl
        refine lv_aload_n hx hb dX1_comesBefore_52 rfl (lv_at hl 0 rfl) ?_
        refine lv_iload_n hx hb dX1_comesBefore_53 rfl (lv_at hl 1 rfl) ?_
        refine lv_iload_n hx hb dX1_comesBefore_54 rfl (lv_at hl 2 rfl) ?_
        refine vp_callSi (W.runV (As := [.int x1, .int x2]) (rest := []) ⟨hx, hb, hml, hown, hts⟩ (kX1_arrivedBefore l dC dI g h u x1 x2 (by omega) (by omega)) (cwV 2 hts (gV wd_31 wd_32 wd_33 wd_28 wcX1_arrivedBefore) rfl rfl rfl (by decide +kernel) ⟨(Nat.le_of_ble_eq_true rfl), (Nat.le_of_ble_eq_true rfl)⟩) ⟨fun a U g mk q => by obtain ⟨q0, qP, qK⟩ := q; exact ⟨q0, qP, va_K.moved (u := U) (U := U.calling g mk a) (Vm.Alike.refl U.vm) qK⟩, va_recv hK hP (ci := 0) (q0 := 1) rfl (cw_at1 _ _ _), fun U hU hW => ⟨rfl, by rw [hU]; exact hP, va_K.moved hW.alike hK⟩⟩ rfl rfl hl.1 rfl (lv_room (Nat.le_of_ble_eq_true rfl)) dX1_comesBefore_55 ⟨(Nat.le_of_ble_eq_true rfl), (Nat.le_of_ble_eq_true rfl)⟩) (fun r_9 hw => ?_)
        subst hw
        exact W.zret (v := fX1_arrivedBefore u x1 x2) hx hb hr (i_nar (fX1_arrivedBefore_01 _ _ _)) (fun t ht hW => ⟨(fX1_arrivedBefore u x1 x2), rfl, (by unfold fX1_comesBefore; rw [if_neg c_1, if_pos c_3, if_pos c_7]), ht⟩) (fun _ h => nomatch h) dX1_comesBefore_58
      · skip
        have t_10 : (k_last u x1.toNatClampNeg).toInt ≠ (k_last u x2.toNatClampNeg).toInt := i_ne c_7 rfl rfl
        refine lv_aload_n hx hb dX1_comesBefore_31 rfl (lv_at hl 0 rfl) ?_
        refine va_get (D := (dC, dI)) (C := RX1) (T := TX1) (N := 9) (v := .ref (h 10)) hx hb hts (fi_X1 _) hown hK hP 1 (cw_at1 _ _ _) rfl 2 (by decide) (hts _ (List.mem_cons_of_mem _ wd_18)) (fun _ h9 => h9) rfl dX1_comesBefore_32 ?_
        refine lv_iload_n hx hb dX1_comesBefore_35 rfl (lv_at hl 1 rfl) ?_
        refine va_iald (f := k_last u) hx hb hK hP 10 0 (cw_at10 _ _ _) rfl (vp_in_iff.mpr (by omega)) dX1_comesBefore_36 ?_
        refine lv_aload_n hx hb dX1_comesBefore_37 rfl (lv_at hl 0 rfl) ?_
        refine va_get (D := (dC, dI)) (C := RX1) (T := TX1) (N := 9) (v := .ref (h 10)) hx hb hts (fi_X1 _) hown hK hP 1 (cw_at1 _ _ _) rfl 2 (by decide) (hts _ (List.mem_cons_of_mem _ wd_18)) (fun _ h9 => h9) rfl dX1_comesBefore_38 ?_
        refine lv_iload_n hx hb dX1_comesBefore_41 rfl (lv_at hl 2 rfl) ?_
        refine va_iald (f := k_last u) hx hb hK hP 10 0 (cw_at10 _ _ _) rfl (vp_in_iff.mpr (by omega)) dX1_comesBefore_42 ?_
        refine lv_icmp_ge (tgt := 50) hx hb dX1_comesBefore_43 (by decide) (fun c_11 => ?_) (fun c_11 => ?_)
        · skip
          have t_12 : (k_last u x2.toNatClampNeg).toInt ≤ (k_last u x1.toNatClampNeg).toInt := i_le c_11 rfl rfl
          refine lv_iconst (v := 0) hx hb dX1_comesBefore_50 (by decide) ?_
          exact W.zret (v := 0) hx hb hr rfl (fun t ht hW => ⟨0, rfl, (by unfold fX1_comesBefore; rw [if_neg c_1, if_pos c_3, if_neg c_7, if_pos c_11]), ht⟩) (fun _ h => nomatch h) dX1_comesBefore_51
        · skip
          have t_13 : (k_last u x1.toNatClampNeg).toInt < (k_last u x2.toNatClampNeg).toInt := i_nle c_11 rfl rfl
          refine lv_iconst (v := 1) hx hb dX1_comesBefore_46 (by decide) ?_
          refine lv_goto (tgt := 51) hx hb dX1_comesBefore_47 (by decide) ?_
          exact W.zret (v := 1) hx hb hr rfl (fun t ht hW => ⟨1, rfl, (by unfold fX1_comesBefore; rw [if_neg c_1, if_pos c_3, if_neg c_7, if_neg c_11]), ht⟩) (fun _ h => nomatch h) dX1_comesBefore_51
  · skip
    have t_14 : x3.toInt = 2 := i_eq c_1 rfl (by decide)
    refine lv_aload_n hx hb dX1_comesBefore_5 rfl (lv_at hl 0 rfl) ?_
    refine lv_iload_n hx hb dX1_comesBefore_6 rfl (lv_at hl 2 rfl) ?_
    refine lv_iload_n hx hb dX1_comesBefore_7 rfl (lv_at hl 1 rfl) ?_
    refine vp_callSi (W.runV (As := [.int x2, .int x1]) (rest := []) ⟨hx, hb, hml, hown, hts⟩ (kX1_arrivedBefore l dC dI g h u x2 x1 (by omega) (by omega)) (cwV 2 hts (gV wd_31 wd_32 wd_33 wd_28 wcX1_arrivedBefore) rfl rfl rfl (by decide +kernel) ⟨(Nat.le_of_ble_eq_true rfl), (Nat.le_of_ble_eq_true rfl)⟩) ⟨fun a U g mk q => by obtain ⟨q0, qP, qK⟩ := q; exact ⟨q0, qP, va_K.moved (u := U) (U := U.calling g mk a) (Vm.Alike.refl U.vm) qK⟩, va_recv hK hP (ci := 0) (q0 := 1) rfl (cw_at1 _ _ _), fun U hU hW => ⟨rfl, by rw [hU]; exact hP, va_K.moved hW.alike hK⟩⟩ rfl rfl hl.1 rfl (lv_room (Nat.le_of_ble_eq_true rfl)) dX1_comesBefore_8 ⟨(Nat.le_of_ble_eq_true rfl), (Nat.le_of_ble_eq_true rfl)⟩) (fun r_15 hw => ?_)
    subst hw
    exact W.zret (v := fX1_arrivedBefore u x2 x1) hx hb hr (i_nar (fX1_arrivedBefore_01 _ _ _)) (fun t ht hW => ⟨(fX1_arrivedBefore u x2 x1), rfl, (by unfold fX1_comesBefore; rw [if_pos c_1]), ht⟩) (fun _ h => nomatch h) dX1_comesBefore_11
set_option maxHeartbeats 4000000 in
set_option maxRecDepth 100000 in
theorem kX1_rivalsBefore (l : Launch) (dC : Nat → ClassId) (dI : Nat → Nat → Nat) (g : cG) (h : Nat → Nat) (u : cS) (x1 : Int32) (x2 : Int32) (h1 : 0 ≤ x1.toInt ∧ x1.toInt ≤ 40) (hI : cInv u) : Met l yX1_rivalsBefore wsX1_rivalsBefore ({ frames := 2, cells := 0, slots := 0, locals := 45 }) (va_Pc [.ref (h 1), .int x1, .int x2] (fun U => va_P (dC, dI) vwCl (cw g h u) U.heap ∧ va_K (dC, dI) vwCl (cTys g) U)) (vp_Si (fun r => r = fX1_rivalsBefore u x1 x2)) 0 0 (fun _ => False) := by
  refine Met.ofW (cc := cX1_rivalsBefore) (maxL := 5) (ret := (some .int)) (by decide) rfl ?_
  intro p e s m args below meth c s₁ B hml hv
  obtain ⟨rfl, hP, hK⟩ := hv
  have hx := B.exec
  have hb := B.bytes
  have hr := B.returns
  have hts := atoms_spec (ws := wsX1_rivalsBefore) B.pre
  have hown : s.vm.findClass RX1 = some m.cls := findClass_of_methodNamed B.named
  have hlocks := B.notSynchronized
  have hS : va_S (fun _ => False) s.heap s.heap [] := va_S.rf
  have hl := lv_entry ([.ref (h 1), .int x1, .int x2]) (n := 5) (Nat.le_of_ble_eq_true rfl)
  rw [lg_entry_eq]
  generalize (lg_sl ([.ref (h 1), .int x1, .int x2]) ++ List.replicate (5 - (lg_sl ([.ref (h 1), .int x1, .int x2])).length) Slot.unset).toArray = ls at hl ⊢
  have hl : lv_has ls 5 [(0, .ref (h 1)), (1, .int x1), (2, .int x2)] := hl
  obtain ⟨hI1, hI2, hI3, hI4, hI5, hI6⟩ := id hI
  have z_0 : (1 : Int32).toInt = 1 := by decide
  have z_1 : (0 : Int32).toInt = 0 := by decide
  refine lv_iconst (v := 0) hx hb dX1_rivalsBefore_0 (by decide) ?_
  refine lv_istore_n (lv' := [(3, .int 0), (0, .ref (h 1)), (1, .int x1), (2, .int x2)]) hx hb dX1_rivalsBefore_1 rfl hl (by decide) rfl (fun ls hl => ?_)
  refine lv_iconst (v := 1) hx hb dX1_rivalsBefore_2 (by decide) ?_
  refine lv_istore (lv' := [(4, .int 1), (3, .int 0), (0, .ref (h 1)), (1, .int x1), (2, .int x2)]) hx hb dX1_rivalsBefore_3 hl (by decide) rfl (fun ls hl => ?_)
  refine lp_ind (W p l e _ s m _ below meth c _ _ _ _ _) (fun n ls => ∃ (i : Int32) (a : Int32), ((k_lmade u).toInt - i.toInt + 1 < (n : Int)) ∧ (1 ≤ i.toInt ∧ i.toInt ≤ 41 ∧ i.toInt ≤ (k_lmade u).toInt + 1) ∧ fX1_rivalsBefore u x1 x2 = lpX1_rivalsBefore u x1 x2 n i a ∧ lv_has ls 5 [(4, .int i), (3, .int a), (0, .ref (h 1)), (1, .int x1), (2, .int x2)]) m 5 (fun ls hI0 => ?_) (fun n ls hI0 ih => ?_) 41 _ ⟨1, 0, (by omega), (by omega), rfl, lv_sub hl [0, 1, 2, 3, 4] rfl⟩
  · skip
    obtain ⟨i, a, hn, hi, he, hl⟩ := hI0
    exact absurd hn (by omega)
  · skip
    obtain ⟨i, a, hn, hi, he, hl⟩ := hI0
    have he_3 := he
    have ih_2 := ih
    refine lv_iload hx hb dX1_rivalsBefore_5 (lv_at hl 0 rfl) ?_
    refine lv_aload_n hx hb dX1_rivalsBefore_7 rfl (lv_at hl 2 rfl) ?_
    refine va_get (D := (dC, dI)) (C := RX1) (T := TX1) (N := 9) (v := .int (k_lmade u)) hx hb hts (fi_X1 _) hown hK hP 1 (cw_at1 _ _ _) rfl 8 (by decide) (hts _ (List.mem_cons_of_mem _ wd_15)) (fun _ h9 => h9) rfl dX1_rivalsBefore_8 ?_
    refine lv_icmp_gt (tgt := 55) hx hb dX1_rivalsBefore_11 (by decide) (fun c_4 => ?_) (fun c_4 => ?_)
    · skip
      have t_5 : (k_lmade u).toInt < i.toInt := i_lt c_4 rfl rfl
      refine lv_iload_n hx hb dX1_rivalsBefore_55 rfl (lv_at hl 1 rfl) ?_
      exact W.iret (v := a) hx hb hr (fun t ht hW => ⟨a, rfl, (by rw [he_3, lpX1_rivalsBefore_eq, if_pos c_4]), ht⟩) (fun _ h => nomatch h) dX1_rivalsBefore_56
    · skip
      have t_6 : i.toInt ≤ (k_lmade u).toInt := i_nlt c_4 rfl rfl
      refine lv_aload_n hx hb dX1_rivalsBefore_14 rfl (lv_at hl 2 rfl) ?_
      refine lv_iload hx hb dX1_rivalsBefore_15 (lv_at hl 0 rfl) ?_
      refine lv_aload_n hx hb dX1_rivalsBefore_17 rfl (lv_at hl 2 rfl) ?_
      refine va_get (D := (dC, dI)) (C := RX1) (T := TX1) (N := 9) (v := .ref (h 8)) hx hb hts (fi_X1 _) hown hK hP 1 (cw_at1 _ _ _) rfl 0 (by decide) (hts _ (List.mem_cons_of_mem _ wd_16)) (fun _ h9 => h9) rfl dX1_rivalsBefore_18 ?_
      refine lv_iload_n hx hb dX1_rivalsBefore_21 rfl (lv_at hl 3 rfl) ?_
      refine va_iald (f := k_goods u) hx hb hK hP 8 0 (cw_at8 _ _ _) rfl (vp_in_iff.mpr (by omega)) dX1_rivalsBefore_22 ?_
      refine lv_aload_n hx hb dX1_rivalsBefore_23 rfl (lv_at hl 2 rfl) ?_
      refine va_get (D := (dC, dI)) (C := RX1) (T := TX1) (N := 9) (v := .ref (h 9)) hx hb hts (fi_X1 _) hown hK hP 1 (cw_at1 _ _ _) rfl 1 (by decide) (hts _ (List.mem_cons_of_mem _ wd_17)) (fun _ h9 => h9) rfl dX1_rivalsBefore_24 ?_
      refine lv_iload_n hx hb dX1_rivalsBefore_27 rfl (lv_at hl 3 rfl) ?_
      refine va_iald (f := k_owners u) hx hb hK hP 9 0 (cw_at9 _ _ _) rfl (vp_in_iff.mpr (by omega)) dX1_rivalsBefore_28 ?_
      refine vp_callSi (W.runV (As := [.int i, .int (k_goods u x1.toNatClampNeg), .int (k_owners u x1.toNatClampNeg)]) (rest := []) ⟨hx, hb, hml, hown, hts⟩ (kX1_mayBeTakenFor l dC dI g h u i (k_goods u x1.toNatClampNeg) (k_owners u x1.toNatClampNeg) (by omega)) (cwV 3 hts (gV wd_35 wd_36 wd_37 wd_28 wcX1_mayBeTakenFor) rfl rfl rfl (by decide +kernel) ⟨(Nat.le_of_ble_eq_true rfl), (Nat.le_of_ble_eq_true rfl)⟩) ⟨fun a U g mk q => by obtain ⟨q0, qP, qK⟩ := q; exact ⟨q0, qP, va_K.moved (u := U) (U := U.calling g mk a) (Vm.Alike.refl U.vm) qK⟩, va_recv hK hP (ci := 0) (q0 := 1) rfl (cw_at1 _ _ _), fun U hU hW => ⟨rfl, by rw [hU]; exact hP, va_K.moved hW.alike hK⟩⟩ rfl rfl hl.1 rfl (lv_room (Nat.le_of_ble_eq_true rfl)) dX1_rivalsBefore_29 ⟨(Nat.le_of_ble_eq_true rfl), (Nat.le_of_ble_eq_true rfl)⟩) (fun r_7 hw => ?_)
      subst hw
      refine lv_if_eq (tgt := 49) hx hb dX1_rivalsBefore_32 (by decide) (fun c_8 => ?_) (fun c_8 => ?_)
      · skip
        have t_9 : (fX1_mayBeTakenFor u i (k_goods u x1.toNatClampNeg) (k_owners u x1.toNatClampNeg)).toInt = 0 := i_eq c_8 rfl (by decide)
        refine lv_iinc (v := i + 1) (lv' := [(4, .int (i + 1)), (3, .int a), (0, .ref (h 1)), (1, .int x1), (2, .int x2)]) hx hb dX1_rivalsBefore_49 hl (k := 0) rfl rfl (by decide) rfl (fun ls hl => ?_)
        refine lv_goto (tgt := 5) hx hb dX1_rivalsBefore_52 (by decide) ?_
        have hb1 := i_inc (x := i) (by omega)
        exact ih_2 _ ⟨(i + 1), a, (by omega), (by omega), (by rw [he_3, lpX1_rivalsBefore_eq, if_neg c_4, if_pos c_8]), lv_sub hl [0, 1, 2, 3, 4] rfl⟩
      · skip
        have t_10 : (fX1_mayBeTakenFor u i (k_goods u x1.toNatClampNeg) (k_owners u x1.toNatClampNeg)).toInt ≠ 0 := i_ne c_8 rfl (by decide)
        refine lv_aload_n hx hb dX1_rivalsBefore_35 rfl (lv_at hl 2 rfl) ?_
        refine lv_iload hx hb dX1_rivalsBefore_36 (lv_at hl 0 rfl) ?_
        refine lv_iload_n hx hb dX1_rivalsBefore_38 rfl (lv_at hl 3 rfl) ?_
        refine lv_iload_n hx hb dX1_rivalsBefore_39 rfl (lv_at hl 4 rfl) ?_
        refine vp_callSi (W.runV (As := [.int i, .int x1, .int x2]) (rest := []) ⟨hx, hb, hml, hown, hts⟩ (kX1_comesBefore l dC dI g h u i x1 x2 (by omega) (by omega)) (cwV 3 hts (gV wd_39 wd_40 wd_41 wd_28 wcX1_comesBefore) rfl rfl rfl (by decide +kernel) ⟨(Nat.le_of_ble_eq_true rfl), (Nat.le_of_ble_eq_true rfl)⟩) ⟨fun a U g mk q => by obtain ⟨q0, qP, qK⟩ := q; exact ⟨q0, qP, va_K.moved (u := U) (U := U.calling g mk a) (Vm.Alike.refl U.vm) qK⟩, va_recv hK hP (ci := 0) (q0 := 1) rfl (cw_at1 _ _ _), fun U hU hW => ⟨rfl, by rw [hU]; exact hP, va_K.moved hW.alike hK⟩⟩ rfl rfl hl.1 rfl (lv_room (Nat.le_of_ble_eq_true rfl)) dX1_rivalsBefore_40 ⟨(Nat.le_of_ble_eq_true rfl), (Nat.le_of_ble_eq_true rfl)⟩) (fun r_11 hw => ?_)
        subst hw
        refine lv_if_eq (tgt := 49) hx hb dX1_rivalsBefore_43 (by decide) (fun c_12 => ?_) (fun c_12 => ?_)
        · skip
          have t_13 : (fX1_comesBefore u i x1 x2).toInt = 0 := i_eq c_12 rfl (by decide)
          refine lv_iinc (v := i + 1) (lv' := [(4, .int (i + 1)), (3, .int a), (0, .ref (h 1)), (1, .int x1), (2, .int x2)]) hx hb dX1_rivalsBefore_49 hl (k := 0) rfl rfl (by decide) rfl (fun ls hl => ?_)
          refine lv_goto (tgt := 5) hx hb dX1_rivalsBefore_52 (by decide) ?_
          have hb1 := i_inc (x := i) (by omega)
          exact ih_2 _ ⟨(i + 1), a, (by omega), (by omega), (by rw [he_3, lpX1_rivalsBefore_eq, if_neg c_4, if_neg c_8, if_pos c_12]), lv_sub hl [0, 1, 2, 3, 4] rfl⟩
        · skip
          have t_14 : (fX1_comesBefore u i x1 x2).toInt ≠ 0 := i_ne c_12 rfl (by decide)
          refine lv_iinc (v := a + 1) (lv' := [(3, .int (a + 1)), (4, .int i), (0, .ref (h 1)), (1, .int x1), (2, .int x2)]) hx hb dX1_rivalsBefore_46 hl (k := 1) rfl rfl (by decide) rfl (fun ls hl => ?_)
          refine lv_iinc (v := i + 1) (lv' := [(4, .int (i + 1)), (3, .int (a + 1)), (0, .ref (h 1)), (1, .int x1), (2, .int x2)]) hx hb dX1_rivalsBefore_49 hl (k := 1) rfl rfl (by decide) rfl (fun ls hl => ?_)
          refine lv_goto (tgt := 5) hx hb dX1_rivalsBefore_52 (by decide) ?_
          have hb1 := i_inc (x := i) (by omega)
          exact ih_2 _ ⟨(i + 1), (a + 1), (by omega), (by omega), (by rw [he_3, lpX1_rivalsBefore_eq, if_neg c_4, if_neg c_8, if_neg c_12]), lv_sub hl [0, 1, 2, 3, 4] rfl⟩
set_option maxHeartbeats 4000000 in
set_option maxRecDepth 100000 in
theorem kX3_haveRoom (l : Launch) (dC : Nat → ClassId) (dI : Nat → Nat → Nat) (g : cG) (h : Nat → Nat) (u : cS) : Met l yX3_haveRoom wsX3_haveRoom ({ frames := 0, cells := 0, slots := 0, locals := 0 }) (va_Pc [.ref (h 2)] (fun U => va_P (dC, dI) vwCl (cw g h u) U.heap ∧ va_K (dC, dI) vwCl (cTys g) U)) (vp_Si (fun r => r = fX3_haveRoom u)) 0 0 (fun _ => False) := by
  refine Met.ofW (cc := cX3_haveRoom) (maxL := 1) (ret := (some .boolean)) (by decide) rfl ?_
  intro p e s m args below meth c s₁ B hml hv
  obtain ⟨rfl, hP, hK⟩ := hv
  have hx := B.exec
  have hb := B.bytes
  have hr := B.returns
  have hts := atoms_spec (ws := wsX3_haveRoom) B.pre
  have hown : s.vm.findClass RX3 = some m.cls := findClass_of_methodNamed B.named
  have hlocks := B.notSynchronized
  have hS : va_S (fun _ => False) s.heap s.heap [] := va_S.rf
  have hl := lv_entry ([.ref (h 2)]) (n := 1) (Nat.le_of_ble_eq_true rfl)
  rw [lg_entry_eq]
  generalize (lg_sl ([.ref (h 2)]) ++ List.replicate (1 - (lg_sl ([.ref (h 2)])).length) Slot.unset).toArray = ls at hl ⊢
  have hl : lv_has ls 1 [(0, .ref (h 2))] := hl
  refine lv_aload_n hx hb dX3_haveRoom_0 rfl (lv_at hl 0 rfl) ?_
  refine va_get (D := (dC, dI)) (C := RX3) (T := TX3) (N := 7) (v := .int (k_umade u)) hx hb hts (fi_X3 _) hown hK hP 2 (cw_at2 _ _ _) rfl 5 (by decide) (hts _ (List.mem_cons_of_mem _ wd_43)) (fun _ h9 => h9) rfl dX3_haveRoom_1 ?_
  refine lv_bipush (v := 120) hx hb dX3_haveRoom_4 (by decide) ?_
  refine lv_icmp_ge (tgt := 13) hx hb dX3_haveRoom_6 (by decide) (fun c_1 => ?_) (fun c_1 => ?_)
  · skip
    have t_2 : 120 ≤ (k_umade u).toInt := i_le c_1 (by decide) rfl
    refine lv_iconst (v := 0) hx hb dX3_haveRoom_13 (by decide) ?_
    exact W.zret (v := 0) hx hb hr rfl (fun t ht hW => ⟨0, rfl, (by unfold fX3_haveRoom; rw [if_pos c_1]), ht⟩) (fun _ h => nomatch h) dX3_haveRoom_14
  · skip
    have t_3 : (k_umade u).toInt < 120 := i_nle c_1 (by decide) rfl
    refine lv_iconst (v := 1) hx hb dX3_haveRoom_9 (by decide) ?_
    refine lv_goto (tgt := 14) hx hb dX3_haveRoom_10 (by decide) ?_
    exact W.zret (v := 1) hx hb hr rfl (fun t ht hW => ⟨1, rfl, (by unfold fX3_haveRoom; rw [if_neg c_1]), ht⟩) (fun _ h => nomatch h) dX3_haveRoom_14
set_option maxHeartbeats 4000000 in
set_option maxRecDepth 100000 in
theorem kX3_isGone (l : Launch) (dC : Nat → ClassId) (dI : Nat → Nat → Nat) (g : cG) (h : Nat → Nat) (u : cS) (x1 : Int32) (h1 : 0 ≤ x1.toInt ∧ x1.toInt ≤ 120) : Met l yX3_isGone wsX3_isGone ({ frames := 0, cells := 0, slots := 0, locals := 0 }) (va_Pc [.ref (h 2), .int x1] (fun U => va_P (dC, dI) vwCl (cw g h u) U.heap ∧ va_K (dC, dI) vwCl (cTys g) U)) (vp_Si (fun r => r = fX3_isGone u x1)) 0 0 (fun _ => False) := by
  refine Met.ofW (cc := cX3_isGone) (maxL := 2) (ret := (some .boolean)) (by decide) rfl ?_
  intro p e s m args below meth c s₁ B hml hv
  obtain ⟨rfl, hP, hK⟩ := hv
  have hx := B.exec
  have hb := B.bytes
  have hr := B.returns
  have hts := atoms_spec (ws := wsX3_isGone) B.pre
  have hown : s.vm.findClass RX3 = some m.cls := findClass_of_methodNamed B.named
  have hlocks := B.notSynchronized
  have hS : va_S (fun _ => False) s.heap s.heap [] := va_S.rf
  have hl := lv_entry ([.ref (h 2), .int x1]) (n := 2) (Nat.le_of_ble_eq_true rfl)
  rw [lg_entry_eq]
  generalize (lg_sl ([.ref (h 2), .int x1]) ++ List.replicate (2 - (lg_sl ([.ref (h 2), .int x1])).length) Slot.unset).toArray = ls at hl ⊢
  have hl : lv_has ls 2 [(0, .ref (h 2)), (1, .int x1)] := hl
  refine lv_aload_n hx hb dX3_isGone_0 rfl (lv_at hl 0 rfl) ?_
  refine va_get (D := (dC, dI)) (C := RX3) (T := TX3) (N := 7) (v := .ref (h 18)) hx hb hts (fi_X3 _) hown hK hP 2 (cw_at2 _ _ _) rfl 2 (by decide) (hts _ (List.mem_cons_of_mem _ wd_44)) (fun _ h9 => h9) rfl dX3_isGone_1 ?_
  refine lv_iload_n hx hb dX3_isGone_4 rfl (lv_at hl 1 rfl) ?_
  refine va_iald (f := k_ucust u) hx hb hK hP 18 0 (cw_at18 _ _ _) rfl (vp_in_iff.mpr (by omega)) dX3_isGone_5 ?_
  refine lv_iconst (v := (-1)) hx hb dX3_isGone_6 (by decide) ?_
  refine lv_icmp_eq (tgt := 14) hx hb dX3_isGone_7 (by decide) (fun c_1 => ?_) (fun c_1 => ?_)
  · skip
    have t_2 : (k_ucust u x1.toNatClampNeg).toInt = -1 := i_eq c_1 rfl (by decide)
    refine lv_iconst (v := 0) hx hb dX3_isGone_14 (by decide) ?_
    exact W.zret (v := 0) hx hb hr rfl (fun t ht hW => ⟨0, rfl, (by unfold fX3_isGone; rw [if_pos c_1]), ht⟩) (fun _ h => nomatch h) dX3_isGone_15
  · skip
    have t_3 : (k_ucust u x1.toNatClampNeg).toInt ≠ -1 := i_ne c_1 rfl (by decide)
    refine lv_iconst (v := 1) hx hb dX3_isGone_10 (by decide) ?_
    refine lv_goto (tgt := 15) hx hb dX3_isGone_11 (by decide) ?_
    exact W.zret (v := 1) hx hb hr rfl (fun t ht hW => ⟨1, rfl, (by unfold fX3_isGone; rw [if_neg c_1]), ht⟩) (fun _ h => nomatch h) dX3_isGone_15
set_option maxHeartbeats 4000000 in
set_option maxRecDepth 100000 in
theorem kX3_leftOf (l : Launch) (dC : Nat → ClassId) (dI : Nat → Nat → Nat) (g : cG) (h : Nat → Nat) (u : cS) (x1 : Int32) (hI : cInv u) : Met l yX3_leftOf wsX3_leftOf ({ frames := 1, cells := 0, slots := 0, locals := 21 }) (va_Pc [.ref (h 2), .int x1] (fun U => va_P (dC, dI) vwCl (cw g h u) U.heap ∧ va_K (dC, dI) vwCl (cTys g) U)) (vp_Si (fun r => r = fX3_leftOf u x1)) 0 0 (fun _ => False) := by
  refine Met.ofW (cc := cX3_leftOf) (maxL := 4) (ret := (some .int)) (by decide) rfl ?_
  intro p e s m args below meth c s₁ B hml hv
  obtain ⟨rfl, hP, hK⟩ := hv
  have hx := B.exec
  have hb := B.bytes
  have hr := B.returns
  have hts := atoms_spec (ws := wsX3_leftOf) B.pre
  have hown : s.vm.findClass RX3 = some m.cls := findClass_of_methodNamed B.named
  have hlocks := B.notSynchronized
  have hS : va_S (fun _ => False) s.heap s.heap [] := va_S.rf
  have hl := lv_entry ([.ref (h 2), .int x1]) (n := 4) (Nat.le_of_ble_eq_true rfl)
  rw [lg_entry_eq]
  generalize (lg_sl ([.ref (h 2), .int x1]) ++ List.replicate (4 - (lg_sl ([.ref (h 2), .int x1])).length) Slot.unset).toArray = ls at hl ⊢
  have hl : lv_has ls 4 [(0, .ref (h 2)), (1, .int x1)] := hl
  obtain ⟨hI1, hI2, hI3, hI4, hI5, hI6⟩ := id hI
  have z_0 : (1 : Int32).toInt = 1 := by decide
  have z_1 : (0 : Int32).toInt = 0 := by decide
  refine lv_iconst (v := 0) hx hb dX3_leftOf_0 (by decide) ?_
  refine lv_istore_n (lv' := [(2, .int 0), (0, .ref (h 2)), (1, .int x1)]) hx hb dX3_leftOf_1 rfl hl (by decide) rfl (fun ls hl => ?_)
  refine lv_iconst (v := 1) hx hb dX3_leftOf_2 (by decide) ?_
  refine lv_istore_n (lv' := [(3, .int 1), (2, .int 0), (0, .ref (h 2)), (1, .int x1)]) hx hb dX3_leftOf_3 rfl hl (by decide) rfl (fun ls hl => ?_)
  refine lp_ind (W p l e _ s m _ below meth c _ _ _ _ _) (fun n ls => ∃ (i : Int32) (a : Int32), ((k_umade u).toInt - i.toInt + 1 < (n : Int)) ∧ (1 ≤ i.toInt ∧ i.toInt ≤ 121 ∧ i.toInt ≤ (k_umade u).toInt + 1) ∧ fX3_leftOf u x1 = lpX3_leftOf u x1 n i a ∧ lv_has ls 4 [(3, .int i), (2, .int a), (0, .ref (h 2)), (1, .int x1)]) m 4 (fun ls hI0 => ?_) (fun n ls hI0 ih => ?_) 121 _ ⟨1, 0, (by omega), (by omega), rfl, lv_sub hl [0, 1, 2, 3] rfl⟩
  · skip
    obtain ⟨i, a, hn, hi, he, hl⟩ := hI0
    exact absurd hn (by omega)
  · skip
    obtain ⟨i, a, hn, hi, he, hl⟩ := hI0
    have he_3 := he
    have ih_2 := ih
    refine lv_iload_n hx hb dX3_leftOf_4 rfl (lv_at hl 0 rfl) ?_
    refine lv_aload_n hx hb dX3_leftOf_5 rfl (lv_at hl 2 rfl) ?_
    refine va_get (D := (dC, dI)) (C := RX3) (T := TX3) (N := 7) (v := .int (k_umade u)) hx hb hts (fi_X3 _) hown hK hP 2 (cw_at2 _ _ _) rfl 5 (by decide) (hts _ (List.mem_cons_of_mem _ wd_43)) (fun _ h9 => h9) rfl dX3_leftOf_6 ?_
    refine lv_icmp_gt (tgt := 39) hx hb dX3_leftOf_9 (by decide) (fun c_4 => ?_) (fun c_4 => ?_)
    · skip
      have t_5 : (k_umade u).toInt < i.toInt := i_lt c_4 rfl rfl
      refine lv_iload_n hx hb dX3_leftOf_39 rfl (lv_at hl 1 rfl) ?_
      exact W.iret (v := a) hx hb hr (fun t ht hW => ⟨a, rfl, (by rw [he_3, lpX3_leftOf_eq, if_pos c_4]), ht⟩) (fun _ h => nomatch h) dX3_leftOf_40
    · skip
      have t_6 : i.toInt ≤ (k_umade u).toInt := i_nlt c_4 rfl rfl
      refine lv_aload_n hx hb dX3_leftOf_12 rfl (lv_at hl 2 rfl) ?_
      refine va_get (D := (dC, dI)) (C := RX3) (T := TX3) (N := 7) (v := .ref (h 16)) hx hb hts (fi_X3 _) hown hK hP 2 (cw_at2 _ _ _) rfl 0 (by decide) (hts _ (List.mem_cons_of_mem _ wd_45)) (fun _ h9 => h9) rfl dX3_leftOf_13 ?_
      refine lv_iload_n hx hb dX3_leftOf_16 rfl (lv_at hl 0 rfl) ?_
      refine va_iald (f := k_ulot u) hx hb hK hP 16 0 (cw_at16 _ _ _) rfl (vp_in_iff.mpr (by omega)) dX3_leftOf_17 ?_
      refine lv_iload_n hx hb dX3_leftOf_18 rfl (lv_at hl 3 rfl) ?_
      refine lv_icmp_ne (tgt := 33) hx hb dX3_leftOf_19 (by decide) (fun c_7 => ?_) (fun c_7 => ?_)
      · skip
        have t_8 : (k_ulot u i.toNatClampNeg).toInt ≠ x1.toInt := i_ne c_7 rfl rfl
        refine lv_iinc (v := i + 1) (lv' := [(3, .int (i + 1)), (2, .int a), (0, .ref (h 2)), (1, .int x1)]) hx hb dX3_leftOf_33 hl (k := 0) rfl rfl (by decide) rfl (fun ls hl => ?_)
        refine lv_goto (tgt := 4) hx hb dX3_leftOf_36 (by decide) ?_
        have hb1 := i_inc (x := i) (by omega)
        exact ih_2 _ ⟨(i + 1), a, (by omega), (by omega), (by rw [he_3, lpX3_leftOf_eq, if_neg c_4, if_neg c_7]), lv_sub hl [0, 1, 2, 3] rfl⟩
      · skip
        have t_9 : (k_ulot u i.toNatClampNeg).toInt = x1.toInt := i_eq c_7 rfl rfl
        refine lv_aload_n hx hb dX3_leftOf_22 rfl (lv_at hl 2 rfl) ?_
        refine lv_iload_n hx hb dX3_leftOf_23 rfl (lv_at hl 0 rfl) ?_
        refine vp_callSi (W.runV (As := [.int i]) (rest := []) ⟨hx, hb, hml, hown, hts⟩ (kX3_isGone l dC dI g h u i (by omega)) (cwV 1 hts (gV wd_46 wd_47 wd_48 wd_49 wcX3_isGone) rfl rfl rfl (by decide +kernel) ⟨(Nat.le_of_ble_eq_true rfl), (Nat.le_of_ble_eq_true rfl)⟩) ⟨fun a U g mk q => by obtain ⟨q0, qP, qK⟩ := q; exact ⟨q0, qP, va_K.moved (u := U) (U := U.calling g mk a) (Vm.Alike.refl U.vm) qK⟩, va_recv hK hP (ci := 2) (q0 := 2) rfl (cw_at2 _ _ _), fun U hU hW => ⟨rfl, by rw [hU]; exact hP, va_K.moved hW.alike hK⟩⟩ rfl rfl hl.1 rfl (lv_room (Nat.le_of_ble_eq_true rfl)) dX3_leftOf_24 ⟨(Nat.le_of_ble_eq_true rfl), (Nat.le_of_ble_eq_true rfl)⟩) (fun r_10 hw => ?_)
        subst hw
        refine lv_if_ne (tgt := 33) hx hb dX3_leftOf_27 (by decide) (fun c_11 => ?_) (fun c_11 => ?_)
        · skip
          have t_12 : (fX3_isGone u i).toInt ≠ 0 := i_ne c_11 rfl (by decide)
          refine lv_iinc (v := i + 1) (lv' := [(3, .int (i + 1)), (2, .int a), (0, .ref (h 2)), (1, .int x1)]) hx hb dX3_leftOf_33 hl (k := 0) rfl rfl (by decide) rfl (fun ls hl => ?_)
          refine lv_goto (tgt := 4) hx hb dX3_leftOf_36 (by decide) ?_
          have hb1 := i_inc (x := i) (by omega)
          exact ih_2 _ ⟨(i + 1), a, (by omega), (by omega), (by rw [he_3, lpX3_leftOf_eq, if_neg c_4, if_pos c_7, if_neg c_11]), lv_sub hl [0, 1, 2, 3] rfl⟩
        · skip
          have t_13 : (fX3_isGone u i).toInt = 0 := i_eq c_11 rfl (by decide)
          refine lv_iinc (v := a + 1) (lv' := [(2, .int (a + 1)), (3, .int i), (0, .ref (h 2)), (1, .int x1)]) hx hb dX3_leftOf_30 hl (k := 1) rfl rfl (by decide) rfl (fun ls hl => ?_)
          refine lv_iinc (v := i + 1) (lv' := [(3, .int (i + 1)), (2, .int (a + 1)), (0, .ref (h 2)), (1, .int x1)]) hx hb dX3_leftOf_33 hl (k := 1) rfl rfl (by decide) rfl (fun ls hl => ?_)
          refine lv_goto (tgt := 4) hx hb dX3_leftOf_36 (by decide) ?_
          have hb1 := i_inc (x := i) (by omega)
          exact ih_2 _ ⟨(i + 1), (a + 1), (by omega), (by omega), (by rw [he_3, lpX3_leftOf_eq, if_neg c_4, if_pos c_7, if_pos c_11]), lv_sub hl [0, 1, 2, 3] rfl⟩
set_option maxHeartbeats 4000000 in
set_option maxRecDepth 100000 in
theorem kX3_everOfFamily (l : Launch) (dC : Nat → ClassId) (dI : Nat → Nat → Nat) (g : cG) (h : Nat → Nat) (u : cS) (x1 : Int64) (x3 : Int32) (hI : cInv u) : Met l yX3_everOfFamily wsX3_everOfFamily ({ frames := 0, cells := 0, slots := 0, locals := 0 }) (va_Pc [.ref (h 2), .long x1, .int x3] (fun U => va_P (dC, dI) vwCl (cw g h u) U.heap ∧ va_K (dC, dI) vwCl (cTys g) U)) (vp_Si (fun r => r = fX3_everOfFamily u x1 x3)) 0 0 (fun _ => False) := by
  refine Met.ofW (cc := cX3_everOfFamily) (maxL := 6) (ret := (some .int)) (by decide) rfl ?_
  intro p e s m args below meth c s₁ B hml hv
  obtain ⟨rfl, hP, hK⟩ := hv
  have hx := B.exec
  have hb := B.bytes
  have hr := B.returns
  have hts := atoms_spec (ws := wsX3_everOfFamily) B.pre
  have hown : s.vm.findClass RX3 = some m.cls := findClass_of_methodNamed B.named
  have hlocks := B.notSynchronized
  have hS : va_S (fun _ => False) s.heap s.heap [] := va_S.rf
  have hl := lv_entry ([.ref (h 2), .long x1, .int x3]) (n := 6) (Nat.le_of_ble_eq_true rfl)
  rw [lg_entry_eq]
  generalize (lg_sl ([.ref (h 2), .long x1, .int x3]) ++ List.replicate (6 - (lg_sl ([.ref (h 2), .long x1, .int x3])).length) Slot.unset).toArray = ls at hl ⊢
  have hl : lv_has ls 6 [(0, .ref (h 2)), (1, .long x1), (3, .int x3)] := hl
  obtain ⟨hI1, hI2, hI3, hI4, hI5, hI6⟩ := id hI
  have z_0 : (1 : Int32).toInt = 1 := by decide
  have z_1 : (0 : Int32).toInt = 0 := by decide
  refine lv_iconst (v := 0) hx hb dX3_everOfFamily_0 (by decide) ?_
  refine lv_istore (lv' := [(4, .int 0), (0, .ref (h 2)), (1, .long x1), (3, .int x3)]) hx hb dX3_everOfFamily_1 hl (by decide) rfl (fun ls hl => ?_)
  refine lv_iconst (v := 1) hx hb dX3_everOfFamily_3 (by decide) ?_
  refine lv_istore (lv' := [(5, .int 1), (4, .int 0), (0, .ref (h 2)), (1, .long x1), (3, .int x3)]) hx hb dX3_everOfFamily_4 hl (by decide) rfl (fun ls hl => ?_)
  refine lp_ind (W p l e _ s m _ below meth c _ _ _ _ _) (fun n ls => ∃ (i : Int32) (a : Int32), ((k_umade u).toInt - i.toInt + 1 < (n : Int)) ∧ (1 ≤ i.toInt ∧ i.toInt ≤ 121 ∧ i.toInt ≤ (k_umade u).toInt + 1) ∧ fX3_everOfFamily u x1 x3 = lpX3_everOfFamily u x1 x3 n i a ∧ lv_has ls 6 [(5, .int i), (4, .int a), (0, .ref (h 2)), (1, .long x1), (3, .int x3)]) m 6 (fun ls hI0 => ?_) (fun n ls hI0 ih => ?_) 121 _ ⟨1, 0, (by omega), (by omega), rfl, lv_sub hl [0, 1, 2, 3, 4] rfl⟩
  · skip
    obtain ⟨i, a, hn, hi, he, hl⟩ := hI0
    exact absurd hn (by omega)
  · skip
    obtain ⟨i, a, hn, hi, he, hl⟩ := hI0
    have he_3 := he
    have ih_2 := ih
    refine lv_iload hx hb dX3_everOfFamily_6 (lv_at hl 0 rfl) ?_
    refine lv_aload_n hx hb dX3_everOfFamily_8 rfl (lv_at hl 2 rfl) ?_
    refine va_get (D := (dC, dI)) (C := RX3) (T := TX3) (N := 7) (v := .int (k_umade u)) hx hb hts (fi_X3 _) hown hK hP 2 (cw_at2 _ _ _) rfl 5 (by decide) (hts _ (List.mem_cons_of_mem _ wd_43)) (fun _ h9 => h9) rfl dX3_everOfFamily_9 ?_
    refine lv_icmp_gt (tgt := 49) hx hb dX3_everOfFamily_12 (by decide) (fun c_4 => ?_) (fun c_4 => ?_)
    · skip
      have t_5 : (k_umade u).toInt < i.toInt := i_lt c_4 rfl rfl
      refine lv_iconst (v := (-1)) hx hb dX3_everOfFamily_49 (by decide) ?_
      exact W.iret (v := (-1)) hx hb hr (fun t ht hW => ⟨(-1), rfl, (by rw [he_3, lpX3_everOfFamily_eq, if_pos c_4]), ht⟩) (fun _ h => nomatch h) dX3_everOfFamily_50
    · skip
      have t_6 : i.toInt ≤ (k_umade u).toInt := i_nlt c_4 rfl rfl
      refine lv_lload_n hx hb dX3_everOfFamily_15 rfl (lv_at hl 3 rfl) ?_
      refine lv_lconst (v := 1) hx hb dX3_everOfFamily_16 (by decide) ?_
      refine lv_aload_n hx hb dX3_everOfFamily_17 rfl (lv_at hl 2 rfl) ?_
      refine va_get (D := (dC, dI)) (C := RX3) (T := TX3) (N := 7) (v := .ref (h 20)) hx hb hts (fi_X3 _) hown hK hP 2 (cw_at2 _ _ _) rfl 4 (by decide) (hts _ (List.mem_cons_of_mem _ wd_51)) (fun _ h9 => h9) rfl dX3_everOfFamily_18 ?_
      refine lv_iload hx hb dX3_everOfFamily_21 (lv_at hl 0 rfl) ?_
      refine va_iald (f := k_ufirst u) hx hb hK hP 20 0 (cw_at20 _ _ _) rfl (vp_in_iff.mpr (by omega)) dX3_everOfFamily_23 ?_
      refine lv_lshl (v := (1 : Int64) <<< ((k_ufirst u i.toNatClampNeg).toInt64 &&& 63)) hx hb dX3_everOfFamily_24 rfl ?_
      refine lv_land hx hb dX3_everOfFamily_25 ?_
      refine lv_lconst (v := 0) hx hb dX3_everOfFamily_26 (by decide) ?_
      refine W.lcmp hx hb dX3_everOfFamily_27 ?_
      refine lv_if_eq (tgt := 43) hx hb dX3_everOfFamily_28 (by decide) (fun c_7 => ?_) (fun c_7 => ?_)
      · skip
        have t_8 : (lg_cmp (x1 &&& ((1 : Int64) <<< ((k_ufirst u i.toNatClampNeg).toInt64 &&& 63))) 0).toInt = 0 := i_eq c_7 rfl (by decide)
        refine lv_iinc (v := i + 1) (lv' := [(5, .int (i + 1)), (4, .int a), (0, .ref (h 2)), (1, .long x1), (3, .int x3)]) hx hb dX3_everOfFamily_43 hl (k := 0) rfl rfl (by decide) rfl (fun ls hl => ?_)
        refine lv_goto (tgt := 6) hx hb dX3_everOfFamily_46 (by decide) ?_
        have hb1 := i_inc (x := i) (by omega)
        exact ih_2 _ ⟨(i + 1), a, (by omega), (by omega), (by rw [he_3, lpX3_everOfFamily_eq, if_neg c_4, if_pos c_7]), lv_sub hl [0, 1, 2, 3, 4] rfl⟩
      · skip
        have t_9 : (lg_cmp (x1 &&& ((1 : Int64) <<< ((k_ufirst u i.toNatClampNeg).toInt64 &&& 63))) 0).toInt ≠ 0 := i_ne c_7 rfl (by decide)
        refine lv_iload hx hb dX3_everOfFamily_31 (lv_at hl 1 rfl) ?_
        refine lv_iload_n hx hb dX3_everOfFamily_33 rfl (lv_at hl 4 rfl) ?_
        refine lv_icmp_ne (tgt := 40) hx hb dX3_everOfFamily_34 (by decide) (fun c_10 => ?_) (fun c_10 => ?_)
        · skip
          have t_11 : a.toInt ≠ x3.toInt := i_ne c_10 rfl rfl
          refine lv_iinc (v := a + 1) (lv' := [(4, .int (a + 1)), (5, .int i), (0, .ref (h 2)), (1, .long x1), (3, .int x3)]) hx hb dX3_everOfFamily_40 hl (k := 1) rfl rfl (by decide) rfl (fun ls hl => ?_)
          refine lv_iinc (v := i + 1) (lv' := [(5, .int (i + 1)), (4, .int (a + 1)), (0, .ref (h 2)), (1, .long x1), (3, .int x3)]) hx hb dX3_everOfFamily_43 hl (k := 1) rfl rfl (by decide) rfl (fun ls hl => ?_)
          refine lv_goto (tgt := 6) hx hb dX3_everOfFamily_46 (by decide) ?_
          have hb1 := i_inc (x := i) (by omega)
          exact ih_2 _ ⟨(i + 1), (a + 1), (by omega), (by omega), (by rw [he_3, lpX3_everOfFamily_eq, if_neg c_4, if_neg c_7, if_neg c_10]), lv_sub hl [0, 1, 2, 3, 4] rfl⟩
        · skip
          have t_12 : a.toInt = x3.toInt := i_eq c_10 rfl rfl
          refine lv_iload hx hb dX3_everOfFamily_37 (lv_at hl 0 rfl) ?_
          exact W.iret (v := i) hx hb hr (fun t ht hW => ⟨i, rfl, (by rw [he_3, lpX3_everOfFamily_eq, if_neg c_4, if_neg c_7, if_pos c_10]), ht⟩) (fun _ h => nomatch h) dX3_everOfFamily_39
set_option maxHeartbeats 4000000 in
set_option maxRecDepth 100000 in
theorem kX2_haveRoomFor (l : Launch) (dC : Nat → ClassId) (dI : Nat → Nat → Nat) (g : cG) (h : Nat → Nat) (u : cS) (x1 : Int32) : Met l yX2_haveRoomFor wsX2_haveRoomFor ({ frames := 0, cells := 0, slots := 0, locals := 0 }) (va_Pc [.ref (h 3), .int x1] (fun U => va_P (dC, dI) vwCl (cw g h u) U.heap ∧ va_K (dC, dI) vwCl (cTys g) U)) (vp_Si (fun r => r = fX2_haveRoomFor u x1)) 0 0 (fun _ => False) := by
  refine Met.ofW (cc := cX2_haveRoomFor) (maxL := 2) (ret := (some .boolean)) (by decide) rfl ?_
  intro p e s m args below meth c s₁ B hml hv
  obtain ⟨rfl, hP, hK⟩ := hv
  have hx := B.exec
  have hb := B.bytes
  have hr := B.returns
  have hts := atoms_spec (ws := wsX2_haveRoomFor) B.pre
  have hown : s.vm.findClass RX2 = some m.cls := findClass_of_methodNamed B.named
  have hlocks := B.notSynchronized
  have hS : va_S (fun _ => False) s.heap s.heap [] := va_S.rf
  have hl := lv_entry ([.ref (h 3), .int x1]) (n := 2) (Nat.le_of_ble_eq_true rfl)
  rw [lg_entry_eq]
  generalize (lg_sl ([.ref (h 3), .int x1]) ++ List.replicate (2 - (lg_sl ([.ref (h 3), .int x1])).length) Slot.unset).toArray = ls at hl ⊢
  have hl : lv_has ls 2 [(0, .ref (h 3)), (1, .int x1)] := hl
  refine lv_aload_n hx hb dX2_haveRoomFor_0 rfl (lv_at hl 0 rfl) ?_
  refine va_get (D := (dC, dI)) (C := RX2) (T := TX2) (N := 4) (v := .int (k_rwrit u)) hx hb hts (fi_X2 _) hown hK hP 3 (cw_at3 _ _ _) rfl 3 (by decide) (hts _ (List.mem_cons_of_mem _ wd_52)) (fun _ h9 => h9) rfl dX2_haveRoomFor_1 ?_
  refine lv_iload_n hx hb dX2_haveRoomFor_4 rfl (lv_at hl 1 rfl) ?_
  refine lv_iadd hx hb dX2_haveRoomFor_5 ?_
  refine lv_sipush (v := 400) hx hb dX2_haveRoomFor_6 (by decide) ?_
  refine lv_icmp_gt (tgt := 16) hx hb dX2_haveRoomFor_9 (by decide) (fun c_1 => ?_) (fun c_1 => ?_)
  · skip
    have t_2 : 400 < ((k_rwrit u) + x1).toInt := i_lt c_1 (by decide) rfl
    refine lv_iconst (v := 0) hx hb dX2_haveRoomFor_16 (by decide) ?_
    exact W.zret (v := 0) hx hb hr rfl (fun t ht hW => ⟨0, rfl, (by unfold fX2_haveRoomFor; rw [if_pos c_1]), ht⟩) (fun _ h => nomatch h) dX2_haveRoomFor_17
  · skip
    have t_3 : ((k_rwrit u) + x1).toInt ≤ 400 := i_nlt c_1 (by decide) rfl
    refine lv_iconst (v := 1) hx hb dX2_haveRoomFor_12 (by decide) ?_
    refine lv_goto (tgt := 17) hx hb dX2_haveRoomFor_13 (by decide) ?_
    exact W.zret (v := 1) hx hb hr rfl (fun t ht hW => ⟨1, rfl, (by unfold fX2_haveRoomFor; rw [if_neg c_1]), ht⟩) (fun _ h => nomatch h) dX2_haveRoomFor_17
set_option maxHeartbeats 4000000 in
set_option maxRecDepth 100000 in
theorem kX2_find (l : Launch) (dC : Nat → ClassId) (dI : Nat → Nat → Nat) (g : cG) (h : Nat → Nat) (u : cS) (x1 : Int32) (x2 : Int32) (hI : cInv u) : Met l yX2_find wsX2_find ({ frames := 0, cells := 0, slots := 0, locals := 0 }) (va_Pc [.ref (h 3), .int x1, .int x2] (fun U => va_P (dC, dI) vwCl (cw g h u) U.heap ∧ va_K (dC, dI) vwCl (cTys g) U)) (vp_Si (fun r => r = fX2_find u x1 x2)) 0 0 (fun _ => False) := by
  refine Met.ofW (cc := cX2_find) (maxL := 5) (ret := (some .int)) (by decide) rfl ?_
  intro p e s m args below meth c s₁ B hml hv
  obtain ⟨rfl, hP, hK⟩ := hv
  have hx := B.exec
  have hb := B.bytes
  have hr := B.returns
  have hts := atoms_spec (ws := wsX2_find) B.pre
  have hown : s.vm.findClass RX2 = some m.cls := findClass_of_methodNamed B.named
  have hlocks := B.notSynchronized
  have hS : va_S (fun _ => False) s.heap s.heap [] := va_S.rf
  have hl := lv_entry ([.ref (h 3), .int x1, .int x2]) (n := 5) (Nat.le_of_ble_eq_true rfl)
  rw [lg_entry_eq]
  generalize (lg_sl ([.ref (h 3), .int x1, .int x2]) ++ List.replicate (5 - (lg_sl ([.ref (h 3), .int x1, .int x2])).length) Slot.unset).toArray = ls at hl ⊢
  have hl : lv_has ls 5 [(0, .ref (h 3)), (1, .int x1), (2, .int x2)] := hl
  obtain ⟨hI1, hI2, hI3, hI4, hI5, hI6⟩ := id hI
  have z_0 : (0 : Int32).toInt = 0 := by decide
  refine lv_iconst (v := 0) hx hb dX2_find_0 (by decide) ?_
  refine lv_istore_n (lv' := [(3, .int 0), (0, .ref (h 3)), (1, .int x1), (2, .int x2)]) hx hb dX2_find_1 rfl hl (by decide) rfl (fun ls hl => ?_)
  refine lv_iconst (v := 0) hx hb dX2_find_2 (by decide) ?_
  refine lv_istore (lv' := [(4, .int 0), (3, .int 0), (0, .ref (h 3)), (1, .int x1), (2, .int x2)]) hx hb dX2_find_3 hl (by decide) rfl (fun ls hl => ?_)
  refine lp_ind (W p l e _ s m _ below meth c _ _ _ _ _) (fun n ls => ∃ (i : Int32) (a : Int32), ((k_rwrit u).toInt - i.toInt < (n : Int)) ∧ (0 ≤ i.toInt ∧ i.toInt ≤ 400 ∧ i.toInt ≤ (k_rwrit u).toInt) ∧ fX2_find u x1 x2 = lpX2_find u x1 x2 n i a ∧ lv_has ls 5 [(4, .int i), (3, .int a), (0, .ref (h 3)), (1, .int x1), (2, .int x2)]) m 5 (fun ls hI0 => ?_) (fun n ls hI0 ih => ?_) 401 _ ⟨0, 0, (by omega), (by omega), rfl, lv_sub hl [0, 1, 2, 3, 4] rfl⟩
  · skip
    obtain ⟨i, a, hn, hi, he, hl⟩ := hI0
    exact absurd hn (by omega)
  · skip
    obtain ⟨i, a, hn, hi, he, hl⟩ := hI0
    have he_3 := he
    have ih_2 := ih
    refine lv_iload hx hb dX2_find_5 (lv_at hl 0 rfl) ?_
    refine lv_aload_n hx hb dX2_find_7 rfl (lv_at hl 2 rfl) ?_
    refine va_get (D := (dC, dI)) (C := RX2) (T := TX2) (N := 4) (v := .int (k_rwrit u)) hx hb hts (fi_X2 _) hown hK hP 3 (cw_at3 _ _ _) rfl 3 (by decide) (hts _ (List.mem_cons_of_mem _ wd_52)) (fun _ h9 => h9) rfl dX2_find_8 ?_
    refine lv_icmp_ge (tgt := 42) hx hb dX2_find_11 (by decide) (fun c_4 => ?_) (fun c_4 => ?_)
    · skip
      have t_5 : (k_rwrit u).toInt ≤ i.toInt := i_le c_4 rfl rfl
      refine lv_iconst (v := (-1)) hx hb dX2_find_42 (by decide) ?_
      exact W.iret (v := (-1)) hx hb hr (fun t ht hW => ⟨(-1), rfl, (by rw [he_3, lpX2_find_eq, if_pos c_4]), ht⟩) (fun _ h => nomatch h) dX2_find_43
    · skip
      have t_6 : i.toInt < (k_rwrit u).toInt := i_nle c_4 rfl rfl
      refine lv_aload_n hx hb dX2_find_14 rfl (lv_at hl 2 rfl) ?_
      refine va_get (D := (dC, dI)) (C := RX2) (T := TX2) (N := 4) (v := .ref (h 21)) hx hb hts (fi_X2 _) hown hK hP 3 (cw_at3 _ _ _) rfl 0 (by decide) (hts _ (List.mem_cons_of_mem _ wd_53)) (fun _ h9 => h9) rfl dX2_find_15 ?_
      refine lv_iload hx hb dX2_find_18 (lv_at hl 0 rfl) ?_
      refine va_iald (f := k_rlot u) hx hb hK hP 21 0 (cw_at21 _ _ _) rfl (vp_in_iff.mpr (by omega)) dX2_find_20 ?_
      refine lv_iload_n hx hb dX2_find_21 rfl (lv_at hl 3 rfl) ?_
      refine lv_icmp_ne (tgt := 36) hx hb dX2_find_22 (by decide) (fun c_7 => ?_) (fun c_7 => ?_)
      · skip
        have t_8 : (k_rlot u i.toNatClampNeg).toInt ≠ x1.toInt := i_ne c_7 rfl rfl
        refine lv_iinc (v := i + 1) (lv' := [(4, .int (i + 1)), (3, .int a), (0, .ref (h 3)), (1, .int x1), (2, .int x2)]) hx hb dX2_find_36 hl (k := 0) rfl rfl (by decide) rfl (fun ls hl => ?_)
        refine lv_goto (tgt := 5) hx hb dX2_find_39 (by decide) ?_
        have hb1 := i_inc (x := i) (by omega)
        exact ih_2 _ ⟨(i + 1), a, (by omega), (by omega), (by rw [he_3, lpX2_find_eq, if_neg c_4, if_neg c_7]), lv_sub hl [0, 1, 2, 3, 4] rfl⟩
      · skip
        have t_9 : (k_rlot u i.toNatClampNeg).toInt = x1.toInt := i_eq c_7 rfl rfl
        refine lv_iload_n hx hb dX2_find_25 rfl (lv_at hl 1 rfl) ?_
        refine lv_iload_n hx hb dX2_find_26 rfl (lv_at hl 4 rfl) ?_
        refine lv_icmp_ne (tgt := 33) hx hb dX2_find_27 (by decide) (fun c_10 => ?_) (fun c_10 => ?_)
        · skip
          have t_11 : a.toInt ≠ x2.toInt := i_ne c_10 rfl rfl
          refine lv_iinc (v := a + 1) (lv' := [(3, .int (a + 1)), (4, .int i), (0, .ref (h 3)), (1, .int x1), (2, .int x2)]) hx hb dX2_find_33 hl (k := 1) rfl rfl (by decide) rfl (fun ls hl => ?_)
          refine lv_iinc (v := i + 1) (lv' := [(4, .int (i + 1)), (3, .int (a + 1)), (0, .ref (h 3)), (1, .int x1), (2, .int x2)]) hx hb dX2_find_36 hl (k := 1) rfl rfl (by decide) rfl (fun ls hl => ?_)
          refine lv_goto (tgt := 5) hx hb dX2_find_39 (by decide) ?_
          have hb1 := i_inc (x := i) (by omega)
          exact ih_2 _ ⟨(i + 1), (a + 1), (by omega), (by omega), (by rw [he_3, lpX2_find_eq, if_neg c_4, if_pos c_7, if_neg c_10]), lv_sub hl [0, 1, 2, 3, 4] rfl⟩
        · skip
          have t_12 : a.toInt = x2.toInt := i_eq c_10 rfl rfl
          refine lv_iload hx hb dX2_find_30 (lv_at hl 0 rfl) ?_
          exact W.iret (v := i) hx hb hr (fun t ht hW => ⟨i, rfl, (by rw [he_3, lpX2_find_eq, if_neg c_4, if_pos c_7, if_pos c_10]), ht⟩) (fun _ h => nomatch h) dX2_find_32
set_option maxHeartbeats 4000000 in
set_option maxRecDepth 100000 in
theorem kX1_familyOf (l : Launch) (dC : Nat → ClassId) (dI : Nat → Nat → Nat) (g : cG) (h : Nat → Nat) (u : cS) (x1 : Int32) (hI : cInv u) : Met l yX1_familyOf wsX1_familyOf ({ frames := 0, cells := 0, slots := 0, locals := 0 }) (va_Pc [.ref (h 1), .int x1] (fun U => va_P (dC, dI) vwCl (cw g h u) U.heap ∧ va_K (dC, dI) vwCl (cTys g) U)) (vp_Sl (fun r => r = fX1_familyOf u x1)) 0 0 (fun _ => False) := by
  refine Met.ofW (cc := cX1_familyOf) (maxL := 6) (ret := (some .long)) (by decide) rfl ?_
  intro p e s m args below meth c s₁ B hml hv
  obtain ⟨rfl, hP, hK⟩ := hv
  have hx := B.exec
  have hb := B.bytes
  have hr := B.returns
  have hts := atoms_spec (ws := wsX1_familyOf) B.pre
  have hown : s.vm.findClass RX1 = some m.cls := findClass_of_methodNamed B.named
  have hlocks := B.notSynchronized
  have hS : va_S (fun _ => False) s.heap s.heap [] := va_S.rf
  have hl := lv_entry ([.ref (h 1), .int x1]) (n := 6) (Nat.le_of_ble_eq_true rfl)
  rw [lg_entry_eq]
  generalize (lg_sl ([.ref (h 1), .int x1]) ++ List.replicate (6 - (lg_sl ([.ref (h 1), .int x1])).length) Slot.unset).toArray = ls at hl ⊢
  have hl : lv_has ls 6 [(0, .ref (h 1)), (1, .int x1)] := hl
  obtain ⟨hI1, hI2, hI3, hI4, hI5, hI6⟩ := id hI
  have z_0 : (1 : Int32).toInt = 1 := by decide
  refine lv_lconst (v := 1) hx hb dX1_familyOf_0 (by decide) ?_
  refine lv_iload_n hx hb dX1_familyOf_1 rfl (lv_at hl 1 rfl) ?_
  refine lv_lshl (v := (1 : Int64) <<< (x1.toInt64 &&& 63)) hx hb dX1_familyOf_2 rfl ?_
  refine lv_lstore_n (lv' := [(2, .long ((1 : Int64) <<< (x1.toInt64 &&& 63))), (0, .ref (h 1)), (1, .int x1)]) hx hb dX1_familyOf_3 rfl hl (by decide) rfl (fun ls hl => ?_)
  refine lv_iconst (v := 1) hx hb dX1_familyOf_4 (by decide) ?_
  refine lv_istore (lv' := [(4, .int 1), (2, .long ((1 : Int64) <<< (x1.toInt64 &&& 63))), (0, .ref (h 1)), (1, .int x1)]) hx hb dX1_familyOf_5 hl (by decide) rfl (fun ls hl => ?_)
  refine lp_ind (W p l e _ s m _ below meth c _ _ _ _ _) (fun n ls => ∃ (i : Int32) (f : Int64), ((k_lmade u).toInt - i.toInt + 1 < (n : Int)) ∧ (1 ≤ i.toInt ∧ i.toInt ≤ 41 ∧ i.toInt ≤ (k_lmade u).toInt + 1) ∧ fX1_familyOf u x1 = loX1_familyOf u x1 n i f ∧ lv_has ls 6 [(4, .int i), (2, .long f), (0, .ref (h 1)), (1, .int x1)]) m 7 (fun ls hI0 => ?_) (fun n ls hI0 ih => ?_) 41 _ ⟨1, ((1 : Int64) <<< (x1.toInt64 &&& 63)), (by omega), (by omega), rfl, lv_sub hl [0, 1, 2, 3] rfl⟩
  · skip
    obtain ⟨i, f, hn, hi, he, hl⟩ := hI0
    exact absurd hn (by omega)
  · skip
    obtain ⟨i, f, hn, hi, he, hl⟩ := hI0
    have he_3 := he
    have ih_2 := ih
    refine lv_iload hx hb dX1_familyOf_7 (lv_at hl 0 rfl) ?_
    refine lv_aload_n hx hb dX1_familyOf_9 rfl (lv_at hl 2 rfl) ?_
    refine va_get (D := (dC, dI)) (C := RX1) (T := TX1) (N := 9) (v := .int (k_lmade u)) hx hb hts (fi_X1 _) hown hK hP 1 (cw_at1 _ _ _) rfl 8 (by decide) (hts _ (List.mem_cons_of_mem _ wd_15)) (fun _ h9 => h9) rfl dX1_familyOf_10 ?_
    refine lv_icmp_gt (tgt := 61) hx hb dX1_familyOf_13 (by decide) (fun c_4 => ?_) (fun c_4 => ?_)
    · skip
      have t_5 : (k_lmade u).toInt < i.toInt := i_lt c_4 rfl rfl
      refine lv_lload_n hx hb dX1_familyOf_61 rfl (lv_at hl 1 rfl) ?_
      exact W.lret (v := f) hx hb hr (fun t ht hW => ⟨f, rfl, (by rw [he_3, loX1_familyOf_eq, if_pos c_4]), ht⟩) (fun _ h => nomatch h) dX1_familyOf_62
    · skip
      have t_6 : i.toInt ≤ (k_lmade u).toInt := i_nlt c_4 rfl rfl
      refine lv_iconst (v := 1) hx hb dX1_familyOf_16 (by decide) ?_
      refine lv_istore (lv' := [(5, .int 1), (4, .int i), (2, .long f), (0, .ref (h 1)), (1, .int x1)]) hx hb dX1_familyOf_17 hl (by decide) rfl (fun ls hl => ?_)
      refine lp_ind (W p l e _ s m _ below meth c _ _ _ _ _) (fun n2 ls => ∃ (k : Int32) (f : Int64), ((k_lmade u).toInt - k.toInt + 1 < (n2 : Int)) ∧ (1 ≤ k.toInt ∧ k.toInt ≤ 41 ∧ k.toInt ≤ (k_lmade u).toInt + 1) ∧ fX1_familyOf u x1 = loX1_familyOf u x1 n (i + 1) (liX1_familyOf u n2 k f) ∧ lv_has ls 6 [(5, .int k), (2, .long f), (0, .ref (h 1)), (1, .int x1), (4, .int i)]) m 19 (fun ls hI0 => ?_) (fun n2 ls hI0 ih => ?_) 41 _ ⟨1, f, (by omega), (by omega), (by rw [he_3, loX1_familyOf_eq, if_neg c_4]), lv_sub hl [0, 2, 3, 4, 1] rfl⟩
      · skip
        obtain ⟨k, f, hn2, hk, he, hl⟩ := hI0
        exact absurd hn2 (by omega)
      · skip
        obtain ⟨k, f, hn2, hk, he, hl⟩ := hI0
        have he_9 := he
        have ih_8 := ih
        refine lv_iload hx hb dX1_familyOf_19 (lv_at hl 0 rfl) ?_
        refine lv_aload_n hx hb dX1_familyOf_21 rfl (lv_at hl 2 rfl) ?_
        refine va_get (D := (dC, dI)) (C := RX1) (T := TX1) (N := 9) (v := .int (k_lmade u)) hx hb hts (fi_X1 _) hown hK hP 1 (cw_at1 _ _ _) rfl 8 (by decide) (hts _ (List.mem_cons_of_mem _ wd_15)) (fun _ h9 => h9) rfl dX1_familyOf_22 ?_
        refine lv_icmp_gt (tgt := 55) hx hb dX1_familyOf_25 (by decide) (fun c_10 => ?_) (fun c_10 => ?_)
        · skip
          have t_11 : (k_lmade u).toInt < k.toInt := i_lt c_10 rfl rfl
          have he_12 : fX1_familyOf u x1 = loX1_familyOf u x1 n (i + 1) f := (by rw [he_9, liX1_familyOf_eq, if_pos c_10])
          refine lv_iinc (v := i + 1) (lv' := [(4, .int (i + 1)), (5, .int k), (2, .long f), (0, .ref (h 1)), (1, .int x1)]) hx hb dX1_familyOf_55 hl (k := 4) rfl rfl (by decide) rfl (fun ls hl => ?_)
          refine lv_goto (tgt := 7) hx hb dX1_familyOf_58 (by decide) ?_
          have hb1 := i_inc (x := i) (by omega)
          exact ih_2 _ ⟨(i + 1), f, (by omega), (by omega), (by rw [he_12]), lv_sub hl [0, 2, 3, 4] rfl⟩
        · skip
          have t_13 : k.toInt ≤ (k_lmade u).toInt := i_nlt c_10 rfl rfl
          refine lv_lload_n hx hb dX1_familyOf_28 rfl (lv_at hl 1 rfl) ?_
          refine lv_lconst (v := 1) hx hb dX1_familyOf_29 (by decide) ?_
          refine lv_iload hx hb dX1_familyOf_30 (lv_at hl 0 rfl) ?_
          refine lv_lshl (v := (1 : Int64) <<< (k.toInt64 &&& 63)) hx hb dX1_familyOf_32 rfl ?_
          refine lv_land hx hb dX1_familyOf_33 ?_
          refine lv_lconst (v := 0) hx hb dX1_familyOf_34 (by decide) ?_
          refine W.lcmp hx hb dX1_familyOf_35 ?_
          refine lv_if_eq (tgt := 49) hx hb dX1_familyOf_36 (by decide) (fun c_14 => ?_) (fun c_14 => ?_)
          · skip
            have t_15 : (lg_cmp (f &&& ((1 : Int64) <<< (k.toInt64 &&& 63))) 0).toInt = 0 := i_eq c_14 rfl (by decide)
            refine lv_iinc (v := k + 1) (lv' := [(5, .int (k + 1)), (2, .long f), (0, .ref (h 1)), (1, .int x1), (4, .int i)]) hx hb dX1_familyOf_49 hl (k := 0) rfl rfl (by decide) rfl (fun ls hl => ?_)
            refine lv_goto (tgt := 19) hx hb dX1_familyOf_52 (by decide) ?_
            have hb2 := i_inc (x := k) (by omega)
            exact ih_8 _ ⟨(k + 1), f, (by omega), (by omega), (by rw [he_9, liX1_familyOf_eq, if_neg c_10, if_pos c_14]), lv_sub hl [0, 1, 2, 3, 4] rfl⟩
          · skip
            have t_16 : (lg_cmp (f &&& ((1 : Int64) <<< (k.toInt64 &&& 63))) 0).toInt ≠ 0 := i_ne c_14 rfl (by decide)
            refine lv_lload_n hx hb dX1_familyOf_39 rfl (lv_at hl 1 rfl) ?_
            refine lv_aload_n hx hb dX1_familyOf_40 rfl (lv_at hl 2 rfl) ?_
            refine va_get (D := (dC, dI)) (C := RX1) (T := TX1) (N := 9) (v := .ref (h 15)) hx hb hts (fi_X1 _) hown hK hP 1 (cw_at1 _ _ _) rfl 7 (by decide) (hts _ (List.mem_cons_of_mem _ wd_54)) (fun _ h9 => h9) rfl dX1_familyOf_41 ?_
            refine lv_iload hx hb dX1_familyOf_44 (lv_at hl 0 rfl) ?_
            refine va_lald (f := k_kin u) hx hb hK hP 15 2 (cw_at15 _ _ _) rfl (vp_in_iff.mpr (by omega)) dX1_familyOf_46 ?_
            refine lv_lor hx hb dX1_familyOf_47 ?_
            refine lv_lstore_n (lv' := [(2, .long (f ||| (k_kin u k.toNatClampNeg))), (5, .int k), (0, .ref (h 1)), (1, .int x1), (4, .int i)]) hx hb dX1_familyOf_48 rfl hl (by decide) rfl (fun ls hl => ?_)
            refine lv_iinc (v := k + 1) (lv' := [(5, .int (k + 1)), (2, .long (f ||| (k_kin u k.toNatClampNeg))), (0, .ref (h 1)), (1, .int x1), (4, .int i)]) hx hb dX1_familyOf_49 hl (k := 1) rfl rfl (by decide) rfl (fun ls hl => ?_)
            refine lv_goto (tgt := 19) hx hb dX1_familyOf_52 (by decide) ?_
            have hb2 := i_inc (x := k) (by omega)
            exact ih_8 _ ⟨(k + 1), (f ||| (k_kin u k.toNatClampNeg)), (by omega), (by omega), (by rw [he_9, liX1_familyOf_eq, if_neg c_10, if_neg c_14]), lv_sub hl [0, 1, 2, 3, 4] rfl⟩
set_option maxHeartbeats 4000000 in
set_option maxRecDepth 100000 in
theorem kX0_startOfYear (l : Launch) (dC : Nat → ClassId) (dI : Nat → Nat → Nat) (x0 : Int32) : Met l yX0_startOfYear wsX0_startOfYear ({ frames := 0, cells := 0, slots := 0, locals := 0 }) (va_Pc [.int x0] (fun U => True)) (vp_Si (fun r => r = fX0_startOfYear x0)) 0 0 (fun _ => False) := by
  refine Met.ofW (cc := cX0_startOfYear) (maxL := 1) (ret := (some .int)) (by decide) rfl ?_
  intro p e s m args below meth c s₁ B hml hv
  obtain ⟨rfl, -⟩ := hv
  have hx := B.exec
  have hb := B.bytes
  have hr := B.returns
  have hts := atoms_spec (ws := wsX0_startOfYear) B.pre
  have hown : s.vm.findClass RX0 = some m.cls := findClass_of_methodNamed B.named
  have hlocks := B.notSynchronized
  have hS : va_S (fun _ => False) s.heap s.heap [] := va_S.rf
  have hl := lv_entry ([.int x0]) (n := 1) (Nat.le_of_ble_eq_true rfl)
  rw [lg_entry_eq]
  generalize (lg_sl ([.int x0]) ++ List.replicate (1 - (lg_sl ([.int x0])).length) Slot.unset).toArray = ls at hl ⊢
  have hl : lv_has ls 1 [(0, .int x0)] := hl
  refine lv_iload_n hx hb dX0_startOfYear_0 rfl (lv_at hl 0 rfl) ?_
  refine lv_sipush (v := 365) hx hb dX0_startOfYear_1 (by decide) ?_
  refine lv_imul hx hb dX0_startOfYear_4 ?_
  refine lv_iload_n hx hb dX0_startOfYear_5 rfl (lv_at hl 0 rfl) ?_
  refine lv_iconst (v := 3) hx hb dX0_startOfYear_6 (by decide) ?_
  refine lv_iadd hx hb dX0_startOfYear_7 ?_
  refine lv_iconst (v := 4) hx hb dX0_startOfYear_8 (by decide) ?_
  refine lv_idiv hx hb dX0_startOfYear_9 (by decide) ?_
  refine lv_iadd hx hb dX0_startOfYear_10 ?_
  exact W.iret (v := (x0 * 365) + ((x0 + 3) / 4)) hx hb hr (fun t ht hW => ⟨((x0 * 365) + ((x0 + 3) / 4)), rfl, rfl, ht⟩) (fun _ h => nomatch h) dX0_startOfYear_11
set_option maxHeartbeats 4000000 in
set_option maxRecDepth 100000 in
theorem kX0_daysBefore (l : Launch) (dC : Nat → ClassId) (dI : Nat → Nat → Nat) (x0 : Int32) (x1 : Int32) (h1 : 1 ≤ x1.toInt ∧ x1.toInt ≤ 13) : Met l yX0_daysBefore wsX0_daysBefore ({ frames := 0, cells := 0, slots := 0, locals := 0 }) (va_Pc [.int x0, .int x1] (fun U => zr U U.heap)) (vp_Si (fun r => r = fX0_daysBefore x0 x1)) 0 0 (fun _ => False) := by
  refine Met.ofW (cc := cX0_daysBefore) (maxL := 3) (ret := (some .int)) (by decide) rfl ?_
  intro p e s m args below meth c s₁ B hml hv
  obtain ⟨rfl, hZ⟩ := hv
  have hx := B.exec
  have hb := B.bytes
  have hr := B.returns
  have hts := atoms_spec (ws := wsX0_daysBefore) B.pre
  have hown : s.vm.findClass RX0 = some m.cls := findClass_of_methodNamed B.named
  have hlocks := B.notSynchronized
  have hS : va_S (fun _ => False) s.heap s.heap [] := va_S.rf
  have hl := lv_entry ([.int x0, .int x1]) (n := 3) (Nat.le_of_ble_eq_true rfl)
  rw [lg_entry_eq]
  generalize (lg_sl ([.int x0, .int x1]) ++ List.replicate (3 - (lg_sl ([.int x0, .int x1])).length) Slot.unset).toArray = ls at hl ⊢
  have hl : lv_has ls 3 [(0, .int x0), (1, .int x1)] := hl
  obtain ⟨tb, hZ1, hZ2⟩ := id hZ
  have hs1 := i_dec1 (x := x1) (by omega)
  refine lv_iload_n hx hb dX0_daysBefore_0 rfl (lv_at hl 0 rfl) ?_
  refine lv_iconst (v := 4) hx hb dX0_daysBefore_1 (by decide) ?_
  refine lv_irem hx hb dX0_daysBefore_2 (by decide) ?_
  refine lv_if_ne (tgt := 15) hx hb dX0_daysBefore_3 (by decide) (fun c_1 => ?_) (fun c_1 => ?_)
  · skip
    have t_2 : (x0 - x0 / 4 * 4).toInt ≠ 0 := i_ne c_1 rfl (by decide)
    refine lv_iconst (v := 0) hx hb dX0_daysBefore_15 (by decide) ?_
    refine lv_istore_n (lv' := [(2, .int 0), (0, .int x0), (1, .int x1)]) hx hb dX0_daysBefore_16 rfl hl (by decide) rfl (fun ls hl => ?_)
    refine va_gets hx hb hZ1 hS hown (hts _ (List.mem_cons_of_mem _ wd_55)) (fun _ h9 => h9) dX0_daysBefore_17 ?_
    refine lv_iload_n hx hb dX0_daysBefore_20 rfl (lv_at hl 2 rfl) ?_
    refine lv_iconst (v := 1) hx hb dX0_daysBefore_21 (by decide) ?_
    refine lv_isub hx hb dX0_daysBefore_22 ?_
    refine va_ti hx hb hZ2 hS (vp_in_iff.mpr (by omega)) rfl dX0_daysBefore_23 ?_
    refine lv_iload_n hx hb dX0_daysBefore_24 rfl (lv_at hl 0 rfl) ?_
    refine lv_iadd hx hb dX0_daysBefore_25 ?_
    exact W.iret (v := (c_tab (x1 - 1).toNatClampNeg) + 0) hx hb hr (fun t ht hW => ⟨((c_tab (x1 - 1).toNatClampNeg) + 0), rfl, (by unfold fX0_daysBefore; rw [if_neg c_1]), ht⟩) (fun _ h => nomatch h) dX0_daysBefore_26
  · skip
    have t_3 : (x0 - x0 / 4 * 4).toInt = 0 := i_eq c_1 rfl (by decide)
    refine lv_iload_n hx hb dX0_daysBefore_6 rfl (lv_at hl 1 rfl) ?_
    refine lv_iconst (v := 2) hx hb dX0_daysBefore_7 (by decide) ?_
    refine lv_icmp_le (tgt := 15) hx hb dX0_daysBefore_8 (by decide) (fun c_4 => ?_) (fun c_4 => ?_)
    · skip
      have t_5 : x1.toInt ≤ 2 := i_le c_4 rfl (by decide)
      refine lv_iconst (v := 0) hx hb dX0_daysBefore_15 (by decide) ?_
      refine lv_istore_n (lv' := [(2, .int 0), (0, .int x0), (1, .int x1)]) hx hb dX0_daysBefore_16 rfl hl (by decide) rfl (fun ls hl => ?_)
      refine va_gets hx hb hZ1 hS hown (hts _ (List.mem_cons_of_mem _ wd_55)) (fun _ h9 => h9) dX0_daysBefore_17 ?_
      refine lv_iload_n hx hb dX0_daysBefore_20 rfl (lv_at hl 2 rfl) ?_
      refine lv_iconst (v := 1) hx hb dX0_daysBefore_21 (by decide) ?_
      refine lv_isub hx hb dX0_daysBefore_22 ?_
      refine va_ti hx hb hZ2 hS (vp_in_iff.mpr (by omega)) rfl dX0_daysBefore_23 ?_
      refine lv_iload_n hx hb dX0_daysBefore_24 rfl (lv_at hl 0 rfl) ?_
      refine lv_iadd hx hb dX0_daysBefore_25 ?_
      exact W.iret (v := (c_tab (x1 - 1).toNatClampNeg) + 0) hx hb hr (fun t ht hW => ⟨((c_tab (x1 - 1).toNatClampNeg) + 0), rfl, (by unfold fX0_daysBefore; rw [if_pos c_1, if_pos c_4]), ht⟩) (fun _ h => nomatch h) dX0_daysBefore_26
    · skip
      have t_6 : 2 < x1.toInt := i_nle c_4 rfl (by decide)
      refine lv_iconst (v := 1) hx hb dX0_daysBefore_11 (by decide) ?_
      refine lv_goto (tgt := 16) hx hb dX0_daysBefore_12 (by decide) ?_
      refine lv_istore_n (lv' := [(2, .int 1), (0, .int x0), (1, .int x1)]) hx hb dX0_daysBefore_16 rfl hl (by decide) rfl (fun ls hl => ?_)
      refine va_gets hx hb hZ1 hS hown (hts _ (List.mem_cons_of_mem _ wd_55)) (fun _ h9 => h9) dX0_daysBefore_17 ?_
      refine lv_iload_n hx hb dX0_daysBefore_20 rfl (lv_at hl 2 rfl) ?_
      refine lv_iconst (v := 1) hx hb dX0_daysBefore_21 (by decide) ?_
      refine lv_isub hx hb dX0_daysBefore_22 ?_
      refine va_ti hx hb hZ2 hS (vp_in_iff.mpr (by omega)) rfl dX0_daysBefore_23 ?_
      refine lv_iload_n hx hb dX0_daysBefore_24 rfl (lv_at hl 0 rfl) ?_
      refine lv_iadd hx hb dX0_daysBefore_25 ?_
      exact W.iret (v := (c_tab (x1 - 1).toNatClampNeg) + 1) hx hb hr (fun t ht hW => ⟨((c_tab (x1 - 1).toNatClampNeg) + 1), rfl, (by unfold fX0_daysBefore; rw [if_pos c_1, if_neg c_4]), ht⟩) (fun _ h => nomatch h) dX0_daysBefore_26
set_option maxHeartbeats 4000000 in
set_option maxRecDepth 100000 in
theorem kX0_fromYearDay (l : Launch) (dC : Nat → ClassId) (dI : Nat → Nat → Nat) (x0 : Int32) (x1 : Int32) : Met l yX0_fromYearDay wsX0_fromYearDay ({ frames := 1, cells := 0, slots := 0, locals := 22 }) (va_Pc [.int x0, .int x1] (fun U => zr U U.heap)) (vp_Si (fun r => r = fX0_fromYearDay x0 x1)) 0 0 (fun _ => False) := by
  refine Met.ofW (cc := cX0_fromYearDay) (maxL := 2) (ret := (some .int)) (by decide) rfl ?_
  intro p e s m args below meth c s₁ B hml hv
  obtain ⟨rfl, hZ⟩ := hv
  have hx := B.exec
  have hb := B.bytes
  have hr := B.returns
  have hts := atoms_spec (ws := wsX0_fromYearDay) B.pre
  have hown : s.vm.findClass RX0 = some m.cls := findClass_of_methodNamed B.named
  have hlocks := B.notSynchronized
  have hS : va_S (fun _ => False) s.heap s.heap [] := va_S.rf
  have hl := lv_entry ([.int x0, .int x1]) (n := 2) (Nat.le_of_ble_eq_true rfl)
  rw [lg_entry_eq]
  generalize (lg_sl ([.int x0, .int x1]) ++ List.replicate (2 - (lg_sl ([.int x0, .int x1])).length) Slot.unset).toArray = ls at hl ⊢
  have hl : lv_has ls 2 [(0, .int x0), (1, .int x1)] := hl
  refine lv_iload_n hx hb dX0_fromYearDay_0 rfl (lv_at hl 1 rfl) ?_
  refine lv_iconst (v := 1) hx hb dX0_fromYearDay_1 (by decide) ?_
  refine lv_icmp_lt (tgt := 15) hx hb dX0_fromYearDay_2 (by decide) (fun c_1 => ?_) (fun c_1 => ?_)
  · skip
    have t_2 : x1.toInt < 1 := i_lt c_1 rfl (by decide)
    refine lv_iconst (v := (-1)) hx hb dX0_fromYearDay_15 (by decide) ?_
    exact W.iret (v := (-1)) hx hb hr (fun t ht hW => ⟨(-1), rfl, (by unfold fX0_fromYearDay; rw [if_pos c_1]), ht⟩) (fun _ h => nomatch h) dX0_fromYearDay_16
  · skip
    have t_3 : 1 ≤ x1.toInt := i_nlt c_1 rfl (by decide)
    refine lv_iload_n hx hb dX0_fromYearDay_5 rfl (lv_at hl 1 rfl) ?_
    refine lv_iload_n hx hb dX0_fromYearDay_6 rfl (lv_at hl 0 rfl) ?_
    refine lv_bipush (v := 13) hx hb dX0_fromYearDay_7 (by decide) ?_
    refine vp_callSi (W.runS (As := [.int x0, .int 13]) (rest := [.int x1]) ⟨hx, hb, hml, hown, hts⟩ (kX0_daysBefore l dC dI x0 13 (by decide)) (cwS 2 hts (gS wd_56 wd_57 wd_58 wcX0_daysBefore) rfl rfl rfl (by decide +kernel) ⟨(Nat.le_of_ble_eq_true rfl), (Nat.le_of_ble_eq_true rfl)⟩) ⟨fun a U g mk q => by obtain ⟨q0, qZ⟩ := q; exact ⟨q0, zr_same (u := U) (H := U.heap) rfl rfl qZ⟩, fun U hU hW => ⟨rfl, by show zr U U.heap; rw [hU]; exact zr_to2 hZ hS hW⟩⟩ rfl rfl hl.1 rfl (lv_room (Nat.le_of_ble_eq_true rfl)) dX0_fromYearDay_9 ⟨(Nat.le_of_ble_eq_true rfl), (Nat.le_of_ble_eq_true rfl)⟩) (fun r_4 hw => ?_)
    subst hw
    refine lv_icmp_le (tgt := 17) hx hb dX0_fromYearDay_12 (by decide) (fun c_5 => ?_) (fun c_5 => ?_)
    · skip
      have t_6 : x1.toInt ≤ (fX0_daysBefore x0 13).toInt := i_le c_5 rfl rfl
      refine lv_iload_n hx hb dX0_fromYearDay_17 rfl (lv_at hl 0 rfl) ?_
      refine vp_callSi (W.runS (As := [.int x0]) (rest := []) ⟨hx, hb, hml, hown, hts⟩ (kX0_startOfYear l dC dI x0) (cwS 1 hts (gS wd_60 wd_61 wd_58 wcX0_startOfYear) rfl rfl rfl (by decide +kernel) ⟨(Nat.le_of_ble_eq_true rfl), (Nat.le_of_ble_eq_true rfl)⟩) ⟨fun a U g mk q => by obtain ⟨q0, qT⟩ := q; exact ⟨q0, qT⟩, fun U hU hW => ⟨rfl, trivial⟩⟩ rfl rfl hl.1 rfl (lv_room (Nat.le_of_ble_eq_true rfl)) dX0_fromYearDay_18 ⟨(Nat.le_of_ble_eq_true rfl), (Nat.le_of_ble_eq_true rfl)⟩) (fun r_7 hw => ?_)
      subst hw
      refine lv_iload_n hx hb dX0_fromYearDay_21 rfl (lv_at hl 1 rfl) ?_
      refine lv_iadd hx hb dX0_fromYearDay_22 ?_
      refine lv_iconst (v := 1) hx hb dX0_fromYearDay_23 (by decide) ?_
      refine lv_isub hx hb dX0_fromYearDay_24 ?_
      exact W.iret (v := ((fX0_startOfYear x0) + x1) - 1) hx hb hr (fun t ht hW => ⟨(((fX0_startOfYear x0) + x1) - 1), rfl, (by unfold fX0_fromYearDay; rw [if_neg c_1, if_pos c_5]), ht⟩) (fun _ h => nomatch h) dX0_fromYearDay_25
    · skip
      have t_8 : (fX0_daysBefore x0 13).toInt < x1.toInt := i_nle c_5 rfl rfl
      refine lv_iconst (v := (-1)) hx hb dX0_fromYearDay_15 (by decide) ?_
      exact W.iret (v := (-1)) hx hb hr (fun t ht hW => ⟨(-1), rfl, (by unfold fX0_fromYearDay; rw [if_neg c_1, if_neg c_5]), ht⟩) (fun _ h => nomatch h) dX0_fromYearDay_16
set_option maxHeartbeats 4000000 in
set_option maxRecDepth 100000 in
theorem kX0_fromMonthDay (l : Launch) (dC : Nat → ClassId) (dI : Nat → Nat → Nat) (x0 : Int32) (x1 : Int32) (x2 : Int32) : Met l yX0_fromMonthDay wsX0_fromMonthDay ({ frames := 2, cells := 0, slots := 0, locals := 43 }) (va_Pc [.int x0, .int x1, .int x2] (fun U => zr U U.heap)) (vp_Si (fun r => r = fX0_fromMonthDay x0 x1 x2)) 0 0 (fun _ => False) := by
  refine Met.ofW (cc := cX0_fromMonthDay) (maxL := 4) (ret := (some .int)) (by decide) rfl ?_
  intro p e s m args below meth c s₁ B hml hv
  obtain ⟨rfl, hZ⟩ := hv
  have hx := B.exec
  have hb := B.bytes
  have hr := B.returns
  have hts := atoms_spec (ws := wsX0_fromMonthDay) B.pre
  have hown : s.vm.findClass RX0 = some m.cls := findClass_of_methodNamed B.named
  have hlocks := B.notSynchronized
  have hS : va_S (fun _ => False) s.heap s.heap [] := va_S.rf
  have hl := lv_entry ([.int x0, .int x1, .int x2]) (n := 4) (Nat.le_of_ble_eq_true rfl)
  rw [lg_entry_eq]
  generalize (lg_sl ([.int x0, .int x1, .int x2]) ++ List.replicate (4 - (lg_sl ([.int x0, .int x1, .int x2])).length) Slot.unset).toArray = ls at hl ⊢
  have hl : lv_has ls 4 [(0, .int x0), (1, .int x1), (2, .int x2)] := hl
  refine lv_iload_n hx hb dX0_fromMonthDay_0 rfl (lv_at hl 1 rfl) ?_
  refine lv_iconst (v := 1) hx hb dX0_fromMonthDay_1 (by decide) ?_
  refine lv_icmp_lt (tgt := 16) hx hb dX0_fromMonthDay_2 (by decide) (fun c_1 => ?_) (fun c_1 => ?_)
  · skip
    have t_2 : x1.toInt < 1 := i_lt c_1 rfl (by decide)
    refine lv_iconst (v := (-1)) hx hb dX0_fromMonthDay_16 (by decide) ?_
    exact W.iret (v := (-1)) hx hb hr (fun t ht hW => ⟨(-1), rfl, (by unfold fX0_fromMonthDay; rw [if_pos c_1]), ht⟩) (fun _ h => nomatch h) dX0_fromMonthDay_17
  · skip
    have t_3 : 1 ≤ x1.toInt := i_nlt c_1 rfl (by decide)
    refine lv_iload_n hx hb dX0_fromMonthDay_5 rfl (lv_at hl 1 rfl) ?_
    refine lv_bipush (v := 12) hx hb dX0_fromMonthDay_6 (by decide) ?_
    refine lv_icmp_gt (tgt := 16) hx hb dX0_fromMonthDay_8 (by decide) (fun c_4 => ?_) (fun c_4 => ?_)
    · skip
      have t_5 : 12 < x1.toInt := i_lt c_4 (by decide) rfl
      refine lv_iconst (v := (-1)) hx hb dX0_fromMonthDay_16 (by decide) ?_
      exact W.iret (v := (-1)) hx hb hr (fun t ht hW => ⟨(-1), rfl, (by unfold fX0_fromMonthDay; rw [if_neg c_1, if_pos c_4]), ht⟩) (fun _ h => nomatch h) dX0_fromMonthDay_17
    · skip
      have t_6 : x1.toInt ≤ 12 := i_nlt c_4 (by decide) rfl
      refine lv_iload_n hx hb dX0_fromMonthDay_11 rfl (lv_at hl 2 rfl) ?_
      refine lv_iconst (v := 1) hx hb dX0_fromMonthDay_12 (by decide) ?_
      refine lv_icmp_ge (tgt := 18) hx hb dX0_fromMonthDay_13 (by decide) (fun c_7 => ?_) (fun c_7 => ?_)
      · skip
        have t_8 : 1 ≤ x2.toInt := i_le c_7 (by decide) rfl
        refine lv_iload_n hx hb dX0_fromMonthDay_18 rfl (lv_at hl 0 rfl) ?_
        refine lv_iload_n hx hb dX0_fromMonthDay_19 rfl (lv_at hl 1 rfl) ?_
        refine vp_callSi (W.runS (As := [.int x0, .int x1]) (rest := []) ⟨hx, hb, hml, hown, hts⟩ (kX0_daysBefore l dC dI x0 x1 (by omega)) (cwS 2 hts (gS wd_56 wd_57 wd_58 wcX0_daysBefore) rfl rfl rfl (by decide +kernel) ⟨(Nat.le_of_ble_eq_true rfl), (Nat.le_of_ble_eq_true rfl)⟩) ⟨fun a U g mk q => by obtain ⟨q0, qZ⟩ := q; exact ⟨q0, zr_same (u := U) (H := U.heap) rfl rfl qZ⟩, fun U hU hW => ⟨rfl, by show zr U U.heap; rw [hU]; exact zr_to2 hZ hS hW⟩⟩ rfl rfl hl.1 rfl (lv_room (Nat.le_of_ble_eq_true rfl)) dX0_fromMonthDay_20 ⟨(Nat.le_of_ble_eq_true rfl), (Nat.le_of_ble_eq_true rfl)⟩) (fun r_9 hw => ?_)
        subst hw
        refine lv_iload_n hx hb dX0_fromMonthDay_23 rfl (lv_at hl 2 rfl) ?_
        refine lv_iadd hx hb dX0_fromMonthDay_24 ?_
        refine lv_istore_n (lv' := [(3, .int ((fX0_daysBefore x0 x1) + x2)), (0, .int x0), (1, .int x1), (2, .int x2)]) hx hb dX0_fromMonthDay_25 rfl hl (by decide) rfl (fun ls hl => ?_)
        refine lv_iload_n hx hb dX0_fromMonthDay_26 rfl (lv_at hl 0 rfl) ?_
        refine lv_iload_n hx hb dX0_fromMonthDay_27 rfl (lv_at hl 1 rfl) ?_
        refine lv_iload_n hx hb dX0_fromMonthDay_28 rfl (lv_at hl 2 rfl) ?_
        refine lv_iconst (v := 1) hx hb dX0_fromMonthDay_29 (by decide) ?_
        refine lv_iadd hx hb dX0_fromMonthDay_30 ?_
        refine vp_callSi (W.runS (As := [.int x0, .int (x1 + 1)]) (rest := [.int ((fX0_daysBefore x0 x1) + x2)]) ⟨hx, hb, hml, hown, hts⟩ (kX0_daysBefore l dC dI x0 (x1 + 1) (by have hs1 := i_inc (x := x1) (by omega); omega)) (cwS 2 hts (gS wd_56 wd_57 wd_58 wcX0_daysBefore) rfl rfl rfl (by decide +kernel) ⟨(Nat.le_of_ble_eq_true rfl), (Nat.le_of_ble_eq_true rfl)⟩) ⟨fun a U g mk q => by obtain ⟨q0, qZ⟩ := q; exact ⟨q0, zr_same (u := U) (H := U.heap) rfl rfl qZ⟩, fun U hU hW => ⟨rfl, by show zr U U.heap; rw [hU]; exact zr_to2 hZ hS hW⟩⟩ rfl rfl hl.1 rfl (lv_room (Nat.le_of_ble_eq_true rfl)) dX0_fromMonthDay_31 ⟨(Nat.le_of_ble_eq_true rfl), (Nat.le_of_ble_eq_true rfl)⟩) (fun r_10 hw => ?_)
        subst hw
        refine lv_icmp_le (tgt := 39) hx hb dX0_fromMonthDay_34 (by decide) (fun c_11 => ?_) (fun c_11 => ?_)
        · skip
          have t_12 : ((fX0_daysBefore x0 x1) + x2).toInt ≤ (fX0_daysBefore x0 (x1 + 1)).toInt := i_le c_11 rfl rfl
          refine lv_iload_n hx hb dX0_fromMonthDay_39 rfl (lv_at hl 1 rfl) ?_
          refine lv_iload_n hx hb dX0_fromMonthDay_40 rfl (lv_at hl 0 rfl) ?_
          refine vp_callSi (W.runS (As := [.int x0, .int ((fX0_daysBefore x0 x1) + x2)]) (rest := []) ⟨hx, hb, hml, hown, hts⟩ (kX0_fromYearDay l dC dI x0 ((fX0_daysBefore x0 x1) + x2)) (cwS 2 hts (gS wd_63 wd_64 wd_58 wcX0_fromYearDay) rfl rfl rfl (by decide +kernel) ⟨(Nat.le_of_ble_eq_true rfl), (Nat.le_of_ble_eq_true rfl)⟩) ⟨fun a U g mk q => by obtain ⟨q0, qZ⟩ := q; exact ⟨q0, zr_same (u := U) (H := U.heap) rfl rfl qZ⟩, fun U hU hW => ⟨rfl, by show zr U U.heap; rw [hU]; exact zr_to2 hZ hS hW⟩⟩ rfl rfl hl.1 rfl (lv_room (Nat.le_of_ble_eq_true rfl)) dX0_fromMonthDay_41 ⟨(Nat.le_of_ble_eq_true rfl), (Nat.le_of_ble_eq_true rfl)⟩) (fun r_13 hw => ?_)
          subst hw
          exact W.iret (v := fX0_fromYearDay x0 ((fX0_daysBefore x0 x1) + x2)) hx hb hr (fun t ht hW => ⟨(fX0_fromYearDay x0 ((fX0_daysBefore x0 x1) + x2)), rfl, (by unfold fX0_fromMonthDay; rw [if_neg c_1, if_neg c_4, if_pos c_7, if_pos c_11]), ht⟩) (fun _ h => nomatch h) dX0_fromMonthDay_44
        · skip
          have t_14 : (fX0_daysBefore x0 (x1 + 1)).toInt < ((fX0_daysBefore x0 x1) + x2).toInt := i_nle c_11 rfl rfl
          refine lv_iconst (v := (-1)) hx hb dX0_fromMonthDay_37 (by decide) ?_
          exact W.iret (v := (-1)) hx hb hr (fun t ht hW => ⟨(-1), rfl, (by unfold fX0_fromMonthDay; rw [if_neg c_1, if_neg c_4, if_pos c_7, if_neg c_11]), ht⟩) (fun _ h => nomatch h) dX0_fromMonthDay_38
      · skip
        have t_15 : x2.toInt < 1 := i_nle c_7 (by decide) rfl
        refine lv_iconst (v := (-1)) hx hb dX0_fromMonthDay_16 (by decide) ?_
        exact W.iret (v := (-1)) hx hb hr (fun t ht hW => ⟨(-1), rfl, (by unfold fX0_fromMonthDay; rw [if_neg c_1, if_neg c_4, if_neg c_7]), ht⟩) (fun _ h => nomatch h) dX0_fromMonthDay_17
set_option maxHeartbeats 4000000 in
set_option maxRecDepth 100000 in
theorem kX0_yearOf (l : Launch) (dC : Nat → ClassId) (dI : Nat → Nat → Nat) (x0 : Int32) : Met l yX0_yearOf wsX0_yearOf ({ frames := 1, cells := 0, slots := 0, locals := 20 }) (va_Pc [.int x0] (fun U => True)) (vp_Si (fun r => r = fX0_yearOf x0)) 0 0 (fun _ => False) := by
  refine Met.ofW (cc := cX0_yearOf) (maxL := 2) (ret := (some .int)) (by decide) rfl ?_
  intro p e s m args below meth c s₁ B hml hv
  obtain ⟨rfl, -⟩ := hv
  have hx := B.exec
  have hb := B.bytes
  have hr := B.returns
  have hts := atoms_spec (ws := wsX0_yearOf) B.pre
  have hown : s.vm.findClass RX0 = some m.cls := findClass_of_methodNamed B.named
  have hlocks := B.notSynchronized
  have hS : va_S (fun _ => False) s.heap s.heap [] := va_S.rf
  have hl := lv_entry ([.int x0]) (n := 2) (Nat.le_of_ble_eq_true rfl)
  rw [lg_entry_eq]
  generalize (lg_sl ([.int x0]) ++ List.replicate (2 - (lg_sl ([.int x0])).length) Slot.unset).toArray = ls at hl ⊢
  have hl : lv_has ls 2 [(0, .int x0)] := hl
  have z_0 : (99 : Int32).toInt = 99 := by decide
  refine lv_bipush (v := 99) hx hb dX0_yearOf_0 (by decide) ?_
  refine lv_istore_n (lv' := [(1, .int 99), (0, .int x0)]) hx hb dX0_yearOf_2 rfl hl (by decide) rfl (fun ls hl => ?_)
  refine lp_ind (W p l e _ s m _ below meth c _ _ _ _ _) (fun n ls => ∃ (i : Int32), (i.toInt < (n : Int)) ∧ (0 ≤ i.toInt ∧ i.toInt ≤ 99) ∧ fX0_yearOf x0 = lpX0_yearOf x0 n i ∧ lv_has ls 2 [(1, .int i), (0, .int x0)]) m 3 (fun ls hI0 => ?_) (fun n ls hI0 ih => ?_) 100 _ ⟨99, (by omega), (by omega), rfl, lv_sub hl [0, 1] rfl⟩
  · skip
    obtain ⟨i, hn, hi, he, hl⟩ := hI0
    exact absurd hn (by omega)
  · skip
    obtain ⟨i, hn, hi, he, hl⟩ := hI0
    have he_3 := he
    have ih_2 := ih
    refine lv_iload_n hx hb dX0_yearOf_3 rfl (lv_at hl 0 rfl) ?_
    refine lv_if_le (tgt := 23) hx hb dX0_yearOf_4 (by decide) (fun c_4 => ?_) (fun c_4 => ?_)
    · skip
      have t_5 : i.toInt ≤ 0 := i_le c_4 rfl (by decide)
      refine lv_iconst (v := 0) hx hb dX0_yearOf_23 (by decide) ?_
      exact W.iret (v := 0) hx hb hr (fun t ht hW => ⟨0, rfl, (by rw [he_3, lpX0_yearOf_eq, if_pos c_4]), ht⟩) (fun _ h => nomatch h) dX0_yearOf_24
    · skip
      have t_6 : 0 < i.toInt := i_nle c_4 rfl (by decide)
      refine lv_iload_n hx hb dX0_yearOf_7 rfl (lv_at hl 0 rfl) ?_
      refine vp_callSi (W.runS (As := [.int i]) (rest := []) ⟨hx, hb, hml, hown, hts⟩ (kX0_startOfYear l dC dI i) (cwS 1 hts (gS wd_60 wd_61 wd_58 wcX0_startOfYear) rfl rfl rfl (by decide +kernel) ⟨(Nat.le_of_ble_eq_true rfl), (Nat.le_of_ble_eq_true rfl)⟩) ⟨fun a U g mk q => by obtain ⟨q0, qT⟩ := q; exact ⟨q0, qT⟩, fun U hU hW => ⟨rfl, trivial⟩⟩ rfl rfl hl.1 rfl (lv_room (Nat.le_of_ble_eq_true rfl)) dX0_yearOf_8 ⟨(Nat.le_of_ble_eq_true rfl), (Nat.le_of_ble_eq_true rfl)⟩) (fun r_7 hw => ?_)
      subst hw
      refine lv_iload_n hx hb dX0_yearOf_11 rfl (lv_at hl 1 rfl) ?_
      refine lv_icmp_gt (tgt := 17) hx hb dX0_yearOf_12 (by decide) (fun c_8 => ?_) (fun c_8 => ?_)
      · skip
        have t_9 : x0.toInt < (fX0_startOfYear i).toInt := i_lt c_8 rfl rfl
        refine lv_iinc (v := i + (-1)) (lv' := [(1, .int (i + (-1))), (0, .int x0)]) hx hb dX0_yearOf_17 hl (k := 0) rfl rfl (by decide) rfl (fun ls hl => ?_)
        refine lv_goto (tgt := 3) hx hb dX0_yearOf_20 (by decide) ?_
        have hb1 := i_dec (x := i) (by omega)
        exact ih_2 _ ⟨(i + (-1)), (by omega), (by omega), (by rw [he_3, lpX0_yearOf_eq, if_neg c_4, if_pos c_8]), lv_sub hl [0, 1] rfl⟩
      · skip
        have t_10 : (fX0_startOfYear i).toInt ≤ x0.toInt := i_nlt c_8 rfl rfl
        refine lv_iload_n hx hb dX0_yearOf_15 rfl (lv_at hl 0 rfl) ?_
        exact W.iret (v := i) hx hb hr (fun t ht hW => ⟨i, rfl, (by rw [he_3, lpX0_yearOf_eq, if_neg c_4, if_neg c_8]), ht⟩) (fun _ h => nomatch h) dX0_yearOf_16
set_option maxHeartbeats 4000000 in
set_option maxRecDepth 100000 in
theorem kX0_monthOf (l : Launch) (dC : Nat → ClassId) (dI : Nat → Nat → Nat) (x0 : Int32) (x1 : Int32) : Met l yX0_monthOf wsX0_monthOf ({ frames := 1, cells := 0, slots := 0, locals := 22 }) (va_Pc [.int x0, .int x1] (fun U => zr U U.heap)) (vp_Si (fun r => r = fX0_monthOf x0 x1)) 0 0 (fun _ => False) := by
  refine Met.ofW (cc := cX0_monthOf) (maxL := 3) (ret := (some .int)) (by decide) rfl ?_
  intro p e s m args below meth c s₁ B hml hv
  obtain ⟨rfl, hZ⟩ := hv
  have hx := B.exec
  have hb := B.bytes
  have hr := B.returns
  have hts := atoms_spec (ws := wsX0_monthOf) B.pre
  have hown : s.vm.findClass RX0 = some m.cls := findClass_of_methodNamed B.named
  have hlocks := B.notSynchronized
  have hS : va_S (fun _ => False) s.heap s.heap [] := va_S.rf
  have hl := lv_entry ([.int x0, .int x1]) (n := 3) (Nat.le_of_ble_eq_true rfl)
  rw [lg_entry_eq]
  generalize (lg_sl ([.int x0, .int x1]) ++ List.replicate (3 - (lg_sl ([.int x0, .int x1])).length) Slot.unset).toArray = ls at hl ⊢
  have hl : lv_has ls 3 [(0, .int x0), (1, .int x1)] := hl
  have z_0 : (12 : Int32).toInt = 12 := by decide
  refine lv_bipush (v := 12) hx hb dX0_monthOf_0 (by decide) ?_
  refine lv_istore_n (lv' := [(2, .int 12), (0, .int x0), (1, .int x1)]) hx hb dX0_monthOf_2 rfl hl (by decide) rfl (fun ls hl => ?_)
  refine lp_ind (W p l e _ s m _ below meth c _ _ _ _ _) (fun n ls => ∃ (i : Int32), (i.toInt - 1 < (n : Int)) ∧ (1 ≤ i.toInt ∧ i.toInt ≤ 12) ∧ fX0_monthOf x0 x1 = lpX0_monthOf x0 x1 n i ∧ lv_has ls 3 [(2, .int i), (0, .int x0), (1, .int x1)]) m 3 (fun ls hI0 => ?_) (fun n ls hI0 ih => ?_) 12 _ ⟨12, (by omega), (by omega), rfl, lv_sub hl [0, 1, 2] rfl⟩
  · skip
    obtain ⟨i, hn, hi, he, hl⟩ := hI0
    exact absurd hn (by omega)
  · skip
    obtain ⟨i, hn, hi, he, hl⟩ := hI0
    have he_3 := he
    have ih_2 := ih
    refine lv_iload_n hx hb dX0_monthOf_3 rfl (lv_at hl 0 rfl) ?_
    refine lv_iconst (v := 1) hx hb dX0_monthOf_4 (by decide) ?_
    refine lv_icmp_le (tgt := 25) hx hb dX0_monthOf_5 (by decide) (fun c_4 => ?_) (fun c_4 => ?_)
    · skip
      have t_5 : i.toInt ≤ 1 := i_le c_4 rfl (by decide)
      refine lv_iconst (v := 1) hx hb dX0_monthOf_25 (by decide) ?_
      exact W.iret (v := 1) hx hb hr (fun t ht hW => ⟨1, rfl, (by rw [he_3, lpX0_monthOf_eq, if_pos c_4]), ht⟩) (fun _ h => nomatch h) dX0_monthOf_26
    · skip
      have t_6 : 1 < i.toInt := i_nle c_4 rfl (by decide)
      refine lv_iload_n hx hb dX0_monthOf_8 rfl (lv_at hl 1 rfl) ?_
      refine lv_iload_n hx hb dX0_monthOf_9 rfl (lv_at hl 0 rfl) ?_
      refine vp_callSi (W.runS (As := [.int x0, .int i]) (rest := []) ⟨hx, hb, hml, hown, hts⟩ (kX0_daysBefore l dC dI x0 i (by omega)) (cwS 2 hts (gS wd_56 wd_57 wd_58 wcX0_daysBefore) rfl rfl rfl (by decide +kernel) ⟨(Nat.le_of_ble_eq_true rfl), (Nat.le_of_ble_eq_true rfl)⟩) ⟨fun a U g mk q => by obtain ⟨q0, qZ⟩ := q; exact ⟨q0, zr_same (u := U) (H := U.heap) rfl rfl qZ⟩, fun U hU hW => ⟨rfl, by show zr U U.heap; rw [hU]; exact zr_to2 hZ hS hW⟩⟩ rfl rfl hl.1 rfl (lv_room (Nat.le_of_ble_eq_true rfl)) dX0_monthOf_10 ⟨(Nat.le_of_ble_eq_true rfl), (Nat.le_of_ble_eq_true rfl)⟩) (fun r_7 hw => ?_)
      subst hw
      refine lv_iload_n hx hb dX0_monthOf_13 rfl (lv_at hl 2 rfl) ?_
      refine lv_icmp_ge (tgt := 19) hx hb dX0_monthOf_14 (by decide) (fun c_8 => ?_) (fun c_8 => ?_)
      · skip
        have t_9 : x1.toInt ≤ (fX0_daysBefore x0 i).toInt := i_le c_8 rfl rfl
        refine lv_iinc (v := i + (-1)) (lv' := [(2, .int (i + (-1))), (0, .int x0), (1, .int x1)]) hx hb dX0_monthOf_19 hl (k := 0) rfl rfl (by decide) rfl (fun ls hl => ?_)
        refine lv_goto (tgt := 3) hx hb dX0_monthOf_22 (by decide) ?_
        have hb1 := i_dec (x := i) (by omega)
        exact ih_2 _ ⟨(i + (-1)), (by omega), (by omega), (by rw [he_3, lpX0_monthOf_eq, if_neg c_4, if_pos c_8]), lv_sub hl [0, 1, 2] rfl⟩
      · skip
        have t_10 : (fX0_daysBefore x0 i).toInt < x1.toInt := i_nle c_8 rfl rfl
        refine lv_iload_n hx hb dX0_monthOf_17 rfl (lv_at hl 0 rfl) ?_
        exact W.iret (v := i) hx hb hr (fun t ht hW => ⟨i, rfl, (by rw [he_3, lpX0_monthOf_eq, if_neg c_4, if_neg c_8]), ht⟩) (fun _ h => nomatch h) dX0_monthOf_18
end
section
set_option maxHeartbeats 4000000 in
set_option maxRecDepth 100000 in
theorem kX1_add (l : Launch) (dC : Nat → ClassId) (dI : Nat → Nat → Nat) (g : cG) (h : Nat → Nat) (u : cS) (sz : Nat) (x1 : Int32) (x2 : Int32) (x3 : Int32) (x4 : Int32) (hr : 0 ≤ (k_lmade u).toInt ∧ (k_lmade u).toInt < 40) : Met l yX1_add wsX1_add ({ frames := 0, cells := 0, slots := 0, locals := 0 }) (va_Pc [.ref (h 1), .int x1, .int x2, .int x3, .int x4] (fun U => U.heap.size = sz ∧ va_P (dC, dI) vwCl (cw g h u) U.heap ∧ va_K (dC, dI) vwCl (cTys g) U ∧ va_D (fun _ => True) (cw g h u))) (va_Qi (fun (r : Int32) u2 => (r, u2) = fX1_add u x1 x2 x3 x4) (fun (u2 : cS) (t : State) => va_P (dC, dI) vwCl (cw g h u2) t.heap ∧ va_D (va_A (cw g h u) sz) (cw g h u2)) (va_A (cw g h u) sz)) 0 0 (va_A (cw g h u) sz) := by
  refine Met.ofW (cc := cX1_add) (maxL := 5) (ret := (some .int)) (by decide) rfl ?_
  intro p e s m args below meth c s₁ B hml hv
  obtain ⟨rfl, hsz, hP, hK, hD0⟩ := hv
  have hx := B.exec
  have hb := B.bytes
  have hr := B.returns
  have hts := atoms_spec (ws := wsX1_add) B.pre
  have hown : s.vm.findClass RX1 = some m.cls := findClass_of_methodNamed B.named
  have hlocks := B.notSynchronized
  subst hsz
  have hD := hD0.self (sz := s.heap.size)
  generalize hAe : va_A (cw g h u) s.heap.size = A at hD ⊢
  have hA : ∀ q : Nat, s.heap.size ≤ q → A q := fun q h => by rw [← hAe]; exact Or.inr h
  have hS : va_S A s.heap s.heap [] := va_S.rf
  have hl := lv_entry ([.ref (h 1), .int x1, .int x2, .int x3, .int x4]) (n := 5) (Nat.le_of_ble_eq_true rfl)
  rw [lg_entry_eq]
  generalize (lg_sl ([.ref (h 1), .int x1, .int x2, .int x3, .int x4]) ++ List.replicate (5 - (lg_sl ([.ref (h 1), .int x1, .int x2, .int x3, .int x4])).length) Slot.unset).toArray = ls at hl ⊢
  have hl : lv_has ls 5 [(0, .ref (h 1)), (1, .int x1), (2, .int x2), (3, .int x3), (4, .int x4)] := hl
  have hm1 := i_inc (x := k_lmade u) (by omega)
  refine lv_aload_n hx hb dX1_add_0 rfl (lv_at hl 0 rfl) ?_
  refine lv_dup hx hb dX1_add_1 rfl ?_
  refine va_get (D := (dC, dI)) (C := RX1) (T := TX1) (N := 9) (v := .int (k_lmade u)) hx hb hts (fi_X1 _) hown hK hP 1 (cw_at1 _ _ _) rfl 8 (by decide) (hts _ (List.mem_cons_of_mem _ wd_15)) (fun _ h9 => h9) rfl dX1_add_2 ?_
  refine lv_iconst (v := 1) hx hb dX1_add_5 (by decide) ?_
  refine lv_iadd hx hb dX1_add_6 ?_
  refine va_put (D := (dC, dI)) (C := RX1) (T := TX1) (N := 9) (v := .int ((k_lmade u) + 1)) (ty := .int) hx hb hts (fi_X1 _) tyX1 tyX1_ok nmX1 hown hK hP hD hS 1 (cw_at1 _ _ _) rfl 8 (by decide) (hts _ (List.mem_cons_of_mem _ wd_15)) (fun _ h9 => h9) rfl (by decide +kernel) rfl rfl (Nat.le_of_ble_eq_true rfl) dX1_add_7 (fun H locs hP hD hS => ?_)
  have hP : va_P (dC, dI) vwCl (cw g h (s_lmade u ((k_lmade u) + 1))) H := hP
  have hD : va_D A (cw g h (s_lmade u ((k_lmade u) + 1))) := hD
  refine lv_aload_n hx hb dX1_add_10 rfl (lv_at hl 0 rfl) ?_
  refine va_get (D := (dC, dI)) (C := RX1) (T := TX1) (N := 9) (v := .ref (h 8)) hx hb hts (fi_X1 _) hown hK hP 1 (cw_at1 _ _ _) rfl 0 (by decide) (hts _ (List.mem_cons_of_mem _ wd_16)) (fun _ h9 => h9) rfl dX1_add_11 ?_
  refine lv_aload_n hx hb dX1_add_14 rfl (lv_at hl 0 rfl) ?_
  refine va_get (D := (dC, dI)) (C := RX1) (T := TX1) (N := 9) (v := .int ((k_lmade u) + 1)) hx hb hts (fi_X1 _) hown hK hP 1 (cw_at1 _ _ _) rfl 8 (by decide) (hts _ (List.mem_cons_of_mem _ wd_15)) (fun _ h9 => h9) rfl dX1_add_15 ?_
  refine lv_iload_n hx hb dX1_add_18 rfl (lv_at hl 1 rfl) ?_
  refine va_iast (f := k_goods u) hx hb hK hP hD hS 8 0 (cw_at8 _ _ _) rfl (vp_in_iff.mpr (by omega)) dX1_add_19 (fun H locs hP hD hS => ?_)
  have hP : va_P (dC, dI) vwCl (cw g h (s_goods (s_lmade u ((k_lmade u) + 1)) (upd (k_goods u) ((k_lmade u) + 1).toNatClampNeg x1))) H := hP
  have hD : va_D A (cw g h (s_goods (s_lmade u ((k_lmade u) + 1)) (upd (k_goods u) ((k_lmade u) + 1).toNatClampNeg x1))) := hD
  refine lv_aload_n hx hb dX1_add_20 rfl (lv_at hl 0 rfl) ?_
  refine va_get (D := (dC, dI)) (C := RX1) (T := TX1) (N := 9) (v := .ref (h 9)) hx hb hts (fi_X1 _) hown hK hP 1 (cw_at1 _ _ _) rfl 1 (by decide) (hts _ (List.mem_cons_of_mem _ wd_17)) (fun _ h9 => h9) rfl dX1_add_21 ?_
  refine lv_aload_n hx hb dX1_add_24 rfl (lv_at hl 0 rfl) ?_
  refine va_get (D := (dC, dI)) (C := RX1) (T := TX1) (N := 9) (v := .int ((k_lmade u) + 1)) hx hb hts (fi_X1 _) hown hK hP 1 (cw_at1 _ _ _) rfl 8 (by decide) (hts _ (List.mem_cons_of_mem _ wd_15)) (fun _ h9 => h9) rfl dX1_add_25 ?_
  refine lv_iload_n hx hb dX1_add_28 rfl (lv_at hl 2 rfl) ?_
  refine va_iast (f := k_owners u) hx hb hK hP hD hS 9 0 (cw_at9 _ _ _) rfl (vp_in_iff.mpr (by omega)) dX1_add_29 (fun H locs hP hD hS => ?_)
  have hP : va_P (dC, dI) vwCl (cw g h (s_owners (s_goods (s_lmade u ((k_lmade u) + 1)) (upd (k_goods u) ((k_lmade u) + 1).toNatClampNeg x1)) (upd (k_owners u) ((k_lmade u) + 1).toNatClampNeg x2))) H := hP
  have hD : va_D A (cw g h (s_owners (s_goods (s_lmade u ((k_lmade u) + 1)) (upd (k_goods u) ((k_lmade u) + 1).toNatClampNeg x1)) (upd (k_owners u) ((k_lmade u) + 1).toNatClampNeg x2))) := hD
  refine lv_aload_n hx hb dX1_add_30 rfl (lv_at hl 0 rfl) ?_
  refine va_get (D := (dC, dI)) (C := RX1) (T := TX1) (N := 9) (v := .ref (h 10)) hx hb hts (fi_X1 _) hown hK hP 1 (cw_at1 _ _ _) rfl 2 (by decide) (hts _ (List.mem_cons_of_mem _ wd_18)) (fun _ h9 => h9) rfl dX1_add_31 ?_
  refine lv_aload_n hx hb dX1_add_34 rfl (lv_at hl 0 rfl) ?_
  refine va_get (D := (dC, dI)) (C := RX1) (T := TX1) (N := 9) (v := .int ((k_lmade u) + 1)) hx hb hts (fi_X1 _) hown hK hP 1 (cw_at1 _ _ _) rfl 8 (by decide) (hts _ (List.mem_cons_of_mem _ wd_15)) (fun _ h9 => h9) rfl dX1_add_35 ?_
  refine lv_iload_n hx hb dX1_add_38 rfl (lv_at hl 3 rfl) ?_
  refine va_iast (f := k_last u) hx hb hK hP hD hS 10 0 (cw_at10 _ _ _) rfl (vp_in_iff.mpr (by omega)) dX1_add_39 (fun H locs hP hD hS => ?_)
  have hP : va_P (dC, dI) vwCl (cw g h (s_last (s_owners (s_goods (s_lmade u ((k_lmade u) + 1)) (upd (k_goods u) ((k_lmade u) + 1).toNatClampNeg x1)) (upd (k_owners u) ((k_lmade u) + 1).toNatClampNeg x2)) (upd (k_last u) ((k_lmade u) + 1).toNatClampNeg x3))) H := hP
  have hD : va_D A (cw g h (s_last (s_owners (s_goods (s_lmade u ((k_lmade u) + 1)) (upd (k_goods u) ((k_lmade u) + 1).toNatClampNeg x1)) (upd (k_owners u) ((k_lmade u) + 1).toNatClampNeg x2)) (upd (k_last u) ((k_lmade u) + 1).toNatClampNeg x3))) := hD
  refine lv_aload_n hx hb dX1_add_40 rfl (lv_at hl 0 rfl) ?_
  refine va_get (D := (dC, dI)) (C := RX1) (T := TX1) (N := 9) (v := .ref (h 11)) hx hb hts (fi_X1 _) hown hK hP 1 (cw_at1 _ _ _) rfl 3 (by decide) (hts _ (List.mem_cons_of_mem _ wd_30)) (fun _ h9 => h9) rfl dX1_add_41 ?_
  refine lv_aload_n hx hb dX1_add_44 rfl (lv_at hl 0 rfl) ?_
  refine va_get (D := (dC, dI)) (C := RX1) (T := TX1) (N := 9) (v := .int ((k_lmade u) + 1)) hx hb hts (fi_X1 _) hown hK hP 1 (cw_at1 _ _ _) rfl 8 (by decide) (hts _ (List.mem_cons_of_mem _ wd_15)) (fun _ h9 => h9) rfl dX1_add_45 ?_
  refine lv_iload hx hb dX1_add_48 (lv_at hl 4 rfl) ?_
  refine va_iast (f := k_arr u) hx hb hK hP hD hS 11 0 (cw_at11 _ _ _) rfl (vp_in_iff.mpr (by omega)) dX1_add_50 (fun H locs hP hD hS => ?_)
  have hP : va_P (dC, dI) vwCl (cw g h (s_arr (s_last (s_owners (s_goods (s_lmade u ((k_lmade u) + 1)) (upd (k_goods u) ((k_lmade u) + 1).toNatClampNeg x1)) (upd (k_owners u) ((k_lmade u) + 1).toNatClampNeg x2)) (upd (k_last u) ((k_lmade u) + 1).toNatClampNeg x3)) (upd (k_arr u) ((k_lmade u) + 1).toNatClampNeg x4))) H := hP
  have hD : va_D A (cw g h (s_arr (s_last (s_owners (s_goods (s_lmade u ((k_lmade u) + 1)) (upd (k_goods u) ((k_lmade u) + 1).toNatClampNeg x1)) (upd (k_owners u) ((k_lmade u) + 1).toNatClampNeg x2)) (upd (k_last u) ((k_lmade u) + 1).toNatClampNeg x3)) (upd (k_arr u) ((k_lmade u) + 1).toNatClampNeg x4))) := hD
  refine lv_aload_n hx hb dX1_add_51 rfl (lv_at hl 0 rfl) ?_
  refine va_get (D := (dC, dI)) (C := RX1) (T := TX1) (N := 9) (v := .ref (h 12)) hx hb hts (fi_X1 _) hown hK hP 1 (cw_at1 _ _ _) rfl 4 (by decide) (hts _ (List.mem_cons_of_mem _ wd_24)) (fun _ h9 => h9) rfl dX1_add_52 ?_
  refine lv_aload_n hx hb dX1_add_55 rfl (lv_at hl 0 rfl) ?_
  refine va_get (D := (dC, dI)) (C := RX1) (T := TX1) (N := 9) (v := .int ((k_lmade u) + 1)) hx hb hts (fi_X1 _) hown hK hP 1 (cw_at1 _ _ _) rfl 8 (by decide) (hts _ (List.mem_cons_of_mem _ wd_15)) (fun _ h9 => h9) rfl dX1_add_56 ?_
  refine lv_iconst (v := 1) hx hb dX1_add_59 (by decide) ?_
  refine va_zast (f := k_open u) hx hb hK hP hD hS 12 1 (cw_at12 _ _ _) rfl (vp_in_iff.mpr (by omega)) dX1_add_60 (fun H locs hP hD hS => ?_)
  have hP : va_P (dC, dI) vwCl (cw g h (s_open (s_arr (s_last (s_owners (s_goods (s_lmade u ((k_lmade u) + 1)) (upd (k_goods u) ((k_lmade u) + 1).toNatClampNeg x1)) (upd (k_owners u) ((k_lmade u) + 1).toNatClampNeg x2)) (upd (k_last u) ((k_lmade u) + 1).toNatClampNeg x3)) (upd (k_arr u) ((k_lmade u) + 1).toNatClampNeg x4)) (upd (k_open u) ((k_lmade u) + 1).toNatClampNeg (vp_nar .boolean 1)))) H := hP
  have hD : va_D A (cw g h (s_open (s_arr (s_last (s_owners (s_goods (s_lmade u ((k_lmade u) + 1)) (upd (k_goods u) ((k_lmade u) + 1).toNatClampNeg x1)) (upd (k_owners u) ((k_lmade u) + 1).toNatClampNeg x2)) (upd (k_last u) ((k_lmade u) + 1).toNatClampNeg x3)) (upd (k_arr u) ((k_lmade u) + 1).toNatClampNeg x4)) (upd (k_open u) ((k_lmade u) + 1).toNatClampNeg (vp_nar .boolean 1)))) := hD
  refine lv_aload_n hx hb dX1_add_61 rfl (lv_at hl 0 rfl) ?_
  refine va_get (D := (dC, dI)) (C := RX1) (T := TX1) (N := 9) (v := .int ((k_lmade u) + 1)) hx hb hts (fi_X1 _) hown hK hP 1 (cw_at1 _ _ _) rfl 8 (by decide) (hts _ (List.mem_cons_of_mem _ wd_15)) (fun _ h9 => h9) rfl dX1_add_62 ?_
  exact W.iret (v := (k_lmade u) + 1) hx hb hr (fun t ht hW => ⟨⟨((k_lmade u) + 1), (s_open (s_arr (s_last (s_owners (s_goods (s_lmade u ((k_lmade u) + 1)) (upd (k_goods u) ((k_lmade u) + 1).toNatClampNeg x1)) (upd (k_owners u) ((k_lmade u) + 1).toNatClampNeg x2)) (upd (k_last u) ((k_lmade u) + 1).toNatClampNeg x3)) (upd (k_arr u) ((k_lmade u) + 1).toNatClampNeg x4)) (upd (k_open u) ((k_lmade u) + 1).toNatClampNeg (vp_nar .boolean 1))), rfl, rfl, by rw [ht]; exact hP, hD⟩, hS.F ht⟩) hS.2.2 dX1_add_65
set_option maxHeartbeats 4000000 in
set_option maxRecDepth 100000 in
theorem kX1_addPartOf (l : Launch) (dC : Nat → ClassId) (dI : Nat → Nat → Nat) (g : cG) (h : Nat → Nat) (u : cS) (sz : Nat) (x1 : Int32) (h1 : 0 ≤ x1.toInt ∧ x1.toInt ≤ 40) (hr : 0 ≤ (k_lmade u).toInt ∧ (k_lmade u).toInt < 40) : Met l yX1_addPartOf wsX1_addPartOf ({ frames := 1, cells := 0, slots := 0, locals := 24 }) (va_Pc [.ref (h 1), .int x1] (fun U => U.heap.size = sz ∧ va_P (dC, dI) vwCl (cw g h u) U.heap ∧ va_K (dC, dI) vwCl (cTys g) U ∧ va_D (fun _ => True) (cw g h u))) (va_Qi (fun (r : Int32) u2 => (r, u2) = fX1_addPartOf u x1) (fun (u2 : cS) (t : State) => va_P (dC, dI) vwCl (cw g h u2) t.heap ∧ va_D (va_A (cw g h u) sz) (cw g h u2)) (va_A (cw g h u) sz)) 0 0 (va_A (cw g h u) sz) := by
  refine Met.ofW (cc := cX1_addPartOf) (maxL := 3) (ret := (some .int)) (by decide) rfl ?_
  intro p e s m args below meth c s₁ B hml hv
  obtain ⟨rfl, hsz, hP, hK, hD0⟩ := hv
  have hx := B.exec
  have hb := B.bytes
  have hr := B.returns
  have hts := atoms_spec (ws := wsX1_addPartOf) B.pre
  have hown : s.vm.findClass RX1 = some m.cls := findClass_of_methodNamed B.named
  have hlocks := B.notSynchronized
  subst hsz
  have hD := hD0.self (sz := s.heap.size)
  generalize hAe : va_A (cw g h u) s.heap.size = A at hD ⊢
  have hA : ∀ q : Nat, s.heap.size ≤ q → A q := fun q h => by rw [← hAe]; exact Or.inr h
  have hS : va_S A s.heap s.heap [] := va_S.rf
  have hl := lv_entry ([.ref (h 1), .int x1]) (n := 3) (Nat.le_of_ble_eq_true rfl)
  rw [lg_entry_eq]
  generalize (lg_sl ([.ref (h 1), .int x1]) ++ List.replicate (3 - (lg_sl ([.ref (h 1), .int x1])).length) Slot.unset).toArray = ls at hl ⊢
  have hl : lv_has ls 3 [(0, .ref (h 1)), (1, .int x1)] := hl
  have hm1 := i_inc (x := k_lmade u) (by omega)
  refine lv_aload_n hx hb dX1_addPartOf_0 rfl (lv_at hl 0 rfl) ?_
  refine lv_aload_n hx hb dX1_addPartOf_1 rfl (lv_at hl 0 rfl) ?_
  refine va_get (D := (dC, dI)) (C := RX1) (T := TX1) (N := 9) (v := .ref (h 8)) hx hb hts (fi_X1 _) hown hK hP 1 (cw_at1 _ _ _) rfl 0 (by decide) (hts _ (List.mem_cons_of_mem _ wd_16)) (fun _ h9 => h9) rfl dX1_addPartOf_2 ?_
  refine lv_iload_n hx hb dX1_addPartOf_5 rfl (lv_at hl 1 rfl) ?_
  refine va_iald (f := k_goods u) hx hb hK hP 8 0 (cw_at8 _ _ _) rfl (vp_in_iff.mpr (by omega)) dX1_addPartOf_6 ?_
  refine lv_aload_n hx hb dX1_addPartOf_7 rfl (lv_at hl 0 rfl) ?_
  refine va_get (D := (dC, dI)) (C := RX1) (T := TX1) (N := 9) (v := .ref (h 9)) hx hb hts (fi_X1 _) hown hK hP 1 (cw_at1 _ _ _) rfl 1 (by decide) (hts _ (List.mem_cons_of_mem _ wd_17)) (fun _ h9 => h9) rfl dX1_addPartOf_8 ?_
  refine lv_iload_n hx hb dX1_addPartOf_11 rfl (lv_at hl 1 rfl) ?_
  refine va_iald (f := k_owners u) hx hb hK hP 9 0 (cw_at9 _ _ _) rfl (vp_in_iff.mpr (by omega)) dX1_addPartOf_12 ?_
  refine lv_aload_n hx hb dX1_addPartOf_13 rfl (lv_at hl 0 rfl) ?_
  refine va_get (D := (dC, dI)) (C := RX1) (T := TX1) (N := 9) (v := .ref (h 10)) hx hb hts (fi_X1 _) hown hK hP 1 (cw_at1 _ _ _) rfl 2 (by decide) (hts _ (List.mem_cons_of_mem _ wd_18)) (fun _ h9 => h9) rfl dX1_addPartOf_14 ?_
  refine lv_iload_n hx hb dX1_addPartOf_17 rfl (lv_at hl 1 rfl) ?_
  refine va_iald (f := k_last u) hx hb hK hP 10 0 (cw_at10 _ _ _) rfl (vp_in_iff.mpr (by omega)) dX1_addPartOf_18 ?_
  refine lv_aload_n hx hb dX1_addPartOf_19 rfl (lv_at hl 0 rfl) ?_
  refine va_get (D := (dC, dI)) (C := RX1) (T := TX1) (N := 9) (v := .ref (h 11)) hx hb hts (fi_X1 _) hown hK hP 1 (cw_at1 _ _ _) rfl 3 (by decide) (hts _ (List.mem_cons_of_mem _ wd_30)) (fun _ h9 => h9) rfl dX1_addPartOf_20 ?_
  refine lv_iload_n hx hb dX1_addPartOf_23 rfl (lv_at hl 1 rfl) ?_
  refine va_iald (f := k_arr u) hx hb hK hP 11 0 (cw_at11 _ _ _) rfl (vp_in_iff.mpr (by omega)) dX1_addPartOf_24 ?_
  have hFc := va_free (wc := cw g h u) hD hS hA [0, 1, 2, 3, 4, 5, 6, 7, 8, 9, 10, 11, 12, 13, 14, 15, 16, 17, 18, 19, 20, 21, 22, 23] rfl
  refine va_calli (va_runV (As := [.int (k_goods u x1.toNatClampNeg), .int (k_owners u x1.toNatClampNeg), .int (k_last u x1.toNatClampNeg), .int (k_arr u x1.toNatClampNeg)]) (rest := []) ⟨hx, hb, hml, hown, hts⟩ (kX1_add l dC dI g h u _ (k_goods u x1.toNatClampNeg) (k_owners u x1.toNatClampNeg) (k_last u x1.toNatClampNeg) (k_arr u x1.toNatClampNeg) (by omega)) (cwV 4 hts (gV wd_66 wd_67 wd_68 wd_28 wcX1_add) rfl rfl rfl (by decide +kernel) ⟨(Nat.le_of_ble_eq_true rfl), (Nat.le_of_ble_eq_true rfl)⟩) ⟨fun a U g mk q => by obtain ⟨q0, q1, qP, qK, qD⟩ := q; exact ⟨q0, q1, qP, va_K.moved (u := U) (U := U.calling g mk a) (Vm.Alike.refl U.vm) qK, qD⟩, va_recv hK hP (ci := 0) (q0 := 1) rfl (cw_at1 _ _ _), fun U hU hW => ⟨rfl, by rw [hU], by rw [hU]; exact hP, va_K.moved hW.alike hK, hD.weaken (fun _ _ _ _ => trivial)⟩⟩ rfl rfl hl.1 rfl (lv_room (Nat.le_of_ble_eq_true rfl)) dX1_addPartOf_25 ⟨(Nat.le_of_ble_eq_true rfl), (Nat.le_of_ble_eq_true rfl)⟩) hS (fun q _ h => hFc q h) hFc (fun r_2 u_1 t H locs ht hvm hw hB hz1 hk1 hS => ?_)
  obtain ⟨hP, hD⟩ := hB
  rw [ht] at hP
  have hD := hD.weaken (fun _ _ _ h => hFc _ h)
  have e_3 : r_2 = (fX1_add u (k_goods u x1.toNatClampNeg) (k_owners u x1.toNatClampNeg) (k_last u x1.toNatClampNeg) (k_arr u x1.toNatClampNeg)).1 := congrArg Prod.fst hw
  have e_4 : u_1 = (fX1_add u (k_goods u x1.toNatClampNeg) (k_owners u x1.toNatClampNeg) (k_last u x1.toNatClampNeg) (k_arr u x1.toNatClampNeg)).2 := congrArg Prod.snd hw
  clear hw
  refine lv_istore_n (lv' := [(2, .int r_2), (0, .ref (h 1)), (1, .int x1)]) hx hb dX1_addPartOf_28 rfl hl (by decide) rfl (fun ls hl => ?_)
  refine lv_aload_n hx hb dX1_addPartOf_29 rfl (lv_at hl 1 rfl) ?_
  refine va_get (D := (dC, dI)) (C := RX1) (T := TX1) (N := 9) (v := .ref (h 13)) hx hb hts (fi_X1 _) hown hK hP 1 (cw_at1 _ _ _) rfl 5 (by decide) (hts _ (List.mem_cons_of_mem _ wd_19)) (fun _ h9 => h9) rfl dX1_addPartOf_30 ?_
  refine lv_iload_n hx hb dX1_addPartOf_33 rfl (lv_at hl 0 rfl) ?_
  refine lv_aload_n hx hb dX1_addPartOf_34 rfl (lv_at hl 1 rfl) ?_
  refine va_get (D := (dC, dI)) (C := RX1) (T := TX1) (N := 9) (v := .ref (h 13)) hx hb hts (fi_X1 _) hown hK hP 1 (cw_at1 _ _ _) rfl 5 (by decide) (hts _ (List.mem_cons_of_mem _ wd_19)) (fun _ h9 => h9) rfl dX1_addPartOf_35 ?_
  refine lv_iload_n hx hb dX1_addPartOf_38 rfl (lv_at hl 2 rfl) ?_
  refine va_iald (f := k_reas u_1) hx hb hK hP 13 0 (cw_at13 _ _ _) rfl (vp_in_iff.mpr (by omega)) dX1_addPartOf_39 ?_
  refine va_iast (f := k_reas u_1) hx hb hK hP hD hS 13 0 (cw_at13 _ _ _) rfl (vp_in_iff.mpr (by subst e_4; subst e_3; show 0 ≤ (k_lmade u + 1).toInt ∧ (k_lmade u + 1).toInt < ((41 : Nat) : Int); omega)) dX1_addPartOf_40 (fun H locs hP hD hS => ?_)
  have hP : va_P (dC, dI) vwCl (cw g h (s_reas u_1 (upd (k_reas u_1) r_2.toNatClampNeg (k_reas u_1 x1.toNatClampNeg)))) H := hP
  have hD : va_D A (cw g h (s_reas u_1 (upd (k_reas u_1) r_2.toNatClampNeg (k_reas u_1 x1.toNatClampNeg)))) := hD
  refine lv_aload_n hx hb dX1_addPartOf_41 rfl (lv_at hl 1 rfl) ?_
  refine va_get (D := (dC, dI)) (C := RX1) (T := TX1) (N := 9) (v := .ref (h 14)) hx hb hts (fi_X1 _) hown hK hP 1 (cw_at1 _ _ _) rfl 6 (by decide) (hts _ (List.mem_cons_of_mem _ wd_20)) (fun _ h9 => h9) rfl dX1_addPartOf_42 ?_
  refine lv_iload_n hx hb dX1_addPartOf_45 rfl (lv_at hl 0 rfl) ?_
  refine lv_aload_n hx hb dX1_addPartOf_46 rfl (lv_at hl 1 rfl) ?_
  refine va_get (D := (dC, dI)) (C := RX1) (T := TX1) (N := 9) (v := .ref (h 14)) hx hb hts (fi_X1 _) hown hK hP 1 (cw_at1 _ _ _) rfl 6 (by decide) (hts _ (List.mem_cons_of_mem _ wd_20)) (fun _ h9 => h9) rfl dX1_addPartOf_47 ?_
  refine lv_iload_n hx hb dX1_addPartOf_50 rfl (lv_at hl 2 rfl) ?_
  refine va_zald (f := k_quar u_1) hx hb hK hP 14 1 (cw_at14 _ _ _) rfl (vp_in_iff.mpr (by omega)) dX1_addPartOf_51 ?_
  refine va_zast (f := k_quar u_1) hx hb hK hP hD hS 14 1 (cw_at14 _ _ _) rfl (vp_in_iff.mpr (by subst e_4; subst e_3; show 0 ≤ (k_lmade u + 1).toInt ∧ (k_lmade u + 1).toInt < ((41 : Nat) : Int); omega)) dX1_addPartOf_52 (fun H locs hP hD hS => ?_)
  have hP : va_P (dC, dI) vwCl (cw g h (s_quar (s_reas u_1 (upd (k_reas u_1) r_2.toNatClampNeg (k_reas u_1 x1.toNatClampNeg))) (upd (k_quar u_1) r_2.toNatClampNeg (vp_nar .boolean (k_quar u_1 x1.toNatClampNeg))))) H := hP
  have hD : va_D A (cw g h (s_quar (s_reas u_1 (upd (k_reas u_1) r_2.toNatClampNeg (k_reas u_1 x1.toNatClampNeg))) (upd (k_quar u_1) r_2.toNatClampNeg (vp_nar .boolean (k_quar u_1 x1.toNatClampNeg))))) := hD
  refine lv_aload_n hx hb dX1_addPartOf_53 rfl (lv_at hl 1 rfl) ?_
  refine va_get (D := (dC, dI)) (C := RX1) (T := TX1) (N := 9) (v := .ref (h 15)) hx hb hts (fi_X1 _) hown hK hP 1 (cw_at1 _ _ _) rfl 7 (by decide) (hts _ (List.mem_cons_of_mem _ wd_54)) (fun _ h9 => h9) rfl dX1_addPartOf_54 ?_
  refine lv_iload_n hx hb dX1_addPartOf_57 rfl (lv_at hl 2 rfl) ?_
  refine lv_dup2_11 hx hb dX1_addPartOf_58 rfl rfl ?_
  refine va_lald (f := k_kin u_1) hx hb hK hP 15 2 (cw_at15 _ _ _) rfl (vp_in_iff.mpr (by omega)) dX1_addPartOf_59 ?_
  refine lv_lconst (v := 1) hx hb dX1_addPartOf_60 (by decide) ?_
  refine lv_iload_n hx hb dX1_addPartOf_61 rfl (lv_at hl 0 rfl) ?_
  refine lv_lshl (v := (1 : Int64) <<< (r_2.toInt64 &&& 63)) hx hb dX1_addPartOf_62 rfl ?_
  refine lv_lor hx hb dX1_addPartOf_63 ?_
  refine va_last (f := k_kin u_1) hx hb hK hP hD hS 15 2 (cw_at15 _ _ _) rfl (vp_in_iff.mpr (by omega)) dX1_addPartOf_64 (fun H locs hP hD hS => ?_)
  have hP : va_P (dC, dI) vwCl (cw g h (s_kin (s_quar (s_reas u_1 (upd (k_reas u_1) r_2.toNatClampNeg (k_reas u_1 x1.toNatClampNeg))) (upd (k_quar u_1) r_2.toNatClampNeg (vp_nar .boolean (k_quar u_1 x1.toNatClampNeg)))) (vp_updL (k_kin u_1) x1.toNatClampNeg ((k_kin u_1 x1.toNatClampNeg) ||| ((1 : Int64) <<< (r_2.toInt64 &&& 63)))))) H := hP
  have hD : va_D A (cw g h (s_kin (s_quar (s_reas u_1 (upd (k_reas u_1) r_2.toNatClampNeg (k_reas u_1 x1.toNatClampNeg))) (upd (k_quar u_1) r_2.toNatClampNeg (vp_nar .boolean (k_quar u_1 x1.toNatClampNeg)))) (vp_updL (k_kin u_1) x1.toNatClampNeg ((k_kin u_1 x1.toNatClampNeg) ||| ((1 : Int64) <<< (r_2.toInt64 &&& 63)))))) := hD
  refine lv_iload_n hx hb dX1_addPartOf_65 rfl (lv_at hl 0 rfl) ?_
  exact W.iret (v := r_2) hx hb hr (fun t ht hW => ⟨⟨r_2, (s_kin (s_quar (s_reas u_1 (upd (k_reas u_1) r_2.toNatClampNeg (k_reas u_1 x1.toNatClampNeg))) (upd (k_quar u_1) r_2.toNatClampNeg (vp_nar .boolean (k_quar u_1 x1.toNatClampNeg)))) (vp_updL (k_kin u_1) x1.toNatClampNeg ((k_kin u_1 x1.toNatClampNeg) ||| ((1 : Int64) <<< (r_2.toInt64 &&& 63))))), rfl, (by subst e_4; subst e_3; rfl), by rw [ht]; exact hP, hD⟩, hS.F ht⟩) hS.2.2 dX1_addPartOf_66
set_option maxHeartbeats 4000000 in
set_option maxRecDepth 100000 in
theorem kX1_closeInto (l : Launch) (dC : Nat → ClassId) (dI : Nat → Nat → Nat) (g : cG) (h : Nat → Nat) (u : cS) (sz : Nat) (x1 : Int32) (x2 : Int32) (h1 : 0 ≤ x1.toInt ∧ x1.toInt ≤ 40) (h2 : 0 ≤ x2.toInt ∧ x2.toInt ≤ 40) : Met l yX1_closeInto wsX1_closeInto ({ frames := 0, cells := 0, slots := 0, locals := 0 }) (va_Pc [.ref (h 1), .int x1, .int x2] (fun U => U.heap.size = sz ∧ va_P (dC, dI) vwCl (cw g h u) U.heap ∧ va_K (dC, dI) vwCl (cTys g) U ∧ va_D (fun _ => True) (cw g h u))) (va_Qv (fun u2 => u2 = fX1_closeInto u x1 x2) (fun (u2 : cS) (t : State) => va_P (dC, dI) vwCl (cw g h u2) t.heap ∧ va_D (va_A (cw g h u) sz) (cw g h u2)) (va_A (cw g h u) sz)) 0 0 (va_A (cw g h u) sz) := by
  refine Met.ofW (cc := cX1_closeInto) (maxL := 3) (ret := none) (by decide) rfl ?_
  intro p e s m args below meth c s₁ B hml hv
  obtain ⟨rfl, hsz, hP, hK, hD0⟩ := hv
  have hx := B.exec
  have hb := B.bytes
  have hr := B.returns
  have hts := atoms_spec (ws := wsX1_closeInto) B.pre
  have hown : s.vm.findClass RX1 = some m.cls := findClass_of_methodNamed B.named
  have hlocks := B.notSynchronized
  subst hsz
  have hD := hD0.self (sz := s.heap.size)
  generalize hAe : va_A (cw g h u) s.heap.size = A at hD ⊢
  have hA : ∀ q : Nat, s.heap.size ≤ q → A q := fun q h => by rw [← hAe]; exact Or.inr h
  have hS : va_S A s.heap s.heap [] := va_S.rf
  have hl := lv_entry ([.ref (h 1), .int x1, .int x2]) (n := 3) (Nat.le_of_ble_eq_true rfl)
  rw [lg_entry_eq]
  generalize (lg_sl ([.ref (h 1), .int x1, .int x2]) ++ List.replicate (3 - (lg_sl ([.ref (h 1), .int x1, .int x2])).length) Slot.unset).toArray = ls at hl ⊢
  have hl : lv_has ls 3 [(0, .ref (h 1)), (1, .int x1), (2, .int x2)] := hl
  refine lv_aload_n hx hb dX1_closeInto_0 rfl (lv_at hl 0 rfl) ?_
  refine va_get (D := (dC, dI)) (C := RX1) (T := TX1) (N := 9) (v := .ref (h 12)) hx hb hts (fi_X1 _) hown hK hP 1 (cw_at1 _ _ _) rfl 4 (by decide) (hts _ (List.mem_cons_of_mem _ wd_24)) (fun _ h9 => h9) rfl dX1_closeInto_1 ?_
  refine lv_iload_n hx hb dX1_closeInto_4 rfl (lv_at hl 2 rfl) ?_
  refine lv_iconst (v := 0) hx hb dX1_closeInto_5 (by decide) ?_
  refine va_zast (f := k_open u) hx hb hK hP hD hS 12 1 (cw_at12 _ _ _) rfl (vp_in_iff.mpr (by omega)) dX1_closeInto_6 (fun H locs hP hD hS => ?_)
  have hP : va_P (dC, dI) vwCl (cw g h (s_open u (upd (k_open u) x2.toNatClampNeg (vp_nar .boolean 0)))) H := hP
  have hD : va_D A (cw g h (s_open u (upd (k_open u) x2.toNatClampNeg (vp_nar .boolean 0)))) := hD
  refine lv_aload_n hx hb dX1_closeInto_7 rfl (lv_at hl 0 rfl) ?_
  refine va_get (D := (dC, dI)) (C := RX1) (T := TX1) (N := 9) (v := .ref (h 15)) hx hb hts (fi_X1 _) hown hK hP 1 (cw_at1 _ _ _) rfl 7 (by decide) (hts _ (List.mem_cons_of_mem _ wd_54)) (fun _ h9 => h9) rfl dX1_closeInto_8 ?_
  refine lv_iload_n hx hb dX1_closeInto_11 rfl (lv_at hl 1 rfl) ?_
  refine lv_dup2_11 hx hb dX1_closeInto_12 rfl rfl ?_
  refine va_lald (f := k_kin u) hx hb hK hP 15 2 (cw_at15 _ _ _) rfl (vp_in_iff.mpr (by omega)) dX1_closeInto_13 ?_
  refine lv_lconst (v := 1) hx hb dX1_closeInto_14 (by decide) ?_
  refine lv_iload_n hx hb dX1_closeInto_15 rfl (lv_at hl 2 rfl) ?_
  refine lv_lshl (v := (1 : Int64) <<< (x2.toInt64 &&& 63)) hx hb dX1_closeInto_16 rfl ?_
  refine lv_lor hx hb dX1_closeInto_17 ?_
  refine va_last (f := k_kin u) hx hb hK hP hD hS 15 2 (cw_at15 _ _ _) rfl (vp_in_iff.mpr (by omega)) dX1_closeInto_18 (fun H locs hP hD hS => ?_)
  have hP : va_P (dC, dI) vwCl (cw g h (s_kin (s_open u (upd (k_open u) x2.toNatClampNeg (vp_nar .boolean 0))) (vp_updL (k_kin u) x1.toNatClampNeg ((k_kin u x1.toNatClampNeg) ||| ((1 : Int64) <<< (x2.toInt64 &&& 63)))))) H := hP
  have hD : va_D A (cw g h (s_kin (s_open u (upd (k_open u) x2.toNatClampNeg (vp_nar .boolean 0))) (vp_updL (k_kin u) x1.toNatClampNeg ((k_kin u x1.toNatClampNeg) ||| ((1 : Int64) <<< (x2.toInt64 &&& 63)))))) := hD
  exact W.vret hx hb hr (fun t ht hW => ⟨⟨(s_kin (s_open u (upd (k_open u) x2.toNatClampNeg (vp_nar .boolean 0))) (vp_updL (k_kin u) x1.toNatClampNeg ((k_kin u x1.toNatClampNeg) ||| ((1 : Int64) <<< (x2.toInt64 &&& 63))))), rfl, rfl, by rw [ht]; exact hP, hD⟩, hS.F ht⟩) hS.2.2 dX1_closeInto_19
set_option maxHeartbeats 4000000 in
set_option maxRecDepth 100000 in
theorem kX3_add (l : Launch) (dC : Nat → ClassId) (dI : Nat → Nat → Nat) (g : cG) (h : Nat → Nat) (u : cS) (sz : Nat) (x1 : Int32) (hr : 0 ≤ (k_umade u).toInt ∧ (k_umade u).toInt < 120) : Met l yX3_add wsX3_add ({ frames := 0, cells := 0, slots := 0, locals := 0 }) (va_Pc [.ref (h 2), .int x1] (fun U => U.heap.size = sz ∧ va_P (dC, dI) vwCl (cw g h u) U.heap ∧ va_K (dC, dI) vwCl (cTys g) U ∧ va_D (fun _ => True) (cw g h u))) (va_Qi (fun (r : Int32) u2 => (r, u2) = fX3_add u x1) (fun (u2 : cS) (t : State) => va_P (dC, dI) vwCl (cw g h u2) t.heap ∧ va_D (va_A (cw g h u) sz) (cw g h u2)) (va_A (cw g h u) sz)) 0 0 (va_A (cw g h u) sz) := by
  refine Met.ofW (cc := cX3_add) (maxL := 2) (ret := (some .int)) (by decide) rfl ?_
  intro p e s m args below meth c s₁ B hml hv
  obtain ⟨rfl, hsz, hP, hK, hD0⟩ := hv
  have hx := B.exec
  have hb := B.bytes
  have hr := B.returns
  have hts := atoms_spec (ws := wsX3_add) B.pre
  have hown : s.vm.findClass RX3 = some m.cls := findClass_of_methodNamed B.named
  have hlocks := B.notSynchronized
  subst hsz
  have hD := hD0.self (sz := s.heap.size)
  generalize hAe : va_A (cw g h u) s.heap.size = A at hD ⊢
  have hA : ∀ q : Nat, s.heap.size ≤ q → A q := fun q h => by rw [← hAe]; exact Or.inr h
  have hS : va_S A s.heap s.heap [] := va_S.rf
  have hl := lv_entry ([.ref (h 2), .int x1]) (n := 2) (Nat.le_of_ble_eq_true rfl)
  rw [lg_entry_eq]
  generalize (lg_sl ([.ref (h 2), .int x1]) ++ List.replicate (2 - (lg_sl ([.ref (h 2), .int x1])).length) Slot.unset).toArray = ls at hl ⊢
  have hl : lv_has ls 2 [(0, .ref (h 2)), (1, .int x1)] := hl
  have hm1 := i_inc (x := k_umade u) (by omega)
  refine lv_aload_n hx hb dX3_add_0 rfl (lv_at hl 0 rfl) ?_
  refine lv_dup hx hb dX3_add_1 rfl ?_
  refine va_get (D := (dC, dI)) (C := RX3) (T := TX3) (N := 7) (v := .int (k_umade u)) hx hb hts (fi_X3 _) hown hK hP 2 (cw_at2 _ _ _) rfl 5 (by decide) (hts _ (List.mem_cons_of_mem _ wd_43)) (fun _ h9 => h9) rfl dX3_add_2 ?_
  refine lv_iconst (v := 1) hx hb dX3_add_5 (by decide) ?_
  refine lv_iadd hx hb dX3_add_6 ?_
  refine va_put (D := (dC, dI)) (C := RX3) (T := TX3) (N := 7) (v := .int ((k_umade u) + 1)) (ty := .int) hx hb hts (fi_X3 _) tyX3 tyX3_ok nmX3 hown hK hP hD hS 2 (cw_at2 _ _ _) rfl 5 (by decide) (hts _ (List.mem_cons_of_mem _ wd_43)) (fun _ h9 => h9) rfl (by decide +kernel) rfl rfl (Nat.le_of_ble_eq_true rfl) dX3_add_7 (fun H locs hP hD hS => ?_)
  have hP : va_P (dC, dI) vwCl (cw g h (s_umade u ((k_umade u) + 1))) H := hP
  have hD : va_D A (cw g h (s_umade u ((k_umade u) + 1))) := hD
  refine lv_aload_n hx hb dX3_add_10 rfl (lv_at hl 0 rfl) ?_
  refine va_get (D := (dC, dI)) (C := RX3) (T := TX3) (N := 7) (v := .ref (h 16)) hx hb hts (fi_X3 _) hown hK hP 2 (cw_at2 _ _ _) rfl 0 (by decide) (hts _ (List.mem_cons_of_mem _ wd_45)) (fun _ h9 => h9) rfl dX3_add_11 ?_
  refine lv_aload_n hx hb dX3_add_14 rfl (lv_at hl 0 rfl) ?_
  refine va_get (D := (dC, dI)) (C := RX3) (T := TX3) (N := 7) (v := .int ((k_umade u) + 1)) hx hb hts (fi_X3 _) hown hK hP 2 (cw_at2 _ _ _) rfl 5 (by decide) (hts _ (List.mem_cons_of_mem _ wd_43)) (fun _ h9 => h9) rfl dX3_add_15 ?_
  refine lv_iload_n hx hb dX3_add_18 rfl (lv_at hl 1 rfl) ?_
  refine va_iast (f := k_ulot u) hx hb hK hP hD hS 16 0 (cw_at16 _ _ _) rfl (vp_in_iff.mpr (by omega)) dX3_add_19 (fun H locs hP hD hS => ?_)
  have hP : va_P (dC, dI) vwCl (cw g h (s_ulot (s_umade u ((k_umade u) + 1)) (upd (k_ulot u) ((k_umade u) + 1).toNatClampNeg x1))) H := hP
  have hD : va_D A (cw g h (s_ulot (s_umade u ((k_umade u) + 1)) (upd (k_ulot u) ((k_umade u) + 1).toNatClampNeg x1))) := hD
  refine lv_aload_n hx hb dX3_add_20 rfl (lv_at hl 0 rfl) ?_
  refine va_get (D := (dC, dI)) (C := RX3) (T := TX3) (N := 7) (v := .ref (h 17)) hx hb hts (fi_X3 _) hown hK hP 2 (cw_at2 _ _ _) rfl 1 (by decide) (hts _ (List.mem_cons_of_mem _ wd_70)) (fun _ h9 => h9) rfl dX3_add_21 ?_
  refine lv_aload_n hx hb dX3_add_24 rfl (lv_at hl 0 rfl) ?_
  refine va_get (D := (dC, dI)) (C := RX3) (T := TX3) (N := 7) (v := .int ((k_umade u) + 1)) hx hb hts (fi_X3 _) hown hK hP 2 (cw_at2 _ _ _) rfl 5 (by decide) (hts _ (List.mem_cons_of_mem _ wd_43)) (fun _ h9 => h9) rfl dX3_add_25 ?_
  refine lv_iconst (v := (-1)) hx hb dX3_add_28 (by decide) ?_
  refine va_iast (f := k_ubin u) hx hb hK hP hD hS 17 0 (cw_at17 _ _ _) rfl (vp_in_iff.mpr (by omega)) dX3_add_29 (fun H locs hP hD hS => ?_)
  have hP : va_P (dC, dI) vwCl (cw g h (s_ubin (s_ulot (s_umade u ((k_umade u) + 1)) (upd (k_ulot u) ((k_umade u) + 1).toNatClampNeg x1)) (upd (k_ubin u) ((k_umade u) + 1).toNatClampNeg (-1)))) H := hP
  have hD : va_D A (cw g h (s_ubin (s_ulot (s_umade u ((k_umade u) + 1)) (upd (k_ulot u) ((k_umade u) + 1).toNatClampNeg x1)) (upd (k_ubin u) ((k_umade u) + 1).toNatClampNeg (-1)))) := hD
  refine lv_aload_n hx hb dX3_add_30 rfl (lv_at hl 0 rfl) ?_
  refine va_get (D := (dC, dI)) (C := RX3) (T := TX3) (N := 7) (v := .ref (h 18)) hx hb hts (fi_X3 _) hown hK hP 2 (cw_at2 _ _ _) rfl 2 (by decide) (hts _ (List.mem_cons_of_mem _ wd_44)) (fun _ h9 => h9) rfl dX3_add_31 ?_
  refine lv_aload_n hx hb dX3_add_34 rfl (lv_at hl 0 rfl) ?_
  refine va_get (D := (dC, dI)) (C := RX3) (T := TX3) (N := 7) (v := .int ((k_umade u) + 1)) hx hb hts (fi_X3 _) hown hK hP 2 (cw_at2 _ _ _) rfl 5 (by decide) (hts _ (List.mem_cons_of_mem _ wd_43)) (fun _ h9 => h9) rfl dX3_add_35 ?_
  refine lv_iconst (v := (-1)) hx hb dX3_add_38 (by decide) ?_
  refine va_iast (f := k_ucust u) hx hb hK hP hD hS 18 0 (cw_at18 _ _ _) rfl (vp_in_iff.mpr (by omega)) dX3_add_39 (fun H locs hP hD hS => ?_)
  have hP : va_P (dC, dI) vwCl (cw g h (s_ucust (s_ubin (s_ulot (s_umade u ((k_umade u) + 1)) (upd (k_ulot u) ((k_umade u) + 1).toNatClampNeg x1)) (upd (k_ubin u) ((k_umade u) + 1).toNatClampNeg (-1))) (upd (k_ucust u) ((k_umade u) + 1).toNatClampNeg (-1)))) H := hP
  have hD : va_D A (cw g h (s_ucust (s_ubin (s_ulot (s_umade u ((k_umade u) + 1)) (upd (k_ulot u) ((k_umade u) + 1).toNatClampNeg x1)) (upd (k_ubin u) ((k_umade u) + 1).toNatClampNeg (-1))) (upd (k_ucust u) ((k_umade u) + 1).toNatClampNeg (-1)))) := hD
  refine lv_aload_n hx hb dX3_add_40 rfl (lv_at hl 0 rfl) ?_
  refine va_get (D := (dC, dI)) (C := RX3) (T := TX3) (N := 7) (v := .ref (h 19)) hx hb hts (fi_X3 _) hown hK hP 2 (cw_at2 _ _ _) rfl 3 (by decide) (hts _ (List.mem_cons_of_mem _ wd_71)) (fun _ h9 => h9) rfl dX3_add_41 ?_
  refine lv_aload_n hx hb dX3_add_44 rfl (lv_at hl 0 rfl) ?_
  refine va_get (D := (dC, dI)) (C := RX3) (T := TX3) (N := 7) (v := .int ((k_umade u) + 1)) hx hb hts (fi_X3 _) hown hK hP 2 (cw_at2 _ _ _) rfl 5 (by decide) (hts _ (List.mem_cons_of_mem _ wd_43)) (fun _ h9 => h9) rfl dX3_add_45 ?_
  refine lv_iconst (v := (-1)) hx hb dX3_add_48 (by decide) ?_
  refine va_iast (f := k_uday u) hx hb hK hP hD hS 19 0 (cw_at19 _ _ _) rfl (vp_in_iff.mpr (by omega)) dX3_add_49 (fun H locs hP hD hS => ?_)
  have hP : va_P (dC, dI) vwCl (cw g h (s_uday (s_ucust (s_ubin (s_ulot (s_umade u ((k_umade u) + 1)) (upd (k_ulot u) ((k_umade u) + 1).toNatClampNeg x1)) (upd (k_ubin u) ((k_umade u) + 1).toNatClampNeg (-1))) (upd (k_ucust u) ((k_umade u) + 1).toNatClampNeg (-1))) (upd (k_uday u) ((k_umade u) + 1).toNatClampNeg (-1)))) H := hP
  have hD : va_D A (cw g h (s_uday (s_ucust (s_ubin (s_ulot (s_umade u ((k_umade u) + 1)) (upd (k_ulot u) ((k_umade u) + 1).toNatClampNeg x1)) (upd (k_ubin u) ((k_umade u) + 1).toNatClampNeg (-1))) (upd (k_ucust u) ((k_umade u) + 1).toNatClampNeg (-1))) (upd (k_uday u) ((k_umade u) + 1).toNatClampNeg (-1)))) := hD
  refine lv_aload_n hx hb dX3_add_50 rfl (lv_at hl 0 rfl) ?_
  refine va_get (D := (dC, dI)) (C := RX3) (T := TX3) (N := 7) (v := .ref (h 20)) hx hb hts (fi_X3 _) hown hK hP 2 (cw_at2 _ _ _) rfl 4 (by decide) (hts _ (List.mem_cons_of_mem _ wd_51)) (fun _ h9 => h9) rfl dX3_add_51 ?_
  refine lv_aload_n hx hb dX3_add_54 rfl (lv_at hl 0 rfl) ?_
  refine va_get (D := (dC, dI)) (C := RX3) (T := TX3) (N := 7) (v := .int ((k_umade u) + 1)) hx hb hts (fi_X3 _) hown hK hP 2 (cw_at2 _ _ _) rfl 5 (by decide) (hts _ (List.mem_cons_of_mem _ wd_43)) (fun _ h9 => h9) rfl dX3_add_55 ?_
  refine lv_iload_n hx hb dX3_add_58 rfl (lv_at hl 1 rfl) ?_
  refine va_iast (f := k_ufirst u) hx hb hK hP hD hS 20 0 (cw_at20 _ _ _) rfl (vp_in_iff.mpr (by omega)) dX3_add_59 (fun H locs hP hD hS => ?_)
  have hP : va_P (dC, dI) vwCl (cw g h (s_ufirst (s_uday (s_ucust (s_ubin (s_ulot (s_umade u ((k_umade u) + 1)) (upd (k_ulot u) ((k_umade u) + 1).toNatClampNeg x1)) (upd (k_ubin u) ((k_umade u) + 1).toNatClampNeg (-1))) (upd (k_ucust u) ((k_umade u) + 1).toNatClampNeg (-1))) (upd (k_uday u) ((k_umade u) + 1).toNatClampNeg (-1))) (upd (k_ufirst u) ((k_umade u) + 1).toNatClampNeg x1))) H := hP
  have hD : va_D A (cw g h (s_ufirst (s_uday (s_ucust (s_ubin (s_ulot (s_umade u ((k_umade u) + 1)) (upd (k_ulot u) ((k_umade u) + 1).toNatClampNeg x1)) (upd (k_ubin u) ((k_umade u) + 1).toNatClampNeg (-1))) (upd (k_ucust u) ((k_umade u) + 1).toNatClampNeg (-1))) (upd (k_uday u) ((k_umade u) + 1).toNatClampNeg (-1))) (upd (k_ufirst u) ((k_umade u) + 1).toNatClampNeg x1))) := hD
  refine lv_aload_n hx hb dX3_add_60 rfl (lv_at hl 0 rfl) ?_
  refine va_get (D := (dC, dI)) (C := RX3) (T := TX3) (N := 7) (v := .int ((k_umade u) + 1)) hx hb hts (fi_X3 _) hown hK hP 2 (cw_at2 _ _ _) rfl 5 (by decide) (hts _ (List.mem_cons_of_mem _ wd_43)) (fun _ h9 => h9) rfl dX3_add_61 ?_
  exact W.iret (v := (k_umade u) + 1) hx hb hr (fun t ht hW => ⟨⟨((k_umade u) + 1), (s_ufirst (s_uday (s_ucust (s_ubin (s_ulot (s_umade u ((k_umade u) + 1)) (upd (k_ulot u) ((k_umade u) + 1).toNatClampNeg x1)) (upd (k_ubin u) ((k_umade u) + 1).toNatClampNeg (-1))) (upd (k_ucust u) ((k_umade u) + 1).toNatClampNeg (-1))) (upd (k_uday u) ((k_umade u) + 1).toNatClampNeg (-1))) (upd (k_ufirst u) ((k_umade u) + 1).toNatClampNeg x1)), rfl, rfl, by rw [ht]; exact hP, hD⟩, hS.F ht⟩) hS.2.2 dX3_add_64
set_option maxHeartbeats 4000000 in
set_option maxRecDepth 100000 in
theorem kX3_send (l : Launch) (dC : Nat → ClassId) (dI : Nat → Nat → Nat) (g : cG) (h : Nat → Nat) (u : cS) (sz : Nat) (x1 : Int32) (x2 : Int32) (x3 : Int32) (h1 : 0 ≤ x1.toInt ∧ x1.toInt ≤ 120) : Met l yX3_send wsX3_send ({ frames := 0, cells := 0, slots := 0, locals := 0 }) (va_Pc [.ref (h 2), .int x1, .int x2, .int x3] (fun U => U.heap.size = sz ∧ va_P (dC, dI) vwCl (cw g h u) U.heap ∧ va_K (dC, dI) vwCl (cTys g) U ∧ va_D (fun _ => True) (cw g h u))) (va_Qv (fun u2 => u2 = fX3_send u x1 x2 x3) (fun (u2 : cS) (t : State) => va_P (dC, dI) vwCl (cw g h u2) t.heap ∧ va_D (va_A (cw g h u) sz) (cw g h u2)) (va_A (cw g h u) sz)) 0 0 (va_A (cw g h u) sz) := by
  refine Met.ofW (cc := cX3_send) (maxL := 4) (ret := none) (by decide) rfl ?_
  intro p e s m args below meth c s₁ B hml hv
  obtain ⟨rfl, hsz, hP, hK, hD0⟩ := hv
  have hx := B.exec
  have hb := B.bytes
  have hr := B.returns
  have hts := atoms_spec (ws := wsX3_send) B.pre
  have hown : s.vm.findClass RX3 = some m.cls := findClass_of_methodNamed B.named
  have hlocks := B.notSynchronized
  subst hsz
  have hD := hD0.self (sz := s.heap.size)
  generalize hAe : va_A (cw g h u) s.heap.size = A at hD ⊢
  have hA : ∀ q : Nat, s.heap.size ≤ q → A q := fun q h => by rw [← hAe]; exact Or.inr h
  have hS : va_S A s.heap s.heap [] := va_S.rf
  have hl := lv_entry ([.ref (h 2), .int x1, .int x2, .int x3]) (n := 4) (Nat.le_of_ble_eq_true rfl)
  rw [lg_entry_eq]
  generalize (lg_sl ([.ref (h 2), .int x1, .int x2, .int x3]) ++ List.replicate (4 - (lg_sl ([.ref (h 2), .int x1, .int x2, .int x3])).length) Slot.unset).toArray = ls at hl ⊢
  have hl : lv_has ls 4 [(0, .ref (h 2)), (1, .int x1), (2, .int x2), (3, .int x3)] := hl
  refine lv_aload_n hx hb dX3_send_0 rfl (lv_at hl 0 rfl) ?_
  refine va_get (D := (dC, dI)) (C := RX3) (T := TX3) (N := 7) (v := .ref (h 17)) hx hb hts (fi_X3 _) hown hK hP 2 (cw_at2 _ _ _) rfl 1 (by decide) (hts _ (List.mem_cons_of_mem _ wd_70)) (fun _ h9 => h9) rfl dX3_send_1 ?_
  refine lv_iload_n hx hb dX3_send_4 rfl (lv_at hl 1 rfl) ?_
  refine lv_iconst (v := (-1)) hx hb dX3_send_5 (by decide) ?_
  refine va_iast (f := k_ubin u) hx hb hK hP hD hS 17 0 (cw_at17 _ _ _) rfl (vp_in_iff.mpr (by omega)) dX3_send_6 (fun H locs hP hD hS => ?_)
  have hP : va_P (dC, dI) vwCl (cw g h (s_ubin u (upd (k_ubin u) x1.toNatClampNeg (-1)))) H := hP
  have hD : va_D A (cw g h (s_ubin u (upd (k_ubin u) x1.toNatClampNeg (-1)))) := hD
  refine lv_aload_n hx hb dX3_send_7 rfl (lv_at hl 0 rfl) ?_
  refine va_get (D := (dC, dI)) (C := RX3) (T := TX3) (N := 7) (v := .ref (h 18)) hx hb hts (fi_X3 _) hown hK hP 2 (cw_at2 _ _ _) rfl 2 (by decide) (hts _ (List.mem_cons_of_mem _ wd_44)) (fun _ h9 => h9) rfl dX3_send_8 ?_
  refine lv_iload_n hx hb dX3_send_11 rfl (lv_at hl 1 rfl) ?_
  refine lv_iload_n hx hb dX3_send_12 rfl (lv_at hl 2 rfl) ?_
  refine va_iast (f := k_ucust u) hx hb hK hP hD hS 18 0 (cw_at18 _ _ _) rfl (vp_in_iff.mpr (by omega)) dX3_send_13 (fun H locs hP hD hS => ?_)
  have hP : va_P (dC, dI) vwCl (cw g h (s_ucust (s_ubin u (upd (k_ubin u) x1.toNatClampNeg (-1))) (upd (k_ucust u) x1.toNatClampNeg x2))) H := hP
  have hD : va_D A (cw g h (s_ucust (s_ubin u (upd (k_ubin u) x1.toNatClampNeg (-1))) (upd (k_ucust u) x1.toNatClampNeg x2))) := hD
  refine lv_aload_n hx hb dX3_send_14 rfl (lv_at hl 0 rfl) ?_
  refine va_get (D := (dC, dI)) (C := RX3) (T := TX3) (N := 7) (v := .ref (h 19)) hx hb hts (fi_X3 _) hown hK hP 2 (cw_at2 _ _ _) rfl 3 (by decide) (hts _ (List.mem_cons_of_mem _ wd_71)) (fun _ h9 => h9) rfl dX3_send_15 ?_
  refine lv_iload_n hx hb dX3_send_18 rfl (lv_at hl 1 rfl) ?_
  refine lv_iload_n hx hb dX3_send_19 rfl (lv_at hl 3 rfl) ?_
  refine va_iast (f := k_uday u) hx hb hK hP hD hS 19 0 (cw_at19 _ _ _) rfl (vp_in_iff.mpr (by omega)) dX3_send_20 (fun H locs hP hD hS => ?_)
  have hP : va_P (dC, dI) vwCl (cw g h (s_uday (s_ucust (s_ubin u (upd (k_ubin u) x1.toNatClampNeg (-1))) (upd (k_ucust u) x1.toNatClampNeg x2)) (upd (k_uday u) x1.toNatClampNeg x3))) H := hP
  have hD : va_D A (cw g h (s_uday (s_ucust (s_ubin u (upd (k_ubin u) x1.toNatClampNeg (-1))) (upd (k_ucust u) x1.toNatClampNeg x2)) (upd (k_uday u) x1.toNatClampNeg x3))) := hD
  refine lv_aload_n hx hb dX3_send_21 rfl (lv_at hl 0 rfl) ?_
  refine lv_dup hx hb dX3_send_22 rfl ?_
  refine va_get (D := (dC, dI)) (C := RX3) (T := TX3) (N := 7) (v := .int (k_ugone u)) hx hb hts (fi_X3 _) hown hK hP 2 (cw_at2 _ _ _) rfl 6 (by decide) (hts _ (List.mem_cons_of_mem _ wd_72)) (fun _ h9 => h9) rfl dX3_send_23 ?_
  refine lv_iconst (v := 1) hx hb dX3_send_26 (by decide) ?_
  refine lv_iadd hx hb dX3_send_27 ?_
  refine va_put (D := (dC, dI)) (C := RX3) (T := TX3) (N := 7) (v := .int ((k_ugone u) + 1)) (ty := .int) hx hb hts (fi_X3 _) tyX3 tyX3_ok nmX3 hown hK hP hD hS 2 (cw_at2 _ _ _) rfl 6 (by decide) (hts _ (List.mem_cons_of_mem _ wd_72)) (fun _ h9 => h9) rfl (by decide +kernel) rfl rfl (Nat.le_of_ble_eq_true rfl) dX3_send_28 (fun H locs hP hD hS => ?_)
  have hP : va_P (dC, dI) vwCl (cw g h (s_ugone (s_uday (s_ucust (s_ubin u (upd (k_ubin u) x1.toNatClampNeg (-1))) (upd (k_ucust u) x1.toNatClampNeg x2)) (upd (k_uday u) x1.toNatClampNeg x3)) ((k_ugone u) + 1))) H := hP
  have hD : va_D A (cw g h (s_ugone (s_uday (s_ucust (s_ubin u (upd (k_ubin u) x1.toNatClampNeg (-1))) (upd (k_ucust u) x1.toNatClampNeg x2)) (upd (k_uday u) x1.toNatClampNeg x3)) ((k_ugone u) + 1))) := hD
  exact W.vret hx hb hr (fun t ht hW => ⟨⟨(s_ugone (s_uday (s_ucust (s_ubin u (upd (k_ubin u) x1.toNatClampNeg (-1))) (upd (k_ucust u) x1.toNatClampNeg x2)) (upd (k_uday u) x1.toNatClampNeg x3)) ((k_ugone u) + 1)), rfl, rfl, by rw [ht]; exact hP, hD⟩, hS.F ht⟩) hS.2.2 dX3_send_31
set_option maxHeartbeats 4000000 in
set_option maxRecDepth 100000 in
theorem kX3_moveAll (l : Launch) (dC : Nat → ClassId) (dI : Nat → Nat → Nat) (g : cG) (h : Nat → Nat) (u : cS) (sz : Nat) (x1 : Int32) (x2 : Int32) (hr : 0 ≤ (k_umade u).toInt ∧ (k_umade u).toInt ≤ 120) : Met l yX3_moveAll wsX3_moveAll ({ frames := 0, cells := 0, slots := 0, locals := 0 }) (va_Pc [.ref (h 2), .int x1, .int x2] (fun U => U.heap.size = sz ∧ va_P (dC, dI) vwCl (cw g h u) U.heap ∧ va_K (dC, dI) vwCl (cTys g) U ∧ va_D (fun _ => True) (cw g h u))) (va_Qv (fun u2 => u2 = fX3_moveAll u x1 x2) (fun (u2 : cS) (t : State) => va_P (dC, dI) vwCl (cw g h u2) t.heap ∧ va_D (va_A (cw g h u) sz) (cw g h u2)) (va_A (cw g h u) sz)) 0 0 (va_A (cw g h u) sz) := by
  refine Met.ofW (cc := cX3_moveAll) (maxL := 4) (ret := none) (by decide) rfl ?_
  intro p e s m args below meth c s₁ B hml hv
  obtain ⟨rfl, hsz, hP, hK, hD0⟩ := hv
  have hx := B.exec
  have hb := B.bytes
  have hr := B.returns
  have hts := atoms_spec (ws := wsX3_moveAll) B.pre
  have hown : s.vm.findClass RX3 = some m.cls := findClass_of_methodNamed B.named
  have hlocks := B.notSynchronized
  subst hsz
  have hD := hD0.self (sz := s.heap.size)
  generalize hAe : va_A (cw g h u) s.heap.size = A at hD ⊢
  have hA : ∀ q : Nat, s.heap.size ≤ q → A q := fun q h => by rw [← hAe]; exact Or.inr h
  have hS : va_S A s.heap s.heap [] := va_S.rf
  have hl := lv_entry ([.ref (h 2), .int x1, .int x2]) (n := 4) (Nat.le_of_ble_eq_true rfl)
  rw [lg_entry_eq]
  generalize (lg_sl ([.ref (h 2), .int x1, .int x2]) ++ List.replicate (4 - (lg_sl ([.ref (h 2), .int x1, .int x2])).length) Slot.unset).toArray = ls at hl ⊢
  have hl : lv_has ls 4 [(0, .ref (h 2)), (1, .int x1), (2, .int x2)] := hl
  have z_0 : (1 : Int32).toInt = 1 := by decide
  refine lv_iconst (v := 1) hx hb dX3_moveAll_0 (by decide) ?_
  refine lv_istore_n (lv' := [(3, .int 1), (0, .ref (h 2)), (1, .int x1), (2, .int x2)]) hx hb dX3_moveAll_1 rfl hl (by decide) rfl (fun ls hl => ?_)
  refine lp_indH (fun H locs => W p l e _ s m _ below meth c H locs _ _ _) (fun n H locs ls => ∃ (i : Int32) (v : cS), ((k_umade v).toInt - i.toInt + 1 < (n : Int)) ∧ (1 ≤ i.toInt ∧ i.toInt ≤ 121 ∧ i.toInt ≤ (k_umade v).toInt + 1) ∧ (0 ≤ (k_umade v).toInt ∧ (k_umade v).toInt ≤ 120) ∧ fX3_moveAll u x1 x2 = lpX3_moveAll x1 x2 n i v ∧ va_P (dC, dI) vwCl (cw g h v) H ∧ va_D A (cw g h v) ∧ va_S A s.heap H locs ∧ lv_has ls 4 [(3, .int i), (0, .ref (h 2)), (1, .int x1), (2, .int x2)]) m 2 (fun H locs ls hI0 => ?_) (fun n H locs ls hI0 ih => ?_) 121 _ _ _ ⟨1, u, (by omega), (by omega), (by omega), rfl, hP, hD, hS, lv_sub hl [0, 1, 2, 3] rfl⟩
  · skip
    obtain ⟨i, v, hn, hi, hv, he, hP, hD, hS, hl⟩ := hI0
    exact absurd hn (by omega)
  · skip
    obtain ⟨i, v, hn, hi, hv, he, hP, hD, hS, hl⟩ := hI0
    have he_3 := he
    have ih_2 := ih
    refine lv_iload_n hx hb dX3_moveAll_2 rfl (lv_at hl 0 rfl) ?_
    refine lv_aload_n hx hb dX3_moveAll_3 rfl (lv_at hl 1 rfl) ?_
    refine va_get (D := (dC, dI)) (C := RX3) (T := TX3) (N := 7) (v := .int (k_umade v)) hx hb hts (fi_X3 _) hown hK hP 2 (cw_at2 _ _ _) rfl 5 (by decide) (hts _ (List.mem_cons_of_mem _ wd_43)) (fun _ h9 => h9) rfl dX3_moveAll_4 ?_
    refine lv_icmp_gt (tgt := 33) hx hb dX3_moveAll_7 (by decide) (fun c_4 => ?_) (fun c_4 => ?_)
    · skip
      have t_5 : (k_umade v).toInt < i.toInt := i_lt c_4 rfl rfl
      exact W.vret hx hb hr (fun t ht hW => ⟨⟨v, rfl, (by rw [he_3, lpX3_moveAll_eq, if_pos c_4]), by rw [ht]; exact hP, hD⟩, hS.F ht⟩) hS.2.2 dX3_moveAll_33
    · skip
      have t_6 : i.toInt ≤ (k_umade v).toInt := i_nlt c_4 rfl rfl
      refine lv_aload_n hx hb dX3_moveAll_10 rfl (lv_at hl 1 rfl) ?_
      refine va_get (D := (dC, dI)) (C := RX3) (T := TX3) (N := 7) (v := .ref (h 16)) hx hb hts (fi_X3 _) hown hK hP 2 (cw_at2 _ _ _) rfl 0 (by decide) (hts _ (List.mem_cons_of_mem _ wd_45)) (fun _ h9 => h9) rfl dX3_moveAll_11 ?_
      refine lv_iload_n hx hb dX3_moveAll_14 rfl (lv_at hl 0 rfl) ?_
      refine va_iald (f := k_ulot v) hx hb hK hP 16 0 (cw_at16 _ _ _) rfl (vp_in_iff.mpr (by omega)) dX3_moveAll_15 ?_
      refine lv_iload_n hx hb dX3_moveAll_16 rfl (lv_at hl 2 rfl) ?_
      refine lv_icmp_ne (tgt := 27) hx hb dX3_moveAll_17 (by decide) (fun c_7 => ?_) (fun c_7 => ?_)
      · skip
        have t_8 : (k_ulot v i.toNatClampNeg).toInt ≠ x1.toInt := i_ne c_7 rfl rfl
        refine lv_iinc (v := i + 1) (lv' := [(3, .int (i + 1)), (0, .ref (h 2)), (1, .int x1), (2, .int x2)]) hx hb dX3_moveAll_27 hl (k := 0) rfl rfl (by decide) rfl (fun ls hl => ?_)
        refine lv_goto (tgt := 2) hx hb dX3_moveAll_30 (by decide) ?_
        have hb1 := i_inc (x := i) (by omega)
        exact ih_2 _ _ _ ⟨(i + 1), v, (by have e9 : k_umade v = k_umade v := rfl; rw [e9]; omega), (by have e9 : k_umade v = k_umade v := rfl; rw [e9]; omega), (by have e9 : k_umade v = k_umade v := rfl; rw [e9]; omega), (by rw [he_3, lpX3_moveAll_eq, if_neg c_4, if_neg c_7]), hP, hD, hS, lv_sub hl [0, 1, 2, 3] rfl⟩
      · skip
        have t_9 : (k_ulot v i.toNatClampNeg).toInt = x1.toInt := i_eq c_7 rfl rfl
        refine lv_aload_n hx hb dX3_moveAll_20 rfl (lv_at hl 1 rfl) ?_
        refine va_get (D := (dC, dI)) (C := RX3) (T := TX3) (N := 7) (v := .ref (h 16)) hx hb hts (fi_X3 _) hown hK hP 2 (cw_at2 _ _ _) rfl 0 (by decide) (hts _ (List.mem_cons_of_mem _ wd_45)) (fun _ h9 => h9) rfl dX3_moveAll_21 ?_
        refine lv_iload_n hx hb dX3_moveAll_24 rfl (lv_at hl 0 rfl) ?_
        refine lv_iload_n hx hb dX3_moveAll_25 rfl (lv_at hl 3 rfl) ?_
        refine va_iast (f := k_ulot v) hx hb hK hP hD hS 16 0 (cw_at16 _ _ _) rfl (vp_in_iff.mpr (by omega)) dX3_moveAll_26 (fun H locs hP hD hS => ?_)
        have hP : va_P (dC, dI) vwCl (cw g h (s_ulot v (upd (k_ulot v) i.toNatClampNeg x2))) H := hP
        have hD : va_D A (cw g h (s_ulot v (upd (k_ulot v) i.toNatClampNeg x2))) := hD
        refine lv_iinc (v := i + 1) (lv' := [(3, .int (i + 1)), (0, .ref (h 2)), (1, .int x1), (2, .int x2)]) hx hb dX3_moveAll_27 hl (k := 0) rfl rfl (by decide) rfl (fun ls hl => ?_)
        refine lv_goto (tgt := 2) hx hb dX3_moveAll_30 (by decide) ?_
        have hb1 := i_inc (x := i) (by omega)
        exact ih_2 _ _ _ ⟨(i + 1), (s_ulot v (upd (k_ulot v) i.toNatClampNeg x2)), (by have e9 : k_umade (s_ulot v (upd (k_ulot v) i.toNatClampNeg x2)) = k_umade v := rfl; rw [e9]; omega), (by have e9 : k_umade (s_ulot v (upd (k_ulot v) i.toNatClampNeg x2)) = k_umade v := rfl; rw [e9]; omega), (by have e9 : k_umade (s_ulot v (upd (k_ulot v) i.toNatClampNeg x2)) = k_umade v := rfl; rw [e9]; omega), (by rw [he_3, lpX3_moveAll_eq, if_neg c_4, if_pos c_7]), hP, hD, hS, lv_sub hl [0, 1, 2, 3] rfl⟩
set_option maxHeartbeats 4000000 in
set_option maxRecDepth 100000 in
theorem kX2_write (l : Launch) (dC : Nat → ClassId) (dI : Nat → Nat → Nat) (g : cG) (h : Nat → Nat) (u : cS) (sz : Nat) (x1 : Int32) (x2 : Int32) (x3 : Int32) (hr : 0 ≤ (k_rwrit u).toInt ∧ (k_rwrit u).toInt < 400) : Met l yX2_write wsX2_write ({ frames := 0, cells := 0, slots := 0, locals := 0 }) (va_Pc [.ref (h 3), .int x1, .int x2, .int x3] (fun U => U.heap.size = sz ∧ va_P (dC, dI) vwCl (cw g h u) U.heap ∧ va_K (dC, dI) vwCl (cTys g) U ∧ va_D (fun _ => True) (cw g h u))) (va_Qv (fun u2 => u2 = fX2_write u x1 x2 x3) (fun (u2 : cS) (t : State) => va_P (dC, dI) vwCl (cw g h u2) t.heap ∧ va_D (va_A (cw g h u) sz) (cw g h u2)) (va_A (cw g h u) sz)) 0 0 (va_A (cw g h u) sz) := by
  refine Met.ofW (cc := cX2_write) (maxL := 4) (ret := none) (by decide) rfl ?_
  intro p e s m args below meth c s₁ B hml hv
  obtain ⟨rfl, hsz, hP, hK, hD0⟩ := hv
  have hx := B.exec
  have hb := B.bytes
  have hr := B.returns
  have hts := atoms_spec (ws := wsX2_write) B.pre
  have hown : s.vm.findClass RX2 = some m.cls := findClass_of_methodNamed B.named
  have hlocks := B.notSynchronized
  subst hsz
  have hD := hD0.self (sz := s.heap.size)
  generalize hAe : va_A (cw g h u) s.heap.size = A at hD ⊢
  have hA : ∀ q : Nat, s.heap.size ≤ q → A q := fun q h => by rw [← hAe]; exact Or.inr h
  have hS : va_S A s.heap s.heap [] := va_S.rf
  have hl := lv_entry ([.ref (h 3), .int x1, .int x2, .int x3]) (n := 4) (Nat.le_of_ble_eq_true rfl)
  rw [lg_entry_eq]
  generalize (lg_sl ([.ref (h 3), .int x1, .int x2, .int x3]) ++ List.replicate (4 - (lg_sl ([.ref (h 3), .int x1, .int x2, .int x3])).length) Slot.unset).toArray = ls at hl ⊢
  have hl : lv_has ls 4 [(0, .ref (h 3)), (1, .int x1), (2, .int x2), (3, .int x3)] := hl
  have hm2 := i_inc (x := k_rwrit u) (by omega)
  refine lv_aload_n hx hb dX2_write_0 rfl (lv_at hl 0 rfl) ?_
  refine va_get (D := (dC, dI)) (C := RX2) (T := TX2) (N := 4) (v := .ref (h 21)) hx hb hts (fi_X2 _) hown hK hP 3 (cw_at3 _ _ _) rfl 0 (by decide) (hts _ (List.mem_cons_of_mem _ wd_53)) (fun _ h9 => h9) rfl dX2_write_1 ?_
  refine lv_aload_n hx hb dX2_write_4 rfl (lv_at hl 0 rfl) ?_
  refine va_get (D := (dC, dI)) (C := RX2) (T := TX2) (N := 4) (v := .int (k_rwrit u)) hx hb hts (fi_X2 _) hown hK hP 3 (cw_at3 _ _ _) rfl 3 (by decide) (hts _ (List.mem_cons_of_mem _ wd_52)) (fun _ h9 => h9) rfl dX2_write_5 ?_
  refine lv_iload_n hx hb dX2_write_8 rfl (lv_at hl 1 rfl) ?_
  refine va_iast (f := k_rlot u) hx hb hK hP hD hS 21 0 (cw_at21 _ _ _) rfl (vp_in_iff.mpr (by omega)) dX2_write_9 (fun H locs hP hD hS => ?_)
  have hP : va_P (dC, dI) vwCl (cw g h (s_rlot u (upd (k_rlot u) (k_rwrit u).toNatClampNeg x1))) H := hP
  have hD : va_D A (cw g h (s_rlot u (upd (k_rlot u) (k_rwrit u).toNatClampNeg x1))) := hD
  refine lv_aload_n hx hb dX2_write_10 rfl (lv_at hl 0 rfl) ?_
  refine va_get (D := (dC, dI)) (C := RX2) (T := TX2) (N := 4) (v := .ref (h 22)) hx hb hts (fi_X2 _) hown hK hP 3 (cw_at3 _ _ _) rfl 1 (by decide) (hts _ (List.mem_cons_of_mem _ wd_73)) (fun _ h9 => h9) rfl dX2_write_11 ?_
  refine lv_aload_n hx hb dX2_write_14 rfl (lv_at hl 0 rfl) ?_
  refine va_get (D := (dC, dI)) (C := RX2) (T := TX2) (N := 4) (v := .int (k_rwrit u)) hx hb hts (fi_X2 _) hown hK hP 3 (cw_at3 _ _ _) rfl 3 (by decide) (hts _ (List.mem_cons_of_mem _ wd_52)) (fun _ h9 => h9) rfl dX2_write_15 ?_
  refine lv_iload_n hx hb dX2_write_18 rfl (lv_at hl 2 rfl) ?_
  refine va_iast (f := k_rkind u) hx hb hK hP hD hS 22 0 (cw_at22 _ _ _) rfl (vp_in_iff.mpr (by omega)) dX2_write_19 (fun H locs hP hD hS => ?_)
  have hP : va_P (dC, dI) vwCl (cw g h (s_rkind (s_rlot u (upd (k_rlot u) (k_rwrit u).toNatClampNeg x1)) (upd (k_rkind u) (k_rwrit u).toNatClampNeg x2))) H := hP
  have hD : va_D A (cw g h (s_rkind (s_rlot u (upd (k_rlot u) (k_rwrit u).toNatClampNeg x1)) (upd (k_rkind u) (k_rwrit u).toNatClampNeg x2))) := hD
  refine lv_aload_n hx hb dX2_write_20 rfl (lv_at hl 0 rfl) ?_
  refine va_get (D := (dC, dI)) (C := RX2) (T := TX2) (N := 4) (v := .ref (h 23)) hx hb hts (fi_X2 _) hown hK hP 3 (cw_at3 _ _ _) rfl 2 (by decide) (hts _ (List.mem_cons_of_mem _ wd_74)) (fun _ h9 => h9) rfl dX2_write_21 ?_
  refine lv_aload_n hx hb dX2_write_24 rfl (lv_at hl 0 rfl) ?_
  refine va_get (D := (dC, dI)) (C := RX2) (T := TX2) (N := 4) (v := .int (k_rwrit u)) hx hb hts (fi_X2 _) hown hK hP 3 (cw_at3 _ _ _) rfl 3 (by decide) (hts _ (List.mem_cons_of_mem _ wd_52)) (fun _ h9 => h9) rfl dX2_write_25 ?_
  refine lv_iload_n hx hb dX2_write_28 rfl (lv_at hl 3 rfl) ?_
  refine va_iast (f := k_rnum u) hx hb hK hP hD hS 23 0 (cw_at23 _ _ _) rfl (vp_in_iff.mpr (by omega)) dX2_write_29 (fun H locs hP hD hS => ?_)
  have hP : va_P (dC, dI) vwCl (cw g h (s_rnum (s_rkind (s_rlot u (upd (k_rlot u) (k_rwrit u).toNatClampNeg x1)) (upd (k_rkind u) (k_rwrit u).toNatClampNeg x2)) (upd (k_rnum u) (k_rwrit u).toNatClampNeg x3))) H := hP
  have hD : va_D A (cw g h (s_rnum (s_rkind (s_rlot u (upd (k_rlot u) (k_rwrit u).toNatClampNeg x1)) (upd (k_rkind u) (k_rwrit u).toNatClampNeg x2)) (upd (k_rnum u) (k_rwrit u).toNatClampNeg x3))) := hD
  refine lv_aload_n hx hb dX2_write_30 rfl (lv_at hl 0 rfl) ?_
  refine lv_dup hx hb dX2_write_31 rfl ?_
  refine va_get (D := (dC, dI)) (C := RX2) (T := TX2) (N := 4) (v := .int (k_rwrit u)) hx hb hts (fi_X2 _) hown hK hP 3 (cw_at3 _ _ _) rfl 3 (by decide) (hts _ (List.mem_cons_of_mem _ wd_52)) (fun _ h9 => h9) rfl dX2_write_32 ?_
  refine lv_iconst (v := 1) hx hb dX2_write_35 (by decide) ?_
  refine lv_iadd hx hb dX2_write_36 ?_
  refine va_put (D := (dC, dI)) (C := RX2) (T := TX2) (N := 4) (v := .int ((k_rwrit u) + 1)) (ty := .int) hx hb hts (fi_X2 _) tyX2 tyX2_ok nmX2 hown hK hP hD hS 3 (cw_at3 _ _ _) rfl 3 (by decide) (hts _ (List.mem_cons_of_mem _ wd_52)) (fun _ h9 => h9) rfl (by decide +kernel) rfl rfl (Nat.le_of_ble_eq_true rfl) dX2_write_37 (fun H locs hP hD hS => ?_)
  have hP : va_P (dC, dI) vwCl (cw g h (s_rwrit (s_rnum (s_rkind (s_rlot u (upd (k_rlot u) (k_rwrit u).toNatClampNeg x1)) (upd (k_rkind u) (k_rwrit u).toNatClampNeg x2)) (upd (k_rnum u) (k_rwrit u).toNatClampNeg x3)) ((k_rwrit u) + 1))) H := hP
  have hD : va_D A (cw g h (s_rwrit (s_rnum (s_rkind (s_rlot u (upd (k_rlot u) (k_rwrit u).toNatClampNeg x1)) (upd (k_rkind u) (k_rwrit u).toNatClampNeg x2)) (upd (k_rnum u) (k_rwrit u).toNatClampNeg x3)) ((k_rwrit u) + 1))) := hD
  exact W.vret hx hb hr (fun t ht hW => ⟨⟨(s_rwrit (s_rnum (s_rkind (s_rlot u (upd (k_rlot u) (k_rwrit u).toNatClampNeg x1)) (upd (k_rkind u) (k_rwrit u).toNatClampNeg x2)) (upd (k_rnum u) (k_rwrit u).toNatClampNeg x3)) ((k_rwrit u) + 1)), rfl, rfl, by rw [ht]; exact hP, hD⟩, hS.F ht⟩) hS.2.2 dX2_write_40
end
section
set_option maxHeartbeats 4000000 in
set_option maxRecDepth 100000 in
theorem kX4_mayGo (l : Launch) (dC : Nat → ClassId) (dI : Nat → Nat → Nat) (g : cG) (h : Nat → Nat) (u : cS) (x1 : Int32) (x2 : Int32) (x3 : Int32) (h1 : 0 ≤ x1.toInt ∧ x1.toInt ≤ 40) (h2 : 0 ≤ x2.toInt ∧ x2.toInt ≤ 7) : Met l yX4_mayGo wsX4_mayGo ({ frames := 1, cells := 0, slots := 0, locals := 21 }) (va_Pc [.ref (h 0), .int x1, .int x2, .int x3] (fun U => va_P (dC, dI) vwCl (cw g h u) U.heap ∧ va_K (dC, dI) vwCl (cTys g) U)) (vp_Si (fun r => r = fX4_mayGo u x1 x2 x3)) 0 0 (fun _ => False) := by
  refine Met.ofW (cc := cX4_mayGo) (maxL := 4) (ret := (some .boolean)) (by decide) rfl ?_
  intro p e s m args below meth c s₁ B hml hv
  obtain ⟨rfl, hP, hK⟩ := hv
  have hx := B.exec
  have hb := B.bytes
  have hr := B.returns
  have hts := atoms_spec (ws := wsX4_mayGo) B.pre
  have hown : s.vm.findClass RX4 = some m.cls := findClass_of_methodNamed B.named
  have hlocks := B.notSynchronized
  have hS : va_S (fun _ => False) s.heap s.heap [] := va_S.rf
  have hl := lv_entry ([.ref (h 0), .int x1, .int x2, .int x3]) (n := 4) (Nat.le_of_ble_eq_true rfl)
  rw [lg_entry_eq]
  generalize (lg_sl ([.ref (h 0), .int x1, .int x2, .int x3]) ++ List.replicate (4 - (lg_sl ([.ref (h 0), .int x1, .int x2, .int x3])).length) Slot.unset).toArray = ls at hl ⊢
  have hl : lv_has ls 4 [(0, .ref (h 0)), (1, .int x1), (2, .int x2), (3, .int x3)] := hl
  refine lv_aload_n hx hb dX4_mayGo_0 rfl (lv_at hl 0 rfl) ?_
  refine va_get (D := (dC, dI)) (C := RX4) (T := TX4) (N := 9) (v := .ref (h 1)) hx hb hts (fi_X4 _) hown hK hP 0 (cw_at0 _ _ _) rfl 0 (by decide) (hts _ (List.mem_cons_of_mem _ wd_11)) (fun _ h9 => h9) rfl dX4_mayGo_1 ?_
  refine lv_iload_n hx hb dX4_mayGo_4 rfl (lv_at hl 1 rfl) ?_
  refine vp_callSi (W.runV (As := [.int x1]) (rest := []) ⟨hx, hb, hml, hown, hts⟩ (kX1_mayBeTaken l dC dI g h u x1 (by omega)) (cwV 1 hts (gV wd_75 wd_26 wd_27 wd_28 wcX1_mayBeTaken) rfl rfl rfl (by decide +kernel) ⟨(Nat.le_of_ble_eq_true rfl), (Nat.le_of_ble_eq_true rfl)⟩) ⟨fun a U g mk q => by obtain ⟨q0, qP, qK⟩ := q; exact ⟨q0, qP, va_K.moved (u := U) (U := U.calling g mk a) (Vm.Alike.refl U.vm) qK⟩, va_recv hK hP (ci := 0) (q0 := 1) rfl (cw_at1 _ _ _), fun U hU hW => ⟨rfl, by rw [hU]; exact hP, va_K.moved hW.alike hK⟩⟩ rfl rfl hl.1 rfl (lv_room (Nat.le_of_ble_eq_true rfl)) dX4_mayGo_5 ⟨(Nat.le_of_ble_eq_true rfl), (Nat.le_of_ble_eq_true rfl)⟩) (fun r_1 hw => ?_)
  subst hw
  refine lv_if_eq (tgt := 63) hx hb dX4_mayGo_8 (by decide) (fun c_2 => ?_) (fun c_2 => ?_)
  · skip
    have t_3 : (fX1_mayBeTaken u x1).toInt = 0 := i_eq c_2 rfl (by decide)
    refine lv_iconst (v := 0) hx hb dX4_mayGo_63 (by decide) ?_
    exact W.zret (v := 0) hx hb hr rfl (fun t ht hW => ⟨0, rfl, (by unfold fX4_mayGo; rw [if_pos c_2]), ht⟩) (fun _ h => nomatch h) dX4_mayGo_64
  · skip
    have t_4 : (fX1_mayBeTaken u x1).toInt ≠ 0 := i_ne c_2 rfl (by decide)
    refine lv_iload_n hx hb dX4_mayGo_11 rfl (lv_at hl 3 rfl) ?_
    refine lv_aload_n hx hb dX4_mayGo_12 rfl (lv_at hl 0 rfl) ?_
    refine va_get (D := (dC, dI)) (C := RX4) (T := TX4) (N := 9) (v := .ref (h 1)) hx hb hts (fi_X4 _) hown hK hP 0 (cw_at0 _ _ _) rfl 0 (by decide) (hts _ (List.mem_cons_of_mem _ wd_11)) (fun _ h9 => h9) rfl dX4_mayGo_13 ?_
    refine va_get (D := (dC, dI)) (C := RX1) (T := TX1) (N := 9) (v := .ref (h 11)) hx hb hts (fi_X1 _) hown hK hP 1 (cw_at1 _ _ _) rfl 3 (by decide) (hts _ (List.mem_cons_of_mem _ wd_76)) (fun _ h9 => h9) rfl dX4_mayGo_16 ?_
    refine lv_iload_n hx hb dX4_mayGo_19 rfl (lv_at hl 1 rfl) ?_
    refine va_iald (f := k_arr u) hx hb hK hP 11 0 (cw_at11 _ _ _) rfl (vp_in_iff.mpr (by omega)) dX4_mayGo_20 ?_
    refine lv_icmp_lt (tgt := 63) hx hb dX4_mayGo_21 (by decide) (fun c_5 => ?_) (fun c_5 => ?_)
    · skip
      have t_6 : x3.toInt < (k_arr u x1.toNatClampNeg).toInt := i_lt c_5 rfl rfl
      refine lv_iconst (v := 0) hx hb dX4_mayGo_63 (by decide) ?_
      exact W.zret (v := 0) hx hb hr rfl (fun t ht hW => ⟨0, rfl, (by unfold fX4_mayGo; rw [if_neg c_2, if_pos c_5]), ht⟩) (fun _ h => nomatch h) dX4_mayGo_64
    · skip
      have t_7 : (k_arr u x1.toNatClampNeg).toInt ≤ x3.toInt := i_nlt c_5 rfl rfl
      refine lv_iload_n hx hb dX4_mayGo_24 rfl (lv_at hl 3 rfl) ?_
      refine lv_aload_n hx hb dX4_mayGo_25 rfl (lv_at hl 0 rfl) ?_
      refine va_get (D := (dC, dI)) (C := RX4) (T := TX4) (N := 9) (v := .ref (h 1)) hx hb hts (fi_X4 _) hown hK hP 0 (cw_at0 _ _ _) rfl 0 (by decide) (hts _ (List.mem_cons_of_mem _ wd_11)) (fun _ h9 => h9) rfl dX4_mayGo_26 ?_
      refine va_get (D := (dC, dI)) (C := RX1) (T := TX1) (N := 9) (v := .ref (h 10)) hx hb hts (fi_X1 _) hown hK hP 1 (cw_at1 _ _ _) rfl 2 (by decide) (hts _ (List.mem_cons_of_mem _ wd_77)) (fun _ h9 => h9) rfl dX4_mayGo_29 ?_
      refine lv_iload_n hx hb dX4_mayGo_32 rfl (lv_at hl 1 rfl) ?_
      refine va_iald (f := k_last u) hx hb hK hP 10 0 (cw_at10 _ _ _) rfl (vp_in_iff.mpr (by omega)) dX4_mayGo_33 ?_
      refine lv_icmp_gt (tgt := 63) hx hb dX4_mayGo_34 (by decide) (fun c_8 => ?_) (fun c_8 => ?_)
      · skip
        have t_9 : (k_last u x1.toNatClampNeg).toInt < x3.toInt := i_lt c_8 rfl rfl
        refine lv_iconst (v := 0) hx hb dX4_mayGo_63 (by decide) ?_
        exact W.zret (v := 0) hx hb hr rfl (fun t ht hW => ⟨0, rfl, (by unfold fX4_mayGo; rw [if_neg c_2, if_neg c_5, if_pos c_8]), ht⟩) (fun _ h => nomatch h) dX4_mayGo_64
      · skip
        have t_10 : x3.toInt ≤ (k_last u x1.toNatClampNeg).toInt := i_nlt c_8 rfl rfl
        refine lv_aload_n hx hb dX4_mayGo_37 rfl (lv_at hl 0 rfl) ?_
        refine va_get (D := (dC, dI)) (C := RX4) (T := TX4) (N := 9) (v := .ref (h 1)) hx hb hts (fi_X4 _) hown hK hP 0 (cw_at0 _ _ _) rfl 0 (by decide) (hts _ (List.mem_cons_of_mem _ wd_11)) (fun _ h9 => h9) rfl dX4_mayGo_38 ?_
        refine va_get (D := (dC, dI)) (C := RX1) (T := TX1) (N := 9) (v := .ref (h 10)) hx hb hts (fi_X1 _) hown hK hP 1 (cw_at1 _ _ _) rfl 2 (by decide) (hts _ (List.mem_cons_of_mem _ wd_77)) (fun _ h9 => h9) rfl dX4_mayGo_41 ?_
        refine lv_iload_n hx hb dX4_mayGo_44 rfl (lv_at hl 1 rfl) ?_
        refine va_iald (f := k_last u) hx hb hK hP 10 0 (cw_at10 _ _ _) rfl (vp_in_iff.mpr (by omega)) dX4_mayGo_45 ?_
        refine lv_iload_n hx hb dX4_mayGo_46 rfl (lv_at hl 3 rfl) ?_
        refine lv_isub hx hb dX4_mayGo_47 ?_
        refine lv_iconst (v := 1) hx hb dX4_mayGo_48 (by decide) ?_
        refine lv_iadd hx hb dX4_mayGo_49 ?_
        refine lv_aload_n hx hb dX4_mayGo_50 rfl (lv_at hl 0 rfl) ?_
        refine va_get (D := (dC, dI)) (C := RX4) (T := TX4) (N := 9) (v := .ref (h 6)) hx hb hts (fi_X4 _) hown hK hP 0 (cw_at0 _ _ _) rfl 5 (by decide) (hts _ (List.mem_cons_of_mem _ wd_78)) (fun _ h9 => h9) rfl dX4_mayGo_51 ?_
        refine lv_iload_n hx hb dX4_mayGo_54 rfl (lv_at hl 2 rfl) ?_
        refine va_iald (f := k_want u) hx hb hK hP 6 0 (cw_at6 _ _ _) rfl (vp_in_iff.mpr (by omega)) dX4_mayGo_55 ?_
        refine lv_icmp_lt (tgt := 63) hx hb dX4_mayGo_56 (by decide) (fun c_11 => ?_) (fun c_11 => ?_)
        · skip
          have t_12 : (((k_last u x1.toNatClampNeg) - x3) + 1).toInt < (k_want u x2.toNatClampNeg).toInt := i_lt c_11 rfl rfl
          refine lv_iconst (v := 0) hx hb dX4_mayGo_63 (by decide) ?_
          exact W.zret (v := 0) hx hb hr rfl (fun t ht hW => ⟨0, rfl, (by unfold fX4_mayGo; rw [if_neg c_2, if_neg c_5, if_neg c_8, if_pos c_11]), ht⟩) (fun _ h => nomatch h) dX4_mayGo_64
        · skip
          have t_13 : (k_want u x2.toNatClampNeg).toInt ≤ (((k_last u x1.toNatClampNeg) - x3) + 1).toInt := i_nlt c_11 rfl rfl
          refine lv_iconst (v := 1) hx hb dX4_mayGo_59 (by decide) ?_
          refine lv_goto (tgt := 64) hx hb dX4_mayGo_60 (by decide) ?_
          exact W.zret (v := 1) hx hb hr rfl (fun t ht hW => ⟨1, rfl, (by unfold fX4_mayGo; rw [if_neg c_2, if_neg c_5, if_neg c_8, if_neg c_11]), ht⟩) (fun _ h => nomatch h) dX4_mayGo_64
set_option maxHeartbeats 4000000 in
set_option maxRecDepth 100000 in
theorem kX4_lotThatHinders (l : Launch) (dC : Nat → ClassId) (dI : Nat → Nat → Nat) (g : cG) (h : Nat → Nat) (u : cS) (x1 : Int32) (x2 : Int32) (h1 : 0 ≤ x1.toInt ∧ x1.toInt ≤ 120) (hI : cInv u) : Met l yX4_lotThatHinders wsX4_lotThatHinders ({ frames := 2, cells := 0, slots := 0, locals := 44 }) (va_Pc [.ref (h 0), .int x1, .int x2] (fun U => va_P (dC, dI) vwCl (cw g h u) U.heap ∧ va_K (dC, dI) vwCl (cTys g) U)) (vp_Si (fun r => r = fX4_lotThatHinders u x1 x2)) 0 0 (fun _ => False) := by
  refine Met.ofW (cc := cX4_lotThatHinders) (maxL := 6) (ret := (some .int)) (by decide) rfl ?_
  intro p e s m args below meth c s₁ B hml hv
  obtain ⟨rfl, hP, hK⟩ := hv
  have hx := B.exec
  have hb := B.bytes
  have hr := B.returns
  have hts := atoms_spec (ws := wsX4_lotThatHinders) B.pre
  have hown : s.vm.findClass RX4 = some m.cls := findClass_of_methodNamed B.named
  have hlocks := B.notSynchronized
  have hS : va_S (fun _ => False) s.heap s.heap [] := va_S.rf
  have hl := lv_entry ([.ref (h 0), .int x1, .int x2]) (n := 6) (Nat.le_of_ble_eq_true rfl)
  rw [lg_entry_eq]
  generalize (lg_sl ([.ref (h 0), .int x1, .int x2]) ++ List.replicate (6 - (lg_sl ([.ref (h 0), .int x1, .int x2])).length) Slot.unset).toArray = ls at hl ⊢
  have hl : lv_has ls 6 [(0, .ref (h 0)), (1, .int x1), (2, .int x2)] := hl
  obtain ⟨hI1, hI2, hI3, hI4, hI5, hI6⟩ := id hI
  have z_0 : (1 : Int32).toInt = 1 := by decide
  refine lv_aload_n hx hb dX4_lotThatHinders_0 rfl (lv_at hl 0 rfl) ?_
  refine va_get (D := (dC, dI)) (C := RX4) (T := TX4) (N := 9) (v := .ref (h 2)) hx hb hts (fi_X4 _) hown hK hP 0 (cw_at0 _ _ _) rfl 1 (by decide) (hts _ (List.mem_cons_of_mem _ wd_13)) (fun _ h9 => h9) rfl dX4_lotThatHinders_1 ?_
  refine va_get (D := (dC, dI)) (C := RX3) (T := TX3) (N := 7) (v := .ref (h 16)) hx hb hts (fi_X3 _) hown hK hP 2 (cw_at2 _ _ _) rfl 0 (by decide) (hts _ (List.mem_cons_of_mem _ wd_79)) (fun _ h9 => h9) rfl dX4_lotThatHinders_4 ?_
  refine lv_iload_n hx hb dX4_lotThatHinders_7 rfl (lv_at hl 1 rfl) ?_
  refine va_iald (f := k_ulot u) hx hb hK hP 16 0 (cw_at16 _ _ _) rfl (vp_in_iff.mpr (by omega)) dX4_lotThatHinders_8 ?_
  refine lv_istore_n (lv' := [(3, .int (k_ulot u x1.toNatClampNeg)), (0, .ref (h 0)), (1, .int x1), (2, .int x2)]) hx hb dX4_lotThatHinders_9 rfl hl (by decide) rfl (fun ls hl => ?_)
  refine lv_aload_n hx hb dX4_lotThatHinders_10 rfl (lv_at hl 1 rfl) ?_
  refine va_get (D := (dC, dI)) (C := RX4) (T := TX4) (N := 9) (v := .ref (h 5)) hx hb hts (fi_X4 _) hown hK hP 0 (cw_at0 _ _ _) rfl 4 (by decide) (hts _ (List.mem_cons_of_mem _ wd_80)) (fun _ h9 => h9) rfl dX4_lotThatHinders_11 ?_
  refine lv_aload_n hx hb dX4_lotThatHinders_14 rfl (lv_at hl 1 rfl) ?_
  refine va_get (D := (dC, dI)) (C := RX4) (T := TX4) (N := 9) (v := .ref (h 1)) hx hb hts (fi_X4 _) hown hK hP 0 (cw_at0 _ _ _) rfl 0 (by decide) (hts _ (List.mem_cons_of_mem _ wd_11)) (fun _ h9 => h9) rfl dX4_lotThatHinders_15 ?_
  refine va_get (D := (dC, dI)) (C := RX1) (T := TX1) (N := 9) (v := .ref (h 9)) hx hb hts (fi_X1 _) hown hK hP 1 (cw_at1 _ _ _) rfl 1 (by decide) (hts _ (List.mem_cons_of_mem _ wd_81)) (fun _ h9 => h9) rfl dX4_lotThatHinders_18 ?_
  refine lv_iload_n hx hb dX4_lotThatHinders_21 rfl (lv_at hl 0 rfl) ?_
  refine va_iald (f := k_owners u) hx hb hK hP 9 0 (cw_at9 _ _ _) rfl (vp_in_iff.mpr (i_rgl (hI5 _) (by decide))) dX4_lotThatHinders_22 ?_
  refine va_iald (f := k_mix u) hx hb hK hP 5 0 (cw_at5 _ _ _) rfl (vp_in_iff.mpr (i_rg (hI4 _) (by decide))) dX4_lotThatHinders_23 ?_
  refine lv_istore (lv' := [(4, .int (k_mix u (k_owners u (k_ulot u x1.toNatClampNeg).toNatClampNeg).toNatClampNeg)), (3, .int (k_ulot u x1.toNatClampNeg)), (0, .ref (h 0)), (1, .int x1), (2, .int x2)]) hx hb dX4_lotThatHinders_24 hl (by decide) rfl (fun ls hl => ?_)
  refine lv_iconst (v := 1) hx hb dX4_lotThatHinders_26 (by decide) ?_
  refine lv_istore (lv' := [(5, .int 1), (4, .int (k_mix u (k_owners u (k_ulot u x1.toNatClampNeg).toNatClampNeg).toNatClampNeg)), (3, .int (k_ulot u x1.toNatClampNeg)), (0, .ref (h 0)), (1, .int x1), (2, .int x2)]) hx hb dX4_lotThatHinders_27 hl (by decide) rfl (fun ls hl => ?_)
  refine lp_ind (W p l e _ s m _ below meth c _ _ _ _ _) (fun n ls => ∃ (i : Int32), ((k_umade u).toInt - i.toInt + 1 < (n : Int)) ∧ (1 ≤ i.toInt ∧ i.toInt ≤ 121 ∧ i.toInt ≤ (k_umade u).toInt + 1) ∧ fX4_lotThatHinders u x1 x2 = lpX4_lotThatHinders u x1 x2 n i ∧ lv_has ls 6 [(5, .int i), (0, .ref (h 0)), (1, .int x1), (2, .int x2), (3, .int (k_ulot u x1.toNatClampNeg)), (4, .int (k_mix u (k_owners u (k_ulot u x1.toNatClampNeg).toNatClampNeg).toNatClampNeg))]) m 29 (fun ls hI0 => ?_) (fun n ls hI0 ih => ?_) 121 _ ⟨1, (by omega), (by omega), rfl, lv_sub hl [0, 3, 4, 5, 2, 1] rfl⟩
  · skip
    obtain ⟨i, hn, hi, he, hl⟩ := hI0
    exact absurd hn (by omega)
  · skip
    obtain ⟨i, hn, hi, he, hl⟩ := hI0
    have he_3 := he
    have ih_2 := ih
    refine lv_iload hx hb dX4_lotThatHinders_29 (lv_at hl 0 rfl) ?_
    refine lv_aload_n hx hb dX4_lotThatHinders_31 rfl (lv_at hl 1 rfl) ?_
    refine va_get (D := (dC, dI)) (C := RX4) (T := TX4) (N := 9) (v := .ref (h 2)) hx hb hts (fi_X4 _) hown hK hP 0 (cw_at0 _ _ _) rfl 1 (by decide) (hts _ (List.mem_cons_of_mem _ wd_13)) (fun _ h9 => h9) rfl dX4_lotThatHinders_32 ?_
    refine va_get (D := (dC, dI)) (C := RX3) (T := TX3) (N := 7) (v := .int (k_umade u)) hx hb hts (fi_X3 _) hown hK hP 2 (cw_at2 _ _ _) rfl 5 (by decide) (hts _ (List.mem_cons_of_mem _ wd_14)) (fun _ h9 => h9) rfl dX4_lotThatHinders_35 ?_
    refine lv_icmp_gt (tgt := 95) hx hb dX4_lotThatHinders_38 (by decide) (fun c_4 => ?_) (fun c_4 => ?_)
    · skip
      have t_5 : (k_umade u).toInt < i.toInt := i_lt c_4 rfl rfl
      refine lv_iconst (v := 0) hx hb dX4_lotThatHinders_95 (by decide) ?_
      exact W.iret (v := 0) hx hb hr (fun t ht hW => ⟨0, rfl, (by rw [he_3, lpX4_lotThatHinders_eq, if_pos c_4]), ht⟩) (fun _ h => nomatch h) dX4_lotThatHinders_96
    · skip
      have t_6 : i.toInt ≤ (k_umade u).toInt := i_nlt c_4 rfl rfl
      refine lv_aload_n hx hb dX4_lotThatHinders_41 rfl (lv_at hl 1 rfl) ?_
      refine va_get (D := (dC, dI)) (C := RX4) (T := TX4) (N := 9) (v := .ref (h 2)) hx hb hts (fi_X4 _) hown hK hP 0 (cw_at0 _ _ _) rfl 1 (by decide) (hts _ (List.mem_cons_of_mem _ wd_13)) (fun _ h9 => h9) rfl dX4_lotThatHinders_42 ?_
      refine va_get (D := (dC, dI)) (C := RX3) (T := TX3) (N := 7) (v := .ref (h 17)) hx hb hts (fi_X3 _) hown hK hP 2 (cw_at2 _ _ _) rfl 1 (by decide) (hts _ (List.mem_cons_of_mem _ wd_82)) (fun _ h9 => h9) rfl dX4_lotThatHinders_45 ?_
      refine lv_iload hx hb dX4_lotThatHinders_48 (lv_at hl 0 rfl) ?_
      refine va_iald (f := k_ubin u) hx hb hK hP 17 0 (cw_at17 _ _ _) rfl (vp_in_iff.mpr (by omega)) dX4_lotThatHinders_50 ?_
      refine lv_iload_n hx hb dX4_lotThatHinders_51 rfl (lv_at hl 3 rfl) ?_
      refine lv_icmp_ne (tgt := 89) hx hb dX4_lotThatHinders_52 (by decide) (fun c_7 => ?_) (fun c_7 => ?_)
      · skip
        have t_8 : (k_ubin u i.toNatClampNeg).toInt ≠ x2.toInt := i_ne c_7 rfl rfl
        refine lv_iinc (v := i + 1) (lv' := [(5, .int (i + 1)), (0, .ref (h 0)), (1, .int x1), (2, .int x2), (3, .int (k_ulot u x1.toNatClampNeg)), (4, .int (k_mix u (k_owners u (k_ulot u x1.toNatClampNeg).toNatClampNeg).toNatClampNeg))]) hx hb dX4_lotThatHinders_89 hl (k := 0) rfl rfl (by decide) rfl (fun ls hl => ?_)
        refine lv_goto (tgt := 29) hx hb dX4_lotThatHinders_92 (by decide) ?_
        have hb1 := i_inc (x := i) (by omega)
        exact ih_2 _ ⟨(i + 1), (by omega), (by omega), (by rw [he_3, lpX4_lotThatHinders_eq, if_neg c_4, if_neg c_7]), lv_sub hl [0, 1, 2, 3, 4, 5] rfl⟩
      · skip
        have t_9 : (k_ubin u i.toNatClampNeg).toInt = x2.toInt := i_eq c_7 rfl rfl
        refine lv_aload_n hx hb dX4_lotThatHinders_55 rfl (lv_at hl 1 rfl) ?_
        refine va_get (D := (dC, dI)) (C := RX4) (T := TX4) (N := 9) (v := .ref (h 1)) hx hb hts (fi_X4 _) hown hK hP 0 (cw_at0 _ _ _) rfl 0 (by decide) (hts _ (List.mem_cons_of_mem _ wd_11)) (fun _ h9 => h9) rfl dX4_lotThatHinders_56 ?_
        refine lv_iload_n hx hb dX4_lotThatHinders_59 rfl (lv_at hl 4 rfl) ?_
        refine lv_aload_n hx hb dX4_lotThatHinders_60 rfl (lv_at hl 1 rfl) ?_
        refine va_get (D := (dC, dI)) (C := RX4) (T := TX4) (N := 9) (v := .ref (h 2)) hx hb hts (fi_X4 _) hown hK hP 0 (cw_at0 _ _ _) rfl 1 (by decide) (hts _ (List.mem_cons_of_mem _ wd_13)) (fun _ h9 => h9) rfl dX4_lotThatHinders_61 ?_
        refine va_get (D := (dC, dI)) (C := RX3) (T := TX3) (N := 7) (v := .ref (h 16)) hx hb hts (fi_X3 _) hown hK hP 2 (cw_at2 _ _ _) rfl 0 (by decide) (hts _ (List.mem_cons_of_mem _ wd_79)) (fun _ h9 => h9) rfl dX4_lotThatHinders_64 ?_
        refine lv_iload hx hb dX4_lotThatHinders_67 (lv_at hl 0 rfl) ?_
        refine va_iald (f := k_ulot u) hx hb hK hP 16 0 (cw_at16 _ _ _) rfl (vp_in_iff.mpr (by omega)) dX4_lotThatHinders_69 ?_
        refine lv_iload hx hb dX4_lotThatHinders_70 (lv_at hl 5 rfl) ?_
        refine vp_callSi (W.runV (As := [.int (k_ulot u x1.toNatClampNeg), .int (k_ulot u i.toNatClampNeg), .int (k_mix u (k_owners u (k_ulot u x1.toNatClampNeg).toNatClampNeg).toNatClampNeg)]) (rest := []) ⟨hx, hb, hml, hown, hts⟩ (kX1_lieTooFarApart l dC dI g h u (k_ulot u x1.toNatClampNeg) (k_ulot u i.toNatClampNeg) (k_mix u (k_owners u (k_ulot u x1.toNatClampNeg).toNatClampNeg).toNatClampNeg) (hI5 _) (hI5 _)) (cwV 3 hts (gV wd_83 wd_84 wd_85 wd_28 wcX1_lieTooFarApart) rfl rfl rfl (by decide +kernel) ⟨(Nat.le_of_ble_eq_true rfl), (Nat.le_of_ble_eq_true rfl)⟩) ⟨fun a U g mk q => by obtain ⟨q0, qP, qK⟩ := q; exact ⟨q0, qP, va_K.moved (u := U) (U := U.calling g mk a) (Vm.Alike.refl U.vm) qK⟩, va_recv hK hP (ci := 0) (q0 := 1) rfl (cw_at1 _ _ _), fun U hU hW => ⟨rfl, by rw [hU]; exact hP, va_K.moved hW.alike hK⟩⟩ rfl rfl hl.1 rfl (lv_room (Nat.le_of_ble_eq_true rfl)) dX4_lotThatHinders_72 ⟨(Nat.le_of_ble_eq_true rfl), (Nat.le_of_ble_eq_true rfl)⟩) (fun r_10 hw => ?_)
        subst hw
        refine lv_if_eq (tgt := 89) hx hb dX4_lotThatHinders_75 (by decide) (fun c_11 => ?_) (fun c_11 => ?_)
        · skip
          have t_12 : (fX1_lieTooFarApart u (k_ulot u x1.toNatClampNeg) (k_ulot u i.toNatClampNeg) (k_mix u (k_owners u (k_ulot u x1.toNatClampNeg).toNatClampNeg).toNatClampNeg)).toInt = 0 := i_eq c_11 rfl (by decide)
          refine lv_iinc (v := i + 1) (lv' := [(5, .int (i + 1)), (0, .ref (h 0)), (1, .int x1), (2, .int x2), (3, .int (k_ulot u x1.toNatClampNeg)), (4, .int (k_mix u (k_owners u (k_ulot u x1.toNatClampNeg).toNatClampNeg).toNatClampNeg))]) hx hb dX4_lotThatHinders_89 hl (k := 0) rfl rfl (by decide) rfl (fun ls hl => ?_)
          refine lv_goto (tgt := 29) hx hb dX4_lotThatHinders_92 (by decide) ?_
          have hb1 := i_inc (x := i) (by omega)
          exact ih_2 _ ⟨(i + 1), (by omega), (by omega), (by rw [he_3, lpX4_lotThatHinders_eq, if_neg c_4, if_pos c_7, if_pos c_11]), lv_sub hl [0, 1, 2, 3, 4, 5] rfl⟩
        · skip
          have t_13 : (fX1_lieTooFarApart u (k_ulot u x1.toNatClampNeg) (k_ulot u i.toNatClampNeg) (k_mix u (k_owners u (k_ulot u x1.toNatClampNeg).toNatClampNeg).toNatClampNeg)).toInt ≠ 0 := i_ne c_11 rfl (by decide)
          refine lv_aload_n hx hb dX4_lotThatHinders_78 rfl (lv_at hl 1 rfl) ?_
          refine va_get (D := (dC, dI)) (C := RX4) (T := TX4) (N := 9) (v := .ref (h 2)) hx hb hts (fi_X4 _) hown hK hP 0 (cw_at0 _ _ _) rfl 1 (by decide) (hts _ (List.mem_cons_of_mem _ wd_13)) (fun _ h9 => h9) rfl dX4_lotThatHinders_79 ?_
          refine va_get (D := (dC, dI)) (C := RX3) (T := TX3) (N := 7) (v := .ref (h 16)) hx hb hts (fi_X3 _) hown hK hP 2 (cw_at2 _ _ _) rfl 0 (by decide) (hts _ (List.mem_cons_of_mem _ wd_79)) (fun _ h9 => h9) rfl dX4_lotThatHinders_82 ?_
          refine lv_iload hx hb dX4_lotThatHinders_85 (lv_at hl 0 rfl) ?_
          refine va_iald (f := k_ulot u) hx hb hK hP 16 0 (cw_at16 _ _ _) rfl (vp_in_iff.mpr (by omega)) dX4_lotThatHinders_87 ?_
          exact W.iret (v := k_ulot u i.toNatClampNeg) hx hb hr (fun t ht hW => ⟨(k_ulot u i.toNatClampNeg), rfl, (by rw [he_3, lpX4_lotThatHinders_eq, if_neg c_4, if_pos c_7, if_neg c_11]), ht⟩) (fun _ h => nomatch h) dX4_lotThatHinders_88
set_option maxHeartbeats 4000000 in
set_option maxRecDepth 100000 in
theorem kX4_count (l : Launch) (dC : Nat → ClassId) (dI : Nat → Nat → Nat) (g : cG) (h : Nat → Nat) (u : cS) (x1 : Int32) : Met l yX4_count wsX4_count ({ frames := 0, cells := 0, slots := 0, locals := 0 }) (va_Pc [.ref (h 0), .int x1] (fun U => va_P (dC, dI) vwCl (cw g h u) U.heap ∧ va_K (dC, dI) vwCl (cTys g) U)) (vp_Si (fun r => r = fX4_count u x1)) 0 0 (fun _ => False) := by
  refine Met.ofW (cc := cX4_count) (maxL := 2) (ret := (some .int)) (by decide) rfl ?_
  intro p e s m args below meth c s₁ B hml hv
  obtain ⟨rfl, hP, hK⟩ := hv
  have hx := B.exec
  have hb := B.bytes
  have hr := B.returns
  have hts := atoms_spec (ws := wsX4_count) B.pre
  have hown : s.vm.findClass RX4 = some m.cls := findClass_of_methodNamed B.named
  have hlocks := B.notSynchronized
  have hS : va_S (fun _ => False) s.heap s.heap [] := va_S.rf
  have hl := lv_entry ([.ref (h 0), .int x1]) (n := 2) (Nat.le_of_ble_eq_true rfl)
  rw [lg_entry_eq]
  generalize (lg_sl ([.ref (h 0), .int x1]) ++ List.replicate (2 - (lg_sl ([.ref (h 0), .int x1])).length) Slot.unset).toArray = ls at hl ⊢
  have hl : lv_has ls 2 [(0, .ref (h 0)), (1, .int x1)] := hl
  refine lv_iload_n hx hb dX4_count_0 rfl (lv_at hl 1 rfl) ?_
  by_cases c_1 : x1 = 0
  · skip
    refine lv_tableIn (tgt := 32) hx hb dX4_count_1 (by rw [c_1]; decide) (by rw [c_1]; decide) (by rw [c_1]; rfl) (by decide) ?_
    refine lv_aload_n hx hb dX4_count_32 rfl (lv_at hl 0 rfl) ?_
    refine va_get (D := (dC, dI)) (C := RX4) (T := TX4) (N := 9) (v := .ref (h 1)) hx hb hts (fi_X4 _) hown hK hP 0 (cw_at0 _ _ _) rfl 0 (by decide) (hts _ (List.mem_cons_of_mem _ wd_11)) (fun _ h9 => h9) rfl dX4_count_33 ?_
    refine va_get (D := (dC, dI)) (C := RX1) (T := TX1) (N := 9) (v := .int (k_lmade u)) hx hb hts (fi_X1 _) hown hK hP 1 (cw_at1 _ _ _) rfl 8 (by decide) (hts _ (List.mem_cons_of_mem _ wd_12)) (fun _ h9 => h9) rfl dX4_count_36 ?_
    exact W.iret (v := k_lmade u) hx hb hr (fun t ht hW => ⟨(k_lmade u), rfl, (by unfold fX4_count; rw [if_pos c_1]), ht⟩) (fun _ h => nomatch h) dX4_count_39
  by_cases c_2 : x1 = 1
  · skip
    refine lv_tableIn (tgt := 40) hx hb dX4_count_1 (by rw [c_2]; decide) (by rw [c_2]; decide) (by rw [c_2]; rfl) (by decide) ?_
    refine lv_aload_n hx hb dX4_count_40 rfl (lv_at hl 0 rfl) ?_
    refine va_get (D := (dC, dI)) (C := RX4) (T := TX4) (N := 9) (v := .ref (h 2)) hx hb hts (fi_X4 _) hown hK hP 0 (cw_at0 _ _ _) rfl 1 (by decide) (hts _ (List.mem_cons_of_mem _ wd_13)) (fun _ h9 => h9) rfl dX4_count_41 ?_
    refine va_get (D := (dC, dI)) (C := RX3) (T := TX3) (N := 7) (v := .int (k_umade u)) hx hb hts (fi_X3 _) hown hK hP 2 (cw_at2 _ _ _) rfl 5 (by decide) (hts _ (List.mem_cons_of_mem _ wd_14)) (fun _ h9 => h9) rfl dX4_count_44 ?_
    exact W.iret (v := k_umade u) hx hb hr (fun t ht hW => ⟨(k_umade u), rfl, (by unfold fX4_count; rw [if_neg c_1, if_pos c_2]), ht⟩) (fun _ h => nomatch h) dX4_count_47
  by_cases c_3 : x1 = 2
  · skip
    refine lv_tableIn (tgt := 48) hx hb dX4_count_1 (by rw [c_3]; decide) (by rw [c_3]; decide) (by rw [c_3]; rfl) (by decide) ?_
    refine lv_aload_n hx hb dX4_count_48 rfl (lv_at hl 0 rfl) ?_
    refine va_get (D := (dC, dI)) (C := RX4) (T := TX4) (N := 9) (v := .ref (h 3)) hx hb hts (fi_X4 _) hown hK hP 0 (cw_at0 _ _ _) rfl 2 (by decide) (hts _ (List.mem_cons_of_mem _ wd_87)) (fun _ h9 => h9) rfl dX4_count_49 ?_
    refine va_get (D := (dC, dI)) (C := RX2) (T := TX2) (N := 4) (v := .int (k_rwrit u)) hx hb hts (fi_X2 _) hown hK hP 3 (cw_at3 _ _ _) rfl 3 (by decide) (hts _ (List.mem_cons_of_mem _ wd_88)) (fun _ h9 => h9) rfl dX4_count_52 ?_
    exact W.iret (v := k_rwrit u) hx hb hr (fun t ht hW => ⟨(k_rwrit u), rfl, (by unfold fX4_count; rw [if_neg c_1, if_neg c_2, if_pos c_3]), ht⟩) (fun _ h => nomatch h) dX4_count_55
  by_cases c_4 : x1 = 3
  · skip
    refine lv_tableIn (tgt := 56) hx hb dX4_count_1 (by rw [c_4]; decide) (by rw [c_4]; decide) (by rw [c_4]; rfl) (by decide) ?_
    refine lv_aload_n hx hb dX4_count_56 rfl (lv_at hl 0 rfl) ?_
    refine va_get (D := (dC, dI)) (C := RX4) (T := TX4) (N := 9) (v := .ref (h 2)) hx hb hts (fi_X4 _) hown hK hP 0 (cw_at0 _ _ _) rfl 1 (by decide) (hts _ (List.mem_cons_of_mem _ wd_13)) (fun _ h9 => h9) rfl dX4_count_57 ?_
    refine va_get (D := (dC, dI)) (C := RX3) (T := TX3) (N := 7) (v := .int (k_ugone u)) hx hb hts (fi_X3 _) hown hK hP 2 (cw_at2 _ _ _) rfl 6 (by decide) (hts _ (List.mem_cons_of_mem _ wd_89)) (fun _ h9 => h9) rfl dX4_count_60 ?_
    exact W.iret (v := k_ugone u) hx hb hr (fun t ht hW => ⟨(k_ugone u), rfl, (by unfold fX4_count; rw [if_neg c_1, if_neg c_2, if_neg c_3, if_pos c_4]), ht⟩) (fun _ h => nomatch h) dX4_count_63
  refine lv_tableOut (tgt := 64) hx hb dX4_count_1 (i_out x1 (by decide) (by intro k h1 h2; intro hk; rcases (show k = 0 ∨ k = 1 ∨ k = 2 ∨ k = 3 by omega) with rfl | rfl | rfl | rfl <;> first | exact c_1 (i_of hk (by decide)) | exact c_2 (i_of hk (by decide)) | exact c_3 (i_of hk (by decide)) | exact c_4 (i_of hk (by decide)))) (by decide) ?_
  refine lv_iconst (v := (-1)) hx hb dX4_count_64 (by decide) ?_
  exact W.iret (v := (-1)) hx hb hr (fun t ht hW => ⟨(-1), rfl, (by unfold fX4_count; rw [if_neg c_1, if_neg c_2, if_neg c_3, if_neg c_4]), ht⟩) (fun _ h => nomatch h) dX4_count_65
end
section
set_option maxHeartbeats 4000000 in
set_option maxRecDepth 100000 in
theorem kX4_lot (l : Launch) (hl9 : l.stackTraces = false) (dC : Nat → ClassId) (dI : Nat → Nat → Nat) (g : cG) (h : Nat → Nat) (u : cS) (sz : Nat) (x1 : Int32) (x2 : Int32) (x3 : Int32) (x4 : Int32) (hI : cInv u) : vy_Met l yX4_lot wsX4_lot ({ frames := 7, cells := 8, slots := 48, locals := 104 }) (va_Pc [.ref (h 0), .int x1, .int x2, .int x3, .int x4] (fun U => U.heap.size = sz ∧ va_P (dC, dI) vwCl (cw g h u) U.heap ∧ va_K (dC, dI) vwCl (cTys g) U ∧ va_D (fun _ => True) (cw g h u) ∧ zz (va_A (cw g h u) sz) U U.heap)) (va_Qi (fun (r : Int32) u2 => fX4_lot u x1 x2 x3 x4 = (0, r, u2)) (fun (u2 : cS) (t : State) => va_P (dC, dI) vwCl (cw g h u2) t.heap ∧ va_D (va_A (cw g h u) sz) (cw g h u2)) (va_A (cw g h u) sz)) (vx_X (fun _ => True) (fun E (u2 : cS) t => (∃ k : Nat, fX4_lot u x1 x2 x3 x4 = (k, 0, u2) ∧ ex_is k E) ∧ va_P (dC, dI) vwCl (cw g h u2) t.heap ∧ va_D (va_A (cw g h u) sz) (cw g h u2)) (va_A (cw g h u) sz)) 0 0 8 48 (va_A (cw g h u) sz) := by
  refine vy_ofW (cc := cX4_lot) (maxL := 6) (ret := (some .int)) (by decide) rfl ?_
  intro p e s m args below meth c s₁ B hml hxt hv
  obtain ⟨rfl, hsz, hP, hK, hD0, hZ⟩ := hv
  have hx := B.exec
  have hb := B.bytes
  have hr := B.returns
  have hts := atoms_spec (ws := wsX4_lot) B.pre
  have hown : s.vm.findClass RX4 = some m.cls := findClass_of_methodNamed B.named
  have hlocks := B.notSynchronized
  subst hsz
  have hD := hD0.self (sz := s.heap.size)
  generalize hAe : va_A (cw g h u) s.heap.size = A at hD hZ ⊢
  have hA : ∀ q : Nat, s.heap.size ≤ q → A q := fun q h => by rw [← hAe]; exact Or.inr h
  have hS : va_S A s.heap s.heap [] := va_S.rf
  have hl := lv_entry ([.ref (h 0), .int x1, .int x2, .int x3, .int x4]) (n := 6) (Nat.le_of_ble_eq_true rfl)
  rw [lg_entry_eq]
  generalize (lg_sl ([.ref (h 0), .int x1, .int x2, .int x3, .int x4]) ++ List.replicate (6 - (lg_sl ([.ref (h 0), .int x1, .int x2, .int x3, .int x4])).length) Slot.unset).toArray = ls at hl ⊢
  have hl : lv_has ls 6 [(0, .ref (h 0)), (1, .int x1), (2, .int x2), (3, .int x3), (4, .int x4)] := hl
  obtain ⟨hI1, hI2, hI3, hI4, hI5, hI6⟩ := id hI
  have z_0 : (0 : Int32).toInt = 0 := by decide
  have z_1 : (9 : Int32).toInt = 9 := by decide
  have z_2 : (7 : Int32).toInt = 7 := by decide
  have z_3 : (36524 : Int32).toInt = 36524 := by decide
  refine lv_iload_n hx hb dX4_lot_0 rfl (lv_at hl 1 rfl) ?_
  refine lv_iconst (v := 0) hx hb dX4_lot_1 (by decide) ?_
  refine lv_bipush (v := 9) hx hb dX4_lot_2 (by decide) ?_
  refine vy_callv (vy_runS (As := [.int x1, .int 0, .int 9]) (rest := []) ⟨hx, hb, hml, hown, hts⟩ (kX4_requireRange l hl9 dC dI _ x1 0 9) (cwS 3 hts (gS wd_90 wd_91 wd_92 wcX4_requireRange) rfl rfl rfl (by decide +kernel) ⟨(Nat.le_of_ble_eq_true rfl), (Nat.le_of_ble_eq_true rfl)⟩) ⟨fun a U g mk q => by obtain ⟨q0, q1, qZ⟩ := q; exact ⟨q0, q1, zz_same (u := U) (H := U.heap) rfl rfl qZ⟩, fun U hU hW => ⟨rfl, hU, by rw [hU]; exact zz_to hZ hS (fun q h => hA q (Nat.le_trans hS.1 h)) hW⟩⟩ rfl rfl hl.1 rfl (lv_room (Nat.le_of_ble_eq_true rfl)) dX4_lot_4 ⟨(Nat.le_of_ble_eq_true rfl), (Nat.le_of_ble_eq_true rfl)⟩) hS (fun q h1 h2 => absurd h2 (Nat.not_le.mpr h1)) (fun q h => hA q (Nat.le_trans hS.1 h)) (fun q h1 h2 => absurd h2 (Nat.not_le.mpr h1)) (fun E ce q9 _ t H1 locs1 ht hvm hw hB hz1 hk1 hS hce hcv hcl => ?_) (fun _ t H1 locs1 ht hvm hw hB hz1 hk1 hS => ?_)
  · skip
    have c_1 : ¬ fX4_requireRange x1 0 9 = 0 := by rw [hw]; decide
    subst hB
    have hP := hP.kept (fun k q hq => hk1 q.1 (hP k q hq).lt (Nat.not_le.mpr (hP k q hq).lt))
    exact vy_out (vx_out (fun x hx => (hxt x hx).elim) hlocks hce hcv hcl (fun t ht ha => ⟨u, trivial, ⟨⟨2, (by unfold fX4_lot; rw [if_neg c_1]), rfl⟩, by rw [ht]; exact hP, hD⟩, hS.F ht⟩) hS.2.2 (Nat.le_of_ble_eq_true rfl) (Nat.le_of_ble_eq_true rfl))
  · skip
    have hH1 : H1 = _ := ht.symm.trans hB
    subst hH1
    have c_1 : fX4_requireRange x1 0 9 = 0 := hw
    have t_2 := rr_lo c_1
    have t_3 := rr_hi c_1
    refine lv_iload_n hx hb dX4_lot_7 rfl (lv_at hl 2 rfl) ?_
    refine lv_iconst (v := 0) hx hb dX4_lot_8 (by decide) ?_
    refine lv_bipush (v := 7) hx hb dX4_lot_9 (by decide) ?_
    refine vy_callv (vy_runS (As := [.int x2, .int 0, .int 7]) (rest := []) ⟨hx, hb, hml, hown, hts⟩ (kX4_requireRange l hl9 dC dI _ x2 0 7) (cwS 3 hts (gS wd_90 wd_91 wd_92 wcX4_requireRange) rfl rfl rfl (by decide +kernel) ⟨(Nat.le_of_ble_eq_true rfl), (Nat.le_of_ble_eq_true rfl)⟩) ⟨fun a U g mk q => by obtain ⟨q0, q1, qZ⟩ := q; exact ⟨q0, q1, zz_same (u := U) (H := U.heap) rfl rfl qZ⟩, fun U hU hW => ⟨rfl, hU, by rw [hU]; exact zz_to hZ hS (fun q h => hA q (Nat.le_trans hS.1 h)) hW⟩⟩ rfl rfl hl.1 rfl (lv_room (Nat.le_of_ble_eq_true rfl)) dX4_lot_11 ⟨(Nat.le_of_ble_eq_true rfl), (Nat.le_of_ble_eq_true rfl)⟩) hS (fun q h1 h2 => absurd h2 (Nat.not_le.mpr h1)) (fun q h => hA q (Nat.le_trans hS.1 h)) (fun q h1 h2 => absurd h2 (Nat.not_le.mpr h1)) (fun E ce q9 _ t H1 locs1 ht hvm hw hB hz1 hk1 hS hce hcv hcl => ?_) (fun _ t H1 locs1 ht hvm hw hB hz1 hk1 hS => ?_)
    · skip
      have c_4 : ¬ fX4_requireRange x2 0 7 = 0 := by rw [hw]; decide
      subst hB
      have hP := hP.kept (fun k q hq => hk1 q.1 (hP k q hq).lt (Nat.not_le.mpr (hP k q hq).lt))
      exact vy_out (vx_out (fun x hx => (hxt x hx).elim) hlocks hce hcv hcl (fun t ht ha => ⟨u, trivial, ⟨⟨2, (by unfold fX4_lot; rw [if_pos c_1, if_neg c_4]), rfl⟩, by rw [ht]; exact hP, hD⟩, hS.F ht⟩) hS.2.2 (Nat.le_of_ble_eq_true rfl) (Nat.le_of_ble_eq_true rfl))
    · skip
      have hH1 : H1 = _ := ht.symm.trans hB
      subst hH1
      have c_4 : fX4_requireRange x2 0 7 = 0 := hw
      have t_5 := rr_lo c_4
      have t_6 := rr_hi c_4
      refine lv_iload_n hx hb dX4_lot_14 rfl (lv_at hl 3 rfl) ?_
      refine lv_iconst (v := 0) hx hb dX4_lot_15 (by decide) ?_
      refine lv_ldc (v := 36524) hx hb hown (hts _ (List.mem_cons_of_mem _ wd_94)) dX4_lot_16 ?_
      refine vy_callv (vy_runS (As := [.int x3, .int 0, .int 36524]) (rest := []) ⟨hx, hb, hml, hown, hts⟩ (kX4_requireRange l hl9 dC dI _ x3 0 36524) (cwS 3 hts (gS wd_90 wd_91 wd_92 wcX4_requireRange) rfl rfl rfl (by decide +kernel) ⟨(Nat.le_of_ble_eq_true rfl), (Nat.le_of_ble_eq_true rfl)⟩) ⟨fun a U g mk q => by obtain ⟨q0, q1, qZ⟩ := q; exact ⟨q0, q1, zz_same (u := U) (H := U.heap) rfl rfl qZ⟩, fun U hU hW => ⟨rfl, hU, by rw [hU]; exact zz_to hZ hS (fun q h => hA q (Nat.le_trans hS.1 h)) hW⟩⟩ rfl rfl hl.1 rfl (lv_room (Nat.le_of_ble_eq_true rfl)) dX4_lot_18 ⟨(Nat.le_of_ble_eq_true rfl), (Nat.le_of_ble_eq_true rfl)⟩) hS (fun q h1 h2 => absurd h2 (Nat.not_le.mpr h1)) (fun q h => hA q (Nat.le_trans hS.1 h)) (fun q h1 h2 => absurd h2 (Nat.not_le.mpr h1)) (fun E ce q9 _ t H1 locs1 ht hvm hw hB hz1 hk1 hS hce hcv hcl => ?_) (fun _ t H1 locs1 ht hvm hw hB hz1 hk1 hS => ?_)
      · skip
        have c_7 : ¬ fX4_requireRange x3 0 36524 = 0 := by rw [hw]; decide
        subst hB
        have hP := hP.kept (fun k q hq => hk1 q.1 (hP k q hq).lt (Nat.not_le.mpr (hP k q hq).lt))
        exact vy_out (vx_out (fun x hx => (hxt x hx).elim) hlocks hce hcv hcl (fun t ht ha => ⟨u, trivial, ⟨⟨2, (by unfold fX4_lot; rw [if_pos c_1, if_pos c_4, if_neg c_7]), rfl⟩, by rw [ht]; exact hP, hD⟩, hS.F ht⟩) hS.2.2 (Nat.le_of_ble_eq_true rfl) (Nat.le_of_ble_eq_true rfl))
      · skip
        have hH1 : H1 = _ := ht.symm.trans hB
        subst hH1
        have c_7 : fX4_requireRange x3 0 36524 = 0 := hw
        have t_8 := rr_lo c_7
        have t_9 := rr_hi c_7
        refine lv_iload hx hb dX4_lot_21 (lv_at hl 4 rfl) ?_
        refine lv_iconst (v := 0) hx hb dX4_lot_23 (by decide) ?_
        refine lv_ldc (v := 36524) hx hb hown (hts _ (List.mem_cons_of_mem _ wd_94)) dX4_lot_24 ?_
        refine vy_callv (vy_runS (As := [.int x4, .int 0, .int 36524]) (rest := []) ⟨hx, hb, hml, hown, hts⟩ (kX4_requireRange l hl9 dC dI _ x4 0 36524) (cwS 3 hts (gS wd_90 wd_91 wd_92 wcX4_requireRange) rfl rfl rfl (by decide +kernel) ⟨(Nat.le_of_ble_eq_true rfl), (Nat.le_of_ble_eq_true rfl)⟩) ⟨fun a U g mk q => by obtain ⟨q0, q1, qZ⟩ := q; exact ⟨q0, q1, zz_same (u := U) (H := U.heap) rfl rfl qZ⟩, fun U hU hW => ⟨rfl, hU, by rw [hU]; exact zz_to hZ hS (fun q h => hA q (Nat.le_trans hS.1 h)) hW⟩⟩ rfl rfl hl.1 rfl (lv_room (Nat.le_of_ble_eq_true rfl)) dX4_lot_26 ⟨(Nat.le_of_ble_eq_true rfl), (Nat.le_of_ble_eq_true rfl)⟩) hS (fun q h1 h2 => absurd h2 (Nat.not_le.mpr h1)) (fun q h => hA q (Nat.le_trans hS.1 h)) (fun q h1 h2 => absurd h2 (Nat.not_le.mpr h1)) (fun E ce q9 _ t H1 locs1 ht hvm hw hB hz1 hk1 hS hce hcv hcl => ?_) (fun _ t H1 locs1 ht hvm hw hB hz1 hk1 hS => ?_)
        · skip
          have c_10 : ¬ fX4_requireRange x4 0 36524 = 0 := by rw [hw]; decide
          subst hB
          have hP := hP.kept (fun k q hq => hk1 q.1 (hP k q hq).lt (Nat.not_le.mpr (hP k q hq).lt))
          exact vy_out (vx_out (fun x hx => (hxt x hx).elim) hlocks hce hcv hcl (fun t ht ha => ⟨u, trivial, ⟨⟨2, (by unfold fX4_lot; rw [if_pos c_1, if_pos c_4, if_pos c_7, if_neg c_10]), rfl⟩, by rw [ht]; exact hP, hD⟩, hS.F ht⟩) hS.2.2 (Nat.le_of_ble_eq_true rfl) (Nat.le_of_ble_eq_true rfl))
        · skip
          have hH1 : H1 = _ := ht.symm.trans hB
          subst hH1
          have c_10 : fX4_requireRange x4 0 36524 = 0 := hw
          have t_11 := rr_lo c_10
          have t_12 := rr_hi c_10
          refine lv_iload_n hx hb dX4_lot_29 rfl (lv_at hl 3 rfl) ?_
          refine lv_iload hx hb dX4_lot_30 (lv_at hl 4 rfl) ?_
          refine lv_icmp_ge (tgt := 37) hx hb dX4_lot_32 (by decide) (fun c_13 => ?_) (fun c_13 => ?_)
          · skip
            have t_14 : x4.toInt ≤ x3.toInt := i_le c_13 rfl rfl
            refine lv_aload_n hx hb dX4_lot_37 rfl (lv_at hl 0 rfl) ?_
            refine va_get (D := (dC, dI)) (C := RX4) (T := TX4) (N := 9) (v := .ref (h 1)) hx hb hts (fi_X4 _) hown hK hP 0 (cw_at0 _ _ _) rfl 0 (by decide) (hts _ (List.mem_cons_of_mem _ wd_11)) (fun _ h9 => h9) rfl dX4_lot_38 ?_
            refine vp_callSi (W.runV (As := []) (rest := []) ⟨hx, hb, hml, hown, hts⟩ (kX1_haveRoom l dC dI g h u) (cwV 0 hts (gV wd_95 wd_96 wd_97 wd_28 wcX1_haveRoom) rfl rfl rfl (by decide +kernel) ⟨(Nat.le_of_ble_eq_true rfl), (Nat.le_of_ble_eq_true rfl)⟩) ⟨fun a U g mk q => by obtain ⟨q0, qP, qK⟩ := q; exact ⟨q0, qP, va_K.moved (u := U) (U := U.calling g mk a) (Vm.Alike.refl U.vm) qK⟩, va_recv hK hP (ci := 0) (q0 := 1) rfl (cw_at1 _ _ _), fun U hU hW => ⟨rfl, by rw [hU]; exact hP, va_K.moved hW.alike hK⟩⟩ rfl rfl hl.1 rfl (lv_room (Nat.le_of_ble_eq_true rfl)) dX4_lot_41 ⟨(Nat.le_of_ble_eq_true rfl), (Nat.le_of_ble_eq_true rfl)⟩) (fun r_15 hw => ?_)
            subst hw
            refine lv_if_eq (tgt := 62) hx hb dX4_lot_44 (by decide) (fun c_16 => ?_) (fun c_16 => ?_)
            · skip
              have t_17 : (fX1_haveRoom u).toInt = 0 := i_eq c_16 rfl (by decide)
              refine lv_iconst (v := 0) hx hb dX4_lot_62 (by decide) ?_
              refine vy_callv (vy_runS (As := [.int 0]) (rest := []) ⟨hx, hb, hml, hown, hts⟩ (kX4_requireRoom l hl9 dC dI _ 0) (cwS 1 hts (gS wd_99 wd_100 wd_92 wcX4_requireRoom) rfl rfl rfl (by decide +kernel) ⟨(Nat.le_of_ble_eq_true rfl), (Nat.le_of_ble_eq_true rfl)⟩) ⟨fun a U g mk q => by obtain ⟨q0, q1, qZ⟩ := q; exact ⟨q0, q1, zz_same (u := U) (H := U.heap) rfl rfl qZ⟩, fun U hU hW => ⟨rfl, hU, by rw [hU]; exact zz_to hZ hS (fun q h => hA q (Nat.le_trans hS.1 h)) hW⟩⟩ rfl rfl hl.1 rfl (lv_room (Nat.le_of_ble_eq_true rfl)) dX4_lot_63 ⟨(Nat.le_of_ble_eq_true rfl), (Nat.le_of_ble_eq_true rfl)⟩) hS (fun q h1 h2 => absurd h2 (Nat.not_le.mpr h1)) (fun q h => hA q (Nat.le_trans hS.1 h)) (fun q h1 h2 => absurd h2 (Nat.not_le.mpr h1)) (fun E ce q9 _ t H1 locs1 ht hvm hw hB hz1 hk1 hS hce hcv hcl => ?_) (fun _ t H1 locs1 ht hvm hw hB hz1 hk1 hS => ?_)
              · skip
                subst hB
                have hP := hP.kept (fun k q hq => hk1 q.1 (hP k q hq).lt (Nat.not_le.mpr (hP k q hq).lt))
                exact vy_out (vx_out (fun x hx => (hxt x hx).elim) hlocks hce hcv hcl (fun t ht ha => ⟨u, trivial, ⟨⟨4, (by unfold fX4_lot; rw [if_pos c_1, if_pos c_4, if_pos c_7, if_pos c_10, if_pos c_13, if_pos c_16]), rfl⟩, by rw [ht]; exact hP, hD⟩, hS.F ht⟩) hS.2.2 (Nat.le_of_ble_eq_true rfl) (Nat.le_of_ble_eq_true rfl))
              · skip
                exact absurd hw (by decide)
            · skip
              have t_19 : (fX1_haveRoom u).toInt ≠ 0 := i_ne c_16 rfl (by decide)
              have t_20 := hl_room c_16
              refine lv_aload_n hx hb dX4_lot_47 rfl (lv_at hl 0 rfl) ?_
              refine va_get (D := (dC, dI)) (C := RX4) (T := TX4) (N := 9) (v := .ref (h 3)) hx hb hts (fi_X4 _) hown hK hP 0 (cw_at0 _ _ _) rfl 2 (by decide) (hts _ (List.mem_cons_of_mem _ wd_87)) (fun _ h9 => h9) rfl dX4_lot_48 ?_
              refine lv_iconst (v := 1) hx hb dX4_lot_51 (by decide) ?_
              refine vp_callSi (W.runV (As := [.int 1]) (rest := []) ⟨hx, hb, hml, hown, hts⟩ (kX2_haveRoomFor l dC dI g h u 1) (cwV 1 hts (gV wd_102 wd_103 wd_104 wd_105 wcX2_haveRoomFor) rfl rfl rfl (by decide +kernel) ⟨(Nat.le_of_ble_eq_true rfl), (Nat.le_of_ble_eq_true rfl)⟩) ⟨fun a U g mk q => by obtain ⟨q0, qP, qK⟩ := q; exact ⟨q0, qP, va_K.moved (u := U) (U := U.calling g mk a) (Vm.Alike.refl U.vm) qK⟩, va_recv hK hP (ci := 1) (q0 := 3) rfl (cw_at3 _ _ _), fun U hU hW => ⟨rfl, by rw [hU]; exact hP, va_K.moved hW.alike hK⟩⟩ rfl rfl hl.1 rfl (lv_room (Nat.le_of_ble_eq_true rfl)) dX4_lot_52 ⟨(Nat.le_of_ble_eq_true rfl), (Nat.le_of_ble_eq_true rfl)⟩) (fun r_21 hw => ?_)
              subst hw
              refine lv_if_eq (tgt := 62) hx hb dX4_lot_55 (by decide) (fun c_22 => ?_) (fun c_22 => ?_)
              · skip
                have t_23 : (fX2_haveRoomFor u 1).toInt = 0 := i_eq c_22 rfl (by decide)
                refine lv_iconst (v := 0) hx hb dX4_lot_62 (by decide) ?_
                refine vy_callv (vy_runS (As := [.int 0]) (rest := []) ⟨hx, hb, hml, hown, hts⟩ (kX4_requireRoom l hl9 dC dI _ 0) (cwS 1 hts (gS wd_99 wd_100 wd_92 wcX4_requireRoom) rfl rfl rfl (by decide +kernel) ⟨(Nat.le_of_ble_eq_true rfl), (Nat.le_of_ble_eq_true rfl)⟩) ⟨fun a U g mk q => by obtain ⟨q0, q1, qZ⟩ := q; exact ⟨q0, q1, zz_same (u := U) (H := U.heap) rfl rfl qZ⟩, fun U hU hW => ⟨rfl, hU, by rw [hU]; exact zz_to hZ hS (fun q h => hA q (Nat.le_trans hS.1 h)) hW⟩⟩ rfl rfl hl.1 rfl (lv_room (Nat.le_of_ble_eq_true rfl)) dX4_lot_63 ⟨(Nat.le_of_ble_eq_true rfl), (Nat.le_of_ble_eq_true rfl)⟩) hS (fun q h1 h2 => absurd h2 (Nat.not_le.mpr h1)) (fun q h => hA q (Nat.le_trans hS.1 h)) (fun q h1 h2 => absurd h2 (Nat.not_le.mpr h1)) (fun E ce q9 _ t H1 locs1 ht hvm hw hB hz1 hk1 hS hce hcv hcl => ?_) (fun _ t H1 locs1 ht hvm hw hB hz1 hk1 hS => ?_)
                · skip
                  subst hB
                  have hP := hP.kept (fun k q hq => hk1 q.1 (hP k q hq).lt (Nat.not_le.mpr (hP k q hq).lt))
                  exact vy_out (vx_out (fun x hx => (hxt x hx).elim) hlocks hce hcv hcl (fun t ht ha => ⟨u, trivial, ⟨⟨4, (by unfold fX4_lot; rw [if_pos c_1, if_pos c_4, if_pos c_7, if_pos c_10, if_pos c_13, if_neg c_16, if_pos c_22]), rfl⟩, by rw [ht]; exact hP, hD⟩, hS.F ht⟩) hS.2.2 (Nat.le_of_ble_eq_true rfl) (Nat.le_of_ble_eq_true rfl))
                · skip
                  exact absurd hw (by decide)
              · skip
                have t_25 : (fX2_haveRoomFor u 1).toInt ≠ 0 := i_ne c_22 rfl (by decide)
                have t_26 := hr_room1 c_22 hI3
                refine lv_iconst (v := 1) hx hb dX4_lot_58 (by decide) ?_
                refine lv_goto (tgt := 63) hx hb dX4_lot_59 (by decide) ?_
                refine vy_callv (vy_runS (As := [.int 1]) (rest := []) ⟨hx, hb, hml, hown, hts⟩ (kX4_requireRoom l hl9 dC dI _ 1) (cwS 1 hts (gS wd_99 wd_100 wd_92 wcX4_requireRoom) rfl rfl rfl (by decide +kernel) ⟨(Nat.le_of_ble_eq_true rfl), (Nat.le_of_ble_eq_true rfl)⟩) ⟨fun a U g mk q => by obtain ⟨q0, q1, qZ⟩ := q; exact ⟨q0, q1, zz_same (u := U) (H := U.heap) rfl rfl qZ⟩, fun U hU hW => ⟨rfl, hU, by rw [hU]; exact zz_to hZ hS (fun q h => hA q (Nat.le_trans hS.1 h)) hW⟩⟩ rfl rfl hl.1 rfl (lv_room (Nat.le_of_ble_eq_true rfl)) dX4_lot_63 ⟨(Nat.le_of_ble_eq_true rfl), (Nat.le_of_ble_eq_true rfl)⟩) hS (fun q h1 h2 => absurd h2 (Nat.not_le.mpr h1)) (fun q h => hA q (Nat.le_trans hS.1 h)) (fun q h1 h2 => absurd h2 (Nat.not_le.mpr h1)) (fun E ce q9 _ t H1 locs1 ht hvm hw hB hz1 hk1 hS hce hcv hcl => ?_) (fun _ t H1 locs1 ht hvm hw hB hz1 hk1 hS => ?_)
                · skip
                  exact absurd hw (by decide)
                · skip
                  have hH1 : H1 = _ := ht.symm.trans hB
                  subst hH1
                  refine lv_aload_n hx hb dX4_lot_66 rfl (lv_at hl 0 rfl) ?_
                  refine va_get (D := (dC, dI)) (C := RX4) (T := TX4) (N := 9) (v := .ref (h 1)) hx hb hts (fi_X4 _) hown hK hP 0 (cw_at0 _ _ _) rfl 0 (by decide) (hts _ (List.mem_cons_of_mem _ wd_11)) (fun _ h9 => h9) rfl dX4_lot_67 ?_
                  refine lv_iload_n hx hb dX4_lot_70 rfl (lv_at hl 1 rfl) ?_
                  refine lv_iload_n hx hb dX4_lot_71 rfl (lv_at hl 2 rfl) ?_
                  refine lv_iload_n hx hb dX4_lot_72 rfl (lv_at hl 3 rfl) ?_
                  refine lv_iload hx hb dX4_lot_73 (lv_at hl 4 rfl) ?_
                  have hFc := va_free (wc := cw g h u) hD hS hA [0, 1, 2, 3, 4, 5, 6, 7, 8, 9, 10, 11, 12, 13, 14, 15, 16, 17, 18, 19, 20, 21, 22, 23] rfl
                  refine va_calli (va_runV (As := [.int x1, .int x2, .int x3, .int x4]) (rest := []) ⟨hx, hb, hml, hown, hts⟩ (kX1_add l dC dI g h u _ x1 x2 x3 x4 (by omega)) (cwV 4 hts (gV wd_107 wd_67 wd_68 wd_28 wcX1_add) rfl rfl rfl (by decide +kernel) ⟨(Nat.le_of_ble_eq_true rfl), (Nat.le_of_ble_eq_true rfl)⟩) ⟨fun a U g mk q => by obtain ⟨q0, q1, qP, qK, qD⟩ := q; exact ⟨q0, q1, qP, va_K.moved (u := U) (U := U.calling g mk a) (Vm.Alike.refl U.vm) qK, qD⟩, va_recv hK hP (ci := 0) (q0 := 1) rfl (cw_at1 _ _ _), fun U hU hW => ⟨rfl, by rw [hU], by rw [hU]; exact hP, va_K.moved hW.alike hK, hD.weaken (fun _ _ _ _ => trivial)⟩⟩ rfl rfl hl.1 rfl (lv_room (Nat.le_of_ble_eq_true rfl)) dX4_lot_75 ⟨(Nat.le_of_ble_eq_true rfl), (Nat.le_of_ble_eq_true rfl)⟩) hS (fun q _ h => hFc q h) hFc (fun r_29 u_28 t H locs ht hvm hw hB hz1 hk1 hS => ?_)
                  obtain ⟨hP, hD⟩ := hB
                  rw [ht] at hP
                  have hD := hD.weaken (fun _ _ _ h => hFc _ h)
                  have e_30 : r_29 = (fX1_add u x1 x2 x3 x4).1 := congrArg Prod.fst hw
                  have e_31 : u_28 = (fX1_add u x1 x2 x3 x4).2 := congrArg Prod.snd hw
                  clear hw
                  refine lv_istore (lv' := [(5, .int r_29), (0, .ref (h 0)), (1, .int x1), (2, .int x2), (3, .int x3), (4, .int x4)]) hx hb dX4_lot_78 hl (by decide) rfl (fun ls hl => ?_)
                  refine lv_aload_n hx hb dX4_lot_80 rfl (lv_at hl 1 rfl) ?_
                  refine va_get (D := (dC, dI)) (C := RX4) (T := TX4) (N := 9) (v := .ref (h 3)) hx hb hts (fi_X4 _) hown hK hP 0 (cw_at0 _ _ _) rfl 2 (by decide) (hts _ (List.mem_cons_of_mem _ wd_87)) (fun _ h9 => h9) rfl dX4_lot_81 ?_
                  refine lv_iload hx hb dX4_lot_84 (lv_at hl 0 rfl) ?_
                  refine lv_iconst (v := 1) hx hb dX4_lot_86 (by decide) ?_
                  refine lv_iconst (v := 0) hx hb dX4_lot_87 (by decide) ?_
                  have hFc := va_free (wc := cw g h u_28) hD hS hA [0, 1, 2, 3, 4, 5, 6, 7, 8, 9, 10, 11, 12, 13, 14, 15, 16, 17, 18, 19, 20, 21, 22, 23] rfl
                  refine va_callv (va_runV (As := [.int r_29, .int 1, .int 0]) (rest := []) ⟨hx, hb, hml, hown, hts⟩ (kX2_write l dC dI g h u_28 _ r_29 1 0 (by subst e_31; subst e_30; show 0 ≤ (k_rwrit u).toInt ∧ (k_rwrit u).toInt < 400; omega)) (cwV 3 hts (gV wd_108 wd_109 wd_110 wd_105 wcX2_write) rfl rfl rfl (by decide +kernel) ⟨(Nat.le_of_ble_eq_true rfl), (Nat.le_of_ble_eq_true rfl)⟩) ⟨fun a U g mk q => by obtain ⟨q0, q1, qP, qK, qD⟩ := q; exact ⟨q0, q1, qP, va_K.moved (u := U) (U := U.calling g mk a) (Vm.Alike.refl U.vm) qK, qD⟩, va_recv hK hP (ci := 1) (q0 := 3) rfl (cw_at3 _ _ _), fun U hU hW => ⟨rfl, by rw [hU], by rw [hU]; exact hP, va_K.moved hW.alike hK, hD.weaken (fun _ _ _ _ => trivial)⟩⟩ rfl rfl hl.1 rfl (lv_room (Nat.le_of_ble_eq_true rfl)) dX4_lot_88 ⟨(Nat.le_of_ble_eq_true rfl), (Nat.le_of_ble_eq_true rfl)⟩) hS (fun q _ h => hFc q h) hFc (fun u_32 t H locs ht hvm hw hB hz1 hk1 hS => ?_)
                  obtain ⟨hP, hD⟩ := hB
                  rw [ht] at hP
                  have hD := hD.weaken (fun _ _ _ h => hFc _ h)
                  have e_34 : u_32 = fX2_write u_28 r_29 1 0 := hw
                  clear hw
                  refine lv_iload hx hb dX4_lot_91 (lv_at hl 0 rfl) ?_
                  exact vy_ret (W.iret (v := r_29) hx hb hr (fun t ht hW => ⟨⟨r_29, u_32, rfl, (by subst e_34; subst e_31; subst e_30; unfold fX4_lot; rw [if_pos c_1, if_pos c_4, if_pos c_7, if_pos c_10, if_pos c_13, if_neg c_16, if_neg c_22]), by rw [ht]; exact hP, hD⟩, hS.F ht⟩) hS.2.2 dX4_lot_93)
          · skip
            have t_35 : x3.toInt < x4.toInt := i_nle c_13 rfl rfl
            refine lv_iconst (v := 0) hx hb dX4_lot_35 (by decide) ?_
            exact vy_ret (W.iret (v := 0) hx hb hr (fun t ht hW => ⟨⟨0, u, rfl, (by unfold fX4_lot; rw [if_pos c_1, if_pos c_4, if_pos c_7, if_pos c_10, if_neg c_13]), by rw [ht]; exact hP, hD⟩, hS.F ht⟩) hS.2.2 dX4_lot_36)
set_option maxHeartbeats 4000000 in
set_option maxRecDepth 100000 in
theorem kX4_rule (l : Launch) (hl9 : l.stackTraces = false) (dC : Nat → ClassId) (dI : Nat → Nat → Nat) (g : cG) (h : Nat → Nat) (u : cS) (sz : Nat) (x1 : Int32) (x2 : Int32) (x3 : Int32) (hI : cInv u) : vy_Met l yX4_rule wsX4_rule ({ frames := 7, cells := 8, slots := 48, locals := 104 }) (va_Pc [.ref (h 0), .int x1, .int x2, .int x3] (fun U => U.heap.size = sz ∧ va_P (dC, dI) vwCl (cw g h u) U.heap ∧ va_K (dC, dI) vwCl (cTys g) U ∧ va_D (fun _ => True) (cw g h u) ∧ zz (va_A (cw g h u) sz) U U.heap)) (va_Qv (fun u2 => fX4_rule u x1 x2 x3 = (0, 0, u2)) (fun (u2 : cS) (t : State) => va_P (dC, dI) vwCl (cw g h u2) t.heap ∧ va_D (va_A (cw g h u) sz) (cw g h u2)) (va_A (cw g h u) sz)) (vx_X (fun _ => True) (fun E (u2 : cS) t => (∃ k : Nat, fX4_rule u x1 x2 x3 = (k, 0, u2) ∧ ex_is k E) ∧ va_P (dC, dI) vwCl (cw g h u2) t.heap ∧ va_D (va_A (cw g h u) sz) (cw g h u2)) (va_A (cw g h u) sz)) 0 0 8 48 (va_A (cw g h u) sz) := by
  refine vy_ofW (cc := cX4_rule) (maxL := 4) (ret := none) (by decide) rfl ?_
  intro p e s m args below meth c s₁ B hml hxt hv
  obtain ⟨rfl, hsz, hP, hK, hD0, hZ⟩ := hv
  have hx := B.exec
  have hb := B.bytes
  have hr := B.returns
  have hts := atoms_spec (ws := wsX4_rule) B.pre
  have hown : s.vm.findClass RX4 = some m.cls := findClass_of_methodNamed B.named
  have hlocks := B.notSynchronized
  subst hsz
  have hD := hD0.self (sz := s.heap.size)
  generalize hAe : va_A (cw g h u) s.heap.size = A at hD hZ ⊢
  have hA : ∀ q : Nat, s.heap.size ≤ q → A q := fun q h => by rw [← hAe]; exact Or.inr h
  have hS : va_S A s.heap s.heap [] := va_S.rf
  have hl := lv_entry ([.ref (h 0), .int x1, .int x2, .int x3]) (n := 4) (Nat.le_of_ble_eq_true rfl)
  rw [lg_entry_eq]
  generalize (lg_sl ([.ref (h 0), .int x1, .int x2, .int x3]) ++ List.replicate (4 - (lg_sl ([.ref (h 0), .int x1, .int x2, .int x3])).length) Slot.unset).toArray = ls at hl ⊢
  have hl : lv_has ls 4 [(0, .ref (h 0)), (1, .int x1), (2, .int x2), (3, .int x3)] := hl
  obtain ⟨hI1, hI2, hI3, hI4, hI5, hI6⟩ := id hI
  have z_0 : (0 : Int32).toInt = 0 := by decide
  have z_1 : (7 : Int32).toInt = 7 := by decide
  have z_2 : (1 : Int32).toInt = 1 := by decide
  have z_3 : (1000 : Int32).toInt = 1000 := by decide
  have z_4 : (2 : Int32).toInt = 2 := by decide
  refine lv_iload_n hx hb dX4_rule_0 rfl (lv_at hl 1 rfl) ?_
  refine lv_iconst (v := 0) hx hb dX4_rule_1 (by decide) ?_
  refine lv_bipush (v := 7) hx hb dX4_rule_2 (by decide) ?_
  refine vy_callv (vy_runS (As := [.int x1, .int 0, .int 7]) (rest := []) ⟨hx, hb, hml, hown, hts⟩ (kX4_requireRange l hl9 dC dI _ x1 0 7) (cwS 3 hts (gS wd_90 wd_91 wd_92 wcX4_requireRange) rfl rfl rfl (by decide +kernel) ⟨(Nat.le_of_ble_eq_true rfl), (Nat.le_of_ble_eq_true rfl)⟩) ⟨fun a U g mk q => by obtain ⟨q0, q1, qZ⟩ := q; exact ⟨q0, q1, zz_same (u := U) (H := U.heap) rfl rfl qZ⟩, fun U hU hW => ⟨rfl, hU, by rw [hU]; exact zz_to hZ hS (fun q h => hA q (Nat.le_trans hS.1 h)) hW⟩⟩ rfl rfl hl.1 rfl (lv_room (Nat.le_of_ble_eq_true rfl)) dX4_rule_4 ⟨(Nat.le_of_ble_eq_true rfl), (Nat.le_of_ble_eq_true rfl)⟩) hS (fun q h1 h2 => absurd h2 (Nat.not_le.mpr h1)) (fun q h => hA q (Nat.le_trans hS.1 h)) (fun q h1 h2 => absurd h2 (Nat.not_le.mpr h1)) (fun E ce q9 _ t H1 locs1 ht hvm hw hB hz1 hk1 hS hce hcv hcl => ?_) (fun _ t H1 locs1 ht hvm hw hB hz1 hk1 hS => ?_)
  · skip
    have c_1 : ¬ fX4_requireRange x1 0 7 = 0 := by rw [hw]; decide
    subst hB
    have hP := hP.kept (fun k q hq => hk1 q.1 (hP k q hq).lt (Nat.not_le.mpr (hP k q hq).lt))
    exact vy_out (vx_out (fun x hx => (hxt x hx).elim) hlocks hce hcv hcl (fun t ht ha => ⟨u, trivial, ⟨⟨2, (by unfold fX4_rule; rw [if_neg c_1]), rfl⟩, by rw [ht]; exact hP, hD⟩, hS.F ht⟩) hS.2.2 (Nat.le_of_ble_eq_true rfl) (Nat.le_of_ble_eq_true rfl))
  · skip
    have hH1 : H1 = _ := ht.symm.trans hB
    subst hH1
    have c_1 : fX4_requireRange x1 0 7 = 0 := hw
    have t_2 := rr_lo c_1
    have t_3 := rr_hi c_1
    refine lv_iload_n hx hb dX4_rule_7 rfl (lv_at hl 2 rfl) ?_
    refine lv_iconst (v := 0) hx hb dX4_rule_8 (by decide) ?_
    refine lv_iconst (v := 1) hx hb dX4_rule_9 (by decide) ?_
    refine vy_callv (vy_runS (As := [.int x2, .int 0, .int 1]) (rest := []) ⟨hx, hb, hml, hown, hts⟩ (kX4_requireRange l hl9 dC dI _ x2 0 1) (cwS 3 hts (gS wd_90 wd_91 wd_92 wcX4_requireRange) rfl rfl rfl (by decide +kernel) ⟨(Nat.le_of_ble_eq_true rfl), (Nat.le_of_ble_eq_true rfl)⟩) ⟨fun a U g mk q => by obtain ⟨q0, q1, qZ⟩ := q; exact ⟨q0, q1, zz_same (u := U) (H := U.heap) rfl rfl qZ⟩, fun U hU hW => ⟨rfl, hU, by rw [hU]; exact zz_to hZ hS (fun q h => hA q (Nat.le_trans hS.1 h)) hW⟩⟩ rfl rfl hl.1 rfl (lv_room (Nat.le_of_ble_eq_true rfl)) dX4_rule_10 ⟨(Nat.le_of_ble_eq_true rfl), (Nat.le_of_ble_eq_true rfl)⟩) hS (fun q h1 h2 => absurd h2 (Nat.not_le.mpr h1)) (fun q h => hA q (Nat.le_trans hS.1 h)) (fun q h1 h2 => absurd h2 (Nat.not_le.mpr h1)) (fun E ce q9 _ t H1 locs1 ht hvm hw hB hz1 hk1 hS hce hcv hcl => ?_) (fun _ t H1 locs1 ht hvm hw hB hz1 hk1 hS => ?_)
    · skip
      have c_4 : ¬ fX4_requireRange x2 0 1 = 0 := by rw [hw]; decide
      subst hB
      have hP := hP.kept (fun k q hq => hk1 q.1 (hP k q hq).lt (Nat.not_le.mpr (hP k q hq).lt))
      exact vy_out (vx_out (fun x hx => (hxt x hx).elim) hlocks hce hcv hcl (fun t ht ha => ⟨u, trivial, ⟨⟨2, (by unfold fX4_rule; rw [if_pos c_1, if_neg c_4]), rfl⟩, by rw [ht]; exact hP, hD⟩, hS.F ht⟩) hS.2.2 (Nat.le_of_ble_eq_true rfl) (Nat.le_of_ble_eq_true rfl))
    · skip
      have hH1 : H1 = _ := ht.symm.trans hB
      subst hH1
      have c_4 : fX4_requireRange x2 0 1 = 0 := hw
      have t_5 := rr_lo c_4
      have t_6 := rr_hi c_4
      refine lv_iload_n hx hb dX4_rule_13 rfl (lv_at hl 2 rfl) ?_
      refine lv_if_ne (tgt := 33) hx hb dX4_rule_14 (by decide) (fun c_7 => ?_) (fun c_7 => ?_)
      · skip
        have t_8 : x2.toInt ≠ 0 := i_ne c_7 rfl (by decide)
        refine lv_iload_n hx hb dX4_rule_33 rfl (lv_at hl 3 rfl) ?_
        refine lv_iconst (v := 0) hx hb dX4_rule_34 (by decide) ?_
        refine lv_sipush (v := 1000) hx hb dX4_rule_35 (by decide) ?_
        refine vy_callv (vy_runS (As := [.int x3, .int 0, .int 1000]) (rest := []) ⟨hx, hb, hml, hown, hts⟩ (kX4_requireRange l hl9 dC dI _ x3 0 1000) (cwS 3 hts (gS wd_90 wd_91 wd_92 wcX4_requireRange) rfl rfl rfl (by decide +kernel) ⟨(Nat.le_of_ble_eq_true rfl), (Nat.le_of_ble_eq_true rfl)⟩) ⟨fun a U g mk q => by obtain ⟨q0, q1, qZ⟩ := q; exact ⟨q0, q1, zz_same (u := U) (H := U.heap) rfl rfl qZ⟩, fun U hU hW => ⟨rfl, hU, by rw [hU]; exact zz_to hZ hS (fun q h => hA q (Nat.le_trans hS.1 h)) hW⟩⟩ rfl rfl hl.1 rfl (lv_room (Nat.le_of_ble_eq_true rfl)) dX4_rule_38 ⟨(Nat.le_of_ble_eq_true rfl), (Nat.le_of_ble_eq_true rfl)⟩) hS (fun q h1 h2 => absurd h2 (Nat.not_le.mpr h1)) (fun q h => hA q (Nat.le_trans hS.1 h)) (fun q h1 h2 => absurd h2 (Nat.not_le.mpr h1)) (fun E ce q9 _ t H1 locs1 ht hvm hw hB hz1 hk1 hS hce hcv hcl => ?_) (fun _ t H1 locs1 ht hvm hw hB hz1 hk1 hS => ?_)
        · skip
          have c_9 : ¬ fX4_requireRange x3 0 1000 = 0 := by rw [hw]; decide
          subst hB
          have hP := hP.kept (fun k q hq => hk1 q.1 (hP k q hq).lt (Nat.not_le.mpr (hP k q hq).lt))
          exact vy_out (vx_out (fun x hx => (hxt x hx).elim) hlocks hce hcv hcl (fun t ht ha => ⟨u, trivial, ⟨⟨2, (by unfold fX4_rule; rw [if_pos c_1, if_pos c_4, if_neg c_7, if_neg c_9]), rfl⟩, by rw [ht]; exact hP, hD⟩, hS.F ht⟩) hS.2.2 (Nat.le_of_ble_eq_true rfl) (Nat.le_of_ble_eq_true rfl))
        · skip
          have hH1 : H1 = _ := ht.symm.trans hB
          subst hH1
          have c_9 : fX4_requireRange x3 0 1000 = 0 := hw
          have t_10 := rr_lo c_9
          have t_11 := rr_hi c_9
          refine lv_aload_n hx hb dX4_rule_41 rfl (lv_at hl 0 rfl) ?_
          refine va_get (D := (dC, dI)) (C := RX4) (T := TX4) (N := 9) (v := .ref (h 5)) hx hb hts (fi_X4 _) hown hK hP 0 (cw_at0 _ _ _) rfl 4 (by decide) (hts _ (List.mem_cons_of_mem _ wd_80)) (fun _ h9 => h9) rfl dX4_rule_42 ?_
          refine lv_iload_n hx hb dX4_rule_45 rfl (lv_at hl 1 rfl) ?_
          refine lv_iload_n hx hb dX4_rule_46 rfl (lv_at hl 3 rfl) ?_
          refine va_iast (f := k_mix u) hx hb hK hP hD hS 5 0 (cw_at5 _ _ _) rfl (vp_in_iff.mpr (by omega)) dX4_rule_47 (fun H locs hP hD hS => ?_)
          have hP : va_P (dC, dI) vwCl (cw g h (s_mix u (upd (k_mix u) x1.toNatClampNeg x3))) H := hP
          have hD : va_D A (cw g h (s_mix u (upd (k_mix u) x1.toNatClampNeg x3))) := hD
          exact vy_ret (W.vret hx hb hr (fun t ht hW => ⟨⟨(s_mix u (upd (k_mix u) x1.toNatClampNeg x3)), rfl, (by unfold fX4_rule; rw [if_pos c_1, if_pos c_4, if_neg c_7, if_pos c_9]), by rw [ht]; exact hP, hD⟩, hS.F ht⟩) hS.2.2 dX4_rule_48)
      · skip
        have t_12 : x2.toInt = 0 := i_eq c_7 rfl (by decide)
        refine lv_iload_n hx hb dX4_rule_17 rfl (lv_at hl 3 rfl) ?_
        refine lv_iconst (v := 0) hx hb dX4_rule_18 (by decide) ?_
        refine lv_iconst (v := 2) hx hb dX4_rule_19 (by decide) ?_
        refine vy_callv (vy_runS (As := [.int x3, .int 0, .int 2]) (rest := []) ⟨hx, hb, hml, hown, hts⟩ (kX4_requireRange l hl9 dC dI _ x3 0 2) (cwS 3 hts (gS wd_90 wd_91 wd_92 wcX4_requireRange) rfl rfl rfl (by decide +kernel) ⟨(Nat.le_of_ble_eq_true rfl), (Nat.le_of_ble_eq_true rfl)⟩) ⟨fun a U g mk q => by obtain ⟨q0, q1, qZ⟩ := q; exact ⟨q0, q1, zz_same (u := U) (H := U.heap) rfl rfl qZ⟩, fun U hU hW => ⟨rfl, hU, by rw [hU]; exact zz_to hZ hS (fun q h => hA q (Nat.le_trans hS.1 h)) hW⟩⟩ rfl rfl hl.1 rfl (lv_room (Nat.le_of_ble_eq_true rfl)) dX4_rule_20 ⟨(Nat.le_of_ble_eq_true rfl), (Nat.le_of_ble_eq_true rfl)⟩) hS (fun q h1 h2 => absurd h2 (Nat.not_le.mpr h1)) (fun q h => hA q (Nat.le_trans hS.1 h)) (fun q h1 h2 => absurd h2 (Nat.not_le.mpr h1)) (fun E ce q9 _ t H1 locs1 ht hvm hw hB hz1 hk1 hS hce hcv hcl => ?_) (fun _ t H1 locs1 ht hvm hw hB hz1 hk1 hS => ?_)
        · skip
          have c_13 : ¬ fX4_requireRange x3 0 2 = 0 := by rw [hw]; decide
          subst hB
          have hP := hP.kept (fun k q hq => hk1 q.1 (hP k q hq).lt (Nat.not_le.mpr (hP k q hq).lt))
          exact vy_out (vx_out (fun x hx => (hxt x hx).elim) hlocks hce hcv hcl (fun t ht ha => ⟨u, trivial, ⟨⟨2, (by unfold fX4_rule; rw [if_pos c_1, if_pos c_4, if_pos c_7, if_neg c_13]), rfl⟩, by rw [ht]; exact hP, hD⟩, hS.F ht⟩) hS.2.2 (Nat.le_of_ble_eq_true rfl) (Nat.le_of_ble_eq_true rfl))
        · skip
          have hH1 : H1 = _ := ht.symm.trans hB
          subst hH1
          have c_13 : fX4_requireRange x3 0 2 = 0 := hw
          have t_14 := rr_lo c_13
          have t_15 := rr_hi c_13
          refine lv_aload_n hx hb dX4_rule_23 rfl (lv_at hl 0 rfl) ?_
          refine va_get (D := (dC, dI)) (C := RX4) (T := TX4) (N := 9) (v := .ref (h 4)) hx hb hts (fi_X4 _) hown hK hP 0 (cw_at0 _ _ _) rfl 3 (by decide) (hts _ (List.mem_cons_of_mem _ wd_112)) (fun _ h9 => h9) rfl dX4_rule_24 ?_
          refine lv_iload_n hx hb dX4_rule_27 rfl (lv_at hl 1 rfl) ?_
          refine lv_iload_n hx hb dX4_rule_28 rfl (lv_at hl 3 rfl) ?_
          refine va_iast (f := k_rot u) hx hb hK hP hD hS 4 0 (cw_at4 _ _ _) rfl (vp_in_iff.mpr (by omega)) dX4_rule_29 (fun H locs hP hD hS => ?_)
          have hP : va_P (dC, dI) vwCl (cw g h (s_rot u (upd (k_rot u) x1.toNatClampNeg x3))) H := hP
          have hD : va_D A (cw g h (s_rot u (upd (k_rot u) x1.toNatClampNeg x3))) := hD
          refine lv_goto (tgt := 48) hx hb dX4_rule_30 (by decide) ?_
          exact vy_ret (W.vret hx hb hr (fun t ht hW => ⟨⟨(s_rot u (upd (k_rot u) x1.toNatClampNeg x3)), rfl, (by unfold fX4_rule; rw [if_pos c_1, if_pos c_4, if_pos c_7, if_pos c_13]), by rw [ht]; exact hP, hD⟩, hS.F ht⟩) hS.2.2 dX4_rule_48)
set_option maxHeartbeats 4000000 in
set_option maxRecDepth 100000 in
theorem kX4_wants (l : Launch) (hl9 : l.stackTraces = false) (dC : Nat → ClassId) (dI : Nat → Nat → Nat) (g : cG) (h : Nat → Nat) (u : cS) (sz : Nat) (x1 : Int32) (x2 : Int32) (hI : cInv u) : vy_Met l yX4_wants wsX4_wants ({ frames := 7, cells := 8, slots := 48, locals := 104 }) (va_Pc [.ref (h 0), .int x1, .int x2] (fun U => U.heap.size = sz ∧ va_P (dC, dI) vwCl (cw g h u) U.heap ∧ va_K (dC, dI) vwCl (cTys g) U ∧ va_D (fun _ => True) (cw g h u) ∧ zz (va_A (cw g h u) sz) U U.heap)) (va_Qv (fun u2 => fX4_wants u x1 x2 = (0, 0, u2)) (fun (u2 : cS) (t : State) => va_P (dC, dI) vwCl (cw g h u2) t.heap ∧ va_D (va_A (cw g h u) sz) (cw g h u2)) (va_A (cw g h u) sz)) (vx_X (fun _ => True) (fun E (u2 : cS) t => (∃ k : Nat, fX4_wants u x1 x2 = (k, 0, u2) ∧ ex_is k E) ∧ va_P (dC, dI) vwCl (cw g h u2) t.heap ∧ va_D (va_A (cw g h u) sz) (cw g h u2)) (va_A (cw g h u) sz)) 0 0 8 48 (va_A (cw g h u) sz) := by
  refine vy_ofW (cc := cX4_wants) (maxL := 3) (ret := none) (by decide) rfl ?_
  intro p e s m args below meth c s₁ B hml hxt hv
  obtain ⟨rfl, hsz, hP, hK, hD0, hZ⟩ := hv
  have hx := B.exec
  have hb := B.bytes
  have hr := B.returns
  have hts := atoms_spec (ws := wsX4_wants) B.pre
  have hown : s.vm.findClass RX4 = some m.cls := findClass_of_methodNamed B.named
  have hlocks := B.notSynchronized
  subst hsz
  have hD := hD0.self (sz := s.heap.size)
  generalize hAe : va_A (cw g h u) s.heap.size = A at hD hZ ⊢
  have hA : ∀ q : Nat, s.heap.size ≤ q → A q := fun q h => by rw [← hAe]; exact Or.inr h
  have hS : va_S A s.heap s.heap [] := va_S.rf
  have hl := lv_entry ([.ref (h 0), .int x1, .int x2]) (n := 3) (Nat.le_of_ble_eq_true rfl)
  rw [lg_entry_eq]
  generalize (lg_sl ([.ref (h 0), .int x1, .int x2]) ++ List.replicate (3 - (lg_sl ([.ref (h 0), .int x1, .int x2])).length) Slot.unset).toArray = ls at hl ⊢
  have hl : lv_has ls 3 [(0, .ref (h 0)), (1, .int x1), (2, .int x2)] := hl
  obtain ⟨hI1, hI2, hI3, hI4, hI5, hI6⟩ := id hI
  have z_0 : (0 : Int32).toInt = 0 := by decide
  have z_1 : (7 : Int32).toInt = 7 := by decide
  have z_2 : (1 : Int32).toInt = 1 := by decide
  have z_3 : (1000 : Int32).toInt = 1000 := by decide
  refine lv_iload_n hx hb dX4_wants_0 rfl (lv_at hl 1 rfl) ?_
  refine lv_iconst (v := 0) hx hb dX4_wants_1 (by decide) ?_
  refine lv_bipush (v := 7) hx hb dX4_wants_2 (by decide) ?_
  refine vy_callv (vy_runS (As := [.int x1, .int 0, .int 7]) (rest := []) ⟨hx, hb, hml, hown, hts⟩ (kX4_requireRange l hl9 dC dI _ x1 0 7) (cwS 3 hts (gS wd_90 wd_91 wd_92 wcX4_requireRange) rfl rfl rfl (by decide +kernel) ⟨(Nat.le_of_ble_eq_true rfl), (Nat.le_of_ble_eq_true rfl)⟩) ⟨fun a U g mk q => by obtain ⟨q0, q1, qZ⟩ := q; exact ⟨q0, q1, zz_same (u := U) (H := U.heap) rfl rfl qZ⟩, fun U hU hW => ⟨rfl, hU, by rw [hU]; exact zz_to hZ hS (fun q h => hA q (Nat.le_trans hS.1 h)) hW⟩⟩ rfl rfl hl.1 rfl (lv_room (Nat.le_of_ble_eq_true rfl)) dX4_wants_4 ⟨(Nat.le_of_ble_eq_true rfl), (Nat.le_of_ble_eq_true rfl)⟩) hS (fun q h1 h2 => absurd h2 (Nat.not_le.mpr h1)) (fun q h => hA q (Nat.le_trans hS.1 h)) (fun q h1 h2 => absurd h2 (Nat.not_le.mpr h1)) (fun E ce q9 _ t H1 locs1 ht hvm hw hB hz1 hk1 hS hce hcv hcl => ?_) (fun _ t H1 locs1 ht hvm hw hB hz1 hk1 hS => ?_)
  · skip
    have c_1 : ¬ fX4_requireRange x1 0 7 = 0 := by rw [hw]; decide
    subst hB
    have hP := hP.kept (fun k q hq => hk1 q.1 (hP k q hq).lt (Nat.not_le.mpr (hP k q hq).lt))
    exact vy_out (vx_out (fun x hx => (hxt x hx).elim) hlocks hce hcv hcl (fun t ht ha => ⟨u, trivial, ⟨⟨2, (by unfold fX4_wants; rw [if_neg c_1]), rfl⟩, by rw [ht]; exact hP, hD⟩, hS.F ht⟩) hS.2.2 (Nat.le_of_ble_eq_true rfl) (Nat.le_of_ble_eq_true rfl))
  · skip
    have hH1 : H1 = _ := ht.symm.trans hB
    subst hH1
    have c_1 : fX4_requireRange x1 0 7 = 0 := hw
    have t_2 := rr_lo c_1
    have t_3 := rr_hi c_1
    refine lv_iload_n hx hb dX4_wants_7 rfl (lv_at hl 2 rfl) ?_
    refine lv_iconst (v := 1) hx hb dX4_wants_8 (by decide) ?_
    refine lv_sipush (v := 1000) hx hb dX4_wants_9 (by decide) ?_
    refine vy_callv (vy_runS (As := [.int x2, .int 1, .int 1000]) (rest := []) ⟨hx, hb, hml, hown, hts⟩ (kX4_requireRange l hl9 dC dI _ x2 1 1000) (cwS 3 hts (gS wd_90 wd_91 wd_92 wcX4_requireRange) rfl rfl rfl (by decide +kernel) ⟨(Nat.le_of_ble_eq_true rfl), (Nat.le_of_ble_eq_true rfl)⟩) ⟨fun a U g mk q => by obtain ⟨q0, q1, qZ⟩ := q; exact ⟨q0, q1, zz_same (u := U) (H := U.heap) rfl rfl qZ⟩, fun U hU hW => ⟨rfl, hU, by rw [hU]; exact zz_to hZ hS (fun q h => hA q (Nat.le_trans hS.1 h)) hW⟩⟩ rfl rfl hl.1 rfl (lv_room (Nat.le_of_ble_eq_true rfl)) dX4_wants_12 ⟨(Nat.le_of_ble_eq_true rfl), (Nat.le_of_ble_eq_true rfl)⟩) hS (fun q h1 h2 => absurd h2 (Nat.not_le.mpr h1)) (fun q h => hA q (Nat.le_trans hS.1 h)) (fun q h1 h2 => absurd h2 (Nat.not_le.mpr h1)) (fun E ce q9 _ t H1 locs1 ht hvm hw hB hz1 hk1 hS hce hcv hcl => ?_) (fun _ t H1 locs1 ht hvm hw hB hz1 hk1 hS => ?_)
    · skip
      have c_4 : ¬ fX4_requireRange x2 1 1000 = 0 := by rw [hw]; decide
      subst hB
      have hP := hP.kept (fun k q hq => hk1 q.1 (hP k q hq).lt (Nat.not_le.mpr (hP k q hq).lt))
      exact vy_out (vx_out (fun x hx => (hxt x hx).elim) hlocks hce hcv hcl (fun t ht ha => ⟨u, trivial, ⟨⟨2, (by unfold fX4_wants; rw [if_pos c_1, if_neg c_4]), rfl⟩, by rw [ht]; exact hP, hD⟩, hS.F ht⟩) hS.2.2 (Nat.le_of_ble_eq_true rfl) (Nat.le_of_ble_eq_true rfl))
    · skip
      have hH1 : H1 = _ := ht.symm.trans hB
      subst hH1
      have c_4 : fX4_requireRange x2 1 1000 = 0 := hw
      have t_5 := rr_lo c_4
      have t_6 := rr_hi c_4
      refine lv_aload_n hx hb dX4_wants_15 rfl (lv_at hl 0 rfl) ?_
      refine va_get (D := (dC, dI)) (C := RX4) (T := TX4) (N := 9) (v := .ref (h 6)) hx hb hts (fi_X4 _) hown hK hP 0 (cw_at0 _ _ _) rfl 5 (by decide) (hts _ (List.mem_cons_of_mem _ wd_78)) (fun _ h9 => h9) rfl dX4_wants_16 ?_
      refine lv_iload_n hx hb dX4_wants_19 rfl (lv_at hl 1 rfl) ?_
      refine lv_iload_n hx hb dX4_wants_20 rfl (lv_at hl 2 rfl) ?_
      refine va_iast (f := k_want u) hx hb hK hP hD hS 6 0 (cw_at6 _ _ _) rfl (vp_in_iff.mpr (by omega)) dX4_wants_21 (fun H locs hP hD hS => ?_)
      have hP : va_P (dC, dI) vwCl (cw g h (s_want u (upd (k_want u) x1.toNatClampNeg x2))) H := hP
      have hD : va_D A (cw g h (s_want u (upd (k_want u) x1.toNatClampNeg x2))) := hD
      exact vy_ret (W.vret hx hb hr (fun t ht hW => ⟨⟨(s_want u (upd (k_want u) x1.toNatClampNeg x2)), rfl, (by unfold fX4_wants; rw [if_pos c_1, if_pos c_4]), by rw [ht]; exact hP, hD⟩, hS.F ht⟩) hS.2.2 dX4_wants_22)
set_option maxHeartbeats 4000000 in
set_option maxRecDepth 100000 in
theorem kX4_right (l : Launch) (hl9 : l.stackTraces = false) (dC : Nat → ClassId) (dI : Nat → Nat → Nat) (g : cG) (h : Nat → Nat) (u : cS) (sz : Nat) (x1 : Int32) (x2 : Int32) (x3 : Int32) (hI : cInv u) : vy_Met l yX4_right wsX4_right ({ frames := 7, cells := 8, slots := 48, locals := 104 }) (va_Pc [.ref (h 0), .int x1, .int x2, .int x3] (fun U => U.heap.size = sz ∧ va_P (dC, dI) vwCl (cw g h u) U.heap ∧ va_K (dC, dI) vwCl (cTys g) U ∧ va_D (fun _ => True) (cw g h u) ∧ zz (va_A (cw g h u) sz) U U.heap)) (va_Qv (fun u2 => fX4_right u x1 x2 x3 = (0, 0, u2)) (fun (u2 : cS) (t : State) => va_P (dC, dI) vwCl (cw g h u2) t.heap ∧ va_D (va_A (cw g h u) sz) (cw g h u2)) (va_A (cw g h u) sz)) (vx_X (fun _ => True) (fun E (u2 : cS) t => (∃ k : Nat, fX4_right u x1 x2 x3 = (k, 0, u2) ∧ ex_is k E) ∧ va_P (dC, dI) vwCl (cw g h u2) t.heap ∧ va_D (va_A (cw g h u) sz) (cw g h u2)) (va_A (cw g h u) sz)) 0 0 8 48 (va_A (cw g h u) sz) := by
  refine vy_ofW (cc := cX4_right) (maxL := 4) (ret := none) (by decide) rfl ?_
  intro p e s m args below meth c s₁ B hml hxt hv
  obtain ⟨rfl, hsz, hP, hK, hD0, hZ⟩ := hv
  have hx := B.exec
  have hb := B.bytes
  have hr := B.returns
  have hts := atoms_spec (ws := wsX4_right) B.pre
  have hown : s.vm.findClass RX4 = some m.cls := findClass_of_methodNamed B.named
  have hlocks := B.notSynchronized
  subst hsz
  have hD := hD0.self (sz := s.heap.size)
  generalize hAe : va_A (cw g h u) s.heap.size = A at hD hZ ⊢
  have hA : ∀ q : Nat, s.heap.size ≤ q → A q := fun q h => by rw [← hAe]; exact Or.inr h
  have hS : va_S A s.heap s.heap [] := va_S.rf
  have hl := lv_entry ([.ref (h 0), .int x1, .int x2, .int x3]) (n := 4) (Nat.le_of_ble_eq_true rfl)
  rw [lg_entry_eq]
  generalize (lg_sl ([.ref (h 0), .int x1, .int x2, .int x3]) ++ List.replicate (4 - (lg_sl ([.ref (h 0), .int x1, .int x2, .int x3])).length) Slot.unset).toArray = ls at hl ⊢
  have hl : lv_has ls 4 [(0, .ref (h 0)), (1, .int x1), (2, .int x2), (3, .int x3)] := hl
  obtain ⟨hI1, hI2, hI3, hI4, hI5, hI6⟩ := id hI
  have z_0 : (0 : Int32).toInt = 0 := by decide
  have z_1 : (7 : Int32).toInt = 7 := by decide
  have z_2 : (1 : Int32).toInt = 1 := by decide
  have z_3 : (9 : Int32).toInt = 9 := by decide
  refine lv_iload_n hx hb dX4_right_0 rfl (lv_at hl 1 rfl) ?_
  refine lv_iconst (v := 0) hx hb dX4_right_1 (by decide) ?_
  refine lv_bipush (v := 7) hx hb dX4_right_2 (by decide) ?_
  refine vy_callv (vy_runS (As := [.int x1, .int 0, .int 7]) (rest := []) ⟨hx, hb, hml, hown, hts⟩ (kX4_requireRange l hl9 dC dI _ x1 0 7) (cwS 3 hts (gS wd_90 wd_91 wd_92 wcX4_requireRange) rfl rfl rfl (by decide +kernel) ⟨(Nat.le_of_ble_eq_true rfl), (Nat.le_of_ble_eq_true rfl)⟩) ⟨fun a U g mk q => by obtain ⟨q0, q1, qZ⟩ := q; exact ⟨q0, q1, zz_same (u := U) (H := U.heap) rfl rfl qZ⟩, fun U hU hW => ⟨rfl, hU, by rw [hU]; exact zz_to hZ hS (fun q h => hA q (Nat.le_trans hS.1 h)) hW⟩⟩ rfl rfl hl.1 rfl (lv_room (Nat.le_of_ble_eq_true rfl)) dX4_right_4 ⟨(Nat.le_of_ble_eq_true rfl), (Nat.le_of_ble_eq_true rfl)⟩) hS (fun q h1 h2 => absurd h2 (Nat.not_le.mpr h1)) (fun q h => hA q (Nat.le_trans hS.1 h)) (fun q h1 h2 => absurd h2 (Nat.not_le.mpr h1)) (fun E ce q9 _ t H1 locs1 ht hvm hw hB hz1 hk1 hS hce hcv hcl => ?_) (fun _ t H1 locs1 ht hvm hw hB hz1 hk1 hS => ?_)
  · skip
    have c_1 : ¬ fX4_requireRange x1 0 7 = 0 := by rw [hw]; decide
    subst hB
    have hP := hP.kept (fun k q hq => hk1 q.1 (hP k q hq).lt (Nat.not_le.mpr (hP k q hq).lt))
    exact vy_out (vx_out (fun x hx => (hxt x hx).elim) hlocks hce hcv hcl (fun t ht ha => ⟨u, trivial, ⟨⟨2, (by unfold fX4_right; rw [if_neg c_1]), rfl⟩, by rw [ht]; exact hP, hD⟩, hS.F ht⟩) hS.2.2 (Nat.le_of_ble_eq_true rfl) (Nat.le_of_ble_eq_true rfl))
  · skip
    have hH1 : H1 = _ := ht.symm.trans hB
    subst hH1
    have c_1 : fX4_requireRange x1 0 7 = 0 := hw
    have t_2 := rr_lo c_1
    have t_3 := rr_hi c_1
    refine lv_iload_n hx hb dX4_right_7 rfl (lv_at hl 2 rfl) ?_
    refine lv_iconst (v := 1) hx hb dX4_right_8 (by decide) ?_
    refine lv_bipush (v := 9) hx hb dX4_right_9 (by decide) ?_
    refine vy_callv (vy_runS (As := [.int x2, .int 1, .int 9]) (rest := []) ⟨hx, hb, hml, hown, hts⟩ (kX4_requireRange l hl9 dC dI _ x2 1 9) (cwS 3 hts (gS wd_90 wd_91 wd_92 wcX4_requireRange) rfl rfl rfl (by decide +kernel) ⟨(Nat.le_of_ble_eq_true rfl), (Nat.le_of_ble_eq_true rfl)⟩) ⟨fun a U g mk q => by obtain ⟨q0, q1, qZ⟩ := q; exact ⟨q0, q1, zz_same (u := U) (H := U.heap) rfl rfl qZ⟩, fun U hU hW => ⟨rfl, hU, by rw [hU]; exact zz_to hZ hS (fun q h => hA q (Nat.le_trans hS.1 h)) hW⟩⟩ rfl rfl hl.1 rfl (lv_room (Nat.le_of_ble_eq_true rfl)) dX4_right_11 ⟨(Nat.le_of_ble_eq_true rfl), (Nat.le_of_ble_eq_true rfl)⟩) hS (fun q h1 h2 => absurd h2 (Nat.not_le.mpr h1)) (fun q h => hA q (Nat.le_trans hS.1 h)) (fun q h1 h2 => absurd h2 (Nat.not_le.mpr h1)) (fun E ce q9 _ t H1 locs1 ht hvm hw hB hz1 hk1 hS hce hcv hcl => ?_) (fun _ t H1 locs1 ht hvm hw hB hz1 hk1 hS => ?_)
    · skip
      have c_4 : ¬ fX4_requireRange x2 1 9 = 0 := by rw [hw]; decide
      subst hB
      have hP := hP.kept (fun k q hq => hk1 q.1 (hP k q hq).lt (Nat.not_le.mpr (hP k q hq).lt))
      exact vy_out (vx_out (fun x hx => (hxt x hx).elim) hlocks hce hcv hcl (fun t ht ha => ⟨u, trivial, ⟨⟨2, (by unfold fX4_right; rw [if_pos c_1, if_neg c_4]), rfl⟩, by rw [ht]; exact hP, hD⟩, hS.F ht⟩) hS.2.2 (Nat.le_of_ble_eq_true rfl) (Nat.le_of_ble_eq_true rfl))
    · skip
      have hH1 : H1 = _ := ht.symm.trans hB
      subst hH1
      have c_4 : fX4_requireRange x2 1 9 = 0 := hw
      have t_5 := rr_lo c_4
      have t_6 := rr_hi c_4
      refine lv_iload_n hx hb dX4_right_14 rfl (lv_at hl 3 rfl) ?_
      refine lv_if_eq (tgt := 33) hx hb dX4_right_15 (by decide) (fun c_7 => ?_) (fun c_7 => ?_)
      · skip
        have t_8 : x3.toInt = 0 := i_eq c_7 rfl (by decide)
        refine lv_aload_n hx hb dX4_right_33 rfl (lv_at hl 0 rfl) ?_
        refine va_get (D := (dC, dI)) (C := RX4) (T := TX4) (N := 9) (v := .ref (h 7)) hx hb hts (fi_X4 _) hown hK hP 0 (cw_at0 _ _ _) rfl 6 (by decide) (hts _ (List.mem_cons_of_mem _ wd_113)) (fun _ h9 => h9) rfl dX4_right_34 ?_
        refine lv_iload_n hx hb dX4_right_37 rfl (lv_at hl 1 rfl) ?_
        refine lv_dup2_11 hx hb dX4_right_38 rfl rfl ?_
        refine va_iald (f := k_may u) hx hb hK hP 7 0 (cw_at7 _ _ _) rfl (vp_in_iff.mpr (by omega)) dX4_right_39 ?_
        refine lv_iconst (v := 1) hx hb dX4_right_40 (by decide) ?_
        refine lv_iload_n hx hb dX4_right_41 rfl (lv_at hl 2 rfl) ?_
        refine lv_ishl hx hb dX4_right_42 ?_
        refine lv_iconst (v := (-1)) hx hb dX4_right_43 (by decide) ?_
        refine lv_ixor hx hb dX4_right_44 ?_
        refine lv_iand hx hb dX4_right_45 ?_
        refine va_iast (f := k_may u) hx hb hK hP hD hS 7 0 (cw_at7 _ _ _) rfl (vp_in_iff.mpr (by omega)) dX4_right_46 (fun H locs hP hD hS => ?_)
        have hP : va_P (dC, dI) vwCl (cw g h (s_may u (upd (k_may u) x1.toNatClampNeg ((k_may u x1.toNatClampNeg) &&& (((1 : Int32) <<< (x2 &&& 31)) ^^^ (-1)))))) H := hP
        have hD : va_D A (cw g h (s_may u (upd (k_may u) x1.toNatClampNeg ((k_may u x1.toNatClampNeg) &&& (((1 : Int32) <<< (x2 &&& 31)) ^^^ (-1)))))) := hD
        exact vy_ret (W.vret hx hb hr (fun t ht hW => ⟨⟨(s_may u (upd (k_may u) x1.toNatClampNeg ((k_may u x1.toNatClampNeg) &&& (((1 : Int32) <<< (x2 &&& 31)) ^^^ (-1))))), rfl, (by unfold fX4_right; rw [if_pos c_1, if_pos c_4, if_pos c_7]), by rw [ht]; exact hP, hD⟩, hS.F ht⟩) hS.2.2 dX4_right_47)
      · skip
        have t_9 : x3.toInt ≠ 0 := i_ne c_7 rfl (by decide)
        refine lv_aload_n hx hb dX4_right_18 rfl (lv_at hl 0 rfl) ?_
        refine va_get (D := (dC, dI)) (C := RX4) (T := TX4) (N := 9) (v := .ref (h 7)) hx hb hts (fi_X4 _) hown hK hP 0 (cw_at0 _ _ _) rfl 6 (by decide) (hts _ (List.mem_cons_of_mem _ wd_113)) (fun _ h9 => h9) rfl dX4_right_19 ?_
        refine lv_iload_n hx hb dX4_right_22 rfl (lv_at hl 1 rfl) ?_
        refine lv_dup2_11 hx hb dX4_right_23 rfl rfl ?_
        refine va_iald (f := k_may u) hx hb hK hP 7 0 (cw_at7 _ _ _) rfl (vp_in_iff.mpr (by omega)) dX4_right_24 ?_
        refine lv_iconst (v := 1) hx hb dX4_right_25 (by decide) ?_
        refine lv_iload_n hx hb dX4_right_26 rfl (lv_at hl 2 rfl) ?_
        refine lv_ishl hx hb dX4_right_27 ?_
        refine lv_ior hx hb dX4_right_28 ?_
        refine va_iast (f := k_may u) hx hb hK hP hD hS 7 0 (cw_at7 _ _ _) rfl (vp_in_iff.mpr (by omega)) dX4_right_29 (fun H locs hP hD hS => ?_)
        have hP : va_P (dC, dI) vwCl (cw g h (s_may u (upd (k_may u) x1.toNatClampNeg ((k_may u x1.toNatClampNeg) ||| ((1 : Int32) <<< (x2 &&& 31)))))) H := hP
        have hD : va_D A (cw g h (s_may u (upd (k_may u) x1.toNatClampNeg ((k_may u x1.toNatClampNeg) ||| ((1 : Int32) <<< (x2 &&& 31)))))) := hD
        refine lv_goto (tgt := 47) hx hb dX4_right_30 (by decide) ?_
        exact vy_ret (W.vret hx hb hr (fun t ht hW => ⟨⟨(s_may u (upd (k_may u) x1.toNatClampNeg ((k_may u x1.toNatClampNeg) ||| ((1 : Int32) <<< (x2 &&& 31))))), rfl, (by unfold fX4_right; rw [if_pos c_1, if_pos c_4, if_neg c_7]), by rw [ht]; exact hP, hD⟩, hS.F ht⟩) hS.2.2 dX4_right_47)
set_option maxHeartbeats 4000000 in
set_option maxRecDepth 100000 in
theorem kX4_block (l : Launch) (hl9 : l.stackTraces = false) (dC : Nat → ClassId) (dI : Nat → Nat → Nat) (g : cG) (h : Nat → Nat) (u : cS) (sz : Nat) (x1 : Int32) (x2 : Int32) (hI : cInv u) : vy_Met l yX4_block wsX4_block ({ frames := 7, cells := 8, slots := 48, locals := 104 }) (va_Pc [.ref (h 0), .int x1, .int x2] (fun U => U.heap.size = sz ∧ va_P (dC, dI) vwCl (cw g h u) U.heap ∧ va_K (dC, dI) vwCl (cTys g) U ∧ va_D (fun _ => True) (cw g h u) ∧ zz (va_A (cw g h u) sz) U U.heap)) (va_Qi (fun (r : Int32) u2 => fX4_block u x1 x2 = (0, r, u2)) (fun (u2 : cS) (t : State) => va_P (dC, dI) vwCl (cw g h u2) t.heap ∧ va_D (va_A (cw g h u) sz) (cw g h u2)) (va_A (cw g h u) sz)) (vx_X (fun _ => True) (fun E (u2 : cS) t => (∃ k : Nat, fX4_block u x1 x2 = (k, 0, u2) ∧ ex_is k E) ∧ va_P (dC, dI) vwCl (cw g h u2) t.heap ∧ va_D (va_A (cw g h u) sz) (cw g h u2)) (va_A (cw g h u) sz)) 0 0 8 48 (va_A (cw g h u) sz) := by
  refine vy_ofW (cc := cX4_block) (maxL := 4) (ret := (some .int)) (by decide) rfl ?_
  intro p e s m args below meth c s₁ B hml hxt hv
  obtain ⟨rfl, hsz, hP, hK, hD0, hZ⟩ := hv
  have hx := B.exec
  have hb := B.bytes
  have hr := B.returns
  have hts := atoms_spec (ws := wsX4_block) B.pre
  have hown : s.vm.findClass RX4 = some m.cls := findClass_of_methodNamed B.named
  have hlocks := B.notSynchronized
  subst hsz
  have hD := hD0.self (sz := s.heap.size)
  generalize hAe : va_A (cw g h u) s.heap.size = A at hD hZ ⊢
  have hA : ∀ q : Nat, s.heap.size ≤ q → A q := fun q h => by rw [← hAe]; exact Or.inr h
  have hS : va_S A s.heap s.heap [] := va_S.rf
  have hl := lv_entry ([.ref (h 0), .int x1, .int x2]) (n := 4) (Nat.le_of_ble_eq_true rfl)
  rw [lg_entry_eq]
  generalize (lg_sl ([.ref (h 0), .int x1, .int x2]) ++ List.replicate (4 - (lg_sl ([.ref (h 0), .int x1, .int x2])).length) Slot.unset).toArray = ls at hl ⊢
  have hl : lv_has ls 4 [(0, .ref (h 0)), (1, .int x1), (2, .int x2)] := hl
  obtain ⟨hI1, hI2, hI3, hI4, hI5, hI6⟩ := id hI
  have z_0 : (1 : Int32).toInt = 1 := by decide
  have z_1 : (9 : Int32).toInt = 9 := by decide
  refine lv_aload_n hx hb dX4_block_0 rfl (lv_at hl 0 rfl) ?_
  refine lv_iload_n hx hb dX4_block_1 rfl (lv_at hl 1 rfl) ?_
  refine vy_callv (vy_runV (As := [.int x1]) (rest := []) ⟨hx, hb, hml, hown, hts⟩ (kX4_requireLot l hl9 dC dI g h u _ x1) (cwV 1 hts (gV wd_114 wd_115 wd_116 wd_92 wcX4_requireLot) rfl rfl rfl (by decide +kernel) ⟨(Nat.le_of_ble_eq_true rfl), (Nat.le_of_ble_eq_true rfl)⟩) ⟨fun a U g mk q => by obtain ⟨q0, q1, qP, qK, qZ⟩ := q; exact ⟨q0, q1, qP, va_K.moved (u := U) (U := U.calling g mk a) (Vm.Alike.refl U.vm) qK, zz_same (u := U) (H := U.heap) rfl rfl qZ⟩, va_recv hK hP (ci := 3) (q0 := 0) rfl (cw_at0 _ _ _), fun U hU hW => ⟨rfl, hU, by rw [hU]; exact hP, va_K.moved hW.alike hK, by rw [hU]; exact zz_to hZ hS (fun q h => hA q (Nat.le_trans hS.1 h)) hW⟩⟩ rfl rfl hl.1 rfl (lv_room (Nat.le_of_ble_eq_true rfl)) dX4_block_2 ⟨(Nat.le_of_ble_eq_true rfl), (Nat.le_of_ble_eq_true rfl)⟩) hS (fun q h1 h2 => absurd h2 (Nat.not_le.mpr h1)) (fun q h => hA q (Nat.le_trans hS.1 h)) (fun q h1 h2 => absurd h2 (Nat.not_le.mpr h1)) (fun E ce q9 _ t H1 locs1 ht hvm hw hB hz1 hk1 hS hce hcv hcl => ?_) (fun _ t H1 locs1 ht hvm hw hB hz1 hk1 hS => ?_)
  · skip
    have c_1 : ¬ fX4_requireLot u x1 = 0 := by rw [hw]; decide
    subst hB
    have hP := hP.kept (fun k q hq => hk1 q.1 (hP k q hq).lt (Nat.not_le.mpr (hP k q hq).lt))
    exact vy_out (vx_out (fun x hx => (hxt x hx).elim) hlocks hce hcv hcl (fun t ht ha => ⟨u, trivial, ⟨⟨1, (by unfold fX4_block; rw [if_neg c_1]), rfl⟩, by rw [ht]; exact hP, hD⟩, hS.F ht⟩) hS.2.2 (Nat.le_of_ble_eq_true rfl) (Nat.le_of_ble_eq_true rfl))
  · skip
    have hH1 : H1 = _ := ht.symm.trans hB
    subst hH1
    have c_1 : fX4_requireLot u x1 = 0 := hw
    have t_2 := rl_lo c_1
    have t_3 := rl_hi c_1
    refine lv_iload_n hx hb dX4_block_5 rfl (lv_at hl 2 rfl) ?_
    refine lv_iconst (v := 1) hx hb dX4_block_6 (by decide) ?_
    refine lv_bipush (v := 9) hx hb dX4_block_7 (by decide) ?_
    refine vy_callv (vy_runS (As := [.int x2, .int 1, .int 9]) (rest := []) ⟨hx, hb, hml, hown, hts⟩ (kX4_requireRange l hl9 dC dI _ x2 1 9) (cwS 3 hts (gS wd_90 wd_91 wd_92 wcX4_requireRange) rfl rfl rfl (by decide +kernel) ⟨(Nat.le_of_ble_eq_true rfl), (Nat.le_of_ble_eq_true rfl)⟩) ⟨fun a U g mk q => by obtain ⟨q0, q1, qZ⟩ := q; exact ⟨q0, q1, zz_same (u := U) (H := U.heap) rfl rfl qZ⟩, fun U hU hW => ⟨rfl, hU, by rw [hU]; exact zz_to hZ hS (fun q h => hA q (Nat.le_trans hS.1 h)) hW⟩⟩ rfl rfl hl.1 rfl (lv_room (Nat.le_of_ble_eq_true rfl)) dX4_block_9 ⟨(Nat.le_of_ble_eq_true rfl), (Nat.le_of_ble_eq_true rfl)⟩) hS (fun q h1 h2 => absurd h2 (Nat.not_le.mpr h1)) (fun q h => hA q (Nat.le_trans hS.1 h)) (fun q h1 h2 => absurd h2 (Nat.not_le.mpr h1)) (fun E ce q9 _ t H1 locs1 ht hvm hw hB hz1 hk1 hS hce hcv hcl => ?_) (fun _ t H1 locs1 ht hvm hw hB hz1 hk1 hS => ?_)
    · skip
      have c_4 : ¬ fX4_requireRange x2 1 9 = 0 := by rw [hw]; decide
      subst hB
      have hP := hP.kept (fun k q hq => hk1 q.1 (hP k q hq).lt (Nat.not_le.mpr (hP k q hq).lt))
      exact vy_out (vx_out (fun x hx => (hxt x hx).elim) hlocks hce hcv hcl (fun t ht ha => ⟨u, trivial, ⟨⟨2, (by unfold fX4_block; rw [if_pos c_1, if_neg c_4]), rfl⟩, by rw [ht]; exact hP, hD⟩, hS.F ht⟩) hS.2.2 (Nat.le_of_ble_eq_true rfl) (Nat.le_of_ble_eq_true rfl))
    · skip
      have hH1 : H1 = _ := ht.symm.trans hB
      subst hH1
      have c_4 : fX4_requireRange x2 1 9 = 0 := hw
      have t_5 := rr_lo c_4
      have t_6 := rr_hi c_4
      refine lv_iconst (v := 1) hx hb dX4_block_12 (by decide) ?_
      refine lv_iload_n hx hb dX4_block_13 rfl (lv_at hl 2 rfl) ?_
      refine lv_ishl hx hb dX4_block_14 ?_
      refine lv_istore_n (lv' := [(3, .int ((1 : Int32) <<< (x2 &&& 31))), (0, .ref (h 0)), (1, .int x1), (2, .int x2)]) hx hb dX4_block_15 rfl hl (by decide) rfl (fun ls hl => ?_)
      refine lv_aload_n hx hb dX4_block_16 rfl (lv_at hl 1 rfl) ?_
      refine va_get (D := (dC, dI)) (C := RX4) (T := TX4) (N := 9) (v := .ref (h 1)) hx hb hts (fi_X4 _) hown hK hP 0 (cw_at0 _ _ _) rfl 0 (by decide) (hts _ (List.mem_cons_of_mem _ wd_11)) (fun _ h9 => h9) rfl dX4_block_17 ?_
      refine va_get (D := (dC, dI)) (C := RX1) (T := TX1) (N := 9) (v := .ref (h 12)) hx hb hts (fi_X1 _) hown hK hP 1 (cw_at1 _ _ _) rfl 4 (by decide) (hts _ (List.mem_cons_of_mem _ wd_118)) (fun _ h9 => h9) rfl dX4_block_20 ?_
      refine lv_iload_n hx hb dX4_block_23 rfl (lv_at hl 2 rfl) ?_
      refine va_zald (f := k_open u) hx hb hK hP 12 1 (cw_at12 _ _ _) rfl (vp_in_iff.mpr (by omega)) dX4_block_24 ?_
      refine lv_if_eq (tgt := 46) hx hb dX4_block_25 (by decide) (fun c_7 => ?_) (fun c_7 => ?_)
      · skip
        have t_8 : (k_open u x1.toNatClampNeg).toInt = 0 := i_eq c_7 rfl (by decide)
        refine lv_iconst (v := 0) hx hb dX4_block_46 (by decide) ?_
        refine vy_callv (vy_runS (As := [.int 0]) (rest := []) ⟨hx, hb, hml, hown, hts⟩ (kX4_requireState l hl9 dC dI _ 0) (cwS 1 hts (gS wd_119 wd_120 wd_92 wcX4_requireState) rfl rfl rfl (by decide +kernel) ⟨(Nat.le_of_ble_eq_true rfl), (Nat.le_of_ble_eq_true rfl)⟩) ⟨fun a U g mk q => by obtain ⟨q0, q1, qZ⟩ := q; exact ⟨q0, q1, zz_same (u := U) (H := U.heap) rfl rfl qZ⟩, fun U hU hW => ⟨rfl, hU, by rw [hU]; exact zz_to hZ hS (fun q h => hA q (Nat.le_trans hS.1 h)) hW⟩⟩ rfl rfl hl.1 rfl (lv_room (Nat.le_of_ble_eq_true rfl)) dX4_block_47 ⟨(Nat.le_of_ble_eq_true rfl), (Nat.le_of_ble_eq_true rfl)⟩) hS (fun q h1 h2 => absurd h2 (Nat.not_le.mpr h1)) (fun q h => hA q (Nat.le_trans hS.1 h)) (fun q h1 h2 => absurd h2 (Nat.not_le.mpr h1)) (fun E ce q9 _ t H1 locs1 ht hvm hw hB hz1 hk1 hS hce hcv hcl => ?_) (fun _ t H1 locs1 ht hvm hw hB hz1 hk1 hS => ?_)
        · skip
          subst hB
          have hP := hP.kept (fun k q hq => hk1 q.1 (hP k q hq).lt (Nat.not_le.mpr (hP k q hq).lt))
          exact vy_out (vx_out (fun x hx => (hxt x hx).elim) hlocks hce hcv hcl (fun t ht ha => ⟨u, trivial, ⟨⟨3, (by unfold fX4_block; rw [if_pos c_1, if_pos c_4, if_pos c_7]), rfl⟩, by rw [ht]; exact hP, hD⟩, hS.F ht⟩) hS.2.2 (Nat.le_of_ble_eq_true rfl) (Nat.le_of_ble_eq_true rfl))
        · skip
          exact absurd hw (by decide)
      · skip
        have t_10 : (k_open u x1.toNatClampNeg).toInt ≠ 0 := i_ne c_7 rfl (by decide)
        refine lv_aload_n hx hb dX4_block_28 rfl (lv_at hl 1 rfl) ?_
        refine va_get (D := (dC, dI)) (C := RX4) (T := TX4) (N := 9) (v := .ref (h 1)) hx hb hts (fi_X4 _) hown hK hP 0 (cw_at0 _ _ _) rfl 0 (by decide) (hts _ (List.mem_cons_of_mem _ wd_11)) (fun _ h9 => h9) rfl dX4_block_29 ?_
        refine va_get (D := (dC, dI)) (C := RX1) (T := TX1) (N := 9) (v := .ref (h 13)) hx hb hts (fi_X1 _) hown hK hP 1 (cw_at1 _ _ _) rfl 5 (by decide) (hts _ (List.mem_cons_of_mem _ wd_122)) (fun _ h9 => h9) rfl dX4_block_32 ?_
        refine lv_iload_n hx hb dX4_block_35 rfl (lv_at hl 2 rfl) ?_
        refine va_iald (f := k_reas u) hx hb hK hP 13 0 (cw_at13 _ _ _) rfl (vp_in_iff.mpr (by omega)) dX4_block_36 ?_
        refine lv_iload_n hx hb dX4_block_37 rfl (lv_at hl 0 rfl) ?_
        refine lv_iand hx hb dX4_block_38 ?_
        refine lv_if_ne (tgt := 46) hx hb dX4_block_39 (by decide) (fun c_11 => ?_) (fun c_11 => ?_)
        · skip
          have t_12 : ((k_reas u x1.toNatClampNeg) &&& ((1 : Int32) <<< (x2 &&& 31))).toInt ≠ 0 := i_ne c_11 rfl (by decide)
          refine lv_iconst (v := 0) hx hb dX4_block_46 (by decide) ?_
          refine vy_callv (vy_runS (As := [.int 0]) (rest := []) ⟨hx, hb, hml, hown, hts⟩ (kX4_requireState l hl9 dC dI _ 0) (cwS 1 hts (gS wd_119 wd_120 wd_92 wcX4_requireState) rfl rfl rfl (by decide +kernel) ⟨(Nat.le_of_ble_eq_true rfl), (Nat.le_of_ble_eq_true rfl)⟩) ⟨fun a U g mk q => by obtain ⟨q0, q1, qZ⟩ := q; exact ⟨q0, q1, zz_same (u := U) (H := U.heap) rfl rfl qZ⟩, fun U hU hW => ⟨rfl, hU, by rw [hU]; exact zz_to hZ hS (fun q h => hA q (Nat.le_trans hS.1 h)) hW⟩⟩ rfl rfl hl.1 rfl (lv_room (Nat.le_of_ble_eq_true rfl)) dX4_block_47 ⟨(Nat.le_of_ble_eq_true rfl), (Nat.le_of_ble_eq_true rfl)⟩) hS (fun q h1 h2 => absurd h2 (Nat.not_le.mpr h1)) (fun q h => hA q (Nat.le_trans hS.1 h)) (fun q h1 h2 => absurd h2 (Nat.not_le.mpr h1)) (fun E ce q9 _ t H1 locs1 ht hvm hw hB hz1 hk1 hS hce hcv hcl => ?_) (fun _ t H1 locs1 ht hvm hw hB hz1 hk1 hS => ?_)
          · skip
            subst hB
            have hP := hP.kept (fun k q hq => hk1 q.1 (hP k q hq).lt (Nat.not_le.mpr (hP k q hq).lt))
            exact vy_out (vx_out (fun x hx => (hxt x hx).elim) hlocks hce hcv hcl (fun t ht ha => ⟨u, trivial, ⟨⟨3, (by unfold fX4_block; rw [if_pos c_1, if_pos c_4, if_neg c_7, if_neg c_11]), rfl⟩, by rw [ht]; exact hP, hD⟩, hS.F ht⟩) hS.2.2 (Nat.le_of_ble_eq_true rfl) (Nat.le_of_ble_eq_true rfl))
          · skip
            exact absurd hw (by decide)
        · skip
          have t_14 : ((k_reas u x1.toNatClampNeg) &&& ((1 : Int32) <<< (x2 &&& 31))).toInt = 0 := i_eq c_11 rfl (by decide)
          refine lv_iconst (v := 1) hx hb dX4_block_42 (by decide) ?_
          refine lv_goto (tgt := 47) hx hb dX4_block_43 (by decide) ?_
          refine vy_callv (vy_runS (As := [.int 1]) (rest := []) ⟨hx, hb, hml, hown, hts⟩ (kX4_requireState l hl9 dC dI _ 1) (cwS 1 hts (gS wd_119 wd_120 wd_92 wcX4_requireState) rfl rfl rfl (by decide +kernel) ⟨(Nat.le_of_ble_eq_true rfl), (Nat.le_of_ble_eq_true rfl)⟩) ⟨fun a U g mk q => by obtain ⟨q0, q1, qZ⟩ := q; exact ⟨q0, q1, zz_same (u := U) (H := U.heap) rfl rfl qZ⟩, fun U hU hW => ⟨rfl, hU, by rw [hU]; exact zz_to hZ hS (fun q h => hA q (Nat.le_trans hS.1 h)) hW⟩⟩ rfl rfl hl.1 rfl (lv_room (Nat.le_of_ble_eq_true rfl)) dX4_block_47 ⟨(Nat.le_of_ble_eq_true rfl), (Nat.le_of_ble_eq_true rfl)⟩) hS (fun q h1 h2 => absurd h2 (Nat.not_le.mpr h1)) (fun q h => hA q (Nat.le_trans hS.1 h)) (fun q h1 h2 => absurd h2 (Nat.not_le.mpr h1)) (fun E ce q9 _ t H1 locs1 ht hvm hw hB hz1 hk1 hS hce hcv hcl => ?_) (fun _ t H1 locs1 ht hvm hw hB hz1 hk1 hS => ?_)
          · skip
            exact absurd hw (by decide)
          · skip
            have hH1 : H1 = _ := ht.symm.trans hB
            subst hH1
            refine lv_aload_n hx hb dX4_block_50 rfl (lv_at hl 1 rfl) ?_
            refine va_get (D := (dC, dI)) (C := RX4) (T := TX4) (N := 9) (v := .ref (h 3)) hx hb hts (fi_X4 _) hown hK hP 0 (cw_at0 _ _ _) rfl 2 (by decide) (hts _ (List.mem_cons_of_mem _ wd_87)) (fun _ h9 => h9) rfl dX4_block_51 ?_
            refine lv_iconst (v := 1) hx hb dX4_block_54 (by decide) ?_
            refine vp_callSi (W.runV (As := [.int 1]) (rest := []) ⟨hx, hb, hml, hown, hts⟩ (kX2_haveRoomFor l dC dI g h u 1) (cwV 1 hts (gV wd_102 wd_103 wd_104 wd_105 wcX2_haveRoomFor) rfl rfl rfl (by decide +kernel) ⟨(Nat.le_of_ble_eq_true rfl), (Nat.le_of_ble_eq_true rfl)⟩) ⟨fun a U g mk q => by obtain ⟨q0, qP, qK⟩ := q; exact ⟨q0, qP, va_K.moved (u := U) (U := U.calling g mk a) (Vm.Alike.refl U.vm) qK⟩, va_recv hK hP (ci := 1) (q0 := 3) rfl (cw_at3 _ _ _), fun U hU hW => ⟨rfl, by rw [hU]; exact hP, va_K.moved hW.alike hK⟩⟩ rfl rfl hl.1 rfl (lv_room (Nat.le_of_ble_eq_true rfl)) dX4_block_55 ⟨(Nat.le_of_ble_eq_true rfl), (Nat.le_of_ble_eq_true rfl)⟩) (fun r_16 hw => ?_)
            subst hw
            refine vy_callv (vy_runS (As := [.int (fX2_haveRoomFor u 1)]) (rest := []) ⟨hx, hb, hml, hown, hts⟩ (kX4_requireRoom l hl9 dC dI _ (fX2_haveRoomFor u 1)) (cwS 1 hts (gS wd_99 wd_100 wd_92 wcX4_requireRoom) rfl rfl rfl (by decide +kernel) ⟨(Nat.le_of_ble_eq_true rfl), (Nat.le_of_ble_eq_true rfl)⟩) ⟨fun a U g mk q => by obtain ⟨q0, q1, qZ⟩ := q; exact ⟨q0, q1, zz_same (u := U) (H := U.heap) rfl rfl qZ⟩, fun U hU hW => ⟨rfl, hU, by rw [hU]; exact zz_to hZ hS (fun q h => hA q (Nat.le_trans hS.1 h)) hW⟩⟩ rfl rfl hl.1 rfl (lv_room (Nat.le_of_ble_eq_true rfl)) dX4_block_58 ⟨(Nat.le_of_ble_eq_true rfl), (Nat.le_of_ble_eq_true rfl)⟩) hS (fun q h1 h2 => absurd h2 (Nat.not_le.mpr h1)) (fun q h => hA q (Nat.le_trans hS.1 h)) (fun q h1 h2 => absurd h2 (Nat.not_le.mpr h1)) (fun E ce q9 _ t H1 locs1 ht hvm hw hB hz1 hk1 hS hce hcv hcl => ?_) (fun _ t H1 locs1 ht hvm hw hB hz1 hk1 hS => ?_)
            · skip
              have c_17 : ¬ fX4_requireRoom (fX2_haveRoomFor u 1) = 0 := by rw [hw]; decide
              subst hB
              have hP := hP.kept (fun k q hq => hk1 q.1 (hP k q hq).lt (Nat.not_le.mpr (hP k q hq).lt))
              exact vy_out (vx_out (fun x hx => (hxt x hx).elim) hlocks hce hcv hcl (fun t ht ha => ⟨u, trivial, ⟨⟨4, (by unfold fX4_block; rw [if_pos c_1, if_pos c_4, if_neg c_7, if_pos c_11, if_neg c_17]), rfl⟩, by rw [ht]; exact hP, hD⟩, hS.F ht⟩) hS.2.2 (Nat.le_of_ble_eq_true rfl) (Nat.le_of_ble_eq_true rfl))
            · skip
              have hH1 : H1 = _ := ht.symm.trans hB
              subst hH1
              have c_17 : fX4_requireRoom (fX2_haveRoomFor u 1) = 0 := hw
              have t_18 := hr_roomq1 c_17 hI3
              refine lv_aload_n hx hb dX4_block_61 rfl (lv_at hl 1 rfl) ?_
              refine va_get (D := (dC, dI)) (C := RX4) (T := TX4) (N := 9) (v := .ref (h 1)) hx hb hts (fi_X4 _) hown hK hP 0 (cw_at0 _ _ _) rfl 0 (by decide) (hts _ (List.mem_cons_of_mem _ wd_11)) (fun _ h9 => h9) rfl dX4_block_62 ?_
              refine va_get (D := (dC, dI)) (C := RX1) (T := TX1) (N := 9) (v := .ref (h 13)) hx hb hts (fi_X1 _) hown hK hP 1 (cw_at1 _ _ _) rfl 5 (by decide) (hts _ (List.mem_cons_of_mem _ wd_122)) (fun _ h9 => h9) rfl dX4_block_65 ?_
              refine lv_iload_n hx hb dX4_block_68 rfl (lv_at hl 2 rfl) ?_
              refine lv_dup2_11 hx hb dX4_block_69 rfl rfl ?_
              refine va_iald (f := k_reas u) hx hb hK hP 13 0 (cw_at13 _ _ _) rfl (vp_in_iff.mpr (by omega)) dX4_block_70 ?_
              refine lv_iload_n hx hb dX4_block_71 rfl (lv_at hl 0 rfl) ?_
              refine lv_ior hx hb dX4_block_72 ?_
              refine va_iast (f := k_reas u) hx hb hK hP hD hS 13 0 (cw_at13 _ _ _) rfl (vp_in_iff.mpr (by omega)) dX4_block_73 (fun H locs hP hD hS => ?_)
              have hP : va_P (dC, dI) vwCl (cw g h (s_reas u (upd (k_reas u) x1.toNatClampNeg ((k_reas u x1.toNatClampNeg) ||| ((1 : Int32) <<< (x2 &&& 31)))))) H := hP
              have hD : va_D A (cw g h (s_reas u (upd (k_reas u) x1.toNatClampNeg ((k_reas u x1.toNatClampNeg) ||| ((1 : Int32) <<< (x2 &&& 31)))))) := hD
              refine lv_aload_n hx hb dX4_block_74 rfl (lv_at hl 1 rfl) ?_
              refine va_get (D := (dC, dI)) (C := RX4) (T := TX4) (N := 9) (v := .ref (h 3)) hx hb hts (fi_X4 _) hown hK hP 0 (cw_at0 _ _ _) rfl 2 (by decide) (hts _ (List.mem_cons_of_mem _ wd_87)) (fun _ h9 => h9) rfl dX4_block_75 ?_
              refine lv_iload_n hx hb dX4_block_78 rfl (lv_at hl 2 rfl) ?_
              refine lv_bipush (v := 6) hx hb dX4_block_79 (by decide) ?_
              refine lv_iload_n hx hb dX4_block_81 rfl (lv_at hl 3 rfl) ?_
              have hFc := va_free (wc := cw g h (s_reas u (upd (k_reas u) x1.toNatClampNeg ((k_reas u x1.toNatClampNeg) ||| ((1 : Int32) <<< (x2 &&& 31)))))) hD hS hA [0, 1, 2, 3, 4, 5, 6, 7, 8, 9, 10, 11, 12, 13, 14, 15, 16, 17, 18, 19, 20, 21, 22, 23] rfl
              refine va_callv (va_runV (As := [.int x1, .int 6, .int x2]) (rest := []) ⟨hx, hb, hml, hown, hts⟩ (kX2_write l dC dI g h (s_reas u (upd (k_reas u) x1.toNatClampNeg ((k_reas u x1.toNatClampNeg) ||| ((1 : Int32) <<< (x2 &&& 31))))) _ x1 6 x2 (by show 0 ≤ (k_rwrit u).toInt ∧ (k_rwrit u).toInt < 400; omega)) (cwV 3 hts (gV wd_108 wd_109 wd_110 wd_105 wcX2_write) rfl rfl rfl (by decide +kernel) ⟨(Nat.le_of_ble_eq_true rfl), (Nat.le_of_ble_eq_true rfl)⟩) ⟨fun a U g mk q => by obtain ⟨q0, q1, qP, qK, qD⟩ := q; exact ⟨q0, q1, qP, va_K.moved (u := U) (U := U.calling g mk a) (Vm.Alike.refl U.vm) qK, qD⟩, va_recv hK hP (ci := 1) (q0 := 3) rfl (cw_at3 _ _ _), fun U hU hW => ⟨rfl, by rw [hU], by rw [hU]; exact hP, va_K.moved hW.alike hK, hD.weaken (fun _ _ _ _ => trivial)⟩⟩ rfl rfl hl.1 rfl (lv_room (Nat.le_of_ble_eq_true rfl)) dX4_block_82 ⟨(Nat.le_of_ble_eq_true rfl), (Nat.le_of_ble_eq_true rfl)⟩) hS (fun q _ h => hFc q h) hFc (fun u_19 t H locs ht hvm hw hB hz1 hk1 hS => ?_)
              obtain ⟨hP, hD⟩ := hB
              rw [ht] at hP
              have hD := hD.weaken (fun _ _ _ h => hFc _ h)
              have e_21 : u_19 = fX2_write (s_reas u (upd (k_reas u) x1.toNatClampNeg ((k_reas u x1.toNatClampNeg) ||| ((1 : Int32) <<< (x2 &&& 31))))) x1 6 x2 := hw
              clear hw
              refine lv_aload_n hx hb dX4_block_85 rfl (lv_at hl 1 rfl) ?_
              refine va_get (D := (dC, dI)) (C := RX4) (T := TX4) (N := 9) (v := .ref (h 1)) hx hb hts (fi_X4 _) hown hK hP 0 (cw_at0 _ _ _) rfl 0 (by decide) (hts _ (List.mem_cons_of_mem _ wd_11)) (fun _ h9 => h9) rfl dX4_block_86 ?_
              refine va_get (D := (dC, dI)) (C := RX1) (T := TX1) (N := 9) (v := .ref (h 13)) hx hb hts (fi_X1 _) hown hK hP 1 (cw_at1 _ _ _) rfl 5 (by decide) (hts _ (List.mem_cons_of_mem _ wd_122)) (fun _ h9 => h9) rfl dX4_block_89 ?_
              refine lv_iload_n hx hb dX4_block_92 rfl (lv_at hl 2 rfl) ?_
              refine va_iald (f := k_reas u_19) hx hb hK hP 13 0 (cw_at13 _ _ _) rfl (vp_in_iff.mpr (by omega)) dX4_block_93 ?_
              refine vp_callSi (W.runS (As := [.int (k_reas u_19 x1.toNatClampNeg)]) (rest := []) ⟨hx, hb, hml, hown, hts⟩ (kJ6_bitCount l dC dI (k_reas u_19 x1.toNatClampNeg)) (va_cwS 1 hts (gT wd_123 wd_124 wd_125 wcJ6_bitCount) rfl rfl rfl (by decide +kernel) ⟨(Nat.le_of_ble_eq_true rfl), (Nat.le_of_ble_eq_true rfl)⟩) ⟨fun a U g mk q => by obtain ⟨q0, qT⟩ := q; exact ⟨q0, qT⟩, fun U hU hW => ⟨rfl, trivial⟩⟩ rfl rfl hl.1 rfl (lv_room (Nat.le_of_ble_eq_true rfl)) dX4_block_94 ⟨(Nat.le_of_ble_eq_true rfl), (Nat.le_of_ble_eq_true rfl)⟩) (fun r_22 hw => ?_)
              subst hw
              exact vy_ret (W.iret (v := fJ6_bitCount (k_reas u_19 x1.toNatClampNeg)) hx hb hr (fun t ht hW => ⟨⟨(fJ6_bitCount (k_reas u_19 x1.toNatClampNeg)), u_19, rfl, (by subst e_21; unfold fX4_block; rw [if_pos c_1, if_pos c_4, if_neg c_7, if_pos c_11, if_pos c_17]), by rw [ht]; exact hP, hD⟩, hS.F ht⟩) hS.2.2 dX4_block_97)
set_option maxHeartbeats 4000000 in
set_option maxRecDepth 100000 in
theorem kX4_release (l : Launch) (hl9 : l.stackTraces = false) (dC : Nat → ClassId) (dI : Nat → Nat → Nat) (g : cG) (h : Nat → Nat) (u : cS) (sz : Nat) (x1 : Int32) (x2 : Int32) (hI : cInv u) : vy_Met l yX4_release wsX4_release ({ frames := 7, cells := 8, slots := 48, locals := 104 }) (va_Pc [.ref (h 0), .int x1, .int x2] (fun U => U.heap.size = sz ∧ va_P (dC, dI) vwCl (cw g h u) U.heap ∧ va_K (dC, dI) vwCl (cTys g) U ∧ va_D (fun _ => True) (cw g h u) ∧ zz (va_A (cw g h u) sz) U U.heap)) (va_Qi (fun (r : Int32) u2 => fX4_release u x1 x2 = (0, r, u2)) (fun (u2 : cS) (t : State) => va_P (dC, dI) vwCl (cw g h u2) t.heap ∧ va_D (va_A (cw g h u) sz) (cw g h u2)) (va_A (cw g h u) sz)) (vx_X (fun _ => True) (fun E (u2 : cS) t => (∃ k : Nat, fX4_release u x1 x2 = (k, 0, u2) ∧ ex_is k E) ∧ va_P (dC, dI) vwCl (cw g h u2) t.heap ∧ va_D (va_A (cw g h u) sz) (cw g h u2)) (va_A (cw g h u) sz)) 0 0 8 48 (va_A (cw g h u) sz) := by
  refine vy_ofW (cc := cX4_release) (maxL := 4) (ret := (some .int)) (by decide) rfl ?_
  intro p e s m args below meth c s₁ B hml hxt hv
  obtain ⟨rfl, hsz, hP, hK, hD0, hZ⟩ := hv
  have hx := B.exec
  have hb := B.bytes
  have hr := B.returns
  have hts := atoms_spec (ws := wsX4_release) B.pre
  have hown : s.vm.findClass RX4 = some m.cls := findClass_of_methodNamed B.named
  have hlocks := B.notSynchronized
  subst hsz
  have hD := hD0.self (sz := s.heap.size)
  generalize hAe : va_A (cw g h u) s.heap.size = A at hD hZ ⊢
  have hA : ∀ q : Nat, s.heap.size ≤ q → A q := fun q h => by rw [← hAe]; exact Or.inr h
  have hS : va_S A s.heap s.heap [] := va_S.rf
  have hl := lv_entry ([.ref (h 0), .int x1, .int x2]) (n := 4) (Nat.le_of_ble_eq_true rfl)
  rw [lg_entry_eq]
  generalize (lg_sl ([.ref (h 0), .int x1, .int x2]) ++ List.replicate (4 - (lg_sl ([.ref (h 0), .int x1, .int x2])).length) Slot.unset).toArray = ls at hl ⊢
  have hl : lv_has ls 4 [(0, .ref (h 0)), (1, .int x1), (2, .int x2)] := hl
  obtain ⟨hI1, hI2, hI3, hI4, hI5, hI6⟩ := id hI
  have z_0 : (0 : Int32).toInt = 0 := by decide
  have z_1 : (7 : Int32).toInt = 7 := by decide
  refine lv_aload_n hx hb dX4_release_0 rfl (lv_at hl 0 rfl) ?_
  refine lv_iload_n hx hb dX4_release_1 rfl (lv_at hl 1 rfl) ?_
  refine vy_callv (vy_runV (As := [.int x1]) (rest := []) ⟨hx, hb, hml, hown, hts⟩ (kX4_requireLot l hl9 dC dI g h u _ x1) (cwV 1 hts (gV wd_114 wd_115 wd_116 wd_92 wcX4_requireLot) rfl rfl rfl (by decide +kernel) ⟨(Nat.le_of_ble_eq_true rfl), (Nat.le_of_ble_eq_true rfl)⟩) ⟨fun a U g mk q => by obtain ⟨q0, q1, qP, qK, qZ⟩ := q; exact ⟨q0, q1, qP, va_K.moved (u := U) (U := U.calling g mk a) (Vm.Alike.refl U.vm) qK, zz_same (u := U) (H := U.heap) rfl rfl qZ⟩, va_recv hK hP (ci := 3) (q0 := 0) rfl (cw_at0 _ _ _), fun U hU hW => ⟨rfl, hU, by rw [hU]; exact hP, va_K.moved hW.alike hK, by rw [hU]; exact zz_to hZ hS (fun q h => hA q (Nat.le_trans hS.1 h)) hW⟩⟩ rfl rfl hl.1 rfl (lv_room (Nat.le_of_ble_eq_true rfl)) dX4_release_2 ⟨(Nat.le_of_ble_eq_true rfl), (Nat.le_of_ble_eq_true rfl)⟩) hS (fun q h1 h2 => absurd h2 (Nat.not_le.mpr h1)) (fun q h => hA q (Nat.le_trans hS.1 h)) (fun q h1 h2 => absurd h2 (Nat.not_le.mpr h1)) (fun E ce q9 _ t H1 locs1 ht hvm hw hB hz1 hk1 hS hce hcv hcl => ?_) (fun _ t H1 locs1 ht hvm hw hB hz1 hk1 hS => ?_)
  · skip
    have c_1 : ¬ fX4_requireLot u x1 = 0 := by rw [hw]; decide
    subst hB
    have hP := hP.kept (fun k q hq => hk1 q.1 (hP k q hq).lt (Nat.not_le.mpr (hP k q hq).lt))
    exact vy_out (vx_out (fun x hx => (hxt x hx).elim) hlocks hce hcv hcl (fun t ht ha => ⟨u, trivial, ⟨⟨1, (by unfold fX4_release; rw [if_neg c_1]), rfl⟩, by rw [ht]; exact hP, hD⟩, hS.F ht⟩) hS.2.2 (Nat.le_of_ble_eq_true rfl) (Nat.le_of_ble_eq_true rfl))
  · skip
    have hH1 : H1 = _ := ht.symm.trans hB
    subst hH1
    have c_1 : fX4_requireLot u x1 = 0 := hw
    have t_2 := rl_lo c_1
    have t_3 := rl_hi c_1
    refine lv_iload_n hx hb dX4_release_5 rfl (lv_at hl 2 rfl) ?_
    refine lv_iconst (v := 0) hx hb dX4_release_6 (by decide) ?_
    refine lv_bipush (v := 7) hx hb dX4_release_7 (by decide) ?_
    refine vy_callv (vy_runS (As := [.int x2, .int 0, .int 7]) (rest := []) ⟨hx, hb, hml, hown, hts⟩ (kX4_requireRange l hl9 dC dI _ x2 0 7) (cwS 3 hts (gS wd_90 wd_91 wd_92 wcX4_requireRange) rfl rfl rfl (by decide +kernel) ⟨(Nat.le_of_ble_eq_true rfl), (Nat.le_of_ble_eq_true rfl)⟩) ⟨fun a U g mk q => by obtain ⟨q0, q1, qZ⟩ := q; exact ⟨q0, q1, zz_same (u := U) (H := U.heap) rfl rfl qZ⟩, fun U hU hW => ⟨rfl, hU, by rw [hU]; exact zz_to hZ hS (fun q h => hA q (Nat.le_trans hS.1 h)) hW⟩⟩ rfl rfl hl.1 rfl (lv_room (Nat.le_of_ble_eq_true rfl)) dX4_release_9 ⟨(Nat.le_of_ble_eq_true rfl), (Nat.le_of_ble_eq_true rfl)⟩) hS (fun q h1 h2 => absurd h2 (Nat.not_le.mpr h1)) (fun q h => hA q (Nat.le_trans hS.1 h)) (fun q h1 h2 => absurd h2 (Nat.not_le.mpr h1)) (fun E ce q9 _ t H1 locs1 ht hvm hw hB hz1 hk1 hS hce hcv hcl => ?_) (fun _ t H1 locs1 ht hvm hw hB hz1 hk1 hS => ?_)
    · skip
      have c_4 : ¬ fX4_requireRange x2 0 7 = 0 := by rw [hw]; decide
      subst hB
      have hP := hP.kept (fun k q hq => hk1 q.1 (hP k q hq).lt (Nat.not_le.mpr (hP k q hq).lt))
      exact vy_out (vx_out (fun x hx => (hxt x hx).elim) hlocks hce hcv hcl (fun t ht ha => ⟨u, trivial, ⟨⟨2, (by unfold fX4_release; rw [if_pos c_1, if_neg c_4]), rfl⟩, by rw [ht]; exact hP, hD⟩, hS.F ht⟩) hS.2.2 (Nat.le_of_ble_eq_true rfl) (Nat.le_of_ble_eq_true rfl))
    · skip
      have hH1 : H1 = _ := ht.symm.trans hB
      subst hH1
      have c_4 : fX4_requireRange x2 0 7 = 0 := hw
      have t_5 := rr_lo c_4
      have t_6 := rr_hi c_4
      refine lv_aload_n hx hb dX4_release_12 rfl (lv_at hl 0 rfl) ?_
      refine va_get (D := (dC, dI)) (C := RX4) (T := TX4) (N := 9) (v := .ref (h 1)) hx hb hts (fi_X4 _) hown hK hP 0 (cw_at0 _ _ _) rfl 0 (by decide) (hts _ (List.mem_cons_of_mem _ wd_11)) (fun _ h9 => h9) rfl dX4_release_13 ?_
      refine va_get (D := (dC, dI)) (C := RX1) (T := TX1) (N := 9) (v := .ref (h 13)) hx hb hts (fi_X1 _) hown hK hP 1 (cw_at1 _ _ _) rfl 5 (by decide) (hts _ (List.mem_cons_of_mem _ wd_122)) (fun _ h9 => h9) rfl dX4_release_16 ?_
      refine lv_iload_n hx hb dX4_release_19 rfl (lv_at hl 1 rfl) ?_
      refine va_iald (f := k_reas u) hx hb hK hP 13 0 (cw_at13 _ _ _) rfl (vp_in_iff.mpr (by omega)) dX4_release_20 ?_
      refine lv_aload_n hx hb dX4_release_21 rfl (lv_at hl 0 rfl) ?_
      refine va_get (D := (dC, dI)) (C := RX4) (T := TX4) (N := 9) (v := .ref (h 7)) hx hb hts (fi_X4 _) hown hK hP 0 (cw_at0 _ _ _) rfl 6 (by decide) (hts _ (List.mem_cons_of_mem _ wd_113)) (fun _ h9 => h9) rfl dX4_release_22 ?_
      refine lv_iload_n hx hb dX4_release_25 rfl (lv_at hl 2 rfl) ?_
      refine va_iald (f := k_may u) hx hb hK hP 7 0 (cw_at7 _ _ _) rfl (vp_in_iff.mpr (by omega)) dX4_release_26 ?_
      refine lv_iand hx hb dX4_release_27 ?_
      refine lv_istore_n (lv' := [(3, .int ((k_reas u x1.toNatClampNeg) &&& (k_may u x2.toNatClampNeg))), (0, .ref (h 0)), (1, .int x1), (2, .int x2)]) hx hb dX4_release_28 rfl hl (by decide) rfl (fun ls hl => ?_)
      refine lv_aload_n hx hb dX4_release_29 rfl (lv_at hl 1 rfl) ?_
      refine va_get (D := (dC, dI)) (C := RX4) (T := TX4) (N := 9) (v := .ref (h 1)) hx hb hts (fi_X4 _) hown hK hP 0 (cw_at0 _ _ _) rfl 0 (by decide) (hts _ (List.mem_cons_of_mem _ wd_11)) (fun _ h9 => h9) rfl dX4_release_30 ?_
      refine va_get (D := (dC, dI)) (C := RX1) (T := TX1) (N := 9) (v := .ref (h 12)) hx hb hts (fi_X1 _) hown hK hP 1 (cw_at1 _ _ _) rfl 4 (by decide) (hts _ (List.mem_cons_of_mem _ wd_118)) (fun _ h9 => h9) rfl dX4_release_33 ?_
      refine lv_iload_n hx hb dX4_release_36 rfl (lv_at hl 2 rfl) ?_
      refine va_zald (f := k_open u) hx hb hK hP 12 1 (cw_at12 _ _ _) rfl (vp_in_iff.mpr (by omega)) dX4_release_37 ?_
      refine lv_if_eq (tgt := 49) hx hb dX4_release_38 (by decide) (fun c_7 => ?_) (fun c_7 => ?_)
      · skip
        have t_8 : (k_open u x1.toNatClampNeg).toInt = 0 := i_eq c_7 rfl (by decide)
        refine lv_iconst (v := 0) hx hb dX4_release_49 (by decide) ?_
        refine vy_callv (vy_runS (As := [.int 0]) (rest := []) ⟨hx, hb, hml, hown, hts⟩ (kX4_requireState l hl9 dC dI _ 0) (cwS 1 hts (gS wd_119 wd_120 wd_92 wcX4_requireState) rfl rfl rfl (by decide +kernel) ⟨(Nat.le_of_ble_eq_true rfl), (Nat.le_of_ble_eq_true rfl)⟩) ⟨fun a U g mk q => by obtain ⟨q0, q1, qZ⟩ := q; exact ⟨q0, q1, zz_same (u := U) (H := U.heap) rfl rfl qZ⟩, fun U hU hW => ⟨rfl, hU, by rw [hU]; exact zz_to hZ hS (fun q h => hA q (Nat.le_trans hS.1 h)) hW⟩⟩ rfl rfl hl.1 rfl (lv_room (Nat.le_of_ble_eq_true rfl)) dX4_release_50 ⟨(Nat.le_of_ble_eq_true rfl), (Nat.le_of_ble_eq_true rfl)⟩) hS (fun q h1 h2 => absurd h2 (Nat.not_le.mpr h1)) (fun q h => hA q (Nat.le_trans hS.1 h)) (fun q h1 h2 => absurd h2 (Nat.not_le.mpr h1)) (fun E ce q9 _ t H1 locs1 ht hvm hw hB hz1 hk1 hS hce hcv hcl => ?_) (fun _ t H1 locs1 ht hvm hw hB hz1 hk1 hS => ?_)
        · skip
          subst hB
          have hP := hP.kept (fun k q hq => hk1 q.1 (hP k q hq).lt (Nat.not_le.mpr (hP k q hq).lt))
          exact vy_out (vx_out (fun x hx => (hxt x hx).elim) hlocks hce hcv hcl (fun t ht ha => ⟨u, trivial, ⟨⟨3, (by unfold fX4_release; rw [if_pos c_1, if_pos c_4, if_pos c_7]), rfl⟩, by rw [ht]; exact hP, hD⟩, hS.F ht⟩) hS.2.2 (Nat.le_of_ble_eq_true rfl) (Nat.le_of_ble_eq_true rfl))
        · skip
          exact absurd hw (by decide)
      · skip
        have t_10 : (k_open u x1.toNatClampNeg).toInt ≠ 0 := i_ne c_7 rfl (by decide)
        refine lv_iload_n hx hb dX4_release_41 rfl (lv_at hl 0 rfl) ?_
        refine lv_if_eq (tgt := 49) hx hb dX4_release_42 (by decide) (fun c_11 => ?_) (fun c_11 => ?_)
        · skip
          have t_12 : ((k_reas u x1.toNatClampNeg) &&& (k_may u x2.toNatClampNeg)).toInt = 0 := i_eq c_11 rfl (by decide)
          refine lv_iconst (v := 0) hx hb dX4_release_49 (by decide) ?_
          refine vy_callv (vy_runS (As := [.int 0]) (rest := []) ⟨hx, hb, hml, hown, hts⟩ (kX4_requireState l hl9 dC dI _ 0) (cwS 1 hts (gS wd_119 wd_120 wd_92 wcX4_requireState) rfl rfl rfl (by decide +kernel) ⟨(Nat.le_of_ble_eq_true rfl), (Nat.le_of_ble_eq_true rfl)⟩) ⟨fun a U g mk q => by obtain ⟨q0, q1, qZ⟩ := q; exact ⟨q0, q1, zz_same (u := U) (H := U.heap) rfl rfl qZ⟩, fun U hU hW => ⟨rfl, hU, by rw [hU]; exact zz_to hZ hS (fun q h => hA q (Nat.le_trans hS.1 h)) hW⟩⟩ rfl rfl hl.1 rfl (lv_room (Nat.le_of_ble_eq_true rfl)) dX4_release_50 ⟨(Nat.le_of_ble_eq_true rfl), (Nat.le_of_ble_eq_true rfl)⟩) hS (fun q h1 h2 => absurd h2 (Nat.not_le.mpr h1)) (fun q h => hA q (Nat.le_trans hS.1 h)) (fun q h1 h2 => absurd h2 (Nat.not_le.mpr h1)) (fun E ce q9 _ t H1 locs1 ht hvm hw hB hz1 hk1 hS hce hcv hcl => ?_) (fun _ t H1 locs1 ht hvm hw hB hz1 hk1 hS => ?_)
          · skip
            subst hB
            have hP := hP.kept (fun k q hq => hk1 q.1 (hP k q hq).lt (Nat.not_le.mpr (hP k q hq).lt))
            exact vy_out (vx_out (fun x hx => (hxt x hx).elim) hlocks hce hcv hcl (fun t ht ha => ⟨u, trivial, ⟨⟨3, (by unfold fX4_release; rw [if_pos c_1, if_pos c_4, if_neg c_7, if_pos c_11]), rfl⟩, by rw [ht]; exact hP, hD⟩, hS.F ht⟩) hS.2.2 (Nat.le_of_ble_eq_true rfl) (Nat.le_of_ble_eq_true rfl))
          · skip
            exact absurd hw (by decide)
        · skip
          have t_14 : ((k_reas u x1.toNatClampNeg) &&& (k_may u x2.toNatClampNeg)).toInt ≠ 0 := i_ne c_11 rfl (by decide)
          refine lv_iconst (v := 1) hx hb dX4_release_45 (by decide) ?_
          refine lv_goto (tgt := 50) hx hb dX4_release_46 (by decide) ?_
          refine vy_callv (vy_runS (As := [.int 1]) (rest := []) ⟨hx, hb, hml, hown, hts⟩ (kX4_requireState l hl9 dC dI _ 1) (cwS 1 hts (gS wd_119 wd_120 wd_92 wcX4_requireState) rfl rfl rfl (by decide +kernel) ⟨(Nat.le_of_ble_eq_true rfl), (Nat.le_of_ble_eq_true rfl)⟩) ⟨fun a U g mk q => by obtain ⟨q0, q1, qZ⟩ := q; exact ⟨q0, q1, zz_same (u := U) (H := U.heap) rfl rfl qZ⟩, fun U hU hW => ⟨rfl, hU, by rw [hU]; exact zz_to hZ hS (fun q h => hA q (Nat.le_trans hS.1 h)) hW⟩⟩ rfl rfl hl.1 rfl (lv_room (Nat.le_of_ble_eq_true rfl)) dX4_release_50 ⟨(Nat.le_of_ble_eq_true rfl), (Nat.le_of_ble_eq_true rfl)⟩) hS (fun q h1 h2 => absurd h2 (Nat.not_le.mpr h1)) (fun q h => hA q (Nat.le_trans hS.1 h)) (fun q h1 h2 => absurd h2 (Nat.not_le.mpr h1)) (fun E ce q9 _ t H1 locs1 ht hvm hw hB hz1 hk1 hS hce hcv hcl => ?_) (fun _ t H1 locs1 ht hvm hw hB hz1 hk1 hS => ?_)
          · skip
            exact absurd hw (by decide)
          · skip
            have hH1 : H1 = _ := ht.symm.trans hB
            subst hH1
            refine lv_aload_n hx hb dX4_release_53 rfl (lv_at hl 1 rfl) ?_
            refine va_get (D := (dC, dI)) (C := RX4) (T := TX4) (N := 9) (v := .ref (h 3)) hx hb hts (fi_X4 _) hown hK hP 0 (cw_at0 _ _ _) rfl 2 (by decide) (hts _ (List.mem_cons_of_mem _ wd_87)) (fun _ h9 => h9) rfl dX4_release_54 ?_
            refine lv_iconst (v := 1) hx hb dX4_release_57 (by decide) ?_
            refine vp_callSi (W.runV (As := [.int 1]) (rest := []) ⟨hx, hb, hml, hown, hts⟩ (kX2_haveRoomFor l dC dI g h u 1) (cwV 1 hts (gV wd_102 wd_103 wd_104 wd_105 wcX2_haveRoomFor) rfl rfl rfl (by decide +kernel) ⟨(Nat.le_of_ble_eq_true rfl), (Nat.le_of_ble_eq_true rfl)⟩) ⟨fun a U g mk q => by obtain ⟨q0, qP, qK⟩ := q; exact ⟨q0, qP, va_K.moved (u := U) (U := U.calling g mk a) (Vm.Alike.refl U.vm) qK⟩, va_recv hK hP (ci := 1) (q0 := 3) rfl (cw_at3 _ _ _), fun U hU hW => ⟨rfl, by rw [hU]; exact hP, va_K.moved hW.alike hK⟩⟩ rfl rfl hl.1 rfl (lv_room (Nat.le_of_ble_eq_true rfl)) dX4_release_58 ⟨(Nat.le_of_ble_eq_true rfl), (Nat.le_of_ble_eq_true rfl)⟩) (fun r_16 hw => ?_)
            subst hw
            refine vy_callv (vy_runS (As := [.int (fX2_haveRoomFor u 1)]) (rest := []) ⟨hx, hb, hml, hown, hts⟩ (kX4_requireRoom l hl9 dC dI _ (fX2_haveRoomFor u 1)) (cwS 1 hts (gS wd_99 wd_100 wd_92 wcX4_requireRoom) rfl rfl rfl (by decide +kernel) ⟨(Nat.le_of_ble_eq_true rfl), (Nat.le_of_ble_eq_true rfl)⟩) ⟨fun a U g mk q => by obtain ⟨q0, q1, qZ⟩ := q; exact ⟨q0, q1, zz_same (u := U) (H := U.heap) rfl rfl qZ⟩, fun U hU hW => ⟨rfl, hU, by rw [hU]; exact zz_to hZ hS (fun q h => hA q (Nat.le_trans hS.1 h)) hW⟩⟩ rfl rfl hl.1 rfl (lv_room (Nat.le_of_ble_eq_true rfl)) dX4_release_61 ⟨(Nat.le_of_ble_eq_true rfl), (Nat.le_of_ble_eq_true rfl)⟩) hS (fun q h1 h2 => absurd h2 (Nat.not_le.mpr h1)) (fun q h => hA q (Nat.le_trans hS.1 h)) (fun q h1 h2 => absurd h2 (Nat.not_le.mpr h1)) (fun E ce q9 _ t H1 locs1 ht hvm hw hB hz1 hk1 hS hce hcv hcl => ?_) (fun _ t H1 locs1 ht hvm hw hB hz1 hk1 hS => ?_)
            · skip
              have c_17 : ¬ fX4_requireRoom (fX2_haveRoomFor u 1) = 0 := by rw [hw]; decide
              subst hB
              have hP := hP.kept (fun k q hq => hk1 q.1 (hP k q hq).lt (Nat.not_le.mpr (hP k q hq).lt))
              exact vy_out (vx_out (fun x hx => (hxt x hx).elim) hlocks hce hcv hcl (fun t ht ha => ⟨u, trivial, ⟨⟨4, (by unfold fX4_release; rw [if_pos c_1, if_pos c_4, if_neg c_7, if_neg c_11, if_neg c_17]), rfl⟩, by rw [ht]; exact hP, hD⟩, hS.F ht⟩) hS.2.2 (Nat.le_of_ble_eq_true rfl) (Nat.le_of_ble_eq_true rfl))
            · skip
              have hH1 : H1 = _ := ht.symm.trans hB
              subst hH1
              have c_17 : fX4_requireRoom (fX2_haveRoomFor u 1) = 0 := hw
              have t_18 := hr_roomq1 c_17 hI3
              refine lv_aload_n hx hb dX4_release_64 rfl (lv_at hl 1 rfl) ?_
              refine va_get (D := (dC, dI)) (C := RX4) (T := TX4) (N := 9) (v := .ref (h 1)) hx hb hts (fi_X4 _) hown hK hP 0 (cw_at0 _ _ _) rfl 0 (by decide) (hts _ (List.mem_cons_of_mem _ wd_11)) (fun _ h9 => h9) rfl dX4_release_65 ?_
              refine va_get (D := (dC, dI)) (C := RX1) (T := TX1) (N := 9) (v := .ref (h 13)) hx hb hts (fi_X1 _) hown hK hP 1 (cw_at1 _ _ _) rfl 5 (by decide) (hts _ (List.mem_cons_of_mem _ wd_122)) (fun _ h9 => h9) rfl dX4_release_68 ?_
              refine lv_iload_n hx hb dX4_release_71 rfl (lv_at hl 2 rfl) ?_
              refine lv_dup2_11 hx hb dX4_release_72 rfl rfl ?_
              refine va_iald (f := k_reas u) hx hb hK hP 13 0 (cw_at13 _ _ _) rfl (vp_in_iff.mpr (by omega)) dX4_release_73 ?_
              refine lv_iload_n hx hb dX4_release_74 rfl (lv_at hl 0 rfl) ?_
              refine lv_iconst (v := (-1)) hx hb dX4_release_75 (by decide) ?_
              refine lv_ixor hx hb dX4_release_76 ?_
              refine lv_iand hx hb dX4_release_77 ?_
              refine va_iast (f := k_reas u) hx hb hK hP hD hS 13 0 (cw_at13 _ _ _) rfl (vp_in_iff.mpr (by omega)) dX4_release_78 (fun H locs hP hD hS => ?_)
              have hP : va_P (dC, dI) vwCl (cw g h (s_reas u (upd (k_reas u) x1.toNatClampNeg ((k_reas u x1.toNatClampNeg) &&& (((k_reas u x1.toNatClampNeg) &&& (k_may u x2.toNatClampNeg)) ^^^ (-1)))))) H := hP
              have hD : va_D A (cw g h (s_reas u (upd (k_reas u) x1.toNatClampNeg ((k_reas u x1.toNatClampNeg) &&& (((k_reas u x1.toNatClampNeg) &&& (k_may u x2.toNatClampNeg)) ^^^ (-1)))))) := hD
              refine lv_aload_n hx hb dX4_release_79 rfl (lv_at hl 1 rfl) ?_
              refine va_get (D := (dC, dI)) (C := RX4) (T := TX4) (N := 9) (v := .ref (h 3)) hx hb hts (fi_X4 _) hown hK hP 0 (cw_at0 _ _ _) rfl 2 (by decide) (hts _ (List.mem_cons_of_mem _ wd_87)) (fun _ h9 => h9) rfl dX4_release_80 ?_
              refine lv_iload_n hx hb dX4_release_83 rfl (lv_at hl 2 rfl) ?_
              refine lv_bipush (v := 7) hx hb dX4_release_84 (by decide) ?_
              refine lv_iload_n hx hb dX4_release_86 rfl (lv_at hl 3 rfl) ?_
              have hFc := va_free (wc := cw g h (s_reas u (upd (k_reas u) x1.toNatClampNeg ((k_reas u x1.toNatClampNeg) &&& (((k_reas u x1.toNatClampNeg) &&& (k_may u x2.toNatClampNeg)) ^^^ (-1)))))) hD hS hA [0, 1, 2, 3, 4, 5, 6, 7, 8, 9, 10, 11, 12, 13, 14, 15, 16, 17, 18, 19, 20, 21, 22, 23] rfl
              refine va_callv (va_runV (As := [.int x1, .int 7, .int x2]) (rest := []) ⟨hx, hb, hml, hown, hts⟩ (kX2_write l dC dI g h (s_reas u (upd (k_reas u) x1.toNatClampNeg ((k_reas u x1.toNatClampNeg) &&& (((k_reas u x1.toNatClampNeg) &&& (k_may u x2.toNatClampNeg)) ^^^ (-1))))) _ x1 7 x2 (by show 0 ≤ (k_rwrit u).toInt ∧ (k_rwrit u).toInt < 400; omega)) (cwV 3 hts (gV wd_108 wd_109 wd_110 wd_105 wcX2_write) rfl rfl rfl (by decide +kernel) ⟨(Nat.le_of_ble_eq_true rfl), (Nat.le_of_ble_eq_true rfl)⟩) ⟨fun a U g mk q => by obtain ⟨q0, q1, qP, qK, qD⟩ := q; exact ⟨q0, q1, qP, va_K.moved (u := U) (U := U.calling g mk a) (Vm.Alike.refl U.vm) qK, qD⟩, va_recv hK hP (ci := 1) (q0 := 3) rfl (cw_at3 _ _ _), fun U hU hW => ⟨rfl, by rw [hU], by rw [hU]; exact hP, va_K.moved hW.alike hK, hD.weaken (fun _ _ _ _ => trivial)⟩⟩ rfl rfl hl.1 rfl (lv_room (Nat.le_of_ble_eq_true rfl)) dX4_release_87 ⟨(Nat.le_of_ble_eq_true rfl), (Nat.le_of_ble_eq_true rfl)⟩) hS (fun q _ h => hFc q h) hFc (fun u_19 t H locs ht hvm hw hB hz1 hk1 hS => ?_)
              obtain ⟨hP, hD⟩ := hB
              rw [ht] at hP
              have hD := hD.weaken (fun _ _ _ h => hFc _ h)
              have e_21 : u_19 = fX2_write (s_reas u (upd (k_reas u) x1.toNatClampNeg ((k_reas u x1.toNatClampNeg) &&& (((k_reas u x1.toNatClampNeg) &&& (k_may u x2.toNatClampNeg)) ^^^ (-1))))) x1 7 x2 := hw
              clear hw
              refine lv_iload_n hx hb dX4_release_90 rfl (lv_at hl 0 rfl) ?_
              refine vp_callSi (W.runS (As := [.int ((k_reas u x1.toNatClampNeg) &&& (k_may u x2.toNatClampNeg))]) (rest := []) ⟨hx, hb, hml, hown, hts⟩ (kJ6_bitCount l dC dI ((k_reas u x1.toNatClampNeg) &&& (k_may u x2.toNatClampNeg))) (va_cwS 1 hts (gT wd_123 wd_124 wd_125 wcJ6_bitCount) rfl rfl rfl (by decide +kernel) ⟨(Nat.le_of_ble_eq_true rfl), (Nat.le_of_ble_eq_true rfl)⟩) ⟨fun a U g mk q => by obtain ⟨q0, qT⟩ := q; exact ⟨q0, qT⟩, fun U hU hW => ⟨rfl, trivial⟩⟩ rfl rfl hl.1 rfl (lv_room (Nat.le_of_ble_eq_true rfl)) dX4_release_91 ⟨(Nat.le_of_ble_eq_true rfl), (Nat.le_of_ble_eq_true rfl)⟩) (fun r_22 hw => ?_)
              subst hw
              exact vy_ret (W.iret (v := fJ6_bitCount ((k_reas u x1.toNatClampNeg) &&& (k_may u x2.toNatClampNeg))) hx hb hr (fun t ht hW => ⟨⟨(fJ6_bitCount ((k_reas u x1.toNatClampNeg) &&& (k_may u x2.toNatClampNeg))), u_19, rfl, (by subst e_21; unfold fX4_release; rw [if_pos c_1, if_pos c_4, if_neg c_7, if_neg c_11, if_pos c_17]), by rw [ht]; exact hP, hD⟩, hS.F ht⟩) hS.2.2 dX4_release_94)
end
section
set_option maxHeartbeats 4000000 in
set_option maxRecDepth 100000 in
theorem kX4_quarantine (l : Launch) (hl9 : l.stackTraces = false) (dC : Nat → ClassId) (dI : Nat → Nat → Nat) (g : cG) (h : Nat → Nat) (u : cS) (sz : Nat) (x1 : Int32) (x2 : Int32) (hI : cInv u) : vy_Met l yX4_quarantine wsX4_quarantine ({ frames := 7, cells := 8, slots := 48, locals := 103 }) (va_Pc [.ref (h 0), .int x1, .int x2] (fun U => U.heap.size = sz ∧ va_P (dC, dI) vwCl (cw g h u) U.heap ∧ va_K (dC, dI) vwCl (cTys g) U ∧ va_D (fun _ => True) (cw g h u) ∧ zz (va_A (cw g h u) sz) U U.heap)) (va_Qv (fun u2 => fX4_quarantine u x1 x2 = (0, 0, u2)) (fun (u2 : cS) (t : State) => va_P (dC, dI) vwCl (cw g h u2) t.heap ∧ va_D (va_A (cw g h u) sz) (cw g h u2)) (va_A (cw g h u) sz)) (vx_X (fun _ => True) (fun E (u2 : cS) t => (∃ k : Nat, fX4_quarantine u x1 x2 = (k, 0, u2) ∧ ex_is k E) ∧ va_P (dC, dI) vwCl (cw g h u2) t.heap ∧ va_D (va_A (cw g h u) sz) (cw g h u2)) (va_A (cw g h u) sz)) 0 0 8 48 (va_A (cw g h u) sz) := by
  refine vy_ofW (cc := cX4_quarantine) (maxL := 3) (ret := none) (by decide) rfl ?_
  intro p e s m args below meth c s₁ B hml hxt hv
  obtain ⟨rfl, hsz, hP, hK, hD0, hZ⟩ := hv
  have hx := B.exec
  have hb := B.bytes
  have hr := B.returns
  have hts := atoms_spec (ws := wsX4_quarantine) B.pre
  have hown : s.vm.findClass RX4 = some m.cls := findClass_of_methodNamed B.named
  have hlocks := B.notSynchronized
  subst hsz
  have hD := hD0.self (sz := s.heap.size)
  generalize hAe : va_A (cw g h u) s.heap.size = A at hD hZ ⊢
  have hA : ∀ q : Nat, s.heap.size ≤ q → A q := fun q h => by rw [← hAe]; exact Or.inr h
  have hS : va_S A s.heap s.heap [] := va_S.rf
  have hl := lv_entry ([.ref (h 0), .int x1, .int x2]) (n := 3) (Nat.le_of_ble_eq_true rfl)
  rw [lg_entry_eq]
  generalize (lg_sl ([.ref (h 0), .int x1, .int x2]) ++ List.replicate (3 - (lg_sl ([.ref (h 0), .int x1, .int x2])).length) Slot.unset).toArray = ls at hl ⊢
  have hl : lv_has ls 3 [(0, .ref (h 0)), (1, .int x1), (2, .int x2)] := hl
  obtain ⟨hI1, hI2, hI3, hI4, hI5, hI6⟩ := id hI
  refine lv_aload_n hx hb dX4_quarantine_0 rfl (lv_at hl 0 rfl) ?_
  refine lv_iload_n hx hb dX4_quarantine_1 rfl (lv_at hl 1 rfl) ?_
  refine vy_callv (vy_runV (As := [.int x1]) (rest := []) ⟨hx, hb, hml, hown, hts⟩ (kX4_requireLot l hl9 dC dI g h u _ x1) (cwV 1 hts (gV wd_114 wd_115 wd_116 wd_92 wcX4_requireLot) rfl rfl rfl (by decide +kernel) ⟨(Nat.le_of_ble_eq_true rfl), (Nat.le_of_ble_eq_true rfl)⟩) ⟨fun a U g mk q => by obtain ⟨q0, q1, qP, qK, qZ⟩ := q; exact ⟨q0, q1, qP, va_K.moved (u := U) (U := U.calling g mk a) (Vm.Alike.refl U.vm) qK, zz_same (u := U) (H := U.heap) rfl rfl qZ⟩, va_recv hK hP (ci := 3) (q0 := 0) rfl (cw_at0 _ _ _), fun U hU hW => ⟨rfl, hU, by rw [hU]; exact hP, va_K.moved hW.alike hK, by rw [hU]; exact zz_to hZ hS (fun q h => hA q (Nat.le_trans hS.1 h)) hW⟩⟩ rfl rfl hl.1 rfl (lv_room (Nat.le_of_ble_eq_true rfl)) dX4_quarantine_2 ⟨(Nat.le_of_ble_eq_true rfl), (Nat.le_of_ble_eq_true rfl)⟩) hS (fun q h1 h2 => absurd h2 (Nat.not_le.mpr h1)) (fun q h => hA q (Nat.le_trans hS.1 h)) (fun q h1 h2 => absurd h2 (Nat.not_le.mpr h1)) (fun E ce q9 _ t H1 locs1 ht hvm hw hB hz1 hk1 hS hce hcv hcl => ?_) (fun _ t H1 locs1 ht hvm hw hB hz1 hk1 hS => ?_)
  · skip
    have c_1 : ¬ fX4_requireLot u x1 = 0 := by rw [hw]; decide
    subst hB
    have hP := hP.kept (fun k q hq => hk1 q.1 (hP k q hq).lt (Nat.not_le.mpr (hP k q hq).lt))
    exact vy_out (vx_out (fun x hx => (hxt x hx).elim) hlocks hce hcv hcl (fun t ht ha => ⟨u, trivial, ⟨⟨1, (by unfold fX4_quarantine; rw [if_neg c_1]), rfl⟩, by rw [ht]; exact hP, hD⟩, hS.F ht⟩) hS.2.2 (Nat.le_of_ble_eq_true rfl) (Nat.le_of_ble_eq_true rfl))
  · skip
    have hH1 : H1 = _ := ht.symm.trans hB
    subst hH1
    have c_1 : fX4_requireLot u x1 = 0 := hw
    have t_2 := rl_lo c_1
    have t_3 := rl_hi c_1
    refine lv_aload_n hx hb dX4_quarantine_5 rfl (lv_at hl 0 rfl) ?_
    refine va_get (D := (dC, dI)) (C := RX4) (T := TX4) (N := 9) (v := .ref (h 1)) hx hb hts (fi_X4 _) hown hK hP 0 (cw_at0 _ _ _) rfl 0 (by decide) (hts _ (List.mem_cons_of_mem _ wd_11)) (fun _ h9 => h9) rfl dX4_quarantine_6 ?_
    refine va_get (D := (dC, dI)) (C := RX1) (T := TX1) (N := 9) (v := .ref (h 12)) hx hb hts (fi_X1 _) hown hK hP 1 (cw_at1 _ _ _) rfl 4 (by decide) (hts _ (List.mem_cons_of_mem _ wd_118)) (fun _ h9 => h9) rfl dX4_quarantine_9 ?_
    refine lv_iload_n hx hb dX4_quarantine_12 rfl (lv_at hl 1 rfl) ?_
    refine va_zald (f := k_open u) hx hb hK hP 12 1 (cw_at12 _ _ _) rfl (vp_in_iff.mpr (by omega)) dX4_quarantine_13 ?_
    refine lv_if_eq (tgt := 34) hx hb dX4_quarantine_14 (by decide) (fun c_4 => ?_) (fun c_4 => ?_)
    · skip
      have t_5 : (k_open u x1.toNatClampNeg).toInt = 0 := i_eq c_4 rfl (by decide)
      refine lv_iconst (v := 0) hx hb dX4_quarantine_34 (by decide) ?_
      refine vy_callv (vy_runS (As := [.int 0]) (rest := []) ⟨hx, hb, hml, hown, hts⟩ (kX4_requireState l hl9 dC dI _ 0) (cwS 1 hts (gS wd_119 wd_120 wd_92 wcX4_requireState) rfl rfl rfl (by decide +kernel) ⟨(Nat.le_of_ble_eq_true rfl), (Nat.le_of_ble_eq_true rfl)⟩) ⟨fun a U g mk q => by obtain ⟨q0, q1, qZ⟩ := q; exact ⟨q0, q1, zz_same (u := U) (H := U.heap) rfl rfl qZ⟩, fun U hU hW => ⟨rfl, hU, by rw [hU]; exact zz_to hZ hS (fun q h => hA q (Nat.le_trans hS.1 h)) hW⟩⟩ rfl rfl hl.1 rfl (lv_room (Nat.le_of_ble_eq_true rfl)) dX4_quarantine_35 ⟨(Nat.le_of_ble_eq_true rfl), (Nat.le_of_ble_eq_true rfl)⟩) hS (fun q h1 h2 => absurd h2 (Nat.not_le.mpr h1)) (fun q h => hA q (Nat.le_trans hS.1 h)) (fun q h1 h2 => absurd h2 (Nat.not_le.mpr h1)) (fun E ce q9 _ t H1 locs1 ht hvm hw hB hz1 hk1 hS hce hcv hcl => ?_) (fun _ t H1 locs1 ht hvm hw hB hz1 hk1 hS => ?_)
      · skip
        subst hB
        have hP := hP.kept (fun k q hq => hk1 q.1 (hP k q hq).lt (Nat.not_le.mpr (hP k q hq).lt))
        exact vy_out (vx_out (fun x hx => (hxt x hx).elim) hlocks hce hcv hcl (fun t ht ha => ⟨u, trivial, ⟨⟨3, (by unfold fX4_quarantine; rw [if_pos c_1, if_pos c_4]), rfl⟩, by rw [ht]; exact hP, hD⟩, hS.F ht⟩) hS.2.2 (Nat.le_of_ble_eq_true rfl) (Nat.le_of_ble_eq_true rfl))
      · skip
        exact absurd hw (by decide)
    · skip
      have t_7 : (k_open u x1.toNatClampNeg).toInt ≠ 0 := i_ne c_4 rfl (by decide)
      refine lv_aload_n hx hb dX4_quarantine_17 rfl (lv_at hl 0 rfl) ?_
      refine va_get (D := (dC, dI)) (C := RX4) (T := TX4) (N := 9) (v := .ref (h 1)) hx hb hts (fi_X4 _) hown hK hP 0 (cw_at0 _ _ _) rfl 0 (by decide) (hts _ (List.mem_cons_of_mem _ wd_11)) (fun _ h9 => h9) rfl dX4_quarantine_18 ?_
      refine va_get (D := (dC, dI)) (C := RX1) (T := TX1) (N := 9) (v := .ref (h 14)) hx hb hts (fi_X1 _) hown hK hP 1 (cw_at1 _ _ _) rfl 6 (by decide) (hts _ (List.mem_cons_of_mem _ wd_127)) (fun _ h9 => h9) rfl dX4_quarantine_21 ?_
      refine lv_iload_n hx hb dX4_quarantine_24 rfl (lv_at hl 1 rfl) ?_
      refine va_zald (f := k_quar u) hx hb hK hP 14 1 (cw_at14 _ _ _) rfl (vp_in_iff.mpr (by omega)) dX4_quarantine_25 ?_
      refine lv_iload_n hx hb dX4_quarantine_26 rfl (lv_at hl 2 rfl) ?_
      refine lv_icmp_eq (tgt := 34) hx hb dX4_quarantine_27 (by decide) (fun c_8 => ?_) (fun c_8 => ?_)
      · skip
        have t_9 : (k_quar u x1.toNatClampNeg).toInt = x2.toInt := i_eq c_8 rfl rfl
        refine lv_iconst (v := 0) hx hb dX4_quarantine_34 (by decide) ?_
        refine vy_callv (vy_runS (As := [.int 0]) (rest := []) ⟨hx, hb, hml, hown, hts⟩ (kX4_requireState l hl9 dC dI _ 0) (cwS 1 hts (gS wd_119 wd_120 wd_92 wcX4_requireState) rfl rfl rfl (by decide +kernel) ⟨(Nat.le_of_ble_eq_true rfl), (Nat.le_of_ble_eq_true rfl)⟩) ⟨fun a U g mk q => by obtain ⟨q0, q1, qZ⟩ := q; exact ⟨q0, q1, zz_same (u := U) (H := U.heap) rfl rfl qZ⟩, fun U hU hW => ⟨rfl, hU, by rw [hU]; exact zz_to hZ hS (fun q h => hA q (Nat.le_trans hS.1 h)) hW⟩⟩ rfl rfl hl.1 rfl (lv_room (Nat.le_of_ble_eq_true rfl)) dX4_quarantine_35 ⟨(Nat.le_of_ble_eq_true rfl), (Nat.le_of_ble_eq_true rfl)⟩) hS (fun q h1 h2 => absurd h2 (Nat.not_le.mpr h1)) (fun q h => hA q (Nat.le_trans hS.1 h)) (fun q h1 h2 => absurd h2 (Nat.not_le.mpr h1)) (fun E ce q9 _ t H1 locs1 ht hvm hw hB hz1 hk1 hS hce hcv hcl => ?_) (fun _ t H1 locs1 ht hvm hw hB hz1 hk1 hS => ?_)
        · skip
          subst hB
          have hP := hP.kept (fun k q hq => hk1 q.1 (hP k q hq).lt (Nat.not_le.mpr (hP k q hq).lt))
          exact vy_out (vx_out (fun x hx => (hxt x hx).elim) hlocks hce hcv hcl (fun t ht ha => ⟨u, trivial, ⟨⟨3, (by unfold fX4_quarantine; rw [if_pos c_1, if_neg c_4, if_pos c_8]), rfl⟩, by rw [ht]; exact hP, hD⟩, hS.F ht⟩) hS.2.2 (Nat.le_of_ble_eq_true rfl) (Nat.le_of_ble_eq_true rfl))
        · skip
          exact absurd hw (by decide)
      · skip
        have t_11 : (k_quar u x1.toNatClampNeg).toInt ≠ x2.toInt := i_ne c_8 rfl rfl
        refine lv_iconst (v := 1) hx hb dX4_quarantine_30 (by decide) ?_
        refine lv_goto (tgt := 35) hx hb dX4_quarantine_31 (by decide) ?_
        refine vy_callv (vy_runS (As := [.int 1]) (rest := []) ⟨hx, hb, hml, hown, hts⟩ (kX4_requireState l hl9 dC dI _ 1) (cwS 1 hts (gS wd_119 wd_120 wd_92 wcX4_requireState) rfl rfl rfl (by decide +kernel) ⟨(Nat.le_of_ble_eq_true rfl), (Nat.le_of_ble_eq_true rfl)⟩) ⟨fun a U g mk q => by obtain ⟨q0, q1, qZ⟩ := q; exact ⟨q0, q1, zz_same (u := U) (H := U.heap) rfl rfl qZ⟩, fun U hU hW => ⟨rfl, hU, by rw [hU]; exact zz_to hZ hS (fun q h => hA q (Nat.le_trans hS.1 h)) hW⟩⟩ rfl rfl hl.1 rfl (lv_room (Nat.le_of_ble_eq_true rfl)) dX4_quarantine_35 ⟨(Nat.le_of_ble_eq_true rfl), (Nat.le_of_ble_eq_true rfl)⟩) hS (fun q h1 h2 => absurd h2 (Nat.not_le.mpr h1)) (fun q h => hA q (Nat.le_trans hS.1 h)) (fun q h1 h2 => absurd h2 (Nat.not_le.mpr h1)) (fun E ce q9 _ t H1 locs1 ht hvm hw hB hz1 hk1 hS hce hcv hcl => ?_) (fun _ t H1 locs1 ht hvm hw hB hz1 hk1 hS => ?_)
        · skip
          exact absurd hw (by decide)
        · skip
          have hH1 : H1 = _ := ht.symm.trans hB
          subst hH1
          refine lv_aload_n hx hb dX4_quarantine_38 rfl (lv_at hl 0 rfl) ?_
          refine va_get (D := (dC, dI)) (C := RX4) (T := TX4) (N := 9) (v := .ref (h 3)) hx hb hts (fi_X4 _) hown hK hP 0 (cw_at0 _ _ _) rfl 2 (by decide) (hts _ (List.mem_cons_of_mem _ wd_87)) (fun _ h9 => h9) rfl dX4_quarantine_39 ?_
          refine lv_iconst (v := 1) hx hb dX4_quarantine_42 (by decide) ?_
          refine vp_callSi (W.runV (As := [.int 1]) (rest := []) ⟨hx, hb, hml, hown, hts⟩ (kX2_haveRoomFor l dC dI g h u 1) (cwV 1 hts (gV wd_102 wd_103 wd_104 wd_105 wcX2_haveRoomFor) rfl rfl rfl (by decide +kernel) ⟨(Nat.le_of_ble_eq_true rfl), (Nat.le_of_ble_eq_true rfl)⟩) ⟨fun a U g mk q => by obtain ⟨q0, qP, qK⟩ := q; exact ⟨q0, qP, va_K.moved (u := U) (U := U.calling g mk a) (Vm.Alike.refl U.vm) qK⟩, va_recv hK hP (ci := 1) (q0 := 3) rfl (cw_at3 _ _ _), fun U hU hW => ⟨rfl, by rw [hU]; exact hP, va_K.moved hW.alike hK⟩⟩ rfl rfl hl.1 rfl (lv_room (Nat.le_of_ble_eq_true rfl)) dX4_quarantine_43 ⟨(Nat.le_of_ble_eq_true rfl), (Nat.le_of_ble_eq_true rfl)⟩) (fun r_13 hw => ?_)
          subst hw
          refine vy_callv (vy_runS (As := [.int (fX2_haveRoomFor u 1)]) (rest := []) ⟨hx, hb, hml, hown, hts⟩ (kX4_requireRoom l hl9 dC dI _ (fX2_haveRoomFor u 1)) (cwS 1 hts (gS wd_99 wd_100 wd_92 wcX4_requireRoom) rfl rfl rfl (by decide +kernel) ⟨(Nat.le_of_ble_eq_true rfl), (Nat.le_of_ble_eq_true rfl)⟩) ⟨fun a U g mk q => by obtain ⟨q0, q1, qZ⟩ := q; exact ⟨q0, q1, zz_same (u := U) (H := U.heap) rfl rfl qZ⟩, fun U hU hW => ⟨rfl, hU, by rw [hU]; exact zz_to hZ hS (fun q h => hA q (Nat.le_trans hS.1 h)) hW⟩⟩ rfl rfl hl.1 rfl (lv_room (Nat.le_of_ble_eq_true rfl)) dX4_quarantine_46 ⟨(Nat.le_of_ble_eq_true rfl), (Nat.le_of_ble_eq_true rfl)⟩) hS (fun q h1 h2 => absurd h2 (Nat.not_le.mpr h1)) (fun q h => hA q (Nat.le_trans hS.1 h)) (fun q h1 h2 => absurd h2 (Nat.not_le.mpr h1)) (fun E ce q9 _ t H1 locs1 ht hvm hw hB hz1 hk1 hS hce hcv hcl => ?_) (fun _ t H1 locs1 ht hvm hw hB hz1 hk1 hS => ?_)
          · skip
            have c_14 : ¬ fX4_requireRoom (fX2_haveRoomFor u 1) = 0 := by rw [hw]; decide
            subst hB
            have hP := hP.kept (fun k q hq => hk1 q.1 (hP k q hq).lt (Nat.not_le.mpr (hP k q hq).lt))
            exact vy_out (vx_out (fun x hx => (hxt x hx).elim) hlocks hce hcv hcl (fun t ht ha => ⟨u, trivial, ⟨⟨4, (by unfold fX4_quarantine; rw [if_pos c_1, if_neg c_4, if_neg c_8, if_neg c_14]), rfl⟩, by rw [ht]; exact hP, hD⟩, hS.F ht⟩) hS.2.2 (Nat.le_of_ble_eq_true rfl) (Nat.le_of_ble_eq_true rfl))
          · skip
            have hH1 : H1 = _ := ht.symm.trans hB
            subst hH1
            have c_14 : fX4_requireRoom (fX2_haveRoomFor u 1) = 0 := hw
            have t_15 := hr_roomq1 c_14 hI3
            refine lv_aload_n hx hb dX4_quarantine_49 rfl (lv_at hl 0 rfl) ?_
            refine va_get (D := (dC, dI)) (C := RX4) (T := TX4) (N := 9) (v := .ref (h 1)) hx hb hts (fi_X4 _) hown hK hP 0 (cw_at0 _ _ _) rfl 0 (by decide) (hts _ (List.mem_cons_of_mem _ wd_11)) (fun _ h9 => h9) rfl dX4_quarantine_50 ?_
            refine va_get (D := (dC, dI)) (C := RX1) (T := TX1) (N := 9) (v := .ref (h 14)) hx hb hts (fi_X1 _) hown hK hP 1 (cw_at1 _ _ _) rfl 6 (by decide) (hts _ (List.mem_cons_of_mem _ wd_127)) (fun _ h9 => h9) rfl dX4_quarantine_53 ?_
            refine lv_iload_n hx hb dX4_quarantine_56 rfl (lv_at hl 1 rfl) ?_
            refine lv_iload_n hx hb dX4_quarantine_57 rfl (lv_at hl 2 rfl) ?_
            refine va_zast (f := k_quar u) hx hb hK hP hD hS 14 1 (cw_at14 _ _ _) rfl (vp_in_iff.mpr (by omega)) dX4_quarantine_58 (fun H locs hP hD hS => ?_)
            have hP : va_P (dC, dI) vwCl (cw g h (s_quar u (upd (k_quar u) x1.toNatClampNeg (vp_nar .boolean x2)))) H := hP
            have hD : va_D A (cw g h (s_quar u (upd (k_quar u) x1.toNatClampNeg (vp_nar .boolean x2)))) := hD
            refine lv_aload_n hx hb dX4_quarantine_59 rfl (lv_at hl 0 rfl) ?_
            refine va_get (D := (dC, dI)) (C := RX4) (T := TX4) (N := 9) (v := .ref (h 3)) hx hb hts (fi_X4 _) hown hK hP 0 (cw_at0 _ _ _) rfl 2 (by decide) (hts _ (List.mem_cons_of_mem _ wd_87)) (fun _ h9 => h9) rfl dX4_quarantine_60 ?_
            refine lv_iload_n hx hb dX4_quarantine_63 rfl (lv_at hl 1 rfl) ?_
            refine lv_iload_n hx hb dX4_quarantine_64 rfl (lv_at hl 2 rfl) ?_
            refine lv_if_eq (tgt := 73) hx hb dX4_quarantine_65 (by decide) (fun c_16 => ?_) (fun c_16 => ?_)
            · skip
              have t_17 : x2.toInt = 0 := i_eq c_16 rfl (by decide)
              refine lv_bipush (v := 9) hx hb dX4_quarantine_73 (by decide) ?_
              refine lv_iconst (v := 0) hx hb dX4_quarantine_75 (by decide) ?_
              have hFc := va_free (wc := cw g h (s_quar u (upd (k_quar u) x1.toNatClampNeg (vp_nar .boolean x2)))) hD hS hA [0, 1, 2, 3, 4, 5, 6, 7, 8, 9, 10, 11, 12, 13, 14, 15, 16, 17, 18, 19, 20, 21, 22, 23] rfl
              refine va_callv (va_runV (As := [.int x1, .int 9, .int 0]) (rest := []) ⟨hx, hb, hml, hown, hts⟩ (kX2_write l dC dI g h (s_quar u (upd (k_quar u) x1.toNatClampNeg (vp_nar .boolean x2))) _ x1 9 0 (by show 0 ≤ (k_rwrit u).toInt ∧ (k_rwrit u).toInt < 400; omega)) (cwV 3 hts (gV wd_108 wd_109 wd_110 wd_105 wcX2_write) rfl rfl rfl (by decide +kernel) ⟨(Nat.le_of_ble_eq_true rfl), (Nat.le_of_ble_eq_true rfl)⟩) ⟨fun a U g mk q => by obtain ⟨q0, q1, qP, qK, qD⟩ := q; exact ⟨q0, q1, qP, va_K.moved (u := U) (U := U.calling g mk a) (Vm.Alike.refl U.vm) qK, qD⟩, va_recv hK hP (ci := 1) (q0 := 3) rfl (cw_at3 _ _ _), fun U hU hW => ⟨rfl, by rw [hU], by rw [hU]; exact hP, va_K.moved hW.alike hK, hD.weaken (fun _ _ _ _ => trivial)⟩⟩ rfl rfl hl.1 rfl (lv_room (Nat.le_of_ble_eq_true rfl)) dX4_quarantine_76 ⟨(Nat.le_of_ble_eq_true rfl), (Nat.le_of_ble_eq_true rfl)⟩) hS (fun q _ h => hFc q h) hFc (fun u_18 t H locs ht hvm hw hB hz1 hk1 hS => ?_)
              obtain ⟨hP, hD⟩ := hB
              rw [ht] at hP
              have hD := hD.weaken (fun _ _ _ h => hFc _ h)
              have e_20 : u_18 = fX2_write (s_quar u (upd (k_quar u) x1.toNatClampNeg (vp_nar .boolean x2))) x1 9 0 := hw
              clear hw
              exact vy_ret (W.vret hx hb hr (fun t ht hW => ⟨⟨u_18, rfl, (by subst e_20; unfold fX4_quarantine; rw [if_pos c_1, if_neg c_4, if_neg c_8, if_pos c_14, if_pos c_16]), by rw [ht]; exact hP, hD⟩, hS.F ht⟩) hS.2.2 dX4_quarantine_79)
            · skip
              have t_21 : x2.toInt ≠ 0 := i_ne c_16 rfl (by decide)
              refine lv_bipush (v := 8) hx hb dX4_quarantine_68 (by decide) ?_
              refine lv_goto (tgt := 75) hx hb dX4_quarantine_70 (by decide) ?_
              refine lv_iconst (v := 0) hx hb dX4_quarantine_75 (by decide) ?_
              have hFc := va_free (wc := cw g h (s_quar u (upd (k_quar u) x1.toNatClampNeg (vp_nar .boolean x2)))) hD hS hA [0, 1, 2, 3, 4, 5, 6, 7, 8, 9, 10, 11, 12, 13, 14, 15, 16, 17, 18, 19, 20, 21, 22, 23] rfl
              refine va_callv (va_runV (As := [.int x1, .int 8, .int 0]) (rest := []) ⟨hx, hb, hml, hown, hts⟩ (kX2_write l dC dI g h (s_quar u (upd (k_quar u) x1.toNatClampNeg (vp_nar .boolean x2))) _ x1 8 0 (by show 0 ≤ (k_rwrit u).toInt ∧ (k_rwrit u).toInt < 400; omega)) (cwV 3 hts (gV wd_108 wd_109 wd_110 wd_105 wcX2_write) rfl rfl rfl (by decide +kernel) ⟨(Nat.le_of_ble_eq_true rfl), (Nat.le_of_ble_eq_true rfl)⟩) ⟨fun a U g mk q => by obtain ⟨q0, q1, qP, qK, qD⟩ := q; exact ⟨q0, q1, qP, va_K.moved (u := U) (U := U.calling g mk a) (Vm.Alike.refl U.vm) qK, qD⟩, va_recv hK hP (ci := 1) (q0 := 3) rfl (cw_at3 _ _ _), fun U hU hW => ⟨rfl, by rw [hU], by rw [hU]; exact hP, va_K.moved hW.alike hK, hD.weaken (fun _ _ _ _ => trivial)⟩⟩ rfl rfl hl.1 rfl (lv_room (Nat.le_of_ble_eq_true rfl)) dX4_quarantine_76 ⟨(Nat.le_of_ble_eq_true rfl), (Nat.le_of_ble_eq_true rfl)⟩) hS (fun q _ h => hFc q h) hFc (fun u_22 t H locs ht hvm hw hB hz1 hk1 hS => ?_)
              obtain ⟨hP, hD⟩ := hB
              rw [ht] at hP
              have hD := hD.weaken (fun _ _ _ h => hFc _ h)
              have e_24 : u_22 = fX2_write (s_quar u (upd (k_quar u) x1.toNatClampNeg (vp_nar .boolean x2))) x1 8 0 := hw
              clear hw
              exact vy_ret (W.vret hx hb hr (fun t ht hW => ⟨⟨u_22, rfl, (by subst e_24; unfold fX4_quarantine; rw [if_pos c_1, if_neg c_4, if_neg c_8, if_pos c_14, if_neg c_16]), by rw [ht]; exact hP, hD⟩, hS.F ht⟩) hS.2.2 dX4_quarantine_79)
set_option maxHeartbeats 4000000 in
set_option maxRecDepth 100000 in
theorem kX4_order (l : Launch) (hl9 : l.stackTraces = false) (dC : Nat → ClassId) (dI : Nat → Nat → Nat) (g : cG) (h : Nat → Nat) (u : cS) (sz : Nat) (x1 : Int32) (x2 : Int32) (x3 : Int32) (hI : cInv u) : vy_Met l yX4_order wsX4_order ({ frames := 7, cells := 8, slots := 48, locals := 104 }) (va_Pc [.ref (h 0), .int x1, .int x2, .int x3] (fun U => U.heap.size = sz ∧ va_P (dC, dI) vwCl (cw g h u) U.heap ∧ va_K (dC, dI) vwCl (cTys g) U ∧ va_D (fun _ => True) (cw g h u) ∧ zz (va_A (cw g h u) sz) U U.heap)) (va_Qi (fun (r : Int32) u2 => fX4_order u x1 x2 x3 = (0, r, u2)) (fun (u2 : cS) (t : State) => va_P (dC, dI) vwCl (cw g h u2) t.heap ∧ va_D (va_A (cw g h u) sz) (cw g h u2)) (va_A (cw g h u) sz)) (vx_X (fun _ => True) (fun E (u2 : cS) t => (∃ k : Nat, fX4_order u x1 x2 x3 = (k, 0, u2) ∧ ex_is k E) ∧ va_P (dC, dI) vwCl (cw g h u2) t.heap ∧ va_D (va_A (cw g h u) sz) (cw g h u2)) (va_A (cw g h u) sz)) 0 0 8 48 (va_A (cw g h u) sz) := by
  refine vy_ofW (cc := cX4_order) (maxL := 5) (ret := (some .int)) (by decide) rfl ?_
  intro p e s m args below meth c s₁ B hml hxt hv
  obtain ⟨rfl, hsz, hP, hK, hD0, hZ⟩ := hv
  have hx := B.exec
  have hb := B.bytes
  have hr := B.returns
  have hts := atoms_spec (ws := wsX4_order) B.pre
  have hown : s.vm.findClass RX4 = some m.cls := findClass_of_methodNamed B.named
  have hlocks := B.notSynchronized
  subst hsz
  have hD := hD0.self (sz := s.heap.size)
  generalize hAe : va_A (cw g h u) s.heap.size = A at hD hZ ⊢
  have hA : ∀ q : Nat, s.heap.size ≤ q → A q := fun q h => by rw [← hAe]; exact Or.inr h
  have hS : va_S A s.heap s.heap [] := va_S.rf
  have hl := lv_entry ([.ref (h 0), .int x1, .int x2, .int x3]) (n := 5) (Nat.le_of_ble_eq_true rfl)
  rw [lg_entry_eq]
  generalize (lg_sl ([.ref (h 0), .int x1, .int x2, .int x3]) ++ List.replicate (5 - (lg_sl ([.ref (h 0), .int x1, .int x2, .int x3])).length) Slot.unset).toArray = ls at hl ⊢
  have hl : lv_has ls 5 [(0, .ref (h 0)), (1, .int x1), (2, .int x2), (3, .int x3)] := hl
  obtain ⟨hI1, hI2, hI3, hI4, hI5, hI6⟩ := id hI
  have z_0 : (0 : Int32).toInt = 0 := by decide
  have z_1 : (9 : Int32).toInt = 9 := by decide
  have z_2 : (7 : Int32).toInt = 7 := by decide
  have z_3 : (1 : Int32).toInt = 1 := by decide
  refine lv_iload_n hx hb dX4_order_0 rfl (lv_at hl 1 rfl) ?_
  refine lv_iconst (v := 0) hx hb dX4_order_1 (by decide) ?_
  refine lv_bipush (v := 9) hx hb dX4_order_2 (by decide) ?_
  refine vy_callv (vy_runS (As := [.int x1, .int 0, .int 9]) (rest := []) ⟨hx, hb, hml, hown, hts⟩ (kX4_requireRange l hl9 dC dI _ x1 0 9) (cwS 3 hts (gS wd_90 wd_91 wd_92 wcX4_requireRange) rfl rfl rfl (by decide +kernel) ⟨(Nat.le_of_ble_eq_true rfl), (Nat.le_of_ble_eq_true rfl)⟩) ⟨fun a U g mk q => by obtain ⟨q0, q1, qZ⟩ := q; exact ⟨q0, q1, zz_same (u := U) (H := U.heap) rfl rfl qZ⟩, fun U hU hW => ⟨rfl, hU, by rw [hU]; exact zz_to hZ hS (fun q h => hA q (Nat.le_trans hS.1 h)) hW⟩⟩ rfl rfl hl.1 rfl (lv_room (Nat.le_of_ble_eq_true rfl)) dX4_order_4 ⟨(Nat.le_of_ble_eq_true rfl), (Nat.le_of_ble_eq_true rfl)⟩) hS (fun q h1 h2 => absurd h2 (Nat.not_le.mpr h1)) (fun q h => hA q (Nat.le_trans hS.1 h)) (fun q h1 h2 => absurd h2 (Nat.not_le.mpr h1)) (fun E ce q9 _ t H1 locs1 ht hvm hw hB hz1 hk1 hS hce hcv hcl => ?_) (fun _ t H1 locs1 ht hvm hw hB hz1 hk1 hS => ?_)
  · skip
    have c_1 : ¬ fX4_requireRange x1 0 9 = 0 := by rw [hw]; decide
    subst hB
    have hP := hP.kept (fun k q hq => hk1 q.1 (hP k q hq).lt (Nat.not_le.mpr (hP k q hq).lt))
    exact vy_out (vx_out (fun x hx => (hxt x hx).elim) hlocks hce hcv hcl (fun t ht ha => ⟨u, trivial, ⟨⟨2, (by unfold fX4_order; rw [if_neg c_1]), rfl⟩, by rw [ht]; exact hP, hD⟩, hS.F ht⟩) hS.2.2 (Nat.le_of_ble_eq_true rfl) (Nat.le_of_ble_eq_true rfl))
  · skip
    have hH1 : H1 = _ := ht.symm.trans hB
    subst hH1
    have c_1 : fX4_requireRange x1 0 9 = 0 := hw
    have t_2 := rr_lo c_1
    have t_3 := rr_hi c_1
    refine lv_iload_n hx hb dX4_order_7 rfl (lv_at hl 2 rfl) ?_
    refine lv_iconst (v := 0) hx hb dX4_order_8 (by decide) ?_
    refine lv_bipush (v := 7) hx hb dX4_order_9 (by decide) ?_
    refine vy_callv (vy_runS (As := [.int x2, .int 0, .int 7]) (rest := []) ⟨hx, hb, hml, hown, hts⟩ (kX4_requireRange l hl9 dC dI _ x2 0 7) (cwS 3 hts (gS wd_90 wd_91 wd_92 wcX4_requireRange) rfl rfl rfl (by decide +kernel) ⟨(Nat.le_of_ble_eq_true rfl), (Nat.le_of_ble_eq_true rfl)⟩) ⟨fun a U g mk q => by obtain ⟨q0, q1, qZ⟩ := q; exact ⟨q0, q1, zz_same (u := U) (H := U.heap) rfl rfl qZ⟩, fun U hU hW => ⟨rfl, hU, by rw [hU]; exact zz_to hZ hS (fun q h => hA q (Nat.le_trans hS.1 h)) hW⟩⟩ rfl rfl hl.1 rfl (lv_room (Nat.le_of_ble_eq_true rfl)) dX4_order_11 ⟨(Nat.le_of_ble_eq_true rfl), (Nat.le_of_ble_eq_true rfl)⟩) hS (fun q h1 h2 => absurd h2 (Nat.not_le.mpr h1)) (fun q h => hA q (Nat.le_trans hS.1 h)) (fun q h1 h2 => absurd h2 (Nat.not_le.mpr h1)) (fun E ce q9 _ t H1 locs1 ht hvm hw hB hz1 hk1 hS hce hcv hcl => ?_) (fun _ t H1 locs1 ht hvm hw hB hz1 hk1 hS => ?_)
    · skip
      have c_4 : ¬ fX4_requireRange x2 0 7 = 0 := by rw [hw]; decide
      subst hB
      have hP := hP.kept (fun k q hq => hk1 q.1 (hP k q hq).lt (Nat.not_le.mpr (hP k q hq).lt))
      exact vy_out (vx_out (fun x hx => (hxt x hx).elim) hlocks hce hcv hcl (fun t ht ha => ⟨u, trivial, ⟨⟨2, (by unfold fX4_order; rw [if_pos c_1, if_neg c_4]), rfl⟩, by rw [ht]; exact hP, hD⟩, hS.F ht⟩) hS.2.2 (Nat.le_of_ble_eq_true rfl) (Nat.le_of_ble_eq_true rfl))
    · skip
      have hH1 : H1 = _ := ht.symm.trans hB
      subst hH1
      have c_4 : fX4_requireRange x2 0 7 = 0 := hw
      have t_5 := rr_lo c_4
      have t_6 := rr_hi c_4
      refine lv_iload_n hx hb dX4_order_14 rfl (lv_at hl 3 rfl) ?_
      refine vy_callv (vy_runS (As := [.int x3]) (rest := []) ⟨hx, hb, hml, hown, hts⟩ (kX4_requireNotNegative l hl9 dC dI _ x3) (cwS 1 hts (gS wd_128 wd_129 wd_92 wcX4_requireNotNegative) rfl rfl rfl (by decide +kernel) ⟨(Nat.le_of_ble_eq_true rfl), (Nat.le_of_ble_eq_true rfl)⟩) ⟨fun a U g mk q => by obtain ⟨q0, q1, qZ⟩ := q; exact ⟨q0, q1, zz_same (u := U) (H := U.heap) rfl rfl qZ⟩, fun U hU hW => ⟨rfl, hU, by rw [hU]; exact zz_to hZ hS (fun q h => hA q (Nat.le_trans hS.1 h)) hW⟩⟩ rfl rfl hl.1 rfl (lv_room (Nat.le_of_ble_eq_true rfl)) dX4_order_15 ⟨(Nat.le_of_ble_eq_true rfl), (Nat.le_of_ble_eq_true rfl)⟩) hS (fun q h1 h2 => absurd h2 (Nat.not_le.mpr h1)) (fun q h => hA q (Nat.le_trans hS.1 h)) (fun q h1 h2 => absurd h2 (Nat.not_le.mpr h1)) (fun E ce q9 _ t H1 locs1 ht hvm hw hB hz1 hk1 hS hce hcv hcl => ?_) (fun _ t H1 locs1 ht hvm hw hB hz1 hk1 hS => ?_)
      · skip
        have c_7 : ¬ fX4_requireNotNegative x3 = 0 := by rw [hw]; decide
        subst hB
        have hP := hP.kept (fun k q hq => hk1 q.1 (hP k q hq).lt (Nat.not_le.mpr (hP k q hq).lt))
        exact vy_out (vx_out (fun x hx => (hxt x hx).elim) hlocks hce hcv hcl (fun t ht ha => ⟨u, trivial, ⟨⟨2, (by unfold fX4_order; rw [if_pos c_1, if_pos c_4, if_neg c_7]), rfl⟩, by rw [ht]; exact hP, hD⟩, hS.F ht⟩) hS.2.2 (Nat.le_of_ble_eq_true rfl) (Nat.le_of_ble_eq_true rfl))
      · skip
        have hH1 : H1 = _ := ht.symm.trans hB
        subst hH1
        have c_7 : fX4_requireNotNegative x3 = 0 := hw
        refine lv_iconst (v := 1) hx hb dX4_order_18 (by decide) ?_
        refine lv_istore (lv' := [(4, .int 1), (0, .ref (h 0)), (1, .int x1), (2, .int x2), (3, .int x3)]) hx hb dX4_order_19 hl (by decide) rfl (fun ls hl => ?_)
        refine lp_ind (W p l e _ s m _ below meth c _ _ _ _ _) (fun n ls => ∃ (i : Int32), ((k_lmade u).toInt - i.toInt + 1 < (n : Int)) ∧ (1 ≤ i.toInt ∧ i.toInt ≤ 41 ∧ i.toInt ≤ (k_lmade u).toInt + 1) ∧ fX4_order u x1 x2 x3 = lpX4_order u x1 x2 x3 n i ∧ lv_has ls 5 [(4, .int i), (0, .ref (h 0)), (1, .int x1), (2, .int x2), (3, .int x3)]) m 21 (fun ls hI0 => ?_) (fun n ls hI0 ih => ?_) 41 _ ⟨1, (by omega), (by omega), (by unfold fX4_order; rw [if_pos c_1, if_pos c_4, if_pos c_7]), lv_sub hl [0, 1, 2, 3, 4] rfl⟩
        · skip
          obtain ⟨i, hn, hi, he, hl⟩ := hI0
          exact absurd hn (by omega)
        · skip
          obtain ⟨i, hn, hi, he, hl⟩ := hI0
          have he_10 := he
          have ih_9 := ih
          refine lv_iload hx hb dX4_order_21 (lv_at hl 0 rfl) ?_
          refine lv_aload_n hx hb dX4_order_23 rfl (lv_at hl 1 rfl) ?_
          refine va_get (D := (dC, dI)) (C := RX4) (T := TX4) (N := 9) (v := .ref (h 1)) hx hb hts (fi_X4 _) hown hK hP 0 (cw_at0 _ _ _) rfl 0 (by decide) (hts _ (List.mem_cons_of_mem _ wd_11)) (fun _ h9 => h9) rfl dX4_order_24 ?_
          refine va_get (D := (dC, dI)) (C := RX1) (T := TX1) (N := 9) (v := .int (k_lmade u)) hx hb hts (fi_X1 _) hown hK hP 1 (cw_at1 _ _ _) rfl 8 (by decide) (hts _ (List.mem_cons_of_mem _ wd_12)) (fun _ h9 => h9) rfl dX4_order_27 ?_
          refine lv_icmp_gt (tgt := 75) hx hb dX4_order_30 (by decide) (fun c_11 => ?_) (fun c_11 => ?_)
          · skip
            have t_12 : (k_lmade u).toInt < i.toInt := i_lt c_11 rfl rfl
            refine lv_iconst (v := (-1)) hx hb dX4_order_75 (by decide) ?_
            exact vy_ret (W.iret (v := (-1)) hx hb hr (fun t ht hW => ⟨⟨(-1), u, rfl, (by rw [he_10, lpX4_order_eq, if_pos c_11]), by rw [ht]; exact hP, hD⟩, hS.F ht⟩) hS.2.2 dX4_order_76)
          · skip
            have t_13 : i.toInt ≤ (k_lmade u).toInt := i_nlt c_11 rfl rfl
            refine lv_aload_n hx hb dX4_order_33 rfl (lv_at hl 1 rfl) ?_
            refine va_get (D := (dC, dI)) (C := RX4) (T := TX4) (N := 9) (v := .ref (h 1)) hx hb hts (fi_X4 _) hown hK hP 0 (cw_at0 _ _ _) rfl 0 (by decide) (hts _ (List.mem_cons_of_mem _ wd_11)) (fun _ h9 => h9) rfl dX4_order_34 ?_
            refine lv_iload hx hb dX4_order_37 (lv_at hl 0 rfl) ?_
            refine lv_iload_n hx hb dX4_order_39 rfl (lv_at hl 2 rfl) ?_
            refine lv_iload_n hx hb dX4_order_40 rfl (lv_at hl 3 rfl) ?_
            refine vp_callSi (W.runV (As := [.int i, .int x1, .int x2]) (rest := []) ⟨hx, hb, hml, hown, hts⟩ (kX1_mayBeTakenFor l dC dI g h u i x1 x2 (by omega)) (cwV 3 hts (gV wd_131 wd_36 wd_37 wd_28 wcX1_mayBeTakenFor) rfl rfl rfl (by decide +kernel) ⟨(Nat.le_of_ble_eq_true rfl), (Nat.le_of_ble_eq_true rfl)⟩) ⟨fun a U g mk q => by obtain ⟨q0, qP, qK⟩ := q; exact ⟨q0, qP, va_K.moved (u := U) (U := U.calling g mk a) (Vm.Alike.refl U.vm) qK⟩, va_recv hK hP (ci := 0) (q0 := 1) rfl (cw_at1 _ _ _), fun U hU hW => ⟨rfl, by rw [hU]; exact hP, va_K.moved hW.alike hK⟩⟩ rfl rfl hl.1 rfl (lv_room (Nat.le_of_ble_eq_true rfl)) dX4_order_41 ⟨(Nat.le_of_ble_eq_true rfl), (Nat.le_of_ble_eq_true rfl)⟩) (fun r_14 hw => ?_)
            subst hw
            refine lv_if_eq (tgt := 69) hx hb dX4_order_44 (by decide) (fun c_15 => ?_) (fun c_15 => ?_)
            · skip
              have t_16 : (fX1_mayBeTakenFor u i x1 x2).toInt = 0 := i_eq c_15 rfl (by decide)
              refine lv_iinc (v := i + 1) (lv' := [(4, .int (i + 1)), (0, .ref (h 0)), (1, .int x1), (2, .int x2), (3, .int x3)]) hx hb dX4_order_69 hl (k := 0) rfl rfl (by decide) rfl (fun ls hl => ?_)
              refine lv_goto (tgt := 21) hx hb dX4_order_72 (by decide) ?_
              have hb1 := i_inc (x := i) (by omega)
              exact ih_9 _ ⟨(i + 1), (by omega), (by omega), (by rw [he_10, lpX4_order_eq, if_neg c_11, if_pos c_15]), lv_sub hl [0, 1, 2, 3, 4] rfl⟩
            · skip
              have t_17 : (fX1_mayBeTakenFor u i x1 x2).toInt ≠ 0 := i_ne c_15 rfl (by decide)
              refine lv_aload_n hx hb dX4_order_47 rfl (lv_at hl 1 rfl) ?_
              refine va_get (D := (dC, dI)) (C := RX4) (T := TX4) (N := 9) (v := .ref (h 1)) hx hb hts (fi_X4 _) hown hK hP 0 (cw_at0 _ _ _) rfl 0 (by decide) (hts _ (List.mem_cons_of_mem _ wd_11)) (fun _ h9 => h9) rfl dX4_order_48 ?_
              refine lv_iload hx hb dX4_order_51 (lv_at hl 0 rfl) ?_
              refine lv_aload_n hx hb dX4_order_53 rfl (lv_at hl 1 rfl) ?_
              refine va_get (D := (dC, dI)) (C := RX4) (T := TX4) (N := 9) (v := .ref (h 4)) hx hb hts (fi_X4 _) hown hK hP 0 (cw_at0 _ _ _) rfl 3 (by decide) (hts _ (List.mem_cons_of_mem _ wd_112)) (fun _ h9 => h9) rfl dX4_order_54 ?_
              refine lv_iload_n hx hb dX4_order_57 rfl (lv_at hl 3 rfl) ?_
              refine va_iald (f := k_rot u) hx hb hK hP 4 0 (cw_at4 _ _ _) rfl (vp_in_iff.mpr (by omega)) dX4_order_58 ?_
              refine vp_callSi (W.runV (As := [.int i, .int (k_rot u x2.toNatClampNeg)]) (rest := []) ⟨hx, hb, hml, hown, hts⟩ (kX1_rivalsBefore l dC dI g h u i (k_rot u x2.toNatClampNeg) (by omega) hI) (cwV 2 hts (gV wd_132 wd_133 wd_134 wd_28 wcX1_rivalsBefore) rfl rfl rfl (by decide +kernel) ⟨(Nat.le_of_ble_eq_true rfl), (Nat.le_of_ble_eq_true rfl)⟩) ⟨fun a U g mk q => by obtain ⟨q0, qP, qK⟩ := q; exact ⟨q0, qP, va_K.moved (u := U) (U := U.calling g mk a) (Vm.Alike.refl U.vm) qK⟩, va_recv hK hP (ci := 0) (q0 := 1) rfl (cw_at1 _ _ _), fun U hU hW => ⟨rfl, by rw [hU]; exact hP, va_K.moved hW.alike hK⟩⟩ rfl rfl hl.1 rfl (lv_room (Nat.le_of_ble_eq_true rfl)) dX4_order_59 ⟨(Nat.le_of_ble_eq_true rfl), (Nat.le_of_ble_eq_true rfl)⟩) (fun r_18 hw => ?_)
              subst hw
              refine lv_iload_n hx hb dX4_order_62 rfl (lv_at hl 4 rfl) ?_
              refine lv_icmp_ne (tgt := 69) hx hb dX4_order_63 (by decide) (fun c_19 => ?_) (fun c_19 => ?_)
              · skip
                have t_20 : (fX1_rivalsBefore u i (k_rot u x2.toNatClampNeg)).toInt ≠ x3.toInt := i_ne c_19 rfl rfl
                refine lv_iinc (v := i + 1) (lv' := [(4, .int (i + 1)), (0, .ref (h 0)), (1, .int x1), (2, .int x2), (3, .int x3)]) hx hb dX4_order_69 hl (k := 0) rfl rfl (by decide) rfl (fun ls hl => ?_)
                refine lv_goto (tgt := 21) hx hb dX4_order_72 (by decide) ?_
                have hb1 := i_inc (x := i) (by omega)
                exact ih_9 _ ⟨(i + 1), (by omega), (by omega), (by rw [he_10, lpX4_order_eq, if_neg c_11, if_neg c_15, if_neg c_19]), lv_sub hl [0, 1, 2, 3, 4] rfl⟩
              · skip
                have t_21 : (fX1_rivalsBefore u i (k_rot u x2.toNatClampNeg)).toInt = x3.toInt := i_eq c_19 rfl rfl
                refine lv_iload hx hb dX4_order_66 (lv_at hl 0 rfl) ?_
                exact vy_ret (W.iret (v := i) hx hb hr (fun t ht hW => ⟨⟨i, u, rfl, (by rw [he_10, lpX4_order_eq, if_neg c_11, if_neg c_15, if_pos c_19]), by rw [ht]; exact hP, hD⟩, hS.F ht⟩) hS.2.2 dX4_order_68)
set_option maxHeartbeats 4000000 in
set_option maxRecDepth 100000 in
theorem kX4_allowed (l : Launch) (hl9 : l.stackTraces = false) (dC : Nat → ClassId) (dI : Nat → Nat → Nat) (g : cG) (h : Nat → Nat) (u : cS) (sz : Nat) (x1 : Int32) (x2 : Int32) (x3 : Int32) (hI : cInv u) : vy_Met l yX4_allowed wsX4_allowed ({ frames := 7, cells := 8, slots := 48, locals := 104 }) (va_Pc [.ref (h 0), .int x1, .int x2, .int x3] (fun U => U.heap.size = sz ∧ va_P (dC, dI) vwCl (cw g h u) U.heap ∧ va_K (dC, dI) vwCl (cTys g) U ∧ va_D (fun _ => True) (cw g h u) ∧ zz (va_A (cw g h u) sz) U U.heap)) (va_Qi (fun (r : Int32) u2 => fX4_allowed u x1 x2 x3 = (0, r, u2)) (fun (u2 : cS) (t : State) => va_P (dC, dI) vwCl (cw g h u2) t.heap ∧ va_D (va_A (cw g h u) sz) (cw g h u2)) (va_A (cw g h u) sz)) (vx_X (fun _ => True) (fun E (u2 : cS) t => (∃ k : Nat, fX4_allowed u x1 x2 x3 = (k, 0, u2) ∧ ex_is k E) ∧ va_P (dC, dI) vwCl (cw g h u2) t.heap ∧ va_D (va_A (cw g h u) sz) (cw g h u2)) (va_A (cw g h u) sz)) 0 0 8 48 (va_A (cw g h u) sz) := by
  refine vy_ofW (cc := cX4_allowed) (maxL := 4) (ret := (some .boolean)) (by decide) rfl ?_
  intro p e s m args below meth c s₁ B hml hxt hv
  obtain ⟨rfl, hsz, hP, hK, hD0, hZ⟩ := hv
  have hx := B.exec
  have hb := B.bytes
  have hr := B.returns
  have hts := atoms_spec (ws := wsX4_allowed) B.pre
  have hown : s.vm.findClass RX4 = some m.cls := findClass_of_methodNamed B.named
  have hlocks := B.notSynchronized
  subst hsz
  have hD := hD0.self (sz := s.heap.size)
  generalize hAe : va_A (cw g h u) s.heap.size = A at hD hZ ⊢
  have hA : ∀ q : Nat, s.heap.size ≤ q → A q := fun q h => by rw [← hAe]; exact Or.inr h
  have hS : va_S A s.heap s.heap [] := va_S.rf
  have hl := lv_entry ([.ref (h 0), .int x1, .int x2, .int x3]) (n := 4) (Nat.le_of_ble_eq_true rfl)
  rw [lg_entry_eq]
  generalize (lg_sl ([.ref (h 0), .int x1, .int x2, .int x3]) ++ List.replicate (4 - (lg_sl ([.ref (h 0), .int x1, .int x2, .int x3])).length) Slot.unset).toArray = ls at hl ⊢
  have hl : lv_has ls 4 [(0, .ref (h 0)), (1, .int x1), (2, .int x2), (3, .int x3)] := hl
  obtain ⟨hI1, hI2, hI3, hI4, hI5, hI6⟩ := id hI
  have z_0 : (0 : Int32).toInt = 0 := by decide
  have z_1 : (7 : Int32).toInt = 7 := by decide
  have z_2 : (36524 : Int32).toInt = 36524 := by decide
  refine lv_aload_n hx hb dX4_allowed_0 rfl (lv_at hl 0 rfl) ?_
  refine lv_iload_n hx hb dX4_allowed_1 rfl (lv_at hl 1 rfl) ?_
  refine vy_callv (vy_runV (As := [.int x1]) (rest := []) ⟨hx, hb, hml, hown, hts⟩ (kX4_requireLot l hl9 dC dI g h u _ x1) (cwV 1 hts (gV wd_114 wd_115 wd_116 wd_92 wcX4_requireLot) rfl rfl rfl (by decide +kernel) ⟨(Nat.le_of_ble_eq_true rfl), (Nat.le_of_ble_eq_true rfl)⟩) ⟨fun a U g mk q => by obtain ⟨q0, q1, qP, qK, qZ⟩ := q; exact ⟨q0, q1, qP, va_K.moved (u := U) (U := U.calling g mk a) (Vm.Alike.refl U.vm) qK, zz_same (u := U) (H := U.heap) rfl rfl qZ⟩, va_recv hK hP (ci := 3) (q0 := 0) rfl (cw_at0 _ _ _), fun U hU hW => ⟨rfl, hU, by rw [hU]; exact hP, va_K.moved hW.alike hK, by rw [hU]; exact zz_to hZ hS (fun q h => hA q (Nat.le_trans hS.1 h)) hW⟩⟩ rfl rfl hl.1 rfl (lv_room (Nat.le_of_ble_eq_true rfl)) dX4_allowed_2 ⟨(Nat.le_of_ble_eq_true rfl), (Nat.le_of_ble_eq_true rfl)⟩) hS (fun q h1 h2 => absurd h2 (Nat.not_le.mpr h1)) (fun q h => hA q (Nat.le_trans hS.1 h)) (fun q h1 h2 => absurd h2 (Nat.not_le.mpr h1)) (fun E ce q9 _ t H1 locs1 ht hvm hw hB hz1 hk1 hS hce hcv hcl => ?_) (fun _ t H1 locs1 ht hvm hw hB hz1 hk1 hS => ?_)
  · skip
    have c_1 : ¬ fX4_requireLot u x1 = 0 := by rw [hw]; decide
    subst hB
    have hP := hP.kept (fun k q hq => hk1 q.1 (hP k q hq).lt (Nat.not_le.mpr (hP k q hq).lt))
    exact vy_out (vx_out (fun x hx => (hxt x hx).elim) hlocks hce hcv hcl (fun t ht ha => ⟨u, trivial, ⟨⟨1, (by unfold fX4_allowed; rw [if_neg c_1]), rfl⟩, by rw [ht]; exact hP, hD⟩, hS.F ht⟩) hS.2.2 (Nat.le_of_ble_eq_true rfl) (Nat.le_of_ble_eq_true rfl))
  · skip
    have hH1 : H1 = _ := ht.symm.trans hB
    subst hH1
    have c_1 : fX4_requireLot u x1 = 0 := hw
    have t_2 := rl_lo c_1
    have t_3 := rl_hi c_1
    refine lv_iload_n hx hb dX4_allowed_5 rfl (lv_at hl 2 rfl) ?_
    refine lv_iconst (v := 0) hx hb dX4_allowed_6 (by decide) ?_
    refine lv_bipush (v := 7) hx hb dX4_allowed_7 (by decide) ?_
    refine vy_callv (vy_runS (As := [.int x2, .int 0, .int 7]) (rest := []) ⟨hx, hb, hml, hown, hts⟩ (kX4_requireRange l hl9 dC dI _ x2 0 7) (cwS 3 hts (gS wd_90 wd_91 wd_92 wcX4_requireRange) rfl rfl rfl (by decide +kernel) ⟨(Nat.le_of_ble_eq_true rfl), (Nat.le_of_ble_eq_true rfl)⟩) ⟨fun a U g mk q => by obtain ⟨q0, q1, qZ⟩ := q; exact ⟨q0, q1, zz_same (u := U) (H := U.heap) rfl rfl qZ⟩, fun U hU hW => ⟨rfl, hU, by rw [hU]; exact zz_to hZ hS (fun q h => hA q (Nat.le_trans hS.1 h)) hW⟩⟩ rfl rfl hl.1 rfl (lv_room (Nat.le_of_ble_eq_true rfl)) dX4_allowed_9 ⟨(Nat.le_of_ble_eq_true rfl), (Nat.le_of_ble_eq_true rfl)⟩) hS (fun q h1 h2 => absurd h2 (Nat.not_le.mpr h1)) (fun q h => hA q (Nat.le_trans hS.1 h)) (fun q h1 h2 => absurd h2 (Nat.not_le.mpr h1)) (fun E ce q9 _ t H1 locs1 ht hvm hw hB hz1 hk1 hS hce hcv hcl => ?_) (fun _ t H1 locs1 ht hvm hw hB hz1 hk1 hS => ?_)
    · skip
      have c_4 : ¬ fX4_requireRange x2 0 7 = 0 := by rw [hw]; decide
      subst hB
      have hP := hP.kept (fun k q hq => hk1 q.1 (hP k q hq).lt (Nat.not_le.mpr (hP k q hq).lt))
      exact vy_out (vx_out (fun x hx => (hxt x hx).elim) hlocks hce hcv hcl (fun t ht ha => ⟨u, trivial, ⟨⟨2, (by unfold fX4_allowed; rw [if_pos c_1, if_neg c_4]), rfl⟩, by rw [ht]; exact hP, hD⟩, hS.F ht⟩) hS.2.2 (Nat.le_of_ble_eq_true rfl) (Nat.le_of_ble_eq_true rfl))
    · skip
      have hH1 : H1 = _ := ht.symm.trans hB
      subst hH1
      have c_4 : fX4_requireRange x2 0 7 = 0 := hw
      have t_5 := rr_lo c_4
      have t_6 := rr_hi c_4
      refine lv_iload_n hx hb dX4_allowed_12 rfl (lv_at hl 3 rfl) ?_
      refine lv_iconst (v := 0) hx hb dX4_allowed_13 (by decide) ?_
      refine lv_ldc (v := 36524) hx hb hown (hts _ (List.mem_cons_of_mem _ wd_94)) dX4_allowed_14 ?_
      refine vy_callv (vy_runS (As := [.int x3, .int 0, .int 36524]) (rest := []) ⟨hx, hb, hml, hown, hts⟩ (kX4_requireRange l hl9 dC dI _ x3 0 36524) (cwS 3 hts (gS wd_90 wd_91 wd_92 wcX4_requireRange) rfl rfl rfl (by decide +kernel) ⟨(Nat.le_of_ble_eq_true rfl), (Nat.le_of_ble_eq_true rfl)⟩) ⟨fun a U g mk q => by obtain ⟨q0, q1, qZ⟩ := q; exact ⟨q0, q1, zz_same (u := U) (H := U.heap) rfl rfl qZ⟩, fun U hU hW => ⟨rfl, hU, by rw [hU]; exact zz_to hZ hS (fun q h => hA q (Nat.le_trans hS.1 h)) hW⟩⟩ rfl rfl hl.1 rfl (lv_room (Nat.le_of_ble_eq_true rfl)) dX4_allowed_16 ⟨(Nat.le_of_ble_eq_true rfl), (Nat.le_of_ble_eq_true rfl)⟩) hS (fun q h1 h2 => absurd h2 (Nat.not_le.mpr h1)) (fun q h => hA q (Nat.le_trans hS.1 h)) (fun q h1 h2 => absurd h2 (Nat.not_le.mpr h1)) (fun E ce q9 _ t H1 locs1 ht hvm hw hB hz1 hk1 hS hce hcv hcl => ?_) (fun _ t H1 locs1 ht hvm hw hB hz1 hk1 hS => ?_)
      · skip
        have c_7 : ¬ fX4_requireRange x3 0 36524 = 0 := by rw [hw]; decide
        subst hB
        have hP := hP.kept (fun k q hq => hk1 q.1 (hP k q hq).lt (Nat.not_le.mpr (hP k q hq).lt))
        exact vy_out (vx_out (fun x hx => (hxt x hx).elim) hlocks hce hcv hcl (fun t ht ha => ⟨u, trivial, ⟨⟨2, (by unfold fX4_allowed; rw [if_pos c_1, if_pos c_4, if_neg c_7]), rfl⟩, by rw [ht]; exact hP, hD⟩, hS.F ht⟩) hS.2.2 (Nat.le_of_ble_eq_true rfl) (Nat.le_of_ble_eq_true rfl))
      · skip
        have hH1 : H1 = _ := ht.symm.trans hB
        subst hH1
        have c_7 : fX4_requireRange x3 0 36524 = 0 := hw
        have t_8 := rr_lo c_7
        have t_9 := rr_hi c_7
        refine lv_aload_n hx hb dX4_allowed_19 rfl (lv_at hl 0 rfl) ?_
        refine lv_iload_n hx hb dX4_allowed_20 rfl (lv_at hl 1 rfl) ?_
        refine lv_iload_n hx hb dX4_allowed_21 rfl (lv_at hl 2 rfl) ?_
        refine lv_iload_n hx hb dX4_allowed_22 rfl (lv_at hl 3 rfl) ?_
        refine vp_callSi (W.runV (As := [.int x1, .int x2, .int x3]) (rest := []) ⟨hx, hb, hml, hown, hts⟩ (kX4_mayGo l dC dI g h u x1 x2 x3 (by omega) (by omega)) (cwV 3 hts (gV wd_136 wd_137 wd_138 wd_92 wcX4_mayGo) rfl rfl rfl (by decide +kernel) ⟨(Nat.le_of_ble_eq_true rfl), (Nat.le_of_ble_eq_true rfl)⟩) ⟨fun a U g mk q => by obtain ⟨q0, qP, qK⟩ := q; exact ⟨q0, qP, va_K.moved (u := U) (U := U.calling g mk a) (Vm.Alike.refl U.vm) qK⟩, va_recv hK hP (ci := 3) (q0 := 0) rfl (cw_at0 _ _ _), fun U hU hW => ⟨rfl, by rw [hU]; exact hP, va_K.moved hW.alike hK⟩⟩ rfl rfl hl.1 rfl (lv_room (Nat.le_of_ble_eq_true rfl)) dX4_allowed_23 ⟨(Nat.le_of_ble_eq_true rfl), (Nat.le_of_ble_eq_true rfl)⟩) (fun r_10 hw => ?_)
        subst hw
        exact vy_ret (W.zret (v := fX4_mayGo u x1 x2 x3) hx hb hr (i_nar (fX4_mayGo_01 _ _ _ _)) (fun t ht hW => ⟨⟨(fX4_mayGo u x1 x2 x3), u, rfl, (by unfold fX4_allowed; rw [if_pos c_1, if_pos c_4, if_pos c_7]), by rw [ht]; exact hP, hD⟩, hS.F ht⟩) hS.2.2 dX4_allowed_26)
set_option maxHeartbeats 4000000 in
set_option maxRecDepth 100000 in
theorem kX4_split (l : Launch) (hl9 : l.stackTraces = false) (dC : Nat → ClassId) (dI : Nat → Nat → Nat) (g : cG) (h : Nat → Nat) (u : cS) (sz : Nat) (x1 : Int32) (hI : cInv u) : vy_Met l yX4_split wsX4_split ({ frames := 7, cells := 8, slots := 48, locals := 103 }) (va_Pc [.ref (h 0), .int x1] (fun U => U.heap.size = sz ∧ va_P (dC, dI) vwCl (cw g h u) U.heap ∧ va_K (dC, dI) vwCl (cTys g) U ∧ va_D (fun _ => True) (cw g h u) ∧ zz (va_A (cw g h u) sz) U U.heap)) (va_Qi (fun (r : Int32) u2 => fX4_split u x1 = (0, r, u2)) (fun (u2 : cS) (t : State) => va_P (dC, dI) vwCl (cw g h u2) t.heap ∧ va_D (va_A (cw g h u) sz) (cw g h u2)) (va_A (cw g h u) sz)) (vx_X (fun _ => True) (fun E (u2 : cS) t => (∃ k : Nat, fX4_split u x1 = (k, 0, u2) ∧ ex_is k E) ∧ va_P (dC, dI) vwCl (cw g h u2) t.heap ∧ va_D (va_A (cw g h u) sz) (cw g h u2)) (va_A (cw g h u) sz)) 0 0 8 48 (va_A (cw g h u) sz) := by
  refine vy_ofW (cc := cX4_split) (maxL := 3) (ret := (some .int)) (by decide) rfl ?_
  intro p e s m args below meth c s₁ B hml hxt hv
  obtain ⟨rfl, hsz, hP, hK, hD0, hZ⟩ := hv
  have hx := B.exec
  have hb := B.bytes
  have hr := B.returns
  have hts := atoms_spec (ws := wsX4_split) B.pre
  have hown : s.vm.findClass RX4 = some m.cls := findClass_of_methodNamed B.named
  have hlocks := B.notSynchronized
  subst hsz
  have hD := hD0.self (sz := s.heap.size)
  generalize hAe : va_A (cw g h u) s.heap.size = A at hD hZ ⊢
  have hA : ∀ q : Nat, s.heap.size ≤ q → A q := fun q h => by rw [← hAe]; exact Or.inr h
  have hS : va_S A s.heap s.heap [] := va_S.rf
  have hl := lv_entry ([.ref (h 0), .int x1]) (n := 3) (Nat.le_of_ble_eq_true rfl)
  rw [lg_entry_eq]
  generalize (lg_sl ([.ref (h 0), .int x1]) ++ List.replicate (3 - (lg_sl ([.ref (h 0), .int x1])).length) Slot.unset).toArray = ls at hl ⊢
  have hl : lv_has ls 3 [(0, .ref (h 0)), (1, .int x1)] := hl
  obtain ⟨hI1, hI2, hI3, hI4, hI5, hI6⟩ := id hI
  refine lv_aload_n hx hb dX4_split_0 rfl (lv_at hl 0 rfl) ?_
  refine lv_iload_n hx hb dX4_split_1 rfl (lv_at hl 1 rfl) ?_
  refine vy_callv (vy_runV (As := [.int x1]) (rest := []) ⟨hx, hb, hml, hown, hts⟩ (kX4_requireLot l hl9 dC dI g h u _ x1) (cwV 1 hts (gV wd_114 wd_115 wd_116 wd_92 wcX4_requireLot) rfl rfl rfl (by decide +kernel) ⟨(Nat.le_of_ble_eq_true rfl), (Nat.le_of_ble_eq_true rfl)⟩) ⟨fun a U g mk q => by obtain ⟨q0, q1, qP, qK, qZ⟩ := q; exact ⟨q0, q1, qP, va_K.moved (u := U) (U := U.calling g mk a) (Vm.Alike.refl U.vm) qK, zz_same (u := U) (H := U.heap) rfl rfl qZ⟩, va_recv hK hP (ci := 3) (q0 := 0) rfl (cw_at0 _ _ _), fun U hU hW => ⟨rfl, hU, by rw [hU]; exact hP, va_K.moved hW.alike hK, by rw [hU]; exact zz_to hZ hS (fun q h => hA q (Nat.le_trans hS.1 h)) hW⟩⟩ rfl rfl hl.1 rfl (lv_room (Nat.le_of_ble_eq_true rfl)) dX4_split_2 ⟨(Nat.le_of_ble_eq_true rfl), (Nat.le_of_ble_eq_true rfl)⟩) hS (fun q h1 h2 => absurd h2 (Nat.not_le.mpr h1)) (fun q h => hA q (Nat.le_trans hS.1 h)) (fun q h1 h2 => absurd h2 (Nat.not_le.mpr h1)) (fun E ce q9 _ t H1 locs1 ht hvm hw hB hz1 hk1 hS hce hcv hcl => ?_) (fun _ t H1 locs1 ht hvm hw hB hz1 hk1 hS => ?_)
  · skip
    have c_1 : ¬ fX4_requireLot u x1 = 0 := by rw [hw]; decide
    subst hB
    have hP := hP.kept (fun k q hq => hk1 q.1 (hP k q hq).lt (Nat.not_le.mpr (hP k q hq).lt))
    exact vy_out (vx_out (fun x hx => (hxt x hx).elim) hlocks hce hcv hcl (fun t ht ha => ⟨u, trivial, ⟨⟨1, (by unfold fX4_split; rw [if_neg c_1]), rfl⟩, by rw [ht]; exact hP, hD⟩, hS.F ht⟩) hS.2.2 (Nat.le_of_ble_eq_true rfl) (Nat.le_of_ble_eq_true rfl))
  · skip
    have hH1 : H1 = _ := ht.symm.trans hB
    subst hH1
    have c_1 : fX4_requireLot u x1 = 0 := hw
    have t_2 := rl_lo c_1
    have t_3 := rl_hi c_1
    refine lv_aload_n hx hb dX4_split_5 rfl (lv_at hl 0 rfl) ?_
    refine va_get (D := (dC, dI)) (C := RX4) (T := TX4) (N := 9) (v := .ref (h 1)) hx hb hts (fi_X4 _) hown hK hP 0 (cw_at0 _ _ _) rfl 0 (by decide) (hts _ (List.mem_cons_of_mem _ wd_11)) (fun _ h9 => h9) rfl dX4_split_6 ?_
    refine va_get (D := (dC, dI)) (C := RX1) (T := TX1) (N := 9) (v := .ref (h 12)) hx hb hts (fi_X1 _) hown hK hP 1 (cw_at1 _ _ _) rfl 4 (by decide) (hts _ (List.mem_cons_of_mem _ wd_118)) (fun _ h9 => h9) rfl dX4_split_9 ?_
    refine lv_iload_n hx hb dX4_split_12 rfl (lv_at hl 1 rfl) ?_
    refine va_zald (f := k_open u) hx hb hK hP 12 1 (cw_at12 _ _ _) rfl (vp_in_iff.mpr (by omega)) dX4_split_13 ?_
    refine vy_callv (vy_runS (As := [.int (k_open u x1.toNatClampNeg)]) (rest := []) ⟨hx, hb, hml, hown, hts⟩ (kX4_requireState l hl9 dC dI _ (k_open u x1.toNatClampNeg)) (cwS 1 hts (gS wd_119 wd_120 wd_92 wcX4_requireState) rfl rfl rfl (by decide +kernel) ⟨(Nat.le_of_ble_eq_true rfl), (Nat.le_of_ble_eq_true rfl)⟩) ⟨fun a U g mk q => by obtain ⟨q0, q1, qZ⟩ := q; exact ⟨q0, q1, zz_same (u := U) (H := U.heap) rfl rfl qZ⟩, fun U hU hW => ⟨rfl, hU, by rw [hU]; exact zz_to hZ hS (fun q h => hA q (Nat.le_trans hS.1 h)) hW⟩⟩ rfl rfl hl.1 rfl (lv_room (Nat.le_of_ble_eq_true rfl)) dX4_split_14 ⟨(Nat.le_of_ble_eq_true rfl), (Nat.le_of_ble_eq_true rfl)⟩) hS (fun q h1 h2 => absurd h2 (Nat.not_le.mpr h1)) (fun q h => hA q (Nat.le_trans hS.1 h)) (fun q h1 h2 => absurd h2 (Nat.not_le.mpr h1)) (fun E ce q9 _ t H1 locs1 ht hvm hw hB hz1 hk1 hS hce hcv hcl => ?_) (fun _ t H1 locs1 ht hvm hw hB hz1 hk1 hS => ?_)
    · skip
      have c_4 : ¬ fX4_requireState (k_open u x1.toNatClampNeg) = 0 := by rw [hw]; decide
      subst hB
      have hP := hP.kept (fun k q hq => hk1 q.1 (hP k q hq).lt (Nat.not_le.mpr (hP k q hq).lt))
      exact vy_out (vx_out (fun x hx => (hxt x hx).elim) hlocks hce hcv hcl (fun t ht ha => ⟨u, trivial, ⟨⟨3, (by unfold fX4_split; rw [if_pos c_1, if_neg c_4]), rfl⟩, by rw [ht]; exact hP, hD⟩, hS.F ht⟩) hS.2.2 (Nat.le_of_ble_eq_true rfl) (Nat.le_of_ble_eq_true rfl))
    · skip
      have hH1 : H1 = _ := ht.symm.trans hB
      subst hH1
      have c_4 : fX4_requireState (k_open u x1.toNatClampNeg) = 0 := hw
      refine lv_aload_n hx hb dX4_split_17 rfl (lv_at hl 0 rfl) ?_
      refine va_get (D := (dC, dI)) (C := RX4) (T := TX4) (N := 9) (v := .ref (h 1)) hx hb hts (fi_X4 _) hown hK hP 0 (cw_at0 _ _ _) rfl 0 (by decide) (hts _ (List.mem_cons_of_mem _ wd_11)) (fun _ h9 => h9) rfl dX4_split_18 ?_
      refine vp_callSi (W.runV (As := []) (rest := []) ⟨hx, hb, hml, hown, hts⟩ (kX1_haveRoom l dC dI g h u) (cwV 0 hts (gV wd_95 wd_96 wd_97 wd_28 wcX1_haveRoom) rfl rfl rfl (by decide +kernel) ⟨(Nat.le_of_ble_eq_true rfl), (Nat.le_of_ble_eq_true rfl)⟩) ⟨fun a U g mk q => by obtain ⟨q0, qP, qK⟩ := q; exact ⟨q0, qP, va_K.moved (u := U) (U := U.calling g mk a) (Vm.Alike.refl U.vm) qK⟩, va_recv hK hP (ci := 0) (q0 := 1) rfl (cw_at1 _ _ _), fun U hU hW => ⟨rfl, by rw [hU]; exact hP, va_K.moved hW.alike hK⟩⟩ rfl rfl hl.1 rfl (lv_room (Nat.le_of_ble_eq_true rfl)) dX4_split_21 ⟨(Nat.le_of_ble_eq_true rfl), (Nat.le_of_ble_eq_true rfl)⟩) (fun r_5 hw => ?_)
      subst hw
      refine lv_if_eq (tgt := 42) hx hb dX4_split_24 (by decide) (fun c_6 => ?_) (fun c_6 => ?_)
      · skip
        have t_7 : (fX1_haveRoom u).toInt = 0 := i_eq c_6 rfl (by decide)
        refine lv_iconst (v := 0) hx hb dX4_split_42 (by decide) ?_
        refine vy_callv (vy_runS (As := [.int 0]) (rest := []) ⟨hx, hb, hml, hown, hts⟩ (kX4_requireRoom l hl9 dC dI _ 0) (cwS 1 hts (gS wd_99 wd_100 wd_92 wcX4_requireRoom) rfl rfl rfl (by decide +kernel) ⟨(Nat.le_of_ble_eq_true rfl), (Nat.le_of_ble_eq_true rfl)⟩) ⟨fun a U g mk q => by obtain ⟨q0, q1, qZ⟩ := q; exact ⟨q0, q1, zz_same (u := U) (H := U.heap) rfl rfl qZ⟩, fun U hU hW => ⟨rfl, hU, by rw [hU]; exact zz_to hZ hS (fun q h => hA q (Nat.le_trans hS.1 h)) hW⟩⟩ rfl rfl hl.1 rfl (lv_room (Nat.le_of_ble_eq_true rfl)) dX4_split_43 ⟨(Nat.le_of_ble_eq_true rfl), (Nat.le_of_ble_eq_true rfl)⟩) hS (fun q h1 h2 => absurd h2 (Nat.not_le.mpr h1)) (fun q h => hA q (Nat.le_trans hS.1 h)) (fun q h1 h2 => absurd h2 (Nat.not_le.mpr h1)) (fun E ce q9 _ t H1 locs1 ht hvm hw hB hz1 hk1 hS hce hcv hcl => ?_) (fun _ t H1 locs1 ht hvm hw hB hz1 hk1 hS => ?_)
        · skip
          subst hB
          have hP := hP.kept (fun k q hq => hk1 q.1 (hP k q hq).lt (Nat.not_le.mpr (hP k q hq).lt))
          exact vy_out (vx_out (fun x hx => (hxt x hx).elim) hlocks hce hcv hcl (fun t ht ha => ⟨u, trivial, ⟨⟨4, (by unfold fX4_split; rw [if_pos c_1, if_pos c_4, if_pos c_6]), rfl⟩, by rw [ht]; exact hP, hD⟩, hS.F ht⟩) hS.2.2 (Nat.le_of_ble_eq_true rfl) (Nat.le_of_ble_eq_true rfl))
        · skip
          exact absurd hw (by decide)
      · skip
        have t_9 : (fX1_haveRoom u).toInt ≠ 0 := i_ne c_6 rfl (by decide)
        have t_10 := hl_room c_6
        refine lv_aload_n hx hb dX4_split_27 rfl (lv_at hl 0 rfl) ?_
        refine va_get (D := (dC, dI)) (C := RX4) (T := TX4) (N := 9) (v := .ref (h 3)) hx hb hts (fi_X4 _) hown hK hP 0 (cw_at0 _ _ _) rfl 2 (by decide) (hts _ (List.mem_cons_of_mem _ wd_87)) (fun _ h9 => h9) rfl dX4_split_28 ?_
        refine lv_iconst (v := 2) hx hb dX4_split_31 (by decide) ?_
        refine vp_callSi (W.runV (As := [.int 2]) (rest := []) ⟨hx, hb, hml, hown, hts⟩ (kX2_haveRoomFor l dC dI g h u 2) (cwV 1 hts (gV wd_102 wd_103 wd_104 wd_105 wcX2_haveRoomFor) rfl rfl rfl (by decide +kernel) ⟨(Nat.le_of_ble_eq_true rfl), (Nat.le_of_ble_eq_true rfl)⟩) ⟨fun a U g mk q => by obtain ⟨q0, qP, qK⟩ := q; exact ⟨q0, qP, va_K.moved (u := U) (U := U.calling g mk a) (Vm.Alike.refl U.vm) qK⟩, va_recv hK hP (ci := 1) (q0 := 3) rfl (cw_at3 _ _ _), fun U hU hW => ⟨rfl, by rw [hU]; exact hP, va_K.moved hW.alike hK⟩⟩ rfl rfl hl.1 rfl (lv_room (Nat.le_of_ble_eq_true rfl)) dX4_split_32 ⟨(Nat.le_of_ble_eq_true rfl), (Nat.le_of_ble_eq_true rfl)⟩) (fun r_11 hw => ?_)
        subst hw
        refine lv_if_eq (tgt := 42) hx hb dX4_split_35 (by decide) (fun c_12 => ?_) (fun c_12 => ?_)
        · skip
          have t_13 : (fX2_haveRoomFor u 2).toInt = 0 := i_eq c_12 rfl (by decide)
          refine lv_iconst (v := 0) hx hb dX4_split_42 (by decide) ?_
          refine vy_callv (vy_runS (As := [.int 0]) (rest := []) ⟨hx, hb, hml, hown, hts⟩ (kX4_requireRoom l hl9 dC dI _ 0) (cwS 1 hts (gS wd_99 wd_100 wd_92 wcX4_requireRoom) rfl rfl rfl (by decide +kernel) ⟨(Nat.le_of_ble_eq_true rfl), (Nat.le_of_ble_eq_true rfl)⟩) ⟨fun a U g mk q => by obtain ⟨q0, q1, qZ⟩ := q; exact ⟨q0, q1, zz_same (u := U) (H := U.heap) rfl rfl qZ⟩, fun U hU hW => ⟨rfl, hU, by rw [hU]; exact zz_to hZ hS (fun q h => hA q (Nat.le_trans hS.1 h)) hW⟩⟩ rfl rfl hl.1 rfl (lv_room (Nat.le_of_ble_eq_true rfl)) dX4_split_43 ⟨(Nat.le_of_ble_eq_true rfl), (Nat.le_of_ble_eq_true rfl)⟩) hS (fun q h1 h2 => absurd h2 (Nat.not_le.mpr h1)) (fun q h => hA q (Nat.le_trans hS.1 h)) (fun q h1 h2 => absurd h2 (Nat.not_le.mpr h1)) (fun E ce q9 _ t H1 locs1 ht hvm hw hB hz1 hk1 hS hce hcv hcl => ?_) (fun _ t H1 locs1 ht hvm hw hB hz1 hk1 hS => ?_)
          · skip
            subst hB
            have hP := hP.kept (fun k q hq => hk1 q.1 (hP k q hq).lt (Nat.not_le.mpr (hP k q hq).lt))
            exact vy_out (vx_out (fun x hx => (hxt x hx).elim) hlocks hce hcv hcl (fun t ht ha => ⟨u, trivial, ⟨⟨4, (by unfold fX4_split; rw [if_pos c_1, if_pos c_4, if_neg c_6, if_pos c_12]), rfl⟩, by rw [ht]; exact hP, hD⟩, hS.F ht⟩) hS.2.2 (Nat.le_of_ble_eq_true rfl) (Nat.le_of_ble_eq_true rfl))
          · skip
            exact absurd hw (by decide)
        · skip
          have t_15 : (fX2_haveRoomFor u 2).toInt ≠ 0 := i_ne c_12 rfl (by decide)
          have t_16 := hr_room2 c_12 hI3
          refine lv_iconst (v := 1) hx hb dX4_split_38 (by decide) ?_
          refine lv_goto (tgt := 43) hx hb dX4_split_39 (by decide) ?_
          refine vy_callv (vy_runS (As := [.int 1]) (rest := []) ⟨hx, hb, hml, hown, hts⟩ (kX4_requireRoom l hl9 dC dI _ 1) (cwS 1 hts (gS wd_99 wd_100 wd_92 wcX4_requireRoom) rfl rfl rfl (by decide +kernel) ⟨(Nat.le_of_ble_eq_true rfl), (Nat.le_of_ble_eq_true rfl)⟩) ⟨fun a U g mk q => by obtain ⟨q0, q1, qZ⟩ := q; exact ⟨q0, q1, zz_same (u := U) (H := U.heap) rfl rfl qZ⟩, fun U hU hW => ⟨rfl, hU, by rw [hU]; exact zz_to hZ hS (fun q h => hA q (Nat.le_trans hS.1 h)) hW⟩⟩ rfl rfl hl.1 rfl (lv_room (Nat.le_of_ble_eq_true rfl)) dX4_split_43 ⟨(Nat.le_of_ble_eq_true rfl), (Nat.le_of_ble_eq_true rfl)⟩) hS (fun q h1 h2 => absurd h2 (Nat.not_le.mpr h1)) (fun q h => hA q (Nat.le_trans hS.1 h)) (fun q h1 h2 => absurd h2 (Nat.not_le.mpr h1)) (fun E ce q9 _ t H1 locs1 ht hvm hw hB hz1 hk1 hS hce hcv hcl => ?_) (fun _ t H1 locs1 ht hvm hw hB hz1 hk1 hS => ?_)
          · skip
            exact absurd hw (by decide)
          · skip
            have hH1 : H1 = _ := ht.symm.trans hB
            subst hH1
            refine lv_aload_n hx hb dX4_split_46 rfl (lv_at hl 0 rfl) ?_
            refine va_get (D := (dC, dI)) (C := RX4) (T := TX4) (N := 9) (v := .ref (h 1)) hx hb hts (fi_X4 _) hown hK hP 0 (cw_at0 _ _ _) rfl 0 (by decide) (hts _ (List.mem_cons_of_mem _ wd_11)) (fun _ h9 => h9) rfl dX4_split_47 ?_
            refine lv_iload_n hx hb dX4_split_50 rfl (lv_at hl 1 rfl) ?_
            have hFc := va_free (wc := cw g h u) hD hS hA [0, 1, 2, 3, 4, 5, 6, 7, 8, 9, 10, 11, 12, 13, 14, 15, 16, 17, 18, 19, 20, 21, 22, 23] rfl
            refine va_calli (va_runV (As := [.int x1]) (rest := []) ⟨hx, hb, hml, hown, hts⟩ (kX1_addPartOf l dC dI g h u _ x1 (by omega) (by omega)) (cwV 1 hts (gV wd_140 wd_141 wd_142 wd_28 wcX1_addPartOf) rfl rfl rfl (by decide +kernel) ⟨(Nat.le_of_ble_eq_true rfl), (Nat.le_of_ble_eq_true rfl)⟩) ⟨fun a U g mk q => by obtain ⟨q0, q1, qP, qK, qD⟩ := q; exact ⟨q0, q1, qP, va_K.moved (u := U) (U := U.calling g mk a) (Vm.Alike.refl U.vm) qK, qD⟩, va_recv hK hP (ci := 0) (q0 := 1) rfl (cw_at1 _ _ _), fun U hU hW => ⟨rfl, by rw [hU], by rw [hU]; exact hP, va_K.moved hW.alike hK, hD.weaken (fun _ _ _ _ => trivial)⟩⟩ rfl rfl hl.1 rfl (lv_room (Nat.le_of_ble_eq_true rfl)) dX4_split_51 ⟨(Nat.le_of_ble_eq_true rfl), (Nat.le_of_ble_eq_true rfl)⟩) hS (fun q _ h => hFc q h) hFc (fun r_19 u_18 t H locs ht hvm hw hB hz1 hk1 hS => ?_)
            obtain ⟨hP, hD⟩ := hB
            rw [ht] at hP
            have hD := hD.weaken (fun _ _ _ h => hFc _ h)
            have e_20 : r_19 = (fX1_addPartOf u x1).1 := congrArg Prod.fst hw
            have e_21 : u_18 = (fX1_addPartOf u x1).2 := congrArg Prod.snd hw
            clear hw
            refine lv_istore_n (lv' := [(2, .int r_19), (0, .ref (h 0)), (1, .int x1)]) hx hb dX4_split_54 rfl hl (by decide) rfl (fun ls hl => ?_)
            refine lv_aload_n hx hb dX4_split_55 rfl (lv_at hl 1 rfl) ?_
            refine va_get (D := (dC, dI)) (C := RX4) (T := TX4) (N := 9) (v := .ref (h 3)) hx hb hts (fi_X4 _) hown hK hP 0 (cw_at0 _ _ _) rfl 2 (by decide) (hts _ (List.mem_cons_of_mem _ wd_87)) (fun _ h9 => h9) rfl dX4_split_56 ?_
            refine lv_iload_n hx hb dX4_split_59 rfl (lv_at hl 0 rfl) ?_
            refine lv_iconst (v := 2) hx hb dX4_split_60 (by decide) ?_
            refine lv_iload_n hx hb dX4_split_61 rfl (lv_at hl 2 rfl) ?_
            have hFc := va_free (wc := cw g h u_18) hD hS hA [0, 1, 2, 3, 4, 5, 6, 7, 8, 9, 10, 11, 12, 13, 14, 15, 16, 17, 18, 19, 20, 21, 22, 23] rfl
            refine va_callv (va_runV (As := [.int r_19, .int 2, .int x1]) (rest := []) ⟨hx, hb, hml, hown, hts⟩ (kX2_write l dC dI g h u_18 _ r_19 2 x1 (by subst e_21; subst e_20; show 0 ≤ (k_rwrit u).toInt ∧ (k_rwrit u).toInt < 400; omega)) (cwV 3 hts (gV wd_108 wd_109 wd_110 wd_105 wcX2_write) rfl rfl rfl (by decide +kernel) ⟨(Nat.le_of_ble_eq_true rfl), (Nat.le_of_ble_eq_true rfl)⟩) ⟨fun a U g mk q => by obtain ⟨q0, q1, qP, qK, qD⟩ := q; exact ⟨q0, q1, qP, va_K.moved (u := U) (U := U.calling g mk a) (Vm.Alike.refl U.vm) qK, qD⟩, va_recv hK hP (ci := 1) (q0 := 3) rfl (cw_at3 _ _ _), fun U hU hW => ⟨rfl, by rw [hU], by rw [hU]; exact hP, va_K.moved hW.alike hK, hD.weaken (fun _ _ _ _ => trivial)⟩⟩ rfl rfl hl.1 rfl (lv_room (Nat.le_of_ble_eq_true rfl)) dX4_split_62 ⟨(Nat.le_of_ble_eq_true rfl), (Nat.le_of_ble_eq_true rfl)⟩) hS (fun q _ h => hFc q h) hFc (fun u_22 t H locs ht hvm hw hB hz1 hk1 hS => ?_)
            obtain ⟨hP, hD⟩ := hB
            rw [ht] at hP
            have hD := hD.weaken (fun _ _ _ h => hFc _ h)
            have e_24 : u_22 = fX2_write u_18 r_19 2 x1 := hw
            clear hw
            refine lv_aload_n hx hb dX4_split_65 rfl (lv_at hl 1 rfl) ?_
            refine va_get (D := (dC, dI)) (C := RX4) (T := TX4) (N := 9) (v := .ref (h 3)) hx hb hts (fi_X4 _) hown hK hP 0 (cw_at0 _ _ _) rfl 2 (by decide) (hts _ (List.mem_cons_of_mem _ wd_87)) (fun _ h9 => h9) rfl dX4_split_66 ?_
            refine lv_iload_n hx hb dX4_split_69 rfl (lv_at hl 2 rfl) ?_
            refine lv_iconst (v := 3) hx hb dX4_split_70 (by decide) ?_
            refine lv_iload_n hx hb dX4_split_71 rfl (lv_at hl 0 rfl) ?_
            have hFc := va_free (wc := cw g h u_22) hD hS hA [0, 1, 2, 3, 4, 5, 6, 7, 8, 9, 10, 11, 12, 13, 14, 15, 16, 17, 18, 19, 20, 21, 22, 23] rfl
            refine va_callv (va_runV (As := [.int x1, .int 3, .int r_19]) (rest := []) ⟨hx, hb, hml, hown, hts⟩ (kX2_write l dC dI g h u_22 _ x1 3 r_19 (by subst e_24; subst e_21; subst e_20; have hm2 := i_inc (x := k_rwrit u) (by omega); show 0 ≤ (k_rwrit u + 1).toInt ∧ (k_rwrit u + 1).toInt < 400; omega)) (cwV 3 hts (gV wd_108 wd_109 wd_110 wd_105 wcX2_write) rfl rfl rfl (by decide +kernel) ⟨(Nat.le_of_ble_eq_true rfl), (Nat.le_of_ble_eq_true rfl)⟩) ⟨fun a U g mk q => by obtain ⟨q0, q1, qP, qK, qD⟩ := q; exact ⟨q0, q1, qP, va_K.moved (u := U) (U := U.calling g mk a) (Vm.Alike.refl U.vm) qK, qD⟩, va_recv hK hP (ci := 1) (q0 := 3) rfl (cw_at3 _ _ _), fun U hU hW => ⟨rfl, by rw [hU], by rw [hU]; exact hP, va_K.moved hW.alike hK, hD.weaken (fun _ _ _ _ => trivial)⟩⟩ rfl rfl hl.1 rfl (lv_room (Nat.le_of_ble_eq_true rfl)) dX4_split_72 ⟨(Nat.le_of_ble_eq_true rfl), (Nat.le_of_ble_eq_true rfl)⟩) hS (fun q _ h => hFc q h) hFc (fun u_25 t H locs ht hvm hw hB hz1 hk1 hS => ?_)
            obtain ⟨hP, hD⟩ := hB
            rw [ht] at hP
            have hD := hD.weaken (fun _ _ _ h => hFc _ h)
            have e_27 : u_25 = fX2_write u_22 x1 3 r_19 := hw
            clear hw
            refine lv_iload_n hx hb dX4_split_75 rfl (lv_at hl 0 rfl) ?_
            exact vy_ret (W.iret (v := r_19) hx hb hr (fun t ht hW => ⟨⟨r_19, u_25, rfl, (by subst e_27; subst e_24; subst e_21; subst e_20; unfold fX4_split; rw [if_pos c_1, if_pos c_4, if_neg c_6, if_neg c_12]), by rw [ht]; exact hP, hD⟩, hS.F ht⟩) hS.2.2 dX4_split_76)
set_option maxHeartbeats 4000000 in
set_option maxRecDepth 100000 in
theorem kX4_join (l : Launch) (hl9 : l.stackTraces = false) (dC : Nat → ClassId) (dI : Nat → Nat → Nat) (g : cG) (h : Nat → Nat) (u : cS) (sz : Nat) (x1 : Int32) (x2 : Int32) (hI : cInv u) : vy_Met l yX4_join wsX4_join ({ frames := 7, cells := 8, slots := 48, locals := 103 }) (va_Pc [.ref (h 0), .int x1, .int x2] (fun U => U.heap.size = sz ∧ va_P (dC, dI) vwCl (cw g h u) U.heap ∧ va_K (dC, dI) vwCl (cTys g) U ∧ va_D (fun _ => True) (cw g h u) ∧ zz (va_A (cw g h u) sz) U U.heap)) (va_Qv (fun u2 => fX4_join u x1 x2 = (0, 0, u2)) (fun (u2 : cS) (t : State) => va_P (dC, dI) vwCl (cw g h u2) t.heap ∧ va_D (va_A (cw g h u) sz) (cw g h u2)) (va_A (cw g h u) sz)) (vx_X (fun _ => True) (fun E (u2 : cS) t => (∃ k : Nat, fX4_join u x1 x2 = (k, 0, u2) ∧ ex_is k E) ∧ va_P (dC, dI) vwCl (cw g h u2) t.heap ∧ va_D (va_A (cw g h u) sz) (cw g h u2)) (va_A (cw g h u) sz)) 0 0 8 48 (va_A (cw g h u) sz) := by
  refine vy_ofW (cc := cX4_join) (maxL := 3) (ret := none) (by decide) rfl ?_
  intro p e s m args below meth c s₁ B hml hxt hv
  obtain ⟨rfl, hsz, hP, hK, hD0, hZ⟩ := hv
  have hx := B.exec
  have hb := B.bytes
  have hr := B.returns
  have hts := atoms_spec (ws := wsX4_join) B.pre
  have hown : s.vm.findClass RX4 = some m.cls := findClass_of_methodNamed B.named
  have hlocks := B.notSynchronized
  subst hsz
  have hD := hD0.self (sz := s.heap.size)
  generalize hAe : va_A (cw g h u) s.heap.size = A at hD hZ ⊢
  have hA : ∀ q : Nat, s.heap.size ≤ q → A q := fun q h => by rw [← hAe]; exact Or.inr h
  have hS : va_S A s.heap s.heap [] := va_S.rf
  have hl := lv_entry ([.ref (h 0), .int x1, .int x2]) (n := 3) (Nat.le_of_ble_eq_true rfl)
  rw [lg_entry_eq]
  generalize (lg_sl ([.ref (h 0), .int x1, .int x2]) ++ List.replicate (3 - (lg_sl ([.ref (h 0), .int x1, .int x2])).length) Slot.unset).toArray = ls at hl ⊢
  have hl : lv_has ls 3 [(0, .ref (h 0)), (1, .int x1), (2, .int x2)] := hl
  obtain ⟨hI1, hI2, hI3, hI4, hI5, hI6⟩ := id hI
  refine lv_aload_n hx hb dX4_join_0 rfl (lv_at hl 0 rfl) ?_
  refine lv_iload_n hx hb dX4_join_1 rfl (lv_at hl 1 rfl) ?_
  refine vy_callv (vy_runV (As := [.int x1]) (rest := []) ⟨hx, hb, hml, hown, hts⟩ (kX4_requireLot l hl9 dC dI g h u _ x1) (cwV 1 hts (gV wd_114 wd_115 wd_116 wd_92 wcX4_requireLot) rfl rfl rfl (by decide +kernel) ⟨(Nat.le_of_ble_eq_true rfl), (Nat.le_of_ble_eq_true rfl)⟩) ⟨fun a U g mk q => by obtain ⟨q0, q1, qP, qK, qZ⟩ := q; exact ⟨q0, q1, qP, va_K.moved (u := U) (U := U.calling g mk a) (Vm.Alike.refl U.vm) qK, zz_same (u := U) (H := U.heap) rfl rfl qZ⟩, va_recv hK hP (ci := 3) (q0 := 0) rfl (cw_at0 _ _ _), fun U hU hW => ⟨rfl, hU, by rw [hU]; exact hP, va_K.moved hW.alike hK, by rw [hU]; exact zz_to hZ hS (fun q h => hA q (Nat.le_trans hS.1 h)) hW⟩⟩ rfl rfl hl.1 rfl (lv_room (Nat.le_of_ble_eq_true rfl)) dX4_join_2 ⟨(Nat.le_of_ble_eq_true rfl), (Nat.le_of_ble_eq_true rfl)⟩) hS (fun q h1 h2 => absurd h2 (Nat.not_le.mpr h1)) (fun q h => hA q (Nat.le_trans hS.1 h)) (fun q h1 h2 => absurd h2 (Nat.not_le.mpr h1)) (fun E ce q9 _ t H1 locs1 ht hvm hw hB hz1 hk1 hS hce hcv hcl => ?_) (fun _ t H1 locs1 ht hvm hw hB hz1 hk1 hS => ?_)
  · skip
    have c_1 : ¬ fX4_requireLot u x1 = 0 := by rw [hw]; decide
    subst hB
    have hP := hP.kept (fun k q hq => hk1 q.1 (hP k q hq).lt (Nat.not_le.mpr (hP k q hq).lt))
    exact vy_out (vx_out (fun x hx => (hxt x hx).elim) hlocks hce hcv hcl (fun t ht ha => ⟨u, trivial, ⟨⟨1, (by unfold fX4_join; rw [if_neg c_1]), rfl⟩, by rw [ht]; exact hP, hD⟩, hS.F ht⟩) hS.2.2 (Nat.le_of_ble_eq_true rfl) (Nat.le_of_ble_eq_true rfl))
  · skip
    have hH1 : H1 = _ := ht.symm.trans hB
    subst hH1
    have c_1 : fX4_requireLot u x1 = 0 := hw
    have t_2 := rl_lo c_1
    have t_3 := rl_hi c_1
    refine lv_aload_n hx hb dX4_join_5 rfl (lv_at hl 0 rfl) ?_
    refine lv_iload_n hx hb dX4_join_6 rfl (lv_at hl 2 rfl) ?_
    refine vy_callv (vy_runV (As := [.int x2]) (rest := []) ⟨hx, hb, hml, hown, hts⟩ (kX4_requireLot l hl9 dC dI g h u _ x2) (cwV 1 hts (gV wd_114 wd_115 wd_116 wd_92 wcX4_requireLot) rfl rfl rfl (by decide +kernel) ⟨(Nat.le_of_ble_eq_true rfl), (Nat.le_of_ble_eq_true rfl)⟩) ⟨fun a U g mk q => by obtain ⟨q0, q1, qP, qK, qZ⟩ := q; exact ⟨q0, q1, qP, va_K.moved (u := U) (U := U.calling g mk a) (Vm.Alike.refl U.vm) qK, zz_same (u := U) (H := U.heap) rfl rfl qZ⟩, va_recv hK hP (ci := 3) (q0 := 0) rfl (cw_at0 _ _ _), fun U hU hW => ⟨rfl, hU, by rw [hU]; exact hP, va_K.moved hW.alike hK, by rw [hU]; exact zz_to hZ hS (fun q h => hA q (Nat.le_trans hS.1 h)) hW⟩⟩ rfl rfl hl.1 rfl (lv_room (Nat.le_of_ble_eq_true rfl)) dX4_join_7 ⟨(Nat.le_of_ble_eq_true rfl), (Nat.le_of_ble_eq_true rfl)⟩) hS (fun q h1 h2 => absurd h2 (Nat.not_le.mpr h1)) (fun q h => hA q (Nat.le_trans hS.1 h)) (fun q h1 h2 => absurd h2 (Nat.not_le.mpr h1)) (fun E ce q9 _ t H1 locs1 ht hvm hw hB hz1 hk1 hS hce hcv hcl => ?_) (fun _ t H1 locs1 ht hvm hw hB hz1 hk1 hS => ?_)
    · skip
      have c_4 : ¬ fX4_requireLot u x2 = 0 := by rw [hw]; decide
      subst hB
      have hP := hP.kept (fun k q hq => hk1 q.1 (hP k q hq).lt (Nat.not_le.mpr (hP k q hq).lt))
      exact vy_out (vx_out (fun x hx => (hxt x hx).elim) hlocks hce hcv hcl (fun t ht ha => ⟨u, trivial, ⟨⟨1, (by unfold fX4_join; rw [if_pos c_1, if_neg c_4]), rfl⟩, by rw [ht]; exact hP, hD⟩, hS.F ht⟩) hS.2.2 (Nat.le_of_ble_eq_true rfl) (Nat.le_of_ble_eq_true rfl))
    · skip
      have hH1 : H1 = _ := ht.symm.trans hB
      subst hH1
      have c_4 : fX4_requireLot u x2 = 0 := hw
      have t_5 := rl_lo c_4
      have t_6 := rl_hi c_4
      refine lv_iload_n hx hb dX4_join_10 rfl (lv_at hl 1 rfl) ?_
      refine lv_iload_n hx hb dX4_join_11 rfl (lv_at hl 2 rfl) ?_
      refine lv_icmp_eq (tgt := 55) hx hb dX4_join_12 (by decide) (fun c_7 => ?_) (fun c_7 => ?_)
      · skip
        have t_8 : x1.toInt = x2.toInt := i_eq c_7 rfl rfl
        refine lv_iconst (v := 0) hx hb dX4_join_55 (by decide) ?_
        refine vy_callv (vy_runS (As := [.int 0]) (rest := []) ⟨hx, hb, hml, hown, hts⟩ (kX4_requireState l hl9 dC dI _ 0) (cwS 1 hts (gS wd_119 wd_120 wd_92 wcX4_requireState) rfl rfl rfl (by decide +kernel) ⟨(Nat.le_of_ble_eq_true rfl), (Nat.le_of_ble_eq_true rfl)⟩) ⟨fun a U g mk q => by obtain ⟨q0, q1, qZ⟩ := q; exact ⟨q0, q1, zz_same (u := U) (H := U.heap) rfl rfl qZ⟩, fun U hU hW => ⟨rfl, hU, by rw [hU]; exact zz_to hZ hS (fun q h => hA q (Nat.le_trans hS.1 h)) hW⟩⟩ rfl rfl hl.1 rfl (lv_room (Nat.le_of_ble_eq_true rfl)) dX4_join_56 ⟨(Nat.le_of_ble_eq_true rfl), (Nat.le_of_ble_eq_true rfl)⟩) hS (fun q h1 h2 => absurd h2 (Nat.not_le.mpr h1)) (fun q h => hA q (Nat.le_trans hS.1 h)) (fun q h1 h2 => absurd h2 (Nat.not_le.mpr h1)) (fun E ce q9 _ t H1 locs1 ht hvm hw hB hz1 hk1 hS hce hcv hcl => ?_) (fun _ t H1 locs1 ht hvm hw hB hz1 hk1 hS => ?_)
        · skip
          subst hB
          have hP := hP.kept (fun k q hq => hk1 q.1 (hP k q hq).lt (Nat.not_le.mpr (hP k q hq).lt))
          exact vy_out (vx_out (fun x hx => (hxt x hx).elim) hlocks hce hcv hcl (fun t ht ha => ⟨u, trivial, ⟨⟨3, (by unfold fX4_join; rw [if_pos c_1, if_pos c_4, if_pos c_7]), rfl⟩, by rw [ht]; exact hP, hD⟩, hS.F ht⟩) hS.2.2 (Nat.le_of_ble_eq_true rfl) (Nat.le_of_ble_eq_true rfl))
        · skip
          exact absurd hw (by decide)
      · skip
        have t_10 : x1.toInt ≠ x2.toInt := i_ne c_7 rfl rfl
        refine lv_aload_n hx hb dX4_join_15 rfl (lv_at hl 0 rfl) ?_
        refine va_get (D := (dC, dI)) (C := RX4) (T := TX4) (N := 9) (v := .ref (h 1)) hx hb hts (fi_X4 _) hown hK hP 0 (cw_at0 _ _ _) rfl 0 (by decide) (hts _ (List.mem_cons_of_mem _ wd_11)) (fun _ h9 => h9) rfl dX4_join_16 ?_
        refine va_get (D := (dC, dI)) (C := RX1) (T := TX1) (N := 9) (v := .ref (h 12)) hx hb hts (fi_X1 _) hown hK hP 1 (cw_at1 _ _ _) rfl 4 (by decide) (hts _ (List.mem_cons_of_mem _ wd_118)) (fun _ h9 => h9) rfl dX4_join_19 ?_
        refine lv_iload_n hx hb dX4_join_22 rfl (lv_at hl 1 rfl) ?_
        refine va_zald (f := k_open u) hx hb hK hP 12 1 (cw_at12 _ _ _) rfl (vp_in_iff.mpr (by omega)) dX4_join_23 ?_
        refine lv_if_eq (tgt := 55) hx hb dX4_join_24 (by decide) (fun c_11 => ?_) (fun c_11 => ?_)
        · skip
          have t_12 : (k_open u x1.toNatClampNeg).toInt = 0 := i_eq c_11 rfl (by decide)
          refine lv_iconst (v := 0) hx hb dX4_join_55 (by decide) ?_
          refine vy_callv (vy_runS (As := [.int 0]) (rest := []) ⟨hx, hb, hml, hown, hts⟩ (kX4_requireState l hl9 dC dI _ 0) (cwS 1 hts (gS wd_119 wd_120 wd_92 wcX4_requireState) rfl rfl rfl (by decide +kernel) ⟨(Nat.le_of_ble_eq_true rfl), (Nat.le_of_ble_eq_true rfl)⟩) ⟨fun a U g mk q => by obtain ⟨q0, q1, qZ⟩ := q; exact ⟨q0, q1, zz_same (u := U) (H := U.heap) rfl rfl qZ⟩, fun U hU hW => ⟨rfl, hU, by rw [hU]; exact zz_to hZ hS (fun q h => hA q (Nat.le_trans hS.1 h)) hW⟩⟩ rfl rfl hl.1 rfl (lv_room (Nat.le_of_ble_eq_true rfl)) dX4_join_56 ⟨(Nat.le_of_ble_eq_true rfl), (Nat.le_of_ble_eq_true rfl)⟩) hS (fun q h1 h2 => absurd h2 (Nat.not_le.mpr h1)) (fun q h => hA q (Nat.le_trans hS.1 h)) (fun q h1 h2 => absurd h2 (Nat.not_le.mpr h1)) (fun E ce q9 _ t H1 locs1 ht hvm hw hB hz1 hk1 hS hce hcv hcl => ?_) (fun _ t H1 locs1 ht hvm hw hB hz1 hk1 hS => ?_)
          · skip
            subst hB
            have hP := hP.kept (fun k q hq => hk1 q.1 (hP k q hq).lt (Nat.not_le.mpr (hP k q hq).lt))
            exact vy_out (vx_out (fun x hx => (hxt x hx).elim) hlocks hce hcv hcl (fun t ht ha => ⟨u, trivial, ⟨⟨3, (by unfold fX4_join; rw [if_pos c_1, if_pos c_4, if_neg c_7, if_pos c_11]), rfl⟩, by rw [ht]; exact hP, hD⟩, hS.F ht⟩) hS.2.2 (Nat.le_of_ble_eq_true rfl) (Nat.le_of_ble_eq_true rfl))
          · skip
            exact absurd hw (by decide)
        · skip
          have t_14 : (k_open u x1.toNatClampNeg).toInt ≠ 0 := i_ne c_11 rfl (by decide)
          refine lv_aload_n hx hb dX4_join_27 rfl (lv_at hl 0 rfl) ?_
          refine va_get (D := (dC, dI)) (C := RX4) (T := TX4) (N := 9) (v := .ref (h 1)) hx hb hts (fi_X4 _) hown hK hP 0 (cw_at0 _ _ _) rfl 0 (by decide) (hts _ (List.mem_cons_of_mem _ wd_11)) (fun _ h9 => h9) rfl dX4_join_28 ?_
          refine va_get (D := (dC, dI)) (C := RX1) (T := TX1) (N := 9) (v := .ref (h 12)) hx hb hts (fi_X1 _) hown hK hP 1 (cw_at1 _ _ _) rfl 4 (by decide) (hts _ (List.mem_cons_of_mem _ wd_118)) (fun _ h9 => h9) rfl dX4_join_31 ?_
          refine lv_iload_n hx hb dX4_join_34 rfl (lv_at hl 2 rfl) ?_
          refine va_zald (f := k_open u) hx hb hK hP 12 1 (cw_at12 _ _ _) rfl (vp_in_iff.mpr (by omega)) dX4_join_35 ?_
          refine lv_if_eq (tgt := 55) hx hb dX4_join_36 (by decide) (fun c_15 => ?_) (fun c_15 => ?_)
          · skip
            have t_16 : (k_open u x2.toNatClampNeg).toInt = 0 := i_eq c_15 rfl (by decide)
            refine lv_iconst (v := 0) hx hb dX4_join_55 (by decide) ?_
            refine vy_callv (vy_runS (As := [.int 0]) (rest := []) ⟨hx, hb, hml, hown, hts⟩ (kX4_requireState l hl9 dC dI _ 0) (cwS 1 hts (gS wd_119 wd_120 wd_92 wcX4_requireState) rfl rfl rfl (by decide +kernel) ⟨(Nat.le_of_ble_eq_true rfl), (Nat.le_of_ble_eq_true rfl)⟩) ⟨fun a U g mk q => by obtain ⟨q0, q1, qZ⟩ := q; exact ⟨q0, q1, zz_same (u := U) (H := U.heap) rfl rfl qZ⟩, fun U hU hW => ⟨rfl, hU, by rw [hU]; exact zz_to hZ hS (fun q h => hA q (Nat.le_trans hS.1 h)) hW⟩⟩ rfl rfl hl.1 rfl (lv_room (Nat.le_of_ble_eq_true rfl)) dX4_join_56 ⟨(Nat.le_of_ble_eq_true rfl), (Nat.le_of_ble_eq_true rfl)⟩) hS (fun q h1 h2 => absurd h2 (Nat.not_le.mpr h1)) (fun q h => hA q (Nat.le_trans hS.1 h)) (fun q h1 h2 => absurd h2 (Nat.not_le.mpr h1)) (fun E ce q9 _ t H1 locs1 ht hvm hw hB hz1 hk1 hS hce hcv hcl => ?_) (fun _ t H1 locs1 ht hvm hw hB hz1 hk1 hS => ?_)
            · skip
              subst hB
              have hP := hP.kept (fun k q hq => hk1 q.1 (hP k q hq).lt (Nat.not_le.mpr (hP k q hq).lt))
              exact vy_out (vx_out (fun x hx => (hxt x hx).elim) hlocks hce hcv hcl (fun t ht ha => ⟨u, trivial, ⟨⟨3, (by unfold fX4_join; rw [if_pos c_1, if_pos c_4, if_neg c_7, if_neg c_11, if_pos c_15]), rfl⟩, by rw [ht]; exact hP, hD⟩, hS.F ht⟩) hS.2.2 (Nat.le_of_ble_eq_true rfl) (Nat.le_of_ble_eq_true rfl))
            · skip
              exact absurd hw (by decide)
          · skip
            have t_18 : (k_open u x2.toNatClampNeg).toInt ≠ 0 := i_ne c_15 rfl (by decide)
            refine lv_aload_n hx hb dX4_join_39 rfl (lv_at hl 0 rfl) ?_
            refine va_get (D := (dC, dI)) (C := RX4) (T := TX4) (N := 9) (v := .ref (h 1)) hx hb hts (fi_X4 _) hown hK hP 0 (cw_at0 _ _ _) rfl 0 (by decide) (hts _ (List.mem_cons_of_mem _ wd_11)) (fun _ h9 => h9) rfl dX4_join_40 ?_
            refine lv_iload_n hx hb dX4_join_43 rfl (lv_at hl 1 rfl) ?_
            refine lv_iload_n hx hb dX4_join_44 rfl (lv_at hl 2 rfl) ?_
            refine vp_callSi (W.runV (As := [.int x1, .int x2]) (rest := []) ⟨hx, hb, hml, hown, hts⟩ (kX1_areAlike l dC dI g h u x1 x2 (by omega) (by omega)) (cwV 2 hts (gV wd_144 wd_145 wd_146 wd_28 wcX1_areAlike) rfl rfl rfl (by decide +kernel) ⟨(Nat.le_of_ble_eq_true rfl), (Nat.le_of_ble_eq_true rfl)⟩) ⟨fun a U g mk q => by obtain ⟨q0, qP, qK⟩ := q; exact ⟨q0, qP, va_K.moved (u := U) (U := U.calling g mk a) (Vm.Alike.refl U.vm) qK⟩, va_recv hK hP (ci := 0) (q0 := 1) rfl (cw_at1 _ _ _), fun U hU hW => ⟨rfl, by rw [hU]; exact hP, va_K.moved hW.alike hK⟩⟩ rfl rfl hl.1 rfl (lv_room (Nat.le_of_ble_eq_true rfl)) dX4_join_45 ⟨(Nat.le_of_ble_eq_true rfl), (Nat.le_of_ble_eq_true rfl)⟩) (fun r_19 hw => ?_)
            subst hw
            refine lv_if_eq (tgt := 55) hx hb dX4_join_48 (by decide) (fun c_20 => ?_) (fun c_20 => ?_)
            · skip
              have t_21 : (fX1_areAlike u x1 x2).toInt = 0 := i_eq c_20 rfl (by decide)
              refine lv_iconst (v := 0) hx hb dX4_join_55 (by decide) ?_
              refine vy_callv (vy_runS (As := [.int 0]) (rest := []) ⟨hx, hb, hml, hown, hts⟩ (kX4_requireState l hl9 dC dI _ 0) (cwS 1 hts (gS wd_119 wd_120 wd_92 wcX4_requireState) rfl rfl rfl (by decide +kernel) ⟨(Nat.le_of_ble_eq_true rfl), (Nat.le_of_ble_eq_true rfl)⟩) ⟨fun a U g mk q => by obtain ⟨q0, q1, qZ⟩ := q; exact ⟨q0, q1, zz_same (u := U) (H := U.heap) rfl rfl qZ⟩, fun U hU hW => ⟨rfl, hU, by rw [hU]; exact zz_to hZ hS (fun q h => hA q (Nat.le_trans hS.1 h)) hW⟩⟩ rfl rfl hl.1 rfl (lv_room (Nat.le_of_ble_eq_true rfl)) dX4_join_56 ⟨(Nat.le_of_ble_eq_true rfl), (Nat.le_of_ble_eq_true rfl)⟩) hS (fun q h1 h2 => absurd h2 (Nat.not_le.mpr h1)) (fun q h => hA q (Nat.le_trans hS.1 h)) (fun q h1 h2 => absurd h2 (Nat.not_le.mpr h1)) (fun E ce q9 _ t H1 locs1 ht hvm hw hB hz1 hk1 hS hce hcv hcl => ?_) (fun _ t H1 locs1 ht hvm hw hB hz1 hk1 hS => ?_)
              · skip
                subst hB
                have hP := hP.kept (fun k q hq => hk1 q.1 (hP k q hq).lt (Nat.not_le.mpr (hP k q hq).lt))
                exact vy_out (vx_out (fun x hx => (hxt x hx).elim) hlocks hce hcv hcl (fun t ht ha => ⟨u, trivial, ⟨⟨3, (by unfold fX4_join; rw [if_pos c_1, if_pos c_4, if_neg c_7, if_neg c_11, if_neg c_15, if_pos c_20]), rfl⟩, by rw [ht]; exact hP, hD⟩, hS.F ht⟩) hS.2.2 (Nat.le_of_ble_eq_true rfl) (Nat.le_of_ble_eq_true rfl))
              · skip
                exact absurd hw (by decide)
            · skip
              have t_23 : (fX1_areAlike u x1 x2).toInt ≠ 0 := i_ne c_20 rfl (by decide)
              refine lv_iconst (v := 1) hx hb dX4_join_51 (by decide) ?_
              refine lv_goto (tgt := 56) hx hb dX4_join_52 (by decide) ?_
              refine vy_callv (vy_runS (As := [.int 1]) (rest := []) ⟨hx, hb, hml, hown, hts⟩ (kX4_requireState l hl9 dC dI _ 1) (cwS 1 hts (gS wd_119 wd_120 wd_92 wcX4_requireState) rfl rfl rfl (by decide +kernel) ⟨(Nat.le_of_ble_eq_true rfl), (Nat.le_of_ble_eq_true rfl)⟩) ⟨fun a U g mk q => by obtain ⟨q0, q1, qZ⟩ := q; exact ⟨q0, q1, zz_same (u := U) (H := U.heap) rfl rfl qZ⟩, fun U hU hW => ⟨rfl, hU, by rw [hU]; exact zz_to hZ hS (fun q h => hA q (Nat.le_trans hS.1 h)) hW⟩⟩ rfl rfl hl.1 rfl (lv_room (Nat.le_of_ble_eq_true rfl)) dX4_join_56 ⟨(Nat.le_of_ble_eq_true rfl), (Nat.le_of_ble_eq_true rfl)⟩) hS (fun q h1 h2 => absurd h2 (Nat.not_le.mpr h1)) (fun q h => hA q (Nat.le_trans hS.1 h)) (fun q h1 h2 => absurd h2 (Nat.not_le.mpr h1)) (fun E ce q9 _ t H1 locs1 ht hvm hw hB hz1 hk1 hS hce hcv hcl => ?_) (fun _ t H1 locs1 ht hvm hw hB hz1 hk1 hS => ?_)
              · skip
                exact absurd hw (by decide)
              · skip
                have hH1 : H1 = _ := ht.symm.trans hB
                subst hH1
                refine lv_aload_n hx hb dX4_join_59 rfl (lv_at hl 0 rfl) ?_
                refine va_get (D := (dC, dI)) (C := RX4) (T := TX4) (N := 9) (v := .ref (h 3)) hx hb hts (fi_X4 _) hown hK hP 0 (cw_at0 _ _ _) rfl 2 (by decide) (hts _ (List.mem_cons_of_mem _ wd_87)) (fun _ h9 => h9) rfl dX4_join_60 ?_
                refine lv_iconst (v := 2) hx hb dX4_join_63 (by decide) ?_
                refine vp_callSi (W.runV (As := [.int 2]) (rest := []) ⟨hx, hb, hml, hown, hts⟩ (kX2_haveRoomFor l dC dI g h u 2) (cwV 1 hts (gV wd_102 wd_103 wd_104 wd_105 wcX2_haveRoomFor) rfl rfl rfl (by decide +kernel) ⟨(Nat.le_of_ble_eq_true rfl), (Nat.le_of_ble_eq_true rfl)⟩) ⟨fun a U g mk q => by obtain ⟨q0, qP, qK⟩ := q; exact ⟨q0, qP, va_K.moved (u := U) (U := U.calling g mk a) (Vm.Alike.refl U.vm) qK⟩, va_recv hK hP (ci := 1) (q0 := 3) rfl (cw_at3 _ _ _), fun U hU hW => ⟨rfl, by rw [hU]; exact hP, va_K.moved hW.alike hK⟩⟩ rfl rfl hl.1 rfl (lv_room (Nat.le_of_ble_eq_true rfl)) dX4_join_64 ⟨(Nat.le_of_ble_eq_true rfl), (Nat.le_of_ble_eq_true rfl)⟩) (fun r_25 hw => ?_)
                subst hw
                refine vy_callv (vy_runS (As := [.int (fX2_haveRoomFor u 2)]) (rest := []) ⟨hx, hb, hml, hown, hts⟩ (kX4_requireRoom l hl9 dC dI _ (fX2_haveRoomFor u 2)) (cwS 1 hts (gS wd_99 wd_100 wd_92 wcX4_requireRoom) rfl rfl rfl (by decide +kernel) ⟨(Nat.le_of_ble_eq_true rfl), (Nat.le_of_ble_eq_true rfl)⟩) ⟨fun a U g mk q => by obtain ⟨q0, q1, qZ⟩ := q; exact ⟨q0, q1, zz_same (u := U) (H := U.heap) rfl rfl qZ⟩, fun U hU hW => ⟨rfl, hU, by rw [hU]; exact zz_to hZ hS (fun q h => hA q (Nat.le_trans hS.1 h)) hW⟩⟩ rfl rfl hl.1 rfl (lv_room (Nat.le_of_ble_eq_true rfl)) dX4_join_67 ⟨(Nat.le_of_ble_eq_true rfl), (Nat.le_of_ble_eq_true rfl)⟩) hS (fun q h1 h2 => absurd h2 (Nat.not_le.mpr h1)) (fun q h => hA q (Nat.le_trans hS.1 h)) (fun q h1 h2 => absurd h2 (Nat.not_le.mpr h1)) (fun E ce q9 _ t H1 locs1 ht hvm hw hB hz1 hk1 hS hce hcv hcl => ?_) (fun _ t H1 locs1 ht hvm hw hB hz1 hk1 hS => ?_)
                · skip
                  have c_26 : ¬ fX4_requireRoom (fX2_haveRoomFor u 2) = 0 := by rw [hw]; decide
                  subst hB
                  have hP := hP.kept (fun k q hq => hk1 q.1 (hP k q hq).lt (Nat.not_le.mpr (hP k q hq).lt))
                  exact vy_out (vx_out (fun x hx => (hxt x hx).elim) hlocks hce hcv hcl (fun t ht ha => ⟨u, trivial, ⟨⟨4, (by unfold fX4_join; rw [if_pos c_1, if_pos c_4, if_neg c_7, if_neg c_11, if_neg c_15, if_neg c_20, if_neg c_26]), rfl⟩, by rw [ht]; exact hP, hD⟩, hS.F ht⟩) hS.2.2 (Nat.le_of_ble_eq_true rfl) (Nat.le_of_ble_eq_true rfl))
                · skip
                  have hH1 : H1 = _ := ht.symm.trans hB
                  subst hH1
                  have c_26 : fX4_requireRoom (fX2_haveRoomFor u 2) = 0 := hw
                  have t_27 := hr_roomq2 c_26 hI3
                  refine lv_aload_n hx hb dX4_join_70 rfl (lv_at hl 0 rfl) ?_
                  refine va_get (D := (dC, dI)) (C := RX4) (T := TX4) (N := 9) (v := .ref (h 1)) hx hb hts (fi_X4 _) hown hK hP 0 (cw_at0 _ _ _) rfl 0 (by decide) (hts _ (List.mem_cons_of_mem _ wd_11)) (fun _ h9 => h9) rfl dX4_join_71 ?_
                  refine lv_iload_n hx hb dX4_join_74 rfl (lv_at hl 1 rfl) ?_
                  refine lv_iload_n hx hb dX4_join_75 rfl (lv_at hl 2 rfl) ?_
                  have hFc := va_free (wc := cw g h u) hD hS hA [0, 1, 2, 3, 4, 5, 6, 7, 8, 9, 10, 11, 12, 13, 14, 15, 16, 17, 18, 19, 20, 21, 22, 23] rfl
                  refine va_callv (va_runV (As := [.int x1, .int x2]) (rest := []) ⟨hx, hb, hml, hown, hts⟩ (kX1_closeInto l dC dI g h u _ x1 x2 (by omega) (by omega)) (cwV 2 hts (gV wd_148 wd_149 wd_150 wd_28 wcX1_closeInto) rfl rfl rfl (by decide +kernel) ⟨(Nat.le_of_ble_eq_true rfl), (Nat.le_of_ble_eq_true rfl)⟩) ⟨fun a U g mk q => by obtain ⟨q0, q1, qP, qK, qD⟩ := q; exact ⟨q0, q1, qP, va_K.moved (u := U) (U := U.calling g mk a) (Vm.Alike.refl U.vm) qK, qD⟩, va_recv hK hP (ci := 0) (q0 := 1) rfl (cw_at1 _ _ _), fun U hU hW => ⟨rfl, by rw [hU], by rw [hU]; exact hP, va_K.moved hW.alike hK, hD.weaken (fun _ _ _ _ => trivial)⟩⟩ rfl rfl hl.1 rfl (lv_room (Nat.le_of_ble_eq_true rfl)) dX4_join_76 ⟨(Nat.le_of_ble_eq_true rfl), (Nat.le_of_ble_eq_true rfl)⟩) hS (fun q _ h => hFc q h) hFc (fun u_28 t H locs ht hvm hw hB hz1 hk1 hS => ?_)
                  obtain ⟨hP, hD⟩ := hB
                  rw [ht] at hP
                  have hD := hD.weaken (fun _ _ _ h => hFc _ h)
                  have e_30 : u_28 = fX1_closeInto u x1 x2 := hw
                  clear hw
                  refine lv_aload_n hx hb dX4_join_79 rfl (lv_at hl 0 rfl) ?_
                  refine va_get (D := (dC, dI)) (C := RX4) (T := TX4) (N := 9) (v := .ref (h 2)) hx hb hts (fi_X4 _) hown hK hP 0 (cw_at0 _ _ _) rfl 1 (by decide) (hts _ (List.mem_cons_of_mem _ wd_13)) (fun _ h9 => h9) rfl dX4_join_80 ?_
                  refine lv_iload_n hx hb dX4_join_83 rfl (lv_at hl 2 rfl) ?_
                  refine lv_iload_n hx hb dX4_join_84 rfl (lv_at hl 1 rfl) ?_
                  have hFc := va_free (wc := cw g h u_28) hD hS hA [0, 1, 2, 3, 4, 5, 6, 7, 8, 9, 10, 11, 12, 13, 14, 15, 16, 17, 18, 19, 20, 21, 22, 23] rfl
                  refine va_callv (va_runV (As := [.int x2, .int x1]) (rest := []) ⟨hx, hb, hml, hown, hts⟩ (kX3_moveAll l dC dI g h u_28 _ x2 x1 (by subst e_30; show 0 ≤ (k_umade u).toInt ∧ (k_umade u).toInt ≤ 120; omega)) (cwV 2 hts (gV wd_152 wd_153 wd_154 wd_49 wcX3_moveAll) rfl rfl rfl (by decide +kernel) ⟨(Nat.le_of_ble_eq_true rfl), (Nat.le_of_ble_eq_true rfl)⟩) ⟨fun a U g mk q => by obtain ⟨q0, q1, qP, qK, qD⟩ := q; exact ⟨q0, q1, qP, va_K.moved (u := U) (U := U.calling g mk a) (Vm.Alike.refl U.vm) qK, qD⟩, va_recv hK hP (ci := 2) (q0 := 2) rfl (cw_at2 _ _ _), fun U hU hW => ⟨rfl, by rw [hU], by rw [hU]; exact hP, va_K.moved hW.alike hK, hD.weaken (fun _ _ _ _ => trivial)⟩⟩ rfl rfl hl.1 rfl (lv_room (Nat.le_of_ble_eq_true rfl)) dX4_join_85 ⟨(Nat.le_of_ble_eq_true rfl), (Nat.le_of_ble_eq_true rfl)⟩) hS (fun q _ h => hFc q h) hFc (fun u_31 t H locs ht hvm hw hB hz1 hk1 hS => ?_)
                  obtain ⟨hP, hD⟩ := hB
                  rw [ht] at hP
                  have hD := hD.weaken (fun _ _ _ h => hFc _ h)
                  have e_33 : u_31 = fX3_moveAll u_28 x2 x1 := hw
                  clear hw
                  refine lv_aload_n hx hb dX4_join_88 rfl (lv_at hl 0 rfl) ?_
                  refine va_get (D := (dC, dI)) (C := RX4) (T := TX4) (N := 9) (v := .ref (h 3)) hx hb hts (fi_X4 _) hown hK hP 0 (cw_at0 _ _ _) rfl 2 (by decide) (hts _ (List.mem_cons_of_mem _ wd_87)) (fun _ h9 => h9) rfl dX4_join_89 ?_
                  refine lv_iload_n hx hb dX4_join_92 rfl (lv_at hl 1 rfl) ?_
                  refine lv_iconst (v := 4) hx hb dX4_join_93 (by decide) ?_
                  refine lv_iload_n hx hb dX4_join_94 rfl (lv_at hl 2 rfl) ?_
                  have hFc := va_free (wc := cw g h u_31) hD hS hA [0, 1, 2, 3, 4, 5, 6, 7, 8, 9, 10, 11, 12, 13, 14, 15, 16, 17, 18, 19, 20, 21, 22, 23] rfl
                  refine va_callv (va_runV (As := [.int x1, .int 4, .int x2]) (rest := []) ⟨hx, hb, hml, hown, hts⟩ (kX2_write l dC dI g h u_31 _ x1 4 x2 (by subst e_33; subst e_30; rw [mv_rwrit]; show 0 ≤ (k_rwrit u).toInt ∧ (k_rwrit u).toInt < 400; omega)) (cwV 3 hts (gV wd_108 wd_109 wd_110 wd_105 wcX2_write) rfl rfl rfl (by decide +kernel) ⟨(Nat.le_of_ble_eq_true rfl), (Nat.le_of_ble_eq_true rfl)⟩) ⟨fun a U g mk q => by obtain ⟨q0, q1, qP, qK, qD⟩ := q; exact ⟨q0, q1, qP, va_K.moved (u := U) (U := U.calling g mk a) (Vm.Alike.refl U.vm) qK, qD⟩, va_recv hK hP (ci := 1) (q0 := 3) rfl (cw_at3 _ _ _), fun U hU hW => ⟨rfl, by rw [hU], by rw [hU]; exact hP, va_K.moved hW.alike hK, hD.weaken (fun _ _ _ _ => trivial)⟩⟩ rfl rfl hl.1 rfl (lv_room (Nat.le_of_ble_eq_true rfl)) dX4_join_95 ⟨(Nat.le_of_ble_eq_true rfl), (Nat.le_of_ble_eq_true rfl)⟩) hS (fun q _ h => hFc q h) hFc (fun u_34 t H locs ht hvm hw hB hz1 hk1 hS => ?_)
                  obtain ⟨hP, hD⟩ := hB
                  rw [ht] at hP
                  have hD := hD.weaken (fun _ _ _ h => hFc _ h)
                  have e_36 : u_34 = fX2_write u_31 x1 4 x2 := hw
                  clear hw
                  refine lv_aload_n hx hb dX4_join_98 rfl (lv_at hl 0 rfl) ?_
                  refine va_get (D := (dC, dI)) (C := RX4) (T := TX4) (N := 9) (v := .ref (h 3)) hx hb hts (fi_X4 _) hown hK hP 0 (cw_at0 _ _ _) rfl 2 (by decide) (hts _ (List.mem_cons_of_mem _ wd_87)) (fun _ h9 => h9) rfl dX4_join_99 ?_
                  refine lv_iload_n hx hb dX4_join_102 rfl (lv_at hl 2 rfl) ?_
                  refine lv_iconst (v := 5) hx hb dX4_join_103 (by decide) ?_
                  refine lv_iload_n hx hb dX4_join_104 rfl (lv_at hl 1 rfl) ?_
                  have hFc := va_free (wc := cw g h u_34) hD hS hA [0, 1, 2, 3, 4, 5, 6, 7, 8, 9, 10, 11, 12, 13, 14, 15, 16, 17, 18, 19, 20, 21, 22, 23] rfl
                  refine va_callv (va_runV (As := [.int x2, .int 5, .int x1]) (rest := []) ⟨hx, hb, hml, hown, hts⟩ (kX2_write l dC dI g h u_34 _ x2 5 x1 (by subst e_36; subst e_33; subst e_30; rw [wr_rwrit, mv_rwrit]; have hm2 := i_inc (x := k_rwrit u) (by omega); show 0 ≤ (k_rwrit u + 1).toInt ∧ (k_rwrit u + 1).toInt < 400; omega)) (cwV 3 hts (gV wd_108 wd_109 wd_110 wd_105 wcX2_write) rfl rfl rfl (by decide +kernel) ⟨(Nat.le_of_ble_eq_true rfl), (Nat.le_of_ble_eq_true rfl)⟩) ⟨fun a U g mk q => by obtain ⟨q0, q1, qP, qK, qD⟩ := q; exact ⟨q0, q1, qP, va_K.moved (u := U) (U := U.calling g mk a) (Vm.Alike.refl U.vm) qK, qD⟩, va_recv hK hP (ci := 1) (q0 := 3) rfl (cw_at3 _ _ _), fun U hU hW => ⟨rfl, by rw [hU], by rw [hU]; exact hP, va_K.moved hW.alike hK, hD.weaken (fun _ _ _ _ => trivial)⟩⟩ rfl rfl hl.1 rfl (lv_room (Nat.le_of_ble_eq_true rfl)) dX4_join_105 ⟨(Nat.le_of_ble_eq_true rfl), (Nat.le_of_ble_eq_true rfl)⟩) hS (fun q _ h => hFc q h) hFc (fun u_37 t H locs ht hvm hw hB hz1 hk1 hS => ?_)
                  obtain ⟨hP, hD⟩ := hB
                  rw [ht] at hP
                  have hD := hD.weaken (fun _ _ _ h => hFc _ h)
                  have e_39 : u_37 = fX2_write u_34 x2 5 x1 := hw
                  clear hw
                  exact vy_ret (W.vret hx hb hr (fun t ht hW => ⟨⟨u_37, rfl, (by subst e_39; subst e_36; subst e_33; subst e_30; unfold fX4_join; rw [if_pos c_1, if_pos c_4, if_neg c_7, if_neg c_11, if_neg c_15, if_neg c_20, if_pos c_26]), by rw [ht]; exact hP, hD⟩, hS.F ht⟩) hS.2.2 dX4_join_108)
set_option maxHeartbeats 4000000 in
set_option maxRecDepth 100000 in
theorem kX4_unit (l : Launch) (hl9 : l.stackTraces = false) (dC : Nat → ClassId) (dI : Nat → Nat → Nat) (g : cG) (h : Nat → Nat) (u : cS) (sz : Nat) (x1 : Int32) (hI : cInv u) : vy_Met l yX4_unit wsX4_unit ({ frames := 7, cells := 8, slots := 48, locals := 103 }) (va_Pc [.ref (h 0), .int x1] (fun U => U.heap.size = sz ∧ va_P (dC, dI) vwCl (cw g h u) U.heap ∧ va_K (dC, dI) vwCl (cTys g) U ∧ va_D (fun _ => True) (cw g h u) ∧ zz (va_A (cw g h u) sz) U U.heap)) (va_Qi (fun (r : Int32) u2 => fX4_unit u x1 = (0, r, u2)) (fun (u2 : cS) (t : State) => va_P (dC, dI) vwCl (cw g h u2) t.heap ∧ va_D (va_A (cw g h u) sz) (cw g h u2)) (va_A (cw g h u) sz)) (vx_X (fun _ => True) (fun E (u2 : cS) t => (∃ k : Nat, fX4_unit u x1 = (k, 0, u2) ∧ ex_is k E) ∧ va_P (dC, dI) vwCl (cw g h u2) t.heap ∧ va_D (va_A (cw g h u) sz) (cw g h u2)) (va_A (cw g h u) sz)) 0 0 8 48 (va_A (cw g h u) sz) := by
  refine vy_ofW (cc := cX4_unit) (maxL := 3) (ret := (some .int)) (by decide) rfl ?_
  intro p e s m args below meth c s₁ B hml hxt hv
  obtain ⟨rfl, hsz, hP, hK, hD0, hZ⟩ := hv
  have hx := B.exec
  have hb := B.bytes
  have hr := B.returns
  have hts := atoms_spec (ws := wsX4_unit) B.pre
  have hown : s.vm.findClass RX4 = some m.cls := findClass_of_methodNamed B.named
  have hlocks := B.notSynchronized
  subst hsz
  have hD := hD0.self (sz := s.heap.size)
  generalize hAe : va_A (cw g h u) s.heap.size = A at hD hZ ⊢
  have hA : ∀ q : Nat, s.heap.size ≤ q → A q := fun q h => by rw [← hAe]; exact Or.inr h
  have hS : va_S A s.heap s.heap [] := va_S.rf
  have hl := lv_entry ([.ref (h 0), .int x1]) (n := 3) (Nat.le_of_ble_eq_true rfl)
  rw [lg_entry_eq]
  generalize (lg_sl ([.ref (h 0), .int x1]) ++ List.replicate (3 - (lg_sl ([.ref (h 0), .int x1])).length) Slot.unset).toArray = ls at hl ⊢
  have hl : lv_has ls 3 [(0, .ref (h 0)), (1, .int x1)] := hl
  obtain ⟨hI1, hI2, hI3, hI4, hI5, hI6⟩ := id hI
  refine lv_aload_n hx hb dX4_unit_0 rfl (lv_at hl 0 rfl) ?_
  refine lv_iload_n hx hb dX4_unit_1 rfl (lv_at hl 1 rfl) ?_
  refine vy_callv (vy_runV (As := [.int x1]) (rest := []) ⟨hx, hb, hml, hown, hts⟩ (kX4_requireLot l hl9 dC dI g h u _ x1) (cwV 1 hts (gV wd_114 wd_115 wd_116 wd_92 wcX4_requireLot) rfl rfl rfl (by decide +kernel) ⟨(Nat.le_of_ble_eq_true rfl), (Nat.le_of_ble_eq_true rfl)⟩) ⟨fun a U g mk q => by obtain ⟨q0, q1, qP, qK, qZ⟩ := q; exact ⟨q0, q1, qP, va_K.moved (u := U) (U := U.calling g mk a) (Vm.Alike.refl U.vm) qK, zz_same (u := U) (H := U.heap) rfl rfl qZ⟩, va_recv hK hP (ci := 3) (q0 := 0) rfl (cw_at0 _ _ _), fun U hU hW => ⟨rfl, hU, by rw [hU]; exact hP, va_K.moved hW.alike hK, by rw [hU]; exact zz_to hZ hS (fun q h => hA q (Nat.le_trans hS.1 h)) hW⟩⟩ rfl rfl hl.1 rfl (lv_room (Nat.le_of_ble_eq_true rfl)) dX4_unit_2 ⟨(Nat.le_of_ble_eq_true rfl), (Nat.le_of_ble_eq_true rfl)⟩) hS (fun q h1 h2 => absurd h2 (Nat.not_le.mpr h1)) (fun q h => hA q (Nat.le_trans hS.1 h)) (fun q h1 h2 => absurd h2 (Nat.not_le.mpr h1)) (fun E ce q9 _ t H1 locs1 ht hvm hw hB hz1 hk1 hS hce hcv hcl => ?_) (fun _ t H1 locs1 ht hvm hw hB hz1 hk1 hS => ?_)
  · skip
    have c_1 : ¬ fX4_requireLot u x1 = 0 := by rw [hw]; decide
    subst hB
    have hP := hP.kept (fun k q hq => hk1 q.1 (hP k q hq).lt (Nat.not_le.mpr (hP k q hq).lt))
    exact vy_out (vx_out (fun x hx => (hxt x hx).elim) hlocks hce hcv hcl (fun t ht ha => ⟨u, trivial, ⟨⟨1, (by unfold fX4_unit; rw [if_neg c_1]), rfl⟩, by rw [ht]; exact hP, hD⟩, hS.F ht⟩) hS.2.2 (Nat.le_of_ble_eq_true rfl) (Nat.le_of_ble_eq_true rfl))
  · skip
    have hH1 : H1 = _ := ht.symm.trans hB
    subst hH1
    have c_1 : fX4_requireLot u x1 = 0 := hw
    have t_2 := rl_lo c_1
    have t_3 := rl_hi c_1
    refine lv_aload_n hx hb dX4_unit_5 rfl (lv_at hl 0 rfl) ?_
    refine va_get (D := (dC, dI)) (C := RX4) (T := TX4) (N := 9) (v := .ref (h 1)) hx hb hts (fi_X4 _) hown hK hP 0 (cw_at0 _ _ _) rfl 0 (by decide) (hts _ (List.mem_cons_of_mem _ wd_11)) (fun _ h9 => h9) rfl dX4_unit_6 ?_
    refine va_get (D := (dC, dI)) (C := RX1) (T := TX1) (N := 9) (v := .ref (h 12)) hx hb hts (fi_X1 _) hown hK hP 1 (cw_at1 _ _ _) rfl 4 (by decide) (hts _ (List.mem_cons_of_mem _ wd_118)) (fun _ h9 => h9) rfl dX4_unit_9 ?_
    refine lv_iload_n hx hb dX4_unit_12 rfl (lv_at hl 1 rfl) ?_
    refine va_zald (f := k_open u) hx hb hK hP 12 1 (cw_at12 _ _ _) rfl (vp_in_iff.mpr (by omega)) dX4_unit_13 ?_
    refine vy_callv (vy_runS (As := [.int (k_open u x1.toNatClampNeg)]) (rest := []) ⟨hx, hb, hml, hown, hts⟩ (kX4_requireState l hl9 dC dI _ (k_open u x1.toNatClampNeg)) (cwS 1 hts (gS wd_119 wd_120 wd_92 wcX4_requireState) rfl rfl rfl (by decide +kernel) ⟨(Nat.le_of_ble_eq_true rfl), (Nat.le_of_ble_eq_true rfl)⟩) ⟨fun a U g mk q => by obtain ⟨q0, q1, qZ⟩ := q; exact ⟨q0, q1, zz_same (u := U) (H := U.heap) rfl rfl qZ⟩, fun U hU hW => ⟨rfl, hU, by rw [hU]; exact zz_to hZ hS (fun q h => hA q (Nat.le_trans hS.1 h)) hW⟩⟩ rfl rfl hl.1 rfl (lv_room (Nat.le_of_ble_eq_true rfl)) dX4_unit_14 ⟨(Nat.le_of_ble_eq_true rfl), (Nat.le_of_ble_eq_true rfl)⟩) hS (fun q h1 h2 => absurd h2 (Nat.not_le.mpr h1)) (fun q h => hA q (Nat.le_trans hS.1 h)) (fun q h1 h2 => absurd h2 (Nat.not_le.mpr h1)) (fun E ce q9 _ t H1 locs1 ht hvm hw hB hz1 hk1 hS hce hcv hcl => ?_) (fun _ t H1 locs1 ht hvm hw hB hz1 hk1 hS => ?_)
    · skip
      have c_4 : ¬ fX4_requireState (k_open u x1.toNatClampNeg) = 0 := by rw [hw]; decide
      subst hB
      have hP := hP.kept (fun k q hq => hk1 q.1 (hP k q hq).lt (Nat.not_le.mpr (hP k q hq).lt))
      exact vy_out (vx_out (fun x hx => (hxt x hx).elim) hlocks hce hcv hcl (fun t ht ha => ⟨u, trivial, ⟨⟨3, (by unfold fX4_unit; rw [if_pos c_1, if_neg c_4]), rfl⟩, by rw [ht]; exact hP, hD⟩, hS.F ht⟩) hS.2.2 (Nat.le_of_ble_eq_true rfl) (Nat.le_of_ble_eq_true rfl))
    · skip
      have hH1 : H1 = _ := ht.symm.trans hB
      subst hH1
      have c_4 : fX4_requireState (k_open u x1.toNatClampNeg) = 0 := hw
      refine lv_aload_n hx hb dX4_unit_17 rfl (lv_at hl 0 rfl) ?_
      refine va_get (D := (dC, dI)) (C := RX4) (T := TX4) (N := 9) (v := .ref (h 2)) hx hb hts (fi_X4 _) hown hK hP 0 (cw_at0 _ _ _) rfl 1 (by decide) (hts _ (List.mem_cons_of_mem _ wd_13)) (fun _ h9 => h9) rfl dX4_unit_18 ?_
      refine vp_callSi (W.runV (As := []) (rest := []) ⟨hx, hb, hml, hown, hts⟩ (kX3_haveRoom l dC dI g h u) (cwV 0 hts (gV wd_156 wd_157 wd_158 wd_49 wcX3_haveRoom) rfl rfl rfl (by decide +kernel) ⟨(Nat.le_of_ble_eq_true rfl), (Nat.le_of_ble_eq_true rfl)⟩) ⟨fun a U g mk q => by obtain ⟨q0, qP, qK⟩ := q; exact ⟨q0, qP, va_K.moved (u := U) (U := U.calling g mk a) (Vm.Alike.refl U.vm) qK⟩, va_recv hK hP (ci := 2) (q0 := 2) rfl (cw_at2 _ _ _), fun U hU hW => ⟨rfl, by rw [hU]; exact hP, va_K.moved hW.alike hK⟩⟩ rfl rfl hl.1 rfl (lv_room (Nat.le_of_ble_eq_true rfl)) dX4_unit_21 ⟨(Nat.le_of_ble_eq_true rfl), (Nat.le_of_ble_eq_true rfl)⟩) (fun r_5 hw => ?_)
      subst hw
      refine lv_if_eq (tgt := 42) hx hb dX4_unit_24 (by decide) (fun c_6 => ?_) (fun c_6 => ?_)
      · skip
        have t_7 : (fX3_haveRoom u).toInt = 0 := i_eq c_6 rfl (by decide)
        refine lv_iconst (v := 0) hx hb dX4_unit_42 (by decide) ?_
        refine vy_callv (vy_runS (As := [.int 0]) (rest := []) ⟨hx, hb, hml, hown, hts⟩ (kX4_requireRoom l hl9 dC dI _ 0) (cwS 1 hts (gS wd_99 wd_100 wd_92 wcX4_requireRoom) rfl rfl rfl (by decide +kernel) ⟨(Nat.le_of_ble_eq_true rfl), (Nat.le_of_ble_eq_true rfl)⟩) ⟨fun a U g mk q => by obtain ⟨q0, q1, qZ⟩ := q; exact ⟨q0, q1, zz_same (u := U) (H := U.heap) rfl rfl qZ⟩, fun U hU hW => ⟨rfl, hU, by rw [hU]; exact zz_to hZ hS (fun q h => hA q (Nat.le_trans hS.1 h)) hW⟩⟩ rfl rfl hl.1 rfl (lv_room (Nat.le_of_ble_eq_true rfl)) dX4_unit_43 ⟨(Nat.le_of_ble_eq_true rfl), (Nat.le_of_ble_eq_true rfl)⟩) hS (fun q h1 h2 => absurd h2 (Nat.not_le.mpr h1)) (fun q h => hA q (Nat.le_trans hS.1 h)) (fun q h1 h2 => absurd h2 (Nat.not_le.mpr h1)) (fun E ce q9 _ t H1 locs1 ht hvm hw hB hz1 hk1 hS hce hcv hcl => ?_) (fun _ t H1 locs1 ht hvm hw hB hz1 hk1 hS => ?_)
        · skip
          subst hB
          have hP := hP.kept (fun k q hq => hk1 q.1 (hP k q hq).lt (Nat.not_le.mpr (hP k q hq).lt))
          exact vy_out (vx_out (fun x hx => (hxt x hx).elim) hlocks hce hcv hcl (fun t ht ha => ⟨u, trivial, ⟨⟨4, (by unfold fX4_unit; rw [if_pos c_1, if_pos c_4, if_pos c_6]), rfl⟩, by rw [ht]; exact hP, hD⟩, hS.F ht⟩) hS.2.2 (Nat.le_of_ble_eq_true rfl) (Nat.le_of_ble_eq_true rfl))
        · skip
          exact absurd hw (by decide)
      · skip
        have t_9 : (fX3_haveRoom u).toInt ≠ 0 := i_ne c_6 rfl (by decide)
        have t_10 := hu_room c_6
        refine lv_aload_n hx hb dX4_unit_27 rfl (lv_at hl 0 rfl) ?_
        refine va_get (D := (dC, dI)) (C := RX4) (T := TX4) (N := 9) (v := .ref (h 3)) hx hb hts (fi_X4 _) hown hK hP 0 (cw_at0 _ _ _) rfl 2 (by decide) (hts _ (List.mem_cons_of_mem _ wd_87)) (fun _ h9 => h9) rfl dX4_unit_28 ?_
        refine lv_iconst (v := 1) hx hb dX4_unit_31 (by decide) ?_
        refine vp_callSi (W.runV (As := [.int 1]) (rest := []) ⟨hx, hb, hml, hown, hts⟩ (kX2_haveRoomFor l dC dI g h u 1) (cwV 1 hts (gV wd_102 wd_103 wd_104 wd_105 wcX2_haveRoomFor) rfl rfl rfl (by decide +kernel) ⟨(Nat.le_of_ble_eq_true rfl), (Nat.le_of_ble_eq_true rfl)⟩) ⟨fun a U g mk q => by obtain ⟨q0, qP, qK⟩ := q; exact ⟨q0, qP, va_K.moved (u := U) (U := U.calling g mk a) (Vm.Alike.refl U.vm) qK⟩, va_recv hK hP (ci := 1) (q0 := 3) rfl (cw_at3 _ _ _), fun U hU hW => ⟨rfl, by rw [hU]; exact hP, va_K.moved hW.alike hK⟩⟩ rfl rfl hl.1 rfl (lv_room (Nat.le_of_ble_eq_true rfl)) dX4_unit_32 ⟨(Nat.le_of_ble_eq_true rfl), (Nat.le_of_ble_eq_true rfl)⟩) (fun r_11 hw => ?_)
        subst hw
        refine lv_if_eq (tgt := 42) hx hb dX4_unit_35 (by decide) (fun c_12 => ?_) (fun c_12 => ?_)
        · skip
          have t_13 : (fX2_haveRoomFor u 1).toInt = 0 := i_eq c_12 rfl (by decide)
          refine lv_iconst (v := 0) hx hb dX4_unit_42 (by decide) ?_
          refine vy_callv (vy_runS (As := [.int 0]) (rest := []) ⟨hx, hb, hml, hown, hts⟩ (kX4_requireRoom l hl9 dC dI _ 0) (cwS 1 hts (gS wd_99 wd_100 wd_92 wcX4_requireRoom) rfl rfl rfl (by decide +kernel) ⟨(Nat.le_of_ble_eq_true rfl), (Nat.le_of_ble_eq_true rfl)⟩) ⟨fun a U g mk q => by obtain ⟨q0, q1, qZ⟩ := q; exact ⟨q0, q1, zz_same (u := U) (H := U.heap) rfl rfl qZ⟩, fun U hU hW => ⟨rfl, hU, by rw [hU]; exact zz_to hZ hS (fun q h => hA q (Nat.le_trans hS.1 h)) hW⟩⟩ rfl rfl hl.1 rfl (lv_room (Nat.le_of_ble_eq_true rfl)) dX4_unit_43 ⟨(Nat.le_of_ble_eq_true rfl), (Nat.le_of_ble_eq_true rfl)⟩) hS (fun q h1 h2 => absurd h2 (Nat.not_le.mpr h1)) (fun q h => hA q (Nat.le_trans hS.1 h)) (fun q h1 h2 => absurd h2 (Nat.not_le.mpr h1)) (fun E ce q9 _ t H1 locs1 ht hvm hw hB hz1 hk1 hS hce hcv hcl => ?_) (fun _ t H1 locs1 ht hvm hw hB hz1 hk1 hS => ?_)
          · skip
            subst hB
            have hP := hP.kept (fun k q hq => hk1 q.1 (hP k q hq).lt (Nat.not_le.mpr (hP k q hq).lt))
            exact vy_out (vx_out (fun x hx => (hxt x hx).elim) hlocks hce hcv hcl (fun t ht ha => ⟨u, trivial, ⟨⟨4, (by unfold fX4_unit; rw [if_pos c_1, if_pos c_4, if_neg c_6, if_pos c_12]), rfl⟩, by rw [ht]; exact hP, hD⟩, hS.F ht⟩) hS.2.2 (Nat.le_of_ble_eq_true rfl) (Nat.le_of_ble_eq_true rfl))
          · skip
            exact absurd hw (by decide)
        · skip
          have t_15 : (fX2_haveRoomFor u 1).toInt ≠ 0 := i_ne c_12 rfl (by decide)
          have t_16 := hr_room1 c_12 hI3
          refine lv_iconst (v := 1) hx hb dX4_unit_38 (by decide) ?_
          refine lv_goto (tgt := 43) hx hb dX4_unit_39 (by decide) ?_
          refine vy_callv (vy_runS (As := [.int 1]) (rest := []) ⟨hx, hb, hml, hown, hts⟩ (kX4_requireRoom l hl9 dC dI _ 1) (cwS 1 hts (gS wd_99 wd_100 wd_92 wcX4_requireRoom) rfl rfl rfl (by decide +kernel) ⟨(Nat.le_of_ble_eq_true rfl), (Nat.le_of_ble_eq_true rfl)⟩) ⟨fun a U g mk q => by obtain ⟨q0, q1, qZ⟩ := q; exact ⟨q0, q1, zz_same (u := U) (H := U.heap) rfl rfl qZ⟩, fun U hU hW => ⟨rfl, hU, by rw [hU]; exact zz_to hZ hS (fun q h => hA q (Nat.le_trans hS.1 h)) hW⟩⟩ rfl rfl hl.1 rfl (lv_room (Nat.le_of_ble_eq_true rfl)) dX4_unit_43 ⟨(Nat.le_of_ble_eq_true rfl), (Nat.le_of_ble_eq_true rfl)⟩) hS (fun q h1 h2 => absurd h2 (Nat.not_le.mpr h1)) (fun q h => hA q (Nat.le_trans hS.1 h)) (fun q h1 h2 => absurd h2 (Nat.not_le.mpr h1)) (fun E ce q9 _ t H1 locs1 ht hvm hw hB hz1 hk1 hS hce hcv hcl => ?_) (fun _ t H1 locs1 ht hvm hw hB hz1 hk1 hS => ?_)
          · skip
            exact absurd hw (by decide)
          · skip
            have hH1 : H1 = _ := ht.symm.trans hB
            subst hH1
            refine lv_aload_n hx hb dX4_unit_46 rfl (lv_at hl 0 rfl) ?_
            refine va_get (D := (dC, dI)) (C := RX4) (T := TX4) (N := 9) (v := .ref (h 2)) hx hb hts (fi_X4 _) hown hK hP 0 (cw_at0 _ _ _) rfl 1 (by decide) (hts _ (List.mem_cons_of_mem _ wd_13)) (fun _ h9 => h9) rfl dX4_unit_47 ?_
            refine lv_iload_n hx hb dX4_unit_50 rfl (lv_at hl 1 rfl) ?_
            have hFc := va_free (wc := cw g h u) hD hS hA [0, 1, 2, 3, 4, 5, 6, 7, 8, 9, 10, 11, 12, 13, 14, 15, 16, 17, 18, 19, 20, 21, 22, 23] rfl
            refine va_calli (va_runV (As := [.int x1]) (rest := []) ⟨hx, hb, hml, hown, hts⟩ (kX3_add l dC dI g h u _ x1 (by omega)) (cwV 1 hts (gV wd_160 wd_161 wd_162 wd_49 wcX3_add) rfl rfl rfl (by decide +kernel) ⟨(Nat.le_of_ble_eq_true rfl), (Nat.le_of_ble_eq_true rfl)⟩) ⟨fun a U g mk q => by obtain ⟨q0, q1, qP, qK, qD⟩ := q; exact ⟨q0, q1, qP, va_K.moved (u := U) (U := U.calling g mk a) (Vm.Alike.refl U.vm) qK, qD⟩, va_recv hK hP (ci := 2) (q0 := 2) rfl (cw_at2 _ _ _), fun U hU hW => ⟨rfl, by rw [hU], by rw [hU]; exact hP, va_K.moved hW.alike hK, hD.weaken (fun _ _ _ _ => trivial)⟩⟩ rfl rfl hl.1 rfl (lv_room (Nat.le_of_ble_eq_true rfl)) dX4_unit_51 ⟨(Nat.le_of_ble_eq_true rfl), (Nat.le_of_ble_eq_true rfl)⟩) hS (fun q _ h => hFc q h) hFc (fun r_19 u_18 t H locs ht hvm hw hB hz1 hk1 hS => ?_)
            obtain ⟨hP, hD⟩ := hB
            rw [ht] at hP
            have hD := hD.weaken (fun _ _ _ h => hFc _ h)
            have e_20 : r_19 = (fX3_add u x1).1 := congrArg Prod.fst hw
            have e_21 : u_18 = (fX3_add u x1).2 := congrArg Prod.snd hw
            clear hw
            refine lv_istore_n (lv' := [(2, .int r_19), (0, .ref (h 0)), (1, .int x1)]) hx hb dX4_unit_54 rfl hl (by decide) rfl (fun ls hl => ?_)
            refine lv_aload_n hx hb dX4_unit_55 rfl (lv_at hl 1 rfl) ?_
            refine va_get (D := (dC, dI)) (C := RX4) (T := TX4) (N := 9) (v := .ref (h 3)) hx hb hts (fi_X4 _) hown hK hP 0 (cw_at0 _ _ _) rfl 2 (by decide) (hts _ (List.mem_cons_of_mem _ wd_87)) (fun _ h9 => h9) rfl dX4_unit_56 ?_
            refine lv_iload_n hx hb dX4_unit_59 rfl (lv_at hl 2 rfl) ?_
            refine lv_bipush (v := 10) hx hb dX4_unit_60 (by decide) ?_
            refine lv_iload_n hx hb dX4_unit_62 rfl (lv_at hl 0 rfl) ?_
            have hFc := va_free (wc := cw g h u_18) hD hS hA [0, 1, 2, 3, 4, 5, 6, 7, 8, 9, 10, 11, 12, 13, 14, 15, 16, 17, 18, 19, 20, 21, 22, 23] rfl
            refine va_callv (va_runV (As := [.int x1, .int 10, .int r_19]) (rest := []) ⟨hx, hb, hml, hown, hts⟩ (kX2_write l dC dI g h u_18 _ x1 10 r_19 (by subst e_21; subst e_20; show 0 ≤ (k_rwrit u).toInt ∧ (k_rwrit u).toInt < 400; omega)) (cwV 3 hts (gV wd_108 wd_109 wd_110 wd_105 wcX2_write) rfl rfl rfl (by decide +kernel) ⟨(Nat.le_of_ble_eq_true rfl), (Nat.le_of_ble_eq_true rfl)⟩) ⟨fun a U g mk q => by obtain ⟨q0, q1, qP, qK, qD⟩ := q; exact ⟨q0, q1, qP, va_K.moved (u := U) (U := U.calling g mk a) (Vm.Alike.refl U.vm) qK, qD⟩, va_recv hK hP (ci := 1) (q0 := 3) rfl (cw_at3 _ _ _), fun U hU hW => ⟨rfl, by rw [hU], by rw [hU]; exact hP, va_K.moved hW.alike hK, hD.weaken (fun _ _ _ _ => trivial)⟩⟩ rfl rfl hl.1 rfl (lv_room (Nat.le_of_ble_eq_true rfl)) dX4_unit_63 ⟨(Nat.le_of_ble_eq_true rfl), (Nat.le_of_ble_eq_true rfl)⟩) hS (fun q _ h => hFc q h) hFc (fun u_22 t H locs ht hvm hw hB hz1 hk1 hS => ?_)
            obtain ⟨hP, hD⟩ := hB
            rw [ht] at hP
            have hD := hD.weaken (fun _ _ _ h => hFc _ h)
            have e_24 : u_22 = fX2_write u_18 x1 10 r_19 := hw
            clear hw
            refine lv_iload_n hx hb dX4_unit_66 rfl (lv_at hl 0 rfl) ?_
            exact vy_ret (W.iret (v := r_19) hx hb hr (fun t ht hW => ⟨⟨r_19, u_22, rfl, (by subst e_24; subst e_21; subst e_20; unfold fX4_unit; rw [if_pos c_1, if_pos c_4, if_neg c_6, if_neg c_12]), by rw [ht]; exact hP, hD⟩, hS.F ht⟩) hS.2.2 dX4_unit_67)
end
