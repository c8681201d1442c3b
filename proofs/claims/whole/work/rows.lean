section
-- ===== PART A: goes FIRST, ahead of the names: the tables' words, and 'selects' of the private methods out of them =====
/-- a private method of a class that the tables say can be made, by its rows of tables_1 -/
def lw_okq (q : MethodName × Nat) : Prop := (q.1.cls ≠ "java/lang/invoke/MethodHandle" ∧ q.1.cls ≠ "java/lang/invoke/VarHandle") ∧ Cond.instantiable q.1.cls q.2 ∈ tables_1 ∧ Cond.privateMethod q.1 ∈ tables_1 ∧ Cond.instanceMethod q.1 ∈ tables_1
theorem lw_p0 : lw_okq (⟨"PassSearch", "isUnknownPoint", "(J)Z"⟩, 5) := ⟨⟨by decide +kernel, by decide +kernel⟩, List.mem_of_getElem? (i := 15) (by decide +kernel), List.mem_of_getElem? (i := 118) (by decide +kernel), List.mem_of_getElem? (i := 119) (by decide +kernel)⟩
theorem lw_p1 : lw_okq (⟨"PassSearch", "isUnknownPass", "(I)Z"⟩, 5) := ⟨⟨by decide +kernel, by decide +kernel⟩, List.mem_of_getElem? (i := 15) (by decide +kernel), List.mem_of_getElem? (i := 130) (by decide +kernel), List.mem_of_getElem? (i := 131) (by decide +kernel)⟩
theorem lw_p2 : lw_okq (⟨"PassSearch$Items", "putSorted", "(I)V"⟩, 6) := ⟨⟨by decide +kernel, by decide +kernel⟩, List.mem_of_getElem? (i := 54) (by decide +kernel), List.mem_of_getElem? (i := 183) (by decide +kernel), List.mem_of_getElem? (i := 184) (by decide +kernel)⟩
theorem lw_p3 : lw_okq (⟨"PassSearch", "heightOf", "(I)I"⟩, 5) := ⟨⟨by decide +kernel, by decide +kernel⟩, List.mem_of_getElem? (i := 15) (by decide +kernel), List.mem_of_getElem? (i := 196) (by decide +kernel), List.mem_of_getElem? (i := 197) (by decide +kernel)⟩
theorem lw_p4 : lw_okq (⟨"PassSearch$BinTable", "slotOf", "(I)I"⟩, 4) := ⟨⟨by decide +kernel, by decide +kernel⟩, List.mem_of_getElem? (i := 79) (by decide +kernel), List.mem_of_getElem? (i := 204) (by decide +kernel), List.mem_of_getElem? (i := 205) (by decide +kernel)⟩
theorem lw_p5 : lw_okq (⟨"PassSearch", "traysOfPass", "(I)I"⟩, 5) := ⟨⟨by decide +kernel, by decide +kernel⟩, List.mem_of_getElem? (i := 15) (by decide +kernel), List.mem_of_getElem? (i := 221) (by decide +kernel), List.mem_of_getElem? (i := 222) (by decide +kernel)⟩
theorem lw_p6 : lw_okq (⟨"PassSearch$Items", "hasGroup", "(I)Z"⟩, 6) := ⟨⟨by decide +kernel, by decide +kernel⟩, List.mem_of_getElem? (i := 54) (by decide +kernel), List.mem_of_getElem? (i := 237) (by decide +kernel), List.mem_of_getElem? (i := 238) (by decide +kernel)⟩
theorem lw_p7 : lw_okq (⟨"PassSearch", "isUnknownItem", "(I)Z"⟩, 5) := ⟨⟨by decide +kernel, by decide +kernel⟩, List.mem_of_getElem? (i := 15) (by decide +kernel), List.mem_of_getElem? (i := 264) (by decide +kernel), List.mem_of_getElem? (i := 265) (by decide +kernel)⟩
theorem lw_p8 : lw_okq (⟨"PassSearch$Items", "groupOf", "(I)I"⟩, 6) := ⟨⟨by decide +kernel, by decide +kernel⟩, List.mem_of_getElem? (i := 54) (by decide +kernel), List.mem_of_getElem? (i := 276) (by decide +kernel), List.mem_of_getElem? (i := 277) (by decide +kernel)⟩
theorem lw_p9 : lw_okq (⟨"java/lang/Throwable", "fillInStackTrace", "(I)Ljava/lang/Throwable;"⟩, 6) := ⟨⟨by decide +kernel, by decide +kernel⟩, List.mem_of_getElem? (i := 344) (by decide +kernel), List.mem_of_getElem? (i := 342) (by decide +kernel), List.mem_of_getElem? (i := 343) (by decide +kernel)⟩
theorem lw_p10 : lw_okq (⟨"PassSearch$Plan", "leastSum", "()I"⟩, 5) := ⟨⟨by decide +kernel, by decide +kernel⟩, List.mem_of_getElem? (i := 30) (by decide +kernel), List.mem_of_getElem? (i := 379) (by decide +kernel), List.mem_of_getElem? (i := 380) (by decide +kernel)⟩
theorem lw_p11 : lw_okq (⟨"PassSearch$Plan", "leastSize", "(II)I"⟩, 5) := ⟨⟨by decide +kernel, by decide +kernel⟩, List.mem_of_getElem? (i := 30) (by decide +kernel), List.mem_of_getElem? (i := 389) (by decide +kernel), List.mem_of_getElem? (i := 390) (by decide +kernel)⟩
theorem lw_p12 : lw_okq (⟨"PassSearch$Plan", "isEnough", "(III)Z"⟩, 5) := ⟨⟨by decide +kernel, by decide +kernel⟩, List.mem_of_getElem? (i := 30) (by decide +kernel), List.mem_of_getElem? (i := 393) (by decide +kernel), List.mem_of_getElem? (i := 394) (by decide +kernel)⟩
theorem lw_p13 : lw_okq (⟨"PassSearchModel", "choose", "()V"⟩, 11) := ⟨⟨by decide +kernel, by decide +kernel⟩, List.mem_of_getElem? (i := 435) (by decide +kernel), List.mem_of_getElem? (i := 494) (by decide +kernel), List.mem_of_getElem? (i := 495) (by decide +kernel)⟩
theorem lw_p14 : lw_okq (⟨"PassSearchModel", "isPoint", "(J)Z"⟩, 11) := ⟨⟨by decide +kernel, by decide +kernel⟩, List.mem_of_getElem? (i := 435) (by decide +kernel), List.mem_of_getElem? (i := 507) (by decide +kernel), List.mem_of_getElem? (i := 508) (by decide +kernel)⟩
theorem lw_p15 : lw_okq (⟨"PassSearchModel", "isPass", "(I)Z"⟩, 11) := ⟨⟨by decide +kernel, by decide +kernel⟩, List.mem_of_getElem? (i := 435) (by decide +kernel), List.mem_of_getElem? (i := 511) (by decide +kernel), List.mem_of_getElem? (i := 512) (by decide +kernel)⟩
def lw_privs_1 : List (MethodName × Nat) := [(⟨"PassSearch", "isUnknownPoint", "(J)Z"⟩, 5), (⟨"PassSearch", "isUnknownPass", "(I)Z"⟩, 5), (⟨"PassSearch$Items", "putSorted", "(I)V"⟩, 6), (⟨"PassSearch", "heightOf", "(I)I"⟩, 5), (⟨"PassSearch$BinTable", "slotOf", "(I)I"⟩, 4), (⟨"PassSearch", "traysOfPass", "(I)I"⟩, 5), (⟨"PassSearch$Items", "hasGroup", "(I)Z"⟩, 6), (⟨"PassSearch", "isUnknownItem", "(I)Z"⟩, 5), (⟨"PassSearch$Items", "groupOf", "(I)I"⟩, 6), (⟨"java/lang/Throwable", "fillInStackTrace", "(I)Ljava/lang/Throwable;"⟩, 6), (⟨"PassSearch$Plan", "leastSum", "()I"⟩, 5), (⟨"PassSearch$Plan", "leastSize", "(II)I"⟩, 5), (⟨"PassSearch$Plan", "isEnough", "(III)Z"⟩, 5), (⟨"PassSearchModel", "choose", "()V"⟩, 11), (⟨"PassSearchModel", "isPoint", "(J)Z"⟩, 11), (⟨"PassSearchModel", "isPass", "(I)Z"⟩, 11)]
theorem lw_r1 : ∀ q ∈ lw_privs_1, lw_okq q := List.forall_mem_cons.mpr ⟨lw_p0, List.forall_mem_cons.mpr ⟨lw_p1, List.forall_mem_cons.mpr ⟨lw_p2, List.forall_mem_cons.mpr ⟨lw_p3, List.forall_mem_cons.mpr ⟨lw_p4, List.forall_mem_cons.mpr ⟨lw_p5, List.forall_mem_cons.mpr ⟨lw_p6, List.forall_mem_cons.mpr ⟨lw_p7, List.forall_mem_cons.mpr ⟨lw_p8, List.forall_mem_cons.mpr ⟨lw_p9, List.forall_mem_cons.mpr ⟨lw_p10, List.forall_mem_cons.mpr ⟨lw_p11, List.forall_mem_cons.mpr ⟨lw_p12, List.forall_mem_cons.mpr ⟨lw_p13, List.forall_mem_cons.mpr ⟨lw_p14, List.forall_mem_cons.mpr ⟨lw_p15, fun _ h => absurd h List.not_mem_nil⟩⟩⟩⟩⟩⟩⟩⟩⟩⟩⟩⟩⟩⟩⟩⟩
theorem lw_p16 : lw_okq (⟨"PassSearchModel", "isItem", "(I)Z"⟩, 11) := ⟨⟨by decide +kernel, by decide +kernel⟩, List.mem_of_getElem? (i := 435) (by decide +kernel), List.mem_of_getElem? (i := 541) (by decide +kernel), List.mem_of_getElem? (i := 542) (by decide +kernel)⟩
def lw_privs_2 : List (MethodName × Nat) := [(⟨"PassSearchModel", "isItem", "(I)Z"⟩, 11)]
theorem lw_r2 : ∀ q ∈ lw_privs_2, lw_okq q := List.forall_mem_cons.mpr ⟨lw_p16, fun _ h => absurd h List.not_mem_nil⟩
def lw_privs : List (MethodName × Nat) := lw_privs_1 ++ (lw_privs_2)
def lw_tbl : List Cond := k2_sels lw_privs ++ tables_1
theorem lw_privs_ok : ∀ q ∈ lw_privs, lw_okq q := by
  show ∀ q ∈ lw_privs_1 ++ (lw_privs_2), lw_okq q
  exact List.forall_mem_append.mpr ⟨lw_r1, lw_r2⟩
-- ===== end of PART A; then your names; then what follows =====
end
section
/-! ===== BEGIN words of one list among another's, by their places ===== -/
theorem goodIn_r {big : List Cond} (ws : List Cond) (ps : List Nat) (hp : ws = ps.filterMap (fun i => big[i]?)) (h : ws.all goodWord = true) : GoodIn big ws := by
  intro w hw
  have h1 := List.all_eq_true.mp h w hw
  rw [hp] at hw
  obtain ⟨i, -, hi⟩ := List.mem_filterMap.mp hw
  have hm : w ∈ big := by first | exact List.mem_of_getElem? hi | exact List.getElem?_mem hi
  exact ⟨hm, good_of_word h1⟩
theorem goodIn_app {big a b : List Cond} (ha : GoodIn big a) (hb : GoodIn big b) : GoodIn big (a ++ b) := fun w h => (List.mem_append.mp h).elim (ha w) (hb w)
theorem goodIn_ca {big a b : List Cond} {c : Cond} (ha : GoodIn big (c :: a)) (hb : GoodIn big b) : GoodIn big (c :: (a ++ b)) := fun w h => (List.mem_cons.mp h).elim (fun e => ha w (List.mem_cons.mpr (Or.inl e))) (fun h => (List.mem_append.mp h).elim (fun h => ha w (List.mem_cons.mpr (Or.inr h))) (hb w))
theorem goodIn_sub {big ws : List Cond} (hm : ∀ w ∈ ws, w ∈ big) (h : ws.all goodWord = true) : GoodIn big ws := fun w hw => ⟨hm w hw, good_of_word (List.all_eq_true.mp h w hw)⟩
/-! ===== END ===== -/

/-! ===== BEGIN exceptions that leave a method, and their catching by the caller (launches without stack traces) ===== -/
section VXA
/-! The laws vx_back, vx_callV, vx_callS, vx_callSW, vx_throw0, vx_throwS follow proofs of the library, with one case more: JvmDerived/Free/Laws.lean (Back.of_free), Shelf42/LK1.lean (callV, callS), Shelf/KitTraced.lean (throwNew0V, throwNewS). -/
-- (names of Bundle are written in full)
/-- where a method has thrown q: the class by its name, the cell, what was written, the world -/
def vx_T (XC : String → State → State → Prop) (st : State) (q : Addr) (t : State) (mc ms : Nat) (free : Addr → Prop) : Prop :=
  ∃ (E : String) (ce : Cell) (L : List Loc), XC E st t ∧ t.heap[q]? = some ce ∧ ce.vm = .none ∧ st.vm.findClass E = some ce.cls ∧ st.WarmedH t.vm ∧ st.sameButNew ({ t with vm := st.vm } : State) L mc ms ∧ ∀ z ∈ L, free z.base
def vx_Q (Qc : Array Value → State → Outcome → State → Prop) (XC : String → State → State → Prop) (mc ms : Nat) (free : Addr → Prop) : Array Value → State → Outcome → State → Prop := fun a st o t =>
  (Qc a st o t ∧ ∃ L, FrameEnd st o t L mc ms ∧ ∀ q ∈ L, free q.base) ∨ ∃ q, o = .threw q ∧ vx_T XC st q t mc ms free
/-- a callee that returns or throws -/
def vx_Met (l : Launch) (y : MethodName) (ws : List Cond) (rm : Room) (Pc : Array Value → State → Prop) (Qc : Array Value → State → Outcome → State → Prop) (XC : String → State → State → Prop) (mc ms : Nat) (free : Addr → Prop) : Prop :=
  MetFree l y (headSpec ws rm) Pc (fun _ _ _ _ _ => True) (vx_Q Qc XC mc ms free)
def vx_Post (XC : String → State → State → Prop) (mc ms : Nat) (free : Addr → Prop) : Pt → Array Value → Addr → Pt → Prop := fun A a q B =>
  ∃ (g : JFrame) (mk : MethodId) (t : State) (L : List Loc) (E : String) (ce : Cell), B.U.heap = t.heap ∧ B.U.vm = t.vm ∧ XC E (A.U.calling g mk a) t ∧ t.heap[q]? = some ce ∧ ce.vm = .none ∧ A.U.vm.findClass E = some ce.cls ∧ B.locs = A.locs ++ L ∧ (∀ z ∈ L, free z.base) ∧ B.cells = A.cells + mc ∧ B.slots = A.slots + ms
def vx_Back (l : Launch) (R : Room) (p : Program) (e : Env) (below : List Frame) (s : State) (sargs : Array Value) (y : MethodName) (len W9 : Nat)
    (Pre : Pt → Array Value → Prop) (Post : Pt → Array Value → Option Value → Pt → Prop) (PostX : Pt → Array Value → Addr → Pt → Prop) : Prop :=
  ∀ (m : MethodId) (meth : Method) (c : Code) (A : Pt) (g : JFrame) (ig : Instr) (mk : MethodId) (a : Array Value),
    Stand p l e R s m sargs below meth c A.U A.locs A.cells A.slots → g.method = m → g.locals.size = c.maxLocals → decode c.code g.pc = .ok (ig, len) →
    2 * g.monitorRoom + (g.stack.map fun v => v.category).sum ≤ W9 → A.U.methodNamed? y = some mk → Pre A a →
    (∃ (v : Option Value) (B : Pt), Stand p l e R s m sargs below meth c B.U B.locs B.cells B.slots ∧ Post A a v B ∧
      Steps p.tables e below (doInvoke e (A.U.setTop g) [] mk a).1 (B.U.setTop { g with pc := g.pc + len, stack := v.toList ++ g.stack })) ∨
    (∃ (q : Addr) (B : Pt), Stand p l e R s m sargs below meth c B.U B.locs B.cells B.slots ∧ PostX A a q B ∧
      Steps p.tables e below (doInvoke e (A.U.setTop g) [] mk a).1 ((B.U.setTop g).pushFrame (.throwing q)))
section Payer
variable {l : Launch} {R : Room} {p : Program} {e : Env} {below : List Frame} {s : State} {sargs : Array Value} {y : MethodName} {len W9 : Nat}
theorem vx_back {ws : List Cond} {rm : Room} {Pc : Array Value → State → Prop} {Qc : Array Value → State → Outcome → State → Prop} {XC : String → State → State → Prop} {mc ms : Nat} {free : Addr → Prop} {bytes : ByteArray} {maxL : Nat} {ret : Option FieldType}
    (hM : vx_Met l y ws rm Pc Qc XC mc ms free) (hblind : FrameBlind Pc) (hrc : rm.cells = mc) (hrs : rm.slots = ms)
    (hframes : rm.frames + 1 ≤ R.frames) (hlocals : W9 + (maxL + 11) + rm.locals ≤ R.locals)
    (hws : ∀ w ∈ ws, ∀ a' U, s.WarmedH U.vm → w.before a' U = true) (hcode : Cond.code y bytes maxL ret ∈ ws) (hinit : ∀ a' U, s.WarmedH U.vm → (Cond.initialized y.cls).before a' U = true) :
    vx_Back l R p e below s sargs y len W9 (PreOf R mc ms Pc) (PostOf Qc mc ms free) (vx_Post XC mc ms free) := by
  intro m meth c A g ig mk a X hg hsize hdg hW hn hp
  have h1 : (headSpec ws rm).pre.before a A.U = true := atoms_intro fun w hw => hws w hw _ _ X.warmed
  have h2 : (Cond.code y bytes maxL ret).before a A.U = true := hws _ hcode _ _ X.warmed
  have h3 : (Cond.initialized y.cls).before a A.U = true := hinit _ _ X.warmed
  have h4 : A.cells + (headSpec ws rm).room.cells ≤ R.cells := by rw [show (headSpec ws rm).room.cells = mc from hrc]; exact hp.1
  have h5 : A.slots + (headSpec ws rm).room.slots ≤ R.slots := by rw [show (headSpec ws rm).room.slots = ms from hrs]; exact hp.2.1
  have hPc : Pc a (A.U.calling g mk a) := hblind _ _ _ _ hp.2.2
  obtain ⟨U, Ls, c0, s0⟩ := A
  dsimp only [Pt.U, Pt.locs, Pt.cells, Pt.slots] at h1 h2 h3 h4 h5 X hn hPc ⊢
  obtain ⟨methY, cY, hmY, hcY, -, hlY, -, -, -, -⟩ := Cond.code_spec hn h2
  obtain ⟨kY, hkY, -⟩ := className_of_methodNamed hn
  have hinitY : kY.init = .initialized := Cond.initialized_spec (findClass_of_methodNamed hn) hkY h3
  have h : At U g.method c below := by rw [hg]; exact X.here
  have hlocals9 : W9 + (maxL + 11) + (headSpec ws rm).room.locals ≤ R.locals := hlocals
  have happ : (headSpec ws rm).appliesLoose y e.platform (U.calling g mk a) = true :=
    Spec.appliesLoose_calling (g := g) h hdg hn hkY hinitY
      (X.room_calling (g := g) (R' := (headSpec ws rm).room) hsize hmY hcY hframes (by rw [hlY]; omega) h4 h5) h1
  obtain ⟨mid, hmid⟩ := h.above
  have hfr : (U.setTop g).frames = (.java g :: mid) ++ below := by rw [State.frames_setTop' g h.top, hmid]; rfl
  obtain ⟨o, s₂, hsteps, -, hend, hq⟩ := Steps.callFree hM p X.admits X.cas X.clock (acts := []) hfr happ hPc trivial
  have hq' : vx_Q Qc XC mc ms free a (U.calling g mk a) o s₂ := hq
  rw [State.frames_setTop' g h.top] at hend
  obtain ⟨g₀, hg0⟩ := Option.isSome_iff_exists.mp h.top
  obtain ⟨r, hr⟩ := State.topJava?_eq_some.mp hg0
  have hr' : (({ U with heap := s₂.heap, slotsUsed := s₂.slotsUsed } : State).setVm s₂.vm).frames = .java g₀ :: r := hr
  rcases hq' with ⟨hqc, L, hfe, hL⟩ | ⟨q, rfl, E, ce, L, hx, hce, hcv, hcl, hW₂, hsm, hL⟩
  · obtain ⟨⟨v, rfl⟩, hW₂, e2, q2, q3, q4, q5, q6⟩ := id hfe
    have e3 : s₂ = ({ (U.calling g mk a).setFrames s₂.frames with heap := s₂.heap, slotsUsed := s₂.slotsUsed } : State).setVm s₂.vm := by
      have : s₂ = ({ s₂ with vm := (U.calling g mk a).vm } : State).setVm s₂.vm := rfl
      rw [e2] at this
      exact this
    obtain ⟨c₂, i₂, len₂, hc₂, hd₂, hf₂⟩ := hend
    have hW' : U.WarmedH s₂.vm := hW₂
    have hcc : c₂ = c := by
      have h1 : s₂.code? g.method = U.code? g.method := by
        rw [State.code?_eq, State.code?_eq, hW'.alike.method?]
      exact Option.some.inj (hc₂.symm.trans (h1.trans h.code))
    subst hcc
    have hlen : len₂ = len := by rw [hdg] at hd₂; cases hd₂; rfl
    subst hlen
    have hs₂ : s₂ = (({ U with heap := s₂.heap, slotsUsed := s₂.slotsUsed } : State).setVm s₂.vm).setTop { g with pc := g.pc + len₂, stack := v.toList ++ g.stack } := by
      refine e3.trans ?_
      rw [hf₂, State.calling_eq h.top, State.setFrames_setFrames, State.setTop_of_frames _ hr', hr]
      rfl
    have hsame : U.sameButNew ({ U with heap := s₂.heap, slotsUsed := s₂.slotsUsed } : State) L mc ms := by
      refine ⟨?_, q2, q3, q4, q5, q6⟩
      obtain ⟨t, ht, -⟩ := State.frames_cons hr
      show ({ U with heap := s₂.heap, slotsUsed := s₂.slotsUsed } : State) = { U.setFrames U.frames with heap := s₂.heap, slotsUsed := s₂.slotsUsed }
      rw [State.setFrames_self ht]
    subst hg
    refine Or.inl ⟨v, ⟨(({ U with heap := s₂.heap, slotsUsed := s₂.slotsUsed } : State).setVm s₂.vm), Ls ++ L, c0 + mc, s0 + ms⟩,
      ⟨X.admits, X.cas, X.clock, X.frames, X.room, X.hears, X.method, X.code, (X.here.setHeapUsed s₂.heap s₂.slotsUsed).setVm hW'.alike, X.tail, State.WarmedH.trans X.warmed hW', X.limits, X.bytes, X.same.trans (hsame.setVm s.vm)⟩,
      ⟨g, mk, s₂, L, rfl, rfl, hqc, rfl, hL, rfl, rfl⟩, ?_⟩
    show Steps p.tables e below _ ((({ U with heap := s₂.heap, slotsUsed := s₂.slotsUsed } : State).setVm s₂.vm).setTop { g with pc := g.pc + len₂, stack := v.toList ++ g.stack })
    rw [← hs₂]
    exact hsteps
  · obtain ⟨e2, q2, q3, q4, q5, q6⟩ := id hsm
    have e3 : s₂ = ({ (U.calling g mk a).setFrames s₂.frames with heap := s₂.heap, slotsUsed := s₂.slotsUsed } : State).setVm s₂.vm := by
      have : s₂ = ({ s₂ with vm := (U.calling g mk a).vm } : State).setVm s₂.vm := rfl
      rw [e2] at this
      exact this
    have hf₂ : s₂.frames = .throwing q :: .java g :: U.frames.tail := hend
    have hW' : U.WarmedH s₂.vm := hW₂
    have hs₂ : s₂ = ((({ U with heap := s₂.heap, slotsUsed := s₂.slotsUsed } : State).setVm s₂.vm).setTop g).pushFrame (.throwing q) := by
      refine e3.trans ?_
      rw [hf₂, State.calling_eq h.top, State.setFrames_setFrames, State.pushFrame, State.frames_setTop _ hr', State.setTop_of_frames _ hr', State.setFrames_setFrames, hr]
      rfl
    have hsame : U.sameButNew ({ U with heap := s₂.heap, slotsUsed := s₂.slotsUsed } : State) L mc ms := by
      refine ⟨?_, q2, q3, q4, q5, q6⟩
      obtain ⟨t, ht, -⟩ := State.frames_cons hr
      show ({ U with heap := s₂.heap, slotsUsed := s₂.slotsUsed } : State) = { U.setFrames U.frames with heap := s₂.heap, slotsUsed := s₂.slotsUsed }
      rw [State.setFrames_self ht]
    subst hg
    refine Or.inr ⟨q, ⟨(({ U with heap := s₂.heap, slotsUsed := s₂.slotsUsed } : State).setVm s₂.vm), Ls ++ L, c0 + mc, s0 + ms⟩,
      ⟨X.admits, X.cas, X.clock, X.frames, X.room, X.hears, X.method, X.code, (X.here.setHeapUsed s₂.heap s₂.slotsUsed).setVm hW'.alike, X.tail, State.WarmedH.trans X.warmed hW', X.limits, X.bytes, X.same.trans (hsame.setVm s.vm)⟩,
      ⟨g, mk, s₂, L, E, ce, rfl, rfl, hx, hce, hcv, hcl, rfl, hL, rfl, rfl⟩, ?_⟩
    show Steps p.tables e below _ (((({ U with heap := s₂.heap, slotsUsed := s₂.slotsUsed } : State).setVm s₂.vm).setTop g).pushFrame (.throwing q))
    rw [← hs₂]
    exact hsteps
end Payer
section Calls
variable {p : Program} {l : Launch} {e : Env} {R : Room} {s : State} {m : MethodId} {args : Array Value} {below : List Frame} {meth : Method} {c : Code} {T : State} {locs : List Loc} {cells slots : Nat}
theorem vx_callV (X : Stand p l e R s m args below meth c T locs cells slots) (hexec : p.tables.exec = Jvm.exec) {own C : String} {index : Nat} {y : MethodName} {bytes : ByteArray} {maxL : Nat} {ret : Option FieldType}
    (hown : s.vm.findClass own = some m.cls) (hlink : (Cond.methodLink own index y).before args s = true) (hinst : (Cond.instanceMethod y).before args s = true) (hsel : (Cond.selects C y y).before args s = true)
    (hcode : (Cond.code y bytes maxL ret).before args s = true) (hy : y.cls ≠ "java/lang/invoke/MethodHandle" ∧ y.cls ≠ "java/lang/invoke/VarHandle")
    {W9 : Nat} {Pre : Pt → Array Value → Prop} {Post : Pt → Array Value → Option Value → Pt → Prop} {PostX : Pt → Array Value → Addr → Pt → Prop} (hK : vx_Back l R p e below s args y 3 W9 Pre Post PostX)
    {b : Addr} {cellB : Cell} (hcell : T.heap[b]? = some cellB) (hobj : cellB.vm.isStatics = false) (hcls : s.vm.findClass C = some cellB.cls)
    {g : JFrame} (hg : g.method = m) (hsize : g.locals.size = c.maxLocals) {argsL rest : List Value} (hlen : ∀ sig, parseMethodDescriptor y.desc = some sig → argsL.length = sig.parameters.length)
    (hstack : g.stack = argsL.reverse ++ .ref b :: rest) (hW : 2 * g.monitorRoom + (rest.map fun v => v.category).sum ≤ W9) (hdg : decode c.code g.pc = .ok (.invokevirtual index, 3))
    (hpre : ∀ vm₁, s.WarmedH vm₁ → Pre ⟨T.setVm vm₁, locs, cells, slots⟩ (Value.ref b :: argsL).toArray) :
    (∃ (v : Option Value) (vm₁ : Vm) (B : Pt), s.WarmedH vm₁ ∧ Stand p l e R s m args below meth c B.U B.locs B.cells B.slots ∧ Post ⟨T.setVm vm₁, locs, cells, slots⟩ (Value.ref b :: argsL).toArray v B ∧
      ∀ target, Steps p.tables e below (B.U.setTop { g with pc := g.pc + 3, stack := v.toList ++ rest }) target → Steps p.tables e below (T.setTop g) target) ∨
    (∃ (q : Addr) (vm₁ : Vm) (B : Pt), s.WarmedH vm₁ ∧ Stand p l e R s m args below meth c B.U B.locs B.cells B.slots ∧ PostX ⟨T.setVm vm₁, locs, cells, slots⟩ (Value.ref b :: argsL).toArray q B ∧
      Steps p.tables e below (T.setTop g) ((B.U.setTop { g with stack := rest }).pushFrame (.throwing q))) := by
  obtain ⟨mk, methM, hnamed, hmethM, hstM, habM⟩ := Cond.instanceMethod_spec hinst
  obtain ⟨methM', cM, hmethM', -, -, -, -, -, -, hsigM⟩ := Cond.code_spec hnamed hcode
  cases hmethM.symm.trans hmethM'
  obtain ⟨c2, r2, m2, q1, q2, q3, q4, kP, hkP, hkPi⟩ := Cond.selects_spec hsel
  cases hcls.symm.trans q1
  cases (State.methodFound?_of_named hnamed hy).symm.trans q2
  cases hnamed.symm.trans q3
  have hselP : selectMethod e.platform s.vm cellB.cls mk = .method mk := by rw [Launch.admits_selectMethod X.admits]; exact q4
  obtain ⟨vm₁, X₁, hstep₁⟩ := X.invokevirtual hexec hown hlink hnamed hmethM hstM hkP hkPi hy (a := b) (cell := cellB) hcell
    (fun z h => by rw [h] at hobj; cases hobj) hselP hmethM habM hkP hkPi (g := g) hg (argsL := argsL) (rest := rest) (hlen _ hsigM) hstack hdg
  rcases hK m meth c ⟨T.setVm vm₁, locs, cells, slots⟩ { g with stack := rest } (.invokevirtual index) mk (Value.ref b :: argsL).toArray X₁ hg hsize hdg hW (X₁.named hnamed) (hpre vm₁ X₁.warmed) with ⟨v, B, X', hpost, hsteps⟩ | ⟨q, B, X', hpost, hsteps⟩
  · exact Or.inl ⟨v, vm₁, B, X₁.warmed, X', hpost, fun target h => hstep₁ _ fun acts => by rw [doInvoke_state]; exact hsteps.trans h⟩
  · exact Or.inr ⟨q, vm₁, B, X₁.warmed, X', hpost, hstep₁ _ fun acts => by rw [doInvoke_state]; exact hsteps⟩
theorem vx_callS (X : Stand p l e R s m args below meth c T locs cells slots) (hexec : p.tables.exec = Jvm.exec) {own : String} {index : Nat} {y : MethodName} {bytes : ByteArray} {maxL : Nat} {ret : Option FieldType}
    (hown : s.vm.findClass own = some m.cls) (hlink : (Cond.methodLink own index y).before args s = true) (hstat : (Cond.static y).before args s = true) (hinit : (Cond.initialized y.cls).before args s = true)
    (hcode : (Cond.code y bytes maxL ret).before args s = true) (hy : y.cls ≠ "java/lang/invoke/MethodHandle" ∧ y.cls ≠ "java/lang/invoke/VarHandle")
    {W9 : Nat} {Pre : Pt → Array Value → Prop} {Post : Pt → Array Value → Option Value → Pt → Prop} {PostX : Pt → Array Value → Addr → Pt → Prop} (hK : vx_Back l R p e below s args y 3 W9 Pre Post PostX)
    {g : JFrame} (hg : g.method = m) (hsize : g.locals.size = c.maxLocals) {argsL rest : List Value} (hlen : ∀ sig, parseMethodDescriptor y.desc = some sig → argsL.length = sig.parameters.length)
    (hstack : g.stack = argsL.reverse ++ rest) (hW : 2 * g.monitorRoom + (rest.map fun v => v.category).sum ≤ W9) (hdg : decode c.code g.pc = .ok (.invokestatic index, 3))
    (hpre : ∀ vm₁, s.WarmedH vm₁ → Pre ⟨T.setVm vm₁, locs, cells, slots⟩ argsL.toArray) :
    (∃ (v : Option Value) (vm₁ : Vm) (B : Pt), s.WarmedH vm₁ ∧ Stand p l e R s m args below meth c B.U B.locs B.cells B.slots ∧ Post ⟨T.setVm vm₁, locs, cells, slots⟩ argsL.toArray v B ∧
      ∀ target, Steps p.tables e below (B.U.setTop { g with pc := g.pc + 3, stack := v.toList ++ rest }) target → Steps p.tables e below (T.setTop g) target) ∨
    (∃ (q : Addr) (vm₁ : Vm) (B : Pt), s.WarmedH vm₁ ∧ Stand p l e R s m args below meth c B.U B.locs B.cells B.slots ∧ PostX ⟨T.setVm vm₁, locs, cells, slots⟩ argsL.toArray q B ∧
      Steps p.tables e below (T.setTop g) ((B.U.setTop { g with stack := rest }).pushFrame (.throwing q))) := by
  obtain ⟨mk, hnamed⟩ := Cond.code_named hcode
  obtain ⟨methM, cM, hmethM, -, -, -, -, -, -, hsigM⟩ := Cond.code_spec hnamed hcode
  have hstatic : methM.isStatic = true := Cond.static_spec hnamed hmethM hstat
  obtain ⟨kP, hkP, -⟩ := className_of_methodNamed hnamed
  have hinitP : kP.init = .initialized := Cond.initialized_spec (findClass_of_methodNamed hnamed) hkP hinit
  obtain ⟨vm₁, X₁, hstep₁⟩ := X.invokestatic hexec hown hlink hnamed hmethM hstatic hkP hinitP hy (g := g) hg (argsL := argsL) (rest := rest) (hlen _ hsigM) hstack hdg
  rcases hK m meth c ⟨T.setVm vm₁, locs, cells, slots⟩ { g with stack := rest } (.invokestatic index) mk argsL.toArray X₁ hg hsize hdg hW (X₁.named hnamed) (hpre vm₁ X₁.warmed) with ⟨v, B, X', hpost, hsteps⟩ | ⟨q, B, X', hpost, hsteps⟩
  · exact Or.inl ⟨v, vm₁, B, X₁.warmed, X', hpost, fun target h => hstep₁ _ fun acts => by rw [doInvoke_state]; exact hsteps.trans h⟩
  · exact Or.inr ⟨q, vm₁, B, X₁.warmed, X', hpost, hstep₁ _ fun acts => by rw [doInvoke_state]; exact hsteps⟩
end Calls
theorem vx_cls {s : State} {T : State} {vm₁ : Vm} {E : String} {k : ClassId} (hW : s.WarmedH vm₁) (h : (T.setVm vm₁).vm.findClass E = some k) : s.vm.findClass E = some k := by
  have h1 : vm₁.findClass E = some k := h
  rw [hW.alike.findClass] at h1
  exact h1
/-- the method's frame g, with q thrown over it -/
def vx_W (p : Program) (l : Launch) (e : Env) (R : Room) (s : State) (m : MethodId) (args : Array Value) (below : List Frame) (meth : Method) (c : Code) (H : Heap) (locs : List Loc) (cells slots : Nat) (Q : State → Prop) (g : JFrame) (q : Addr) : Prop :=
  ∀ T : State, T.heap = H → Stand p l e R s m args below meth c T locs cells slots → ∃ t, Steps p.tables e below ((T.setTop g).pushFrame (.throwing q)) t ∧ Q t
def vx_Run (p : Program) (l : Launch) (e : Env) (R : Room) (s : State) (m : MethodId) (args : Array Value) (below : List Frame) (meth : Method) (c : Code) (H : Heap) (locs : List Loc) (cells slots mc ms : Nat) (g : JFrame) (rest : List Value) (Qa : State → Outcome → State → Prop) (XC : String → State → State → Prop) (free : Addr → Prop) : Prop :=
  ∀ T : State, T.heap = H → Stand p l e R s m args below meth c T locs cells slots →
    (∃ (v : Option Value) (st₀ t T' : State) (L : List Loc), st₀.heap = H ∧ Stand p l e R s m args below meth c T' (locs ++ L) (cells + mc) (slots + ms) ∧ (∀ q ∈ L, free q.base) ∧ T'.heap = t.heap ∧ T'.vm = t.vm ∧ Qa st₀ (.returned v) t ∧
      Goes p e below T g T' { g with pc := g.pc + 3, stack := v.toList ++ rest }) ∨
    (∃ (q : Addr) (st₀ t T' : State) (L : List Loc) (E : String) (ce : Cell), st₀.heap = H ∧ Stand p l e R s m args below meth c T' (locs ++ L) (cells + mc) (slots + ms) ∧ (∀ z ∈ L, free z.base) ∧ T'.heap = t.heap ∧ T'.vm = t.vm ∧ XC E st₀ t ∧ t.heap[q]? = some ce ∧ ce.vm = .none ∧ s.vm.findClass E = some ce.cls ∧
      Steps p.tables e below (T.setTop g) ((T'.setTop { g with stack := rest }).pushFrame (.throwing q)))
def vx_X {S : Type} (px : S → Prop) (B : String → S → State → Prop) (A : Nat → Prop) : String → State → State → Prop := fun E st t => ∃ u : S, px u ∧ B E u t ∧ va_F A st t
section Runs
variable {p : Program} {l : Launch} {e : Env} {R : Room} {s : State} {m : MethodId} {args : Array Value} {below : List Frame} {meth : Method} {c : Code} {H : Heap} {locs : List Loc} {cells slots : Nat}
variable {y : MethodName} {bytes cc : ByteArray} {maxL nL mc ms n index : Nat} {ret : Option FieldType} {ws : List Cond} {rm : Room} {Pc : Array Value → State → Prop} {Qc : Array Value → State → Outcome → State → Prop} {XC : String → State → State → Prop} {free : Addr → Prop} {Ts : List Cond} {own C : String} {b : Addr} {As rest : List Value} {g : JFrame}
theorem vx_callBack (cb : CallB R s args own index y bytes maxL ret ws rm mc ms n) (hM : vx_Met l y ws rm Pc Qc XC mc ms free) (hbl : FrameBlind Pc) : vx_Back l R p e below s args y 3 8 (PreOf R mc ms Pc) (PostOf Qc mc ms free) (vx_Post XC mc ms free) := by
  obtain ⟨hrc, hrs, hfr, hlo, hws, hcw, -, hini, -⟩ := cb
  exact vx_back (bytes := bytes) (maxL := maxL) (ret := ret) hM hbl hrc hrs hfr hlo hws hcw (fun a' U hW => word_at hW (Or.inl (by first | rfl | simp [Cond.onTables, Cond.keeps, Cond.steady])) hini)
theorem vx_runV (S : CallFix p m c cc nL s args Ts own) (hM : vx_Met l y ws rm Pc Qc XC mc ms free) (cw : CallW R s args own C index y bytes maxL ret ws rm mc ms n) (hp : PreV s H C b Pc As)
    (hg : g.method = m) (hn : As.length = n) (hsize : g.locals.size = nL) (hstack : g.stack = As.reverse ++ .ref b :: rest) (hW : 2 * g.monitorRoom + (rest.map fun v => v.category).sum ≤ 8) (hdg : decode cc g.pc = .ok (.invokevirtual index, 3)) (hf : cells + mc ≤ R.cells ∧ slots + ms ≤ R.slots) :
    vx_Run p l e R s m args below meth c H locs cells slots mc ms g rest (Qc (Value.ref b :: As).toArray) XC free := by
  have hK : vx_Back l R p e below s args y 3 8 (PreOf R mc ms Pc) (PostOf Qc mc ms free) (vx_Post XC mc ms free) := vx_callBack cw.1 hM hp.1
  obtain ⟨⟨-, -, -, -, -, -, hcode, -, hy, hlen, hl⟩, hin, hse⟩ := cw
  obtain ⟨hx, hb, hml, ho, -⟩ := S
  obtain ⟨-, ⟨cellB, hcB, hoB, hclB⟩, hPc⟩ := hp
  intro T hT X
  rcases vx_callV X hx (C := C) (bytes := bytes) (maxL := maxL) (ret := ret) ho hl hin hse hcode hy hK (by rw [hT]; exact hcB) hoB hclB hg (hsize.trans hml.symm) (argsL := As) (rest := rest) (fun sig h => hn.trans (hlen sig h)) hstack hW (by rw [hb]; exact hdg)
    (fun vm₁ hW₁ => ⟨hf.1, hf.2, hPc (T.setVm vm₁) hT hW₁⟩) with ⟨v, vm₁, ⟨U', l2, c2, s2⟩, hW₁, X', ⟨g', mk, t, L, e1, e2, hq, h1, hL, h2, h3⟩, st⟩ | ⟨q, vm₁, ⟨U', l2, c2, s2⟩, hW₁, X', ⟨g', mk, t, L, E, ce, e1, e2, hq, hce, hcv, hcl, h1, hL, h2, h3⟩, st⟩
  · dsimp only [Pt.U, Pt.locs, Pt.cells, Pt.slots] at X' e1 e2 h1 h2 h3 st
    subst h1; subst h2; subst h3
    exact Or.inl ⟨v, (T.setVm vm₁).calling g' mk (Value.ref b :: As).toArray, t, U', L, hT, X', hL, e1, e2, hq, st⟩
  · dsimp only [Pt.U, Pt.locs, Pt.cells, Pt.slots] at X' e1 e2 h1 h2 h3 st hcl
    subst h1; subst h2; subst h3
    exact Or.inr ⟨q, (T.setVm vm₁).calling g' mk (Value.ref b :: As).toArray, t, U', L, E, ce, hT, X', hL, e1, e2, hq, hce, hcv, vx_cls hW₁ hcl, st⟩
theorem vx_runS (S : CallFix p m c cc nL s args Ts own) (hM : vx_Met l y ws rm Pc Qc XC mc ms free) (cw : CallB R s args own index y bytes maxL ret ws rm mc ms n ∧ (Cond.static y).before args s = true) (hp : PreS s H Pc As)
    (hg : g.method = m) (hn : As.length = n) (hsize : g.locals.size = nL) (hstack : g.stack = As.reverse ++ rest) (hW : 2 * g.monitorRoom + (rest.map fun v => v.category).sum ≤ 8) (hdg : decode cc g.pc = .ok (.invokestatic index, 3)) (hf : cells + mc ≤ R.cells ∧ slots + ms ≤ R.slots) :
    vx_Run p l e R s m args below meth c H locs cells slots mc ms g rest (Qc As.toArray) XC free := by
  have hK : vx_Back l R p e below s args y 3 8 (PreOf R mc ms Pc) (PostOf Qc mc ms free) (vx_Post XC mc ms free) := vx_callBack cw.1 hM hp.1
  obtain ⟨⟨-, -, -, -, -, -, hcode, hini, hy, hlen, hl⟩, hstt⟩ := cw
  obtain ⟨hx, hb, hml, ho, -⟩ := S
  intro T hT X
  rcases vx_callS X hx (bytes := bytes) (maxL := maxL) (ret := ret) ho hl hstt hini hcode hy hK hg (hsize.trans hml.symm) (argsL := As) (rest := rest) (fun sig h => hn.trans (hlen sig h)) hstack hW (by rw [hb]; exact hdg)
    (fun vm₁ hW₁ => ⟨hf.1, hf.2, hp.2 (T.setVm vm₁) hT hW₁⟩) with ⟨v, vm₁, ⟨U', l2, c2, s2⟩, hW₁, X', ⟨g', mk, t, L, e1, e2, hq, h1, hL, h2, h3⟩, st⟩ | ⟨q, vm₁, ⟨U', l2, c2, s2⟩, hW₁, X', ⟨g', mk, t, L, E, ce, e1, e2, hq, hce, hcv, hcl, h1, hL, h2, h3⟩, st⟩
  · dsimp only [Pt.U, Pt.locs, Pt.cells, Pt.slots] at X' e1 e2 h1 h2 h3 st
    subst h1; subst h2; subst h3
    exact Or.inl ⟨v, (T.setVm vm₁).calling g' mk As.toArray, t, U', L, hT, X', hL, e1, e2, hq, st⟩
  · dsimp only [Pt.U, Pt.locs, Pt.cells, Pt.slots] at X' e1 e2 h1 h2 h3 st hcl
    subst h1; subst h2; subst h3
    exact Or.inr ⟨q, (T.setVm vm₁).calling g' mk As.toArray, t, U', L, E, ce, hT, X', hL, e1, e2, hq, hce, hcv, vx_cls hW₁ hcl, st⟩
end Runs
section Rows
variable {p : Program} {l : Launch} {e : Env} {R : Room} {s : State} {m : MethodId} {args : Array Value} {below : List Frame} {meth : Method} {c : Code} {H : Heap} {locs : List Loc} {cells slots : Nat} {Q : State → Prop}
variable {mc ms : Nat} {free : Addr → Prop} {A0 A1 : Nat → Prop} {H0 : Heap} {a : Array Value} {pc : Nat} {ls : Array Slot} {st0 rest : List Value}
theorem vx_keep {st₀ t T' : State} {L : List Loc} (h0 : st₀.heap = H) (e1 : T'.heap = t.heap) (hS : va_S A0 H0 H locs) (hA : ∀ q, q < H.size → A1 q → A0 q) (hf : ∀ q, free q → A0 q) (hL : ∀ q ∈ L, free q.base) (hF : va_F A1 st₀ t) :
    H.size ≤ T'.heap.size ∧ (∀ q : Nat, q < H.size → ¬ A1 q → T'.heap[q]? = H[q]?) ∧ va_S A0 H0 T'.heap (locs ++ L) := by
  obtain ⟨hz, hk⟩ := hF
  rw [h0] at hz hk
  exact ⟨by rw [e1]; exact hz, fun q h1 h2 => by rw [e1]; exact hk q h1 h2,
    ⟨Nat.le_trans hS.1 (by rw [e1]; exact hz), fun q h1 h2 => by rw [e1, hk q (Nat.lt_of_lt_of_le h1 hS.1) (fun z => h2 (hA q (Nat.lt_of_lt_of_le h1 hS.1) z))]; exact hS.2.1 q h1 h2, fun q hq => by
      rcases List.mem_append.mp hq with h | h
      · exact hS.2.2 q h
      · exact hf _ (hL q h)⟩⟩
theorem vx_calli {S SX : Type} {post : Int32 → S → Prop} {px : SX → Prop} {B : S → State → Prop} {BX : String → SX → State → Prop} {AX : Nat → Prop} (hr : vx_Run p l e R s m args below meth c H locs cells slots mc ms (F0 m pc ls st0) rest (va_Qi post B A1 a) (vx_X px BX AX) free) (hS : va_S A0 H0 H locs) (hA : ∀ q, q < H.size → A1 q → A0 q) (hf : ∀ q, free q → A0 q) (hAX : ∀ q, q < H.size → AX q → A0 q)
    (kx : ∀ (E : String) (ce : Cell) (q9 : Addr) (u : SX) (t : State) (H1 : Heap) (locs1 : List Loc), t.heap = H1 → s.vm.Alike t.vm → px u → BX E u t → H.size ≤ H1.size → (∀ q : Nat, q < H.size → ¬ AX q → H1[q]? = H[q]?) → va_S A0 H0 H1 locs1 → H1[q9]? = some ce → ce.vm = .none → s.vm.findClass E = some ce.cls → vx_W p l e R s m args below meth c H1 locs1 (cells + mc) (slots + ms) Q (F0 m pc ls rest) q9)
    (kk : ∀ (r : Int32) (u : S) (t : State) (H1 : Heap) (locs1 : List Loc), t.heap = H1 → s.vm.Alike t.vm → post r u → B u t → H.size ≤ H1.size → (∀ q : Nat, q < H.size → ¬ A1 q → H1[q]? = H[q]?) → va_S A0 H0 H1 locs1 → W p l e R s m args below meth c H1 locs1 (cells + mc) (slots + ms) Q (F0 m (pc + 3) ls (.int r :: rest))) : W p l e R s m args below meth c H locs cells slots Q (F0 m pc ls st0) := by
  intro T hT X
  rcases hr T hT X with ⟨v, st₀, t, T', L, h0, X', hL, e1, e2, ⟨⟨r, u, hv, hp, hb⟩, hF⟩, st⟩ | ⟨q, st₀, t, T', L, E, ce, h0, X', hL, e1, e2, ⟨u, hp, hb, hF⟩, hce, hcv, hcl, st⟩
  · cases hv
    obtain ⟨k1, k2, k3⟩ := vx_keep h0 e1 hS hA hf hL hF
    obtain ⟨t2, a1, b1⟩ := kk r u t T'.heap (locs ++ L) e1.symm (by rw [← e2]; exact X'.warmed.alike) hp hb k1 k2 k3 T' rfl X'
    exact ⟨t2, st t2 a1, b1⟩
  · obtain ⟨k1, k2, k3⟩ := vx_keep h0 e1 hS hAX hf hL hF
    obtain ⟨t2, a1, b1⟩ := kx E ce q u t T'.heap (locs ++ L) e1.symm (by rw [← e2]; exact X'.warmed.alike) hp hb k1 k2 k3 (by rw [e1]; exact hce) hcv hcl T' rfl X'
    exact ⟨t2, st.trans a1, b1⟩
theorem vx_calll {S SX : Type} {post : Int64 → S → Prop} {px : SX → Prop} {B : S → State → Prop} {BX : String → SX → State → Prop} {AX : Nat → Prop} (hr : vx_Run p l e R s m args below meth c H locs cells slots mc ms (F0 m pc ls st0) rest (va_Ql post B A1 a) (vx_X px BX AX) free) (hS : va_S A0 H0 H locs) (hA : ∀ q, q < H.size → A1 q → A0 q) (hf : ∀ q, free q → A0 q) (hAX : ∀ q, q < H.size → AX q → A0 q)
    (kx : ∀ (E : String) (ce : Cell) (q9 : Addr) (u : SX) (t : State) (H1 : Heap) (locs1 : List Loc), t.heap = H1 → s.vm.Alike t.vm → px u → BX E u t → H.size ≤ H1.size → (∀ q : Nat, q < H.size → ¬ AX q → H1[q]? = H[q]?) → va_S A0 H0 H1 locs1 → H1[q9]? = some ce → ce.vm = .none → s.vm.findClass E = some ce.cls → vx_W p l e R s m args below meth c H1 locs1 (cells + mc) (slots + ms) Q (F0 m pc ls rest) q9)
    (kk : ∀ (r : Int64) (u : S) (t : State) (H1 : Heap) (locs1 : List Loc), t.heap = H1 → s.vm.Alike t.vm → post r u → B u t → H.size ≤ H1.size → (∀ q : Nat, q < H.size → ¬ A1 q → H1[q]? = H[q]?) → va_S A0 H0 H1 locs1 → W p l e R s m args below meth c H1 locs1 (cells + mc) (slots + ms) Q (F0 m (pc + 3) ls (.long r :: rest))) : W p l e R s m args below meth c H locs cells slots Q (F0 m pc ls st0) := by
  intro T hT X
  rcases hr T hT X with ⟨v, st₀, t, T', L, h0, X', hL, e1, e2, ⟨⟨r, u, hv, hp, hb⟩, hF⟩, st⟩ | ⟨q, st₀, t, T', L, E, ce, h0, X', hL, e1, e2, ⟨u, hp, hb, hF⟩, hce, hcv, hcl, st⟩
  · cases hv
    obtain ⟨k1, k2, k3⟩ := vx_keep h0 e1 hS hA hf hL hF
    obtain ⟨t2, a1, b1⟩ := kk r u t T'.heap (locs ++ L) e1.symm (by rw [← e2]; exact X'.warmed.alike) hp hb k1 k2 k3 T' rfl X'
    exact ⟨t2, st t2 a1, b1⟩
  · obtain ⟨k1, k2, k3⟩ := vx_keep h0 e1 hS hAX hf hL hF
    obtain ⟨t2, a1, b1⟩ := kx E ce q u t T'.heap (locs ++ L) e1.symm (by rw [← e2]; exact X'.warmed.alike) hp hb k1 k2 k3 (by rw [e1]; exact hce) hcv hcl T' rfl X'
    exact ⟨t2, st.trans a1, b1⟩
theorem vx_callf {S SX : Type} {post : UInt32 → S → Prop} {px : SX → Prop} {B : S → State → Prop} {BX : String → SX → State → Prop} {AX : Nat → Prop} (hr : vx_Run p l e R s m args below meth c H locs cells slots mc ms (F0 m pc ls st0) rest (va_Qf post B A1 a) (vx_X px BX AX) free) (hS : va_S A0 H0 H locs) (hA : ∀ q, q < H.size → A1 q → A0 q) (hf : ∀ q, free q → A0 q) (hAX : ∀ q, q < H.size → AX q → A0 q)
    (kx : ∀ (E : String) (ce : Cell) (q9 : Addr) (u : SX) (t : State) (H1 : Heap) (locs1 : List Loc), t.heap = H1 → s.vm.Alike t.vm → px u → BX E u t → H.size ≤ H1.size → (∀ q : Nat, q < H.size → ¬ AX q → H1[q]? = H[q]?) → va_S A0 H0 H1 locs1 → H1[q9]? = some ce → ce.vm = .none → s.vm.findClass E = some ce.cls → vx_W p l e R s m args below meth c H1 locs1 (cells + mc) (slots + ms) Q (F0 m pc ls rest) q9)
    (kk : ∀ (r : UInt32) (u : S) (t : State) (H1 : Heap) (locs1 : List Loc), t.heap = H1 → s.vm.Alike t.vm → post r u → B u t → H.size ≤ H1.size → (∀ q : Nat, q < H.size → ¬ A1 q → H1[q]? = H[q]?) → va_S A0 H0 H1 locs1 → W p l e R s m args below meth c H1 locs1 (cells + mc) (slots + ms) Q (F0 m (pc + 3) ls (.float r :: rest))) : W p l e R s m args below meth c H locs cells slots Q (F0 m pc ls st0) := by
  intro T hT X
  rcases hr T hT X with ⟨v, st₀, t, T', L, h0, X', hL, e1, e2, ⟨⟨r, u, hv, hp, hb⟩, hF⟩, st⟩ | ⟨q, st₀, t, T', L, E, ce, h0, X', hL, e1, e2, ⟨u, hp, hb, hF⟩, hce, hcv, hcl, st⟩
  · cases hv
    obtain ⟨k1, k2, k3⟩ := vx_keep h0 e1 hS hA hf hL hF
    obtain ⟨t2, a1, b1⟩ := kk r u t T'.heap (locs ++ L) e1.symm (by rw [← e2]; exact X'.warmed.alike) hp hb k1 k2 k3 T' rfl X'
    exact ⟨t2, st t2 a1, b1⟩
  · obtain ⟨k1, k2, k3⟩ := vx_keep h0 e1 hS hAX hf hL hF
    obtain ⟨t2, a1, b1⟩ := kx E ce q u t T'.heap (locs ++ L) e1.symm (by rw [← e2]; exact X'.warmed.alike) hp hb k1 k2 k3 (by rw [e1]; exact hce) hcv hcl T' rfl X'
    exact ⟨t2, st.trans a1, b1⟩
theorem vx_calld {S SX : Type} {post : UInt64 → S → Prop} {px : SX → Prop} {B : S → State → Prop} {BX : String → SX → State → Prop} {AX : Nat → Prop} (hr : vx_Run p l e R s m args below meth c H locs cells slots mc ms (F0 m pc ls st0) rest (va_Qd post B A1 a) (vx_X px BX AX) free) (hS : va_S A0 H0 H locs) (hA : ∀ q, q < H.size → A1 q → A0 q) (hf : ∀ q, free q → A0 q) (hAX : ∀ q, q < H.size → AX q → A0 q)
    (kx : ∀ (E : String) (ce : Cell) (q9 : Addr) (u : SX) (t : State) (H1 : Heap) (locs1 : List Loc), t.heap = H1 → s.vm.Alike t.vm → px u → BX E u t → H.size ≤ H1.size → (∀ q : Nat, q < H.size → ¬ AX q → H1[q]? = H[q]?) → va_S A0 H0 H1 locs1 → H1[q9]? = some ce → ce.vm = .none → s.vm.findClass E = some ce.cls → vx_W p l e R s m args below meth c H1 locs1 (cells + mc) (slots + ms) Q (F0 m pc ls rest) q9)
    (kk : ∀ (r : UInt64) (u : S) (t : State) (H1 : Heap) (locs1 : List Loc), t.heap = H1 → s.vm.Alike t.vm → post r u → B u t → H.size ≤ H1.size → (∀ q : Nat, q < H.size → ¬ A1 q → H1[q]? = H[q]?) → va_S A0 H0 H1 locs1 → W p l e R s m args below meth c H1 locs1 (cells + mc) (slots + ms) Q (F0 m (pc + 3) ls (.double r :: rest))) : W p l e R s m args below meth c H locs cells slots Q (F0 m pc ls st0) := by
  intro T hT X
  rcases hr T hT X with ⟨v, st₀, t, T', L, h0, X', hL, e1, e2, ⟨⟨r, u, hv, hp, hb⟩, hF⟩, st⟩ | ⟨q, st₀, t, T', L, E, ce, h0, X', hL, e1, e2, ⟨u, hp, hb, hF⟩, hce, hcv, hcl, st⟩
  · cases hv
    obtain ⟨k1, k2, k3⟩ := vx_keep h0 e1 hS hA hf hL hF
    obtain ⟨t2, a1, b1⟩ := kk r u t T'.heap (locs ++ L) e1.symm (by rw [← e2]; exact X'.warmed.alike) hp hb k1 k2 k3 T' rfl X'
    exact ⟨t2, st t2 a1, b1⟩
  · obtain ⟨k1, k2, k3⟩ := vx_keep h0 e1 hS hAX hf hL hF
    obtain ⟨t2, a1, b1⟩ := kx E ce q u t T'.heap (locs ++ L) e1.symm (by rw [← e2]; exact X'.warmed.alike) hp hb k1 k2 k3 (by rw [e1]; exact hce) hcv hcl T' rfl X'
    exact ⟨t2, st.trans a1, b1⟩
theorem vx_callv {S SX : Type} {post : S → Prop} {px : SX → Prop} {B : S → State → Prop} {BX : String → SX → State → Prop} {AX : Nat → Prop} (hr : vx_Run p l e R s m args below meth c H locs cells slots mc ms (F0 m pc ls st0) rest (va_Qv post B A1 a) (vx_X px BX AX) free) (hS : va_S A0 H0 H locs) (hA : ∀ q, q < H.size → A1 q → A0 q) (hf : ∀ q, free q → A0 q) (hAX : ∀ q, q < H.size → AX q → A0 q)
    (kx : ∀ (E : String) (ce : Cell) (q9 : Addr) (u : SX) (t : State) (H1 : Heap) (locs1 : List Loc), t.heap = H1 → s.vm.Alike t.vm → px u → BX E u t → H.size ≤ H1.size → (∀ q : Nat, q < H.size → ¬ AX q → H1[q]? = H[q]?) → va_S A0 H0 H1 locs1 → H1[q9]? = some ce → ce.vm = .none → s.vm.findClass E = some ce.cls → vx_W p l e R s m args below meth c H1 locs1 (cells + mc) (slots + ms) Q (F0 m pc ls rest) q9)
    (kk : ∀ (u : S) (t : State) (H1 : Heap) (locs1 : List Loc), t.heap = H1 → s.vm.Alike t.vm → post u → B u t → H.size ≤ H1.size → (∀ q : Nat, q < H.size → ¬ A1 q → H1[q]? = H[q]?) → va_S A0 H0 H1 locs1 → W p l e R s m args below meth c H1 locs1 (cells + mc) (slots + ms) Q (F0 m (pc + 3) ls (rest))) : W p l e R s m args below meth c H locs cells slots Q (F0 m pc ls st0) := by
  intro T hT X
  rcases hr T hT X with ⟨v, st₀, t, T', L, h0, X', hL, e1, e2, ⟨⟨u, hv, hp, hb⟩, hF⟩, st⟩ | ⟨q, st₀, t, T', L, E, ce, h0, X', hL, e1, e2, ⟨u, hp, hb, hF⟩, hce, hcv, hcl, st⟩
  · cases hv
    obtain ⟨k1, k2, k3⟩ := vx_keep h0 e1 hS hA hf hL hF
    obtain ⟨t2, a1, b1⟩ := kk u t T'.heap (locs ++ L) e1.symm (by rw [← e2]; exact X'.warmed.alike) hp hb k1 k2 k3 T' rfl X'
    exact ⟨t2, st t2 a1, b1⟩
  · obtain ⟨k1, k2, k3⟩ := vx_keep h0 e1 hS hAX hf hL hF
    obtain ⟨t2, a1, b1⟩ := kx E ce q u t T'.heap (locs ++ L) e1.symm (by rw [← e2]; exact X'.warmed.alike) hp hb k1 k2 k3 (by rw [e1]; exact hce) hcv hcl T' rfl X'
    exact ⟨t2, st.trans a1, b1⟩
end Rows
section Ends
variable {p : Program} {l : Launch} {e : Env} {R : Room} {s : State} {m : MethodId} {args : Array Value} {below : List Frame} {meth : Method} {c : Code} {H : Heap} {locs : List Loc} {cells slots : Nat} {Q : State → Prop}
variable {mc ms : Nat} {free : Addr → Prop} {A0 A1 : Nat → Prop} {H0 : Heap} {a : Array Value} {ls : Array Slot} {st0 rest : List Value}
variable {Qc : Array Value → State → Outcome → State → Prop} {XC : String → State → State → Prop}
/-- what a body that may throw owes at its end -/
def vx_MQ (below : List Frame) (Qc : Array Value → State → Outcome → State → Prop) (XC : String → State → State → Prop) (a : Array Value) (s : State) (mc ms : Nat) (free : Addr → Prop) : State → Prop := fun t =>
  ∃ o, t.status = .running ∧ Ended t below o ∧ vx_Q Qc XC mc ms free a s o t
theorem vx_ret {g : JFrame} {mc ms : Nat} (k : W p l e R s m args below meth c H locs cells slots (MQ below Qc args s mc ms free) g) : W p l e R s m args below meth c H locs cells slots (vx_MQ below Qc XC args s mc ms free) g := by
  intro T hT X
  obtain ⟨t, a1, o, b1, b2, b3, b4⟩ := k T hT X
  exact ⟨t, a1, o, b1, b2, Or.inl ⟨b3, b4⟩⟩
/-- not caught here: it goes on to the caller -/
theorem vx_widen {g : JFrame} {q : Addr} {k n : Nat} (h1 : cells ≤ k) (h2 : slots ≤ n) (kk : vx_W p l e R s m args below meth c H locs k n Q g q) : vx_W p l e R s m args below meth c H locs cells slots Q g q := fun T hT X => kk T hT (stand_widen X h1 h2)
theorem vx_out {pc : Nat} {E : String} {ce : Cell} {q : Addr} {mc ms : Nat} (hout : ∀ x ∈ c.exceptionTable.toList, covers x pc = false) (hlocks : meth.locks = false) (hcell : H[q]? = some ce) (hv : ce.vm = .none) (hcl : s.vm.findClass E = some ce.cls)
    (hx : ∀ t : State, t.heap = H → s.vm.Alike t.vm → XC E s t) (hf : ∀ z ∈ locs, free z.base) (hc : cells ≤ mc) (hs : slots ≤ ms) :
    vx_W p l e R s m args below meth c H locs cells slots (vx_MQ below Qc XC args s mc ms free) (F0 m pc ls rest) q := by
  intro T hT X
  obtain ⟨st1, hrun, hend, hW, hsm⟩ := X.leaveThrown q (g := F0 m pc ls rest) rfl rfl rfl hout hlocks
  have hcell9 : (T.setFrames (.throwing q :: below)).heap[q]? = some ce := by
    show T.heap[q]? = some ce
    rw [hT]; exact hcell
  exact ⟨_, st1, .threw q, hrun, hend, Or.inr ⟨q, rfl, E, ce, locs, hx _ hT hW.alike, hcell9, hv, hcl, hW, hsm.mono hc hs, hf⟩⟩
theorem vx_frame {U : State} {k n : Nat} (h : s.sameButNew ({ U with vm := s.vm } : State) locs k n) : s.heap.size ≤ U.heap.size ∧ ∀ q : Nat, q < s.heap.size → (∀ z ∈ locs, z.base ≠ q) → U.heap[q]? = s.heap[q]? := by
  obtain ⟨-, h2, -, -, -, h6⟩ := h
  refine ⟨h2, fun q hq hz => ?_⟩
  obtain ⟨c9, e1, e2, e3, e4⟩ := h6 q _ (Array.getElem?_eq_getElem hq)
  have hs : c9.slots = (s.heap[q]).slots := Array.ext_getElem? fun i => e4 i fun hm => hz _ hm rfl
  have h9 : c9 = s.heap[q] := by
    rw [hs] at e2
    exact e2
  have e5 : U.heap[q]? = some c9 := e1
  rw [e5, h9, Array.getElem?_eq_getElem hq]
/-- the words of a throw but the four that speak of the heap -/
def vx_no (w : Cond) : Bool := decide (w ≠ .isRef (.static Bundle.tN "UNASSIGNED_STACK" Bundle.steD)) && decide (w ≠ .isRef (.static Bundle.tN "SUPPRESSED_SENTINEL" Bundle.listD)) && decide (w ≠ .laysStatic Bundle.tN "UNASSIGNED_STACK" Bundle.steD) && decide (w ≠ .laysStatic Bundle.tN "SUPPRESSED_SENTINEL" Bundle.listD)
def vx_at0 (own : String) (ic : Nat) (X : String) (names : List String) : List Cond := (Bundle.ownAtoms0 own ic X names).filter vx_no
def vx_atS (own : String) (ic : Nat) (X : String) (names : List String) : List Cond := (Bundle.ownAtoms own ic X names).filter vx_no
/-- a word that the tables alone decide, or a good one -/
def vx_ot (w : Cond) : Bool := w.onTables || goodWord w
theorem vx_ot_at {args a' : Array Value} {s U : State} {w : Cond} (hW : s.WarmedH U.vm) (hvm : s.vm = U.vm) (hg : vx_ot w = true) (h : w.before args s = true) : w.before a' U = true := by
  simp only [vx_ot, Bool.or_eq_true] at hg
  rcases hg with hg | hg
  · exact va_tabs hg hvm h
  · exact word_at hW (good_of_word hg) h
/-- a list's words: the good ones out of the method's own list, the others by premises of their own -/
theorem vx_hat {args : Array Value} {s : State} {L B : List Cond} (h1 : ∀ w ∈ L.filter goodWord, w.before args s = true) (h2 : ∀ w ∈ L.filter (fun w => !goodWord w), w ∈ B) (h3 : ∀ w ∈ B, w.before args s = true) : ∀ w ∈ L, w.before args s = true := by
  intro w hw
  by_cases g : goodWord w = true
  · exact h1 w (List.mem_filter.mpr ⟨hw, g⟩)
  · refine h3 w (h2 w (List.mem_filter.mpr ⟨hw, ?_⟩))
    show (!goodWord w) = true
    cases hgw : goodWord w
    · rfl
    · exact absurd hgw g
theorem vx_c {args : Array Value} {s : State} {w : Cond} {B : List Cond} (h : w.before args s = true) (t : ∀ w ∈ B, w.before args s = true) : ∀ w' ∈ w :: B, w'.before args s = true := fun w' h' => (List.mem_cons.mp h').elim (fun e => by rw [e]; exact h) (t w')
theorem vx_n {args : Array Value} {s : State} : ∀ w ∈ ([] : List Cond), w.before args s = true := fun _ h => nomatch h
theorem vx_own {args : Array Value} {s : State} {L : List Cond} (h1 : ∀ w ∈ L.filter vx_no, w.before args s = true)
    (hU : (Cond.isRef (.static Bundle.tN "UNASSIGNED_STACK" Bundle.steD)).before args s = true) (hN : (Cond.isRef (.static Bundle.tN "SUPPRESSED_SENTINEL" Bundle.listD)).before args s = true)
    (lU : (Cond.laysStatic Bundle.tN "UNASSIGNED_STACK" Bundle.steD).before args s = true) (lN : (Cond.laysStatic Bundle.tN "SUPPRESSED_SENTINEL" Bundle.listD).before args s = true) : ∀ w ∈ L, w.before args s = true := by
  intro w hw
  by_cases e1 : w = .isRef (.static Bundle.tN "UNASSIGNED_STACK" Bundle.steD)
  · rw [e1]; exact hU
  · by_cases e2 : w = .isRef (.static Bundle.tN "SUPPRESSED_SENTINEL" Bundle.listD)
    · rw [e2]; exact hN
    · by_cases e3 : w = .laysStatic Bundle.tN "UNASSIGNED_STACK" Bundle.steD
      · rw [e3]; exact lU
      · by_cases e4 : w = .laysStatic Bundle.tN "SUPPRESSED_SENTINEL" Bundle.listD
        · rw [e4]; exact lN
        · exact h1 w (List.mem_filter.mpr ⟨hw, by unfold vx_no; rw [decide_eq_true e1, decide_eq_true e2, decide_eq_true e3, decide_eq_true e4]; rfl⟩)
/-- where a static field lies, its class's statics cell in H -/
def vx_L (C n d : String) (A : Nat → Prop) (U : State) (H : Heap) : Prop := ∃ (c : ClassId) (k : Class) (i : Nat) (f : Field) (a : Nat) (cell : Cell), U.vm.findClass C = some c ∧ U.fieldFound? C n d = some (c, k, i, f) ∧ f.isStatic = true ∧ k.statics = some a ∧ H[a]? = some cell ∧ cell.vm.isStatics = true ∧ cell.cls = c ∧ f.slot < cell.slots.size ∧ k.staticTypes[f.slot]? = some f.type ∧ ¬ A a
theorem vx_L.moved {C n d : String} {A : Nat → Prop} {u U : State} {H : Heap} (hvm : u.vm.Alike U.vm) (h : vx_L C n d A u H) : vx_L C n d A U H := by
  obtain ⟨c, k, i, f, a, cell, h1, h2, h3, h4, h5, h6, h7, h8, h9, h10⟩ := h
  obtain ⟨k', hi', he⟩ := State.fieldFound?_setVm hvm h2
  exact ⟨c, k', i, f, a, cell, by rw [hvm.findClass]; exact h1, hi', h3, by rw [he]; exact h4, h5, h6, h7, h8, by rw [he]; exact h9, h10⟩
theorem vx_L.kept {C n d : String} {A : Nat → Prop} {U : State} {H H1 : Heap} (h : vx_L C n d A U H) (hq : ∀ a : Nat, a < H.size → ¬ A a → H1[a]? = H[a]?) : vx_L C n d A U H1 := by
  obtain ⟨c, k, i, f, a, cell, h1, h2, h3, h4, h5, h6, h7, h8, h9, h10⟩ := h
  exact ⟨c, k, i, f, a, cell, h1, h2, h3, h4, by rw [hq a (Array.getElem?_eq_some_iff.mp h5).1 h10]; exact h5, h6, h7, h8, h9, h10⟩
theorem vx_L.narrow {C n d : String} {A B : Nat → Prop} {U : State} {H : Heap} (h : vx_L C n d A U H) (hAB : ∀ q, B q → A q) : vx_L C n d B U H := by
  obtain ⟨c, k, i, f, a, cell, h1, h2, h3, h4, h5, h6, h7, h8, h9, h10⟩ := h
  exact ⟨c, k, i, f, a, cell, h1, h2, h3, h4, h5, h6, h7, h8, h9, fun z => h10 (hAB _ z)⟩
theorem vx_L.word {C n d : String} {A : Nat → Prop} {s : State} {args : Array Value} (h : vx_L C n d A s s.heap) : (Cond.laysStatic C n d).before args s = true := by
  obtain ⟨c, k, i, f, a, cell, h1, h2, h3, h4, h5, h6, h7, h8, h9, -⟩ := h
  show (Cond.laysStatic C n d).holds args s none s [] = true
  exact Cond.laysStatic_of h1 h2 h3 h4 h5 h6 h7 h8 h9
/-- .. and what it holds: null or some reference -/
def vx_Zq (C n d : String) (A : Nat → Prop) (U : State) (H : Heap) : Prop := va_Zq C n d A U H ∧ vx_L C n d A U H
theorem vx_Zq.moved {C n d : String} {A : Nat → Prop} {u U : State} {H : Heap} (hvm : u.vm.Alike U.vm) (h : vx_Zq C n d A u H) : vx_Zq C n d A U H := ⟨va_Zq.moved hvm h.1, vx_L.moved hvm h.2⟩
theorem vx_Zq.kept {C n d : String} {A : Nat → Prop} {U : State} {H H1 : Heap} (h : vx_Zq C n d A U H) (hq : ∀ a : Nat, a < H.size → ¬ A a → H1[a]? = H[a]?) : vx_Zq C n d A U H1 := ⟨va_Zq.kept h.1 hq, vx_L.kept h.2 hq⟩
theorem vx_Zq.narrow {C n d : String} {A B : Nat → Prop} {U : State} {H : Heap} (h : vx_Zq C n d A U H) (hAB : ∀ q, B q → A q) : vx_Zq C n d B U H := ⟨va_Zq.narrow h.1 hAB, vx_L.narrow h.2 hAB⟩
theorem vx_Zqof {args : Array Value} {s : State} {C n d : String} {A : Nat → Prop} (hl : (Cond.laysStatic C n d).before args s = true) (hini : (Cond.initialized C).before args s = true) (h : (Cond.isRef (.static C n d)).before args s = true) (hA : ∀ a : Nat, a < s.heap.size → ¬ A a) : vx_Zq C n d A s s.heap := by
  refine ⟨va_Zqof hl hini h hA, ?_⟩
  obtain ⟨c, k, i, f, a, cell, h1, h2, h3, h4, h5, h6, h7, h8, h9⟩ := Cond.laysStatic_spec hl
  exact ⟨c, k, i, f, a, cell, h1, h2, h3, h4, h5, h6, h7, h8, h9, hA a (Array.getElem?_eq_some_iff.mp h5).1⟩
theorem vx_isRef {C n d : String} {v : Value} {A : Nat → Prop} {s : State} {args : Array Value} (h : va_Z C n d v A s s.heap) (hv : v.isRef = true) : (Cond.isRef (.static C n d)).before args s = true := by
  obtain ⟨cf, kf, fi, f, a, cell, h1, h2, h3, h4, h5, h6, h7, -⟩ := h
  have he : (Term.static C n d).eval args s none [] s = some v := by
    simp [Term.eval, State.fieldNamed?, h1, h2, h4, h5, h6, h7]
  simp only [Cond.before, Cond.holds, Cond.value, he]
  cases v <;> simp_all [Value.isRef]
theorem vx_isRefq {C n d : String} {A : Nat → Prop} {s : State} {args : Array Value} (h : va_Zq C n d A s s.heap) : (Cond.isRef (.static C n d)).before args s = true := by
  rcases h with h | ⟨t, h⟩
  · exact vx_isRef h rfl
  · exact vx_isRef h rfl
/-- the same frame, seen from here: as if the method were called anew in this heap -/
theorem vx_rebase {T : State} (X : Stand p l e R s m args below meth c T locs cells slots) {R' : Room} (hf : R'.frames ≤ R.frames) (hl : R'.locals ≤ R.locals) (hc : cells + R'.cells ≤ R.cells) (hs : slots + R'.slots ≤ R.slots) :
    Stand p l e R' ((T.setVm s.vm).setFrames (.invoking m args :: below)) m args below meth c T [] 0 0 := by
  have htop : (T.setVm s.vm).topJava?.isSome := X.here.top
  have hF : ((T.setVm s.vm).setFrames (.invoking m args :: below)).frames = .invoking m args :: below := State.frames_setFrames _ (State.cur_lt_of_top htop)
  obtain ⟨g₀, hg0⟩ := Option.isSome_iff_exists.mp htop
  obtain ⟨r, hr⟩ := State.topJava?_eq_some.mp hg0
  have hl9 : e.platform.stackLimits (T.setVm s.vm).me = e.platform.stackLimits s.me := X.limits
  have hb9 : (T.setVm s.vm).me.stackBytes = s.me.stackBytes := X.bytes
  refine ⟨X.admits, X.cas, X.clock, hF, ?_, X.hears, X.method, X.code, X.here, X.tail, X.warmed, ?_, ?_, ?_⟩
  · have h := X.room
    have hU : ((T.setVm s.vm).setFrames (.invoking m args :: below)).localsInUse = s.localsInUse := by
      rw [State.localsInUse_invoking hF (meth := meth) (c := c) X.method X.code, State.localsInUse_invoking X.frames X.method X.code]
    simp only [State.hasRoom, Bool.and_eq_true, decide_eq_true_eq] at h ⊢
    obtain ⟨⟨⟨⟨h1, h2, h3, h4, h5, h6⟩, h7⟩, h8⟩, h9⟩ := h
    rw [X.frames, List.length_cons] at h2 h3
    have q1 := X.heapSize
    have q2 := X.used
    simp only [hF, hU, List.length_cons, State.stackLimits_setFrames, State.stackBytes_setFrames, hl9, hb9]
    refine ⟨⟨⟨⟨by omega, by omega, by omega, by omega, by omega, h6⟩, ?_⟩, ?_⟩, X.book⟩
    · show T.heap.size + R'.cells ≤ e.platform.maxCells
      omega
    · show T.slotsUsed + R'.slots ≤ e.platform.maxSlots
      omega
  · rw [State.stackLimits_setFrames]; rfl
  · rw [State.stackBytes_setFrames]; rfl
  · refine ⟨?_, Nat.le_refl _, Nat.le_refl _, ?_, ?_, fun a c9 h9 => ⟨c9, h9, rfl, rfl, fun _ _ => rfl⟩⟩
    · obtain ⟨t, ht, -⟩ := State.frames_cons hr
      show T.setVm s.vm = { ((T.setVm s.vm).setFrames (.invoking m args :: below)).setFrames (T.setVm s.vm).frames with heap := T.heap, slotsUsed := T.slotsUsed }
      rw [State.setFrames_setFrames, State.setFrames_self ht]
      rfl
    · show T.slotsUsed = T.slotsUsed + ((T.heap.toList.drop T.heap.size).map (·.slots.size)).sum
      rw [List.drop_eq_nil_of_le (Nat.le_of_eq Array.length_toList)]
      rfl
    · show ((T.heap.toList.drop T.heap.size).map (·.slots.size)).sum ≤ 0
      rw [List.drop_eq_nil_of_le (Nat.le_of_eq Array.length_toList)]
      exact Nat.le_refl _
/-- 'throw new E()': new; dup; invokespecial; athrow -/
theorem vx_throw0 {cc : ByteArray} {pc : Nat} (hexec : p.tables.exec = Jvm.exec) (hb : c.code = cc) (hl : l.stackTraces = false) {own cls : String} {names : List String} {ik ic mc ms : Nat} {A : Nat → Prop}
    (hown : s.vm.findClass own = some m.cls) (hcls : Bundle.fit cls = true) (hnames : ∀ n ∈ names, Bundle.fit n = true)
    (hk : (Cond.classLink own ik cls).before args s = true) (hini : (Cond.initialized cls).before args s = true) (hat : ∀ w ∈ vx_at0 own ic cls names, w.before args s = true)
    (hgood : ∀ w ∈ Cond.classLink own ik cls :: Cond.initialized cls :: vx_at0 own ic cls names, vx_ot w = true)
    (hU : vx_Zq Bundle.tN "UNASSIGNED_STACK" Bundle.steD A s s.heap) (hN : vx_Zq Bundle.tN "SUPPRESSED_SENTINEL" Bundle.listD A s s.heap) (hS : va_S A s.heap H locs) (hsize : ls.size = c.maxLocals)
    (d0 : decode cc pc = .ok (.new ik, 3)) (d3 : decode cc (pc + 3) = .ok (.dup, 1)) (d4 : decode cc (pc + 4) = .ok (.invokespecial ic, 3)) (d7 : decode cc (pc + 7) = .ok (.athrow, 1))
    (hout : ∀ x ∈ c.exceptionTable.toList, covers x (pc + 7) = false)
    (hRframes : names.length + 3 < R.frames) (hRlocals : (rest.map fun v => v.category).sum + (13 * (names.length + 1) + 42) ≤ R.locals) (hRcells : cells + 1 ≤ R.cells) (hRslots : slots + 6 ≤ R.slots) (hlocks : meth.locks = false)
    (hx : ∀ t : State, s.vm.Alike t.vm → H.size ≤ t.heap.size → (∀ q : Nat, q < H.size → t.heap[q]? = H[q]?) → XC cls s t)
    (hf : ∀ z ∈ locs, free z.base) (hc : cells + 1 ≤ mc) (hs : slots + 6 ≤ ms) :
    W p l e R s m args below meth c H locs cells slots (vx_MQ below Qc XC args s mc ms free) (F0 m pc ls rest) := by
  intro T hT X
  have htr : e.platform.stackTraces = false := (show e.platform.stackTraces = l.stackTraces by rw [X.admits.platform]).trans hl
  have Y := vx_rebase X (R' := { frames := R.frames, locals := R.locals, cells := 1, slots := 6 }) (Nat.le_refl _) (Nat.le_refl _) hRcells hRslots
  obtain ⟨s', hA⟩ : ∃ z, z = (T.setVm s.vm).setFrames (.invoking m args :: below) := ⟨_, rfl⟩
  rw [← hA] at Y
  have hvm : s'.vm = s.vm := by rw [hA]; rfl
  have hhp : s'.heap = H := by rw [hA]; exact hT
  have hW0 : s.WarmedH s'.vm := by rw [hvm]; exact State.WarmedH.refl s
  have hat' : ∀ w ∈ vx_at0 own ic cls names, w.before args s' = true := fun w hw => vx_ot_at hW0 hvm.symm (hgood w (List.mem_cons_of_mem _ (List.mem_cons_of_mem _ hw))) (hat w hw)
  have hk' : (Cond.classLink own ik cls).before args s' = true := vx_ot_at hW0 hvm.symm (hgood _ List.mem_cons_self) hk
  have hini' : (Cond.initialized cls).before args s' = true := vx_ot_at hW0 hvm.symm (hgood _ (List.mem_cons_of_mem _ List.mem_cons_self)) hini
  have hU' : vx_Zq Bundle.tN "UNASSIGNED_STACK" Bundle.steD A s' s'.heap := by rw [hhp]; exact vx_Zq.moved hW0.alike (hU.kept hS.2.1)
  have hN' : vx_Zq Bundle.tN "SUPPRESSED_SENTINEL" Bundle.listD A s' s'.heap := by rw [hhp]; exact vx_Zq.moved hW0.alike (hN.kept hS.2.1)
  have h : ∀ w ∈ Bundle.ownAtoms0 own ic cls names, w.before args s' = true := vx_own hat' (vx_isRefq hU'.1) (vx_isRefq hN'.1) hU'.2.word hN'.2.word
  have hown' : s'.vm.findClass own = some m.cls := by rw [hvm]; exact hown
  have hins : (Cond.instantiable cls 6).before args s' = true := h _ (by simp [Bundle.ownAtoms0])
  obtain ⟨vm₁, cX, kX, hfX, hkX, -, -, X₁, st1⟩ := Y.newCold hexec (own := own) (C := cls) (index := ik) (n := 6) hown' hk' hins hini'
    (g := F0 m pc ls rest) rfl (by rw [hb]; exact d0) (Nat.le_refl _) (Nat.le_refl _)
  generalize hT1 : (T.setVm vm₁).pushCell { cls := cX, slots := kX.instanceTypes.map defaultValue, vm := .none } = T1 at X₁ st1
  have hcat : (Value.ref T.heap.size).category = 1 := rfl
  have hcellA : T1.heap[T.heap.size]? = some (freshCell cX kX) := by rw [← hT1]; exact State.heap_pushCell_size _ _
  have d3' : decode c.code (pc + 3) = .ok (.dup, 1) := by rw [hb]; exact d3
  obtain ⟨U, hsteps, hrun, hend, hW, hsame, ce, hce, hO⟩ := X₁.ctorThrow0 hexec htr (own := own) (cls := cls) (names := names) (ic := ic) hown' hcls hnames h (fun x hx => nomatch hx) hfX hkX hcellA (by rw [hhp, hT]; exact Nat.le_refl _)
    (g := { method := m, pc := pc + 4, locals := ls, stack := .ref T.heap.size :: .ref T.heap.size :: rest, locked := none }) rfl hsize rfl rfl (rest := rest) rfl
    (by rw [hb]; exact d4) (by rw [hb]; exact d7) hout hRframes (by simp only [List.map_cons, List.sum_cons, hcat]; omega) hlocks
  obtain ⟨f1, f2⟩ := vx_frame hsame
  rw [hhp] at f1 f2
  have hWs : s.WarmedH U.vm := State.WarmedH.trans hW0 hW
  have hcl : s.vm.findClass cls = some ce.cls := by
    have h9 := hO.cls
    rw [hvm] at h9
    exact h9
  have hall : s.sameButNew ({ U with vm := s.vm } : State) locs mc ms := by
    subst hA
    obtain ⟨e1, e2⟩ := hsame
    rw [State.setFrames_setFrames] at e1
    have h2 : (T.setVm s.vm).sameButNew ({ U with vm := s.vm } : State) [] (0 + 1) (0 + 6) := ⟨e1, e2⟩
    have h3 := X.same.trans h2
    rw [List.append_nil] at h3
    exact h3.mono hc hs
  refine ⟨U, ?_, .threw T.heap.size, hrun, hend, Or.inr ⟨T.heap.size, rfl, cls, ce, locs, hx U hWs.alike f1 (fun q hq => f2 q hq (fun z hz => nomatch hz)), hce, hO.vm, hcl, hWs, hall, hf⟩⟩
  refine st1 _ ?_
  show Steps p.tables e below (T1.setTop { method := m, pc := pc + 3, locals := ls, stack := .ref T.heap.size :: rest, locked := none }) _
  jvm_step X₁.here [X₁.here.top, hexec, d3', Value.category]
  exact hsteps
/-- 'throw new E("text")': new; dup; ldc; invokespecial; athrow -/
theorem vx_throwS {cc : ByteArray} {pc : Nat} (hexec : p.tables.exec = Jvm.exec) (hb : c.code = cc) (hl : l.stackTraces = false) {own cls text : String} {names : List String} {ik is ic mc ms sa : Nat} {A : Nat → Prop}
    (hown : s.vm.findClass own = some m.cls) (hcls : Bundle.fit cls = true) (hnames : ∀ n ∈ names, Bundle.fit n = true)
    (hk : (Cond.classLink own ik cls).before args s = true) (hini : (Cond.initialized cls).before args s = true) (hstr : vk_R own is text sa s) (hat : ∀ w ∈ vx_atS own ic cls names, w.before args s = true)
    (hgood : ∀ w ∈ Cond.classLink own ik cls :: Cond.initialized cls :: vx_atS own ic cls names, vx_ot w = true)
    (hU : vx_Zq Bundle.tN "UNASSIGNED_STACK" Bundle.steD A s s.heap) (hN : vx_Zq Bundle.tN "SUPPRESSED_SENTINEL" Bundle.listD A s s.heap) (hS : va_S A s.heap H locs) (hsize : ls.size = c.maxLocals)
    (d0 : decode cc pc = .ok (.new ik, 3)) (d3 : decode cc (pc + 3) = .ok (.dup, 1)) (d4 : decode cc (pc + 4) = .ok (.ldc is, 2)) (d6 : decode cc (pc + 6) = .ok (.invokespecial ic, 3)) (d9 : decode cc (pc + 9) = .ok (.athrow, 1))
    (hout : ∀ x ∈ c.exceptionTable.toList, covers x (pc + 9) = false)
    (hRframes : names.length + 3 < R.frames) (hRlocals : (rest.map fun v => v.category).sum + (13 * (names.length + 1) + 43) ≤ R.locals) (hRcells : cells + 1 ≤ R.cells) (hRslots : slots + 6 ≤ R.slots) (hlocks : meth.locks = false)
    (hx : ∀ t : State, s.vm.Alike t.vm → H.size ≤ t.heap.size → (∀ q : Nat, q < H.size → t.heap[q]? = H[q]?) → XC cls s t)
    (hf : ∀ z ∈ locs, free z.base) (hc : cells + 1 ≤ mc) (hs : slots + 6 ≤ ms) :
    W p l e R s m args below meth c H locs cells slots (vx_MQ below Qc XC args s mc ms free) (F0 m pc ls rest) := by
  intro T hT X
  have htr : e.platform.stackTraces = false := (show e.platform.stackTraces = l.stackTraces by rw [X.admits.platform]).trans hl
  have Y := vx_rebase X (R' := { frames := R.frames, locals := R.locals, cells := 1, slots := 6 }) (Nat.le_refl _) (Nat.le_refl _) hRcells hRslots
  obtain ⟨s', hA⟩ : ∃ z, z = (T.setVm s.vm).setFrames (.invoking m args :: below) := ⟨_, rfl⟩
  rw [← hA] at Y
  have hvm : s'.vm = s.vm := by rw [hA]; rfl
  have hhp : s'.heap = H := by rw [hA]; exact hT
  have hW0 : s.WarmedH s'.vm := by rw [hvm]; exact State.WarmedH.refl s
  have hat' : ∀ w ∈ vx_atS own ic cls names, w.before args s' = true := fun w hw => vx_ot_at hW0 hvm.symm (hgood w (List.mem_cons_of_mem _ (List.mem_cons_of_mem _ hw))) (hat w hw)
  have hk' : (Cond.classLink own ik cls).before args s' = true := vx_ot_at hW0 hvm.symm (hgood _ List.mem_cons_self) hk
  have hini' : (Cond.initialized cls).before args s' = true := vx_ot_at hW0 hvm.symm (hgood _ (List.mem_cons_of_mem _ List.mem_cons_self)) hini
  have hU' : vx_Zq Bundle.tN "UNASSIGNED_STACK" Bundle.steD A s' s'.heap := by rw [hhp]; exact vx_Zq.moved hW0.alike (hU.kept hS.2.1)
  have hN' : vx_Zq Bundle.tN "SUPPRESSED_SENTINEL" Bundle.listD A s' s'.heap := by rw [hhp]; exact vx_Zq.moved hW0.alike (hN.kept hS.2.1)
  have h : ∀ w ∈ Bundle.ownAtoms own ic cls names, w.before args s' = true := vx_own hat' (vx_isRefq hU'.1) (vx_isRefq hN'.1) hU'.2.word hN'.2.word
  have hown' : s'.vm.findClass own = some m.cls := by rw [hvm]; exact hown
  have hins : (Cond.instantiable cls 6).before args s' = true := h _ (by simp [Bundle.ownAtoms])
  obtain ⟨vm₁, cX, kX, hfX, hkX, -, -, X₁, st1⟩ := Y.newCold hexec (own := own) (C := cls) (index := ik) (n := 6) hown' hk' hins hini'
    (g := F0 m pc ls rest) rfl (by rw [hb]; exact d0) (Nat.le_refl _) (Nat.le_refl _)
  generalize hT1 : (T.setVm vm₁).pushCell { cls := cX, slots := kX.instanceTypes.map defaultValue, vm := .none } = T1 at X₁ st1
  have hcat : (Value.ref T.heap.size).category = 1 := rfl
  have hcellA : T1.heap[T.heap.size]? = some (freshCell cX kX) := by rw [← hT1]; exact State.heap_pushCell_size _ _
  have d3' : decode c.code (pc + 3) = .ok (.dup, 1) := by rw [hb]; exact d3
  have d4' : decode c.code (pc + 4) = .ok (.ldc is, 2) := by rw [hb]; exact d4
  have hstr' : vk_R own is text sa s' := vk_R.warm hW0 hstr
  obtain ⟨U, hsteps, hrun, hend, hW, hsame, ce, hce, hO⟩ := X₁.ctorThrowS hexec htr (own := own) (cls := cls) (names := names) (ic := ic) hown' hcls hnames h (fun x hx => nomatch hx) hfX hkX hcellA (by rw [hhp, hT]; exact Nat.le_refl _) (msg := .ref sa) rfl
    (g := { method := m, pc := pc + 6, locals := ls, stack := .ref sa :: .ref T.heap.size :: .ref T.heap.size :: rest, locked := none }) rfl hsize rfl rfl (rest := rest) rfl
    (by rw [hb]; exact d6) (by rw [hb]; exact d9) hout hRframes (by simp only [List.map_cons, List.sum_cons, hcat]; omega) hlocks
  obtain ⟨f1, f2⟩ := vx_frame hsame
  rw [hhp] at f1 f2
  have hWs : s.WarmedH U.vm := State.WarmedH.trans hW0 hW
  have hcl : s.vm.findClass cls = some ce.cls := by
    have h9 := hO.cls
    rw [hvm] at h9
    exact h9
  have hall : s.sameButNew ({ U with vm := s.vm } : State) locs mc ms := by
    subst hA
    obtain ⟨e1, e2⟩ := hsame
    rw [State.setFrames_setFrames] at e1
    have h2 : (T.setVm s.vm).sameButNew ({ U with vm := s.vm } : State) [] (0 + 1) (0 + 6) := ⟨e1, e2⟩
    have h3 := X.same.trans h2
    rw [List.append_nil] at h3
    exact h3.mono hc hs
  refine ⟨U, ?_, .threw T.heap.size, hrun, hend, Or.inr ⟨T.heap.size, rfl, cls, ce, locs, hx U hWs.alike f1 (fun q hq => f2 q hq (fun z hz => nomatch hz)), hce, hO.vm, hcl, hWs, hall, hf⟩⟩
  refine st1 _ ?_
  show Steps p.tables e below (T1.setTop { method := m, pc := pc + 3, locals := ls, stack := .ref T.heap.size :: rest, locked := none }) _
  jvm_step X₁.here [X₁.here.top, hexec, d3', Value.category]
  exact X₁.ldcString hexec (own := own) (text := text) (index := is) (a := sa) hown' hstr'.1 hstr'.2
    (g := { method := m, pc := pc + 4, locals := ls, stack := .ref T.heap.size :: .ref T.heap.size :: rest, locked := none }) rfl d4' _ hsteps
/-- 'throw new E("text")', the text by a wide index -/
theorem vx_throwSW {cc : ByteArray} {pc : Nat} (hexec : p.tables.exec = Jvm.exec) (hb : c.code = cc) (hl : l.stackTraces = false) {own cls text : String} {names : List String} {ik is ic mc ms sa : Nat} {A : Nat → Prop}
    (hown : s.vm.findClass own = some m.cls) (hcls : Bundle.fit cls = true) (hnames : ∀ n ∈ names, Bundle.fit n = true)
    (hk : (Cond.classLink own ik cls).before args s = true) (hini : (Cond.initialized cls).before args s = true) (hstr : vk_R own is text sa s) (hat : ∀ w ∈ vx_atS own ic cls names, w.before args s = true)
    (hgood : ∀ w ∈ Cond.classLink own ik cls :: Cond.initialized cls :: vx_atS own ic cls names, vx_ot w = true)
    (hU : vx_Zq Bundle.tN "UNASSIGNED_STACK" Bundle.steD A s s.heap) (hN : vx_Zq Bundle.tN "SUPPRESSED_SENTINEL" Bundle.listD A s s.heap) (hS : va_S A s.heap H locs) (hsize : ls.size = c.maxLocals)
    (d0 : decode cc pc = .ok (.new ik, 3)) (d3 : decode cc (pc + 3) = .ok (.dup, 1)) (d4 : decode cc (pc + 4) = .ok (.ldc_w is, 3)) (d7 : decode cc (pc + 7) = .ok (.invokespecial ic, 3)) (d10 : decode cc (pc + 10) = .ok (.athrow, 1))
    (hout : ∀ x ∈ c.exceptionTable.toList, covers x (pc + 10) = false)
    (hRframes : names.length + 3 < R.frames) (hRlocals : (rest.map fun v => v.category).sum + (13 * (names.length + 1) + 43) ≤ R.locals) (hRcells : cells + 1 ≤ R.cells) (hRslots : slots + 6 ≤ R.slots) (hlocks : meth.locks = false)
    (hx : ∀ t : State, s.vm.Alike t.vm → H.size ≤ t.heap.size → (∀ q : Nat, q < H.size → t.heap[q]? = H[q]?) → XC cls s t)
    (hf : ∀ z ∈ locs, free z.base) (hc : cells + 1 ≤ mc) (hs : slots + 6 ≤ ms) :
    W p l e R s m args below meth c H locs cells slots (vx_MQ below Qc XC args s mc ms free) (F0 m pc ls rest) := by
  intro T hT X
  have htr : e.platform.stackTraces = false := (show e.platform.stackTraces = l.stackTraces by rw [X.admits.platform]).trans hl
  have Y := vx_rebase X (R' := { frames := R.frames, locals := R.locals, cells := 1, slots := 6 }) (Nat.le_refl _) (Nat.le_refl _) hRcells hRslots
  obtain ⟨s', hA⟩ : ∃ z, z = (T.setVm s.vm).setFrames (.invoking m args :: below) := ⟨_, rfl⟩
  rw [← hA] at Y
  have hvm : s'.vm = s.vm := by rw [hA]; rfl
  have hhp : s'.heap = H := by rw [hA]; exact hT
  have hW0 : s.WarmedH s'.vm := by rw [hvm]; exact State.WarmedH.refl s
  have hat' : ∀ w ∈ vx_atS own ic cls names, w.before args s' = true := fun w hw => vx_ot_at hW0 hvm.symm (hgood w (List.mem_cons_of_mem _ (List.mem_cons_of_mem _ hw))) (hat w hw)
  have hk' : (Cond.classLink own ik cls).before args s' = true := vx_ot_at hW0 hvm.symm (hgood _ List.mem_cons_self) hk
  have hini' : (Cond.initialized cls).before args s' = true := vx_ot_at hW0 hvm.symm (hgood _ (List.mem_cons_of_mem _ List.mem_cons_self)) hini
  have hU' : vx_Zq Bundle.tN "UNASSIGNED_STACK" Bundle.steD A s' s'.heap := by rw [hhp]; exact vx_Zq.moved hW0.alike (hU.kept hS.2.1)
  have hN' : vx_Zq Bundle.tN "SUPPRESSED_SENTINEL" Bundle.listD A s' s'.heap := by rw [hhp]; exact vx_Zq.moved hW0.alike (hN.kept hS.2.1)
  have h : ∀ w ∈ Bundle.ownAtoms own ic cls names, w.before args s' = true := vx_own hat' (vx_isRefq hU'.1) (vx_isRefq hN'.1) hU'.2.word hN'.2.word
  have hown' : s'.vm.findClass own = some m.cls := by rw [hvm]; exact hown
  have hins : (Cond.instantiable cls 6).before args s' = true := h _ (by simp [Bundle.ownAtoms])
  obtain ⟨vm₁, cX, kX, hfX, hkX, -, -, X₁, st1⟩ := Y.newCold hexec (own := own) (C := cls) (index := ik) (n := 6) hown' hk' hins hini'
    (g := F0 m pc ls rest) rfl (by rw [hb]; exact d0) (Nat.le_refl _) (Nat.le_refl _)
  generalize hT1 : (T.setVm vm₁).pushCell { cls := cX, slots := kX.instanceTypes.map defaultValue, vm := .none } = T1 at X₁ st1
  have hcat : (Value.ref T.heap.size).category = 1 := rfl
  have hcellA : T1.heap[T.heap.size]? = some (freshCell cX kX) := by rw [← hT1]; exact State.heap_pushCell_size _ _
  have d3' : decode c.code (pc + 3) = .ok (.dup, 1) := by rw [hb]; exact d3
  have d4' : decode c.code (pc + 4) = .ok (.ldc_w is, 3) := by rw [hb]; exact d4
  have hstr' : vk_R own is text sa s' := vk_R.warm hW0 hstr
  obtain ⟨U, hsteps, hrun, hend, hW, hsame, ce, hce, hO⟩ := X₁.ctorThrowS hexec htr (own := own) (cls := cls) (names := names) (ic := ic) hown' hcls hnames h (fun x hx => nomatch hx) hfX hkX hcellA (by rw [hhp, hT]; exact Nat.le_refl _) (msg := .ref sa) rfl
    (g := { method := m, pc := pc + 7, locals := ls, stack := .ref sa :: .ref T.heap.size :: .ref T.heap.size :: rest, locked := none }) rfl hsize rfl rfl (rest := rest) rfl
    (by rw [hb]; exact d7) (by rw [hb]; exact d10) hout hRframes (by simp only [List.map_cons, List.sum_cons, hcat]; omega) hlocks
  obtain ⟨f1, f2⟩ := vx_frame hsame
  rw [hhp] at f1 f2
  have hWs : s.WarmedH U.vm := State.WarmedH.trans hW0 hW
  have hcl : s.vm.findClass cls = some ce.cls := by
    have h9 := hO.cls
    rw [hvm] at h9
    exact h9
  have hall : s.sameButNew ({ U with vm := s.vm } : State) locs mc ms := by
    subst hA
    obtain ⟨e1, e2⟩ := hsame
    rw [State.setFrames_setFrames] at e1
    have h2 : (T.setVm s.vm).sameButNew ({ U with vm := s.vm } : State) [] (0 + 1) (0 + 6) := ⟨e1, e2⟩
    have h3 := X.same.trans h2
    rw [List.append_nil] at h3
    exact h3.mono hc hs
  refine ⟨U, ?_, .threw T.heap.size, hrun, hend, Or.inr ⟨T.heap.size, rfl, cls, ce, locs, hx U hWs.alike f1 (fun q hq => f2 q hq (fun z hz => nomatch hz)), hce, hO.vm, hcl, hWs, hall, hf⟩⟩
  refine st1 _ ?_
  show Steps p.tables e below (T1.setTop { method := m, pc := pc + 3, locals := ls, stack := .ref T.heap.size :: rest, locked := none }) _
  jvm_step X₁.here [X₁.here.top, hexec, d3', Value.category]
  exact X₁.ldcStringW hexec (own := own) (text := text) (index := is) (a := sa) hown' hstr'.1 hstr'.2
    (g := { method := m, pc := pc + 4, locals := ls, stack := .ref T.heap.size :: .ref T.heap.size :: rest, locked := none }) rfl d4' _ hsteps
end Ends
section Bodies
variable {l : Launch}
theorem vx_ofW {y : MethodName} {ws ws' : List Cond} {rm : Room} {Pc : Array Value → State → Prop} {Qc : Array Value → State → Outcome → State → Prop} {XC : String → State → State → Prop} {mc ms : Nat} {free : Addr → Prop} {cc : ByteArray} {maxL : Nat} {ret : Option FieldType}
    (hy : plainName y.cls = true) (hw : ws = Cond.code y cc maxL ret :: ws')
    (body : ∀ p e s m args below meth c s₁, BodyLoose p l y (headSpec ws rm) cc maxL ret e s m args below meth c s₁ → c.maxLocals = maxL → (∀ x ∈ c.exceptionTable.toList, False) → Pc args s →
      W p l e (headSpec ws rm).room s m args below meth c s.heap [] 0 0 (vx_MQ below Qc XC args s mc ms free) (entryFrame m args maxL)) : vx_Met l y ws rm Pc Qc XC mc ms free := by
  refine MetFree.of_bodyS (code := cc) (maxLocals := maxL) (ret := ret) hy ?_ ?_
  · intro args s m h hn
    obtain ⟨meth, c, h1, h2, h3, h4, h5, h6, -, -⟩ := Cond.code_spec hn (atoms_spec (ws := ws) h _ (by rw [hw]; exact List.mem_cons_self))
    exact ⟨meth, c, h1, h2, h3, h4, h5, h6⟩
  · intro p e s m args below meth c s₁ B hml hP _
    have hh0 : s₁.heap = s.heap := by rw [B.state]; rfl
    have ht : ∀ x ∈ c.exceptionTable.toList, False := by
      obtain ⟨meth9, c9, h1, h2, -, -, -, -, h7, -⟩ := Cond.code_spec B.named (atoms_spec (ws := ws) B.pre _ (by rw [hw]; exact List.mem_cons_self))
      cases Option.some.inj (h1.symm.trans B.method)
      cases Option.some.inj (h2.symm.trans (Stand.of_body B).code)
      intro x hx
      rw [Array.isEmpty_iff.mp h7] at hx
      cases hx
    obtain ⟨t, a1, o, b1, b2, b3⟩ := body p e s m args below meth c s₁ B hml ht hP s₁ hh0 (Stand.of_body B)
    exact ⟨t, o, a1, b1, b2, b3⟩
/-- the table of a body with handlers -/
theorem vx_table {p : Program} {x y : MethodName} {S : Spec} {cc bytes : ByteArray} {maxL maxL' : Nat} {ret ret' : Option FieldType} {e : Env} {s s₁ : State} {m : MethodId} {args : Array Value} {below : List Frame} {meth : Method} {c : Code} {hh : List (Nat × Nat × Nat × Nat)}
    (B : BodyLoose p l y S cc maxL ret e s m args below meth c s₁) (h : (Cond.codeWith y bytes maxL' ret' hh).before args s = true) : c.exceptionTable.toList = tableOf hh := by
  obtain ⟨m9, meth9, c9, hn9, h1, h2, -, -, h6, -⟩ := Cond.codeWith_spec h
  cases Option.some.inj (hn9.symm.trans B.named)
  cases Option.some.inj (h1.symm.trans B.method)
  cases Option.some.inj (h2.symm.trans (Stand.of_body B).code)
  rw [← h6, table_eq]
end Bodies
end VXA
/-! ===== END ===== -/
/-! ===== BEGIN a static call of a method with an exception table ===== -/
section VXS
variable {p : Program} {l : Launch} {e : Env} {R : Room} {s : State} {m : MethodId} {args : Array Value} {below : List Frame} {meth : Method} {c : Code} {T : State} {H : Heap} {locs : List Loc} {cells slots : Nat}
abbrev vx_CSW (R : Room) (s : State) (args : Array Value) (own : String) (index : Nat) (y : MethodName) (bytes : ByteArray) (maxL : Nat) (ret : Option FieldType) (hh : List (Nat × Nat × Nat × Nat)) (ws : List Cond) (rm : Room) (mc ms n : Nat) : Prop :=
  (rm.cells = mc ∧ rm.slots = ms ∧ rm.frames + 1 ≤ R.frames ∧ 8 + (maxL + 11) + rm.locals ≤ R.locals ∧ (∀ w ∈ ws, ∀ (a' : Array Value) (U : State), s.WarmedH U.vm → w.before a' U = true) ∧ Cond.codeWith y bytes maxL ret hh ∈ ws) ∧
  (Cond.codeWith y bytes maxL ret hh).before args s = true ∧ (Cond.initialized y.cls).before args s = true ∧ (y.cls ≠ "java/lang/invoke/MethodHandle" ∧ y.cls ≠ "java/lang/invoke/VarHandle") ∧
  (∀ sig, parseMethodDescriptor y.desc = some sig → n = sig.parameters.length) ∧ (Cond.methodLink own index y).before args s = true ∧ (Cond.static y).before args s = true
theorem vx_cwSW {own : String} {index maxL mc ms : Nat} {y : MethodName} {bytes : ByteArray} {ret : Option FieldType} {hh : List (Nat × Nat × Nat × Nat)} {Ts ws ws' : List Cond} {rm : Room} (n : Nat) (ht : ∀ w ∈ Ts, w.before args s = true) (hT : GoodIn Ts (va_wsS own index y ws)) (hw : ws = Cond.codeWith y bytes maxL ret hh :: ws') (hrc : rm.cells = mc) (hrs : rm.slots = ms)
    (hd : y.cls ≠ "java/lang/invoke/MethodHandle" ∧ y.cls ≠ "java/lang/invoke/VarHandle" ∧ (parseMethodDescriptor y.desc).map (fun d => d.parameters.length) = some n) (hR : rm.frames + 1 ≤ R.frames ∧ 8 + (maxL + 11) + rm.locals ≤ R.locals) :
    vx_CSW R s args own index y bytes maxL ret hh ws rm mc ms n := by
  have ok : ∀ w ∈ va_wsS own index y ws, w.before args s = true := fun w h => ht w (hT w h).1
  have hG : GoodIn Ts ws := fun w h => hT w (by unfold va_wsS; exact List.mem_append_right _ h)
  have hc : Cond.codeWith y bytes maxL ret hh ∈ ws := by rw [hw]; exact List.mem_cons_self
  refine ⟨⟨hrc, hrs, hR.1, hR.2, pay_in ht hG, hc⟩, ht _ (hG _ hc).1, ok _ (by simp [va_wsS]), ⟨hd.1, hd.2.1⟩, fun sig h => ?_, ok _ (by simp [va_wsS]), ok _ (by simp [va_wsS])⟩
  have h2 := hd.2.2
  rw [h] at h2
  exact (Option.some.inj h2).symm
theorem vx_callSW (X : Stand p l e R s m args below meth c T locs cells slots) (hexec : p.tables.exec = Jvm.exec) {own : String} {index : Nat} {y : MethodName} {bytes : ByteArray} {maxL : Nat} {ret : Option FieldType} {hh : List (Nat × Nat × Nat × Nat)}
    (hown : s.vm.findClass own = some m.cls) (hlink : (Cond.methodLink own index y).before args s = true) (hstat : (Cond.static y).before args s = true) (hinit : (Cond.initialized y.cls).before args s = true)
    (hcode : (Cond.codeWith y bytes maxL ret hh).before args s = true) (hy : y.cls ≠ "java/lang/invoke/MethodHandle" ∧ y.cls ≠ "java/lang/invoke/VarHandle")
    {W9 : Nat} {Pre : Pt → Array Value → Prop} {Post : Pt → Array Value → Option Value → Pt → Prop} (hK : Back l R p e below s args y 3 W9 Pre Post)
    {g : JFrame} (hg : g.method = m) (hsize : g.locals.size = c.maxLocals) {argsL rest : List Value} (hlen : ∀ sig, parseMethodDescriptor y.desc = some sig → argsL.length = sig.parameters.length)
    (hstack : g.stack = argsL.reverse ++ rest) (hW : 2 * g.monitorRoom + (rest.map fun v => v.category).sum ≤ W9) (hdg : decode c.code g.pc = .ok (.invokestatic index, 3))
    (hpre : ∀ vm₁, s.WarmedH vm₁ → Pre ⟨T.setVm vm₁, locs, cells, slots⟩ argsL.toArray) :
    ∃ (v : Option Value) (vm₁ : Vm) (B : Pt), s.WarmedH vm₁ ∧ Stand p l e R s m args below meth c B.U B.locs B.cells B.slots ∧ Post ⟨T.setVm vm₁, locs, cells, slots⟩ argsL.toArray v B ∧
      ∀ target, Steps p.tables e below (B.U.setTop { g with pc := g.pc + 3, stack := v.toList ++ rest }) target → Steps p.tables e below (T.setTop g) target := by
  obtain ⟨mk, methM, cM, hnamed, hmethM, -, -, -, -, -, -, hsigM⟩ := Cond.codeWith_spec hcode
  have hstatic : methM.isStatic = true := Cond.static_spec hnamed hmethM hstat
  obtain ⟨kP, hkP, -⟩ := className_of_methodNamed hnamed
  have hinitP : kP.init = .initialized := Cond.initialized_spec (findClass_of_methodNamed hnamed) hkP hinit
  obtain ⟨vm₁, X₁, hstep₁⟩ := X.invokestatic hexec hown hlink hnamed hmethM hstatic hkP hinitP hy (g := g) hg (argsL := argsL) (rest := rest) (hlen _ hsigM) hstack hdg
  obtain ⟨v, B, X', hpost, hsteps⟩ := hK m meth c ⟨T.setVm vm₁, locs, cells, slots⟩ { g with stack := rest } (.invokestatic index) mk argsL.toArray X₁ hg hsize hdg hW (X₁.named hnamed) (hpre vm₁ X₁.warmed)
  exact ⟨v, vm₁, B, X₁.warmed, X', hpost, fun target h => hstep₁ _ fun acts => by rw [doInvoke_state]; exact hsteps.trans h⟩
theorem vx_runSW {y : MethodName} {bytes cc : ByteArray} {maxL nL mc ms n index : Nat} {ret : Option FieldType} {hh : List (Nat × Nat × Nat × Nat)} {ws : List Cond} {rm : Room} {Pc : Array Value → State → Prop} {Qc : Array Value → State → Outcome → State → Prop} {free : Addr → Prop} {Ts : List Cond} {own : String} {As rest : List Value} {g : JFrame}
    (S : CallFix p m c cc nL s args Ts own) (hM : Met l y ws rm Pc Qc mc ms free) (cw : vx_CSW R s args own index y bytes maxL ret hh ws rm mc ms n) (hp : PreS s H Pc As)
    (hg : g.method = m) (hn : As.length = n) (hsize : g.locals.size = nL) (hstack : g.stack = As.reverse ++ rest) (hW : 2 * g.monitorRoom + (rest.map fun v => v.category).sum ≤ 8) (hdg : decode cc g.pc = .ok (.invokestatic index, 3)) (hf : cells + mc ≤ R.cells ∧ slots + ms ≤ R.slots) :
    va_Run p l e R s m args below meth c H locs cells slots mc ms g rest (Qc As.toArray) (free) := by
  obtain ⟨⟨hrc, hrs, hfr, hlo, hws, hcw⟩, hcode, hini, hy, hlen, hl, hstt⟩ := cw
  have hK : Back l R p e below s args y 3 8 (PreOf R mc ms Pc) (PostOf Qc mc ms free) := va_backW (hh := hh) (bytes := bytes) (maxL := maxL) (ret := ret) hM hp.1 hrc hrs hfr hlo hws hcw (fun a' U hW => word_at hW (Or.inl (by first | rfl | simp [Cond.onTables, Cond.keeps, Cond.steady])) hini)
  obtain ⟨hx, hb, hml, ho, -⟩ := S
  intro T hT X
  obtain ⟨v, vm₁, ⟨U', l2, c2, s2⟩, hW₁, X', ⟨g', mk, t, L, e1, e2, hq, h1, hL, h2, h3⟩, st⟩ := vx_callSW X hx (hh := hh) (bytes := bytes) (maxL := maxL) (ret := ret) ho hl hstt hini hcode hy hK hg (hsize.trans hml.symm) (argsL := As) (rest := rest) (fun sig h => hn.trans (hlen sig h)) hstack hW (by rw [hb]; exact hdg)
    (fun vm₁ hW₁ => ⟨hf.1, hf.2, hp.2 (T.setVm vm₁) hT hW₁⟩)
  dsimp only [Pt.U, Pt.locs, Pt.cells, Pt.slots] at X' e1 e2 h1 h2 h3 st
  subst h1; subst h2; subst h3
  exact ⟨v, (T.setVm vm₁).calling g' mk As.toArray, t, U', L, hT, X', hL, e1, e2, hq, st⟩
/-- a thing of a world lies in the heap -/
theorem vx_lt {D : va_G} {cl : List vw_C} {ws : va_W} {H1 : Heap} (h : va_P D cl ws H1) {k : Nat} {q : Nat × va_E} (hk : ws[k]? = some q) : q.1 < H1.size := (h k q hk).lt
end VXS
/-! ===== END ===== -/
/-! ===== BEGIN methods with a table of their own: called by a name, returning or throwing ===== -/
section VXH
/-! vx_backW, vx_callVX, vx_callSX, vx_callVW, vx_runVW, vx_runVX, vx_runSX, vx_ofWH follow the same proofs as their sisters above (Free/Laws.lean, Shelf42/LK1.lean); vx_outP calls Shelf42/NT130.lean (outThrough). -/
section
variable {l : Launch} {R : Room} {p : Program} {e : Env} {below : List Frame} {s : State} {sargs : Array Value} {y : MethodName} {len W9 : Nat}
theorem vx_backW {ws : List Cond} {rm : Room} {Pc : Array Value → State → Prop} {Qc : Array Value → State → Outcome → State → Prop} {XC : String → State → State → Prop} {mc ms : Nat} {free : Addr → Prop} {bytes : ByteArray} {maxL : Nat} {ret : Option FieldType} {hh : List (Nat × Nat × Nat × Nat)}
    (hM : vx_Met l y ws rm Pc Qc XC mc ms free) (hblind : FrameBlind Pc) (hrc : rm.cells = mc) (hrs : rm.slots = ms)
    (hframes : rm.frames + 1 ≤ R.frames) (hlocals : W9 + (maxL + 11) + rm.locals ≤ R.locals)
    (hws : ∀ w ∈ ws, ∀ a' U, s.WarmedH U.vm → w.before a' U = true) (hcode : Cond.codeWith y bytes maxL ret hh ∈ ws) (hinit : ∀ a' U, s.WarmedH U.vm → (Cond.initialized y.cls).before a' U = true) :
    vx_Back l R p e below s sargs y len W9 (PreOf R mc ms Pc) (PostOf Qc mc ms free) (vx_Post XC mc ms free) := by
  intro m meth c A g ig mk a X hg hsize hdg hW hn hp
  have h1 : (headSpec ws rm).pre.before a A.U = true := atoms_intro fun w hw => hws w hw _ _ X.warmed
  have h2 : (Cond.codeWith y bytes maxL ret hh).before a A.U = true := hws _ hcode _ _ X.warmed
  have h3 : (Cond.initialized y.cls).before a A.U = true := hinit _ _ X.warmed
  have h4 : A.cells + (headSpec ws rm).room.cells ≤ R.cells := by rw [show (headSpec ws rm).room.cells = mc from hrc]; exact hp.1
  have h5 : A.slots + (headSpec ws rm).room.slots ≤ R.slots := by rw [show (headSpec ws rm).room.slots = ms from hrs]; exact hp.2.1
  have hPc : Pc a (A.U.calling g mk a) := hblind _ _ _ _ hp.2.2
  obtain ⟨U, Ls, c0, s0⟩ := A
  dsimp only [Pt.U, Pt.locs, Pt.cells, Pt.slots] at h1 h2 h3 h4 h5 X hn hPc ⊢
  obtain ⟨m9, methY, cY, hn9, hmY, hcY, -, hlY, -⟩ := Cond.codeWith_spec h2
  cases Option.some.inj (hn9.symm.trans hn)
  obtain ⟨kY, hkY, -⟩ := className_of_methodNamed hn
  have hinitY : kY.init = .initialized := Cond.initialized_spec (findClass_of_methodNamed hn) hkY h3
  have h : At U g.method c below := by rw [hg]; exact X.here
  have hlocals9 : W9 + (maxL + 11) + (headSpec ws rm).room.locals ≤ R.locals := hlocals
  have happ : (headSpec ws rm).appliesLoose y e.platform (U.calling g mk a) = true :=
    Spec.appliesLoose_calling (g := g) h hdg hn hkY hinitY
      (X.room_calling (g := g) (R' := (headSpec ws rm).room) hsize hmY hcY hframes (by rw [hlY]; omega) h4 h5) h1
  obtain ⟨mid, hmid⟩ := h.above
  have hfr : (U.setTop g).frames = (.java g :: mid) ++ below := by rw [State.frames_setTop' g h.top, hmid]; rfl
  obtain ⟨o, s₂, hsteps, -, hend, hq⟩ := Steps.callFree hM p X.admits X.cas X.clock (acts := []) hfr happ hPc trivial
  have hq' : vx_Q Qc XC mc ms free a (U.calling g mk a) o s₂ := hq
  rw [State.frames_setTop' g h.top] at hend
  obtain ⟨g₀, hg0⟩ := Option.isSome_iff_exists.mp h.top
  obtain ⟨r, hr⟩ := State.topJava?_eq_some.mp hg0
  have hr' : (({ U with heap := s₂.heap, slotsUsed := s₂.slotsUsed } : State).setVm s₂.vm).frames = .java g₀ :: r := hr
  rcases hq' with ⟨hqc, L, hfe, hL⟩ | ⟨q, rfl, E, ce, L, hx, hce, hcv, hcl, hW₂, hsm, hL⟩
  · obtain ⟨⟨v, rfl⟩, hW₂, e2, q2, q3, q4, q5, q6⟩ := id hfe
    have e3 : s₂ = ({ (U.calling g mk a).setFrames s₂.frames with heap := s₂.heap, slotsUsed := s₂.slotsUsed } : State).setVm s₂.vm := by
      have : s₂ = ({ s₂ with vm := (U.calling g mk a).vm } : State).setVm s₂.vm := rfl
      rw [e2] at this
      exact this
    obtain ⟨c₂, i₂, len₂, hc₂, hd₂, hf₂⟩ := hend
    have hW' : U.WarmedH s₂.vm := hW₂
    have hcc : c₂ = c := by
      have h1 : s₂.code? g.method = U.code? g.method := by
        rw [State.code?_eq, State.code?_eq, hW'.alike.method?]
      exact Option.some.inj (hc₂.symm.trans (h1.trans h.code))
    subst hcc
    have hlen : len₂ = len := by rw [hdg] at hd₂; cases hd₂; rfl
    subst hlen
    have hs₂ : s₂ = (({ U with heap := s₂.heap, slotsUsed := s₂.slotsUsed } : State).setVm s₂.vm).setTop { g with pc := g.pc + len₂, stack := v.toList ++ g.stack } := by
      refine e3.trans ?_
      rw [hf₂, State.calling_eq h.top, State.setFrames_setFrames, State.setTop_of_frames _ hr', hr]
      rfl
    have hsame : U.sameButNew ({ U with heap := s₂.heap, slotsUsed := s₂.slotsUsed } : State) L mc ms := by
      refine ⟨?_, q2, q3, q4, q5, q6⟩
      obtain ⟨t, ht, -⟩ := State.frames_cons hr
      show ({ U with heap := s₂.heap, slotsUsed := s₂.slotsUsed } : State) = { U.setFrames U.frames with heap := s₂.heap, slotsUsed := s₂.slotsUsed }
      rw [State.setFrames_self ht]
    subst hg
    refine Or.inl ⟨v, ⟨(({ U with heap := s₂.heap, slotsUsed := s₂.slotsUsed } : State).setVm s₂.vm), Ls ++ L, c0 + mc, s0 + ms⟩,
      ⟨X.admits, X.cas, X.clock, X.frames, X.room, X.hears, X.method, X.code, (X.here.setHeapUsed s₂.heap s₂.slotsUsed).setVm hW'.alike, X.tail, State.WarmedH.trans X.warmed hW', X.limits, X.bytes, X.same.trans (hsame.setVm s.vm)⟩,
      ⟨g, mk, s₂, L, rfl, rfl, hqc, rfl, hL, rfl, rfl⟩, ?_⟩
    show Steps p.tables e below _ ((({ U with heap := s₂.heap, slotsUsed := s₂.slotsUsed } : State).setVm s₂.vm).setTop { g with pc := g.pc + len₂, stack := v.toList ++ g.stack })
    rw [← hs₂]
    exact hsteps
  · obtain ⟨e2, q2, q3, q4, q5, q6⟩ := id hsm
    have e3 : s₂ = ({ (U.calling g mk a).setFrames s₂.frames with heap := s₂.heap, slotsUsed := s₂.slotsUsed } : State).setVm s₂.vm := by
      have : s₂ = ({ s₂ with vm := (U.calling g mk a).vm } : State).setVm s₂.vm := rfl
      rw [e2] at this
      exact this
    have hf₂ : s₂.frames = .throwing q :: .java g :: U.frames.tail := hend
    have hW' : U.WarmedH s₂.vm := hW₂
    have hs₂ : s₂ = ((({ U with heap := s₂.heap, slotsUsed := s₂.slotsUsed } : State).setVm s₂.vm).setTop g).pushFrame (.throwing q) := by
      refine e3.trans ?_
      rw [hf₂, State.calling_eq h.top, State.setFrames_setFrames, State.pushFrame, State.frames_setTop _ hr', State.setTop_of_frames _ hr', State.setFrames_setFrames, hr]
      rfl
    have hsame : U.sameButNew ({ U with heap := s₂.heap, slotsUsed := s₂.slotsUsed } : State) L mc ms := by
      refine ⟨?_, q2, q3, q4, q5, q6⟩
      obtain ⟨t, ht, -⟩ := State.frames_cons hr
      show ({ U with heap := s₂.heap, slotsUsed := s₂.slotsUsed } : State) = { U.setFrames U.frames with heap := s₂.heap, slotsUsed := s₂.slotsUsed }
      rw [State.setFrames_self ht]
    subst hg
    refine Or.inr ⟨q, ⟨(({ U with heap := s₂.heap, slotsUsed := s₂.slotsUsed } : State).setVm s₂.vm), Ls ++ L, c0 + mc, s0 + ms⟩,
      ⟨X.admits, X.cas, X.clock, X.frames, X.room, X.hears, X.method, X.code, (X.here.setHeapUsed s₂.heap s₂.slotsUsed).setVm hW'.alike, X.tail, State.WarmedH.trans X.warmed hW', X.limits, X.bytes, X.same.trans (hsame.setVm s.vm)⟩,
      ⟨g, mk, s₂, L, E, ce, rfl, rfl, hx, hce, hcv, hcl, rfl, hL, rfl, rfl⟩, ?_⟩
    show Steps p.tables e below _ (((({ U with heap := s₂.heap, slotsUsed := s₂.slotsUsed } : State).setVm s₂.vm).setTop g).pushFrame (.throwing q))
    rw [← hs₂]
    exact hsteps
end
variable {p : Program} {l : Launch} {e : Env} {R : Room} {s : State} {m : MethodId} {args : Array Value} {below : List Frame} {meth : Method} {c : Code} {T : State} {H : Heap} {locs : List Loc} {cells slots : Nat}
theorem vx_callVX (X : Stand p l e R s m args below meth c T locs cells slots) (hexec : p.tables.exec = Jvm.exec) {own C : String} {index : Nat} {y : MethodName} {bytes : ByteArray} {maxL : Nat} {ret : Option FieldType} {hh : List (Nat × Nat × Nat × Nat)}
    (hown : s.vm.findClass own = some m.cls) (hlink : (Cond.methodLink own index y).before args s = true) (hinst : (Cond.instanceMethod y).before args s = true) (hsel : (Cond.selects C y y).before args s = true)
    (hcode : (Cond.codeWith y bytes maxL ret hh).before args s = true) (hy : y.cls ≠ "java/lang/invoke/MethodHandle" ∧ y.cls ≠ "java/lang/invoke/VarHandle")
    {W9 : Nat} {Pre : Pt → Array Value → Prop} {Post : Pt → Array Value → Option Value → Pt → Prop} {PostX : Pt → Array Value → Addr → Pt → Prop} (hK : vx_Back l R p e below s args y 3 W9 Pre Post PostX)
    {b : Addr} {cellB : Cell} (hcell : T.heap[b]? = some cellB) (hobj : cellB.vm.isStatics = false) (hcls : s.vm.findClass C = some cellB.cls)
    {g : JFrame} (hg : g.method = m) (hsize : g.locals.size = c.maxLocals) {argsL rest : List Value} (hlen : ∀ sig, parseMethodDescriptor y.desc = some sig → argsL.length = sig.parameters.length)
    (hstack : g.stack = argsL.reverse ++ .ref b :: rest) (hW : 2 * g.monitorRoom + (rest.map fun v => v.category).sum ≤ W9) (hdg : decode c.code g.pc = .ok (.invokevirtual index, 3))
    (hpre : ∀ vm₁, s.WarmedH vm₁ → Pre ⟨T.setVm vm₁, locs, cells, slots⟩ (Value.ref b :: argsL).toArray) :
    (∃ (v : Option Value) (vm₁ : Vm) (B : Pt), s.WarmedH vm₁ ∧ Stand p l e R s m args below meth c B.U B.locs B.cells B.slots ∧ Post ⟨T.setVm vm₁, locs, cells, slots⟩ (Value.ref b :: argsL).toArray v B ∧
      ∀ target, Steps p.tables e below (B.U.setTop { g with pc := g.pc + 3, stack := v.toList ++ rest }) target → Steps p.tables e below (T.setTop g) target) ∨
    (∃ (q : Addr) (vm₁ : Vm) (B : Pt), s.WarmedH vm₁ ∧ Stand p l e R s m args below meth c B.U B.locs B.cells B.slots ∧ PostX ⟨T.setVm vm₁, locs, cells, slots⟩ (Value.ref b :: argsL).toArray q B ∧
      Steps p.tables e below (T.setTop g) ((B.U.setTop { g with stack := rest }).pushFrame (.throwing q))) := by
  obtain ⟨mk, methM, hnamed, hmethM, hstM, habM⟩ := Cond.instanceMethod_spec hinst
  obtain ⟨m8, methM', cM, hn8, hmethM', -, -, -, -, -, -, hsigM⟩ := Cond.codeWith_spec hcode
  cases Option.some.inj (hn8.symm.trans hnamed)
  cases hmethM.symm.trans hmethM'
  obtain ⟨c2, r2, m2, q1, q2, q3, q4, kP, hkP, hkPi⟩ := Cond.selects_spec hsel
  cases hcls.symm.trans q1
  cases (State.methodFound?_of_named hnamed hy).symm.trans q2
  cases hnamed.symm.trans q3
  have hselP : selectMethod e.platform s.vm cellB.cls mk = .method mk := by rw [Launch.admits_selectMethod X.admits]; exact q4
  obtain ⟨vm₁, X₁, hstep₁⟩ := X.invokevirtual hexec hown hlink hnamed hmethM hstM hkP hkPi hy (a := b) (cell := cellB) hcell
    (fun z h => by rw [h] at hobj; cases hobj) hselP hmethM habM hkP hkPi (g := g) hg (argsL := argsL) (rest := rest) (hlen _ hsigM) hstack hdg
  rcases hK m meth c ⟨T.setVm vm₁, locs, cells, slots⟩ { g with stack := rest } (.invokevirtual index) mk (Value.ref b :: argsL).toArray X₁ hg hsize hdg hW (X₁.named hnamed) (hpre vm₁ X₁.warmed) with ⟨v, B, X', hpost, hsteps⟩ | ⟨q, B, X', hpost, hsteps⟩
  · exact Or.inl ⟨v, vm₁, B, X₁.warmed, X', hpost, fun target h => hstep₁ _ fun acts => by rw [doInvoke_state]; exact hsteps.trans h⟩
  · exact Or.inr ⟨q, vm₁, B, X₁.warmed, X', hpost, hstep₁ _ fun acts => by rw [doInvoke_state]; exact hsteps⟩
theorem vx_callSX (X : Stand p l e R s m args below meth c T locs cells slots) (hexec : p.tables.exec = Jvm.exec) {own : String} {index : Nat} {y : MethodName} {bytes : ByteArray} {maxL : Nat} {ret : Option FieldType} {hh : List (Nat × Nat × Nat × Nat)}
    (hown : s.vm.findClass own = some m.cls) (hlink : (Cond.methodLink own index y).before args s = true) (hstat : (Cond.static y).before args s = true) (hinit : (Cond.initialized y.cls).before args s = true)
    (hcode : (Cond.codeWith y bytes maxL ret hh).before args s = true) (hy : y.cls ≠ "java/lang/invoke/MethodHandle" ∧ y.cls ≠ "java/lang/invoke/VarHandle")
    {W9 : Nat} {Pre : Pt → Array Value → Prop} {Post : Pt → Array Value → Option Value → Pt → Prop} {PostX : Pt → Array Value → Addr → Pt → Prop} (hK : vx_Back l R p e below s args y 3 W9 Pre Post PostX)
    {g : JFrame} (hg : g.method = m) (hsize : g.locals.size = c.maxLocals) {argsL rest : List Value} (hlen : ∀ sig, parseMethodDescriptor y.desc = some sig → argsL.length = sig.parameters.length)
    (hstack : g.stack = argsL.reverse ++ rest) (hW : 2 * g.monitorRoom + (rest.map fun v => v.category).sum ≤ W9) (hdg : decode c.code g.pc = .ok (.invokestatic index, 3))
    (hpre : ∀ vm₁, s.WarmedH vm₁ → Pre ⟨T.setVm vm₁, locs, cells, slots⟩ argsL.toArray) :
    (∃ (v : Option Value) (vm₁ : Vm) (B : Pt), s.WarmedH vm₁ ∧ Stand p l e R s m args below meth c B.U B.locs B.cells B.slots ∧ Post ⟨T.setVm vm₁, locs, cells, slots⟩ argsL.toArray v B ∧
      ∀ target, Steps p.tables e below (B.U.setTop { g with pc := g.pc + 3, stack := v.toList ++ rest }) target → Steps p.tables e below (T.setTop g) target) ∨
    (∃ (q : Addr) (vm₁ : Vm) (B : Pt), s.WarmedH vm₁ ∧ Stand p l e R s m args below meth c B.U B.locs B.cells B.slots ∧ PostX ⟨T.setVm vm₁, locs, cells, slots⟩ argsL.toArray q B ∧
      Steps p.tables e below (T.setTop g) ((B.U.setTop { g with stack := rest }).pushFrame (.throwing q))) := by
  obtain ⟨mk, methM, cM, hnamed, hmethM, -, -, -, -, -, -, hsigM⟩ := Cond.codeWith_spec hcode
  have hstatic : methM.isStatic = true := Cond.static_spec hnamed hmethM hstat
  obtain ⟨kP, hkP, -⟩ := className_of_methodNamed hnamed
  have hinitP : kP.init = .initialized := Cond.initialized_spec (findClass_of_methodNamed hnamed) hkP hinit
  obtain ⟨vm₁, X₁, hstep₁⟩ := X.invokestatic hexec hown hlink hnamed hmethM hstatic hkP hinitP hy (g := g) hg (argsL := argsL) (rest := rest) (hlen _ hsigM) hstack hdg
  rcases hK m meth c ⟨T.setVm vm₁, locs, cells, slots⟩ { g with stack := rest } (.invokestatic index) mk argsL.toArray X₁ hg hsize hdg hW (X₁.named hnamed) (hpre vm₁ X₁.warmed) with ⟨v, B, X', hpost, hsteps⟩ | ⟨q, B, X', hpost, hsteps⟩
  · exact Or.inl ⟨v, vm₁, B, X₁.warmed, X', hpost, fun target h => hstep₁ _ fun acts => by rw [doInvoke_state]; exact hsteps.trans h⟩
  · exact Or.inr ⟨q, vm₁, B, X₁.warmed, X', hpost, hstep₁ _ fun acts => by rw [doInvoke_state]; exact hsteps⟩
theorem vx_callVW (X : Stand p l e R s m args below meth c T locs cells slots) (hexec : p.tables.exec = Jvm.exec) {own C : String} {index : Nat} {y : MethodName} {bytes : ByteArray} {maxL : Nat} {ret : Option FieldType} {hh : List (Nat × Nat × Nat × Nat)}
    (hown : s.vm.findClass own = some m.cls) (hlink : (Cond.methodLink own index y).before args s = true) (hinst : (Cond.instanceMethod y).before args s = true) (hsel : (Cond.selects C y y).before args s = true)
    (hcode : (Cond.codeWith y bytes maxL ret hh).before args s = true) (hy : y.cls ≠ "java/lang/invoke/MethodHandle" ∧ y.cls ≠ "java/lang/invoke/VarHandle")
    {W9 : Nat} {Pre : Pt → Array Value → Prop} {Post : Pt → Array Value → Option Value → Pt → Prop} (hK : Back l R p e below s args y 3 W9 Pre Post)
    {b : Addr} {cellB : Cell} (hcell : T.heap[b]? = some cellB) (hobj : cellB.vm.isStatics = false) (hcls : s.vm.findClass C = some cellB.cls)
    {g : JFrame} (hg : g.method = m) (hsize : g.locals.size = c.maxLocals) {argsL rest : List Value} (hlen : ∀ sig, parseMethodDescriptor y.desc = some sig → argsL.length = sig.parameters.length)
    (hstack : g.stack = argsL.reverse ++ .ref b :: rest) (hW : 2 * g.monitorRoom + (rest.map fun v => v.category).sum ≤ W9) (hdg : decode c.code g.pc = .ok (.invokevirtual index, 3))
    (hpre : ∀ vm₁, s.WarmedH vm₁ → Pre ⟨T.setVm vm₁, locs, cells, slots⟩ (Value.ref b :: argsL).toArray) :
    ∃ (v : Option Value) (vm₁ : Vm) (B : Pt), s.WarmedH vm₁ ∧ Stand p l e R s m args below meth c B.U B.locs B.cells B.slots ∧ Post ⟨T.setVm vm₁, locs, cells, slots⟩ (Value.ref b :: argsL).toArray v B ∧
      ∀ target, Steps p.tables e below (B.U.setTop { g with pc := g.pc + 3, stack := v.toList ++ rest }) target → Steps p.tables e below (T.setTop g) target := by
  obtain ⟨mk, methM, hnamed, hmethM, hstM, habM⟩ := Cond.instanceMethod_spec hinst
  obtain ⟨m8, methM', cM, hn8, hmethM', -, -, -, -, -, -, hsigM⟩ := Cond.codeWith_spec hcode
  cases Option.some.inj (hn8.symm.trans hnamed)
  cases hmethM.symm.trans hmethM'
  obtain ⟨c2, r2, m2, q1, q2, q3, q4, kP, hkP, hkPi⟩ := Cond.selects_spec hsel
  cases hcls.symm.trans q1
  cases (State.methodFound?_of_named hnamed hy).symm.trans q2
  cases hnamed.symm.trans q3
  have hselP : selectMethod e.platform s.vm cellB.cls mk = .method mk := by rw [Launch.admits_selectMethod X.admits]; exact q4
  obtain ⟨vm₁, X₁, hstep₁⟩ := X.invokevirtual hexec hown hlink hnamed hmethM hstM hkP hkPi hy (a := b) (cell := cellB) hcell
    (fun z h => by rw [h] at hobj; cases hobj) hselP hmethM habM hkP hkPi (g := g) hg (argsL := argsL) (rest := rest) (hlen _ hsigM) hstack hdg
  obtain ⟨v, B, X', hpost, hsteps⟩ := hK m meth c ⟨T.setVm vm₁, locs, cells, slots⟩ { g with stack := rest } (.invokevirtual index) mk (Value.ref b :: argsL).toArray X₁ hg hsize hdg hW (X₁.named hnamed) (hpre vm₁ X₁.warmed)
  exact ⟨v, vm₁, B, X₁.warmed, X', hpost, fun target h => hstep₁ _ fun acts => by rw [doInvoke_state]; exact hsteps.trans h⟩
abbrev vx_CVW (R : Room) (s : State) (args : Array Value) (own C : String) (index : Nat) (y : MethodName) (bytes : ByteArray) (maxL : Nat) (ret : Option FieldType) (hh : List (Nat × Nat × Nat × Nat)) (ws : List Cond) (rm : Room) (mc ms n : Nat) : Prop :=
  (rm.cells = mc ∧ rm.slots = ms ∧ rm.frames + 1 ≤ R.frames ∧ 8 + (maxL + 11) + rm.locals ≤ R.locals ∧ (∀ w ∈ ws, ∀ (a' : Array Value) (U : State), s.WarmedH U.vm → w.before a' U = true) ∧ Cond.codeWith y bytes maxL ret hh ∈ ws) ∧
  (Cond.codeWith y bytes maxL ret hh).before args s = true ∧ (Cond.initialized y.cls).before args s = true ∧ (y.cls ≠ "java/lang/invoke/MethodHandle" ∧ y.cls ≠ "java/lang/invoke/VarHandle") ∧
  (∀ sig, parseMethodDescriptor y.desc = some sig → n = sig.parameters.length) ∧ (Cond.methodLink own index y).before args s = true ∧ (Cond.instanceMethod y).before args s = true ∧ (Cond.selects C y y).before args s = true
theorem vx_cwVW {own C : String} {index maxL mc ms : Nat} {y : MethodName} {bytes : ByteArray} {ret : Option FieldType} {hh : List (Nat × Nat × Nat × Nat)} {Ts ws ws' : List Cond} {rm : Room} (n : Nat) (ht : ∀ w ∈ Ts, w.before args s = true) (hT : GoodIn Ts (wsV own index C y ws)) (hw : ws = Cond.codeWith y bytes maxL ret hh :: ws') (hrc : rm.cells = mc) (hrs : rm.slots = ms)
    (hd : y.cls = C ∧ y.cls ≠ "java/lang/invoke/MethodHandle" ∧ y.cls ≠ "java/lang/invoke/VarHandle" ∧ (parseMethodDescriptor y.desc).map (fun d => d.parameters.length) = some n) (hR : rm.frames + 1 ≤ R.frames ∧ 8 + (maxL + 11) + rm.locals ≤ R.locals) :
    vx_CVW R s args own C index y bytes maxL ret hh ws rm mc ms n := by
  obtain ⟨hC, hd⟩ := hd
  subst hC
  have ok : ∀ w ∈ wsV own index y.cls y ws, w.before args s = true := fun w h => ht w (hT w h).1
  have hG : GoodIn Ts ws := fun w h => hT w (by unfold wsV; exact List.mem_append_right _ h)
  have hc : Cond.codeWith y bytes maxL ret hh ∈ ws := by rw [hw]; exact List.mem_cons_self
  refine ⟨⟨hrc, hrs, hR.1, hR.2, pay_in ht hG, hc⟩, ht _ (hG _ hc).1, ok _ (by simp [wsV]), ⟨hd.1, hd.2.1⟩, fun sig h => ?_, ok _ (by simp [wsV]), ok _ (by simp [wsV]), ok _ (by simp [wsV])⟩
  have h2 := hd.2.2
  rw [h] at h2
  exact (Option.some.inj h2).symm
theorem vx_runVW {y : MethodName} {bytes cc : ByteArray} {maxL nL mc ms n index : Nat} {ret : Option FieldType} {hh : List (Nat × Nat × Nat × Nat)} {ws : List Cond} {rm : Room} {Pc : Array Value → State → Prop} {Qc : Array Value → State → Outcome → State → Prop} {free : Addr → Prop} {Ts : List Cond} {own C : String} {b : Addr} {As rest : List Value} {g : JFrame}
    (S : CallFix p m c cc nL s args Ts own) (hM : Met l y ws rm Pc Qc mc ms free) (cw : vx_CVW R s args own C index y bytes maxL ret hh ws rm mc ms n) (hp : PreV s H C b Pc As)
    (hg : g.method = m) (hn : As.length = n) (hsize : g.locals.size = nL) (hstack : g.stack = As.reverse ++ .ref b :: rest) (hW : 2 * g.monitorRoom + (rest.map fun v => v.category).sum ≤ 8) (hdg : decode cc g.pc = .ok (.invokevirtual index, 3)) (hf : cells + mc ≤ R.cells ∧ slots + ms ≤ R.slots) :
    va_Run p l e R s m args below meth c H locs cells slots mc ms g rest (Qc (Value.ref b :: As).toArray) free := by
  obtain ⟨⟨hrc, hrs, hfr, hlo, hws, hcw⟩, hcode, hini, hy, hlen, hl, hin, hse⟩ := cw
  have hK : Back l R p e below s args y 3 8 (PreOf R mc ms Pc) (PostOf Qc mc ms free) := va_backW (hh := hh) (bytes := bytes) (maxL := maxL) (ret := ret) hM hp.1 hrc hrs hfr hlo hws hcw (fun a' U hW => word_at hW (Or.inl (by first | rfl | simp [Cond.onTables, Cond.keeps, Cond.steady])) hini)
  obtain ⟨hx, hb, hml, ho, -⟩ := S
  obtain ⟨-, ⟨cellB, hcB, hoB, hclB⟩, hPc⟩ := hp
  intro T hT X
  obtain ⟨v, vm₁, ⟨U', l2, c2, s2⟩, hW₁, X', ⟨g', mk, t, L, e1, e2, hq, h1, hL, h2, h3⟩, st⟩ := vx_callVW X hx (C := C) (hh := hh) (bytes := bytes) (maxL := maxL) (ret := ret) ho hl hin hse hcode hy hK (by rw [hT]; exact hcB) hoB hclB hg (hsize.trans hml.symm) (argsL := As) (rest := rest) (fun sig h => hn.trans (hlen sig h)) hstack hW (by rw [hb]; exact hdg)
    (fun vm₁ hW₁ => ⟨hf.1, hf.2, hPc (T.setVm vm₁) hT hW₁⟩)
  dsimp only [Pt.U, Pt.locs, Pt.cells, Pt.slots] at X' e1 e2 h1 h2 h3 st
  subst h1; subst h2; subst h3
  exact ⟨v, (T.setVm vm₁).calling g' mk (Value.ref b :: As).toArray, t, U', L, hT, X', hL, e1, e2, hq, st⟩
section
variable {y : MethodName} {bytes cc : ByteArray} {maxL nL mc ms n index : Nat} {ret : Option FieldType} {ws : List Cond} {rm : Room} {Pc : Array Value → State → Prop} {Qc : Array Value → State → Outcome → State → Prop} {XC : String → State → State → Prop} {free : Addr → Prop} {Ts : List Cond} {own C : String} {b : Addr} {As rest : List Value} {g : JFrame}
theorem vx_runVX {hh : List (Nat × Nat × Nat × Nat)} (S : CallFix p m c cc nL s args Ts own) (hM : vx_Met l y ws rm Pc Qc XC mc ms free) (cw : vx_CVW R s args own C index y bytes maxL ret hh ws rm mc ms n) (hp : PreV s H C b Pc As)
    (hg : g.method = m) (hn : As.length = n) (hsize : g.locals.size = nL) (hstack : g.stack = As.reverse ++ .ref b :: rest) (hW : 2 * g.monitorRoom + (rest.map fun v => v.category).sum ≤ 8) (hdg : decode cc g.pc = .ok (.invokevirtual index, 3)) (hf : cells + mc ≤ R.cells ∧ slots + ms ≤ R.slots) :
    vx_Run p l e R s m args below meth c H locs cells slots mc ms g rest (Qc (Value.ref b :: As).toArray) XC free := by
  obtain ⟨⟨hrc, hrs, hfr, hlo, hws, hcw⟩, hcode, hini, hy, hlen, hl, hin, hse⟩ := cw
  have hK : vx_Back l R p e below s args y 3 8 (PreOf R mc ms Pc) (PostOf Qc mc ms free) (vx_Post XC mc ms free) := vx_backW (hh := hh) (bytes := bytes) (maxL := maxL) (ret := ret) hM hp.1 hrc hrs hfr hlo hws hcw (fun a' U hW => word_at hW (Or.inl (by first | rfl | simp [Cond.onTables, Cond.keeps, Cond.steady])) hini)
  obtain ⟨hx, hb, hml, ho, -⟩ := S
  obtain ⟨-, ⟨cellB, hcB, hoB, hclB⟩, hPc⟩ := hp
  intro T hT X
  rcases vx_callVX X hx (C := C) (hh := hh) (bytes := bytes) (maxL := maxL) (ret := ret) ho hl hin hse hcode hy hK (by rw [hT]; exact hcB) hoB hclB hg (hsize.trans hml.symm) (argsL := As) (rest := rest) (fun sig h => hn.trans (hlen sig h)) hstack hW (by rw [hb]; exact hdg)
    (fun vm₁ hW₁ => ⟨hf.1, hf.2, hPc (T.setVm vm₁) hT hW₁⟩) with ⟨v, vm₁, ⟨U', l2, c2, s2⟩, hW₁, X', ⟨g', mk, t, L, e1, e2, hq, h1, hL, h2, h3⟩, st⟩ | ⟨q, vm₁, ⟨U', l2, c2, s2⟩, hW₁, X', ⟨g', mk, t, L, E, ce, e1, e2, hq, hce, hcv, hcl, h1, hL, h2, h3⟩, st⟩
  · dsimp only [Pt.U, Pt.locs, Pt.cells, Pt.slots] at X' e1 e2 h1 h2 h3 st
    subst h1; subst h2; subst h3
    exact Or.inl ⟨v, (T.setVm vm₁).calling g' mk (Value.ref b :: As).toArray, t, U', L, hT, X', hL, e1, e2, hq, st⟩
  · dsimp only [Pt.U, Pt.locs, Pt.cells, Pt.slots] at X' e1 e2 h1 h2 h3 st hcl
    subst h1; subst h2; subst h3
    exact Or.inr ⟨q, (T.setVm vm₁).calling g' mk (Value.ref b :: As).toArray, t, U', L, E, ce, hT, X', hL, e1, e2, hq, hce, hcv, vx_cls hW₁ hcl, st⟩
theorem vx_runSX {hh : List (Nat × Nat × Nat × Nat)} (S : CallFix p m c cc nL s args Ts own) (hM : vx_Met l y ws rm Pc Qc XC mc ms free) (cw : vx_CSW R s args own index y bytes maxL ret hh ws rm mc ms n) (hp : PreS s H Pc As)
    (hg : g.method = m) (hn : As.length = n) (hsize : g.locals.size = nL) (hstack : g.stack = As.reverse ++ rest) (hW : 2 * g.monitorRoom + (rest.map fun v => v.category).sum ≤ 8) (hdg : decode cc g.pc = .ok (.invokestatic index, 3)) (hf : cells + mc ≤ R.cells ∧ slots + ms ≤ R.slots) :
    vx_Run p l e R s m args below meth c H locs cells slots mc ms g rest (Qc As.toArray) XC free := by
  obtain ⟨⟨hrc, hrs, hfr, hlo, hws, hcw⟩, hcode, hini, hy, hlen, hl, hstt⟩ := cw
  have hK : vx_Back l R p e below s args y 3 8 (PreOf R mc ms Pc) (PostOf Qc mc ms free) (vx_Post XC mc ms free) := vx_backW (hh := hh) (bytes := bytes) (maxL := maxL) (ret := ret) hM hp.1 hrc hrs hfr hlo hws hcw (fun a' U hW => word_at hW (Or.inl (by first | rfl | simp [Cond.onTables, Cond.keeps, Cond.steady])) hini)
  obtain ⟨hx, hb, hml, ho, -⟩ := S
  intro T hT X
  rcases vx_callSX X hx (hh := hh) (bytes := bytes) (maxL := maxL) (ret := ret) ho hl hstt hini hcode hy hK hg (hsize.trans hml.symm) (argsL := As) (rest := rest) (fun sig h => hn.trans (hlen sig h)) hstack hW (by rw [hb]; exact hdg)
    (fun vm₁ hW₁ => ⟨hf.1, hf.2, hp.2 (T.setVm vm₁) hT hW₁⟩) with ⟨v, vm₁, ⟨U', l2, c2, s2⟩, hW₁, X', ⟨g', mk, t, L, e1, e2, hq, h1, hL, h2, h3⟩, st⟩ | ⟨q, vm₁, ⟨U', l2, c2, s2⟩, hW₁, X', ⟨g', mk, t, L, E, ce, e1, e2, hq, hce, hcv, hcl, h1, hL, h2, h3⟩, st⟩
  · dsimp only [Pt.U, Pt.locs, Pt.cells, Pt.slots] at X' e1 e2 h1 h2 h3 st
    subst h1; subst h2; subst h3
    exact Or.inl ⟨v, (T.setVm vm₁).calling g' mk As.toArray, t, U', L, hT, X', hL, e1, e2, hq, st⟩
  · dsimp only [Pt.U, Pt.locs, Pt.cells, Pt.slots] at X' e1 e2 h1 h2 h3 st hcl
    subst h1; subst h2; subst h3
    exact Or.inr ⟨q, (T.setVm vm₁).calling g' mk As.toArray, t, U', L, E, ce, hT, X', hL, e1, e2, hq, hce, hcv, vx_cls hW₁ hcl, st⟩
end
end VXH
theorem vx_ofWH {l : Launch} {y : MethodName} {ws ws' : List Cond} {rm : Room} {Pc : Array Value → State → Prop} {Qc : Array Value → State → Outcome → State → Prop} {XC : String → State → State → Prop} {mc ms : Nat} {free : Addr → Prop} {cc : ByteArray} {maxL : Nat} {ret : Option FieldType} {hh : List (Nat × Nat × Nat × Nat)}
    (hy : plainName y.cls = true) (hw : ws = Cond.codeWith y cc maxL ret hh :: ws')
    (body : ∀ p e s m args below meth c s₁, BodyLoose p l y (headSpec ws rm) cc maxL ret e s m args below meth c s₁ → c.maxLocals = maxL → Pc args s →
      W p l e (headSpec ws rm).room s m args below meth c s.heap [] 0 0 (vx_MQ below Qc XC args s mc ms free) (entryFrame m args maxL)) : vx_Met l y ws rm Pc Qc XC mc ms free := by
  refine MetFree.of_bodyS (code := cc) (maxLocals := maxL) (ret := ret) hy ?_ ?_
  · intro args s m h hn
    obtain ⟨m9, meth, c, hn9, h1, h2, h3, h4, -, h5, h6, -⟩ := Cond.codeWith_spec (atoms_spec (ws := ws) h _ (by rw [hw]; exact List.mem_cons_self))
    cases hn.symm.trans hn9
    exact ⟨meth, c, h1, h2, h3, h4, h5, h6⟩
  · intro p e s m args below meth c s₁ B hml hP _
    have hh0 : s₁.heap = s.heap := by rw [B.state]; rfl
    obtain ⟨t, a1, o, b1, b2, b3⟩ := body p e s m args below meth c s₁ B hml hP s₁ hh0 (Stand.of_body B)
    exact ⟨t, o, a1, b1, b2, b3⟩
/-! ===== END ===== -/
end
section
/-! ===== BEGIN printed: names, fields, word lists, decode rows ===== -/
def RX0 : String := "PassSearch$BinTable"
def TX0 : u_T := fun k => match k with
  | 0 => ("PassSearch$BinTable", "marks", "[I", true)
  | 1 => ("PassSearch$BinTable", "values", "[I", true)
  | 2 => ("PassSearch$BinTable", "taken", "[I", true)
  | _ => ("PassSearch$BinTable", "size", "I", false)
def tyX0 : Nat → FieldType := fun k => match k with
  | 0 => .array .int
  | 1 => .array .int
  | 2 => .array .int
  | _ => .int
abbrev wsX00 : List Cond := u_ws RX0 TX0 4
theorem nmX0 : ∀ a, a < 4 → ∀ b, b < 4 → a ≠ b → (TX0 a).2.1 ≠ (TX0 b).2.1 := by decide +kernel
theorem tyX0_ok : ∀ k, k < 4 → parseFieldDescriptor (TX0 k).2.2.1 = some (tyX0 k) := by decide +kernel
abbrev cX0_init : ByteArray := prog_2_method_1_code
def yX0_init : MethodName := ⟨RX0, "<init>", "()V"⟩
abbrev cX0_size : ByteArray := prog_2_method_2_code
def yX0_size : MethodName := ⟨RX0, "size", "()I"⟩
abbrev cX0_binAt : ByteArray := prog_2_method_3_code
def yX0_binAt : MethodName := ⟨RX0, "binAt", "(I)I"⟩
abbrev cX0_valueAt : ByteArray := prog_2_method_4_code
def yX0_valueAt : MethodName := ⟨RX0, "valueAt", "(I)I"⟩
abbrev cX0_valueOf : ByteArray := prog_2_method_5_code
def yX0_valueOf : MethodName := ⟨RX0, "valueOf", "(I)I"⟩
abbrev cX0_put : ByteArray := prog_2_method_6_code
def yX0_put : MethodName := ⟨RX0, "put", "(II)Z"⟩
abbrev cX0_clear : ByteArray := prog_2_method_7_code
def yX0_clear : MethodName := ⟨RX0, "clear", "()V"⟩
abbrev cX0_slotOf : ByteArray := prog_2_method_8_code
def yX0_slotOf : MethodName := ⟨RX0, "slotOf", "(I)I"⟩
def RX1 : String := "PassSearch$Items"
def TX1 : u_T := fun k => match k with
  | 0 => ("PassSearch$Items", "points", "[J", true)
  | 1 => ("PassSearch$Items", "firsts", "[I", true)
  | 2 => ("PassSearch$Items", "counts", "[I", true)
  | 3 => ("PassSearch$Items", "sorted", "[I", true)
  | 4 => ("PassSearch$Items", "groupCount", "I", false)
  | _ => ("PassSearch$Items", "total", "I", false)
def tyX1 : Nat → FieldType := fun k => match k with
  | 0 => .array .long
  | 1 => .array .int
  | 2 => .array .int
  | 3 => .array .int
  | 4 => .int
  | _ => .int
abbrev wsX10 : List Cond := u_ws RX1 TX1 6
theorem nmX1 : ∀ a, a < 6 → ∀ b, b < 6 → a ≠ b → (TX1 a).2.1 ≠ (TX1 b).2.1 := by decide +kernel
theorem tyX1_ok : ∀ k, k < 6 → parseFieldDescriptor (TX1 k).2.2.1 = some (tyX1 k) := by decide +kernel
abbrev cX1_init : ByteArray := prog_3_method_1_code
def yX1_init : MethodName := ⟨RX1, "<init>", "()V"⟩
abbrev cX1_clear : ByteArray := prog_3_method_2_code
def yX1_clear : MethodName := ⟨RX1, "clear", "()V"⟩
abbrev cX1_total : ByteArray := prog_3_method_3_code
def yX1_total : MethodName := ⟨RX1, "total", "()I"⟩
abbrev cX1_groupCount : ByteArray := prog_3_method_4_code
def yX1_groupCount : MethodName := ⟨RX1, "groupCount", "()I"⟩
abbrev cX1_pointOf : ByteArray := prog_3_method_5_code
def yX1_pointOf : MethodName := ⟨RX1, "pointOf", "(I)J"⟩
abbrev cX1_countOf : ByteArray := prog_3_method_6_code
def yX1_countOf : MethodName := ⟨RX1, "countOf", "(I)I"⟩
abbrev cX1_hasRoom : ByteArray := prog_3_method_7_code
def yX1_hasRoom : MethodName := ⟨RX1, "hasRoom", "(I)Z"⟩
abbrev cX1_add : ByteArray := prog_3_method_8_code
def yX1_add : MethodName := ⟨RX1, "add", "(JI)V"⟩
abbrev cX1_itemAt : ByteArray := prog_3_method_9_code
def yX1_itemAt : MethodName := ⟨RX1, "itemAt", "(I)I"⟩
abbrev cX1_placeOf : ByteArray := prog_3_method_10_code
def yX1_placeOf : MethodName := ⟨RX1, "placeOf", "(IJ)I"⟩
abbrev cX1_hasGroup : ByteArray := prog_3_method_11_code
def yX1_hasGroup : MethodName := ⟨RX1, "hasGroup", "(I)Z"⟩
abbrev cX1_groupOf : ByteArray := prog_3_method_12_code
def yX1_groupOf : MethodName := ⟨RX1, "groupOf", "(I)I"⟩
abbrev cX1_putSorted : ByteArray := prog_3_method_13_code
def yX1_putSorted : MethodName := ⟨RX1, "putSorted", "(I)V"⟩
def RX2 : String := "PassSearch$Plan"
def TX2 : u_T := fun k => match k with
  | 0 => ("PassSearch$Plan", "bins", "I", true)
  | 1 => ("PassSearch$Plan", "sizes", "[I", true)
  | 2 => ("PassSearch$Plan", "spans", "[J", true)
  | 3 => ("PassSearch$Plan", "points", "J", false)
  | _ => ("PassSearch$Plan", "passCount", "I", false)
def tyX2 : Nat → FieldType := fun k => match k with
  | 0 => .int
  | 1 => .array .int
  | 2 => .array .long
  | 3 => .long
  | _ => .int
abbrev wsX20 : List Cond := u_ws RX2 TX2 5
theorem nmX2 : ∀ a, a < 5 → ∀ b, b < 5 → a ≠ b → (TX2 a).2.1 ≠ (TX2 b).2.1 := by decide +kernel
theorem tyX2_ok : ∀ k, k < 5 → parseFieldDescriptor (TX2 k).2.2.1 = some (tyX2 k) := by decide +kernel
abbrev cX2_init : ByteArray := prog_4_method_1_code
def yX2_init : MethodName := ⟨RX2, "<init>", "(I)V"⟩
abbrev cX2_isLaid : ByteArray := prog_4_method_2_code
def yX2_isLaid : MethodName := ⟨RX2, "isLaid", "()Z"⟩
abbrev cX2_hasPoint : ByteArray := prog_4_method_3_code
def yX2_hasPoint : MethodName := ⟨RX2, "hasPoint", "(J)Z"⟩
abbrev cX2_hasPass : ByteArray := prog_4_method_4_code
def yX2_hasPass : MethodName := ⟨RX2, "hasPass", "(I)Z"⟩
abbrev cX2_passCount : ByteArray := prog_4_method_5_code
def yX2_passCount : MethodName := ⟨RX2, "passCount", "()I"⟩
abbrev cX2_sizeOf : ByteArray := prog_4_method_6_code
def yX2_sizeOf : MethodName := ⟨RX2, "sizeOf", "(I)I"⟩
abbrev cX2_spanBehind : ByteArray := prog_4_method_7_code
def yX2_spanBehind : MethodName := ⟨RX2, "spanBehind", "(I)J"⟩
abbrev cX2_binOf : ByteArray := prog_4_method_8_code
def yX2_binOf : MethodName := ⟨RX2, "binOf", "(JI)I"⟩
abbrev cX2_lay : ByteArray := prog_4_method_9_code
def yX2_lay : MethodName := ⟨RX2, "lay", "(J)V"⟩
abbrev cX2_leastSum : ByteArray := prog_4_method_10_code
def yX2_leastSum : MethodName := ⟨RX2, "leastSum", "()I"⟩
abbrev cX2_leastSize : ByteArray := prog_4_method_11_code
def yX2_leastSize : MethodName := ⟨RX2, "leastSize", "(II)I"⟩
abbrev cX2_isEnough : ByteArray := prog_4_method_12_code
def yX2_isEnough : MethodName := ⟨RX2, "isEnough", "(III)Z"⟩
def RX3 : String := "PassSearch$Whole"
def TX3 : u_T := fun k => match k with
  | _ => ("", "", "", false)
def tyX3 : Nat → FieldType := fun k => match k with
  | _ => .int
abbrev wsX30 : List Cond := u_ws RX3 TX3 0
theorem nmX3 : ∀ a, a < 0 → ∀ b, b < 0 → a ≠ b → (TX3 a).2.1 ≠ (TX3 b).2.1 := by decide +kernel
theorem tyX3_ok : ∀ k, k < 0 → parseFieldDescriptor (TX3 k).2.2.1 = some (tyX3 k) := by decide +kernel
abbrev cX3_quotient : ByteArray := prog_5_method_2_code
def yX3_quotient : MethodName := ⟨RX3, "quotient", "(JJ)J"⟩
abbrev cX3_remainder : ByteArray := prog_5_method_3_code
def yX3_remainder : MethodName := ⟨RX3, "remainder", "(JJ)J"⟩
abbrev cX3_quotientUp : ByteArray := prog_5_method_4_code
def yX3_quotientUp : MethodName := ⟨RX3, "quotientUp", "(II)I"⟩
abbrev cX3_product : ByteArray := prog_5_method_5_code
def yX3_product : MethodName := ⟨RX3, "product", "(JJ)J"⟩
abbrev cX3_power : ByteArray := prog_5_method_6_code
def yX3_power : MethodName := ⟨RX3, "power", "(JI)J"⟩
abbrev cX3_leastExponent : ByteArray := prog_5_method_7_code
def yX3_leastExponent : MethodName := ⟨RX3, "leastExponent", "(JJ)I"⟩
abbrev cX3_leastBase : ByteArray := prog_5_method_8_code
def yX3_leastBase : MethodName := ⟨RX3, "leastBase", "(JIJ)J"⟩
abbrev cX3_widestProduct : ByteArray := prog_5_method_9_code
def yX3_widestProduct : MethodName := ⟨RX3, "widestProduct", "(II)J"⟩
def RX4 : String := "PassSearch"
def TX4 : u_T := fun k => match k with
  | 0 => ("PassSearch", "bins", "I", true)
  | 1 => ("PassSearch", "plan", "LPassSearch$Plan;", true)
  | 2 => ("PassSearch", "items", "LPassSearch$Items;", true)
  | 3 => ("PassSearch", "heights", "LPassSearch$BinTable;", true)
  | _ => ("PassSearch", "tally", "LPassSearch$BinTable;", true)
def tyX4 : Nat → FieldType := fun k => match k with
  | 0 => .int
  | 1 => .object "PassSearch$Plan"
  | 2 => .object "PassSearch$Items"
  | 3 => .object "PassSearch$BinTable"
  | _ => .object "PassSearch$BinTable"
abbrev wsX40 : List Cond := u_ws RX4 TX4 5
theorem nmX4 : ∀ a, a < 5 → ∀ b, b < 5 → a ≠ b → (TX4 a).2.1 ≠ (TX4 b).2.1 := by decide +kernel
theorem tyX4_ok : ∀ k, k < 5 → parseFieldDescriptor (TX4 k).2.2.1 = some (tyX4 k) := by decide +kernel
abbrev cX4_init : ByteArray := prog_1_method_1_code
def yX4_init : MethodName := ⟨RX4, "<init>", "(I)V"⟩
abbrev cX4_passes : ByteArray := prog_1_method_2_code
def yX4_passes : MethodName := ⟨RX4, "passes", "(J)I"⟩
abbrev cX4_digit : ByteArray := prog_1_method_3_code
def yX4_digit : MethodName := ⟨RX4, "digit", "(JI)I"⟩
abbrev cX4_best : ByteArray := prog_1_method_4_code
def yX4_best : MethodName := ⟨RX4, "best", "(JI)I"⟩
abbrev cX4_volume : ByteArray := prog_1_method_5_code
def yX4_volume : MethodName := ⟨RX4, "volume", "(JI)I"⟩
abbrev cX4_height : ByteArray := prog_1_method_6_code
def yX4_height : MethodName := ⟨RX4, "height", "(II)I"⟩
abbrev cX4_trays : ByteArray := prog_1_method_7_code
def yX4_trays : MethodName := ⟨RX4, "trays", "()I"⟩
abbrev cX4_sort : ByteArray := prog_1_method_8_code
def yX4_sort : MethodName := ⟨RX4, "sort", "(II)I"⟩
abbrev cX4_order : ByteArray := prog_1_method_9_code
def yX4_order : MethodName := ⟨RX4, "order", "(I)I"⟩
abbrev cX4_digits : ByteArray := prog_1_method_10_code
def yX4_digits : MethodName := ⟨RX4, "digits", "(I)I"⟩
abbrev cX4_least : ByteArray := prog_1_method_11_code
def yX4_least : MethodName := ⟨RX4, "least", "(JI)Z"⟩
abbrev cX4_isRound : ByteArray := prog_1_method_12_code
def yX4_isRound : MethodName := ⟨RX4, "isRound", "(J)Z"⟩
abbrev cX4_isUnknownPoint : ByteArray := prog_1_method_13_code
def yX4_isUnknownPoint : MethodName := ⟨RX4, "isUnknownPoint", "(J)Z"⟩
abbrev cX4_isUnknownPass : ByteArray := prog_1_method_14_code
def yX4_isUnknownPass : MethodName := ⟨RX4, "isUnknownPass", "(I)Z"⟩
abbrev cX4_isUnknownItem : ByteArray := prog_1_method_15_code
def yX4_isUnknownItem : MethodName := ⟨RX4, "isUnknownItem", "(I)Z"⟩
abbrev cX4_heightOf : ByteArray := prog_1_method_16_code
def yX4_heightOf : MethodName := ⟨RX4, "heightOf", "(I)I"⟩
abbrev cX4_traysOfPass : ByteArray := prog_1_method_17_code
def yX4_traysOfPass : MethodName := ⟨RX4, "traysOfPass", "(I)I"⟩
def RX5 : String := "PassSearchModel"
def TX5 : u_T := fun k => match k with
  | 0 => ("PassSearchModel", "thrown", "I", false)
  | 1 => ("PassSearchModel", "bins", "I", true)
  | 2 => ("PassSearchModel", "heights", "[I", true)
  | 3 => ("PassSearchModel", "in", "[I", true)
  | 4 => ("PassSearchModel", "planned", "Z", false)
  | 5 => ("PassSearchModel", "points", "J", false)
  | 6 => ("PassSearchModel", "passes", "I", false)
  | 7 => ("PassSearchModel", "sizes", "[I", true)
  | 8 => ("PassSearchModel", "items", "I", false)
  | 9 => ("PassSearchModel", "pointOf", "[J", true)
  | _ => ("PassSearchModel", "sorted", "[I", true)
def tyX5 : Nat → FieldType := fun k => match k with
  | 0 => .int
  | 1 => .int
  | 2 => .array .int
  | 3 => .array .int
  | 4 => .boolean
  | 5 => .long
  | 6 => .int
  | 7 => .array .int
  | 8 => .int
  | 9 => .array .long
  | _ => .array .int
abbrev wsX50 : List Cond := u_ws RX5 TX5 11
theorem nmX5 : ∀ a, a < 11 → ∀ b, b < 11 → a ≠ b → (TX5 a).2.1 ≠ (TX5 b).2.1 := by decide +kernel
theorem tyX5_ok : ∀ k, k < 11 → parseFieldDescriptor (TX5 k).2.2.1 = some (tyX5 k) := by decide +kernel
abbrev cX5_init : ByteArray := prog_7_method_1_code
def yX5_init : MethodName := ⟨RX5, "<init>", "(I)V"⟩
abbrev cX5_thrown : ByteArray := prog_7_method_2_code
def yX5_thrown : MethodName := ⟨RX5, "thrown", "()I"⟩
abbrev cX5_isCount : ByteArray := prog_7_method_3_code
def yX5_isCount : MethodName := ⟨RX5, "isCount", "(J)Z"⟩
abbrev cX5_product : ByteArray := prog_7_method_4_code
def yX5_product : MethodName := ⟨RX5, "product", "(JJ)J"⟩
abbrev cX5_fewest : ByteArray := prog_7_method_5_code
def yX5_fewest : MethodName := ⟨RX5, "fewest", "(JI)I"⟩
abbrev cX5_greatest : ByteArray := prog_7_method_6_code
def yX5_greatest : MethodName := ⟨RX5, "greatest", "(JII)J"⟩
abbrev cX5_choose : ByteArray := prog_7_method_7_code
def yX5_choose : MethodName := ⟨RX5, "choose", "()V"⟩
abbrev cX5_passes : ByteArray := prog_7_method_8_code
def yX5_passes : MethodName := ⟨RX5, "passes", "(J)I"⟩
abbrev cX5_isPoint : ByteArray := prog_7_method_9_code
def yX5_isPoint : MethodName := ⟨RX5, "isPoint", "(J)Z"⟩
abbrev cX5_isPass : ByteArray := prog_7_method_10_code
def yX5_isPass : MethodName := ⟨RX5, "isPass", "(I)Z"⟩
abbrev cX5_isItem : ByteArray := prog_7_method_11_code
def yX5_isItem : MethodName := ⟨RX5, "isItem", "(I)Z"⟩
abbrev cX5_digit : ByteArray := prog_7_method_12_code
def yX5_digit : MethodName := ⟨RX5, "digit", "(JI)I"⟩
abbrev cX5_isEnough : ByteArray := prog_7_method_13_code
def yX5_isEnough : MethodName := ⟨RX5, "isEnough", "(JIJ)Z"⟩
abbrev cX5_best : ByteArray := prog_7_method_14_code
def yX5_best : MethodName := ⟨RX5, "best", "(JI)I"⟩
abbrev cX5_volume : ByteArray := prog_7_method_15_code
def yX5_volume : MethodName := ⟨RX5, "volume", "(JI)I"⟩
abbrev cX5_height : ByteArray := prog_7_method_16_code
def yX5_height : MethodName := ⟨RX5, "height", "(II)I"⟩
abbrev cX5_trays : ByteArray := prog_7_method_17_code
def yX5_trays : MethodName := ⟨RX5, "trays", "()I"⟩
abbrev cX5_sort : ByteArray := prog_7_method_18_code
def yX5_sort : MethodName := ⟨RX5, "sort", "(II)I"⟩
abbrev cX5_order : ByteArray := prog_7_method_19_code
def yX5_order : MethodName := ⟨RX5, "order", "(I)I"⟩
abbrev cX5_digits : ByteArray := prog_7_method_20_code
def yX5_digits : MethodName := ⟨RX5, "digits", "(I)I"⟩
abbrev cX5_least : ByteArray := prog_7_method_21_code
def yX5_least : MethodName := ⟨RX5, "least", "(JI)Z"⟩
def RJx00060 : String := "java/lang/ArrayIndexOutOfBoundsException"
def TJx00060 : u_T := fun k => match k with
  | 0 => ("java/lang/Throwable", "cause", "Ljava/lang/Throwable;", false)
  | 1 => ("java/lang/Throwable", "stackTrace", "[Ljava/lang/StackTraceElement;", false)
  | 2 => ("java/lang/Throwable", "suppressedExceptions", "Ljava/util/List;", false)
  | 3 => ("java/lang/Throwable", "detailMessage", "Ljava/lang/String;", false)
  | 4 => ("java/lang/Throwable", "backtrace", "Ljava/lang/Object;", false)
  | _ => ("java/lang/Throwable", "depth", "I", false)
def tyJx00060 : Nat → FieldType := fun k => match k with
  | 0 => .object "java/lang/Throwable"
  | 1 => .array (.object "java/lang/StackTraceElement")
  | 2 => .object "java/util/List"
  | 3 => .object "java/lang/String"
  | 4 => .object "java/lang/Object"
  | _ => .int
abbrev wsJx000600 : List Cond := u_ws RJx00060 TJx00060 6
theorem nmJx00060 : ∀ a, a < 6 → ∀ b, b < 6 → a ≠ b → (TJx00060 a).2.1 ≠ (TJx00060 b).2.1 := by decide +kernel
theorem tyJx00060_ok : ∀ k, k < 6 → parseFieldDescriptor (TJx00060 k).2.2.1 = some (tyJx00060 k) := by decide +kernel
abbrev cJx00060_init_a7421 : ByteArray := prog_8_method_2_code
def yJx00060_init_a7421 : MethodName := ⟨RJx00060, "<init>", "(Ljava/lang/String;)V"⟩
def RJ9 : String := "java/lang/Math"
def TJ9 : u_T := fun k => match k with
  | _ => ("", "", "", false)
def tyJ9 : Nat → FieldType := fun k => match k with
  | _ => .int
abbrev wsJ90 : List Cond := u_ws RJ9 TJ9 0
theorem nmJ9 : ∀ a, a < 0 → ∀ b, b < 0 → a ≠ b → (TJ9 a).2.1 ≠ (TJ9 b).2.1 := by decide +kernel
theorem tyJ9_ok : ∀ k, k < 0 → parseFieldDescriptor (TJ9 k).2.2.1 = some (tyJ9 k) := by decide +kernel
abbrev cJ9_max_7cf53 : ByteArray := prog_12_method_65_code
def yJ9_max_7cf53 : MethodName := ⟨RJ9, "max", "(II)I"⟩
abbrev cJ9_min_7cf53 : ByteArray := prog_12_method_69_code
def yJ9_min_7cf53 : MethodName := ⟨RJ9, "min", "(II)I"⟩
def RJ0 : String := "java/lang/String"
def TJ0 : u_T := fun k => match k with
  | _ => ("", "", "", false)
def tyJ0 : Nat → FieldType := fun k => match k with
  | _ => .int
abbrev wsJ00 : List Cond := u_ws RJ0 TJ0 0
theorem nmJ0 : ∀ a, a < 0 → ∀ b, b < 0 → a ≠ b → (TJ0 a).2.1 ≠ (TJ0 b).2.1 := by decide +kernel
theorem tyJ0_ok : ∀ k, k < 0 → parseFieldDescriptor (TJ0 k).2.2.1 = some (tyJ0 k) := by decide +kernel
def RL : String := "PassSearchLaw"
abbrev cL_cell : ByteArray := method_2_code
def yL_cell : MethodName := ⟨RL, "cell", "([II)I"⟩
abbrev cL_passes : ByteArray := method_3_code
def yL_passes : MethodName := ⟨RL, "passes", "(LPassSearch;J[J)I"⟩
abbrev cL_digits : ByteArray := method_4_code
def yL_digits : MethodName := ⟨RL, "digits", "(LPassSearch;I[J)I"⟩
abbrev cL_law : ByteArray := code
def yL_law : MethodName := ⟨RL, "law", "([I)Z"⟩
def wsX0_init : List Cond := .code yX0_init cX0_init 1 none :: ([.methodLink RX0 5 objectInit, .instanceMethod objectInit, .code objectInit ⟨#[0xb1]⟩ 1 none, .arrayClass .int, .fieldLink RX0 11 "PassSearch$BinTable" "marks" "[I", .fieldLink RX0 15 "PassSearch$BinTable" "values" "[I", .fieldLink RX0 18 "PassSearch$BinTable" "taken" "[I"] ++ wsX00)
def wsX0_size : List Cond := .code yX0_size cX0_size 1 (some .int) :: ([.fieldLink RX0 21 "PassSearch$BinTable" "size" "I"] ++ wsX00)
def wsX0_binAt : List Cond := .code yX0_binAt cX0_binAt 2 (some .int) :: ([.fieldLink RX0 21 "PassSearch$BinTable" "size" "I", .fieldLink RX0 11 "PassSearch$BinTable" "marks" "[I", .fieldLink RX0 18 "PassSearch$BinTable" "taken" "[I"] ++ wsX00)
def wsX0_valueAt : List Cond := .code yX0_valueAt cX0_valueAt 2 (some .int) :: ([.fieldLink RX0 21 "PassSearch$BinTable" "size" "I", .fieldLink RX0 15 "PassSearch$BinTable" "values" "[I", .fieldLink RX0 18 "PassSearch$BinTable" "taken" "[I"] ++ wsX00)
def wsX0_slotOf : List Cond := .code yX0_slotOf cX0_slotOf 4 (some .int) :: ([.constant RX0 29 (-1640531535), .fieldLink RX0 11 "PassSearch$BinTable" "marks" "[I"] ++ wsX00)
def wsX0_valueOf : List Cond := .code yX0_valueOf cX0_valueOf 3 (some .int) :: ([.fieldLink RX0 11 "PassSearch$BinTable" "marks" "[I", .fieldLink RX0 15 "PassSearch$BinTable" "values" "[I", .methodLink RX0 25 yX0_slotOf, .instanceMethod yX0_slotOf, .selects RX0 yX0_slotOf yX0_slotOf, .initialized RX0, .code yX0_slotOf cX0_slotOf 4 (some .int), .constant RX0 29 (-1640531535)] ++ wsX00)
def wsX0_put : List Cond := .code yX0_put cX0_put 4 (some .boolean) :: ([.fieldLink RX0 11 "PassSearch$BinTable" "marks" "[I", .fieldLink RX0 21 "PassSearch$BinTable" "size" "I", .fieldLink RX0 18 "PassSearch$BinTable" "taken" "[I", .fieldLink RX0 15 "PassSearch$BinTable" "values" "[I", .methodLink RX0 25 yX0_slotOf, .instanceMethod yX0_slotOf, .selects RX0 yX0_slotOf yX0_slotOf, .initialized RX0, .code yX0_slotOf cX0_slotOf 4 (some .int), .constant RX0 29 (-1640531535)] ++ wsX00)
def wsX0_clear : List Cond := .code yX0_clear cX0_clear 2 none :: ([.fieldLink RX0 21 "PassSearch$BinTable" "size" "I", .fieldLink RX0 11 "PassSearch$BinTable" "marks" "[I", .fieldLink RX0 18 "PassSearch$BinTable" "taken" "[I"] ++ wsX00)
def wsX1_init : List Cond := .code yX1_init cX1_init 1 none :: ([.methodLink RX1 3 objectInit, .instanceMethod objectInit, .code objectInit ⟨#[0xb1]⟩ 1 none, .arrayClass .long, .fieldLink RX1 9 "PassSearch$Items" "points" "[J", .arrayClass .int, .fieldLink RX1 15 "PassSearch$Items" "firsts" "[I", .fieldLink RX1 19 "PassSearch$Items" "counts" "[I", .fieldLink RX1 22 "PassSearch$Items" "sorted" "[I"] ++ wsX10)
def wsX1_clear : List Cond := .code yX1_clear cX1_clear 1 none :: ([.fieldLink RX1 25 "PassSearch$Items" "groupCount" "I", .fieldLink RX1 29 "PassSearch$Items" "total" "I"] ++ wsX10)
def wsX1_total : List Cond := .code yX1_total cX1_total 1 (some .int) :: ([.fieldLink RX1 29 "PassSearch$Items" "total" "I"] ++ wsX10)
def wsX1_groupCount : List Cond := .code yX1_groupCount cX1_groupCount 1 (some .int) :: ([.fieldLink RX1 25 "PassSearch$Items" "groupCount" "I"] ++ wsX10)
def wsX1_hasGroup : List Cond := .code yX1_hasGroup cX1_hasGroup 2 (some .boolean) :: ([.fieldLink RX1 25 "PassSearch$Items" "groupCount" "I"] ++ wsX10)
def wsX1_pointOf : List Cond := .code yX1_pointOf cX1_pointOf 2 (some .long) :: ([.fieldLink RX1 9 "PassSearch$Items" "points" "[J", .methodLink RX1 32 yX1_hasGroup, .instanceMethod yX1_hasGroup, .selects RX1 yX1_hasGroup yX1_hasGroup, .initialized RX1, .code yX1_hasGroup cX1_hasGroup 2 (some .boolean), .fieldLink RX1 25 "PassSearch$Items" "groupCount" "I"] ++ wsX10)
def wsX1_countOf : List Cond := .code yX1_countOf cX1_countOf 2 (some .int) :: ([.fieldLink RX1 19 "PassSearch$Items" "counts" "[I", .methodLink RX1 32 yX1_hasGroup, .instanceMethod yX1_hasGroup, .selects RX1 yX1_hasGroup yX1_hasGroup, .initialized RX1, .code yX1_hasGroup cX1_hasGroup 2 (some .boolean), .fieldLink RX1 25 "PassSearch$Items" "groupCount" "I"] ++ wsX10)
def wsX1_hasRoom : List Cond := .code yX1_hasRoom cX1_hasRoom 2 (some .boolean) :: ([.fieldLink RX1 29 "PassSearch$Items" "total" "I", .fieldLink RX1 25 "PassSearch$Items" "groupCount" "I"] ++ wsX10)
def wsX1_putSorted : List Cond := .code yX1_putSorted cX1_putSorted 3 none :: ([.fieldLink RX1 9 "PassSearch$Items" "points" "[J", .fieldLink RX1 22 "PassSearch$Items" "sorted" "[I"] ++ wsX10)
def wsX1_add : List Cond := .code yX1_add cX1_add 4 none :: ([.fieldLink RX1 9 "PassSearch$Items" "points" "[J", .fieldLink RX1 25 "PassSearch$Items" "groupCount" "I", .fieldLink RX1 15 "PassSearch$Items" "firsts" "[I", .fieldLink RX1 29 "PassSearch$Items" "total" "I", .fieldLink RX1 19 "PassSearch$Items" "counts" "[I", .methodLink RX1 36 yX1_hasRoom, .instanceMethod yX1_hasRoom, .selects RX1 yX1_hasRoom yX1_hasRoom, .initialized RX1, .code yX1_hasRoom cX1_hasRoom 2 (some .boolean), .methodLink RX1 39 yX1_putSorted, .instanceMethod yX1_putSorted, .selects RX1 yX1_putSorted yX1_putSorted, .code yX1_putSorted cX1_putSorted 3 none, .fieldLink RX1 22 "PassSearch$Items" "sorted" "[I"] ++ wsX10)
def wsX1_itemAt : List Cond := .code yX1_itemAt cX1_itemAt 5 (some .int) :: ([.fieldLink RX1 25 "PassSearch$Items" "groupCount" "I", .fieldLink RX1 22 "PassSearch$Items" "sorted" "[I", .fieldLink RX1 19 "PassSearch$Items" "counts" "[I", .fieldLink RX1 15 "PassSearch$Items" "firsts" "[I"] ++ wsX10)
def wsX1_groupOf : List Cond := .code yX1_groupOf cX1_groupOf 3 (some .int) :: ([.fieldLink RX1 25 "PassSearch$Items" "groupCount" "I", .fieldLink RX1 15 "PassSearch$Items" "firsts" "[I"] ++ wsX10)
def wsX3_remainder : List Cond := .code yX3_remainder cX3_remainder 4 (some .long) :: ([])
def wsX1_placeOf : List Cond := .code yX1_placeOf cX1_placeOf 11 (some .int) :: ([.fieldLink RX1 9 "PassSearch$Items" "points" "[J", .fieldLink RX1 15 "PassSearch$Items" "firsts" "[I", .fieldLink RX1 25 "PassSearch$Items" "groupCount" "I", .fieldLink RX1 19 "PassSearch$Items" "counts" "[I", .methodLink RX1 43 yX1_groupOf, .instanceMethod yX1_groupOf, .selects RX1 yX1_groupOf yX1_groupOf, .initialized RX1, .code yX1_groupOf cX1_groupOf 3 (some .int), .methodLink RX1 32 yX1_hasGroup, .instanceMethod yX1_hasGroup, .selects RX1 yX1_hasGroup yX1_hasGroup, .code yX1_hasGroup cX1_hasGroup 2 (some .boolean), .methodLink RX1 47 yX3_remainder, .static yX3_remainder, .initialized RX3, .code yX3_remainder cX3_remainder 4 (some .long)] ++ wsX10)
def wsX2_init : List Cond := .code yX2_init cX2_init 2 none :: ([.methodLink RX2 3 objectInit, .instanceMethod objectInit, .code objectInit ⟨#[0xb1]⟩ 1 none, .arrayClass .int, .fieldLink RX2 9 "PassSearch$Plan" "sizes" "[I", .arrayClass .long, .fieldLink RX2 15 "PassSearch$Plan" "spans" "[J", .fieldLink RX2 19 "PassSearch$Plan" "bins" "I"] ++ wsX20)
def wsX2_isLaid : List Cond := .code yX2_isLaid cX2_isLaid 1 (some .boolean) :: ([.fieldLink RX2 23 "PassSearch$Plan" "points" "J"] ++ wsX20)
def wsX2_hasPoint : List Cond := .code yX2_hasPoint cX2_hasPoint 3 (some .boolean) :: ([.fieldLink RX2 23 "PassSearch$Plan" "points" "J"] ++ wsX20)
def wsX2_hasPass : List Cond := .code yX2_hasPass cX2_hasPass 2 (some .boolean) :: ([.fieldLink RX2 27 "PassSearch$Plan" "passCount" "I"] ++ wsX20)
def wsX2_passCount : List Cond := .code yX2_passCount cX2_passCount 1 (some .int) :: ([.fieldLink RX2 27 "PassSearch$Plan" "passCount" "I"] ++ wsX20)
def wsX2_sizeOf : List Cond := .code yX2_sizeOf cX2_sizeOf 2 (some .int) :: ([.fieldLink RX2 9 "PassSearch$Plan" "sizes" "[I", .methodLink RX2 30 yX2_hasPass, .instanceMethod yX2_hasPass, .selects RX2 yX2_hasPass yX2_hasPass, .initialized RX2, .code yX2_hasPass cX2_hasPass 2 (some .boolean), .fieldLink RX2 27 "PassSearch$Plan" "passCount" "I"] ++ wsX20)
def wsX2_spanBehind : List Cond := .code yX2_spanBehind cX2_spanBehind 2 (some .long) :: ([.fieldLink RX2 15 "PassSearch$Plan" "spans" "[J", .methodLink RX2 30 yX2_hasPass, .instanceMethod yX2_hasPass, .selects RX2 yX2_hasPass yX2_hasPass, .initialized RX2, .code yX2_hasPass cX2_hasPass 2 (some .boolean), .fieldLink RX2 27 "PassSearch$Plan" "passCount" "I"] ++ wsX20)
def wsX3_quotient : List Cond := .code yX3_quotient cX3_quotient 4 (some .long) :: ([])
def wsX2_binOf : List Cond := .code yX2_binOf cX2_binOf 4 (some .int) :: ([.fieldLink RX2 15 "PassSearch$Plan" "spans" "[J", .fieldLink RX2 9 "PassSearch$Plan" "sizes" "[I", .methodLink RX2 30 yX2_hasPass, .instanceMethod yX2_hasPass, .selects RX2 yX2_hasPass yX2_hasPass, .initialized RX2, .code yX2_hasPass cX2_hasPass 2 (some .boolean), .fieldLink RX2 27 "PassSearch$Plan" "passCount" "I", .methodLink RX2 34 yX3_quotient, .static yX3_quotient, .initialized RX3, .code yX3_quotient cX3_quotient 4 (some .long), .methodLink RX2 40 yX3_remainder, .static yX3_remainder, .code yX3_remainder cX3_remainder 4 (some .long)] ++ wsX20)
def wsX3_product : List Cond := .code yX3_product cX3_product 4 (some .long) :: ([.constantLong RX3 9 (4611686018427387904), .methodLink RX3 11 yX3_quotient, .static yX3_quotient, .initialized RX3, .code yX3_quotient cX3_quotient 4 (some .long)])
def wsX3_leastExponent : List Cond := .code yX3_leastExponent cX3_leastExponent 7 (some .int) :: ([.methodLink RX3 17 yX3_product, .static yX3_product, .initialized RX3, .code yX3_product cX3_product 4 (some .long), .constantLong RX3 9 (4611686018427387904), .methodLink RX3 11 yX3_quotient, .static yX3_quotient, .code yX3_quotient cX3_quotient 4 (some .long)])
def wsX3_power : List Cond := .code yX3_power cX3_power 6 (some .long) :: ([.methodLink RX3 17 yX3_product, .static yX3_product, .initialized RX3, .code yX3_product cX3_product 4 (some .long), .constantLong RX3 9 (4611686018427387904), .methodLink RX3 11 yX3_quotient, .static yX3_quotient, .code yX3_quotient cX3_quotient 4 (some .long)])
def wsX3_leastBase : List Cond := .code yX3_leastBase cX3_leastBase 12 (some .long) :: ([.constantLong RX3 20 (2), .methodLink RX3 22 yX3_power, .static yX3_power, .initialized RX3, .code yX3_power cX3_power 6 (some .long), .methodLink RX3 17 yX3_product, .static yX3_product, .code yX3_product cX3_product 4 (some .long), .constantLong RX3 9 (4611686018427387904), .methodLink RX3 11 yX3_quotient, .static yX3_quotient, .code yX3_quotient cX3_quotient 4 (some .long)])
def wsX3_widestProduct : List Cond := .code yX3_widestProduct cX3_widestProduct 4 (some .long) :: ([.methodLink RX3 11 yX3_quotient, .static yX3_quotient, .initialized RX3, .code yX3_quotient cX3_quotient 4 (some .long), .methodLink RX3 26 yX3_remainder, .static yX3_remainder, .code yX3_remainder cX3_remainder 4 (some .long), .methodLink RX3 22 yX3_power, .static yX3_power, .code yX3_power cX3_power 6 (some .long), .methodLink RX3 17 yX3_product, .static yX3_product, .code yX3_product cX3_product 4 (some .long), .constantLong RX3 9 (4611686018427387904)])
def wsX2_leastSum_r1 : List Cond := [Cond.fieldLink RX2 23 "PassSearch$Plan" "points" "J", Cond.fieldLink RX2 27 "PassSearch$Plan" "passCount" "I", Cond.fieldLink RX2 19 "PassSearch$Plan" "bins" "I", Cond.methodLink RX2 59 Lib.Math.max.name, Cond.static Lib.Math.max.name, Cond.initialized "java/lang/Math", Cond.code Lib.Math.max.name Lib.Math.max.code 2 (some .int), Cond.methodLink RX2 55 yX3_leastBase, Cond.static yX3_leastBase, Cond.initialized RX3, Cond.code yX3_leastBase cX3_leastBase 12 (some .long), Cond.constantLong RX3 20 (2), Cond.methodLink RX3 22 yX3_power, Cond.static yX3_power, Cond.code yX3_power cX3_power 6 (some .long), Cond.methodLink RX3 17 yX3_product, Cond.static yX3_product, Cond.code yX3_product cX3_product 4 (some .long), Cond.constantLong RX3 9 (4611686018427387904), Cond.methodLink RX3 11 yX3_quotient, Cond.static yX3_quotient, Cond.code yX3_quotient cX3_quotient 4 (some .long), Cond.methodLink RX2 64 yX3_widestProduct, Cond.static yX3_widestProduct]
def wsX2_leastSum_r2 : List Cond := [Cond.code yX3_widestProduct cX3_widestProduct 4 (some .long), Cond.methodLink RX3 26 yX3_remainder, Cond.static yX3_remainder, Cond.code yX3_remainder cX3_remainder 4 (some .long)]
def wsX2_leastSum : List Cond := .code yX2_leastSum cX2_leastSum 4 (some .int) :: ((wsX2_leastSum_r1 ++ wsX2_leastSum_r2) ++ wsX20)
def wsX2_isEnough : List Cond := .code yX2_isEnough cX2_isEnough 7 (some .boolean) :: ([.fieldLink RX2 27 "PassSearch$Plan" "passCount" "I", .fieldLink RX2 19 "PassSearch$Plan" "bins" "I", .fieldLink RX2 15 "PassSearch$Plan" "spans" "[J", .fieldLink RX2 23 "PassSearch$Plan" "points" "J", .methodLink RX2 64 yX3_widestProduct, .static yX3_widestProduct, .initialized RX3, .code yX3_widestProduct cX3_widestProduct 4 (some .long), .methodLink RX3 11 yX3_quotient, .static yX3_quotient, .code yX3_quotient cX3_quotient 4 (some .long), .methodLink RX3 26 yX3_remainder, .static yX3_remainder, .code yX3_remainder cX3_remainder 4 (some .long), .methodLink RX3 22 yX3_power, .static yX3_power, .code yX3_power cX3_power 6 (some .long), .methodLink RX3 17 yX3_product, .static yX3_product, .code yX3_product cX3_product 4 (some .long), .constantLong RX3 9 (4611686018427387904), .methodLink RX2 72 yX3_product] ++ wsX20)
def wsX2_leastSize_r1 : List Cond := [Cond.fieldLink RX2 27 "PassSearch$Plan" "passCount" "I", Cond.methodLink RX2 34 yX3_quotient, Cond.static yX3_quotient, Cond.initialized RX3, Cond.code yX3_quotient cX3_quotient 4 (some .long), Cond.methodLink RX2 68 yX2_isEnough, Cond.instanceMethod yX2_isEnough, Cond.selects RX2 yX2_isEnough yX2_isEnough, Cond.initialized RX2, Cond.code yX2_isEnough cX2_isEnough 7 (some .boolean), Cond.fieldLink RX2 19 "PassSearch$Plan" "bins" "I", Cond.fieldLink RX2 15 "PassSearch$Plan" "spans" "[J", Cond.fieldLink RX2 23 "PassSearch$Plan" "points" "J", Cond.methodLink RX2 64 yX3_widestProduct, Cond.static yX3_widestProduct, Cond.code yX3_widestProduct cX3_widestProduct 4 (some .long), Cond.methodLink RX3 11 yX3_quotient, Cond.methodLink RX3 26 yX3_remainder, Cond.static yX3_remainder, Cond.code yX3_remainder cX3_remainder 4 (some .long), Cond.methodLink RX3 22 yX3_power, Cond.static yX3_power, Cond.code yX3_power cX3_power 6 (some .long), Cond.methodLink RX3 17 yX3_product]
def wsX2_leastSize_r2 : List Cond := [Cond.static yX3_product, Cond.code yX3_product cX3_product 4 (some .long), Cond.constantLong RX3 9 (4611686018427387904), Cond.methodLink RX2 72 yX3_product]
def wsX2_leastSize : List Cond := .code yX2_leastSize cX2_leastSize 7 (some .int) :: ((wsX2_leastSize_r1 ++ wsX2_leastSize_r2) ++ wsX20)
def wsX2_lay_r1 : List Cond := [Cond.fieldLink RX2 23 "PassSearch$Plan" "points" "J", Cond.fieldLink RX2 19 "PassSearch$Plan" "bins" "I", Cond.fieldLink RX2 27 "PassSearch$Plan" "passCount" "I", Cond.fieldLink RX2 15 "PassSearch$Plan" "spans" "[J", Cond.fieldLink RX2 9 "PassSearch$Plan" "sizes" "[I", Cond.methodLink RX2 43 yX3_leastExponent, Cond.static yX3_leastExponent, Cond.initialized RX3, Cond.code yX3_leastExponent cX3_leastExponent 7 (some .int), Cond.methodLink RX3 17 yX3_product, Cond.static yX3_product, Cond.code yX3_product cX3_product 4 (some .long), Cond.constantLong RX3 9 (4611686018427387904), Cond.methodLink RX3 11 yX3_quotient, Cond.static yX3_quotient, Cond.code yX3_quotient cX3_quotient 4 (some .long), Cond.methodLink RX2 47 yX2_leastSum, Cond.instanceMethod yX2_leastSum, Cond.selects RX2 yX2_leastSum yX2_leastSum, Cond.initialized RX2, Cond.code yX2_leastSum cX2_leastSum 4 (some .int), Cond.methodLink RX2 59 Lib.Math.max.name, Cond.static Lib.Math.max.name, Cond.initialized "java/lang/Math"]
def wsX2_lay_r2 : List Cond := [Cond.code Lib.Math.max.name Lib.Math.max.code 2 (some .int), Cond.methodLink RX2 55 yX3_leastBase, Cond.static yX3_leastBase, Cond.code yX3_leastBase cX3_leastBase 12 (some .long), Cond.constantLong RX3 20 (2), Cond.methodLink RX3 22 yX3_power, Cond.static yX3_power, Cond.code yX3_power cX3_power 6 (some .long), Cond.methodLink RX2 64 yX3_widestProduct, Cond.static yX3_widestProduct, Cond.code yX3_widestProduct cX3_widestProduct 4 (some .long), Cond.methodLink RX3 26 yX3_remainder, Cond.static yX3_remainder, Cond.code yX3_remainder cX3_remainder 4 (some .long), Cond.methodLink RX2 51 yX2_leastSize, Cond.instanceMethod yX2_leastSize, Cond.selects RX2 yX2_leastSize yX2_leastSize, Cond.code yX2_leastSize cX2_leastSize 7 (some .int), Cond.methodLink RX2 34 yX3_quotient, Cond.methodLink RX2 68 yX2_isEnough, Cond.instanceMethod yX2_isEnough, Cond.selects RX2 yX2_isEnough yX2_isEnough, Cond.code yX2_isEnough cX2_isEnough 7 (some .boolean), Cond.methodLink RX2 72 yX3_product]
def wsX2_lay : List Cond := .code yX2_lay cX2_lay 5 none :: ((wsX2_lay_r1 ++ wsX2_lay_r2) ++ wsX20)
def wsX3_quotientUp : List Cond := .code yX3_quotientUp cX3_quotientUp 2 (some .int) :: ([])
def wsX4_init_r1 : List Cond := [Cond.methodLink RX4 1 objectInit, Cond.instanceMethod objectInit, Cond.code objectInit ⟨#[0xb1]⟩ 1 none, Cond.constant RX4 9 (65536), Cond.methodLink RX4 10 Lib.Math.min.name, Cond.static Lib.Math.min.name, Cond.initialized "java/lang/Math", Cond.code Lib.Math.min.name Lib.Math.min.code 2 (some .int), Cond.methodLink RX4 16 Lib.Math.max.name, Cond.static Lib.Math.max.name, Cond.code Lib.Math.max.name Lib.Math.max.code 2 (some .int), Cond.fieldLink RX4 19 "PassSearch" "bins" "I", Cond.classLink RX4 23 RX2, Cond.instantiable RX2 5, Cond.initialized RX2, Cond.fieldLink RX4 28 "PassSearch" "plan" "LPassSearch$Plan;", Cond.classLink RX4 32 RX1, Cond.instantiable RX1 6, Cond.initialized RX1, Cond.fieldLink RX4 35 "PassSearch" "items" "LPassSearch$Items;", Cond.classLink RX4 39 RX0, Cond.instantiable RX0 4, Cond.initialized RX0, Cond.fieldLink RX4 42 "PassSearch" "heights" "LPassSearch$BinTable;"]
def wsX4_init_r2 : List Cond := [Cond.fieldLink RX4 46 "PassSearch" "tally" "LPassSearch$BinTable;", Cond.methodLink RX4 25 yX2_init, Cond.instanceMethod yX2_init, Cond.code yX2_init cX2_init 2 none, Cond.methodLink RX2 3 objectInit, Cond.arrayClass .int, Cond.fieldLink RX2 9 "PassSearch$Plan" "sizes" "[I", Cond.arrayClass .long, Cond.fieldLink RX2 15 "PassSearch$Plan" "spans" "[J", Cond.fieldLink RX2 19 "PassSearch$Plan" "bins" "I", Cond.instanceMethod yX1_init, Cond.code yX1_init cX1_init 1 none, Cond.methodLink RX1 3 objectInit, Cond.fieldLink RX1 9 "PassSearch$Items" "points" "[J", Cond.fieldLink RX1 15 "PassSearch$Items" "firsts" "[I", Cond.fieldLink RX1 19 "PassSearch$Items" "counts" "[I", Cond.fieldLink RX1 22 "PassSearch$Items" "sorted" "[I", Cond.instanceMethod yX0_init, Cond.code yX0_init cX0_init 1 none, Cond.methodLink RX0 5 objectInit, Cond.fieldLink RX0 11 "PassSearch$BinTable" "marks" "[I", Cond.fieldLink RX0 15 "PassSearch$BinTable" "values" "[I", Cond.fieldLink RX0 18 "PassSearch$BinTable" "taken" "[I"]
def wsX4_init : List Cond := .code yX4_init cX4_init 2 none :: ((wsX4_init_r1 ++ wsX4_init_r2) ++ wsX40 ++ wsX20 ++ wsX10 ++ wsX00)
def wsX4_isRound : List Cond := .code yX4_isRound cX4_isRound 2 (some .boolean) :: ([.constantLong RX4 147 (4611686018427387904)])
def wsX4_passes_r1 : List Cond := [Cond.classLink RX4 49 "java/lang/IllegalArgumentException", Cond.initialized "java/lang/IllegalArgumentException", Cond.fieldLink RX4 19 "PassSearch" "bins" "I", Cond.fieldLink RX4 28 "PassSearch" "plan" "LPassSearch$Plan;", Cond.fieldLink RX4 35 "PassSearch" "items" "LPassSearch$Items;", Cond.methodLink RX4 56 yX4_isRound, Cond.static yX4_isRound, Cond.initialized RX4, Cond.code yX4_isRound cX4_isRound 2 (some .boolean), Cond.constantLong RX4 147 (4611686018427387904), Cond.methodLink RX4 60 yX2_lay, Cond.instanceMethod yX2_lay, Cond.selects RX2 yX2_lay yX2_lay, Cond.initialized RX2, Cond.code yX2_lay cX2_lay 5 none, Cond.fieldLink RX2 23 "PassSearch$Plan" "points" "J", Cond.fieldLink RX2 19 "PassSearch$Plan" "bins" "I", Cond.fieldLink RX2 27 "PassSearch$Plan" "passCount" "I", Cond.fieldLink RX2 15 "PassSearch$Plan" "spans" "[J", Cond.fieldLink RX2 9 "PassSearch$Plan" "sizes" "[I", Cond.methodLink RX2 43 yX3_leastExponent, Cond.static yX3_leastExponent, Cond.initialized RX3, Cond.code yX3_leastExponent cX3_leastExponent 7 (some .int)]
def wsX4_passes_r2 : List Cond := [Cond.methodLink RX3 17 yX3_product, Cond.static yX3_product, Cond.code yX3_product cX3_product 4 (some .long), Cond.constantLong RX3 9 (4611686018427387904), Cond.methodLink RX3 11 yX3_quotient, Cond.static yX3_quotient, Cond.code yX3_quotient cX3_quotient 4 (some .long), Cond.methodLink RX2 47 yX2_leastSum, Cond.instanceMethod yX2_leastSum, Cond.selects RX2 yX2_leastSum yX2_leastSum, Cond.code yX2_leastSum cX2_leastSum 4 (some .int), Cond.methodLink RX2 59 Lib.Math.max.name, Cond.static Lib.Math.max.name, Cond.initialized "java/lang/Math", Cond.code Lib.Math.max.name Lib.Math.max.code 2 (some .int), Cond.methodLink RX2 55 yX3_leastBase, Cond.static yX3_leastBase, Cond.code yX3_leastBase cX3_leastBase 12 (some .long), Cond.constantLong RX3 20 (2), Cond.methodLink RX3 22 yX3_power, Cond.static yX3_power, Cond.code yX3_power cX3_power 6 (some .long), Cond.methodLink RX2 64 yX3_widestProduct, Cond.static yX3_widestProduct]
def wsX4_passes_r3 : List Cond := [Cond.code yX3_widestProduct cX3_widestProduct 4 (some .long), Cond.methodLink RX3 26 yX3_remainder, Cond.static yX3_remainder, Cond.code yX3_remainder cX3_remainder 4 (some .long), Cond.methodLink RX2 51 yX2_leastSize, Cond.instanceMethod yX2_leastSize, Cond.selects RX2 yX2_leastSize yX2_leastSize, Cond.code yX2_leastSize cX2_leastSize 7 (some .int), Cond.methodLink RX2 34 yX3_quotient, Cond.methodLink RX2 68 yX2_isEnough, Cond.instanceMethod yX2_isEnough, Cond.selects RX2 yX2_isEnough yX2_isEnough, Cond.code yX2_isEnough cX2_isEnough 7 (some .boolean), Cond.methodLink RX2 72 yX3_product, Cond.methodLink RX4 64 yX1_clear, Cond.instanceMethod yX1_clear, Cond.selects RX1 yX1_clear yX1_clear, Cond.initialized RX1, Cond.code yX1_clear cX1_clear 1 none, Cond.fieldLink RX1 25 "PassSearch$Items" "groupCount" "I", Cond.fieldLink RX1 29 "PassSearch$Items" "total" "I", Cond.methodLink RX4 67 yX2_passCount, Cond.instanceMethod yX2_passCount, Cond.selects RX2 yX2_passCount yX2_passCount]
def wsX4_passes_r4 : List Cond := [Cond.code yX2_passCount cX2_passCount 1 (some .int)]
def wsX4_passes : List Cond := .code yX4_passes cX4_passes 3 (some .int) :: ((wsX4_passes_r1 ++ (wsX4_passes_r2 ++ (wsX4_passes_r3 ++ wsX4_passes_r4))) ++ wsX40 ++ wsX20 ++ wsX10 ++ (vx_atS RX4 53 "java/lang/IllegalArgumentException" ["java/lang/RuntimeException", "java/lang/Exception"]).filter goodWord)
def wsX4_isUnknownPoint : List Cond := .code yX4_isUnknownPoint cX4_isUnknownPoint 3 (some .boolean) :: ([.fieldLink RX4 28 "PassSearch" "plan" "LPassSearch$Plan;", .methodLink RX4 78 yX2_isLaid, .instanceMethod yX2_isLaid, .selects RX2 yX2_isLaid yX2_isLaid, .initialized RX2, .code yX2_isLaid cX2_isLaid 1 (some .boolean), .fieldLink RX2 23 "PassSearch$Plan" "points" "J", .methodLink RX4 149 yX2_hasPoint, .instanceMethod yX2_hasPoint, .selects RX2 yX2_hasPoint yX2_hasPoint, .code yX2_hasPoint cX2_hasPoint 3 (some .boolean)] ++ wsX40 ++ wsX20)
def wsX4_isUnknownPass : List Cond := .code yX4_isUnknownPass cX4_isUnknownPass 2 (some .boolean) :: ([.fieldLink RX4 28 "PassSearch" "plan" "LPassSearch$Plan;", .methodLink RX4 78 yX2_isLaid, .instanceMethod yX2_isLaid, .selects RX2 yX2_isLaid yX2_isLaid, .initialized RX2, .code yX2_isLaid cX2_isLaid 1 (some .boolean), .fieldLink RX2 23 "PassSearch$Plan" "points" "J", .methodLink RX4 132 yX2_hasPass, .instanceMethod yX2_hasPass, .selects RX2 yX2_hasPass yX2_hasPass, .code yX2_hasPass cX2_hasPass 2 (some .boolean), .fieldLink RX2 27 "PassSearch$Plan" "passCount" "I"] ++ wsX40 ++ wsX20)
def wsX4_digit_r1 : List Cond := [Cond.fieldLink RX4 28 "PassSearch" "plan" "LPassSearch$Plan;", Cond.methodLink RX4 71 yX4_isUnknownPoint, Cond.instanceMethod yX4_isUnknownPoint, Cond.selects RX4 yX4_isUnknownPoint yX4_isUnknownPoint, Cond.initialized RX4, Cond.code yX4_isUnknownPoint cX4_isUnknownPoint 3 (some .boolean), Cond.methodLink RX4 78 yX2_isLaid, Cond.instanceMethod yX2_isLaid, Cond.selects RX2 yX2_isLaid yX2_isLaid, Cond.initialized RX2, Cond.code yX2_isLaid cX2_isLaid 1 (some .boolean), Cond.fieldLink RX2 23 "PassSearch$Plan" "points" "J", Cond.methodLink RX4 149 yX2_hasPoint, Cond.instanceMethod yX2_hasPoint, Cond.selects RX2 yX2_hasPoint yX2_hasPoint, Cond.code yX2_hasPoint cX2_hasPoint 3 (some .boolean), Cond.methodLink RX4 74 yX4_isUnknownPass, Cond.instanceMethod yX4_isUnknownPass, Cond.selects RX4 yX4_isUnknownPass yX4_isUnknownPass, Cond.code yX4_isUnknownPass cX4_isUnknownPass 2 (some .boolean), Cond.methodLink RX4 132 yX2_hasPass, Cond.instanceMethod yX2_hasPass, Cond.selects RX2 yX2_hasPass yX2_hasPass, Cond.code yX2_hasPass cX2_hasPass 2 (some .boolean)]
def wsX4_digit_r2 : List Cond := [Cond.fieldLink RX2 27 "PassSearch$Plan" "passCount" "I", Cond.methodLink RX4 82 yX2_binOf, Cond.instanceMethod yX2_binOf, Cond.selects RX2 yX2_binOf yX2_binOf, Cond.code yX2_binOf cX2_binOf 4 (some .int), Cond.fieldLink RX2 15 "PassSearch$Plan" "spans" "[J", Cond.fieldLink RX2 9 "PassSearch$Plan" "sizes" "[I", Cond.methodLink RX2 30 yX2_hasPass, Cond.methodLink RX2 34 yX3_quotient, Cond.static yX3_quotient, Cond.initialized RX3, Cond.code yX3_quotient cX3_quotient 4 (some .long), Cond.methodLink RX2 40 yX3_remainder, Cond.static yX3_remainder, Cond.code yX3_remainder cX3_remainder 4 (some .long)]
def wsX4_digit : List Cond := .code yX4_digit cX4_digit 4 (some .int) :: ((wsX4_digit_r1 ++ wsX4_digit_r2) ++ wsX40 ++ wsX20)
def wsX4_best : List Cond := .code yX4_best cX4_best 6 (some .int) :: ([.constantLong RX4 88 (2147483647), .methodLink RX4 56 yX4_isRound, .static yX4_isRound, .initialized RX4, .code yX4_isRound cX4_isRound 2 (some .boolean), .constantLong RX4 147 (4611686018427387904), .methodLink RX4 90 yX3_leastBase, .static yX3_leastBase, .initialized RX3, .code yX3_leastBase cX3_leastBase 12 (some .long), .constantLong RX3 20 (2), .methodLink RX3 22 yX3_power, .static yX3_power, .code yX3_power cX3_power 6 (some .long), .methodLink RX3 17 yX3_product, .static yX3_product, .code yX3_product cX3_product 4 (some .long), .constantLong RX3 9 (4611686018427387904), .methodLink RX3 11 yX3_quotient, .static yX3_quotient, .code yX3_quotient cX3_quotient 4 (some .long)])
def wsX4_volume_r1 : List Cond := [Cond.fieldLink RX4 28 "PassSearch" "plan" "LPassSearch$Plan;", Cond.fieldLink RX4 35 "PassSearch" "items" "LPassSearch$Items;", Cond.methodLink RX4 71 yX4_isUnknownPoint, Cond.instanceMethod yX4_isUnknownPoint, Cond.selects RX4 yX4_isUnknownPoint yX4_isUnknownPoint, Cond.initialized RX4, Cond.code yX4_isUnknownPoint cX4_isUnknownPoint 3 (some .boolean), Cond.methodLink RX4 78 yX2_isLaid, Cond.instanceMethod yX2_isLaid, Cond.selects RX2 yX2_isLaid yX2_isLaid, Cond.initialized RX2, Cond.code yX2_isLaid cX2_isLaid 1 (some .boolean), Cond.fieldLink RX2 23 "PassSearch$Plan" "points" "J", Cond.methodLink RX4 149 yX2_hasPoint, Cond.instanceMethod yX2_hasPoint, Cond.selects RX2 yX2_hasPoint yX2_hasPoint, Cond.code yX2_hasPoint cX2_hasPoint 3 (some .boolean), Cond.methodLink RX4 96 yX1_hasRoom, Cond.instanceMethod yX1_hasRoom, Cond.selects RX1 yX1_hasRoom yX1_hasRoom, Cond.initialized RX1, Cond.code yX1_hasRoom cX1_hasRoom 2 (some .boolean), Cond.fieldLink RX1 29 "PassSearch$Items" "total" "I", Cond.fieldLink RX1 25 "PassSearch$Items" "groupCount" "I"]
def wsX4_volume_r2 : List Cond := [Cond.methodLink RX4 99 yX1_add, Cond.instanceMethod yX1_add, Cond.selects RX1 yX1_add yX1_add, Cond.code yX1_add cX1_add 4 none, Cond.fieldLink RX1 9 "PassSearch$Items" "points" "[J", Cond.fieldLink RX1 15 "PassSearch$Items" "firsts" "[I", Cond.fieldLink RX1 19 "PassSearch$Items" "counts" "[I", Cond.methodLink RX1 36 yX1_hasRoom, Cond.methodLink RX1 39 yX1_putSorted, Cond.instanceMethod yX1_putSorted, Cond.selects RX1 yX1_putSorted yX1_putSorted, Cond.code yX1_putSorted cX1_putSorted 3 none, Cond.fieldLink RX1 22 "PassSearch$Items" "sorted" "[I", Cond.methodLink RX4 103 yX1_total, Cond.instanceMethod yX1_total, Cond.selects RX1 yX1_total yX1_total, Cond.code yX1_total cX1_total 1 (some .int)]
def wsX4_volume : List Cond := .code yX4_volume cX4_volume 4 (some .int) :: ((wsX4_volume_r1 ++ wsX4_volume_r2) ++ wsX40 ++ wsX20 ++ wsX10)
def wsX4_heightOf : List Cond := .code yX4_heightOf cX4_heightOf 3 (some .int) :: ([.fieldLink RX4 42 "PassSearch" "heights" "LPassSearch$BinTable;", .methodLink RX4 152 yX0_valueOf, .instanceMethod yX0_valueOf, .selects RX0 yX0_valueOf yX0_valueOf, .initialized RX0, .code yX0_valueOf cX0_valueOf 3 (some .int), .fieldLink RX0 11 "PassSearch$BinTable" "marks" "[I", .fieldLink RX0 15 "PassSearch$BinTable" "values" "[I", .methodLink RX0 25 yX0_slotOf, .instanceMethod yX0_slotOf, .selects RX0 yX0_slotOf yX0_slotOf, .code yX0_slotOf cX0_slotOf 4 (some .int), .constant RX0 29 (-1640531535)] ++ wsX40 ++ wsX00)
def wsX4_height_r1 : List Cond := [Cond.fieldLink RX4 19 "PassSearch" "bins" "I", Cond.constant RX4 106 (100000), Cond.fieldLink RX4 42 "PassSearch" "heights" "LPassSearch$BinTable;", Cond.methodLink RX4 107 yX4_heightOf, Cond.instanceMethod yX4_heightOf, Cond.selects RX4 yX4_heightOf yX4_heightOf, Cond.initialized RX4, Cond.code yX4_heightOf cX4_heightOf 3 (some .int), Cond.methodLink RX4 152 yX0_valueOf, Cond.instanceMethod yX0_valueOf, Cond.selects RX0 yX0_valueOf yX0_valueOf, Cond.initialized RX0, Cond.code yX0_valueOf cX0_valueOf 3 (some .int), Cond.fieldLink RX0 11 "PassSearch$BinTable" "marks" "[I", Cond.fieldLink RX0 15 "PassSearch$BinTable" "values" "[I", Cond.methodLink RX0 25 yX0_slotOf, Cond.instanceMethod yX0_slotOf, Cond.selects RX0 yX0_slotOf yX0_slotOf, Cond.code yX0_slotOf cX0_slotOf 4 (some .int), Cond.constant RX0 29 (-1640531535), Cond.methodLink RX4 111 yX0_put, Cond.instanceMethod yX0_put, Cond.selects RX0 yX0_put yX0_put, Cond.code yX0_put cX0_put 4 (some .boolean)]
def wsX4_height_r2 : List Cond := [Cond.fieldLink RX0 21 "PassSearch$BinTable" "size" "I", Cond.fieldLink RX0 18 "PassSearch$BinTable" "taken" "[I"]
def wsX4_height : List Cond := .code yX4_height cX4_height 4 (some .int) :: ((wsX4_height_r1 ++ wsX4_height_r2) ++ wsX40 ++ wsX00)
def wsX4_traysOfPass_r1 : List Cond := [Cond.fieldLink RX4 46 "PassSearch" "tally" "LPassSearch$BinTable;", Cond.fieldLink RX4 35 "PassSearch" "items" "LPassSearch$Items;", Cond.fieldLink RX4 28 "PassSearch" "plan" "LPassSearch$Plan;", Cond.methodLink RX4 155 yX0_clear, Cond.instanceMethod yX0_clear, Cond.selects RX0 yX0_clear yX0_clear, Cond.initialized RX0, Cond.code yX0_clear cX0_clear 2 none, Cond.fieldLink RX0 21 "PassSearch$BinTable" "size" "I", Cond.fieldLink RX0 11 "PassSearch$BinTable" "marks" "[I", Cond.fieldLink RX0 18 "PassSearch$BinTable" "taken" "[I", Cond.methodLink RX4 156 yX1_groupCount, Cond.instanceMethod yX1_groupCount, Cond.selects RX1 yX1_groupCount yX1_groupCount, Cond.initialized RX1, Cond.code yX1_groupCount cX1_groupCount 1 (some .int), Cond.fieldLink RX1 25 "PassSearch$Items" "groupCount" "I", Cond.methodLink RX4 159 yX1_pointOf, Cond.instanceMethod yX1_pointOf, Cond.selects RX1 yX1_pointOf yX1_pointOf, Cond.code yX1_pointOf cX1_pointOf 2 (some .long), Cond.fieldLink RX1 9 "PassSearch$Items" "points" "[J", Cond.methodLink RX1 32 yX1_hasGroup, Cond.instanceMethod yX1_hasGroup]
def wsX4_traysOfPass_r2 : List Cond := [Cond.selects RX1 yX1_hasGroup yX1_hasGroup, Cond.code yX1_hasGroup cX1_hasGroup 2 (some .boolean), Cond.methodLink RX4 82 yX2_binOf, Cond.instanceMethod yX2_binOf, Cond.selects RX2 yX2_binOf yX2_binOf, Cond.initialized RX2, Cond.code yX2_binOf cX2_binOf 4 (some .int), Cond.fieldLink RX2 15 "PassSearch$Plan" "spans" "[J", Cond.fieldLink RX2 9 "PassSearch$Plan" "sizes" "[I", Cond.methodLink RX2 30 yX2_hasPass, Cond.instanceMethod yX2_hasPass, Cond.selects RX2 yX2_hasPass yX2_hasPass, Cond.code yX2_hasPass cX2_hasPass 2 (some .boolean), Cond.fieldLink RX2 27 "PassSearch$Plan" "passCount" "I", Cond.methodLink RX2 34 yX3_quotient, Cond.static yX3_quotient, Cond.initialized RX3, Cond.code yX3_quotient cX3_quotient 4 (some .long), Cond.methodLink RX2 40 yX3_remainder, Cond.static yX3_remainder, Cond.code yX3_remainder cX3_remainder 4 (some .long), Cond.methodLink RX4 152 yX0_valueOf, Cond.instanceMethod yX0_valueOf, Cond.selects RX0 yX0_valueOf yX0_valueOf]
def wsX4_traysOfPass_r3 : List Cond := [Cond.code yX0_valueOf cX0_valueOf 3 (some .int), Cond.fieldLink RX0 15 "PassSearch$BinTable" "values" "[I", Cond.methodLink RX0 25 yX0_slotOf, Cond.instanceMethod yX0_slotOf, Cond.selects RX0 yX0_slotOf yX0_slotOf, Cond.code yX0_slotOf cX0_slotOf 4 (some .int), Cond.constant RX0 29 (-1640531535), Cond.methodLink RX4 162 yX1_countOf, Cond.instanceMethod yX1_countOf, Cond.selects RX1 yX1_countOf yX1_countOf, Cond.code yX1_countOf cX1_countOf 2 (some .int), Cond.fieldLink RX1 19 "PassSearch$Items" "counts" "[I", Cond.methodLink RX4 111 yX0_put, Cond.instanceMethod yX0_put, Cond.selects RX0 yX0_put yX0_put, Cond.code yX0_put cX0_put 4 (some .boolean), Cond.methodLink RX4 165 yX0_size, Cond.instanceMethod yX0_size, Cond.selects RX0 yX0_size yX0_size, Cond.code yX0_size cX0_size 1 (some .int), Cond.methodLink RX4 168 yX0_valueAt, Cond.instanceMethod yX0_valueAt, Cond.selects RX0 yX0_valueAt yX0_valueAt, Cond.code yX0_valueAt cX0_valueAt 2 (some .int)]
def wsX4_traysOfPass_r4 : List Cond := [Cond.methodLink RX4 171 yX0_binAt, Cond.instanceMethod yX0_binAt, Cond.selects RX0 yX0_binAt yX0_binAt, Cond.code yX0_binAt cX0_binAt 2 (some .int), Cond.methodLink RX4 107 yX4_heightOf, Cond.instanceMethod yX4_heightOf, Cond.selects RX4 yX4_heightOf yX4_heightOf, Cond.initialized RX4, Cond.code yX4_heightOf cX4_heightOf 3 (some .int), Cond.fieldLink RX4 42 "PassSearch" "heights" "LPassSearch$BinTable;", Cond.methodLink RX4 174 yX3_quotientUp, Cond.static yX3_quotientUp, Cond.code yX3_quotientUp cX3_quotientUp 2 (some .int)]
def wsX4_traysOfPass : List Cond := .code yX4_traysOfPass cX4_traysOfPass 4 (some .int) :: ((wsX4_traysOfPass_r1 ++ (wsX4_traysOfPass_r2 ++ (wsX4_traysOfPass_r3 ++ wsX4_traysOfPass_r4))) ++ wsX40 ++ wsX00 ++ wsX10 ++ wsX20)
def wsX4_trays_r1 : List Cond := [Cond.fieldLink RX4 28 "PassSearch" "plan" "LPassSearch$Plan;", Cond.methodLink RX4 78 yX2_isLaid, Cond.instanceMethod yX2_isLaid, Cond.selects RX2 yX2_isLaid yX2_isLaid, Cond.initialized RX2, Cond.code yX2_isLaid cX2_isLaid 1 (some .boolean), Cond.fieldLink RX2 23 "PassSearch$Plan" "points" "J", Cond.methodLink RX4 67 yX2_passCount, Cond.instanceMethod yX2_passCount, Cond.selects RX2 yX2_passCount yX2_passCount, Cond.code yX2_passCount cX2_passCount 1 (some .int), Cond.fieldLink RX2 27 "PassSearch$Plan" "passCount" "I", Cond.methodLink RX4 115 yX4_traysOfPass, Cond.instanceMethod yX4_traysOfPass, Cond.selects RX4 yX4_traysOfPass yX4_traysOfPass, Cond.initialized RX4, Cond.code yX4_traysOfPass cX4_traysOfPass 4 (some .int), Cond.fieldLink RX4 46 "PassSearch" "tally" "LPassSearch$BinTable;", Cond.fieldLink RX4 35 "PassSearch" "items" "LPassSearch$Items;", Cond.methodLink RX4 155 yX0_clear, Cond.instanceMethod yX0_clear, Cond.selects RX0 yX0_clear yX0_clear, Cond.initialized RX0, Cond.code yX0_clear cX0_clear 2 none]
def wsX4_trays_r2 : List Cond := [Cond.fieldLink RX0 21 "PassSearch$BinTable" "size" "I", Cond.fieldLink RX0 11 "PassSearch$BinTable" "marks" "[I", Cond.fieldLink RX0 18 "PassSearch$BinTable" "taken" "[I", Cond.methodLink RX4 156 yX1_groupCount, Cond.instanceMethod yX1_groupCount, Cond.selects RX1 yX1_groupCount yX1_groupCount, Cond.initialized RX1, Cond.code yX1_groupCount cX1_groupCount 1 (some .int), Cond.fieldLink RX1 25 "PassSearch$Items" "groupCount" "I", Cond.methodLink RX4 159 yX1_pointOf, Cond.instanceMethod yX1_pointOf, Cond.selects RX1 yX1_pointOf yX1_pointOf, Cond.code yX1_pointOf cX1_pointOf 2 (some .long), Cond.fieldLink RX1 9 "PassSearch$Items" "points" "[J", Cond.methodLink RX1 32 yX1_hasGroup, Cond.instanceMethod yX1_hasGroup, Cond.selects RX1 yX1_hasGroup yX1_hasGroup, Cond.code yX1_hasGroup cX1_hasGroup 2 (some .boolean), Cond.methodLink RX4 82 yX2_binOf, Cond.instanceMethod yX2_binOf, Cond.selects RX2 yX2_binOf yX2_binOf, Cond.code yX2_binOf cX2_binOf 4 (some .int), Cond.fieldLink RX2 15 "PassSearch$Plan" "spans" "[J", Cond.fieldLink RX2 9 "PassSearch$Plan" "sizes" "[I"]
def wsX4_trays_r3 : List Cond := [Cond.methodLink RX2 30 yX2_hasPass, Cond.instanceMethod yX2_hasPass, Cond.selects RX2 yX2_hasPass yX2_hasPass, Cond.code yX2_hasPass cX2_hasPass 2 (some .boolean), Cond.methodLink RX2 34 yX3_quotient, Cond.static yX3_quotient, Cond.initialized RX3, Cond.code yX3_quotient cX3_quotient 4 (some .long), Cond.methodLink RX2 40 yX3_remainder, Cond.static yX3_remainder, Cond.code yX3_remainder cX3_remainder 4 (some .long), Cond.methodLink RX4 152 yX0_valueOf, Cond.instanceMethod yX0_valueOf, Cond.selects RX0 yX0_valueOf yX0_valueOf, Cond.code yX0_valueOf cX0_valueOf 3 (some .int), Cond.fieldLink RX0 15 "PassSearch$BinTable" "values" "[I", Cond.methodLink RX0 25 yX0_slotOf, Cond.instanceMethod yX0_slotOf, Cond.selects RX0 yX0_slotOf yX0_slotOf, Cond.code yX0_slotOf cX0_slotOf 4 (some .int), Cond.constant RX0 29 (-1640531535), Cond.methodLink RX4 162 yX1_countOf, Cond.instanceMethod yX1_countOf, Cond.selects RX1 yX1_countOf yX1_countOf]
def wsX4_trays_r4 : List Cond := [Cond.code yX1_countOf cX1_countOf 2 (some .int), Cond.fieldLink RX1 19 "PassSearch$Items" "counts" "[I", Cond.methodLink RX4 111 yX0_put, Cond.instanceMethod yX0_put, Cond.selects RX0 yX0_put yX0_put, Cond.code yX0_put cX0_put 4 (some .boolean), Cond.methodLink RX4 165 yX0_size, Cond.instanceMethod yX0_size, Cond.selects RX0 yX0_size yX0_size, Cond.code yX0_size cX0_size 1 (some .int), Cond.methodLink RX4 168 yX0_valueAt, Cond.instanceMethod yX0_valueAt, Cond.selects RX0 yX0_valueAt yX0_valueAt, Cond.code yX0_valueAt cX0_valueAt 2 (some .int), Cond.methodLink RX4 171 yX0_binAt, Cond.instanceMethod yX0_binAt, Cond.selects RX0 yX0_binAt yX0_binAt, Cond.code yX0_binAt cX0_binAt 2 (some .int), Cond.methodLink RX4 107 yX4_heightOf, Cond.instanceMethod yX4_heightOf, Cond.selects RX4 yX4_heightOf yX4_heightOf, Cond.code yX4_heightOf cX4_heightOf 3 (some .int), Cond.fieldLink RX4 42 "PassSearch" "heights" "LPassSearch$BinTable;", Cond.methodLink RX4 174 yX3_quotientUp]
def wsX4_trays_r5 : List Cond := [Cond.static yX3_quotientUp, Cond.code yX3_quotientUp cX3_quotientUp 2 (some .int)]
def wsX4_trays : List Cond := .code yX4_trays cX4_trays 3 (some .int) :: ((wsX4_trays_r1 ++ (wsX4_trays_r2 ++ (wsX4_trays_r3 ++ (wsX4_trays_r4 ++ wsX4_trays_r5)))) ++ wsX40 ++ wsX20 ++ wsX00 ++ wsX10)
def wsX4_isUnknownItem : List Cond := .code yX4_isUnknownItem cX4_isUnknownItem 2 (some .boolean) :: ([.fieldLink RX4 28 "PassSearch" "plan" "LPassSearch$Plan;", .fieldLink RX4 35 "PassSearch" "items" "LPassSearch$Items;", .methodLink RX4 78 yX2_isLaid, .instanceMethod yX2_isLaid, .selects RX2 yX2_isLaid yX2_isLaid, .initialized RX2, .code yX2_isLaid cX2_isLaid 1 (some .boolean), .fieldLink RX2 23 "PassSearch$Plan" "points" "J", .methodLink RX4 103 yX1_total, .instanceMethod yX1_total, .selects RX1 yX1_total yX1_total, .initialized RX1, .code yX1_total cX1_total 1 (some .int), .fieldLink RX1 29 "PassSearch$Items" "total" "I"] ++ wsX40 ++ wsX20 ++ wsX10)
def wsX4_sort_r1 : List Cond := [Cond.fieldLink RX4 28 "PassSearch" "plan" "LPassSearch$Plan;", Cond.fieldLink RX4 35 "PassSearch" "items" "LPassSearch$Items;", Cond.methodLink RX4 118 yX4_isUnknownItem, Cond.instanceMethod yX4_isUnknownItem, Cond.selects RX4 yX4_isUnknownItem yX4_isUnknownItem, Cond.initialized RX4, Cond.code yX4_isUnknownItem cX4_isUnknownItem 2 (some .boolean), Cond.methodLink RX4 78 yX2_isLaid, Cond.instanceMethod yX2_isLaid, Cond.selects RX2 yX2_isLaid yX2_isLaid, Cond.initialized RX2, Cond.code yX2_isLaid cX2_isLaid 1 (some .boolean), Cond.fieldLink RX2 23 "PassSearch$Plan" "points" "J", Cond.methodLink RX4 103 yX1_total, Cond.instanceMethod yX1_total, Cond.selects RX1 yX1_total yX1_total, Cond.initialized RX1, Cond.code yX1_total cX1_total 1 (some .int), Cond.fieldLink RX1 29 "PassSearch$Items" "total" "I", Cond.methodLink RX4 74 yX4_isUnknownPass, Cond.instanceMethod yX4_isUnknownPass, Cond.selects RX4 yX4_isUnknownPass yX4_isUnknownPass, Cond.code yX4_isUnknownPass cX4_isUnknownPass 2 (some .boolean), Cond.methodLink RX4 132 yX2_hasPass]
def wsX4_sort_r2 : List Cond := [Cond.instanceMethod yX2_hasPass, Cond.selects RX2 yX2_hasPass yX2_hasPass, Cond.code yX2_hasPass cX2_hasPass 2 (some .boolean), Cond.fieldLink RX2 27 "PassSearch$Plan" "passCount" "I", Cond.methodLink RX4 121 yX2_spanBehind, Cond.instanceMethod yX2_spanBehind, Cond.selects RX2 yX2_spanBehind yX2_spanBehind, Cond.code yX2_spanBehind cX2_spanBehind 2 (some .long), Cond.fieldLink RX2 15 "PassSearch$Plan" "spans" "[J", Cond.methodLink RX2 30 yX2_hasPass, Cond.methodLink RX4 125 yX1_placeOf, Cond.instanceMethod yX1_placeOf, Cond.selects RX1 yX1_placeOf yX1_placeOf, Cond.code yX1_placeOf cX1_placeOf 11 (some .int), Cond.fieldLink RX1 9 "PassSearch$Items" "points" "[J", Cond.fieldLink RX1 15 "PassSearch$Items" "firsts" "[I", Cond.fieldLink RX1 25 "PassSearch$Items" "groupCount" "I", Cond.fieldLink RX1 19 "PassSearch$Items" "counts" "[I", Cond.methodLink RX1 43 yX1_groupOf, Cond.instanceMethod yX1_groupOf, Cond.selects RX1 yX1_groupOf yX1_groupOf, Cond.code yX1_groupOf cX1_groupOf 3 (some .int), Cond.methodLink RX1 32 yX1_hasGroup, Cond.instanceMethod yX1_hasGroup]
def wsX4_sort_r3 : List Cond := [Cond.selects RX1 yX1_hasGroup yX1_hasGroup, Cond.code yX1_hasGroup cX1_hasGroup 2 (some .boolean), Cond.methodLink RX1 47 yX3_remainder, Cond.static yX3_remainder, Cond.initialized RX3, Cond.code yX3_remainder cX3_remainder 4 (some .long)]
def wsX4_sort : List Cond := .code yX4_sort cX4_sort 3 (some .int) :: ((wsX4_sort_r1 ++ (wsX4_sort_r2 ++ wsX4_sort_r3)) ++ wsX40 ++ wsX20 ++ wsX10)
def wsX4_order_r1 : List Cond := [Cond.fieldLink RX4 28 "PassSearch" "plan" "LPassSearch$Plan;", Cond.fieldLink RX4 35 "PassSearch" "items" "LPassSearch$Items;", Cond.methodLink RX4 118 yX4_isUnknownItem, Cond.instanceMethod yX4_isUnknownItem, Cond.selects RX4 yX4_isUnknownItem yX4_isUnknownItem, Cond.initialized RX4, Cond.code yX4_isUnknownItem cX4_isUnknownItem 2 (some .boolean), Cond.methodLink RX4 78 yX2_isLaid, Cond.instanceMethod yX2_isLaid, Cond.selects RX2 yX2_isLaid yX2_isLaid, Cond.initialized RX2, Cond.code yX2_isLaid cX2_isLaid 1 (some .boolean), Cond.fieldLink RX2 23 "PassSearch$Plan" "points" "J", Cond.methodLink RX4 103 yX1_total, Cond.instanceMethod yX1_total, Cond.selects RX1 yX1_total yX1_total, Cond.initialized RX1, Cond.code yX1_total cX1_total 1 (some .int), Cond.fieldLink RX1 29 "PassSearch$Items" "total" "I", Cond.methodLink RX4 129 yX1_itemAt, Cond.instanceMethod yX1_itemAt, Cond.selects RX1 yX1_itemAt yX1_itemAt, Cond.code yX1_itemAt cX1_itemAt 5 (some .int), Cond.fieldLink RX1 25 "PassSearch$Items" "groupCount" "I"]
def wsX4_order_r2 : List Cond := [Cond.fieldLink RX1 22 "PassSearch$Items" "sorted" "[I", Cond.fieldLink RX1 19 "PassSearch$Items" "counts" "[I", Cond.fieldLink RX1 15 "PassSearch$Items" "firsts" "[I"]
def wsX4_order : List Cond := .code yX4_order cX4_order 2 (some .int) :: ((wsX4_order_r1 ++ wsX4_order_r2) ++ wsX40 ++ wsX20 ++ wsX10)
def wsX4_digits : List Cond := .code yX4_digits cX4_digits 2 (some .int) :: ([.fieldLink RX4 28 "PassSearch" "plan" "LPassSearch$Plan;", .classLink RX4 135 RJx00060, .instantiable RJx00060 6, .initialized RJx00060, .methodLink RX4 132 yX2_hasPass, .instanceMethod yX2_hasPass, .selects RX2 yX2_hasPass yX2_hasPass, .initialized RX2, .code yX2_hasPass cX2_hasPass 2 (some .boolean), .fieldLink RX2 27 "PassSearch$Plan" "passCount" "I", .methodLink RX4 140 yX2_sizeOf, .instanceMethod yX2_sizeOf, .selects RX2 yX2_sizeOf yX2_sizeOf, .code yX2_sizeOf cX2_sizeOf 2 (some .int), .fieldLink RX2 9 "PassSearch$Plan" "sizes" "[I", .methodLink RX2 30 yX2_hasPass] ++ wsX40 ++ wsJx000600 ++ wsX20)
def wsX4_least : List Cond := .code yX4_least cX4_least 4 (some .boolean) :: ([.fieldLink RX4 19 "PassSearch" "bins" "I", .methodLink RX4 56 yX4_isRound, .static yX4_isRound, .initialized RX4, .code yX4_isRound cX4_isRound 2 (some .boolean), .constantLong RX4 147 (4611686018427387904), .methodLink RX4 143 yX3_leastExponent, .static yX3_leastExponent, .initialized RX3, .code yX3_leastExponent cX3_leastExponent 7 (some .int), .methodLink RX3 17 yX3_product, .static yX3_product, .code yX3_product cX3_product 4 (some .long), .constantLong RX3 9 (4611686018427387904), .methodLink RX3 11 yX3_quotient, .static yX3_quotient, .code yX3_quotient cX3_quotient 4 (some .long)] ++ wsX40)
def wsX5_init : List Cond := .code yX5_init cX5_init 3 none :: ([.methodLink RX5 1 objectInit, .instanceMethod objectInit, .code objectInit ⟨#[0xb1]⟩ 1 none, .constant RX5 7 (65536), .arrayClass .int, .fieldLink RX5 8 "PassSearchModel" "heights" "[I", .fieldLink RX5 14 "PassSearchModel" "in" "[I", .fieldLink RX5 17 "PassSearchModel" "sizes" "[I", .arrayClass .long, .fieldLink RX5 20 "PassSearchModel" "pointOf" "[J", .fieldLink RX5 24 "PassSearchModel" "sorted" "[I", .fieldLink RX5 27 "PassSearchModel" "bins" "I"] ++ wsX50)
def wsX5_thrown : List Cond := .code yX5_thrown cX5_thrown 1 (some .int) :: ([.fieldLink RX5 31 "PassSearchModel" "thrown" "I"] ++ wsX50)
def wsX5_isCount : List Cond := .code yX5_isCount cX5_isCount 2 (some .boolean) :: ([.constantLong RX5 34 (4611686018427387904)])
def wsX5_product : List Cond := .code yX5_product cX5_product 4 (some .long) :: ([.constantLong RX5 34 (4611686018427387904)])
def wsX5_fewest : List Cond := .code yX5_fewest cX5_fewest 6 (some .int) :: ([.methodLink RX5 36 yX5_product, .static yX5_product, .initialized RX5, .code yX5_product cX5_product 4 (some .long), .constantLong RX5 34 (4611686018427387904)])
def wsX5_greatest : List Cond := .code yX5_greatest cX5_greatest 11 (some .long) :: ([.constantLong RX5 40 (2), .methodLink RX5 36 yX5_product, .static yX5_product, .initialized RX5, .code yX5_product cX5_product 4 (some .long), .constantLong RX5 34 (4611686018427387904)])
def wsX5_choose : List Cond := .code yX5_choose cX5_choose 9 none :: ([.constantLong RX5 40 (2), .fieldLink RX5 42 "PassSearchModel" "passes" "I", .constantLong RX5 45 (1048576), .fieldLink RX5 27 "PassSearchModel" "bins" "I", .fieldLink RX5 51 "PassSearchModel" "points" "J", .fieldLink RX5 17 "PassSearchModel" "sizes" "[I", .methodLink RX5 47 yX5_greatest, .static yX5_greatest, .initialized RX5, .code yX5_greatest cX5_greatest 11 (some .long), .methodLink RX5 36 yX5_product, .static yX5_product, .code yX5_product cX5_product 4 (some .long), .constantLong RX5 34 (4611686018427387904)] ++ wsX50)
def wsX5_passes_r1 : List Cond := [Cond.fieldLink RX5 27 "PassSearchModel" "bins" "I", Cond.fieldLink RX5 31 "PassSearchModel" "thrown" "I", Cond.fieldLink RX5 59 "PassSearchModel" "planned" "Z", Cond.fieldLink RX5 51 "PassSearchModel" "points" "J", Cond.fieldLink RX5 63 "PassSearchModel" "items" "I", Cond.fieldLink RX5 42 "PassSearchModel" "passes" "I", Cond.methodLink RX5 55 yX5_isCount, Cond.static yX5_isCount, Cond.initialized RX5, Cond.code yX5_isCount cX5_isCount 2 (some .boolean), Cond.constantLong RX5 34 (4611686018427387904), Cond.methodLink RX5 66 yX5_fewest, Cond.static yX5_fewest, Cond.code yX5_fewest cX5_fewest 6 (some .int), Cond.methodLink RX5 36 yX5_product, Cond.static yX5_product, Cond.code yX5_product cX5_product 4 (some .long), Cond.methodLink RX5 70 yX5_choose, Cond.instanceMethod yX5_choose, Cond.selects RX5 yX5_choose yX5_choose, Cond.code yX5_choose cX5_choose 9 none, Cond.constantLong RX5 40 (2), Cond.constantLong RX5 45 (1048576), Cond.fieldLink RX5 17 "PassSearchModel" "sizes" "[I"]
def wsX5_passes_r2 : List Cond := [Cond.methodLink RX5 47 yX5_greatest, Cond.static yX5_greatest, Cond.code yX5_greatest cX5_greatest 11 (some .long)]
def wsX5_passes : List Cond := .code yX5_passes cX5_passes 3 (some .int) :: ((wsX5_passes_r1 ++ wsX5_passes_r2) ++ wsX50)
def wsX5_isPoint : List Cond := .code yX5_isPoint cX5_isPoint 3 (some .boolean) :: ([.fieldLink RX5 59 "PassSearchModel" "planned" "Z", .fieldLink RX5 51 "PassSearchModel" "points" "J"] ++ wsX50)
def wsX5_isPass : List Cond := .code yX5_isPass cX5_isPass 2 (some .boolean) :: ([.fieldLink RX5 59 "PassSearchModel" "planned" "Z", .fieldLink RX5 42 "PassSearchModel" "passes" "I"] ++ wsX50)
def wsX5_isItem : List Cond := .code yX5_isItem cX5_isItem 2 (some .boolean) :: ([.fieldLink RX5 59 "PassSearchModel" "planned" "Z", .fieldLink RX5 63 "PassSearchModel" "items" "I"] ++ wsX50)
def wsX5_digit : List Cond := .code yX5_digit cX5_digit 7 (some .int) :: ([.fieldLink RX5 31 "PassSearchModel" "thrown" "I", .fieldLink RX5 59 "PassSearchModel" "planned" "Z", .fieldLink RX5 17 "PassSearchModel" "sizes" "[I", .methodLink RX5 73 yX5_isPoint, .instanceMethod yX5_isPoint, .selects RX5 yX5_isPoint yX5_isPoint, .initialized RX5, .code yX5_isPoint cX5_isPoint 3 (some .boolean), .fieldLink RX5 51 "PassSearchModel" "points" "J", .methodLink RX5 76 yX5_isPass, .instanceMethod yX5_isPass, .selects RX5 yX5_isPass yX5_isPass, .code yX5_isPass cX5_isPass 2 (some .boolean), .fieldLink RX5 42 "PassSearchModel" "passes" "I"] ++ wsX50)
def wsX5_isEnough : List Cond := .code yX5_isEnough cX5_isEnough 8 (some .boolean) :: ([.methodLink RX5 36 yX5_product, .static yX5_product, .initialized RX5, .code yX5_product cX5_product 4 (some .long), .constantLong RX5 34 (4611686018427387904)])
def wsX5_best : List Cond := .code yX5_best cX5_best 7 (some .int) :: ([.fieldLink RX5 31 "PassSearchModel" "thrown" "I", .constantLong RX5 84 (2147483647), .methodLink RX5 55 yX5_isCount, .static yX5_isCount, .initialized RX5, .code yX5_isCount cX5_isCount 2 (some .boolean), .constantLong RX5 34 (4611686018427387904), .methodLink RX5 80 yX5_isEnough, .static yX5_isEnough, .code yX5_isEnough cX5_isEnough 8 (some .boolean), .methodLink RX5 36 yX5_product, .static yX5_product, .code yX5_product cX5_product 4 (some .long)] ++ wsX50)
def wsX5_volume : List Cond := .code yX5_volume cX5_volume 6 (some .int) :: ([.fieldLink RX5 31 "PassSearchModel" "thrown" "I", .fieldLink RX5 59 "PassSearchModel" "planned" "Z", .fieldLink RX5 63 "PassSearchModel" "items" "I", .fieldLink RX5 20 "PassSearchModel" "pointOf" "[J", .fieldLink RX5 24 "PassSearchModel" "sorted" "[I", .methodLink RX5 73 yX5_isPoint, .instanceMethod yX5_isPoint, .selects RX5 yX5_isPoint yX5_isPoint, .initialized RX5, .code yX5_isPoint cX5_isPoint 3 (some .boolean), .fieldLink RX5 51 "PassSearchModel" "points" "J"] ++ wsX50)
def wsX5_height : List Cond := .code yX5_height cX5_height 4 (some .int) :: ([.fieldLink RX5 31 "PassSearchModel" "thrown" "I", .fieldLink RX5 27 "PassSearchModel" "bins" "I", .constant RX5 86 (100000), .fieldLink RX5 8 "PassSearchModel" "heights" "[I"] ++ wsX50)
def wsX5_trays : List Cond := .code yX5_trays cX5_trays 4 (some .int) :: ([.fieldLink RX5 31 "PassSearchModel" "thrown" "I", .fieldLink RX5 59 "PassSearchModel" "planned" "Z", .fieldLink RX5 42 "PassSearchModel" "passes" "I", .fieldLink RX5 17 "PassSearchModel" "sizes" "[I", .fieldLink RX5 14 "PassSearchModel" "in" "[I", .fieldLink RX5 63 "PassSearchModel" "items" "I", .fieldLink RX5 20 "PassSearchModel" "pointOf" "[J", .fieldLink RX5 8 "PassSearchModel" "heights" "[I", .methodLink RX5 87 yX5_digit, .instanceMethod yX5_digit, .selects RX5 yX5_digit yX5_digit, .initialized RX5, .code yX5_digit cX5_digit 7 (some .int), .methodLink RX5 73 yX5_isPoint, .instanceMethod yX5_isPoint, .selects RX5 yX5_isPoint yX5_isPoint, .code yX5_isPoint cX5_isPoint 3 (some .boolean), .fieldLink RX5 51 "PassSearchModel" "points" "J", .methodLink RX5 76 yX5_isPass, .instanceMethod yX5_isPass, .selects RX5 yX5_isPass yX5_isPass, .code yX5_isPass cX5_isPass 2 (some .boolean)] ++ wsX50)
def wsX5_sort : List Cond := .code yX5_sort cX5_sort 11 (some .int) :: ([.fieldLink RX5 31 "PassSearchModel" "thrown" "I", .fieldLink RX5 59 "PassSearchModel" "planned" "Z", .fieldLink RX5 17 "PassSearchModel" "sizes" "[I", .fieldLink RX5 63 "PassSearchModel" "items" "I", .fieldLink RX5 20 "PassSearchModel" "pointOf" "[J", .methodLink RX5 90 yX5_isItem, .instanceMethod yX5_isItem, .selects RX5 yX5_isItem yX5_isItem, .initialized RX5, .code yX5_isItem cX5_isItem 2 (some .boolean), .methodLink RX5 76 yX5_isPass, .instanceMethod yX5_isPass, .selects RX5 yX5_isPass yX5_isPass, .code yX5_isPass cX5_isPass 2 (some .boolean), .fieldLink RX5 42 "PassSearchModel" "passes" "I", .methodLink RX5 36 yX5_product, .static yX5_product, .code yX5_product cX5_product 4 (some .long), .constantLong RX5 34 (4611686018427387904)] ++ wsX50)
def wsX5_order : List Cond := .code yX5_order cX5_order 2 (some .int) :: ([.fieldLink RX5 31 "PassSearchModel" "thrown" "I", .fieldLink RX5 59 "PassSearchModel" "planned" "Z", .fieldLink RX5 42 "PassSearchModel" "passes" "I", .fieldLink RX5 24 "PassSearchModel" "sorted" "[I", .methodLink RX5 90 yX5_isItem, .instanceMethod yX5_isItem, .selects RX5 yX5_isItem yX5_isItem, .initialized RX5, .code yX5_isItem cX5_isItem 2 (some .boolean), .fieldLink RX5 63 "PassSearchModel" "items" "I"] ++ wsX50)
def wsX5_digits : List Cond := .code yX5_digits cX5_digits 2 (some .int) :: ([.fieldLink RX5 59 "PassSearchModel" "planned" "Z", .fieldLink RX5 42 "PassSearchModel" "passes" "I", .fieldLink RX5 31 "PassSearchModel" "thrown" "I", .fieldLink RX5 17 "PassSearchModel" "sizes" "[I"] ++ wsX50)
def wsX5_least : List Cond := .code yX5_least cX5_least 4 (some .boolean) :: ([.fieldLink RX5 31 "PassSearchModel" "thrown" "I", .fieldLink RX5 27 "PassSearchModel" "bins" "I", .methodLink RX5 55 yX5_isCount, .static yX5_isCount, .initialized RX5, .code yX5_isCount cX5_isCount 2 (some .boolean), .constantLong RX5 34 (4611686018427387904), .methodLink RX5 66 yX5_fewest, .static yX5_fewest, .code yX5_fewest cX5_fewest 6 (some .int), .methodLink RX5 36 yX5_product, .static yX5_product, .code yX5_product cX5_product 4 (some .long)] ++ wsX50)
def wsJx00060_init_a7421 : List Cond := .code yJx00060_init_a7421 cJx00060_init_a7421 2 none :: ([])
def wsJ9_max_7cf53 : List Cond := .code yJ9_max_7cf53 cJ9_max_7cf53 2 (some .int) :: ([])
def wsJ9_min_7cf53 : List Cond := .code yJ9_min_7cf53 cJ9_min_7cf53 2 (some .int) :: ([])
def wsL_cell : List Cond := .code yL_cell cL_cell 2 (some .int) :: ([])
def wsL_passes_r1 : List Cond := [Cond.classLink RL 13 "java/lang/IllegalArgumentException", Cond.methodLink RL 7 yX4_passes, Cond.instanceMethod yX4_passes, Cond.selects RX4 yX4_passes yX4_passes, Cond.initialized RX4, Cond.code yX4_passes cX4_passes 3 (some .int), Cond.classLink RX4 49 "java/lang/IllegalArgumentException", Cond.initialized "java/lang/IllegalArgumentException", Cond.fieldLink RX4 19 "PassSearch" "bins" "I", Cond.fieldLink RX4 28 "PassSearch" "plan" "LPassSearch$Plan;", Cond.fieldLink RX4 35 "PassSearch" "items" "LPassSearch$Items;", Cond.methodLink RX4 56 yX4_isRound, Cond.static yX4_isRound, Cond.code yX4_isRound cX4_isRound 2 (some .boolean), Cond.constantLong RX4 147 (4611686018427387904), Cond.methodLink RX4 60 yX2_lay, Cond.instanceMethod yX2_lay, Cond.selects RX2 yX2_lay yX2_lay, Cond.initialized RX2, Cond.code yX2_lay cX2_lay 5 none, Cond.fieldLink RX2 23 "PassSearch$Plan" "points" "J", Cond.fieldLink RX2 19 "PassSearch$Plan" "bins" "I", Cond.fieldLink RX2 27 "PassSearch$Plan" "passCount" "I", Cond.fieldLink RX2 15 "PassSearch$Plan" "spans" "[J"]
def wsL_passes_r2 : List Cond := [Cond.fieldLink RX2 9 "PassSearch$Plan" "sizes" "[I", Cond.methodLink RX2 43 yX3_leastExponent, Cond.static yX3_leastExponent, Cond.initialized RX3, Cond.code yX3_leastExponent cX3_leastExponent 7 (some .int), Cond.methodLink RX3 17 yX3_product, Cond.static yX3_product, Cond.code yX3_product cX3_product 4 (some .long), Cond.constantLong RX3 9 (4611686018427387904), Cond.methodLink RX3 11 yX3_quotient, Cond.static yX3_quotient, Cond.code yX3_quotient cX3_quotient 4 (some .long), Cond.methodLink RX2 47 yX2_leastSum, Cond.instanceMethod yX2_leastSum, Cond.selects RX2 yX2_leastSum yX2_leastSum, Cond.code yX2_leastSum cX2_leastSum 4 (some .int), Cond.methodLink RX2 59 Lib.Math.max.name, Cond.static Lib.Math.max.name, Cond.initialized "java/lang/Math", Cond.code Lib.Math.max.name Lib.Math.max.code 2 (some .int), Cond.methodLink RX2 55 yX3_leastBase, Cond.static yX3_leastBase, Cond.code yX3_leastBase cX3_leastBase 12 (some .long), Cond.constantLong RX3 20 (2)]
def wsL_passes_r3 : List Cond := [Cond.methodLink RX3 22 yX3_power, Cond.static yX3_power, Cond.code yX3_power cX3_power 6 (some .long), Cond.methodLink RX2 64 yX3_widestProduct, Cond.static yX3_widestProduct, Cond.code yX3_widestProduct cX3_widestProduct 4 (some .long), Cond.methodLink RX3 26 yX3_remainder, Cond.static yX3_remainder, Cond.code yX3_remainder cX3_remainder 4 (some .long), Cond.methodLink RX2 51 yX2_leastSize, Cond.instanceMethod yX2_leastSize, Cond.selects RX2 yX2_leastSize yX2_leastSize, Cond.code yX2_leastSize cX2_leastSize 7 (some .int), Cond.methodLink RX2 34 yX3_quotient, Cond.methodLink RX2 68 yX2_isEnough, Cond.instanceMethod yX2_isEnough, Cond.selects RX2 yX2_isEnough yX2_isEnough, Cond.code yX2_isEnough cX2_isEnough 7 (some .boolean), Cond.methodLink RX2 72 yX3_product, Cond.methodLink RX4 64 yX1_clear, Cond.instanceMethod yX1_clear, Cond.selects RX1 yX1_clear yX1_clear, Cond.initialized RX1, Cond.code yX1_clear cX1_clear 1 none]
def wsL_passes_r4 : List Cond := [Cond.fieldLink RX1 25 "PassSearch$Items" "groupCount" "I", Cond.fieldLink RX1 29 "PassSearch$Items" "total" "I", Cond.methodLink RX4 67 yX2_passCount, Cond.instanceMethod yX2_passCount, Cond.selects RX2 yX2_passCount yX2_passCount, Cond.code yX2_passCount cX2_passCount 1 (some .int)]
def wsL_passes : List Cond := .codeWith yL_passes cL_passes 5 (some .int) [(0, 9, 12, 13)] :: ((wsL_passes_r1 ++ (wsL_passes_r2 ++ (wsL_passes_r3 ++ wsL_passes_r4))) ++ wsX40 ++ wsX20 ++ wsX10 ++ (vx_atS RX4 53 "java/lang/IllegalArgumentException" ["java/lang/RuntimeException", "java/lang/Exception"]).filter goodWord)
def wsL_digits : List Cond := .codeWith yL_digits cL_digits 4 (some .int) [(0, 9, 12, 19)] :: ([.methodLink RL 15 yX4_digits, .instanceMethod yX4_digits, .selects RX4 yX4_digits yX4_digits, .initialized RX4, .code yX4_digits cX4_digits 2 (some .int), .fieldLink RX4 28 "PassSearch" "plan" "LPassSearch$Plan;", .classLink RX4 135 RJx00060, .instantiable RJx00060 6, .initialized RJx00060, .methodLink RX4 132 yX2_hasPass, .instanceMethod yX2_hasPass, .selects RX2 yX2_hasPass yX2_hasPass, .initialized RX2, .code yX2_hasPass cX2_hasPass 2 (some .boolean), .fieldLink RX2 27 "PassSearch$Plan" "passCount" "I", .methodLink RX4 140 yX2_sizeOf, .instanceMethod yX2_sizeOf, .selects RX2 yX2_sizeOf yX2_sizeOf, .code yX2_sizeOf cX2_sizeOf 2 (some .int), .fieldLink RX2 9 "PassSearch$Plan" "sizes" "[I", .methodLink RX2 30 yX2_hasPass] ++ wsX40 ++ wsJx000600 ++ wsX20)
def wsL_law0_r1 : List Cond := [Cond.classLink RL 8 RX4, Cond.instantiable RX4 5, Cond.initialized RX4, Cond.classLink RL 30 RX5, Cond.instantiable RX5 11, Cond.initialized RX5, Cond.arrayClass .long, Cond.constantLong RL 33 (4294967295), Cond.methodLink RL 21 yL_cell, Cond.static yL_cell, Cond.initialized RL, Cond.code yL_cell cL_cell 2 (some .int), Cond.methodLink RL 27 yX4_init, Cond.instanceMethod yX4_init, Cond.code yX4_init cX4_init 2 none, Cond.methodLink RX4 1 objectInit, Cond.instanceMethod objectInit, Cond.code objectInit ⟨#[0xb1]⟩ 1 none, Cond.constant RX4 9 (65536), Cond.methodLink RX4 10 Lib.Math.min.name, Cond.static Lib.Math.min.name, Cond.initialized "java/lang/Math", Cond.code Lib.Math.min.name Lib.Math.min.code 2 (some .int), Cond.methodLink RX4 16 Lib.Math.max.name]
def wsL_law0_r2 : List Cond := [Cond.static Lib.Math.max.name, Cond.code Lib.Math.max.name Lib.Math.max.code 2 (some .int), Cond.fieldLink RX4 19 "PassSearch" "bins" "I", Cond.classLink RX4 23 RX2, Cond.instantiable RX2 5, Cond.initialized RX2, Cond.fieldLink RX4 28 "PassSearch" "plan" "LPassSearch$Plan;", Cond.classLink RX4 32 RX1, Cond.instantiable RX1 6, Cond.initialized RX1, Cond.fieldLink RX4 35 "PassSearch" "items" "LPassSearch$Items;", Cond.classLink RX4 39 RX0, Cond.instantiable RX0 4, Cond.initialized RX0, Cond.fieldLink RX4 42 "PassSearch" "heights" "LPassSearch$BinTable;", Cond.fieldLink RX4 46 "PassSearch" "tally" "LPassSearch$BinTable;", Cond.methodLink RX4 25 yX2_init, Cond.instanceMethod yX2_init, Cond.code yX2_init cX2_init 2 none, Cond.methodLink RX2 3 objectInit, Cond.arrayClass .int, Cond.fieldLink RX2 9 "PassSearch$Plan" "sizes" "[I", Cond.fieldLink RX2 15 "PassSearch$Plan" "spans" "[J", Cond.fieldLink RX2 19 "PassSearch$Plan" "bins" "I"]
def wsL_law0_r3 : List Cond := [Cond.instanceMethod yX1_init, Cond.code yX1_init cX1_init 1 none, Cond.methodLink RX1 3 objectInit, Cond.fieldLink RX1 9 "PassSearch$Items" "points" "[J", Cond.fieldLink RX1 15 "PassSearch$Items" "firsts" "[I", Cond.fieldLink RX1 19 "PassSearch$Items" "counts" "[I", Cond.fieldLink RX1 22 "PassSearch$Items" "sorted" "[I", Cond.instanceMethod yX0_init, Cond.code yX0_init cX0_init 1 none, Cond.methodLink RX0 5 objectInit, Cond.fieldLink RX0 11 "PassSearch$BinTable" "marks" "[I", Cond.fieldLink RX0 15 "PassSearch$BinTable" "values" "[I", Cond.fieldLink RX0 18 "PassSearch$BinTable" "taken" "[I", Cond.methodLink RL 32 yX5_init, Cond.instanceMethod yX5_init, Cond.code yX5_init cX5_init 3 none, Cond.methodLink RX5 1 objectInit, Cond.constant RX5 7 (65536), Cond.fieldLink RX5 8 "PassSearchModel" "heights" "[I", Cond.fieldLink RX5 14 "PassSearchModel" "in" "[I", Cond.fieldLink RX5 17 "PassSearchModel" "sizes" "[I", Cond.fieldLink RX5 20 "PassSearchModel" "pointOf" "[J", Cond.fieldLink RX5 24 "PassSearchModel" "sorted" "[I", Cond.fieldLink RX5 27 "PassSearchModel" "bins" "I"]
def wsL_law0_r4 : List Cond := [Cond.methodLink RL 35 yL_passes, Cond.static yL_passes, Cond.codeWith yL_passes cL_passes 5 (some .int) [(0, 9, 12, 13)], Cond.classLink RL 13 "java/lang/IllegalArgumentException", Cond.methodLink RL 7 yX4_passes, Cond.instanceMethod yX4_passes, Cond.selects RX4 yX4_passes yX4_passes, Cond.code yX4_passes cX4_passes 3 (some .int), Cond.classLink RX4 49 "java/lang/IllegalArgumentException", Cond.initialized "java/lang/IllegalArgumentException", Cond.methodLink RX4 56 yX4_isRound, Cond.static yX4_isRound, Cond.code yX4_isRound cX4_isRound 2 (some .boolean), Cond.constantLong RX4 147 (4611686018427387904), Cond.methodLink RX4 60 yX2_lay, Cond.instanceMethod yX2_lay, Cond.selects RX2 yX2_lay yX2_lay, Cond.code yX2_lay cX2_lay 5 none, Cond.fieldLink RX2 23 "PassSearch$Plan" "points" "J", Cond.fieldLink RX2 27 "PassSearch$Plan" "passCount" "I", Cond.methodLink RX2 43 yX3_leastExponent, Cond.static yX3_leastExponent, Cond.initialized RX3, Cond.code yX3_leastExponent cX3_leastExponent 7 (some .int)]
def wsL_law0_r5 : List Cond := [Cond.methodLink RX3 17 yX3_product, Cond.static yX3_product, Cond.code yX3_product cX3_product 4 (some .long), Cond.constantLong RX3 9 (4611686018427387904), Cond.methodLink RX3 11 yX3_quotient, Cond.static yX3_quotient, Cond.code yX3_quotient cX3_quotient 4 (some .long), Cond.methodLink RX2 47 yX2_leastSum, Cond.instanceMethod yX2_leastSum, Cond.selects RX2 yX2_leastSum yX2_leastSum, Cond.code yX2_leastSum cX2_leastSum 4 (some .int), Cond.methodLink RX2 59 Lib.Math.max.name, Cond.methodLink RX2 55 yX3_leastBase, Cond.static yX3_leastBase, Cond.code yX3_leastBase cX3_leastBase 12 (some .long), Cond.constantLong RX3 20 (2), Cond.methodLink RX3 22 yX3_power, Cond.static yX3_power, Cond.code yX3_power cX3_power 6 (some .long), Cond.methodLink RX2 64 yX3_widestProduct, Cond.static yX3_widestProduct, Cond.code yX3_widestProduct cX3_widestProduct 4 (some .long), Cond.methodLink RX3 26 yX3_remainder, Cond.static yX3_remainder]
def wsL_law0_r6 : List Cond := [Cond.code yX3_remainder cX3_remainder 4 (some .long), Cond.methodLink RX2 51 yX2_leastSize, Cond.instanceMethod yX2_leastSize, Cond.selects RX2 yX2_leastSize yX2_leastSize, Cond.code yX2_leastSize cX2_leastSize 7 (some .int), Cond.methodLink RX2 34 yX3_quotient, Cond.methodLink RX2 68 yX2_isEnough, Cond.instanceMethod yX2_isEnough, Cond.selects RX2 yX2_isEnough yX2_isEnough, Cond.code yX2_isEnough cX2_isEnough 7 (some .boolean), Cond.methodLink RX2 72 yX3_product, Cond.methodLink RX4 64 yX1_clear, Cond.instanceMethod yX1_clear, Cond.selects RX1 yX1_clear yX1_clear, Cond.code yX1_clear cX1_clear 1 none, Cond.fieldLink RX1 25 "PassSearch$Items" "groupCount" "I", Cond.fieldLink RX1 29 "PassSearch$Items" "total" "I", Cond.methodLink RX4 67 yX2_passCount, Cond.instanceMethod yX2_passCount, Cond.selects RX2 yX2_passCount yX2_passCount, Cond.code yX2_passCount cX2_passCount 1 (some .int), Cond.methodLink RL 38 yX5_passes, Cond.instanceMethod yX5_passes, Cond.selects RX5 yX5_passes yX5_passes]
def wsL_law0_r7 : List Cond := [Cond.code yX5_passes cX5_passes 3 (some .int), Cond.fieldLink RX5 31 "PassSearchModel" "thrown" "I", Cond.fieldLink RX5 59 "PassSearchModel" "planned" "Z", Cond.fieldLink RX5 51 "PassSearchModel" "points" "J", Cond.fieldLink RX5 63 "PassSearchModel" "items" "I", Cond.fieldLink RX5 42 "PassSearchModel" "passes" "I", Cond.methodLink RX5 55 yX5_isCount, Cond.static yX5_isCount, Cond.code yX5_isCount cX5_isCount 2 (some .boolean), Cond.constantLong RX5 34 (4611686018427387904), Cond.methodLink RX5 66 yX5_fewest, Cond.static yX5_fewest, Cond.code yX5_fewest cX5_fewest 6 (some .int), Cond.methodLink RX5 36 yX5_product, Cond.static yX5_product, Cond.code yX5_product cX5_product 4 (some .long), Cond.methodLink RX5 70 yX5_choose, Cond.instanceMethod yX5_choose, Cond.selects RX5 yX5_choose yX5_choose, Cond.code yX5_choose cX5_choose 9 none, Cond.constantLong RX5 40 (2), Cond.constantLong RX5 45 (1048576), Cond.methodLink RX5 47 yX5_greatest, Cond.static yX5_greatest]
def wsL_law0_r8 : List Cond := [Cond.code yX5_greatest cX5_greatest 11 (some .long), Cond.methodLink RL 39 yX5_thrown, Cond.instanceMethod yX5_thrown, Cond.selects RX5 yX5_thrown yX5_thrown, Cond.code yX5_thrown cX5_thrown 1 (some .int), Cond.methodLink RL 43 yX4_digit, Cond.instanceMethod yX4_digit, Cond.selects RX4 yX4_digit yX4_digit, Cond.code yX4_digit cX4_digit 4 (some .int), Cond.methodLink RX4 71 yX4_isUnknownPoint, Cond.instanceMethod yX4_isUnknownPoint, Cond.selects RX4 yX4_isUnknownPoint yX4_isUnknownPoint, Cond.code yX4_isUnknownPoint cX4_isUnknownPoint 3 (some .boolean), Cond.methodLink RX4 78 yX2_isLaid, Cond.instanceMethod yX2_isLaid, Cond.selects RX2 yX2_isLaid yX2_isLaid, Cond.code yX2_isLaid cX2_isLaid 1 (some .boolean), Cond.methodLink RX4 149 yX2_hasPoint, Cond.instanceMethod yX2_hasPoint, Cond.selects RX2 yX2_hasPoint yX2_hasPoint, Cond.code yX2_hasPoint cX2_hasPoint 3 (some .boolean), Cond.methodLink RX4 74 yX4_isUnknownPass, Cond.instanceMethod yX4_isUnknownPass, Cond.selects RX4 yX4_isUnknownPass yX4_isUnknownPass]
def wsL_law0_r9 : List Cond := [Cond.code yX4_isUnknownPass cX4_isUnknownPass 2 (some .boolean), Cond.methodLink RX4 132 yX2_hasPass, Cond.instanceMethod yX2_hasPass, Cond.selects RX2 yX2_hasPass yX2_hasPass, Cond.code yX2_hasPass cX2_hasPass 2 (some .boolean), Cond.methodLink RX4 82 yX2_binOf, Cond.instanceMethod yX2_binOf, Cond.selects RX2 yX2_binOf yX2_binOf, Cond.code yX2_binOf cX2_binOf 4 (some .int), Cond.methodLink RX2 30 yX2_hasPass, Cond.methodLink RX2 40 yX3_remainder, Cond.methodLink RL 47 yX5_digit, Cond.instanceMethod yX5_digit, Cond.selects RX5 yX5_digit yX5_digit, Cond.code yX5_digit cX5_digit 7 (some .int), Cond.methodLink RX5 73 yX5_isPoint, Cond.instanceMethod yX5_isPoint, Cond.selects RX5 yX5_isPoint yX5_isPoint, Cond.code yX5_isPoint cX5_isPoint 3 (some .boolean), Cond.methodLink RX5 76 yX5_isPass, Cond.instanceMethod yX5_isPass, Cond.selects RX5 yX5_isPass yX5_isPass, Cond.code yX5_isPass cX5_isPass 2 (some .boolean), Cond.methodLink RL 48 yX4_best]
def wsL_law0_r10 : List Cond := [Cond.instanceMethod yX4_best, Cond.selects RX4 yX4_best yX4_best, Cond.code yX4_best cX4_best 6 (some .int), Cond.constantLong RX4 88 (2147483647), Cond.methodLink RX4 90 yX3_leastBase, Cond.methodLink RL 51 yX5_best, Cond.instanceMethod yX5_best, Cond.selects RX5 yX5_best yX5_best, Cond.code yX5_best cX5_best 7 (some .int), Cond.constantLong RX5 84 (2147483647), Cond.methodLink RX5 80 yX5_isEnough, Cond.static yX5_isEnough, Cond.code yX5_isEnough cX5_isEnough 8 (some .boolean), Cond.methodLink RL 52 yX4_volume, Cond.instanceMethod yX4_volume, Cond.selects RX4 yX4_volume yX4_volume, Cond.code yX4_volume cX4_volume 4 (some .int), Cond.methodLink RX4 96 yX1_hasRoom, Cond.instanceMethod yX1_hasRoom, Cond.selects RX1 yX1_hasRoom yX1_hasRoom, Cond.code yX1_hasRoom cX1_hasRoom 2 (some .boolean), Cond.methodLink RX4 99 yX1_add, Cond.instanceMethod yX1_add, Cond.selects RX1 yX1_add yX1_add]
def wsL_law0_r11 : List Cond := [Cond.code yX1_add cX1_add 4 none, Cond.methodLink RX1 36 yX1_hasRoom, Cond.methodLink RX1 39 yX1_putSorted, Cond.instanceMethod yX1_putSorted, Cond.selects RX1 yX1_putSorted yX1_putSorted, Cond.code yX1_putSorted cX1_putSorted 3 none, Cond.methodLink RX4 103 yX1_total, Cond.instanceMethod yX1_total, Cond.selects RX1 yX1_total yX1_total, Cond.code yX1_total cX1_total 1 (some .int), Cond.methodLink RL 55 yX5_volume, Cond.instanceMethod yX5_volume, Cond.selects RX5 yX5_volume yX5_volume, Cond.code yX5_volume cX5_volume 6 (some .int), Cond.methodLink RL 56 yX4_height, Cond.instanceMethod yX4_height, Cond.selects RX4 yX4_height yX4_height, Cond.code yX4_height cX4_height 4 (some .int), Cond.constant RX4 106 (100000), Cond.methodLink RX4 107 yX4_heightOf, Cond.instanceMethod yX4_heightOf, Cond.selects RX4 yX4_heightOf yX4_heightOf, Cond.code yX4_heightOf cX4_heightOf 3 (some .int), Cond.methodLink RX4 152 yX0_valueOf]
def wsL_law0_r12 : List Cond := [Cond.instanceMethod yX0_valueOf, Cond.selects RX0 yX0_valueOf yX0_valueOf, Cond.code yX0_valueOf cX0_valueOf 3 (some .int), Cond.methodLink RX0 25 yX0_slotOf, Cond.instanceMethod yX0_slotOf, Cond.selects RX0 yX0_slotOf yX0_slotOf, Cond.code yX0_slotOf cX0_slotOf 4 (some .int), Cond.constant RX0 29 (-1640531535), Cond.methodLink RX4 111 yX0_put, Cond.instanceMethod yX0_put, Cond.selects RX0 yX0_put yX0_put, Cond.code yX0_put cX0_put 4 (some .boolean), Cond.fieldLink RX0 21 "PassSearch$BinTable" "size" "I", Cond.methodLink RL 60 yX5_height, Cond.instanceMethod yX5_height, Cond.selects RX5 yX5_height yX5_height, Cond.code yX5_height cX5_height 4 (some .int), Cond.constant RX5 86 (100000), Cond.methodLink RL 61 yX4_trays, Cond.instanceMethod yX4_trays, Cond.selects RX4 yX4_trays yX4_trays, Cond.code yX4_trays cX4_trays 3 (some .int), Cond.methodLink RX4 115 yX4_traysOfPass, Cond.instanceMethod yX4_traysOfPass]
def wsL_law0_r13 : List Cond := [Cond.selects RX4 yX4_traysOfPass yX4_traysOfPass, Cond.code yX4_traysOfPass cX4_traysOfPass 4 (some .int), Cond.methodLink RX4 155 yX0_clear, Cond.instanceMethod yX0_clear, Cond.selects RX0 yX0_clear yX0_clear, Cond.code yX0_clear cX0_clear 2 none, Cond.methodLink RX4 156 yX1_groupCount, Cond.instanceMethod yX1_groupCount, Cond.selects RX1 yX1_groupCount yX1_groupCount, Cond.code yX1_groupCount cX1_groupCount 1 (some .int), Cond.methodLink RX4 159 yX1_pointOf, Cond.instanceMethod yX1_pointOf, Cond.selects RX1 yX1_pointOf yX1_pointOf, Cond.code yX1_pointOf cX1_pointOf 2 (some .long), Cond.methodLink RX1 32 yX1_hasGroup, Cond.instanceMethod yX1_hasGroup, Cond.selects RX1 yX1_hasGroup yX1_hasGroup, Cond.code yX1_hasGroup cX1_hasGroup 2 (some .boolean), Cond.methodLink RX4 162 yX1_countOf, Cond.instanceMethod yX1_countOf, Cond.selects RX1 yX1_countOf yX1_countOf, Cond.code yX1_countOf cX1_countOf 2 (some .int), Cond.methodLink RX4 165 yX0_size, Cond.instanceMethod yX0_size]
def wsL_law0_r14 : List Cond := [Cond.selects RX0 yX0_size yX0_size, Cond.code yX0_size cX0_size 1 (some .int), Cond.methodLink RX4 168 yX0_valueAt, Cond.instanceMethod yX0_valueAt, Cond.selects RX0 yX0_valueAt yX0_valueAt, Cond.code yX0_valueAt cX0_valueAt 2 (some .int), Cond.methodLink RX4 171 yX0_binAt, Cond.instanceMethod yX0_binAt, Cond.selects RX0 yX0_binAt yX0_binAt, Cond.code yX0_binAt cX0_binAt 2 (some .int), Cond.methodLink RX4 174 yX3_quotientUp, Cond.static yX3_quotientUp, Cond.code yX3_quotientUp cX3_quotientUp 2 (some .int), Cond.methodLink RL 64 yX5_trays, Cond.instanceMethod yX5_trays, Cond.selects RX5 yX5_trays yX5_trays, Cond.code yX5_trays cX5_trays 4 (some .int), Cond.methodLink RX5 87 yX5_digit, Cond.methodLink RL 65 yX4_sort, Cond.instanceMethod yX4_sort, Cond.selects RX4 yX4_sort yX4_sort, Cond.code yX4_sort cX4_sort 3 (some .int), Cond.methodLink RX4 118 yX4_isUnknownItem, Cond.instanceMethod yX4_isUnknownItem]
def wsL_law0_r15 : List Cond := [Cond.selects RX4 yX4_isUnknownItem yX4_isUnknownItem, Cond.code yX4_isUnknownItem cX4_isUnknownItem 2 (some .boolean), Cond.methodLink RX4 121 yX2_spanBehind, Cond.instanceMethod yX2_spanBehind, Cond.selects RX2 yX2_spanBehind yX2_spanBehind, Cond.code yX2_spanBehind cX2_spanBehind 2 (some .long), Cond.methodLink RX4 125 yX1_placeOf, Cond.instanceMethod yX1_placeOf, Cond.selects RX1 yX1_placeOf yX1_placeOf, Cond.code yX1_placeOf cX1_placeOf 11 (some .int), Cond.methodLink RX1 43 yX1_groupOf, Cond.instanceMethod yX1_groupOf, Cond.selects RX1 yX1_groupOf yX1_groupOf, Cond.code yX1_groupOf cX1_groupOf 3 (some .int), Cond.methodLink RX1 47 yX3_remainder, Cond.methodLink RL 68 yX5_sort, Cond.instanceMethod yX5_sort, Cond.selects RX5 yX5_sort yX5_sort, Cond.code yX5_sort cX5_sort 11 (some .int), Cond.methodLink RX5 90 yX5_isItem, Cond.instanceMethod yX5_isItem, Cond.selects RX5 yX5_isItem yX5_isItem, Cond.code yX5_isItem cX5_isItem 2 (some .boolean), Cond.methodLink RL 69 yX4_order]
def wsL_law0_r16 : List Cond := [Cond.instanceMethod yX4_order, Cond.selects RX4 yX4_order yX4_order, Cond.code yX4_order cX4_order 2 (some .int), Cond.methodLink RX4 129 yX1_itemAt, Cond.instanceMethod yX1_itemAt, Cond.selects RX1 yX1_itemAt yX1_itemAt, Cond.code yX1_itemAt cX1_itemAt 5 (some .int), Cond.methodLink RL 72 yX5_order, Cond.instanceMethod yX5_order, Cond.selects RX5 yX5_order yX5_order, Cond.code yX5_order cX5_order 2 (some .int), Cond.methodLink RL 73 yL_digits, Cond.static yL_digits, Cond.codeWith yL_digits cL_digits 4 (some .int) [(0, 9, 12, 19)], Cond.methodLink RL 15 yX4_digits, Cond.instanceMethod yX4_digits, Cond.selects RX4 yX4_digits yX4_digits, Cond.code yX4_digits cX4_digits 2 (some .int), Cond.classLink RX4 135 RJx00060, Cond.instantiable RJx00060 6, Cond.initialized RJx00060, Cond.methodLink RX4 140 yX2_sizeOf, Cond.instanceMethod yX2_sizeOf, Cond.selects RX2 yX2_sizeOf yX2_sizeOf]
def wsL_law0_r17 : List Cond := [Cond.code yX2_sizeOf cX2_sizeOf 2 (some .int), Cond.methodLink RL 76 yX5_digits, Cond.instanceMethod yX5_digits, Cond.selects RX5 yX5_digits yX5_digits, Cond.code yX5_digits cX5_digits 2 (some .int), Cond.methodLink RL 77 yX4_least, Cond.instanceMethod yX4_least, Cond.selects RX4 yX4_least yX4_least, Cond.code yX4_least cX4_least 4 (some .boolean), Cond.methodLink RX4 143 yX3_leastExponent, Cond.methodLink RL 81 yX5_least, Cond.instanceMethod yX5_least, Cond.selects RX5 yX5_least yX5_least, Cond.code yX5_least cX5_least 4 (some .boolean)]
def wsL_law0 : List Cond := (wsL_law0_r1 ++ (wsL_law0_r2 ++ (wsL_law0_r3 ++ (wsL_law0_r4 ++ (wsL_law0_r5 ++ (wsL_law0_r6 ++ (wsL_law0_r7 ++ (wsL_law0_r8 ++ (wsL_law0_r9 ++ (wsL_law0_r10 ++ (wsL_law0_r11 ++ (wsL_law0_r12 ++ (wsL_law0_r13 ++ (wsL_law0_r14 ++ (wsL_law0_r15 ++ (wsL_law0_r16 ++ wsL_law0_r17)))))))))))))))) ++ wsX40 ++ wsX50 ++ wsX20 ++ wsX10 ++ wsX00 ++ wsJx000600 ++ ([] : List Cond)
def wsL_law : List Cond := wsL_law0 ++ (vx_atS RX4 53 "java/lang/IllegalArgumentException" ["java/lang/RuntimeException", "java/lang/Exception"]).filter goodWord
set_option maxRecDepth 20000 in
theorem wsL_law_in0 : ∀ w ∈ wsL_law0, w ∈ lw_tbl := fun w h => (goodIn_p wsL_law0 [314, 35, 38, 42, 45, 50, 74, 99, 455, 322, 171, 393, 311, 183, 161, 398, 176, 180, 403, 164, 408, 412, 417, 236, 499, 502, 506, 509, 513, 518, 495, 133, 137, 141, 145, 149, 153, 157, 522, 526, 530, 168, 534, 537, 189, 193, 197, 202, 206, 542, 210, 215, 219, 223, 228, 546, 232, 240, 244, 248, 252, 256, 260, 264, 268, 272, 275, 551, 279, 283, 287, 291, 295, 556, 560, 300, 304, 564, 425, 450, 568, 308, 572] (by decide +kernel) (by decide +kernel) w h).1
theorem wsL_law_x0 : ∀ w ∈ (vx_atS RX4 53 "java/lang/IllegalArgumentException" ["java/lang/RuntimeException", "java/lang/Exception"]).filter goodWord, w ∈ lw_tbl := by decide +kernel
theorem wsL_law_in : ∀ w ∈ wsL_law, w ∈ lw_tbl := fun w h => (List.mem_append.mp h).elim (fun h => wsL_law_in0 w h) (fun h => wsL_law_x0 w h)
theorem inlX0 : ∀ w ∈ wsX00, w ∈ wsL_law := fun _ h => List.mem_append_left _ (List.mem_append_left _ (List.mem_append_left _ (List.mem_append_right _ h)))
theorem inX0 : ∀ w ∈ wsX00, w ∈ lw_tbl := fun w h => wsL_law_in w (inlX0 w h)
theorem inlX1 : ∀ w ∈ wsX10, w ∈ wsL_law := fun _ h => List.mem_append_left _ (List.mem_append_left _ (List.mem_append_left _ (List.mem_append_left _ (List.mem_append_right _ h))))
theorem inX1 : ∀ w ∈ wsX10, w ∈ lw_tbl := fun w h => wsL_law_in w (inlX1 w h)
theorem inlX2 : ∀ w ∈ wsX20, w ∈ wsL_law := fun _ h => List.mem_append_left _ (List.mem_append_left _ (List.mem_append_left _ (List.mem_append_left _ (List.mem_append_left _ (List.mem_append_right _ h)))))
theorem inX2 : ∀ w ∈ wsX20, w ∈ lw_tbl := fun w h => wsL_law_in w (inlX2 w h)
theorem inX3 : ∀ w ∈ wsX30, w ∈ lw_tbl := by decide +kernel
theorem inlX4 : ∀ w ∈ wsX40, w ∈ wsL_law := fun _ h => List.mem_append_left _ (List.mem_append_left _ (List.mem_append_left _ (List.mem_append_left _ (List.mem_append_left _ (List.mem_append_left _ (List.mem_append_left _ (List.mem_append_right _ h)))))))
theorem inX4 : ∀ w ∈ wsX40, w ∈ lw_tbl := fun w h => wsL_law_in w (inlX4 w h)
theorem inlX5 : ∀ w ∈ wsX50, w ∈ wsL_law := fun _ h => List.mem_append_left _ (List.mem_append_left _ (List.mem_append_left _ (List.mem_append_left _ (List.mem_append_left _ (List.mem_append_left _ (List.mem_append_right _ h))))))
theorem inX5 : ∀ w ∈ wsX50, w ∈ lw_tbl := fun w h => wsL_law_in w (inlX5 w h)
theorem inlJx00060 : ∀ w ∈ wsJx000600, w ∈ wsL_law := fun _ h => List.mem_append_left _ (List.mem_append_left _ (List.mem_append_right _ h))
theorem inJx00060 : ∀ w ∈ wsJx000600, w ∈ lw_tbl := fun w h => wsL_law_in w (inlJx00060 w h)
theorem inJ9 : ∀ w ∈ wsJ90, w ∈ lw_tbl := by decide +kernel
theorem inJ0 : ∀ w ∈ wsJ00, w ∈ lw_tbl := by decide +kernel
end
section
theorem dX0_init_0 : decode cX0_init 0 = .ok (.aload_n 0, 1) := by decide +kernel
theorem dX0_init_1 : decode cX0_init 1 = .ok (.invokespecial 5, 3) := by decide +kernel
theorem dX0_init_4 : decode cX0_init 4 = .ok (.aload_n 0, 1) := by decide +kernel
theorem dX0_init_5 : decode cX0_init 5 = .ok (.sipush 1024, 3) := by decide +kernel
theorem dX0_init_8 : decode cX0_init 8 = .ok (.newarray .int, 2) := by decide +kernel
theorem dX0_init_10 : decode cX0_init 10 = .ok (.putfield 11, 3) := by decide +kernel
theorem dX0_init_13 : decode cX0_init 13 = .ok (.aload_n 0, 1) := by decide +kernel
theorem dX0_init_14 : decode cX0_init 14 = .ok (.sipush 1024, 3) := by decide +kernel
theorem dX0_init_17 : decode cX0_init 17 = .ok (.newarray .int, 2) := by decide +kernel
theorem dX0_init_19 : decode cX0_init 19 = .ok (.putfield 15, 3) := by decide +kernel
theorem dX0_init_22 : decode cX0_init 22 = .ok (.aload_n 0, 1) := by decide +kernel
theorem dX0_init_23 : decode cX0_init 23 = .ok (.sipush 512, 3) := by decide +kernel
theorem dX0_init_26 : decode cX0_init 26 = .ok (.newarray .int, 2) := by decide +kernel
theorem dX0_init_28 : decode cX0_init 28 = .ok (.putfield 18, 3) := by decide +kernel
theorem dX0_init_31 : decode cX0_init 31 = .ok (.return_, 1) := by decide +kernel
theorem dX0_size_0 : decode cX0_size 0 = .ok (.aload_n 0, 1) := by decide +kernel
theorem dX0_size_1 : decode cX0_size 1 = .ok (.getfield 21, 3) := by decide +kernel
theorem dX0_size_4 : decode cX0_size 4 = .ok (.ireturn, 1) := by decide +kernel
theorem dX0_binAt_0 : decode cX0_binAt 0 = .ok (.iload_n 1, 1) := by decide +kernel
theorem dX0_binAt_1 : decode cX0_binAt 1 = .ok (.ifCond .lt 27, 3) := by decide +kernel
theorem dX0_binAt_4 : decode cX0_binAt 4 = .ok (.iload_n 1, 1) := by decide +kernel
theorem dX0_binAt_5 : decode cX0_binAt 5 = .ok (.aload_n 0, 1) := by decide +kernel
theorem dX0_binAt_6 : decode cX0_binAt 6 = .ok (.getfield 21, 3) := by decide +kernel
theorem dX0_binAt_9 : decode cX0_binAt 9 = .ok (.if_icmp .ge 19, 3) := by decide +kernel
theorem dX0_binAt_12 : decode cX0_binAt 12 = .ok (.aload_n 0, 1) := by decide +kernel
theorem dX0_binAt_13 : decode cX0_binAt 13 = .ok (.getfield 11, 3) := by decide +kernel
theorem dX0_binAt_16 : decode cX0_binAt 16 = .ok (.aload_n 0, 1) := by decide +kernel
theorem dX0_binAt_17 : decode cX0_binAt 17 = .ok (.getfield 18, 3) := by decide +kernel
theorem dX0_binAt_20 : decode cX0_binAt 20 = .ok (.iload_n 1, 1) := by decide +kernel
theorem dX0_binAt_21 : decode cX0_binAt 21 = .ok (.iaload, 1) := by decide +kernel
theorem dX0_binAt_22 : decode cX0_binAt 22 = .ok (.iaload, 1) := by decide +kernel
theorem dX0_binAt_23 : decode cX0_binAt 23 = .ok (.iconst 1, 1) := by decide +kernel
theorem dX0_binAt_24 : decode cX0_binAt 24 = .ok (.isub, 1) := by decide +kernel
theorem dX0_binAt_25 : decode cX0_binAt 25 = .ok (.goto 4, 3) := by decide +kernel
theorem dX0_binAt_28 : decode cX0_binAt 28 = .ok (.iconst 0, 1) := by decide +kernel
theorem dX0_binAt_29 : decode cX0_binAt 29 = .ok (.ireturn, 1) := by decide +kernel
theorem dX0_valueAt_0 : decode cX0_valueAt 0 = .ok (.iload_n 1, 1) := by decide +kernel
theorem dX0_valueAt_1 : decode cX0_valueAt 1 = .ok (.ifCond .lt 25, 3) := by decide +kernel
theorem dX0_valueAt_4 : decode cX0_valueAt 4 = .ok (.iload_n 1, 1) := by decide +kernel
theorem dX0_valueAt_5 : decode cX0_valueAt 5 = .ok (.aload_n 0, 1) := by decide +kernel
theorem dX0_valueAt_6 : decode cX0_valueAt 6 = .ok (.getfield 21, 3) := by decide +kernel
theorem dX0_valueAt_9 : decode cX0_valueAt 9 = .ok (.if_icmp .ge 17, 3) := by decide +kernel
theorem dX0_valueAt_12 : decode cX0_valueAt 12 = .ok (.aload_n 0, 1) := by decide +kernel
theorem dX0_valueAt_13 : decode cX0_valueAt 13 = .ok (.getfield 15, 3) := by decide +kernel
theorem dX0_valueAt_16 : decode cX0_valueAt 16 = .ok (.aload_n 0, 1) := by decide +kernel
theorem dX0_valueAt_17 : decode cX0_valueAt 17 = .ok (.getfield 18, 3) := by decide +kernel
theorem dX0_valueAt_20 : decode cX0_valueAt 20 = .ok (.iload_n 1, 1) := by decide +kernel
theorem dX0_valueAt_21 : decode cX0_valueAt 21 = .ok (.iaload, 1) := by decide +kernel
theorem dX0_valueAt_22 : decode cX0_valueAt 22 = .ok (.iaload, 1) := by decide +kernel
theorem dX0_valueAt_23 : decode cX0_valueAt 23 = .ok (.goto 4, 3) := by decide +kernel
theorem dX0_valueAt_26 : decode cX0_valueAt 26 = .ok (.iconst 0, 1) := by decide +kernel
theorem dX0_valueAt_27 : decode cX0_valueAt 27 = .ok (.ireturn, 1) := by decide +kernel
set_option maxRecDepth 20000 in
theorem ggX0_valueOf_X0_slotOf : GoodIn wsX0_valueOf wsX0_slotOf := goodIn_r _ [7, 8, 1, 9, 10, 11, 12] (by decide +kernel) (by decide +kernel)
set_option maxRecDepth 20000 in
theorem gX0_valueOf_X0_slotOf : GoodIn wsX0_valueOf (wsV RX0 25 RX0 yX0_slotOf wsX0_slotOf) := goodIn_app (goodIn_of _ (by decide +kernel)) ggX0_valueOf_X0_slotOf
theorem dX0_valueOf_0 : decode cX0_valueOf 0 = .ok (.aload_n 0, 1) := by decide +kernel
theorem dX0_valueOf_1 : decode cX0_valueOf 1 = .ok (.iload_n 1, 1) := by decide +kernel
theorem dX0_valueOf_2 : decode cX0_valueOf 2 = .ok (.invokevirtual 25, 3) := by decide +kernel
theorem dX0_valueOf_5 : decode cX0_valueOf 5 = .ok (.istore_n 2, 1) := by decide +kernel
theorem dX0_valueOf_6 : decode cX0_valueOf 6 = .ok (.aload_n 0, 1) := by decide +kernel
theorem dX0_valueOf_7 : decode cX0_valueOf 7 = .ok (.getfield 11, 3) := by decide +kernel
theorem dX0_valueOf_10 : decode cX0_valueOf 10 = .ok (.iload_n 2, 1) := by decide +kernel
theorem dX0_valueOf_11 : decode cX0_valueOf 11 = .ok (.iaload, 1) := by decide +kernel
theorem dX0_valueOf_12 : decode cX0_valueOf 12 = .ok (.ifCond .ne 7, 3) := by decide +kernel
theorem dX0_valueOf_15 : decode cX0_valueOf 15 = .ok (.iconst 0, 1) := by decide +kernel
theorem dX0_valueOf_16 : decode cX0_valueOf 16 = .ok (.goto 9, 3) := by decide +kernel
theorem dX0_valueOf_19 : decode cX0_valueOf 19 = .ok (.aload_n 0, 1) := by decide +kernel
theorem dX0_valueOf_20 : decode cX0_valueOf 20 = .ok (.getfield 15, 3) := by decide +kernel
theorem dX0_valueOf_23 : decode cX0_valueOf 23 = .ok (.iload_n 2, 1) := by decide +kernel
theorem dX0_valueOf_24 : decode cX0_valueOf 24 = .ok (.iaload, 1) := by decide +kernel
theorem dX0_valueOf_25 : decode cX0_valueOf 25 = .ok (.ireturn, 1) := by decide +kernel
set_option maxRecDepth 20000 in
theorem ggX0_put_X0_slotOf : GoodIn wsX0_put wsX0_slotOf := goodIn_r _ [9, 10, 1, 11, 12, 13, 14] (by decide +kernel) (by decide +kernel)
set_option maxRecDepth 20000 in
theorem gX0_put_X0_slotOf : GoodIn wsX0_put (wsV RX0 25 RX0 yX0_slotOf wsX0_slotOf) := goodIn_app (goodIn_of _ (by decide +kernel)) ggX0_put_X0_slotOf
theorem dX0_put_0 : decode cX0_put 0 = .ok (.aload_n 0, 1) := by decide +kernel
theorem dX0_put_1 : decode cX0_put 1 = .ok (.iload_n 1, 1) := by decide +kernel
theorem dX0_put_2 : decode cX0_put 2 = .ok (.invokevirtual 25, 3) := by decide +kernel
theorem dX0_put_5 : decode cX0_put 5 = .ok (.istore_n 3, 1) := by decide +kernel
theorem dX0_put_6 : decode cX0_put 6 = .ok (.aload_n 0, 1) := by decide +kernel
theorem dX0_put_7 : decode cX0_put 7 = .ok (.getfield 11, 3) := by decide +kernel
theorem dX0_put_10 : decode cX0_put 10 = .ok (.iload_n 3, 1) := by decide +kernel
theorem dX0_put_11 : decode cX0_put 11 = .ok (.iaload, 1) := by decide +kernel
theorem dX0_put_12 : decode cX0_put 12 = .ok (.ifCond .ne 44, 3) := by decide +kernel
theorem dX0_put_15 : decode cX0_put 15 = .ok (.aload_n 0, 1) := by decide +kernel
theorem dX0_put_16 : decode cX0_put 16 = .ok (.getfield 21, 3) := by decide +kernel
theorem dX0_put_19 : decode cX0_put 19 = .ok (.sipush 512, 3) := by decide +kernel
theorem dX0_put_22 : decode cX0_put 22 = .ok (.if_icmp .lt 5, 3) := by decide +kernel
theorem dX0_put_25 : decode cX0_put 25 = .ok (.iconst 0, 1) := by decide +kernel
theorem dX0_put_26 : decode cX0_put 26 = .ok (.ireturn, 1) := by decide +kernel
theorem dX0_put_27 : decode cX0_put 27 = .ok (.aload_n 0, 1) := by decide +kernel
theorem dX0_put_28 : decode cX0_put 28 = .ok (.getfield 11, 3) := by decide +kernel
theorem dX0_put_31 : decode cX0_put 31 = .ok (.iload_n 3, 1) := by decide +kernel
theorem dX0_put_32 : decode cX0_put 32 = .ok (.iload_n 1, 1) := by decide +kernel
theorem dX0_put_33 : decode cX0_put 33 = .ok (.iconst 1, 1) := by decide +kernel
theorem dX0_put_34 : decode cX0_put 34 = .ok (.iadd, 1) := by decide +kernel
theorem dX0_put_35 : decode cX0_put 35 = .ok (.iastore, 1) := by decide +kernel
theorem dX0_put_36 : decode cX0_put 36 = .ok (.aload_n 0, 1) := by decide +kernel
theorem dX0_put_37 : decode cX0_put 37 = .ok (.getfield 18, 3) := by decide +kernel
theorem dX0_put_40 : decode cX0_put 40 = .ok (.aload_n 0, 1) := by decide +kernel
theorem dX0_put_41 : decode cX0_put 41 = .ok (.getfield 21, 3) := by decide +kernel
theorem dX0_put_44 : decode cX0_put 44 = .ok (.iload_n 3, 1) := by decide +kernel
theorem dX0_put_45 : decode cX0_put 45 = .ok (.iastore, 1) := by decide +kernel
theorem dX0_put_46 : decode cX0_put 46 = .ok (.aload_n 0, 1) := by decide +kernel
theorem dX0_put_47 : decode cX0_put 47 = .ok (.dup, 1) := by decide +kernel
theorem dX0_put_48 : decode cX0_put 48 = .ok (.getfield 21, 3) := by decide +kernel
theorem dX0_put_51 : decode cX0_put 51 = .ok (.iconst 1, 1) := by decide +kernel
theorem dX0_put_52 : decode cX0_put 52 = .ok (.iadd, 1) := by decide +kernel
theorem dX0_put_53 : decode cX0_put 53 = .ok (.putfield 21, 3) := by decide +kernel
theorem dX0_put_56 : decode cX0_put 56 = .ok (.aload_n 0, 1) := by decide +kernel
theorem dX0_put_57 : decode cX0_put 57 = .ok (.getfield 15, 3) := by decide +kernel
theorem dX0_put_60 : decode cX0_put 60 = .ok (.iload_n 3, 1) := by decide +kernel
theorem dX0_put_61 : decode cX0_put 61 = .ok (.iload_n 2, 1) := by decide +kernel
theorem dX0_put_62 : decode cX0_put 62 = .ok (.iastore, 1) := by decide +kernel
theorem dX0_put_63 : decode cX0_put 63 = .ok (.iconst 1, 1) := by decide +kernel
theorem dX0_put_64 : decode cX0_put 64 = .ok (.ireturn, 1) := by decide +kernel
theorem dX0_clear_0 : decode cX0_clear 0 = .ok (.iconst 0, 1) := by decide +kernel
theorem dX0_clear_1 : decode cX0_clear 1 = .ok (.istore_n 1, 1) := by decide +kernel
theorem dX0_clear_2 : decode cX0_clear 2 = .ok (.iload_n 1, 1) := by decide +kernel
theorem dX0_clear_3 : decode cX0_clear 3 = .ok (.aload_n 0, 1) := by decide +kernel
theorem dX0_clear_4 : decode cX0_clear 4 = .ok (.getfield 21, 3) := by decide +kernel
theorem dX0_clear_7 : decode cX0_clear 7 = .ok (.if_icmp .ge 21, 3) := by decide +kernel
theorem dX0_clear_10 : decode cX0_clear 10 = .ok (.aload_n 0, 1) := by decide +kernel
theorem dX0_clear_11 : decode cX0_clear 11 = .ok (.getfield 11, 3) := by decide +kernel
theorem dX0_clear_14 : decode cX0_clear 14 = .ok (.aload_n 0, 1) := by decide +kernel
theorem dX0_clear_15 : decode cX0_clear 15 = .ok (.getfield 18, 3) := by decide +kernel
theorem dX0_clear_18 : decode cX0_clear 18 = .ok (.iload_n 1, 1) := by decide +kernel
theorem dX0_clear_19 : decode cX0_clear 19 = .ok (.iaload, 1) := by decide +kernel
theorem dX0_clear_20 : decode cX0_clear 20 = .ok (.iconst 0, 1) := by decide +kernel
theorem dX0_clear_21 : decode cX0_clear 21 = .ok (.iastore, 1) := by decide +kernel
theorem dX0_clear_22 : decode cX0_clear 22 = .ok (.iinc 1 1, 3) := by decide +kernel
theorem dX0_clear_25 : decode cX0_clear 25 = .ok (.goto (-23), 3) := by decide +kernel
theorem dX0_clear_28 : decode cX0_clear 28 = .ok (.aload_n 0, 1) := by decide +kernel
theorem dX0_clear_29 : decode cX0_clear 29 = .ok (.iconst 0, 1) := by decide +kernel
theorem dX0_clear_30 : decode cX0_clear 30 = .ok (.putfield 21, 3) := by decide +kernel
theorem dX0_clear_33 : decode cX0_clear 33 = .ok (.return_, 1) := by decide +kernel
theorem dX0_slotOf_0 : decode cX0_slotOf 0 = .ok (.iload_n 1, 1) := by decide +kernel
theorem dX0_slotOf_1 : decode cX0_slotOf 1 = .ok (.ldc 29, 2) := by decide +kernel
theorem dX0_slotOf_3 : decode cX0_slotOf 3 = .ok (.imul, 1) := by decide +kernel
theorem dX0_slotOf_4 : decode cX0_slotOf 4 = .ok (.bipush 22, 2) := by decide +kernel
theorem dX0_slotOf_6 : decode cX0_slotOf 6 = .ok (.iushr, 1) := by decide +kernel
theorem dX0_slotOf_7 : decode cX0_slotOf 7 = .ok (.istore_n 2, 1) := by decide +kernel
theorem dX0_slotOf_8 : decode cX0_slotOf 8 = .ok (.iconst 0, 1) := by decide +kernel
theorem dX0_slotOf_9 : decode cX0_slotOf 9 = .ok (.istore_n 3, 1) := by decide +kernel
theorem dX0_slotOf_10 : decode cX0_slotOf 10 = .ok (.iload_n 3, 1) := by decide +kernel
theorem dX0_slotOf_11 : decode cX0_slotOf 11 = .ok (.sipush 1024, 3) := by decide +kernel
theorem dX0_slotOf_14 : decode cX0_slotOf 14 = .ok (.if_icmp .ge 38, 3) := by decide +kernel
theorem dX0_slotOf_17 : decode cX0_slotOf 17 = .ok (.aload_n 0, 1) := by decide +kernel
theorem dX0_slotOf_18 : decode cX0_slotOf 18 = .ok (.getfield 11, 3) := by decide +kernel
theorem dX0_slotOf_21 : decode cX0_slotOf 21 = .ok (.iload_n 2, 1) := by decide +kernel
theorem dX0_slotOf_22 : decode cX0_slotOf 22 = .ok (.iaload, 1) := by decide +kernel
theorem dX0_slotOf_23 : decode cX0_slotOf 23 = .ok (.ifCond .eq 29, 3) := by decide +kernel
theorem dX0_slotOf_26 : decode cX0_slotOf 26 = .ok (.aload_n 0, 1) := by decide +kernel
theorem dX0_slotOf_27 : decode cX0_slotOf 27 = .ok (.getfield 11, 3) := by decide +kernel
theorem dX0_slotOf_30 : decode cX0_slotOf 30 = .ok (.iload_n 2, 1) := by decide +kernel
theorem dX0_slotOf_31 : decode cX0_slotOf 31 = .ok (.iaload, 1) := by decide +kernel
theorem dX0_slotOf_32 : decode cX0_slotOf 32 = .ok (.iload_n 1, 1) := by decide +kernel
theorem dX0_slotOf_33 : decode cX0_slotOf 33 = .ok (.iconst 1, 1) := by decide +kernel
theorem dX0_slotOf_34 : decode cX0_slotOf 34 = .ok (.iadd, 1) := by decide +kernel
theorem dX0_slotOf_35 : decode cX0_slotOf 35 = .ok (.if_icmp .eq 17, 3) := by decide +kernel
theorem dX0_slotOf_38 : decode cX0_slotOf 38 = .ok (.iload_n 2, 1) := by decide +kernel
theorem dX0_slotOf_39 : decode cX0_slotOf 39 = .ok (.iconst 1, 1) := by decide +kernel
theorem dX0_slotOf_40 : decode cX0_slotOf 40 = .ok (.iadd, 1) := by decide +kernel
theorem dX0_slotOf_41 : decode cX0_slotOf 41 = .ok (.sipush 1023, 3) := by decide +kernel
theorem dX0_slotOf_44 : decode cX0_slotOf 44 = .ok (.iand, 1) := by decide +kernel
theorem dX0_slotOf_45 : decode cX0_slotOf 45 = .ok (.istore_n 2, 1) := by decide +kernel
theorem dX0_slotOf_46 : decode cX0_slotOf 46 = .ok (.iinc 3 1, 3) := by decide +kernel
theorem dX0_slotOf_49 : decode cX0_slotOf 49 = .ok (.goto (-39), 3) := by decide +kernel
theorem dX0_slotOf_52 : decode cX0_slotOf 52 = .ok (.iload_n 2, 1) := by decide +kernel
theorem dX0_slotOf_53 : decode cX0_slotOf 53 = .ok (.ireturn, 1) := by decide +kernel
theorem dX1_init_0 : decode cX1_init 0 = .ok (.aload_n 0, 1) := by decide +kernel
theorem dX1_init_1 : decode cX1_init 1 = .ok (.invokespecial 3, 3) := by decide +kernel
theorem dX1_init_4 : decode cX1_init 4 = .ok (.aload_n 0, 1) := by decide +kernel
theorem dX1_init_5 : decode cX1_init 5 = .ok (.sipush 512, 3) := by decide +kernel
theorem dX1_init_8 : decode cX1_init 8 = .ok (.newarray .long, 2) := by decide +kernel
theorem dX1_init_10 : decode cX1_init 10 = .ok (.putfield 9, 3) := by decide +kernel
theorem dX1_init_13 : decode cX1_init 13 = .ok (.aload_n 0, 1) := by decide +kernel
theorem dX1_init_14 : decode cX1_init 14 = .ok (.sipush 512, 3) := by decide +kernel
theorem dX1_init_17 : decode cX1_init 17 = .ok (.newarray .int, 2) := by decide +kernel
theorem dX1_init_19 : decode cX1_init 19 = .ok (.putfield 15, 3) := by decide +kernel
theorem dX1_init_22 : decode cX1_init 22 = .ok (.aload_n 0, 1) := by decide +kernel
theorem dX1_init_23 : decode cX1_init 23 = .ok (.sipush 512, 3) := by decide +kernel
theorem dX1_init_26 : decode cX1_init 26 = .ok (.newarray .int, 2) := by decide +kernel
theorem dX1_init_28 : decode cX1_init 28 = .ok (.putfield 19, 3) := by decide +kernel
theorem dX1_init_31 : decode cX1_init 31 = .ok (.aload_n 0, 1) := by decide +kernel
theorem dX1_init_32 : decode cX1_init 32 = .ok (.sipush 512, 3) := by decide +kernel
theorem dX1_init_35 : decode cX1_init 35 = .ok (.newarray .int, 2) := by decide +kernel
theorem dX1_init_37 : decode cX1_init 37 = .ok (.putfield 22, 3) := by decide +kernel
theorem dX1_init_40 : decode cX1_init 40 = .ok (.return_, 1) := by decide +kernel
theorem dX1_clear_0 : decode cX1_clear 0 = .ok (.aload_n 0, 1) := by decide +kernel
theorem dX1_clear_1 : decode cX1_clear 1 = .ok (.iconst 0, 1) := by decide +kernel
theorem dX1_clear_2 : decode cX1_clear 2 = .ok (.putfield 25, 3) := by decide +kernel
theorem dX1_clear_5 : decode cX1_clear 5 = .ok (.aload_n 0, 1) := by decide +kernel
theorem dX1_clear_6 : decode cX1_clear 6 = .ok (.iconst 0, 1) := by decide +kernel
theorem dX1_clear_7 : decode cX1_clear 7 = .ok (.putfield 29, 3) := by decide +kernel
theorem dX1_clear_10 : decode cX1_clear 10 = .ok (.return_, 1) := by decide +kernel
theorem dX1_total_0 : decode cX1_total 0 = .ok (.aload_n 0, 1) := by decide +kernel
theorem dX1_total_1 : decode cX1_total 1 = .ok (.getfield 29, 3) := by decide +kernel
theorem dX1_total_4 : decode cX1_total 4 = .ok (.ireturn, 1) := by decide +kernel
theorem dX1_groupCount_0 : decode cX1_groupCount 0 = .ok (.aload_n 0, 1) := by decide +kernel
theorem dX1_groupCount_1 : decode cX1_groupCount 1 = .ok (.getfield 25, 3) := by decide +kernel
theorem dX1_groupCount_4 : decode cX1_groupCount 4 = .ok (.ireturn, 1) := by decide +kernel
set_option maxRecDepth 20000 in
theorem ggX1_pointOf_X1_hasGroup : GoodIn wsX1_pointOf wsX1_hasGroup := goodIn_r _ [6, 7, 8, 9, 10, 11, 12, 13] (by decide +kernel) (by decide +kernel)
set_option maxRecDepth 20000 in
theorem gX1_pointOf_X1_hasGroup : GoodIn wsX1_pointOf (wsV RX1 32 RX1 yX1_hasGroup wsX1_hasGroup) := goodIn_app (goodIn_of _ (by decide +kernel)) ggX1_pointOf_X1_hasGroup
theorem dX1_pointOf_0 : decode cX1_pointOf 0 = .ok (.aload_n 0, 1) := by decide +kernel
theorem dX1_pointOf_1 : decode cX1_pointOf 1 = .ok (.iload_n 1, 1) := by decide +kernel
theorem dX1_pointOf_2 : decode cX1_pointOf 2 = .ok (.invokevirtual 32, 3) := by decide +kernel
theorem dX1_pointOf_5 : decode cX1_pointOf 5 = .ok (.ifCond .eq 12, 3) := by decide +kernel
theorem dX1_pointOf_8 : decode cX1_pointOf 8 = .ok (.aload_n 0, 1) := by decide +kernel
theorem dX1_pointOf_9 : decode cX1_pointOf 9 = .ok (.getfield 9, 3) := by decide +kernel
theorem dX1_pointOf_12 : decode cX1_pointOf 12 = .ok (.iload_n 1, 1) := by decide +kernel
theorem dX1_pointOf_13 : decode cX1_pointOf 13 = .ok (.laload, 1) := by decide +kernel
theorem dX1_pointOf_14 : decode cX1_pointOf 14 = .ok (.goto 4, 3) := by decide +kernel
theorem dX1_pointOf_17 : decode cX1_pointOf 17 = .ok (.lconst 0, 1) := by decide +kernel
theorem dX1_pointOf_18 : decode cX1_pointOf 18 = .ok (.lreturn, 1) := by decide +kernel
set_option maxRecDepth 20000 in
theorem ggX1_countOf_X1_hasGroup : GoodIn wsX1_countOf wsX1_hasGroup := goodIn_r _ [6, 7, 8, 9, 10, 11, 12, 13] (by decide +kernel) (by decide +kernel)
set_option maxRecDepth 20000 in
theorem gX1_countOf_X1_hasGroup : GoodIn wsX1_countOf (wsV RX1 32 RX1 yX1_hasGroup wsX1_hasGroup) := goodIn_app (goodIn_of _ (by decide +kernel)) ggX1_countOf_X1_hasGroup
theorem dX1_countOf_0 : decode cX1_countOf 0 = .ok (.aload_n 0, 1) := by decide +kernel
theorem dX1_countOf_1 : decode cX1_countOf 1 = .ok (.iload_n 1, 1) := by decide +kernel
theorem dX1_countOf_2 : decode cX1_countOf 2 = .ok (.invokevirtual 32, 3) := by decide +kernel
theorem dX1_countOf_5 : decode cX1_countOf 5 = .ok (.ifCond .eq 12, 3) := by decide +kernel
theorem dX1_countOf_8 : decode cX1_countOf 8 = .ok (.aload_n 0, 1) := by decide +kernel
theorem dX1_countOf_9 : decode cX1_countOf 9 = .ok (.getfield 19, 3) := by decide +kernel
theorem dX1_countOf_12 : decode cX1_countOf 12 = .ok (.iload_n 1, 1) := by decide +kernel
theorem dX1_countOf_13 : decode cX1_countOf 13 = .ok (.iaload, 1) := by decide +kernel
theorem dX1_countOf_14 : decode cX1_countOf 14 = .ok (.goto 4, 3) := by decide +kernel
theorem dX1_countOf_17 : decode cX1_countOf 17 = .ok (.iconst 0, 1) := by decide +kernel
theorem dX1_countOf_18 : decode cX1_countOf 18 = .ok (.ireturn, 1) := by decide +kernel
theorem dX1_hasRoom_0 : decode cX1_hasRoom 0 = .ok (.aload_n 0, 1) := by decide +kernel
theorem dX1_hasRoom_1 : decode cX1_hasRoom 1 = .ok (.getfield 29, 3) := by decide +kernel
theorem dX1_hasRoom_4 : decode cX1_hasRoom 4 = .ok (.iload_n 1, 1) := by decide +kernel
theorem dX1_hasRoom_5 : decode cX1_hasRoom 5 = .ok (.iadd, 1) := by decide +kernel
theorem dX1_hasRoom_6 : decode cX1_hasRoom 6 = .ok (.sipush 4000, 3) := by decide +kernel
theorem dX1_hasRoom_9 : decode cX1_hasRoom 9 = .ok (.if_icmp .gt 21, 3) := by decide +kernel
theorem dX1_hasRoom_12 : decode cX1_hasRoom 12 = .ok (.iload_n 1, 1) := by decide +kernel
theorem dX1_hasRoom_13 : decode cX1_hasRoom 13 = .ok (.ifCond .eq 13, 3) := by decide +kernel
theorem dX1_hasRoom_16 : decode cX1_hasRoom 16 = .ok (.aload_n 0, 1) := by decide +kernel
theorem dX1_hasRoom_17 : decode cX1_hasRoom 17 = .ok (.getfield 25, 3) := by decide +kernel
theorem dX1_hasRoom_20 : decode cX1_hasRoom 20 = .ok (.sipush 512, 3) := by decide +kernel
theorem dX1_hasRoom_23 : decode cX1_hasRoom 23 = .ok (.if_icmp .ge 7, 3) := by decide +kernel
theorem dX1_hasRoom_26 : decode cX1_hasRoom 26 = .ok (.iconst 1, 1) := by decide +kernel
theorem dX1_hasRoom_27 : decode cX1_hasRoom 27 = .ok (.goto 4, 3) := by decide +kernel
theorem dX1_hasRoom_30 : decode cX1_hasRoom 30 = .ok (.iconst 0, 1) := by decide +kernel
theorem dX1_hasRoom_31 : decode cX1_hasRoom 31 = .ok (.ireturn, 1) := by decide +kernel
set_option maxRecDepth 20000 in
theorem ggX1_add_X1_hasRoom : GoodIn wsX1_add wsX1_hasRoom := goodIn_r _ [10, 4, 2, 16, 17, 18, 19, 20, 21] (by decide +kernel) (by decide +kernel)
set_option maxRecDepth 20000 in
theorem gX1_add_X1_hasRoom : GoodIn wsX1_add (wsV RX1 36 RX1 yX1_hasRoom wsX1_hasRoom) := goodIn_app (goodIn_of _ (by decide +kernel)) ggX1_add_X1_hasRoom
set_option maxRecDepth 20000 in
theorem ggX1_add_X1_putSorted : GoodIn wsX1_add wsX1_putSorted := goodIn_r _ [14, 1, 15, 16, 17, 18, 19, 20, 21] (by decide +kernel) (by decide +kernel)
set_option maxRecDepth 20000 in
theorem gX1_add_X1_putSorted : GoodIn wsX1_add (wsV RX1 39 RX1 yX1_putSorted wsX1_putSorted) := goodIn_app (goodIn_of _ (by decide +kernel)) ggX1_add_X1_putSorted
theorem dX1_add_0 : decode cX1_add 0 = .ok (.iload_n 3, 1) := by decide +kernel
theorem dX1_add_1 : decode cX1_add 1 = .ok (.iconst 1, 1) := by decide +kernel
theorem dX1_add_2 : decode cX1_add 2 = .ok (.if_icmp .lt 11, 3) := by decide +kernel
theorem dX1_add_5 : decode cX1_add 5 = .ok (.aload_n 0, 1) := by decide +kernel
theorem dX1_add_6 : decode cX1_add 6 = .ok (.iload_n 3, 1) := by decide +kernel
theorem dX1_add_7 : decode cX1_add 7 = .ok (.invokevirtual 36, 3) := by decide +kernel
theorem dX1_add_10 : decode cX1_add 10 = .ok (.ifCond .ne 4, 3) := by decide +kernel
theorem dX1_add_13 : decode cX1_add 13 = .ok (.return_, 1) := by decide +kernel
theorem dX1_add_14 : decode cX1_add 14 = .ok (.aload_n 0, 1) := by decide +kernel
theorem dX1_add_15 : decode cX1_add 15 = .ok (.getfield 9, 3) := by decide +kernel
theorem dX1_add_18 : decode cX1_add 18 = .ok (.aload_n 0, 1) := by decide +kernel
theorem dX1_add_19 : decode cX1_add 19 = .ok (.getfield 25, 3) := by decide +kernel
theorem dX1_add_22 : decode cX1_add 22 = .ok (.lload_n 1, 1) := by decide +kernel
theorem dX1_add_23 : decode cX1_add 23 = .ok (.lastore, 1) := by decide +kernel
theorem dX1_add_24 : decode cX1_add 24 = .ok (.aload_n 0, 1) := by decide +kernel
theorem dX1_add_25 : decode cX1_add 25 = .ok (.getfield 15, 3) := by decide +kernel
theorem dX1_add_28 : decode cX1_add 28 = .ok (.aload_n 0, 1) := by decide +kernel
theorem dX1_add_29 : decode cX1_add 29 = .ok (.getfield 25, 3) := by decide +kernel
theorem dX1_add_32 : decode cX1_add 32 = .ok (.aload_n 0, 1) := by decide +kernel
theorem dX1_add_33 : decode cX1_add 33 = .ok (.getfield 29, 3) := by decide +kernel
theorem dX1_add_36 : decode cX1_add 36 = .ok (.iastore, 1) := by decide +kernel
theorem dX1_add_37 : decode cX1_add 37 = .ok (.aload_n 0, 1) := by decide +kernel
theorem dX1_add_38 : decode cX1_add 38 = .ok (.getfield 19, 3) := by decide +kernel
theorem dX1_add_41 : decode cX1_add 41 = .ok (.aload_n 0, 1) := by decide +kernel
theorem dX1_add_42 : decode cX1_add 42 = .ok (.getfield 25, 3) := by decide +kernel
theorem dX1_add_45 : decode cX1_add 45 = .ok (.iload_n 3, 1) := by decide +kernel
theorem dX1_add_46 : decode cX1_add 46 = .ok (.iastore, 1) := by decide +kernel
theorem dX1_add_47 : decode cX1_add 47 = .ok (.aload_n 0, 1) := by decide +kernel
theorem dX1_add_48 : decode cX1_add 48 = .ok (.aload_n 0, 1) := by decide +kernel
theorem dX1_add_49 : decode cX1_add 49 = .ok (.getfield 25, 3) := by decide +kernel
theorem dX1_add_52 : decode cX1_add 52 = .ok (.invokevirtual 39, 3) := by decide +kernel
theorem dX1_add_55 : decode cX1_add 55 = .ok (.aload_n 0, 1) := by decide +kernel
theorem dX1_add_56 : decode cX1_add 56 = .ok (.dup, 1) := by decide +kernel
theorem dX1_add_57 : decode cX1_add 57 = .ok (.getfield 25, 3) := by decide +kernel
theorem dX1_add_60 : decode cX1_add 60 = .ok (.iconst 1, 1) := by decide +kernel
theorem dX1_add_61 : decode cX1_add 61 = .ok (.iadd, 1) := by decide +kernel
theorem dX1_add_62 : decode cX1_add 62 = .ok (.putfield 25, 3) := by decide +kernel
theorem dX1_add_65 : decode cX1_add 65 = .ok (.aload_n 0, 1) := by decide +kernel
theorem dX1_add_66 : decode cX1_add 66 = .ok (.dup, 1) := by decide +kernel
theorem dX1_add_67 : decode cX1_add 67 = .ok (.getfield 29, 3) := by decide +kernel
theorem dX1_add_70 : decode cX1_add 70 = .ok (.iload_n 3, 1) := by decide +kernel
theorem dX1_add_71 : decode cX1_add 71 = .ok (.iadd, 1) := by decide +kernel
theorem dX1_add_72 : decode cX1_add 72 = .ok (.putfield 29, 3) := by decide +kernel
theorem dX1_add_75 : decode cX1_add 75 = .ok (.return_, 1) := by decide +kernel
theorem dX1_itemAt_0 : decode cX1_itemAt 0 = .ok (.iconst 0, 1) := by decide +kernel
theorem dX1_itemAt_1 : decode cX1_itemAt 1 = .ok (.istore_n 2, 1) := by decide +kernel
theorem dX1_itemAt_2 : decode cX1_itemAt 2 = .ok (.iconst 0, 1) := by decide +kernel
theorem dX1_itemAt_3 : decode cX1_itemAt 3 = .ok (.istore_n 3, 1) := by decide +kernel
theorem dX1_itemAt_4 : decode cX1_itemAt 4 = .ok (.iload_n 3, 1) := by decide +kernel
theorem dX1_itemAt_5 : decode cX1_itemAt 5 = .ok (.aload_n 0, 1) := by decide +kernel
theorem dX1_itemAt_6 : decode cX1_itemAt 6 = .ok (.getfield 25, 3) := by decide +kernel
theorem dX1_itemAt_9 : decode cX1_itemAt 9 = .ok (.if_icmp .ge 52, 3) := by decide +kernel
theorem dX1_itemAt_12 : decode cX1_itemAt 12 = .ok (.aload_n 0, 1) := by decide +kernel
theorem dX1_itemAt_13 : decode cX1_itemAt 13 = .ok (.getfield 22, 3) := by decide +kernel
theorem dX1_itemAt_16 : decode cX1_itemAt 16 = .ok (.iload_n 3, 1) := by decide +kernel
theorem dX1_itemAt_17 : decode cX1_itemAt 17 = .ok (.iaload, 1) := by decide +kernel
theorem dX1_itemAt_18 : decode cX1_itemAt 18 = .ok (.istore 4, 2) := by decide +kernel
theorem dX1_itemAt_20 : decode cX1_itemAt 20 = .ok (.iload_n 1, 1) := by decide +kernel
theorem dX1_itemAt_21 : decode cX1_itemAt 21 = .ok (.iload_n 2, 1) := by decide +kernel
theorem dX1_itemAt_22 : decode cX1_itemAt 22 = .ok (.aload_n 0, 1) := by decide +kernel
theorem dX1_itemAt_23 : decode cX1_itemAt 23 = .ok (.getfield 19, 3) := by decide +kernel
theorem dX1_itemAt_26 : decode cX1_itemAt 26 = .ok (.iload 4, 2) := by decide +kernel
theorem dX1_itemAt_28 : decode cX1_itemAt 28 = .ok (.iaload, 1) := by decide +kernel
theorem dX1_itemAt_29 : decode cX1_itemAt 29 = .ok (.iadd, 1) := by decide +kernel
theorem dX1_itemAt_30 : decode cX1_itemAt 30 = .ok (.if_icmp .ge 15, 3) := by decide +kernel
theorem dX1_itemAt_33 : decode cX1_itemAt 33 = .ok (.aload_n 0, 1) := by decide +kernel
theorem dX1_itemAt_34 : decode cX1_itemAt 34 = .ok (.getfield 15, 3) := by decide +kernel
theorem dX1_itemAt_37 : decode cX1_itemAt 37 = .ok (.iload 4, 2) := by decide +kernel
theorem dX1_itemAt_39 : decode cX1_itemAt 39 = .ok (.iaload, 1) := by decide +kernel
theorem dX1_itemAt_40 : decode cX1_itemAt 40 = .ok (.iload_n 1, 1) := by decide +kernel
theorem dX1_itemAt_41 : decode cX1_itemAt 41 = .ok (.iadd, 1) := by decide +kernel
theorem dX1_itemAt_42 : decode cX1_itemAt 42 = .ok (.iload_n 2, 1) := by decide +kernel
theorem dX1_itemAt_43 : decode cX1_itemAt 43 = .ok (.isub, 1) := by decide +kernel
theorem dX1_itemAt_44 : decode cX1_itemAt 44 = .ok (.ireturn, 1) := by decide +kernel
theorem dX1_itemAt_45 : decode cX1_itemAt 45 = .ok (.iload_n 2, 1) := by decide +kernel
theorem dX1_itemAt_46 : decode cX1_itemAt 46 = .ok (.aload_n 0, 1) := by decide +kernel
theorem dX1_itemAt_47 : decode cX1_itemAt 47 = .ok (.getfield 19, 3) := by decide +kernel
theorem dX1_itemAt_50 : decode cX1_itemAt 50 = .ok (.iload 4, 2) := by decide +kernel
theorem dX1_itemAt_52 : decode cX1_itemAt 52 = .ok (.iaload, 1) := by decide +kernel
theorem dX1_itemAt_53 : decode cX1_itemAt 53 = .ok (.iadd, 1) := by decide +kernel
theorem dX1_itemAt_54 : decode cX1_itemAt 54 = .ok (.istore_n 2, 1) := by decide +kernel
theorem dX1_itemAt_55 : decode cX1_itemAt 55 = .ok (.iinc 3 1, 3) := by decide +kernel
theorem dX1_itemAt_58 : decode cX1_itemAt 58 = .ok (.goto (-54), 3) := by decide +kernel
theorem dX1_itemAt_61 : decode cX1_itemAt 61 = .ok (.iconst (-1), 1) := by decide +kernel
theorem dX1_itemAt_62 : decode cX1_itemAt 62 = .ok (.ireturn, 1) := by decide +kernel
set_option maxRecDepth 20000 in
theorem ggX1_placeOf_X1_groupOf : GoodIn wsX1_placeOf wsX1_groupOf := goodIn_r _ [9, 3, 2, 18, 19, 20, 21, 22, 23] (by decide +kernel) (by decide +kernel)
set_option maxRecDepth 20000 in
theorem gX1_placeOf_X1_groupOf : GoodIn wsX1_placeOf (wsV RX1 43 RX1 yX1_groupOf wsX1_groupOf) := goodIn_app (goodIn_of _ (by decide +kernel)) ggX1_placeOf_X1_groupOf
set_option maxRecDepth 20000 in
theorem ggX1_placeOf_X1_hasGroup : GoodIn wsX1_placeOf wsX1_hasGroup := goodIn_r _ [13, 3, 18, 19, 20, 21, 22, 23] (by decide +kernel) (by decide +kernel)
set_option maxRecDepth 20000 in
theorem gX1_placeOf_X1_hasGroup : GoodIn wsX1_placeOf (wsV RX1 32 RX1 yX1_hasGroup wsX1_hasGroup) := goodIn_app (goodIn_of _ (by decide +kernel)) ggX1_placeOf_X1_hasGroup
set_option maxRecDepth 20000 in
theorem ggX1_placeOf_X3_remainder : GoodIn wsX1_placeOf wsX3_remainder := goodIn_r _ [17] (by decide +kernel) (by decide +kernel)
set_option maxRecDepth 20000 in
theorem gX1_placeOf_X3_remainder : GoodIn wsX1_placeOf (va_wsS RX1 47 yX3_remainder wsX3_remainder) := goodIn_app (goodIn_of _ (by decide +kernel)) ggX1_placeOf_X3_remainder
theorem dX1_placeOf_0 : decode cX1_placeOf 0 = .ok (.aload_n 0, 1) := by decide +kernel
theorem dX1_placeOf_1 : decode cX1_placeOf 1 = .ok (.iload_n 1, 1) := by decide +kernel
theorem dX1_placeOf_2 : decode cX1_placeOf 2 = .ok (.invokevirtual 43, 3) := by decide +kernel
theorem dX1_placeOf_5 : decode cX1_placeOf 5 = .ok (.istore 4, 2) := by decide +kernel
theorem dX1_placeOf_7 : decode cX1_placeOf 7 = .ok (.aload_n 0, 1) := by decide +kernel
theorem dX1_placeOf_8 : decode cX1_placeOf 8 = .ok (.iload 4, 2) := by decide +kernel
theorem dX1_placeOf_10 : decode cX1_placeOf 10 = .ok (.invokevirtual 32, 3) := by decide +kernel
theorem dX1_placeOf_13 : decode cX1_placeOf 13 = .ok (.ifCond .ne 5, 3) := by decide +kernel
theorem dX1_placeOf_16 : decode cX1_placeOf 16 = .ok (.iconst (-1), 1) := by decide +kernel
theorem dX1_placeOf_17 : decode cX1_placeOf 17 = .ok (.ireturn, 1) := by decide +kernel
theorem dX1_placeOf_18 : decode cX1_placeOf 18 = .ok (.aload_n 0, 1) := by decide +kernel
theorem dX1_placeOf_19 : decode cX1_placeOf 19 = .ok (.getfield 9, 3) := by decide +kernel
theorem dX1_placeOf_22 : decode cX1_placeOf 22 = .ok (.iload 4, 2) := by decide +kernel
theorem dX1_placeOf_24 : decode cX1_placeOf 24 = .ok (.laload, 1) := by decide +kernel
theorem dX1_placeOf_25 : decode cX1_placeOf 25 = .ok (.lload_n 2, 1) := by decide +kernel
theorem dX1_placeOf_26 : decode cX1_placeOf 26 = .ok (.invokestatic 47, 3) := by decide +kernel
theorem dX1_placeOf_29 : decode cX1_placeOf 29 = .ok (.lstore 5, 2) := by decide +kernel
theorem dX1_placeOf_31 : decode cX1_placeOf 31 = .ok (.iload_n 1, 1) := by decide +kernel
theorem dX1_placeOf_32 : decode cX1_placeOf 32 = .ok (.aload_n 0, 1) := by decide +kernel
theorem dX1_placeOf_33 : decode cX1_placeOf 33 = .ok (.getfield 15, 3) := by decide +kernel
theorem dX1_placeOf_36 : decode cX1_placeOf 36 = .ok (.iload 4, 2) := by decide +kernel
theorem dX1_placeOf_38 : decode cX1_placeOf 38 = .ok (.iaload, 1) := by decide +kernel
theorem dX1_placeOf_39 : decode cX1_placeOf 39 = .ok (.isub, 1) := by decide +kernel
theorem dX1_placeOf_40 : decode cX1_placeOf 40 = .ok (.istore 7, 2) := by decide +kernel
theorem dX1_placeOf_42 : decode cX1_placeOf 42 = .ok (.iconst 0, 1) := by decide +kernel
theorem dX1_placeOf_43 : decode cX1_placeOf 43 = .ok (.istore 8, 2) := by decide +kernel
theorem dX1_placeOf_45 : decode cX1_placeOf 45 = .ok (.iload 8, 2) := by decide +kernel
theorem dX1_placeOf_47 : decode cX1_placeOf 47 = .ok (.aload_n 0, 1) := by decide +kernel
theorem dX1_placeOf_48 : decode cX1_placeOf 48 = .ok (.getfield 25, 3) := by decide +kernel
theorem dX1_placeOf_51 : decode cX1_placeOf 51 = .ok (.if_icmp .ge 57, 3) := by decide +kernel
theorem dX1_placeOf_54 : decode cX1_placeOf 54 = .ok (.aload_n 0, 1) := by decide +kernel
theorem dX1_placeOf_55 : decode cX1_placeOf 55 = .ok (.getfield 9, 3) := by decide +kernel
theorem dX1_placeOf_58 : decode cX1_placeOf 58 = .ok (.iload 8, 2) := by decide +kernel
theorem dX1_placeOf_60 : decode cX1_placeOf 60 = .ok (.laload, 1) := by decide +kernel
theorem dX1_placeOf_61 : decode cX1_placeOf 61 = .ok (.lload_n 2, 1) := by decide +kernel
theorem dX1_placeOf_62 : decode cX1_placeOf 62 = .ok (.invokestatic 47, 3) := by decide +kernel
theorem dX1_placeOf_65 : decode cX1_placeOf 65 = .ok (.lstore 9, 2) := by decide +kernel
theorem dX1_placeOf_67 : decode cX1_placeOf 67 = .ok (.lload 9, 2) := by decide +kernel
theorem dX1_placeOf_69 : decode cX1_placeOf 69 = .ok (.lload 5, 2) := by decide +kernel
theorem dX1_placeOf_71 : decode cX1_placeOf 71 = .ok (.lcmp, 1) := by decide +kernel
theorem dX1_placeOf_72 : decode cX1_placeOf 72 = .ok (.ifCond .lt 18, 3) := by decide +kernel
theorem dX1_placeOf_75 : decode cX1_placeOf 75 = .ok (.lload 9, 2) := by decide +kernel
theorem dX1_placeOf_77 : decode cX1_placeOf 77 = .ok (.lload 5, 2) := by decide +kernel
theorem dX1_placeOf_79 : decode cX1_placeOf 79 = .ok (.lcmp, 1) := by decide +kernel
theorem dX1_placeOf_80 : decode cX1_placeOf 80 = .ok (.ifCond .ne 22, 3) := by decide +kernel
theorem dX1_placeOf_83 : decode cX1_placeOf 83 = .ok (.iload 8, 2) := by decide +kernel
theorem dX1_placeOf_85 : decode cX1_placeOf 85 = .ok (.iload 4, 2) := by decide +kernel
theorem dX1_placeOf_87 : decode cX1_placeOf 87 = .ok (.if_icmp .ge 15, 3) := by decide +kernel
theorem dX1_placeOf_90 : decode cX1_placeOf 90 = .ok (.iload 7, 2) := by decide +kernel
theorem dX1_placeOf_92 : decode cX1_placeOf 92 = .ok (.aload_n 0, 1) := by decide +kernel
theorem dX1_placeOf_93 : decode cX1_placeOf 93 = .ok (.getfield 19, 3) := by decide +kernel
theorem dX1_placeOf_96 : decode cX1_placeOf 96 = .ok (.iload 8, 2) := by decide +kernel
theorem dX1_placeOf_98 : decode cX1_placeOf 98 = .ok (.iaload, 1) := by decide +kernel
theorem dX1_placeOf_99 : decode cX1_placeOf 99 = .ok (.iadd, 1) := by decide +kernel
theorem dX1_placeOf_100 : decode cX1_placeOf 100 = .ok (.istore 7, 2) := by decide +kernel
theorem dX1_placeOf_102 : decode cX1_placeOf 102 = .ok (.iinc 8 1, 3) := by decide +kernel
theorem dX1_placeOf_105 : decode cX1_placeOf 105 = .ok (.goto (-60), 3) := by decide +kernel
theorem dX1_placeOf_108 : decode cX1_placeOf 108 = .ok (.iload 7, 2) := by decide +kernel
theorem dX1_placeOf_110 : decode cX1_placeOf 110 = .ok (.ireturn, 1) := by decide +kernel
theorem dX1_hasGroup_0 : decode cX1_hasGroup 0 = .ok (.iload_n 1, 1) := by decide +kernel
theorem dX1_hasGroup_1 : decode cX1_hasGroup 1 = .ok (.ifCond .lt 15, 3) := by decide +kernel
theorem dX1_hasGroup_4 : decode cX1_hasGroup 4 = .ok (.iload_n 1, 1) := by decide +kernel
theorem dX1_hasGroup_5 : decode cX1_hasGroup 5 = .ok (.aload_n 0, 1) := by decide +kernel
theorem dX1_hasGroup_6 : decode cX1_hasGroup 6 = .ok (.getfield 25, 3) := by decide +kernel
theorem dX1_hasGroup_9 : decode cX1_hasGroup 9 = .ok (.if_icmp .ge 7, 3) := by decide +kernel
theorem dX1_hasGroup_12 : decode cX1_hasGroup 12 = .ok (.iconst 1, 1) := by decide +kernel
theorem dX1_hasGroup_13 : decode cX1_hasGroup 13 = .ok (.goto 4, 3) := by decide +kernel
theorem dX1_hasGroup_16 : decode cX1_hasGroup 16 = .ok (.iconst 0, 1) := by decide +kernel
theorem dX1_hasGroup_17 : decode cX1_hasGroup 17 = .ok (.ireturn, 1) := by decide +kernel
theorem dX1_groupOf_0 : decode cX1_groupOf 0 = .ok (.aload_n 0, 1) := by decide +kernel
theorem dX1_groupOf_1 : decode cX1_groupOf 1 = .ok (.getfield 25, 3) := by decide +kernel
theorem dX1_groupOf_4 : decode cX1_groupOf 4 = .ok (.iconst 1, 1) := by decide +kernel
theorem dX1_groupOf_5 : decode cX1_groupOf 5 = .ok (.isub, 1) := by decide +kernel
theorem dX1_groupOf_6 : decode cX1_groupOf 6 = .ok (.istore_n 2, 1) := by decide +kernel
theorem dX1_groupOf_7 : decode cX1_groupOf 7 = .ok (.iload_n 2, 1) := by decide +kernel
theorem dX1_groupOf_8 : decode cX1_groupOf 8 = .ok (.ifCond .le 19, 3) := by decide +kernel
end
section
theorem dX1_groupOf_11 : decode cX1_groupOf 11 = .ok (.aload_n 0, 1) := by decide +kernel
theorem dX1_groupOf_12 : decode cX1_groupOf 12 = .ok (.getfield 15, 3) := by decide +kernel
theorem dX1_groupOf_15 : decode cX1_groupOf 15 = .ok (.iload_n 2, 1) := by decide +kernel
theorem dX1_groupOf_16 : decode cX1_groupOf 16 = .ok (.iaload, 1) := by decide +kernel
theorem dX1_groupOf_17 : decode cX1_groupOf 17 = .ok (.iload_n 1, 1) := by decide +kernel
theorem dX1_groupOf_18 : decode cX1_groupOf 18 = .ok (.if_icmp .le 9, 3) := by decide +kernel
theorem dX1_groupOf_21 : decode cX1_groupOf 21 = .ok (.iinc 2 (-1), 3) := by decide +kernel
theorem dX1_groupOf_24 : decode cX1_groupOf 24 = .ok (.goto (-17), 3) := by decide +kernel
theorem dX1_groupOf_27 : decode cX1_groupOf 27 = .ok (.iload_n 2, 1) := by decide +kernel
theorem dX1_groupOf_28 : decode cX1_groupOf 28 = .ok (.ireturn, 1) := by decide +kernel
theorem dX1_putSorted_0 : decode cX1_putSorted 0 = .ok (.iload_n 1, 1) := by decide +kernel
theorem dX1_putSorted_1 : decode cX1_putSorted 1 = .ok (.istore_n 2, 1) := by decide +kernel
theorem dX1_putSorted_2 : decode cX1_putSorted 2 = .ok (.iload_n 2, 1) := by decide +kernel
theorem dX1_putSorted_3 : decode cX1_putSorted 3 = .ok (.ifCond .le 46, 3) := by decide +kernel
theorem dX1_putSorted_6 : decode cX1_putSorted 6 = .ok (.aload_n 0, 1) := by decide +kernel
theorem dX1_putSorted_7 : decode cX1_putSorted 7 = .ok (.getfield 9, 3) := by decide +kernel
theorem dX1_putSorted_10 : decode cX1_putSorted 10 = .ok (.aload_n 0, 1) := by decide +kernel
theorem dX1_putSorted_11 : decode cX1_putSorted 11 = .ok (.getfield 22, 3) := by decide +kernel
theorem dX1_putSorted_14 : decode cX1_putSorted 14 = .ok (.iload_n 2, 1) := by decide +kernel
theorem dX1_putSorted_15 : decode cX1_putSorted 15 = .ok (.iconst 1, 1) := by decide +kernel
theorem dX1_putSorted_16 : decode cX1_putSorted 16 = .ok (.isub, 1) := by decide +kernel
theorem dX1_putSorted_17 : decode cX1_putSorted 17 = .ok (.iaload, 1) := by decide +kernel
theorem dX1_putSorted_18 : decode cX1_putSorted 18 = .ok (.laload, 1) := by decide +kernel
theorem dX1_putSorted_19 : decode cX1_putSorted 19 = .ok (.aload_n 0, 1) := by decide +kernel
theorem dX1_putSorted_20 : decode cX1_putSorted 20 = .ok (.getfield 9, 3) := by decide +kernel
theorem dX1_putSorted_23 : decode cX1_putSorted 23 = .ok (.iload_n 1, 1) := by decide +kernel
theorem dX1_putSorted_24 : decode cX1_putSorted 24 = .ok (.laload, 1) := by decide +kernel
theorem dX1_putSorted_25 : decode cX1_putSorted 25 = .ok (.lcmp, 1) := by decide +kernel
theorem dX1_putSorted_26 : decode cX1_putSorted 26 = .ok (.ifCond .le 23, 3) := by decide +kernel
theorem dX1_putSorted_29 : decode cX1_putSorted 29 = .ok (.aload_n 0, 1) := by decide +kernel
theorem dX1_putSorted_30 : decode cX1_putSorted 30 = .ok (.getfield 22, 3) := by decide +kernel
theorem dX1_putSorted_33 : decode cX1_putSorted 33 = .ok (.iload_n 2, 1) := by decide +kernel
theorem dX1_putSorted_34 : decode cX1_putSorted 34 = .ok (.aload_n 0, 1) := by decide +kernel
theorem dX1_putSorted_35 : decode cX1_putSorted 35 = .ok (.getfield 22, 3) := by decide +kernel
theorem dX1_putSorted_38 : decode cX1_putSorted 38 = .ok (.iload_n 2, 1) := by decide +kernel
theorem dX1_putSorted_39 : decode cX1_putSorted 39 = .ok (.iconst 1, 1) := by decide +kernel
theorem dX1_putSorted_40 : decode cX1_putSorted 40 = .ok (.isub, 1) := by decide +kernel
theorem dX1_putSorted_41 : decode cX1_putSorted 41 = .ok (.iaload, 1) := by decide +kernel
theorem dX1_putSorted_42 : decode cX1_putSorted 42 = .ok (.iastore, 1) := by decide +kernel
theorem dX1_putSorted_43 : decode cX1_putSorted 43 = .ok (.iinc 2 (-1), 3) := by decide +kernel
theorem dX1_putSorted_46 : decode cX1_putSorted 46 = .ok (.goto (-44), 3) := by decide +kernel
theorem dX1_putSorted_49 : decode cX1_putSorted 49 = .ok (.aload_n 0, 1) := by decide +kernel
theorem dX1_putSorted_50 : decode cX1_putSorted 50 = .ok (.getfield 22, 3) := by decide +kernel
theorem dX1_putSorted_53 : decode cX1_putSorted 53 = .ok (.iload_n 2, 1) := by decide +kernel
theorem dX1_putSorted_54 : decode cX1_putSorted 54 = .ok (.iload_n 1, 1) := by decide +kernel
theorem dX1_putSorted_55 : decode cX1_putSorted 55 = .ok (.iastore, 1) := by decide +kernel
theorem dX1_putSorted_56 : decode cX1_putSorted 56 = .ok (.return_, 1) := by decide +kernel
theorem dX2_init_0 : decode cX2_init 0 = .ok (.aload_n 0, 1) := by decide +kernel
theorem dX2_init_1 : decode cX2_init 1 = .ok (.invokespecial 3, 3) := by decide +kernel
theorem dX2_init_4 : decode cX2_init 4 = .ok (.aload_n 0, 1) := by decide +kernel
theorem dX2_init_5 : decode cX2_init 5 = .ok (.bipush 62, 2) := by decide +kernel
theorem dX2_init_7 : decode cX2_init 7 = .ok (.newarray .int, 2) := by decide +kernel
theorem dX2_init_9 : decode cX2_init 9 = .ok (.putfield 9, 3) := by decide +kernel
theorem dX2_init_12 : decode cX2_init 12 = .ok (.aload_n 0, 1) := by decide +kernel
theorem dX2_init_13 : decode cX2_init 13 = .ok (.bipush 63, 2) := by decide +kernel
theorem dX2_init_15 : decode cX2_init 15 = .ok (.newarray .long, 2) := by decide +kernel
theorem dX2_init_17 : decode cX2_init 17 = .ok (.putfield 15, 3) := by decide +kernel
theorem dX2_init_20 : decode cX2_init 20 = .ok (.aload_n 0, 1) := by decide +kernel
theorem dX2_init_21 : decode cX2_init 21 = .ok (.iload_n 1, 1) := by decide +kernel
theorem dX2_init_22 : decode cX2_init 22 = .ok (.putfield 19, 3) := by decide +kernel
theorem dX2_init_25 : decode cX2_init 25 = .ok (.return_, 1) := by decide +kernel
theorem dX2_isLaid_0 : decode cX2_isLaid 0 = .ok (.aload_n 0, 1) := by decide +kernel
theorem dX2_isLaid_1 : decode cX2_isLaid 1 = .ok (.getfield 23, 3) := by decide +kernel
theorem dX2_isLaid_4 : decode cX2_isLaid 4 = .ok (.lconst 0, 1) := by decide +kernel
theorem dX2_isLaid_5 : decode cX2_isLaid 5 = .ok (.lcmp, 1) := by decide +kernel
theorem dX2_isLaid_6 : decode cX2_isLaid 6 = .ok (.ifCond .le 7, 3) := by decide +kernel
theorem dX2_isLaid_9 : decode cX2_isLaid 9 = .ok (.iconst 1, 1) := by decide +kernel
theorem dX2_isLaid_10 : decode cX2_isLaid 10 = .ok (.goto 4, 3) := by decide +kernel
theorem dX2_isLaid_13 : decode cX2_isLaid 13 = .ok (.iconst 0, 1) := by decide +kernel
theorem dX2_isLaid_14 : decode cX2_isLaid 14 = .ok (.ireturn, 1) := by decide +kernel
theorem dX2_hasPoint_0 : decode cX2_hasPoint 0 = .ok (.lload_n 1, 1) := by decide +kernel
theorem dX2_hasPoint_1 : decode cX2_hasPoint 1 = .ok (.lconst 0, 1) := by decide +kernel
theorem dX2_hasPoint_2 : decode cX2_hasPoint 2 = .ok (.lcmp, 1) := by decide +kernel
theorem dX2_hasPoint_3 : decode cX2_hasPoint 3 = .ok (.ifCond .lt 16, 3) := by decide +kernel
theorem dX2_hasPoint_6 : decode cX2_hasPoint 6 = .ok (.lload_n 1, 1) := by decide +kernel
theorem dX2_hasPoint_7 : decode cX2_hasPoint 7 = .ok (.aload_n 0, 1) := by decide +kernel
theorem dX2_hasPoint_8 : decode cX2_hasPoint 8 = .ok (.getfield 23, 3) := by decide +kernel
theorem dX2_hasPoint_11 : decode cX2_hasPoint 11 = .ok (.lcmp, 1) := by decide +kernel
theorem dX2_hasPoint_12 : decode cX2_hasPoint 12 = .ok (.ifCond .ge 7, 3) := by decide +kernel
theorem dX2_hasPoint_15 : decode cX2_hasPoint 15 = .ok (.iconst 1, 1) := by decide +kernel
theorem dX2_hasPoint_16 : decode cX2_hasPoint 16 = .ok (.goto 4, 3) := by decide +kernel
theorem dX2_hasPoint_19 : decode cX2_hasPoint 19 = .ok (.iconst 0, 1) := by decide +kernel
theorem dX2_hasPoint_20 : decode cX2_hasPoint 20 = .ok (.ireturn, 1) := by decide +kernel
theorem dX2_hasPass_0 : decode cX2_hasPass 0 = .ok (.iload_n 1, 1) := by decide +kernel
theorem dX2_hasPass_1 : decode cX2_hasPass 1 = .ok (.ifCond .lt 15, 3) := by decide +kernel
theorem dX2_hasPass_4 : decode cX2_hasPass 4 = .ok (.iload_n 1, 1) := by decide +kernel
theorem dX2_hasPass_5 : decode cX2_hasPass 5 = .ok (.aload_n 0, 1) := by decide +kernel
theorem dX2_hasPass_6 : decode cX2_hasPass 6 = .ok (.getfield 27, 3) := by decide +kernel
theorem dX2_hasPass_9 : decode cX2_hasPass 9 = .ok (.if_icmp .ge 7, 3) := by decide +kernel
theorem dX2_hasPass_12 : decode cX2_hasPass 12 = .ok (.iconst 1, 1) := by decide +kernel
theorem dX2_hasPass_13 : decode cX2_hasPass 13 = .ok (.goto 4, 3) := by decide +kernel
theorem dX2_hasPass_16 : decode cX2_hasPass 16 = .ok (.iconst 0, 1) := by decide +kernel
theorem dX2_hasPass_17 : decode cX2_hasPass 17 = .ok (.ireturn, 1) := by decide +kernel
theorem dX2_passCount_0 : decode cX2_passCount 0 = .ok (.aload_n 0, 1) := by decide +kernel
theorem dX2_passCount_1 : decode cX2_passCount 1 = .ok (.getfield 27, 3) := by decide +kernel
theorem dX2_passCount_4 : decode cX2_passCount 4 = .ok (.ireturn, 1) := by decide +kernel
set_option maxRecDepth 20000 in
theorem ggX2_sizeOf_X2_hasPass : GoodIn wsX2_sizeOf wsX2_hasPass := goodIn_r _ [6, 7, 8, 9, 10, 11, 12] (by decide +kernel) (by decide +kernel)
set_option maxRecDepth 20000 in
theorem gX2_sizeOf_X2_hasPass : GoodIn wsX2_sizeOf (wsV RX2 30 RX2 yX2_hasPass wsX2_hasPass) := goodIn_app (goodIn_of _ (by decide +kernel)) ggX2_sizeOf_X2_hasPass
theorem dX2_sizeOf_0 : decode cX2_sizeOf 0 = .ok (.aload_n 0, 1) := by decide +kernel
theorem dX2_sizeOf_1 : decode cX2_sizeOf 1 = .ok (.iload_n 1, 1) := by decide +kernel
theorem dX2_sizeOf_2 : decode cX2_sizeOf 2 = .ok (.invokevirtual 30, 3) := by decide +kernel
theorem dX2_sizeOf_5 : decode cX2_sizeOf 5 = .ok (.ifCond .eq 12, 3) := by decide +kernel
theorem dX2_sizeOf_8 : decode cX2_sizeOf 8 = .ok (.aload_n 0, 1) := by decide +kernel
theorem dX2_sizeOf_9 : decode cX2_sizeOf 9 = .ok (.getfield 9, 3) := by decide +kernel
theorem dX2_sizeOf_12 : decode cX2_sizeOf 12 = .ok (.iload_n 1, 1) := by decide +kernel
theorem dX2_sizeOf_13 : decode cX2_sizeOf 13 = .ok (.iaload, 1) := by decide +kernel
theorem dX2_sizeOf_14 : decode cX2_sizeOf 14 = .ok (.goto 4, 3) := by decide +kernel
theorem dX2_sizeOf_17 : decode cX2_sizeOf 17 = .ok (.iconst 0, 1) := by decide +kernel
theorem dX2_sizeOf_18 : decode cX2_sizeOf 18 = .ok (.ireturn, 1) := by decide +kernel
set_option maxRecDepth 20000 in
theorem ggX2_spanBehind_X2_hasPass : GoodIn wsX2_spanBehind wsX2_hasPass := goodIn_r _ [6, 7, 8, 9, 10, 11, 12] (by decide +kernel) (by decide +kernel)
set_option maxRecDepth 20000 in
theorem gX2_spanBehind_X2_hasPass : GoodIn wsX2_spanBehind (wsV RX2 30 RX2 yX2_hasPass wsX2_hasPass) := goodIn_app (goodIn_of _ (by decide +kernel)) ggX2_spanBehind_X2_hasPass
theorem dX2_spanBehind_0 : decode cX2_spanBehind 0 = .ok (.aload_n 0, 1) := by decide +kernel
theorem dX2_spanBehind_1 : decode cX2_spanBehind 1 = .ok (.iload_n 1, 1) := by decide +kernel
theorem dX2_spanBehind_2 : decode cX2_spanBehind 2 = .ok (.invokevirtual 30, 3) := by decide +kernel
theorem dX2_spanBehind_5 : decode cX2_spanBehind 5 = .ok (.ifCond .eq 14, 3) := by decide +kernel
theorem dX2_spanBehind_8 : decode cX2_spanBehind 8 = .ok (.aload_n 0, 1) := by decide +kernel
theorem dX2_spanBehind_9 : decode cX2_spanBehind 9 = .ok (.getfield 15, 3) := by decide +kernel
theorem dX2_spanBehind_12 : decode cX2_spanBehind 12 = .ok (.iload_n 1, 1) := by decide +kernel
theorem dX2_spanBehind_13 : decode cX2_spanBehind 13 = .ok (.iconst 1, 1) := by decide +kernel
theorem dX2_spanBehind_14 : decode cX2_spanBehind 14 = .ok (.iadd, 1) := by decide +kernel
theorem dX2_spanBehind_15 : decode cX2_spanBehind 15 = .ok (.laload, 1) := by decide +kernel
theorem dX2_spanBehind_16 : decode cX2_spanBehind 16 = .ok (.goto 4, 3) := by decide +kernel
theorem dX2_spanBehind_19 : decode cX2_spanBehind 19 = .ok (.lconst 1, 1) := by decide +kernel
theorem dX2_spanBehind_20 : decode cX2_spanBehind 20 = .ok (.lreturn, 1) := by decide +kernel
set_option maxRecDepth 20000 in
theorem ggX2_binOf_X2_hasPass : GoodIn wsX2_binOf wsX2_hasPass := goodIn_r _ [7, 8, 16, 17, 18, 19, 20] (by decide +kernel) (by decide +kernel)
set_option maxRecDepth 20000 in
theorem gX2_binOf_X2_hasPass : GoodIn wsX2_binOf (wsV RX2 30 RX2 yX2_hasPass wsX2_hasPass) := goodIn_app (goodIn_of _ (by decide +kernel)) ggX2_binOf_X2_hasPass
set_option maxRecDepth 20000 in
theorem ggX2_binOf_X3_quotient : GoodIn wsX2_binOf wsX3_quotient := goodIn_r _ [12] (by decide +kernel) (by decide +kernel)
set_option maxRecDepth 20000 in
theorem gX2_binOf_X3_quotient : GoodIn wsX2_binOf (va_wsS RX2 34 yX3_quotient wsX3_quotient) := goodIn_app (goodIn_of _ (by decide +kernel)) ggX2_binOf_X3_quotient
set_option maxRecDepth 20000 in
theorem ggX2_binOf_X3_remainder : GoodIn wsX2_binOf wsX3_remainder := goodIn_r _ [15] (by decide +kernel) (by decide +kernel)
set_option maxRecDepth 20000 in
theorem gX2_binOf_X3_remainder : GoodIn wsX2_binOf (va_wsS RX2 40 yX3_remainder wsX3_remainder) := goodIn_app (goodIn_of _ (by decide +kernel)) ggX2_binOf_X3_remainder
theorem dX2_binOf_0 : decode cX2_binOf 0 = .ok (.aload_n 0, 1) := by decide +kernel
theorem dX2_binOf_1 : decode cX2_binOf 1 = .ok (.iload_n 3, 1) := by decide +kernel
theorem dX2_binOf_2 : decode cX2_binOf 2 = .ok (.invokevirtual 30, 3) := by decide +kernel
theorem dX2_binOf_5 : decode cX2_binOf 5 = .ok (.ifCond .eq 27, 3) := by decide +kernel
theorem dX2_binOf_8 : decode cX2_binOf 8 = .ok (.lload_n 1, 1) := by decide +kernel
theorem dX2_binOf_9 : decode cX2_binOf 9 = .ok (.aload_n 0, 1) := by decide +kernel
theorem dX2_binOf_10 : decode cX2_binOf 10 = .ok (.getfield 15, 3) := by decide +kernel
theorem dX2_binOf_13 : decode cX2_binOf 13 = .ok (.iload_n 3, 1) := by decide +kernel
theorem dX2_binOf_14 : decode cX2_binOf 14 = .ok (.laload, 1) := by decide +kernel
theorem dX2_binOf_15 : decode cX2_binOf 15 = .ok (.invokestatic 34, 3) := by decide +kernel
theorem dX2_binOf_18 : decode cX2_binOf 18 = .ok (.aload_n 0, 1) := by decide +kernel
theorem dX2_binOf_19 : decode cX2_binOf 19 = .ok (.getfield 9, 3) := by decide +kernel
theorem dX2_binOf_22 : decode cX2_binOf 22 = .ok (.iload_n 3, 1) := by decide +kernel
theorem dX2_binOf_23 : decode cX2_binOf 23 = .ok (.iaload, 1) := by decide +kernel
theorem dX2_binOf_24 : decode cX2_binOf 24 = .ok (.i2l, 1) := by decide +kernel
theorem dX2_binOf_25 : decode cX2_binOf 25 = .ok (.invokestatic 40, 3) := by decide +kernel
theorem dX2_binOf_28 : decode cX2_binOf 28 = .ok (.l2i, 1) := by decide +kernel
theorem dX2_binOf_29 : decode cX2_binOf 29 = .ok (.goto 4, 3) := by decide +kernel
theorem dX2_binOf_32 : decode cX2_binOf 32 = .ok (.iconst 0, 1) := by decide +kernel
theorem dX2_binOf_33 : decode cX2_binOf 33 = .ok (.ireturn, 1) := by decide +kernel
set_option maxRecDepth 20000 in
theorem ggX2_lay_X3_leastExponent : GoodIn wsX2_lay wsX3_leastExponent := goodIn_r _ [9, 10, 11, 8, 12, 13, 14, 15, 16] (by decide +kernel) (by decide +kernel)
set_option maxRecDepth 20000 in
theorem gX2_lay_X3_leastExponent : GoodIn wsX2_lay (va_wsS RX2 43 yX3_leastExponent wsX3_leastExponent) := goodIn_app (goodIn_of _ (by decide +kernel)) ggX2_lay_X3_leastExponent
set_option maxRecDepth 20000 in
theorem ggX2_lay_X2_leastSum : GoodIn wsX2_lay wsX2_leastSum := goodIn_r _ [21, 1, 3, 2, 22, 23, 24, 25, 26, 27, 8, 28, 29, 30, 31, 32, 10, 11, 12, 13, 14, 15, 16, 33, 34, 35, 36, 37, 38, 49, 50, 51, 52, 53] (by decide +kernel) (by decide +kernel)
set_option maxRecDepth 20000 in
theorem gX2_lay_X2_leastSum : GoodIn wsX2_lay (wsV RX2 47 RX2 yX2_leastSum wsX2_leastSum) := goodIn_app (goodIn_of _ (by decide +kernel)) ggX2_lay_X2_leastSum
set_option maxRecDepth 20000 in
theorem ggX2_lay_X2_leastSize : GoodIn wsX2_lay wsX2_leastSize := goodIn_r _ [42, 3, 43, 15, 8, 16, 44, 45, 46, 20, 47, 2, 4, 1, 33, 34, 35, 14, 36, 37, 38, 30, 31, 32, 10, 11, 12, 13, 48, 49, 50, 51, 52, 53] (by decide +kernel) (by decide +kernel)
set_option maxRecDepth 20000 in
theorem gX2_lay_X2_leastSize : GoodIn wsX2_lay (wsV RX2 51 RX2 yX2_leastSize wsX2_leastSize) := goodIn_app (goodIn_of _ (by decide +kernel)) ggX2_lay_X2_leastSize
theorem dX2_lay_0 : decode cX2_lay 0 = .ok (.aload_n 0, 1) := by decide +kernel
theorem dX2_lay_1 : decode cX2_lay 1 = .ok (.lload_n 1, 1) := by decide +kernel
theorem dX2_lay_2 : decode cX2_lay 2 = .ok (.putfield 23, 3) := by decide +kernel
theorem dX2_lay_5 : decode cX2_lay 5 = .ok (.aload_n 0, 1) := by decide +kernel
theorem dX2_lay_6 : decode cX2_lay 6 = .ok (.aload_n 0, 1) := by decide +kernel
theorem dX2_lay_7 : decode cX2_lay 7 = .ok (.getfield 19, 3) := by decide +kernel
theorem dX2_lay_10 : decode cX2_lay 10 = .ok (.i2l, 1) := by decide +kernel
theorem dX2_lay_11 : decode cX2_lay 11 = .ok (.lload_n 1, 1) := by decide +kernel
theorem dX2_lay_12 : decode cX2_lay 12 = .ok (.invokestatic 43, 3) := by decide +kernel
theorem dX2_lay_15 : decode cX2_lay 15 = .ok (.putfield 27, 3) := by decide +kernel
theorem dX2_lay_18 : decode cX2_lay 18 = .ok (.aload_n 0, 1) := by decide +kernel
theorem dX2_lay_19 : decode cX2_lay 19 = .ok (.getfield 15, 3) := by decide +kernel
theorem dX2_lay_22 : decode cX2_lay 22 = .ok (.iconst 0, 1) := by decide +kernel
theorem dX2_lay_23 : decode cX2_lay 23 = .ok (.lconst 1, 1) := by decide +kernel
theorem dX2_lay_24 : decode cX2_lay 24 = .ok (.lastore, 1) := by decide +kernel
theorem dX2_lay_25 : decode cX2_lay 25 = .ok (.aload_n 0, 1) := by decide +kernel
theorem dX2_lay_26 : decode cX2_lay 26 = .ok (.invokevirtual 47, 3) := by decide +kernel
theorem dX2_lay_29 : decode cX2_lay 29 = .ok (.istore_n 3, 1) := by decide +kernel
theorem dX2_lay_30 : decode cX2_lay 30 = .ok (.iconst 0, 1) := by decide +kernel
theorem dX2_lay_31 : decode cX2_lay 31 = .ok (.istore 4, 2) := by decide +kernel
theorem dX2_lay_33 : decode cX2_lay 33 = .ok (.iload 4, 2) := by decide +kernel
theorem dX2_lay_35 : decode cX2_lay 35 = .ok (.aload_n 0, 1) := by decide +kernel
theorem dX2_lay_36 : decode cX2_lay 36 = .ok (.getfield 27, 3) := by decide +kernel
theorem dX2_lay_39 : decode cX2_lay 39 = .ok (.if_icmp .ge 58, 3) := by decide +kernel
theorem dX2_lay_42 : decode cX2_lay 42 = .ok (.aload_n 0, 1) := by decide +kernel
theorem dX2_lay_43 : decode cX2_lay 43 = .ok (.getfield 9, 3) := by decide +kernel
theorem dX2_lay_46 : decode cX2_lay 46 = .ok (.iload 4, 2) := by decide +kernel
theorem dX2_lay_48 : decode cX2_lay 48 = .ok (.aload_n 0, 1) := by decide +kernel
theorem dX2_lay_49 : decode cX2_lay 49 = .ok (.iload 4, 2) := by decide +kernel
theorem dX2_lay_51 : decode cX2_lay 51 = .ok (.iload_n 3, 1) := by decide +kernel
theorem dX2_lay_52 : decode cX2_lay 52 = .ok (.invokevirtual 51, 3) := by decide +kernel
theorem dX2_lay_55 : decode cX2_lay 55 = .ok (.iastore, 1) := by decide +kernel
theorem dX2_lay_56 : decode cX2_lay 56 = .ok (.aload_n 0, 1) := by decide +kernel
theorem dX2_lay_57 : decode cX2_lay 57 = .ok (.getfield 15, 3) := by decide +kernel
theorem dX2_lay_60 : decode cX2_lay 60 = .ok (.iload 4, 2) := by decide +kernel
theorem dX2_lay_62 : decode cX2_lay 62 = .ok (.iconst 1, 1) := by decide +kernel
theorem dX2_lay_63 : decode cX2_lay 63 = .ok (.iadd, 1) := by decide +kernel
theorem dX2_lay_64 : decode cX2_lay 64 = .ok (.aload_n 0, 1) := by decide +kernel
theorem dX2_lay_65 : decode cX2_lay 65 = .ok (.getfield 15, 3) := by decide +kernel
theorem dX2_lay_68 : decode cX2_lay 68 = .ok (.iload 4, 2) := by decide +kernel
theorem dX2_lay_70 : decode cX2_lay 70 = .ok (.laload, 1) := by decide +kernel
theorem dX2_lay_71 : decode cX2_lay 71 = .ok (.aload_n 0, 1) := by decide +kernel
theorem dX2_lay_72 : decode cX2_lay 72 = .ok (.getfield 9, 3) := by decide +kernel
theorem dX2_lay_75 : decode cX2_lay 75 = .ok (.iload 4, 2) := by decide +kernel
theorem dX2_lay_77 : decode cX2_lay 77 = .ok (.iaload, 1) := by decide +kernel
theorem dX2_lay_78 : decode cX2_lay 78 = .ok (.i2l, 1) := by decide +kernel
theorem dX2_lay_79 : decode cX2_lay 79 = .ok (.lmul, 1) := by decide +kernel
theorem dX2_lay_80 : decode cX2_lay 80 = .ok (.lastore, 1) := by decide +kernel
theorem dX2_lay_81 : decode cX2_lay 81 = .ok (.iload_n 3, 1) := by decide +kernel
theorem dX2_lay_82 : decode cX2_lay 82 = .ok (.aload_n 0, 1) := by decide +kernel
theorem dX2_lay_83 : decode cX2_lay 83 = .ok (.getfield 9, 3) := by decide +kernel
theorem dX2_lay_86 : decode cX2_lay 86 = .ok (.iload 4, 2) := by decide +kernel
theorem dX2_lay_88 : decode cX2_lay 88 = .ok (.iaload, 1) := by decide +kernel
theorem dX2_lay_89 : decode cX2_lay 89 = .ok (.isub, 1) := by decide +kernel
theorem dX2_lay_90 : decode cX2_lay 90 = .ok (.istore_n 3, 1) := by decide +kernel
theorem dX2_lay_91 : decode cX2_lay 91 = .ok (.iinc 4 1, 3) := by decide +kernel
theorem dX2_lay_94 : decode cX2_lay 94 = .ok (.goto (-61), 3) := by decide +kernel
theorem dX2_lay_97 : decode cX2_lay 97 = .ok (.return_, 1) := by decide +kernel
set_option maxRecDepth 20000 in
theorem ggX2_leastSum_X3_leastBase : GoodIn wsX2_leastSum wsX3_leastBase := goodIn_r _ [11, 12, 13, 14, 10, 15, 16, 17, 18, 19, 20, 21, 22] (by decide +kernel) (by decide +kernel)
set_option maxRecDepth 20000 in
theorem gX2_leastSum_X3_leastBase : GoodIn wsX2_leastSum (va_wsS RX2 55 yX3_leastBase wsX3_leastBase) := goodIn_app (goodIn_of _ (by decide +kernel)) ggX2_leastSum_X3_leastBase
set_option maxRecDepth 20000 in
theorem ggX2_leastSum_X3_widestProduct : GoodIn wsX2_leastSum wsX3_widestProduct := goodIn_r _ [25, 20, 21, 10, 22, 26, 27, 28, 13, 14, 15, 16, 17, 18, 19] (by decide +kernel) (by decide +kernel)
set_option maxRecDepth 20000 in
theorem gX2_leastSum_X3_widestProduct : GoodIn wsX2_leastSum (va_wsS RX2 64 yX3_widestProduct wsX3_widestProduct) := goodIn_app (goodIn_of _ (by decide +kernel)) ggX2_leastSum_X3_widestProduct
theorem dX2_leastSum_0 : decode cX2_leastSum 0 = .ok (.aload_n 0, 1) := by decide +kernel
theorem dX2_leastSum_1 : decode cX2_leastSum 1 = .ok (.getfield 23, 3) := by decide +kernel
theorem dX2_leastSum_4 : decode cX2_leastSum 4 = .ok (.aload_n 0, 1) := by decide +kernel
theorem dX2_leastSum_5 : decode cX2_leastSum 5 = .ok (.getfield 27, 3) := by decide +kernel
theorem dX2_leastSum_8 : decode cX2_leastSum 8 = .ok (.aload_n 0, 1) := by decide +kernel
theorem dX2_leastSum_9 : decode cX2_leastSum 9 = .ok (.getfield 19, 3) := by decide +kernel
theorem dX2_leastSum_12 : decode cX2_leastSum 12 = .ok (.i2l, 1) := by decide +kernel
theorem dX2_leastSum_13 : decode cX2_leastSum 13 = .ok (.invokestatic 55, 3) := by decide +kernel
theorem dX2_leastSum_16 : decode cX2_leastSum 16 = .ok (.l2i, 1) := by decide +kernel
theorem dX2_leastSum_17 : decode cX2_leastSum 17 = .ok (.istore_n 1, 1) := by decide +kernel
theorem dX2_leastSum_18 : decode cX2_leastSum 18 = .ok (.iload_n 1, 1) := by decide +kernel
theorem dX2_leastSum_19 : decode cX2_leastSum 19 = .ok (.aload_n 0, 1) := by decide +kernel
theorem dX2_leastSum_20 : decode cX2_leastSum 20 = .ok (.getfield 27, 3) := by decide +kernel
theorem dX2_leastSum_23 : decode cX2_leastSum 23 = .ok (.imul, 1) := by decide +kernel
theorem dX2_leastSum_24 : decode cX2_leastSum 24 = .ok (.istore_n 2, 1) := by decide +kernel
theorem dX2_leastSum_25 : decode cX2_leastSum 25 = .ok (.iconst 2, 1) := by decide +kernel
theorem dX2_leastSum_26 : decode cX2_leastSum 26 = .ok (.aload_n 0, 1) := by decide +kernel
theorem dX2_leastSum_27 : decode cX2_leastSum 27 = .ok (.getfield 27, 3) := by decide +kernel
theorem dX2_leastSum_30 : decode cX2_leastSum 30 = .ok (.imul, 1) := by decide +kernel
theorem dX2_leastSum_31 : decode cX2_leastSum 31 = .ok (.iload_n 2, 1) := by decide +kernel
theorem dX2_leastSum_32 : decode cX2_leastSum 32 = .ok (.aload_n 0, 1) := by decide +kernel
theorem dX2_leastSum_33 : decode cX2_leastSum 33 = .ok (.getfield 27, 3) := by decide +kernel
theorem dX2_leastSum_36 : decode cX2_leastSum 36 = .ok (.isub, 1) := by decide +kernel
theorem dX2_leastSum_37 : decode cX2_leastSum 37 = .ok (.invokestatic 59, 3) := by decide +kernel
theorem dX2_leastSum_40 : decode cX2_leastSum 40 = .ok (.istore_n 3, 1) := by decide +kernel
theorem dX2_leastSum_41 : decode cX2_leastSum 41 = .ok (.iload_n 3, 1) := by decide +kernel
theorem dX2_leastSum_42 : decode cX2_leastSum 42 = .ok (.iload_n 2, 1) := by decide +kernel
theorem dX2_leastSum_43 : decode cX2_leastSum 43 = .ok (.if_icmp .ge 25, 3) := by decide +kernel
theorem dX2_leastSum_46 : decode cX2_leastSum 46 = .ok (.iload_n 3, 1) := by decide +kernel
theorem dX2_leastSum_47 : decode cX2_leastSum 47 = .ok (.aload_n 0, 1) := by decide +kernel
theorem dX2_leastSum_48 : decode cX2_leastSum 48 = .ok (.getfield 27, 3) := by decide +kernel
theorem dX2_leastSum_51 : decode cX2_leastSum 51 = .ok (.invokestatic 64, 3) := by decide +kernel
theorem dX2_leastSum_54 : decode cX2_leastSum 54 = .ok (.aload_n 0, 1) := by decide +kernel
theorem dX2_leastSum_55 : decode cX2_leastSum 55 = .ok (.getfield 23, 3) := by decide +kernel
theorem dX2_leastSum_58 : decode cX2_leastSum 58 = .ok (.lcmp, 1) := by decide +kernel
theorem dX2_leastSum_59 : decode cX2_leastSum 59 = .ok (.ifCond .ge 9, 3) := by decide +kernel
theorem dX2_leastSum_62 : decode cX2_leastSum 62 = .ok (.iinc 3 1, 3) := by decide +kernel
theorem dX2_leastSum_65 : decode cX2_leastSum 65 = .ok (.goto (-24), 3) := by decide +kernel
theorem dX2_leastSum_68 : decode cX2_leastSum 68 = .ok (.iload_n 3, 1) := by decide +kernel
theorem dX2_leastSum_69 : decode cX2_leastSum 69 = .ok (.ireturn, 1) := by decide +kernel
set_option maxRecDepth 20000 in
theorem ggX2_leastSize_X3_quotient : GoodIn wsX2_leastSize wsX3_quotient := goodIn_r _ [5] (by decide +kernel) (by decide +kernel)
set_option maxRecDepth 20000 in
theorem gX2_leastSize_X3_quotient : GoodIn wsX2_leastSize (va_wsS RX2 34 yX3_quotient wsX3_quotient) := goodIn_app (goodIn_of _ (by decide +kernel)) ggX2_leastSize_X3_quotient
set_option maxRecDepth 20000 in
theorem ggX2_leastSize_X2_isEnough : GoodIn wsX2_leastSize wsX2_isEnough := goodIn_r _ [10, 1, 11, 12, 13, 14, 15, 4, 16, 17, 3, 5, 18, 19, 20, 21, 22, 23, 24, 25, 26, 27, 28, 29, 30, 31, 32, 33] (by decide +kernel) (by decide +kernel)
set_option maxRecDepth 20000 in
theorem gX2_leastSize_X2_isEnough : GoodIn wsX2_leastSize (wsV RX2 68 RX2 yX2_isEnough wsX2_isEnough) := goodIn_app (goodIn_of _ (by decide +kernel)) ggX2_leastSize_X2_isEnough
theorem dX2_leastSize_0 : decode cX2_leastSize 0 = .ok (.iconst 2, 1) := by decide +kernel
theorem dX2_leastSize_1 : decode cX2_leastSize 1 = .ok (.istore_n 3, 1) := by decide +kernel
theorem dX2_leastSize_2 : decode cX2_leastSize 2 = .ok (.iload_n 2, 1) := by decide +kernel
theorem dX2_leastSize_3 : decode cX2_leastSize 3 = .ok (.i2l, 1) := by decide +kernel
theorem dX2_leastSize_4 : decode cX2_leastSize 4 = .ok (.aload_n 0, 1) := by decide +kernel
theorem dX2_leastSize_5 : decode cX2_leastSize 5 = .ok (.getfield 27, 3) := by decide +kernel
theorem dX2_leastSize_8 : decode cX2_leastSize 8 = .ok (.iload_n 1, 1) := by decide +kernel
theorem dX2_leastSize_9 : decode cX2_leastSize 9 = .ok (.isub, 1) := by decide +kernel
theorem dX2_leastSize_10 : decode cX2_leastSize 10 = .ok (.i2l, 1) := by decide +kernel
theorem dX2_leastSize_11 : decode cX2_leastSize 11 = .ok (.invokestatic 34, 3) := by decide +kernel
theorem dX2_leastSize_14 : decode cX2_leastSize 14 = .ok (.l2i, 1) := by decide +kernel
theorem dX2_leastSize_15 : decode cX2_leastSize 15 = .ok (.istore 4, 2) := by decide +kernel
theorem dX2_leastSize_17 : decode cX2_leastSize 17 = .ok (.iload_n 1, 1) := by decide +kernel
theorem dX2_leastSize_18 : decode cX2_leastSize 18 = .ok (.aload_n 0, 1) := by decide +kernel
theorem dX2_leastSize_19 : decode cX2_leastSize 19 = .ok (.getfield 27, 3) := by decide +kernel
theorem dX2_leastSize_22 : decode cX2_leastSize 22 = .ok (.iconst 1, 1) := by decide +kernel
theorem dX2_leastSize_23 : decode cX2_leastSize 23 = .ok (.isub, 1) := by decide +kernel
theorem dX2_leastSize_24 : decode cX2_leastSize 24 = .ok (.if_icmp .ne 6, 3) := by decide +kernel
theorem dX2_leastSize_27 : decode cX2_leastSize 27 = .ok (.iload 4, 2) := by decide +kernel
theorem dX2_leastSize_29 : decode cX2_leastSize 29 = .ok (.ireturn, 1) := by decide +kernel
theorem dX2_leastSize_30 : decode cX2_leastSize 30 = .ok (.iconst 0, 1) := by decide +kernel
theorem dX2_leastSize_31 : decode cX2_leastSize 31 = .ok (.istore 5, 2) := by decide +kernel
theorem dX2_leastSize_33 : decode cX2_leastSize 33 = .ok (.iload 5, 2) := by decide +kernel
theorem dX2_leastSize_35 : decode cX2_leastSize 35 = .ok (.bipush 32, 2) := by decide +kernel
theorem dX2_leastSize_37 : decode cX2_leastSize 37 = .ok (.if_icmp .ge 49, 3) := by decide +kernel
theorem dX2_leastSize_40 : decode cX2_leastSize 40 = .ok (.iload_n 3, 1) := by decide +kernel
theorem dX2_leastSize_41 : decode cX2_leastSize 41 = .ok (.iload 4, 2) := by decide +kernel
theorem dX2_leastSize_43 : decode cX2_leastSize 43 = .ok (.if_icmp .ge 43, 3) := by decide +kernel
theorem dX2_leastSize_46 : decode cX2_leastSize 46 = .ok (.iload_n 3, 1) := by decide +kernel
theorem dX2_leastSize_47 : decode cX2_leastSize 47 = .ok (.iload 4, 2) := by decide +kernel
theorem dX2_leastSize_49 : decode cX2_leastSize 49 = .ok (.iadd, 1) := by decide +kernel
theorem dX2_leastSize_50 : decode cX2_leastSize 50 = .ok (.iconst 2, 1) := by decide +kernel
theorem dX2_leastSize_51 : decode cX2_leastSize 51 = .ok (.idiv, 1) := by decide +kernel
theorem dX2_leastSize_52 : decode cX2_leastSize 52 = .ok (.istore 6, 2) := by decide +kernel
theorem dX2_leastSize_54 : decode cX2_leastSize 54 = .ok (.aload_n 0, 1) := by decide +kernel
theorem dX2_leastSize_55 : decode cX2_leastSize 55 = .ok (.iload_n 1, 1) := by decide +kernel
theorem dX2_leastSize_56 : decode cX2_leastSize 56 = .ok (.iload 6, 2) := by decide +kernel
theorem dX2_leastSize_58 : decode cX2_leastSize 58 = .ok (.iload_n 2, 1) := by decide +kernel
theorem dX2_leastSize_59 : decode cX2_leastSize 59 = .ok (.iload 6, 2) := by decide +kernel
theorem dX2_leastSize_61 : decode cX2_leastSize 61 = .ok (.isub, 1) := by decide +kernel
theorem dX2_leastSize_62 : decode cX2_leastSize 62 = .ok (.invokevirtual 68, 3) := by decide +kernel
theorem dX2_leastSize_65 : decode cX2_leastSize 65 = .ok (.ifCond .eq 10, 3) := by decide +kernel
theorem dX2_leastSize_68 : decode cX2_leastSize 68 = .ok (.iload 6, 2) := by decide +kernel
theorem dX2_leastSize_70 : decode cX2_leastSize 70 = .ok (.istore 4, 2) := by decide +kernel
theorem dX2_leastSize_72 : decode cX2_leastSize 72 = .ok (.goto 8, 3) := by decide +kernel
theorem dX2_leastSize_75 : decode cX2_leastSize 75 = .ok (.iload 6, 2) := by decide +kernel
theorem dX2_leastSize_77 : decode cX2_leastSize 77 = .ok (.iconst 1, 1) := by decide +kernel
theorem dX2_leastSize_78 : decode cX2_leastSize 78 = .ok (.iadd, 1) := by decide +kernel
theorem dX2_leastSize_79 : decode cX2_leastSize 79 = .ok (.istore_n 3, 1) := by decide +kernel
theorem dX2_leastSize_80 : decode cX2_leastSize 80 = .ok (.iinc 5 1, 3) := by decide +kernel
theorem dX2_leastSize_83 : decode cX2_leastSize 83 = .ok (.goto (-50), 3) := by decide +kernel
theorem dX2_leastSize_86 : decode cX2_leastSize 86 = .ok (.iload_n 3, 1) := by decide +kernel
theorem dX2_leastSize_87 : decode cX2_leastSize 87 = .ok (.ireturn, 1) := by decide +kernel
set_option maxRecDepth 20000 in
theorem ggX2_isEnough_X3_widestProduct : GoodIn wsX2_isEnough wsX3_widestProduct := goodIn_r _ [8, 9, 10, 7, 11, 12, 13, 14, 15, 16, 17, 18, 19, 20, 21] (by decide +kernel) (by decide +kernel)
set_option maxRecDepth 20000 in
theorem gX2_isEnough_X3_widestProduct : GoodIn wsX2_isEnough (va_wsS RX2 64 yX3_widestProduct wsX3_widestProduct) := goodIn_app (goodIn_of _ (by decide +kernel)) ggX2_isEnough_X3_widestProduct
set_option maxRecDepth 20000 in
theorem ggX2_isEnough_X3_product : GoodIn wsX2_isEnough wsX3_product := goodIn_r _ [20, 21, 9, 10, 7, 11] (by decide +kernel) (by decide +kernel)
set_option maxRecDepth 20000 in
theorem gX2_isEnough_X3_product : GoodIn wsX2_isEnough (va_wsS RX2 72 yX3_product wsX3_product) := goodIn_app (goodIn_of _ (by decide +kernel)) ggX2_isEnough_X3_product
theorem dX2_isEnough_0 : decode cX2_isEnough 0 = .ok (.aload_n 0, 1) := by decide +kernel
theorem dX2_isEnough_1 : decode cX2_isEnough 1 = .ok (.getfield 27, 3) := by decide +kernel
theorem dX2_isEnough_4 : decode cX2_isEnough 4 = .ok (.iload_n 1, 1) := by decide +kernel
theorem dX2_isEnough_5 : decode cX2_isEnough 5 = .ok (.isub, 1) := by decide +kernel
theorem dX2_isEnough_6 : decode cX2_isEnough 6 = .ok (.iconst 1, 1) := by decide +kernel
theorem dX2_isEnough_7 : decode cX2_isEnough 7 = .ok (.isub, 1) := by decide +kernel
theorem dX2_isEnough_8 : decode cX2_isEnough 8 = .ok (.istore 4, 2) := by decide +kernel
theorem dX2_isEnough_10 : decode cX2_isEnough 10 = .ok (.iload_n 3, 1) := by decide +kernel
theorem dX2_isEnough_11 : decode cX2_isEnough 11 = .ok (.iload 4, 2) := by decide +kernel
theorem dX2_isEnough_13 : decode cX2_isEnough 13 = .ok (.aload_n 0, 1) := by decide +kernel
theorem dX2_isEnough_14 : decode cX2_isEnough 14 = .ok (.getfield 19, 3) := by decide +kernel
theorem dX2_isEnough_17 : decode cX2_isEnough 17 = .ok (.imul, 1) := by decide +kernel
theorem dX2_isEnough_18 : decode cX2_isEnough 18 = .ok (.if_icmp .le 5, 3) := by decide +kernel
theorem dX2_isEnough_21 : decode cX2_isEnough 21 = .ok (.iconst 0, 1) := by decide +kernel
theorem dX2_isEnough_22 : decode cX2_isEnough 22 = .ok (.ireturn, 1) := by decide +kernel
theorem dX2_isEnough_23 : decode cX2_isEnough 23 = .ok (.iload_n 3, 1) := by decide +kernel
theorem dX2_isEnough_24 : decode cX2_isEnough 24 = .ok (.iload 4, 2) := by decide +kernel
theorem dX2_isEnough_26 : decode cX2_isEnough 26 = .ok (.invokestatic 64, 3) := by decide +kernel
theorem dX2_isEnough_29 : decode cX2_isEnough 29 = .ok (.lstore 5, 2) := by decide +kernel
theorem dX2_isEnough_31 : decode cX2_isEnough 31 = .ok (.aload_n 0, 1) := by decide +kernel
theorem dX2_isEnough_32 : decode cX2_isEnough 32 = .ok (.getfield 15, 3) := by decide +kernel
theorem dX2_isEnough_35 : decode cX2_isEnough 35 = .ok (.iload_n 1, 1) := by decide +kernel
theorem dX2_isEnough_36 : decode cX2_isEnough 36 = .ok (.laload, 1) := by decide +kernel
theorem dX2_isEnough_37 : decode cX2_isEnough 37 = .ok (.iload_n 2, 1) := by decide +kernel
theorem dX2_isEnough_38 : decode cX2_isEnough 38 = .ok (.i2l, 1) := by decide +kernel
theorem dX2_isEnough_39 : decode cX2_isEnough 39 = .ok (.invokestatic 72, 3) := by decide +kernel
theorem dX2_isEnough_42 : decode cX2_isEnough 42 = .ok (.lload 5, 2) := by decide +kernel
theorem dX2_isEnough_44 : decode cX2_isEnough 44 = .ok (.invokestatic 72, 3) := by decide +kernel
theorem dX2_isEnough_47 : decode cX2_isEnough 47 = .ok (.aload_n 0, 1) := by decide +kernel
theorem dX2_isEnough_48 : decode cX2_isEnough 48 = .ok (.getfield 23, 3) := by decide +kernel
theorem dX2_isEnough_51 : decode cX2_isEnough 51 = .ok (.lcmp, 1) := by decide +kernel
theorem dX2_isEnough_52 : decode cX2_isEnough 52 = .ok (.ifCond .lt 7, 3) := by decide +kernel
theorem dX2_isEnough_55 : decode cX2_isEnough 55 = .ok (.iconst 1, 1) := by decide +kernel
theorem dX2_isEnough_56 : decode cX2_isEnough 56 = .ok (.goto 4, 3) := by decide +kernel
theorem dX2_isEnough_59 : decode cX2_isEnough 59 = .ok (.iconst 0, 1) := by decide +kernel
theorem dX2_isEnough_60 : decode cX2_isEnough 60 = .ok (.ireturn, 1) := by decide +kernel
theorem dX3_quotient_0 : decode cX3_quotient 0 = .ok (.lload_n 2, 1) := by decide +kernel
theorem dX3_quotient_1 : decode cX3_quotient 1 = .ok (.lconst 1, 1) := by decide +kernel
theorem dX3_quotient_2 : decode cX3_quotient 2 = .ok (.lcmp, 1) := by decide +kernel
theorem dX3_quotient_3 : decode cX3_quotient 3 = .ok (.ifCond .ge 7, 3) := by decide +kernel
theorem dX3_quotient_6 : decode cX3_quotient 6 = .ok (.lconst 0, 1) := by decide +kernel
theorem dX3_quotient_7 : decode cX3_quotient 7 = .ok (.goto 6, 3) := by decide +kernel
theorem dX3_quotient_10 : decode cX3_quotient 10 = .ok (.lload_n 0, 1) := by decide +kernel
theorem dX3_quotient_11 : decode cX3_quotient 11 = .ok (.lload_n 2, 1) := by decide +kernel
theorem dX3_quotient_12 : decode cX3_quotient 12 = .ok (.ldiv, 1) := by decide +kernel
theorem dX3_quotient_13 : decode cX3_quotient 13 = .ok (.lreturn, 1) := by decide +kernel
theorem dX3_remainder_0 : decode cX3_remainder 0 = .ok (.lload_n 2, 1) := by decide +kernel
theorem dX3_remainder_1 : decode cX3_remainder 1 = .ok (.lconst 1, 1) := by decide +kernel
theorem dX3_remainder_2 : decode cX3_remainder 2 = .ok (.lcmp, 1) := by decide +kernel
theorem dX3_remainder_3 : decode cX3_remainder 3 = .ok (.ifCond .ge 7, 3) := by decide +kernel
theorem dX3_remainder_6 : decode cX3_remainder 6 = .ok (.lconst 0, 1) := by decide +kernel
theorem dX3_remainder_7 : decode cX3_remainder 7 = .ok (.goto 6, 3) := by decide +kernel
theorem dX3_remainder_10 : decode cX3_remainder 10 = .ok (.lload_n 0, 1) := by decide +kernel
theorem dX3_remainder_11 : decode cX3_remainder 11 = .ok (.lload_n 2, 1) := by decide +kernel
theorem dX3_remainder_12 : decode cX3_remainder 12 = .ok (.lrem, 1) := by decide +kernel
theorem dX3_remainder_13 : decode cX3_remainder 13 = .ok (.lreturn, 1) := by decide +kernel
theorem dX3_quotientUp_0 : decode cX3_quotientUp 0 = .ok (.iload_n 1, 1) := by decide +kernel
theorem dX3_quotientUp_1 : decode cX3_quotientUp 1 = .ok (.iconst 1, 1) := by decide +kernel
theorem dX3_quotientUp_2 : decode cX3_quotientUp 2 = .ok (.if_icmp .ge 7, 3) := by decide +kernel
theorem dX3_quotientUp_5 : decode cX3_quotientUp 5 = .ok (.iconst 0, 1) := by decide +kernel
theorem dX3_quotientUp_6 : decode cX3_quotientUp 6 = .ok (.goto 10, 3) := by decide +kernel
theorem dX3_quotientUp_9 : decode cX3_quotientUp 9 = .ok (.iload_n 0, 1) := by decide +kernel
theorem dX3_quotientUp_10 : decode cX3_quotientUp 10 = .ok (.iload_n 1, 1) := by decide +kernel
theorem dX3_quotientUp_11 : decode cX3_quotientUp 11 = .ok (.iadd, 1) := by decide +kernel
theorem dX3_quotientUp_12 : decode cX3_quotientUp 12 = .ok (.iconst 1, 1) := by decide +kernel
theorem dX3_quotientUp_13 : decode cX3_quotientUp 13 = .ok (.isub, 1) := by decide +kernel
theorem dX3_quotientUp_14 : decode cX3_quotientUp 14 = .ok (.iload_n 1, 1) := by decide +kernel
theorem dX3_quotientUp_15 : decode cX3_quotientUp 15 = .ok (.idiv, 1) := by decide +kernel
theorem dX3_quotientUp_16 : decode cX3_quotientUp 16 = .ok (.ireturn, 1) := by decide +kernel
set_option maxRecDepth 20000 in
theorem ggX3_product_X3_quotient : GoodIn wsX3_product wsX3_quotient := goodIn_r _ [5] (by decide +kernel) (by decide +kernel)
set_option maxRecDepth 20000 in
theorem gX3_product_X3_quotient : GoodIn wsX3_product (va_wsS RX3 11 yX3_quotient wsX3_quotient) := goodIn_app (goodIn_of _ (by decide +kernel)) ggX3_product_X3_quotient
theorem dX3_product_0 : decode cX3_product 0 = .ok (.lload_n 0, 1) := by decide +kernel
theorem dX3_product_1 : decode cX3_product 1 = .ok (.ldc2_w 9, 3) := by decide +kernel
theorem dX3_product_4 : decode cX3_product 4 = .ok (.lload_n 2, 1) := by decide +kernel
theorem dX3_product_5 : decode cX3_product 5 = .ok (.invokestatic 11, 3) := by decide +kernel
theorem dX3_product_8 : decode cX3_product 8 = .ok (.lcmp, 1) := by decide +kernel
theorem dX3_product_9 : decode cX3_product 9 = .ok (.ifCond .le 9, 3) := by decide +kernel
theorem dX3_product_12 : decode cX3_product 12 = .ok (.ldc2_w 9, 3) := by decide +kernel
theorem dX3_product_15 : decode cX3_product 15 = .ok (.goto 6, 3) := by decide +kernel
theorem dX3_product_18 : decode cX3_product 18 = .ok (.lload_n 0, 1) := by decide +kernel
theorem dX3_product_19 : decode cX3_product 19 = .ok (.lload_n 2, 1) := by decide +kernel
end
section
theorem dX3_product_20 : decode cX3_product 20 = .ok (.lmul, 1) := by decide +kernel
theorem dX3_product_21 : decode cX3_product 21 = .ok (.lreturn, 1) := by decide +kernel
set_option maxRecDepth 20000 in
theorem ggX3_power_X3_product : GoodIn wsX3_power wsX3_product := goodIn_r _ [4, 5, 6, 7, 3, 8] (by decide +kernel) (by decide +kernel)
set_option maxRecDepth 20000 in
theorem gX3_power_X3_product : GoodIn wsX3_power (va_wsS RX3 17 yX3_product wsX3_product) := goodIn_app (goodIn_of _ (by decide +kernel)) ggX3_power_X3_product
theorem dX3_power_0 : decode cX3_power 0 = .ok (.lconst 1, 1) := by decide +kernel
theorem dX3_power_1 : decode cX3_power 1 = .ok (.lstore_n 3, 1) := by decide +kernel
theorem dX3_power_2 : decode cX3_power 2 = .ok (.iconst 0, 1) := by decide +kernel
theorem dX3_power_3 : decode cX3_power 3 = .ok (.istore 5, 2) := by decide +kernel
theorem dX3_power_5 : decode cX3_power 5 = .ok (.iload 5, 2) := by decide +kernel
theorem dX3_power_7 : decode cX3_power 7 = .ok (.iload_n 2, 1) := by decide +kernel
theorem dX3_power_8 : decode cX3_power 8 = .ok (.if_icmp .ge 15, 3) := by decide +kernel
theorem dX3_power_11 : decode cX3_power 11 = .ok (.lload_n 3, 1) := by decide +kernel
theorem dX3_power_12 : decode cX3_power 12 = .ok (.lload_n 0, 1) := by decide +kernel
theorem dX3_power_13 : decode cX3_power 13 = .ok (.invokestatic 17, 3) := by decide +kernel
theorem dX3_power_16 : decode cX3_power 16 = .ok (.lstore_n 3, 1) := by decide +kernel
theorem dX3_power_17 : decode cX3_power 17 = .ok (.iinc 5 1, 3) := by decide +kernel
theorem dX3_power_20 : decode cX3_power 20 = .ok (.goto (-15), 3) := by decide +kernel
theorem dX3_power_23 : decode cX3_power 23 = .ok (.lload_n 3, 1) := by decide +kernel
theorem dX3_power_24 : decode cX3_power 24 = .ok (.lreturn, 1) := by decide +kernel
set_option maxRecDepth 20000 in
theorem ggX3_leastExponent_X3_product : GoodIn wsX3_leastExponent wsX3_product := goodIn_r _ [4, 5, 6, 7, 3, 8] (by decide +kernel) (by decide +kernel)
set_option maxRecDepth 20000 in
theorem gX3_leastExponent_X3_product : GoodIn wsX3_leastExponent (va_wsS RX3 17 yX3_product wsX3_product) := goodIn_app (goodIn_of _ (by decide +kernel)) ggX3_leastExponent_X3_product
theorem dX3_leastExponent_0 : decode cX3_leastExponent 0 = .ok (.lconst 1, 1) := by decide +kernel
theorem dX3_leastExponent_1 : decode cX3_leastExponent 1 = .ok (.lstore 4, 2) := by decide +kernel
theorem dX3_leastExponent_3 : decode cX3_leastExponent 3 = .ok (.iconst 0, 1) := by decide +kernel
theorem dX3_leastExponent_4 : decode cX3_leastExponent 4 = .ok (.istore 6, 2) := by decide +kernel
theorem dX3_leastExponent_6 : decode cX3_leastExponent 6 = .ok (.iload 6, 2) := by decide +kernel
theorem dX3_leastExponent_8 : decode cX3_leastExponent 8 = .ok (.bipush 62, 2) := by decide +kernel
theorem dX3_leastExponent_10 : decode cX3_leastExponent 10 = .ok (.if_icmp .ge 24, 3) := by decide +kernel
theorem dX3_leastExponent_13 : decode cX3_leastExponent 13 = .ok (.lload 4, 2) := by decide +kernel
theorem dX3_leastExponent_15 : decode cX3_leastExponent 15 = .ok (.lload_n 2, 1) := by decide +kernel
theorem dX3_leastExponent_16 : decode cX3_leastExponent 16 = .ok (.lcmp, 1) := by decide +kernel
theorem dX3_leastExponent_17 : decode cX3_leastExponent 17 = .ok (.ifCond .ge 17, 3) := by decide +kernel
theorem dX3_leastExponent_20 : decode cX3_leastExponent 20 = .ok (.lload 4, 2) := by decide +kernel
theorem dX3_leastExponent_22 : decode cX3_leastExponent 22 = .ok (.lload_n 0, 1) := by decide +kernel
theorem dX3_leastExponent_23 : decode cX3_leastExponent 23 = .ok (.invokestatic 17, 3) := by decide +kernel
theorem dX3_leastExponent_26 : decode cX3_leastExponent 26 = .ok (.lstore 4, 2) := by decide +kernel
theorem dX3_leastExponent_28 : decode cX3_leastExponent 28 = .ok (.iinc 6 1, 3) := by decide +kernel
theorem dX3_leastExponent_31 : decode cX3_leastExponent 31 = .ok (.goto (-25), 3) := by decide +kernel
theorem dX3_leastExponent_34 : decode cX3_leastExponent 34 = .ok (.iload 6, 2) := by decide +kernel
theorem dX3_leastExponent_36 : decode cX3_leastExponent 36 = .ok (.ireturn, 1) := by decide +kernel
set_option maxRecDepth 20000 in
theorem ggX3_leastBase_X3_power : GoodIn wsX3_leastBase wsX3_power := goodIn_r _ [5, 6, 7, 4, 8, 9, 10, 11, 12] (by decide +kernel) (by decide +kernel)
set_option maxRecDepth 20000 in
theorem gX3_leastBase_X3_power : GoodIn wsX3_leastBase (va_wsS RX3 22 yX3_power wsX3_power) := goodIn_app (goodIn_of _ (by decide +kernel)) ggX3_leastBase_X3_power
theorem dX3_leastBase_0 : decode cX3_leastBase 0 = .ok (.ldc2_w 20, 3) := by decide +kernel
theorem dX3_leastBase_3 : decode cX3_leastBase 3 = .ok (.lstore 5, 2) := by decide +kernel
theorem dX3_leastBase_5 : decode cX3_leastBase 5 = .ok (.lload_n 3, 1) := by decide +kernel
theorem dX3_leastBase_6 : decode cX3_leastBase 6 = .ok (.lconst 1, 1) := by decide +kernel
theorem dX3_leastBase_7 : decode cX3_leastBase 7 = .ok (.ladd, 1) := by decide +kernel
theorem dX3_leastBase_8 : decode cX3_leastBase 8 = .ok (.lstore 7, 2) := by decide +kernel
theorem dX3_leastBase_10 : decode cX3_leastBase 10 = .ok (.iconst 0, 1) := by decide +kernel
theorem dX3_leastBase_11 : decode cX3_leastBase 11 = .ok (.istore 9, 2) := by decide +kernel
theorem dX3_leastBase_13 : decode cX3_leastBase 13 = .ok (.iload 9, 2) := by decide +kernel
theorem dX3_leastBase_15 : decode cX3_leastBase 15 = .ok (.bipush 64, 2) := by decide +kernel
theorem dX3_leastBase_17 : decode cX3_leastBase 17 = .ok (.if_icmp .ge 52, 3) := by decide +kernel
theorem dX3_leastBase_20 : decode cX3_leastBase 20 = .ok (.lload 5, 2) := by decide +kernel
theorem dX3_leastBase_22 : decode cX3_leastBase 22 = .ok (.lload 7, 2) := by decide +kernel
theorem dX3_leastBase_24 : decode cX3_leastBase 24 = .ok (.lcmp, 1) := by decide +kernel
theorem dX3_leastBase_25 : decode cX3_leastBase 25 = .ok (.ifCond .ge 44, 3) := by decide +kernel
theorem dX3_leastBase_28 : decode cX3_leastBase 28 = .ok (.lload 5, 2) := by decide +kernel
theorem dX3_leastBase_30 : decode cX3_leastBase 30 = .ok (.lload 7, 2) := by decide +kernel
theorem dX3_leastBase_32 : decode cX3_leastBase 32 = .ok (.ladd, 1) := by decide +kernel
theorem dX3_leastBase_33 : decode cX3_leastBase 33 = .ok (.ldc2_w 20, 3) := by decide +kernel
theorem dX3_leastBase_36 : decode cX3_leastBase 36 = .ok (.ldiv, 1) := by decide +kernel
theorem dX3_leastBase_37 : decode cX3_leastBase 37 = .ok (.lstore 10, 2) := by decide +kernel
theorem dX3_leastBase_39 : decode cX3_leastBase 39 = .ok (.lload 10, 2) := by decide +kernel
theorem dX3_leastBase_41 : decode cX3_leastBase 41 = .ok (.iload_n 2, 1) := by decide +kernel
theorem dX3_leastBase_42 : decode cX3_leastBase 42 = .ok (.invokestatic 22, 3) := by decide +kernel
theorem dX3_leastBase_45 : decode cX3_leastBase 45 = .ok (.lload_n 0, 1) := by decide +kernel
theorem dX3_leastBase_46 : decode cX3_leastBase 46 = .ok (.lcmp, 1) := by decide +kernel
theorem dX3_leastBase_47 : decode cX3_leastBase 47 = .ok (.ifCond .lt 10, 3) := by decide +kernel
theorem dX3_leastBase_50 : decode cX3_leastBase 50 = .ok (.lload 10, 2) := by decide +kernel
theorem dX3_leastBase_52 : decode cX3_leastBase 52 = .ok (.lstore 7, 2) := by decide +kernel
theorem dX3_leastBase_54 : decode cX3_leastBase 54 = .ok (.goto 9, 3) := by decide +kernel
theorem dX3_leastBase_57 : decode cX3_leastBase 57 = .ok (.lload 10, 2) := by decide +kernel
theorem dX3_leastBase_59 : decode cX3_leastBase 59 = .ok (.lconst 1, 1) := by decide +kernel
theorem dX3_leastBase_60 : decode cX3_leastBase 60 = .ok (.ladd, 1) := by decide +kernel
theorem dX3_leastBase_61 : decode cX3_leastBase 61 = .ok (.lstore 5, 2) := by decide +kernel
theorem dX3_leastBase_63 : decode cX3_leastBase 63 = .ok (.iinc 9 1, 3) := by decide +kernel
theorem dX3_leastBase_66 : decode cX3_leastBase 66 = .ok (.goto (-53), 3) := by decide +kernel
theorem dX3_leastBase_69 : decode cX3_leastBase 69 = .ok (.lload 5, 2) := by decide +kernel
theorem dX3_leastBase_71 : decode cX3_leastBase 71 = .ok (.lreturn, 1) := by decide +kernel
set_option maxRecDepth 20000 in
theorem ggX3_widestProduct_X3_quotient : GoodIn wsX3_widestProduct wsX3_quotient := goodIn_r _ [4] (by decide +kernel) (by decide +kernel)
set_option maxRecDepth 20000 in
theorem gX3_widestProduct_X3_quotient : GoodIn wsX3_widestProduct (va_wsS RX3 11 yX3_quotient wsX3_quotient) := goodIn_app (goodIn_of _ (by decide +kernel)) ggX3_widestProduct_X3_quotient
set_option maxRecDepth 20000 in
theorem ggX3_widestProduct_X3_remainder : GoodIn wsX3_widestProduct wsX3_remainder := goodIn_r _ [7] (by decide +kernel) (by decide +kernel)
set_option maxRecDepth 20000 in
theorem gX3_widestProduct_X3_remainder : GoodIn wsX3_widestProduct (va_wsS RX3 26 yX3_remainder wsX3_remainder) := goodIn_app (goodIn_of _ (by decide +kernel)) ggX3_widestProduct_X3_remainder
set_option maxRecDepth 20000 in
theorem ggX3_widestProduct_X3_power : GoodIn wsX3_widestProduct wsX3_power := goodIn_r _ [10, 11, 12, 3, 13, 14, 1, 2, 4] (by decide +kernel) (by decide +kernel)
set_option maxRecDepth 20000 in
theorem gX3_widestProduct_X3_power : GoodIn wsX3_widestProduct (va_wsS RX3 22 yX3_power wsX3_power) := goodIn_app (goodIn_of _ (by decide +kernel)) ggX3_widestProduct_X3_power
set_option maxRecDepth 20000 in
theorem ggX3_widestProduct_X3_product : GoodIn wsX3_widestProduct wsX3_product := goodIn_r _ [13, 14, 1, 2, 3, 4] (by decide +kernel) (by decide +kernel)
set_option maxRecDepth 20000 in
theorem gX3_widestProduct_X3_product : GoodIn wsX3_widestProduct (va_wsS RX3 17 yX3_product wsX3_product) := goodIn_app (goodIn_of _ (by decide +kernel)) ggX3_widestProduct_X3_product
theorem dX3_widestProduct_0 : decode cX3_widestProduct 0 = .ok (.iload_n 0, 1) := by decide +kernel
theorem dX3_widestProduct_1 : decode cX3_widestProduct 1 = .ok (.i2l, 1) := by decide +kernel
theorem dX3_widestProduct_2 : decode cX3_widestProduct 2 = .ok (.iload_n 1, 1) := by decide +kernel
theorem dX3_widestProduct_3 : decode cX3_widestProduct 3 = .ok (.i2l, 1) := by decide +kernel
theorem dX3_widestProduct_4 : decode cX3_widestProduct 4 = .ok (.invokestatic 11, 3) := by decide +kernel
theorem dX3_widestProduct_7 : decode cX3_widestProduct 7 = .ok (.l2i, 1) := by decide +kernel
theorem dX3_widestProduct_8 : decode cX3_widestProduct 8 = .ok (.istore_n 2, 1) := by decide +kernel
theorem dX3_widestProduct_9 : decode cX3_widestProduct 9 = .ok (.iload_n 0, 1) := by decide +kernel
theorem dX3_widestProduct_10 : decode cX3_widestProduct 10 = .ok (.i2l, 1) := by decide +kernel
theorem dX3_widestProduct_11 : decode cX3_widestProduct 11 = .ok (.iload_n 1, 1) := by decide +kernel
theorem dX3_widestProduct_12 : decode cX3_widestProduct 12 = .ok (.i2l, 1) := by decide +kernel
theorem dX3_widestProduct_13 : decode cX3_widestProduct 13 = .ok (.invokestatic 26, 3) := by decide +kernel
theorem dX3_widestProduct_16 : decode cX3_widestProduct 16 = .ok (.l2i, 1) := by decide +kernel
theorem dX3_widestProduct_17 : decode cX3_widestProduct 17 = .ok (.istore_n 3, 1) := by decide +kernel
theorem dX3_widestProduct_18 : decode cX3_widestProduct 18 = .ok (.iload_n 2, 1) := by decide +kernel
theorem dX3_widestProduct_19 : decode cX3_widestProduct 19 = .ok (.iconst 1, 1) := by decide +kernel
theorem dX3_widestProduct_20 : decode cX3_widestProduct 20 = .ok (.iadd, 1) := by decide +kernel
theorem dX3_widestProduct_21 : decode cX3_widestProduct 21 = .ok (.i2l, 1) := by decide +kernel
theorem dX3_widestProduct_22 : decode cX3_widestProduct 22 = .ok (.iload_n 3, 1) := by decide +kernel
theorem dX3_widestProduct_23 : decode cX3_widestProduct 23 = .ok (.invokestatic 22, 3) := by decide +kernel
theorem dX3_widestProduct_26 : decode cX3_widestProduct 26 = .ok (.iload_n 2, 1) := by decide +kernel
theorem dX3_widestProduct_27 : decode cX3_widestProduct 27 = .ok (.i2l, 1) := by decide +kernel
theorem dX3_widestProduct_28 : decode cX3_widestProduct 28 = .ok (.iload_n 1, 1) := by decide +kernel
theorem dX3_widestProduct_29 : decode cX3_widestProduct 29 = .ok (.iload_n 3, 1) := by decide +kernel
theorem dX3_widestProduct_30 : decode cX3_widestProduct 30 = .ok (.isub, 1) := by decide +kernel
theorem dX3_widestProduct_31 : decode cX3_widestProduct 31 = .ok (.invokestatic 22, 3) := by decide +kernel
theorem dX3_widestProduct_34 : decode cX3_widestProduct 34 = .ok (.invokestatic 17, 3) := by decide +kernel
theorem dX3_widestProduct_37 : decode cX3_widestProduct 37 = .ok (.lreturn, 1) := by decide +kernel
set_option maxRecDepth 20000 in
theorem ggX4_init_X2_init : GoodIn wsX4_init wsX2_init := goodIn_r _ [28, 29, 2, 3, 30, 31, 32, 33, 34, 53, 54, 55, 56, 57] (by decide +kernel) (by decide +kernel)
set_option maxRecDepth 20000 in
theorem gX4_init_X2_init : GoodIn wsX4_init (wsX2_init) := ggX4_init_X2_init
set_option maxRecDepth 20000 in
theorem ggX4_init_X1_init : GoodIn wsX4_init wsX1_init := goodIn_r _ [36, 37, 2, 3, 32, 38, 30, 39, 40, 41, 58, 59, 60, 61, 62, 63] (by decide +kernel) (by decide +kernel)
set_option maxRecDepth 20000 in
theorem gX4_init_X1_init_n34 : GoodIn wsX4_init (wsX1_init) := ggX4_init_X1_init
set_option maxRecDepth 20000 in
theorem ggX4_init_X0_init : GoodIn wsX4_init wsX0_init := goodIn_r _ [43, 44, 2, 3, 30, 45, 46, 47, 64, 65, 66, 67] (by decide +kernel) (by decide +kernel)
set_option maxRecDepth 20000 in
theorem gX4_init_X0_init_n41 : GoodIn wsX4_init (wsX0_init) := ggX4_init_X0_init
theorem dX4_init_0 : decode cX4_init 0 = .ok (.aload_n 0, 1) := by decide +kernel
theorem dX4_init_1 : decode cX4_init 1 = .ok (.invokespecial 1, 3) := by decide +kernel
theorem dX4_init_4 : decode cX4_init 4 = .ok (.aload_n 0, 1) := by decide +kernel
theorem dX4_init_5 : decode cX4_init 5 = .ok (.iconst 0, 1) := by decide +kernel
theorem dX4_init_6 : decode cX4_init 6 = .ok (.iload_n 1, 1) := by decide +kernel
theorem dX4_init_7 : decode cX4_init 7 = .ok (.ldc 9, 2) := by decide +kernel
theorem dX4_init_9 : decode cX4_init 9 = .ok (.invokestatic 10, 3) := by decide +kernel
theorem dX4_init_12 : decode cX4_init 12 = .ok (.invokestatic 16, 3) := by decide +kernel
theorem dX4_init_15 : decode cX4_init 15 = .ok (.putfield 19, 3) := by decide +kernel
theorem dX4_init_18 : decode cX4_init 18 = .ok (.aload_n 0, 1) := by decide +kernel
theorem dX4_init_19 : decode cX4_init 19 = .ok (.new 23, 3) := by decide +kernel
theorem dX4_init_22 : decode cX4_init 22 = .ok (.dup, 1) := by decide +kernel
theorem dX4_init_23 : decode cX4_init 23 = .ok (.aload_n 0, 1) := by decide +kernel
theorem dX4_init_24 : decode cX4_init 24 = .ok (.getfield 19, 3) := by decide +kernel
theorem dX4_init_27 : decode cX4_init 27 = .ok (.invokespecial 25, 3) := by decide +kernel
theorem dX4_init_30 : decode cX4_init 30 = .ok (.putfield 28, 3) := by decide +kernel
theorem dX4_init_33 : decode cX4_init 33 = .ok (.aload_n 0, 1) := by decide +kernel
theorem dX4_init_34 : decode cX4_init 34 = .ok (.new 32, 3) := by decide +kernel
theorem dX4_init_37 : decode cX4_init 37 = .ok (.dup, 1) := by decide +kernel
theorem dX4_init_38 : decode cX4_init 38 = .ok (.invokespecial 34, 3) := by decide +kernel
theorem dX4_init_41 : decode cX4_init 41 = .ok (.putfield 35, 3) := by decide +kernel
theorem dX4_init_44 : decode cX4_init 44 = .ok (.aload_n 0, 1) := by decide +kernel
theorem dX4_init_45 : decode cX4_init 45 = .ok (.new 39, 3) := by decide +kernel
theorem dX4_init_48 : decode cX4_init 48 = .ok (.dup, 1) := by decide +kernel
theorem dX4_init_49 : decode cX4_init 49 = .ok (.invokespecial 41, 3) := by decide +kernel
theorem dX4_init_52 : decode cX4_init 52 = .ok (.putfield 42, 3) := by decide +kernel
theorem dX4_init_55 : decode cX4_init 55 = .ok (.aload_n 0, 1) := by decide +kernel
theorem dX4_init_56 : decode cX4_init 56 = .ok (.new 39, 3) := by decide +kernel
theorem dX4_init_59 : decode cX4_init 59 = .ok (.dup, 1) := by decide +kernel
theorem dX4_init_60 : decode cX4_init 60 = .ok (.invokespecial 41, 3) := by decide +kernel
theorem dX4_init_63 : decode cX4_init 63 = .ok (.putfield 46, 3) := by decide +kernel
theorem dX4_init_66 : decode cX4_init 66 = .ok (.return_, 1) := by decide +kernel
set_option maxRecDepth 20000 in
theorem ggX4_passes_X4_isRound : GoodIn wsX4_passes wsX4_isRound := goodIn_r _ [9, 10] (by decide +kernel) (by decide +kernel)
set_option maxRecDepth 20000 in
theorem gX4_passes_X4_isRound : GoodIn wsX4_passes (va_wsS RX4 56 yX4_isRound wsX4_isRound) := goodIn_app (goodIn_of _ (by decide +kernel)) ggX4_passes_X4_isRound
set_option maxRecDepth 20000 in
theorem ggX4_passes_X2_lay : GoodIn wsX4_passes wsX2_lay := goodIn_r _ [15, 16, 17, 18, 19, 20, 21, 22, 23, 24, 25, 26, 27, 28, 29, 30, 31, 32, 33, 34, 14, 35, 36, 37, 38, 39, 40, 41, 42, 43, 44, 45, 46, 47, 48, 49, 50, 51, 52, 53, 54, 55, 56, 57, 58, 59, 60, 61, 62, 79, 80, 81, 82, 83] (by decide +kernel) (by decide +kernel)
set_option maxRecDepth 20000 in
theorem gX4_passes_X2_lay : GoodIn wsX4_passes (wsV RX4 60 RX2 yX2_lay wsX2_lay) := goodIn_app (goodIn_of _ (by decide +kernel)) ggX4_passes_X2_lay
set_option maxRecDepth 20000 in
theorem ggX4_passes_X1_clear : GoodIn wsX4_passes wsX1_clear := goodIn_r _ [67, 68, 69, 84, 85, 86, 87, 88, 89] (by decide +kernel) (by decide +kernel)
set_option maxRecDepth 20000 in
theorem gX4_passes_X1_clear : GoodIn wsX4_passes (wsV RX4 64 RX1 yX1_clear wsX1_clear) := goodIn_app (goodIn_of _ (by decide +kernel)) ggX4_passes_X1_clear
set_option maxRecDepth 20000 in
theorem ggX4_passes_X2_passCount : GoodIn wsX4_passes wsX2_passCount := goodIn_r _ [73, 18, 79, 80, 81, 82, 83] (by decide +kernel) (by decide +kernel)
set_option maxRecDepth 20000 in
theorem gX4_passes_X2_passCount : GoodIn wsX4_passes (wsV RX4 67 RX2 yX2_passCount wsX2_passCount) := goodIn_app (goodIn_of _ (by decide +kernel)) ggX4_passes_X2_passCount
theorem dX4_passes_0 : decode cX4_passes 0 = .ok (.aload_n 0, 1) := by decide +kernel
theorem dX4_passes_1 : decode cX4_passes 1 = .ok (.getfield 19, 3) := by decide +kernel
theorem dX4_passes_4 : decode cX4_passes 4 = .ok (.iconst 2, 1) := by decide +kernel
theorem dX4_passes_5 : decode cX4_passes 5 = .ok (.if_icmp .ge 13, 3) := by decide +kernel
theorem dX4_passes_8 : decode cX4_passes 8 = .ok (.new 49, 3) := by decide +kernel
theorem dX4_passes_11 : decode cX4_passes 11 = .ok (.dup, 1) := by decide +kernel
theorem dX4_passes_12 : decode cX4_passes 12 = .ok (.ldc 51, 2) := by decide +kernel
theorem dX4_passes_14 : decode cX4_passes 14 = .ok (.invokespecial 53, 3) := by decide +kernel
theorem dX4_passes_17 : decode cX4_passes 17 = .ok (.athrow, 1) := by decide +kernel
theorem dX4_passes_18 : decode cX4_passes 18 = .ok (.lload_n 1, 1) := by decide +kernel
theorem dX4_passes_19 : decode cX4_passes 19 = .ok (.invokestatic 56, 3) := by decide +kernel
theorem dX4_passes_22 : decode cX4_passes 22 = .ok (.ifCond .ne 6, 3) := by decide +kernel
theorem dX4_passes_25 : decode cX4_passes 25 = .ok (.bipush (-2), 2) := by decide +kernel
theorem dX4_passes_27 : decode cX4_passes 27 = .ok (.ireturn, 1) := by decide +kernel
theorem dX4_passes_28 : decode cX4_passes 28 = .ok (.aload_n 0, 1) := by decide +kernel
theorem dX4_passes_29 : decode cX4_passes 29 = .ok (.getfield 28, 3) := by decide +kernel
theorem dX4_passes_32 : decode cX4_passes 32 = .ok (.lload_n 1, 1) := by decide +kernel
theorem dX4_passes_33 : decode cX4_passes 33 = .ok (.invokevirtual 60, 3) := by decide +kernel
theorem dX4_passes_36 : decode cX4_passes 36 = .ok (.aload_n 0, 1) := by decide +kernel
theorem dX4_passes_37 : decode cX4_passes 37 = .ok (.getfield 35, 3) := by decide +kernel
theorem dX4_passes_40 : decode cX4_passes 40 = .ok (.invokevirtual 64, 3) := by decide +kernel
theorem dX4_passes_43 : decode cX4_passes 43 = .ok (.aload_n 0, 1) := by decide +kernel
theorem dX4_passes_44 : decode cX4_passes 44 = .ok (.getfield 28, 3) := by decide +kernel
theorem dX4_passes_47 : decode cX4_passes 47 = .ok (.invokevirtual 67, 3) := by decide +kernel
theorem dX4_passes_50 : decode cX4_passes 50 = .ok (.ireturn, 1) := by decide +kernel
set_option maxRecDepth 20000 in
theorem ggX4_digit_X4_isUnknownPoint : GoodIn wsX4_digit wsX4_isUnknownPoint := goodIn_r _ [6, 1, 7, 8, 9, 10, 11, 12, 13, 14, 15, 16, 40, 41, 42, 43, 44, 45, 46, 47, 48, 49] (by decide +kernel) (by decide +kernel)
set_option maxRecDepth 20000 in
theorem gX4_digit_X4_isUnknownPoint : GoodIn wsX4_digit (wsV RX4 71 RX4 yX4_isUnknownPoint wsX4_isUnknownPoint) := goodIn_app (goodIn_of _ (by decide +kernel)) ggX4_digit_X4_isUnknownPoint
set_option maxRecDepth 20000 in
theorem ggX4_digit_X4_isUnknownPass : GoodIn wsX4_digit wsX4_isUnknownPass := goodIn_r _ [20, 1, 7, 8, 9, 10, 11, 12, 21, 22, 23, 24, 25, 40, 41, 42, 43, 44, 45, 46, 47, 48, 49] (by decide +kernel) (by decide +kernel)
set_option maxRecDepth 20000 in
theorem gX4_digit_X4_isUnknownPass : GoodIn wsX4_digit (wsV RX4 74 RX4 yX4_isUnknownPass wsX4_isUnknownPass) := goodIn_app (goodIn_of _ (by decide +kernel)) ggX4_digit_X4_isUnknownPass
set_option maxRecDepth 20000 in
theorem ggX4_digit_X2_isLaid : GoodIn wsX4_digit wsX2_isLaid := goodIn_r _ [11, 12, 45, 46, 47, 48, 49] (by decide +kernel) (by decide +kernel)
set_option maxRecDepth 20000 in
theorem gX4_digit_X2_isLaid : GoodIn wsX4_digit (wsV RX4 78 RX2 yX2_isLaid wsX2_isLaid) := goodIn_app (goodIn_of _ (by decide +kernel)) ggX4_digit_X2_isLaid
set_option maxRecDepth 20000 in
theorem ggX4_digit_X2_binOf : GoodIn wsX4_digit wsX2_binOf := goodIn_r _ [29, 30, 31, 32, 22, 23, 10, 24, 25, 33, 34, 35, 36, 37, 38, 39, 45, 46, 47, 48, 49] (by decide +kernel) (by decide +kernel)
set_option maxRecDepth 20000 in
theorem gX4_digit_X2_binOf : GoodIn wsX4_digit (wsV RX4 82 RX2 yX2_binOf wsX2_binOf) := goodIn_app (goodIn_of _ (by decide +kernel)) ggX4_digit_X2_binOf
theorem dX4_digit_0 : decode cX4_digit 0 = .ok (.aload_n 0, 1) := by decide +kernel
theorem dX4_digit_1 : decode cX4_digit 1 = .ok (.lload_n 1, 1) := by decide +kernel
theorem dX4_digit_2 : decode cX4_digit 2 = .ok (.invokevirtual 71, 3) := by decide +kernel
theorem dX4_digit_5 : decode cX4_digit 5 = .ok (.ifCond .ne 11, 3) := by decide +kernel
theorem dX4_digit_8 : decode cX4_digit 8 = .ok (.aload_n 0, 1) := by decide +kernel
theorem dX4_digit_9 : decode cX4_digit 9 = .ok (.iload_n 3, 1) := by decide +kernel
theorem dX4_digit_10 : decode cX4_digit 10 = .ok (.invokevirtual 74, 3) := by decide +kernel
theorem dX4_digit_13 : decode cX4_digit 13 = .ok (.ifCond .eq 5, 3) := by decide +kernel
theorem dX4_digit_16 : decode cX4_digit 16 = .ok (.iconst (-1), 1) := by decide +kernel
theorem dX4_digit_17 : decode cX4_digit 17 = .ok (.ireturn, 1) := by decide +kernel
theorem dX4_digit_18 : decode cX4_digit 18 = .ok (.aload_n 0, 1) := by decide +kernel
theorem dX4_digit_19 : decode cX4_digit 19 = .ok (.getfield 28, 3) := by decide +kernel
theorem dX4_digit_22 : decode cX4_digit 22 = .ok (.invokevirtual 78, 3) := by decide +kernel
theorem dX4_digit_25 : decode cX4_digit 25 = .ok (.ifCond .eq 15, 3) := by decide +kernel
theorem dX4_digit_28 : decode cX4_digit 28 = .ok (.aload_n 0, 1) := by decide +kernel
theorem dX4_digit_29 : decode cX4_digit 29 = .ok (.getfield 28, 3) := by decide +kernel
theorem dX4_digit_32 : decode cX4_digit 32 = .ok (.lload_n 1, 1) := by decide +kernel
theorem dX4_digit_33 : decode cX4_digit 33 = .ok (.iload_n 3, 1) := by decide +kernel
theorem dX4_digit_34 : decode cX4_digit 34 = .ok (.invokevirtual 82, 3) := by decide +kernel
theorem dX4_digit_37 : decode cX4_digit 37 = .ok (.goto 5, 3) := by decide +kernel
theorem dX4_digit_40 : decode cX4_digit 40 = .ok (.bipush (-3), 2) := by decide +kernel
theorem dX4_digit_42 : decode cX4_digit 42 = .ok (.ireturn, 1) := by decide +kernel
set_option maxRecDepth 20000 in
theorem ggX4_best_X4_isRound : GoodIn wsX4_best wsX4_isRound := goodIn_r _ [5, 6] (by decide +kernel) (by decide +kernel)
set_option maxRecDepth 20000 in
theorem gX4_best_X4_isRound : GoodIn wsX4_best (va_wsS RX4 56 yX4_isRound wsX4_isRound) := goodIn_app (goodIn_of _ (by decide +kernel)) ggX4_best_X4_isRound
set_option maxRecDepth 20000 in
theorem ggX4_best_X3_leastBase : GoodIn wsX4_best wsX3_leastBase := goodIn_r _ [10, 11, 12, 13, 9, 14, 15, 16, 17, 18, 19, 20, 21] (by decide +kernel) (by decide +kernel)
set_option maxRecDepth 20000 in
theorem gX4_best_X3_leastBase : GoodIn wsX4_best (va_wsS RX4 90 yX3_leastBase wsX3_leastBase) := goodIn_app (goodIn_of _ (by decide +kernel)) ggX4_best_X3_leastBase
theorem dX4_best_0 : decode cX4_best 0 = .ok (.lload_n 1, 1) := by decide +kernel
theorem dX4_best_1 : decode cX4_best 1 = .ok (.invokestatic 56, 3) := by decide +kernel
theorem dX4_best_4 : decode cX4_best 4 = .ok (.ifCond .eq 14, 3) := by decide +kernel
theorem dX4_best_7 : decode cX4_best 7 = .ok (.iload_n 3, 1) := by decide +kernel
theorem dX4_best_8 : decode cX4_best 8 = .ok (.iconst 1, 1) := by decide +kernel
theorem dX4_best_9 : decode cX4_best 9 = .ok (.if_icmp .lt 9, 3) := by decide +kernel
theorem dX4_best_12 : decode cX4_best 12 = .ok (.iload_n 3, 1) := by decide +kernel
theorem dX4_best_13 : decode cX4_best 13 = .ok (.bipush 62, 2) := by decide +kernel
theorem dX4_best_15 : decode cX4_best 15 = .ok (.if_icmp .le 6, 3) := by decide +kernel
theorem dX4_best_18 : decode cX4_best 18 = .ok (.bipush (-2), 2) := by decide +kernel
theorem dX4_best_20 : decode cX4_best 20 = .ok (.ireturn, 1) := by decide +kernel
theorem dX4_best_21 : decode cX4_best 21 = .ok (.lload_n 1, 1) := by decide +kernel
theorem dX4_best_22 : decode cX4_best 22 = .ok (.iload_n 3, 1) := by decide +kernel
theorem dX4_best_23 : decode cX4_best 23 = .ok (.ldc2_w 88, 3) := by decide +kernel
theorem dX4_best_26 : decode cX4_best 26 = .ok (.invokestatic 90, 3) := by decide +kernel
theorem dX4_best_29 : decode cX4_best 29 = .ok (.lstore 4, 2) := by decide +kernel
theorem dX4_best_31 : decode cX4_best 31 = .ok (.lload 4, 2) := by decide +kernel
theorem dX4_best_33 : decode cX4_best 33 = .ok (.ldc2_w 88, 3) := by decide +kernel
theorem dX4_best_36 : decode cX4_best 36 = .ok (.lcmp, 1) := by decide +kernel
theorem dX4_best_37 : decode cX4_best 37 = .ok (.ifCond .le 8, 3) := by decide +kernel
theorem dX4_best_40 : decode cX4_best 40 = .ok (.bipush (-2), 2) := by decide +kernel
theorem dX4_best_42 : decode cX4_best 42 = .ok (.goto 6, 3) := by decide +kernel
theorem dX4_best_45 : decode cX4_best 45 = .ok (.lload 4, 2) := by decide +kernel
theorem dX4_best_47 : decode cX4_best 47 = .ok (.l2i, 1) := by decide +kernel
theorem dX4_best_48 : decode cX4_best 48 = .ok (.ireturn, 1) := by decide +kernel
set_option maxRecDepth 20000 in
theorem ggX4_volume_X4_isUnknownPoint : GoodIn wsX4_volume wsX4_isUnknownPoint := goodIn_r _ [7, 1, 8, 9, 10, 11, 12, 13, 14, 15, 16, 17, 42, 43, 44, 45, 46, 47, 48, 49, 50, 51] (by decide +kernel) (by decide +kernel)
set_option maxRecDepth 20000 in
theorem gX4_volume_X4_isUnknownPoint : GoodIn wsX4_volume (wsV RX4 71 RX4 yX4_isUnknownPoint wsX4_isUnknownPoint) := goodIn_app (goodIn_of _ (by decide +kernel)) ggX4_volume_X4_isUnknownPoint
set_option maxRecDepth 20000 in
theorem ggX4_volume_X2_isLaid : GoodIn wsX4_volume wsX2_isLaid := goodIn_r _ [12, 13, 47, 48, 49, 50, 51] (by decide +kernel) (by decide +kernel)
set_option maxRecDepth 20000 in
theorem gX4_volume_X2_isLaid : GoodIn wsX4_volume (wsV RX4 78 RX2 yX2_isLaid wsX2_isLaid) := goodIn_app (goodIn_of _ (by decide +kernel)) ggX4_volume_X2_isLaid
set_option maxRecDepth 20000 in
theorem ggX4_volume_X1_hasRoom : GoodIn wsX4_volume wsX1_hasRoom := goodIn_r _ [22, 23, 24, 52, 53, 54, 55, 56, 57] (by decide +kernel) (by decide +kernel)
set_option maxRecDepth 20000 in
theorem gX4_volume_X1_hasRoom : GoodIn wsX4_volume (wsV RX4 96 RX1 yX1_hasRoom wsX1_hasRoom) := goodIn_app (goodIn_of _ (by decide +kernel)) ggX4_volume_X1_hasRoom
set_option maxRecDepth 20000 in
theorem ggX4_volume_X1_add : GoodIn wsX4_volume wsX1_add := goodIn_r _ [28, 29, 24, 30, 23, 31, 32, 19, 20, 21, 22, 33, 34, 35, 36, 37, 52, 53, 54, 55, 56, 57] (by decide +kernel) (by decide +kernel)
set_option maxRecDepth 20000 in
theorem gX4_volume_X1_add : GoodIn wsX4_volume (wsV RX4 99 RX1 yX1_add wsX1_add) := goodIn_app (goodIn_of _ (by decide +kernel)) ggX4_volume_X1_add
set_option maxRecDepth 20000 in
theorem ggX4_volume_X1_total : GoodIn wsX4_volume wsX1_total := goodIn_r _ [41, 23, 52, 53, 54, 55, 56, 57] (by decide +kernel) (by decide +kernel)
set_option maxRecDepth 20000 in
theorem gX4_volume_X1_total : GoodIn wsX4_volume (wsV RX4 103 RX1 yX1_total wsX1_total) := goodIn_app (goodIn_of _ (by decide +kernel)) ggX4_volume_X1_total
theorem dX4_volume_0 : decode cX4_volume 0 = .ok (.aload_n 0, 1) := by decide +kernel
theorem dX4_volume_1 : decode cX4_volume 1 = .ok (.lload_n 1, 1) := by decide +kernel
theorem dX4_volume_2 : decode cX4_volume 2 = .ok (.invokevirtual 71, 3) := by decide +kernel
theorem dX4_volume_5 : decode cX4_volume 5 = .ok (.ifCond .eq 5, 3) := by decide +kernel
theorem dX4_volume_8 : decode cX4_volume 8 = .ok (.iconst (-1), 1) := by decide +kernel
theorem dX4_volume_9 : decode cX4_volume 9 = .ok (.ireturn, 1) := by decide +kernel
theorem dX4_volume_10 : decode cX4_volume 10 = .ok (.iload_n 3, 1) := by decide +kernel
theorem dX4_volume_11 : decode cX4_volume 11 = .ok (.ifCond .lt 10, 3) := by decide +kernel
theorem dX4_volume_14 : decode cX4_volume 14 = .ok (.iload_n 3, 1) := by decide +kernel
theorem dX4_volume_15 : decode cX4_volume 15 = .ok (.sipush 1000, 3) := by decide +kernel
theorem dX4_volume_18 : decode cX4_volume 18 = .ok (.if_icmp .le 6, 3) := by decide +kernel
theorem dX4_volume_21 : decode cX4_volume 21 = .ok (.bipush (-2), 2) := by decide +kernel
theorem dX4_volume_23 : decode cX4_volume 23 = .ok (.ireturn, 1) := by decide +kernel
theorem dX4_volume_24 : decode cX4_volume 24 = .ok (.aload_n 0, 1) := by decide +kernel
theorem dX4_volume_25 : decode cX4_volume 25 = .ok (.getfield 28, 3) := by decide +kernel
theorem dX4_volume_28 : decode cX4_volume 28 = .ok (.invokevirtual 78, 3) := by decide +kernel
theorem dX4_volume_31 : decode cX4_volume 31 = .ok (.ifCond .ne 6, 3) := by decide +kernel
theorem dX4_volume_34 : decode cX4_volume 34 = .ok (.bipush (-3), 2) := by decide +kernel
theorem dX4_volume_36 : decode cX4_volume 36 = .ok (.ireturn, 1) := by decide +kernel
theorem dX4_volume_37 : decode cX4_volume 37 = .ok (.aload_n 0, 1) := by decide +kernel
theorem dX4_volume_38 : decode cX4_volume 38 = .ok (.getfield 35, 3) := by decide +kernel
theorem dX4_volume_41 : decode cX4_volume 41 = .ok (.iload_n 3, 1) := by decide +kernel
theorem dX4_volume_42 : decode cX4_volume 42 = .ok (.invokevirtual 96, 3) := by decide +kernel
theorem dX4_volume_45 : decode cX4_volume 45 = .ok (.ifCond .ne 6, 3) := by decide +kernel
theorem dX4_volume_48 : decode cX4_volume 48 = .ok (.bipush (-4), 2) := by decide +kernel
theorem dX4_volume_50 : decode cX4_volume 50 = .ok (.ireturn, 1) := by decide +kernel
theorem dX4_volume_51 : decode cX4_volume 51 = .ok (.aload_n 0, 1) := by decide +kernel
theorem dX4_volume_52 : decode cX4_volume 52 = .ok (.getfield 35, 3) := by decide +kernel
theorem dX4_volume_55 : decode cX4_volume 55 = .ok (.lload_n 1, 1) := by decide +kernel
theorem dX4_volume_56 : decode cX4_volume 56 = .ok (.iload_n 3, 1) := by decide +kernel
theorem dX4_volume_57 : decode cX4_volume 57 = .ok (.invokevirtual 99, 3) := by decide +kernel
theorem dX4_volume_60 : decode cX4_volume 60 = .ok (.aload_n 0, 1) := by decide +kernel
theorem dX4_volume_61 : decode cX4_volume 61 = .ok (.getfield 35, 3) := by decide +kernel
theorem dX4_volume_64 : decode cX4_volume 64 = .ok (.invokevirtual 103, 3) := by decide +kernel
theorem dX4_volume_67 : decode cX4_volume 67 = .ok (.ireturn, 1) := by decide +kernel
set_option maxRecDepth 20000 in
theorem ggX4_height_X4_heightOf : GoodIn wsX4_height wsX4_heightOf := goodIn_r _ [8, 3, 9, 10, 11, 12, 13, 14, 15, 16, 17, 18, 19, 20, 27, 28, 29, 30, 31, 32, 33, 34, 35] (by decide +kernel) (by decide +kernel)
set_option maxRecDepth 20000 in
theorem gX4_height_X4_heightOf : GoodIn wsX4_height (wsV RX4 107 RX4 yX4_heightOf wsX4_heightOf) := goodIn_app (goodIn_of _ (by decide +kernel)) ggX4_height_X4_heightOf
set_option maxRecDepth 20000 in
theorem ggX4_height_X0_put : GoodIn wsX4_height wsX0_put := goodIn_r _ [24, 14, 25, 26, 15, 16, 17, 18, 12, 19, 20, 32, 33, 34, 35] (by decide +kernel) (by decide +kernel)
set_option maxRecDepth 20000 in
theorem gX4_height_X0_put : GoodIn wsX4_height (wsV RX4 111 RX0 yX0_put wsX0_put) := goodIn_app (goodIn_of _ (by decide +kernel)) ggX4_height_X0_put
theorem dX4_height_0 : decode cX4_height 0 = .ok (.iload_n 1, 1) := by decide +kernel
theorem dX4_height_1 : decode cX4_height 1 = .ok (.ifCond .lt 11, 3) := by decide +kernel
theorem dX4_height_4 : decode cX4_height 4 = .ok (.iload_n 1, 1) := by decide +kernel
theorem dX4_height_5 : decode cX4_height 5 = .ok (.aload_n 0, 1) := by decide +kernel
theorem dX4_height_6 : decode cX4_height 6 = .ok (.getfield 19, 3) := by decide +kernel
theorem dX4_height_9 : decode cX4_height 9 = .ok (.if_icmp .lt 5, 3) := by decide +kernel
theorem dX4_height_12 : decode cX4_height 12 = .ok (.iconst (-1), 1) := by decide +kernel
theorem dX4_height_13 : decode cX4_height 13 = .ok (.ireturn, 1) := by decide +kernel
theorem dX4_height_14 : decode cX4_height 14 = .ok (.iload_n 2, 1) := by decide +kernel
theorem dX4_height_15 : decode cX4_height 15 = .ok (.iconst 1, 1) := by decide +kernel
theorem dX4_height_16 : decode cX4_height 16 = .ok (.if_icmp .lt 9, 3) := by decide +kernel
theorem dX4_height_19 : decode cX4_height 19 = .ok (.iload_n 2, 1) := by decide +kernel
theorem dX4_height_20 : decode cX4_height 20 = .ok (.ldc 106, 2) := by decide +kernel
theorem dX4_height_22 : decode cX4_height 22 = .ok (.if_icmp .le 6, 3) := by decide +kernel
theorem dX4_height_25 : decode cX4_height 25 = .ok (.bipush (-2), 2) := by decide +kernel
theorem dX4_height_27 : decode cX4_height 27 = .ok (.ireturn, 1) := by decide +kernel
theorem dX4_height_28 : decode cX4_height 28 = .ok (.aload_n 0, 1) := by decide +kernel
theorem dX4_height_29 : decode cX4_height 29 = .ok (.iload_n 1, 1) := by decide +kernel
theorem dX4_height_30 : decode cX4_height 30 = .ok (.invokevirtual 107, 3) := by decide +kernel
theorem dX4_height_33 : decode cX4_height 33 = .ok (.istore_n 3, 1) := by decide +kernel
theorem dX4_height_34 : decode cX4_height 34 = .ok (.aload_n 0, 1) := by decide +kernel
theorem dX4_height_35 : decode cX4_height 35 = .ok (.getfield 42, 3) := by decide +kernel
theorem dX4_height_38 : decode cX4_height 38 = .ok (.iload_n 1, 1) := by decide +kernel
theorem dX4_height_39 : decode cX4_height 39 = .ok (.iload_n 2, 1) := by decide +kernel
theorem dX4_height_40 : decode cX4_height 40 = .ok (.invokevirtual 111, 3) := by decide +kernel
theorem dX4_height_43 : decode cX4_height 43 = .ok (.ifCond .eq 7, 3) := by decide +kernel
theorem dX4_height_46 : decode cX4_height 46 = .ok (.iload_n 3, 1) := by decide +kernel
theorem dX4_height_47 : decode cX4_height 47 = .ok (.goto 5, 3) := by decide +kernel
theorem dX4_height_50 : decode cX4_height 50 = .ok (.bipush (-2), 2) := by decide +kernel
theorem dX4_height_52 : decode cX4_height 52 = .ok (.ireturn, 1) := by decide +kernel
set_option maxRecDepth 20000 in
theorem ggX4_trays_X2_isLaid : GoodIn wsX4_trays wsX2_isLaid := goodIn_r _ [6, 7, 104, 105, 106, 107, 108] (by decide +kernel) (by decide +kernel)
set_option maxRecDepth 20000 in
theorem gX4_trays_X2_isLaid : GoodIn wsX4_trays (wsV RX4 78 RX2 yX2_isLaid wsX2_isLaid) := goodIn_app (goodIn_of _ (by decide +kernel)) ggX4_trays_X2_isLaid
set_option maxRecDepth 20000 in
theorem ggX4_trays_X2_passCount : GoodIn wsX4_trays wsX2_passCount := goodIn_r _ [11, 12, 104, 105, 106, 107, 108] (by decide +kernel) (by decide +kernel)
set_option maxRecDepth 20000 in
theorem gX4_trays_X2_passCount : GoodIn wsX4_trays (wsV RX4 67 RX2 yX2_passCount wsX2_passCount) := goodIn_app (goodIn_of _ (by decide +kernel)) ggX4_trays_X2_passCount
set_option maxRecDepth 20000 in
theorem ggX4_trays_X4_traysOfPass : GoodIn wsX4_trays wsX4_traysOfPass := goodIn_r _ [17, 18, 19, 1, 20, 21, 22, 23, 24, 25, 26, 27, 28, 29, 30, 31, 32, 33, 34, 35, 36, 37, 38, 39, 40, 41, 42, 43, 44, 45, 5, 46, 47, 48, 49, 50, 51, 52, 12, 53, 54, 55, 56, 57, 58, 59, 60, 61, 62, 63, 64, 65, 66, 67, 68, 69, 70, 71, 72, 73, 74, 75, 76, 77, 78, 79, 80, 81, 82, 83, 84, 85, 86, 87, 88, 89, 90, 91, 92, 93, 16, 94, 95, 96, 97, 98, 99, 100, 101, 102, 103, 109, 110, 111, 112, 113, 114, 115, 116, 117, 118, 104, 105, 106, 107, 108] (by decide +kernel) (by decide +kernel)
set_option maxRecDepth 20000 in
theorem gX4_trays_X4_traysOfPass : GoodIn wsX4_trays (wsV RX4 115 RX4 yX4_traysOfPass wsX4_traysOfPass) := goodIn_app (goodIn_of _ (by decide +kernel)) ggX4_trays_X4_traysOfPass
theorem dX4_trays_0 : decode cX4_trays 0 = .ok (.aload_n 0, 1) := by decide +kernel
theorem dX4_trays_1 : decode cX4_trays 1 = .ok (.getfield 28, 3) := by decide +kernel
theorem dX4_trays_4 : decode cX4_trays 4 = .ok (.invokevirtual 78, 3) := by decide +kernel
theorem dX4_trays_7 : decode cX4_trays 7 = .ok (.ifCond .ne 6, 3) := by decide +kernel
theorem dX4_trays_10 : decode cX4_trays 10 = .ok (.bipush (-3), 2) := by decide +kernel
theorem dX4_trays_12 : decode cX4_trays 12 = .ok (.ireturn, 1) := by decide +kernel
theorem dX4_trays_13 : decode cX4_trays 13 = .ok (.iconst 0, 1) := by decide +kernel
theorem dX4_trays_14 : decode cX4_trays 14 = .ok (.istore_n 1, 1) := by decide +kernel
theorem dX4_trays_15 : decode cX4_trays 15 = .ok (.iconst 0, 1) := by decide +kernel
theorem dX4_trays_16 : decode cX4_trays 16 = .ok (.istore_n 2, 1) := by decide +kernel
theorem dX4_trays_17 : decode cX4_trays 17 = .ok (.iload_n 2, 1) := by decide +kernel
theorem dX4_trays_18 : decode cX4_trays 18 = .ok (.aload_n 0, 1) := by decide +kernel
theorem dX4_trays_19 : decode cX4_trays 19 = .ok (.getfield 28, 3) := by decide +kernel
theorem dX4_trays_22 : decode cX4_trays 22 = .ok (.invokevirtual 67, 3) := by decide +kernel
theorem dX4_trays_25 : decode cX4_trays 25 = .ok (.if_icmp .ge 17, 3) := by decide +kernel
theorem dX4_trays_28 : decode cX4_trays 28 = .ok (.iload_n 1, 1) := by decide +kernel
theorem dX4_trays_29 : decode cX4_trays 29 = .ok (.aload_n 0, 1) := by decide +kernel
theorem dX4_trays_30 : decode cX4_trays 30 = .ok (.iload_n 2, 1) := by decide +kernel
theorem dX4_trays_31 : decode cX4_trays 31 = .ok (.invokevirtual 115, 3) := by decide +kernel
theorem dX4_trays_34 : decode cX4_trays 34 = .ok (.iadd, 1) := by decide +kernel
theorem dX4_trays_35 : decode cX4_trays 35 = .ok (.istore_n 1, 1) := by decide +kernel
theorem dX4_trays_36 : decode cX4_trays 36 = .ok (.iinc 2 1, 3) := by decide +kernel
theorem dX4_trays_39 : decode cX4_trays 39 = .ok (.goto (-22), 3) := by decide +kernel
theorem dX4_trays_42 : decode cX4_trays 42 = .ok (.iload_n 1, 1) := by decide +kernel
theorem dX4_trays_43 : decode cX4_trays 43 = .ok (.ireturn, 1) := by decide +kernel
set_option maxRecDepth 20000 in
theorem ggX4_sort_X4_isUnknownItem : GoodIn wsX4_sort wsX4_isUnknownItem := goodIn_r _ [7, 1, 2, 8, 9, 10, 11, 12, 13, 14, 15, 16, 17, 18, 19, 55, 56, 57, 58, 59, 60, 61, 62, 63, 64, 65, 66, 67, 68, 69, 70] (by decide +kernel) (by decide +kernel)
set_option maxRecDepth 20000 in
theorem gX4_sort_X4_isUnknownItem : GoodIn wsX4_sort (wsV RX4 118 RX4 yX4_isUnknownItem wsX4_isUnknownItem) := goodIn_app (goodIn_of _ (by decide +kernel)) ggX4_sort_X4_isUnknownItem
set_option maxRecDepth 20000 in
theorem ggX4_sort_X4_isUnknownPass : GoodIn wsX4_sort wsX4_isUnknownPass := goodIn_r _ [23, 1, 8, 9, 10, 11, 12, 13, 24, 25, 26, 27, 28, 55, 56, 57, 58, 59, 60, 61, 62, 63, 64] (by decide +kernel) (by decide +kernel)
set_option maxRecDepth 20000 in
theorem gX4_sort_X4_isUnknownPass : GoodIn wsX4_sort (wsV RX4 74 RX4 yX4_isUnknownPass wsX4_isUnknownPass) := goodIn_app (goodIn_of _ (by decide +kernel)) ggX4_sort_X4_isUnknownPass
set_option maxRecDepth 20000 in
theorem ggX4_sort_X2_isLaid : GoodIn wsX4_sort wsX2_isLaid := goodIn_r _ [12, 13, 60, 61, 62, 63, 64] (by decide +kernel) (by decide +kernel)
set_option maxRecDepth 20000 in
theorem gX4_sort_X2_isLaid : GoodIn wsX4_sort (wsV RX4 78 RX2 yX2_isLaid wsX2_isLaid) := goodIn_app (goodIn_of _ (by decide +kernel)) ggX4_sort_X2_isLaid
set_option maxRecDepth 20000 in
theorem ggX4_sort_X2_spanBehind : GoodIn wsX4_sort wsX2_spanBehind := goodIn_r _ [32, 33, 34, 25, 26, 11, 27, 28, 60, 61, 62, 63, 64] (by decide +kernel) (by decide +kernel)
end
section
set_option maxRecDepth 20000 in
theorem gX4_sort_X2_spanBehind : GoodIn wsX4_sort (wsV RX4 121 RX2 yX2_spanBehind wsX2_spanBehind) := goodIn_app (goodIn_of _ (by decide +kernel)) ggX4_sort_X2_spanBehind
set_option maxRecDepth 20000 in
theorem ggX4_sort_X1_placeOf : GoodIn wsX4_sort wsX1_placeOf := goodIn_r _ [38, 39, 40, 41, 42, 43, 44, 45, 17, 46, 47, 48, 49, 50, 51, 52, 53, 54, 65, 66, 67, 68, 69, 70] (by decide +kernel) (by decide +kernel)
set_option maxRecDepth 20000 in
theorem gX4_sort_X1_placeOf : GoodIn wsX4_sort (wsV RX4 125 RX1 yX1_placeOf wsX1_placeOf) := goodIn_app (goodIn_of _ (by decide +kernel)) ggX4_sort_X1_placeOf
theorem dX4_sort_0 : decode cX4_sort 0 = .ok (.aload_n 0, 1) := by decide +kernel
theorem dX4_sort_1 : decode cX4_sort 1 = .ok (.iload_n 1, 1) := by decide +kernel
theorem dX4_sort_2 : decode cX4_sort 2 = .ok (.invokevirtual 118, 3) := by decide +kernel
theorem dX4_sort_5 : decode cX4_sort 5 = .ok (.ifCond .ne 11, 3) := by decide +kernel
theorem dX4_sort_8 : decode cX4_sort 8 = .ok (.aload_n 0, 1) := by decide +kernel
theorem dX4_sort_9 : decode cX4_sort 9 = .ok (.iload_n 2, 1) := by decide +kernel
theorem dX4_sort_10 : decode cX4_sort 10 = .ok (.invokevirtual 74, 3) := by decide +kernel
theorem dX4_sort_13 : decode cX4_sort 13 = .ok (.ifCond .eq 5, 3) := by decide +kernel
theorem dX4_sort_16 : decode cX4_sort 16 = .ok (.iconst (-1), 1) := by decide +kernel
theorem dX4_sort_17 : decode cX4_sort 17 = .ok (.ireturn, 1) := by decide +kernel
theorem dX4_sort_18 : decode cX4_sort 18 = .ok (.aload_n 0, 1) := by decide +kernel
theorem dX4_sort_19 : decode cX4_sort 19 = .ok (.getfield 28, 3) := by decide +kernel
theorem dX4_sort_22 : decode cX4_sort 22 = .ok (.invokevirtual 78, 3) := by decide +kernel
theorem dX4_sort_25 : decode cX4_sort 25 = .ok (.ifCond .eq 22, 3) := by decide +kernel
theorem dX4_sort_28 : decode cX4_sort 28 = .ok (.aload_n 0, 1) := by decide +kernel
theorem dX4_sort_29 : decode cX4_sort 29 = .ok (.getfield 35, 3) := by decide +kernel
theorem dX4_sort_32 : decode cX4_sort 32 = .ok (.iload_n 1, 1) := by decide +kernel
theorem dX4_sort_33 : decode cX4_sort 33 = .ok (.aload_n 0, 1) := by decide +kernel
theorem dX4_sort_34 : decode cX4_sort 34 = .ok (.getfield 28, 3) := by decide +kernel
theorem dX4_sort_37 : decode cX4_sort 37 = .ok (.iload_n 2, 1) := by decide +kernel
theorem dX4_sort_38 : decode cX4_sort 38 = .ok (.invokevirtual 121, 3) := by decide +kernel
theorem dX4_sort_41 : decode cX4_sort 41 = .ok (.invokevirtual 125, 3) := by decide +kernel
theorem dX4_sort_44 : decode cX4_sort 44 = .ok (.goto 5, 3) := by decide +kernel
theorem dX4_sort_47 : decode cX4_sort 47 = .ok (.bipush (-3), 2) := by decide +kernel
theorem dX4_sort_49 : decode cX4_sort 49 = .ok (.ireturn, 1) := by decide +kernel
set_option maxRecDepth 20000 in
theorem ggX4_order_X4_isUnknownItem : GoodIn wsX4_order wsX4_isUnknownItem := goodIn_r _ [7, 1, 2, 8, 9, 10, 11, 12, 13, 14, 15, 16, 17, 18, 19, 28, 29, 30, 31, 32, 33, 34, 35, 36, 37, 38, 39, 40, 41, 42, 43] (by decide +kernel) (by decide +kernel)
set_option maxRecDepth 20000 in
theorem gX4_order_X4_isUnknownItem : GoodIn wsX4_order (wsV RX4 118 RX4 yX4_isUnknownItem wsX4_isUnknownItem) := goodIn_app (goodIn_of _ (by decide +kernel)) ggX4_order_X4_isUnknownItem
set_option maxRecDepth 20000 in
theorem ggX4_order_X2_isLaid : GoodIn wsX4_order wsX2_isLaid := goodIn_r _ [12, 13, 33, 34, 35, 36, 37] (by decide +kernel) (by decide +kernel)
set_option maxRecDepth 20000 in
theorem gX4_order_X2_isLaid : GoodIn wsX4_order (wsV RX4 78 RX2 yX2_isLaid wsX2_isLaid) := goodIn_app (goodIn_of _ (by decide +kernel)) ggX4_order_X2_isLaid
set_option maxRecDepth 20000 in
theorem ggX4_order_X1_itemAt : GoodIn wsX4_order wsX1_itemAt := goodIn_r _ [23, 24, 25, 26, 27, 38, 39, 40, 41, 42, 43] (by decide +kernel) (by decide +kernel)
set_option maxRecDepth 20000 in
theorem gX4_order_X1_itemAt : GoodIn wsX4_order (wsV RX4 129 RX1 yX1_itemAt wsX1_itemAt) := goodIn_app (goodIn_of _ (by decide +kernel)) ggX4_order_X1_itemAt
theorem dX4_order_0 : decode cX4_order 0 = .ok (.aload_n 0, 1) := by decide +kernel
theorem dX4_order_1 : decode cX4_order 1 = .ok (.iload_n 1, 1) := by decide +kernel
theorem dX4_order_2 : decode cX4_order 2 = .ok (.invokevirtual 118, 3) := by decide +kernel
theorem dX4_order_5 : decode cX4_order 5 = .ok (.ifCond .eq 5, 3) := by decide +kernel
theorem dX4_order_8 : decode cX4_order 8 = .ok (.iconst (-1), 1) := by decide +kernel
theorem dX4_order_9 : decode cX4_order 9 = .ok (.ireturn, 1) := by decide +kernel
theorem dX4_order_10 : decode cX4_order 10 = .ok (.aload_n 0, 1) := by decide +kernel
theorem dX4_order_11 : decode cX4_order 11 = .ok (.getfield 28, 3) := by decide +kernel
theorem dX4_order_14 : decode cX4_order 14 = .ok (.invokevirtual 78, 3) := by decide +kernel
theorem dX4_order_17 : decode cX4_order 17 = .ok (.ifCond .eq 14, 3) := by decide +kernel
theorem dX4_order_20 : decode cX4_order 20 = .ok (.aload_n 0, 1) := by decide +kernel
theorem dX4_order_21 : decode cX4_order 21 = .ok (.getfield 35, 3) := by decide +kernel
theorem dX4_order_24 : decode cX4_order 24 = .ok (.iload_n 1, 1) := by decide +kernel
theorem dX4_order_25 : decode cX4_order 25 = .ok (.invokevirtual 129, 3) := by decide +kernel
theorem dX4_order_28 : decode cX4_order 28 = .ok (.goto 5, 3) := by decide +kernel
theorem dX4_order_31 : decode cX4_order 31 = .ok (.bipush (-3), 2) := by decide +kernel
theorem dX4_order_33 : decode cX4_order 33 = .ok (.ireturn, 1) := by decide +kernel
set_option maxRecDepth 20000 in
theorem ggX4_digits_X2_hasPass : GoodIn wsX4_digits wsX2_hasPass := goodIn_r _ [9, 10, 28, 29, 30, 31, 32] (by decide +kernel) (by decide +kernel)
set_option maxRecDepth 20000 in
theorem gX4_digits_X2_hasPass : GoodIn wsX4_digits (wsV RX4 132 RX2 yX2_hasPass wsX2_hasPass) := goodIn_app (goodIn_of _ (by decide +kernel)) ggX4_digits_X2_hasPass
set_option maxRecDepth 20000 in
theorem ggX4_digits_X2_sizeOf : GoodIn wsX4_digits wsX2_sizeOf := goodIn_r _ [14, 15, 16, 6, 7, 8, 9, 10, 28, 29, 30, 31, 32] (by decide +kernel) (by decide +kernel)
set_option maxRecDepth 20000 in
theorem gX4_digits_X2_sizeOf : GoodIn wsX4_digits (wsV RX4 140 RX2 yX2_sizeOf wsX2_sizeOf) := goodIn_app (goodIn_of _ (by decide +kernel)) ggX4_digits_X2_sizeOf
theorem dX4_digits_0 : decode cX4_digits 0 = .ok (.aload_n 0, 1) := by decide +kernel
theorem dX4_digits_1 : decode cX4_digits 1 = .ok (.getfield 28, 3) := by decide +kernel
theorem dX4_digits_4 : decode cX4_digits 4 = .ok (.iload_n 1, 1) := by decide +kernel
theorem dX4_digits_5 : decode cX4_digits 5 = .ok (.invokevirtual 132, 3) := by decide +kernel
theorem dX4_digits_8 : decode cX4_digits 8 = .ok (.ifCond .ne 13, 3) := by decide +kernel
theorem dX4_digits_11 : decode cX4_digits 11 = .ok (.new 135, 3) := by decide +kernel
theorem dX4_digits_14 : decode cX4_digits 14 = .ok (.dup, 1) := by decide +kernel
theorem dX4_digits_15 : decode cX4_digits 15 = .ok (.ldc 137, 2) := by decide +kernel
theorem dX4_digits_17 : decode cX4_digits 17 = .ok (.invokespecial 139, 3) := by decide +kernel
theorem dX4_digits_20 : decode cX4_digits 20 = .ok (.athrow, 1) := by decide +kernel
theorem dX4_digits_21 : decode cX4_digits 21 = .ok (.aload_n 0, 1) := by decide +kernel
theorem dX4_digits_22 : decode cX4_digits 22 = .ok (.getfield 28, 3) := by decide +kernel
theorem dX4_digits_25 : decode cX4_digits 25 = .ok (.iload_n 1, 1) := by decide +kernel
theorem dX4_digits_26 : decode cX4_digits 26 = .ok (.invokevirtual 140, 3) := by decide +kernel
theorem dX4_digits_29 : decode cX4_digits 29 = .ok (.ireturn, 1) := by decide +kernel
set_option maxRecDepth 20000 in
theorem ggX4_least_X4_isRound : GoodIn wsX4_least wsX4_isRound := goodIn_r _ [5, 6] (by decide +kernel) (by decide +kernel)
set_option maxRecDepth 20000 in
theorem gX4_least_X4_isRound : GoodIn wsX4_least (va_wsS RX4 56 yX4_isRound wsX4_isRound) := goodIn_app (goodIn_of _ (by decide +kernel)) ggX4_least_X4_isRound
set_option maxRecDepth 20000 in
theorem ggX4_least_X3_leastExponent : GoodIn wsX4_least wsX3_leastExponent := goodIn_r _ [10, 11, 12, 9, 13, 14, 15, 16, 17] (by decide +kernel) (by decide +kernel)
set_option maxRecDepth 20000 in
theorem gX4_least_X3_leastExponent : GoodIn wsX4_least (va_wsS RX4 143 yX3_leastExponent wsX3_leastExponent) := goodIn_app (goodIn_of _ (by decide +kernel)) ggX4_least_X3_leastExponent
theorem dX4_least_0 : decode cX4_least 0 = .ok (.aload_n 0, 1) := by decide +kernel
theorem dX4_least_1 : decode cX4_least 1 = .ok (.getfield 19, 3) := by decide +kernel
theorem dX4_least_4 : decode cX4_least 4 = .ok (.iconst 2, 1) := by decide +kernel
theorem dX4_least_5 : decode cX4_least 5 = .ok (.if_icmp .lt 27, 3) := by decide +kernel
theorem dX4_least_8 : decode cX4_least 8 = .ok (.lload_n 1, 1) := by decide +kernel
theorem dX4_least_9 : decode cX4_least 9 = .ok (.invokestatic 56, 3) := by decide +kernel
theorem dX4_least_12 : decode cX4_least 12 = .ok (.ifCond .eq 20, 3) := by decide +kernel
theorem dX4_least_15 : decode cX4_least 15 = .ok (.iload_n 3, 1) := by decide +kernel
theorem dX4_least_16 : decode cX4_least 16 = .ok (.aload_n 0, 1) := by decide +kernel
theorem dX4_least_17 : decode cX4_least 17 = .ok (.getfield 19, 3) := by decide +kernel
theorem dX4_least_20 : decode cX4_least 20 = .ok (.i2l, 1) := by decide +kernel
theorem dX4_least_21 : decode cX4_least 21 = .ok (.lload_n 1, 1) := by decide +kernel
theorem dX4_least_22 : decode cX4_least 22 = .ok (.invokestatic 143, 3) := by decide +kernel
theorem dX4_least_25 : decode cX4_least 25 = .ok (.if_icmp .ne 7, 3) := by decide +kernel
theorem dX4_least_28 : decode cX4_least 28 = .ok (.iconst 1, 1) := by decide +kernel
theorem dX4_least_29 : decode cX4_least 29 = .ok (.goto 4, 3) := by decide +kernel
theorem dX4_least_32 : decode cX4_least 32 = .ok (.iconst 0, 1) := by decide +kernel
theorem dX4_least_33 : decode cX4_least 33 = .ok (.ireturn, 1) := by decide +kernel
theorem dX4_isRound_0 : decode cX4_isRound 0 = .ok (.lload_n 0, 1) := by decide +kernel
theorem dX4_isRound_1 : decode cX4_isRound 1 = .ok (.lconst 1, 1) := by decide +kernel
theorem dX4_isRound_2 : decode cX4_isRound 2 = .ok (.lcmp, 1) := by decide +kernel
theorem dX4_isRound_3 : decode cX4_isRound 3 = .ok (.ifCond .lt 15, 3) := by decide +kernel
theorem dX4_isRound_6 : decode cX4_isRound 6 = .ok (.lload_n 0, 1) := by decide +kernel
theorem dX4_isRound_7 : decode cX4_isRound 7 = .ok (.ldc2_w 147, 3) := by decide +kernel
theorem dX4_isRound_10 : decode cX4_isRound 10 = .ok (.lcmp, 1) := by decide +kernel
theorem dX4_isRound_11 : decode cX4_isRound 11 = .ok (.ifCond .gt 7, 3) := by decide +kernel
theorem dX4_isRound_14 : decode cX4_isRound 14 = .ok (.iconst 1, 1) := by decide +kernel
theorem dX4_isRound_15 : decode cX4_isRound 15 = .ok (.goto 4, 3) := by decide +kernel
theorem dX4_isRound_18 : decode cX4_isRound 18 = .ok (.iconst 0, 1) := by decide +kernel
theorem dX4_isRound_19 : decode cX4_isRound 19 = .ok (.ireturn, 1) := by decide +kernel
set_option maxRecDepth 20000 in
theorem ggX4_isUnknownPoint_X2_isLaid : GoodIn wsX4_isUnknownPoint wsX2_isLaid := goodIn_r _ [6, 7, 17, 18, 19, 20, 21] (by decide +kernel) (by decide +kernel)
set_option maxRecDepth 20000 in
theorem gX4_isUnknownPoint_X2_isLaid : GoodIn wsX4_isUnknownPoint (wsV RX4 78 RX2 yX2_isLaid wsX2_isLaid) := goodIn_app (goodIn_of _ (by decide +kernel)) ggX4_isUnknownPoint_X2_isLaid
set_option maxRecDepth 20000 in
theorem ggX4_isUnknownPoint_X2_hasPoint : GoodIn wsX4_isUnknownPoint wsX2_hasPoint := goodIn_r _ [11, 7, 17, 18, 19, 20, 21] (by decide +kernel) (by decide +kernel)
set_option maxRecDepth 20000 in
theorem gX4_isUnknownPoint_X2_hasPoint : GoodIn wsX4_isUnknownPoint (wsV RX4 149 RX2 yX2_hasPoint wsX2_hasPoint) := goodIn_app (goodIn_of _ (by decide +kernel)) ggX4_isUnknownPoint_X2_hasPoint
theorem dX4_isUnknownPoint_0 : decode cX4_isUnknownPoint 0 = .ok (.lload_n 1, 1) := by decide +kernel
theorem dX4_isUnknownPoint_1 : decode cX4_isUnknownPoint 1 = .ok (.lconst 0, 1) := by decide +kernel
theorem dX4_isUnknownPoint_2 : decode cX4_isUnknownPoint 2 = .ok (.lcmp, 1) := by decide +kernel
theorem dX4_isUnknownPoint_3 : decode cX4_isUnknownPoint 3 = .ok (.ifCond .lt 24, 3) := by decide +kernel
theorem dX4_isUnknownPoint_6 : decode cX4_isUnknownPoint 6 = .ok (.aload_n 0, 1) := by decide +kernel
theorem dX4_isUnknownPoint_7 : decode cX4_isUnknownPoint 7 = .ok (.getfield 28, 3) := by decide +kernel
theorem dX4_isUnknownPoint_10 : decode cX4_isUnknownPoint 10 = .ok (.invokevirtual 78, 3) := by decide +kernel
theorem dX4_isUnknownPoint_13 : decode cX4_isUnknownPoint 13 = .ok (.ifCond .eq 18, 3) := by decide +kernel
theorem dX4_isUnknownPoint_16 : decode cX4_isUnknownPoint 16 = .ok (.aload_n 0, 1) := by decide +kernel
theorem dX4_isUnknownPoint_17 : decode cX4_isUnknownPoint 17 = .ok (.getfield 28, 3) := by decide +kernel
theorem dX4_isUnknownPoint_20 : decode cX4_isUnknownPoint 20 = .ok (.lload_n 1, 1) := by decide +kernel
theorem dX4_isUnknownPoint_21 : decode cX4_isUnknownPoint 21 = .ok (.invokevirtual 149, 3) := by decide +kernel
theorem dX4_isUnknownPoint_24 : decode cX4_isUnknownPoint 24 = .ok (.ifCond .ne 7, 3) := by decide +kernel
theorem dX4_isUnknownPoint_27 : decode cX4_isUnknownPoint 27 = .ok (.iconst 1, 1) := by decide +kernel
theorem dX4_isUnknownPoint_28 : decode cX4_isUnknownPoint 28 = .ok (.goto 4, 3) := by decide +kernel
theorem dX4_isUnknownPoint_31 : decode cX4_isUnknownPoint 31 = .ok (.iconst 0, 1) := by decide +kernel
theorem dX4_isUnknownPoint_32 : decode cX4_isUnknownPoint 32 = .ok (.ireturn, 1) := by decide +kernel
set_option maxRecDepth 20000 in
theorem ggX4_isUnknownPass_X2_isLaid : GoodIn wsX4_isUnknownPass wsX2_isLaid := goodIn_r _ [6, 7, 18, 19, 20, 21, 22] (by decide +kernel) (by decide +kernel)
set_option maxRecDepth 20000 in
theorem gX4_isUnknownPass_X2_isLaid : GoodIn wsX4_isUnknownPass (wsV RX4 78 RX2 yX2_isLaid wsX2_isLaid) := goodIn_app (goodIn_of _ (by decide +kernel)) ggX4_isUnknownPass_X2_isLaid
set_option maxRecDepth 20000 in
theorem ggX4_isUnknownPass_X2_hasPass : GoodIn wsX4_isUnknownPass wsX2_hasPass := goodIn_r _ [11, 12, 18, 19, 20, 21, 22] (by decide +kernel) (by decide +kernel)
set_option maxRecDepth 20000 in
theorem gX4_isUnknownPass_X2_hasPass : GoodIn wsX4_isUnknownPass (wsV RX4 132 RX2 yX2_hasPass wsX2_hasPass) := goodIn_app (goodIn_of _ (by decide +kernel)) ggX4_isUnknownPass_X2_hasPass
theorem dX4_isUnknownPass_0 : decode cX4_isUnknownPass 0 = .ok (.iload_n 1, 1) := by decide +kernel
theorem dX4_isUnknownPass_1 : decode cX4_isUnknownPass 1 = .ok (.ifCond .lt 24, 3) := by decide +kernel
theorem dX4_isUnknownPass_4 : decode cX4_isUnknownPass 4 = .ok (.aload_n 0, 1) := by decide +kernel
theorem dX4_isUnknownPass_5 : decode cX4_isUnknownPass 5 = .ok (.getfield 28, 3) := by decide +kernel
theorem dX4_isUnknownPass_8 : decode cX4_isUnknownPass 8 = .ok (.invokevirtual 78, 3) := by decide +kernel
theorem dX4_isUnknownPass_11 : decode cX4_isUnknownPass 11 = .ok (.ifCond .eq 18, 3) := by decide +kernel
theorem dX4_isUnknownPass_14 : decode cX4_isUnknownPass 14 = .ok (.aload_n 0, 1) := by decide +kernel
theorem dX4_isUnknownPass_15 : decode cX4_isUnknownPass 15 = .ok (.getfield 28, 3) := by decide +kernel
theorem dX4_isUnknownPass_18 : decode cX4_isUnknownPass 18 = .ok (.iload_n 1, 1) := by decide +kernel
theorem dX4_isUnknownPass_19 : decode cX4_isUnknownPass 19 = .ok (.invokevirtual 132, 3) := by decide +kernel
theorem dX4_isUnknownPass_22 : decode cX4_isUnknownPass 22 = .ok (.ifCond .ne 7, 3) := by decide +kernel
theorem dX4_isUnknownPass_25 : decode cX4_isUnknownPass 25 = .ok (.iconst 1, 1) := by decide +kernel
theorem dX4_isUnknownPass_26 : decode cX4_isUnknownPass 26 = .ok (.goto 4, 3) := by decide +kernel
theorem dX4_isUnknownPass_29 : decode cX4_isUnknownPass 29 = .ok (.iconst 0, 1) := by decide +kernel
theorem dX4_isUnknownPass_30 : decode cX4_isUnknownPass 30 = .ok (.ireturn, 1) := by decide +kernel
set_option maxRecDepth 20000 in
theorem ggX4_isUnknownItem_X2_isLaid : GoodIn wsX4_isUnknownItem wsX2_isLaid := goodIn_r _ [7, 8, 20, 21, 22, 23, 24] (by decide +kernel) (by decide +kernel)
set_option maxRecDepth 20000 in
theorem gX4_isUnknownItem_X2_isLaid : GoodIn wsX4_isUnknownItem (wsV RX4 78 RX2 yX2_isLaid wsX2_isLaid) := goodIn_app (goodIn_of _ (by decide +kernel)) ggX4_isUnknownItem_X2_isLaid
set_option maxRecDepth 20000 in
theorem ggX4_isUnknownItem_X1_total : GoodIn wsX4_isUnknownItem wsX1_total := goodIn_r _ [13, 14, 25, 26, 27, 28, 29, 30] (by decide +kernel) (by decide +kernel)
set_option maxRecDepth 20000 in
theorem gX4_isUnknownItem_X1_total : GoodIn wsX4_isUnknownItem (wsV RX4 103 RX1 yX1_total wsX1_total) := goodIn_app (goodIn_of _ (by decide +kernel)) ggX4_isUnknownItem_X1_total
theorem dX4_isUnknownItem_0 : decode cX4_isUnknownItem 0 = .ok (.iload_n 1, 1) := by decide +kernel
theorem dX4_isUnknownItem_1 : decode cX4_isUnknownItem 1 = .ok (.ifCond .lt 24, 3) := by decide +kernel
theorem dX4_isUnknownItem_4 : decode cX4_isUnknownItem 4 = .ok (.aload_n 0, 1) := by decide +kernel
theorem dX4_isUnknownItem_5 : decode cX4_isUnknownItem 5 = .ok (.getfield 28, 3) := by decide +kernel
theorem dX4_isUnknownItem_8 : decode cX4_isUnknownItem 8 = .ok (.invokevirtual 78, 3) := by decide +kernel
theorem dX4_isUnknownItem_11 : decode cX4_isUnknownItem 11 = .ok (.ifCond .eq 18, 3) := by decide +kernel
theorem dX4_isUnknownItem_14 : decode cX4_isUnknownItem 14 = .ok (.iload_n 1, 1) := by decide +kernel
theorem dX4_isUnknownItem_15 : decode cX4_isUnknownItem 15 = .ok (.aload_n 0, 1) := by decide +kernel
theorem dX4_isUnknownItem_16 : decode cX4_isUnknownItem 16 = .ok (.getfield 35, 3) := by decide +kernel
theorem dX4_isUnknownItem_19 : decode cX4_isUnknownItem 19 = .ok (.invokevirtual 103, 3) := by decide +kernel
theorem dX4_isUnknownItem_22 : decode cX4_isUnknownItem 22 = .ok (.if_icmp .lt 7, 3) := by decide +kernel
theorem dX4_isUnknownItem_25 : decode cX4_isUnknownItem 25 = .ok (.iconst 1, 1) := by decide +kernel
theorem dX4_isUnknownItem_26 : decode cX4_isUnknownItem 26 = .ok (.goto 4, 3) := by decide +kernel
theorem dX4_isUnknownItem_29 : decode cX4_isUnknownItem 29 = .ok (.iconst 0, 1) := by decide +kernel
theorem dX4_isUnknownItem_30 : decode cX4_isUnknownItem 30 = .ok (.ireturn, 1) := by decide +kernel
set_option maxRecDepth 20000 in
theorem ggX4_heightOf_X0_valueOf : GoodIn wsX4_heightOf wsX0_valueOf := goodIn_r _ [6, 7, 8, 9, 10, 11, 5, 12, 13, 19, 20, 21, 22] (by decide +kernel) (by decide +kernel)
set_option maxRecDepth 20000 in
theorem gX4_heightOf_X0_valueOf : GoodIn wsX4_heightOf (wsV RX4 152 RX0 yX0_valueOf wsX0_valueOf) := goodIn_app (goodIn_of _ (by decide +kernel)) ggX4_heightOf_X0_valueOf
theorem dX4_heightOf_0 : decode cX4_heightOf 0 = .ok (.aload_n 0, 1) := by decide +kernel
theorem dX4_heightOf_1 : decode cX4_heightOf 1 = .ok (.getfield 42, 3) := by decide +kernel
theorem dX4_heightOf_4 : decode cX4_heightOf 4 = .ok (.iload_n 1, 1) := by decide +kernel
theorem dX4_heightOf_5 : decode cX4_heightOf 5 = .ok (.invokevirtual 152, 3) := by decide +kernel
theorem dX4_heightOf_8 : decode cX4_heightOf 8 = .ok (.istore_n 2, 1) := by decide +kernel
theorem dX4_heightOf_9 : decode cX4_heightOf 9 = .ok (.iload_n 2, 1) := by decide +kernel
theorem dX4_heightOf_10 : decode cX4_heightOf 10 = .ok (.ifCond .ne 9, 3) := by decide +kernel
theorem dX4_heightOf_13 : decode cX4_heightOf 13 = .ok (.sipush 1000, 3) := by decide +kernel
theorem dX4_heightOf_16 : decode cX4_heightOf 16 = .ok (.goto 4, 3) := by decide +kernel
theorem dX4_heightOf_19 : decode cX4_heightOf 19 = .ok (.iload_n 2, 1) := by decide +kernel
theorem dX4_heightOf_20 : decode cX4_heightOf 20 = .ok (.ireturn, 1) := by decide +kernel
set_option maxRecDepth 20000 in
theorem ggX4_traysOfPass_X0_clear : GoodIn wsX4_traysOfPass wsX0_clear := goodIn_r _ [8, 9, 10, 11, 91, 92, 93, 94] (by decide +kernel) (by decide +kernel)
set_option maxRecDepth 20000 in
theorem gX4_traysOfPass_X0_clear : GoodIn wsX4_traysOfPass (wsV RX4 155 RX0 yX0_clear wsX0_clear) := goodIn_app (goodIn_of _ (by decide +kernel)) ggX4_traysOfPass_X0_clear
set_option maxRecDepth 20000 in
theorem ggX4_traysOfPass_X1_groupCount : GoodIn wsX4_traysOfPass wsX1_groupCount := goodIn_r _ [16, 17, 95, 96, 97, 98, 99, 100] (by decide +kernel) (by decide +kernel)
set_option maxRecDepth 20000 in
theorem gX4_traysOfPass_X1_groupCount : GoodIn wsX4_traysOfPass (wsV RX4 156 RX1 yX1_groupCount wsX1_groupCount) := goodIn_app (goodIn_of _ (by decide +kernel)) ggX4_traysOfPass_X1_groupCount
set_option maxRecDepth 20000 in
theorem ggX4_traysOfPass_X1_pointOf : GoodIn wsX4_traysOfPass wsX1_pointOf := goodIn_r _ [21, 22, 23, 24, 25, 15, 26, 17, 95, 96, 97, 98, 99, 100] (by decide +kernel) (by decide +kernel)
set_option maxRecDepth 20000 in
theorem gX4_traysOfPass_X1_pointOf : GoodIn wsX4_traysOfPass (wsV RX4 159 RX1 yX1_pointOf wsX1_pointOf) := goodIn_app (goodIn_of _ (by decide +kernel)) ggX4_traysOfPass_X1_pointOf
set_option maxRecDepth 20000 in
theorem ggX4_traysOfPass_X2_binOf : GoodIn wsX4_traysOfPass wsX2_binOf := goodIn_r _ [31, 32, 33, 34, 35, 36, 30, 37, 38, 39, 40, 41, 42, 43, 44, 45, 101, 102, 103, 104, 105] (by decide +kernel) (by decide +kernel)
set_option maxRecDepth 20000 in
theorem gX4_traysOfPass_X2_binOf : GoodIn wsX4_traysOfPass (wsV RX4 82 RX2 yX2_binOf wsX2_binOf) := goodIn_app (goodIn_of _ (by decide +kernel)) ggX4_traysOfPass_X2_binOf
set_option maxRecDepth 20000 in
theorem ggX4_traysOfPass_X0_valueOf : GoodIn wsX4_traysOfPass wsX0_valueOf := goodIn_r _ [49, 10, 50, 51, 52, 53, 7, 54, 55, 91, 92, 93, 94] (by decide +kernel) (by decide +kernel)
set_option maxRecDepth 20000 in
theorem gX4_traysOfPass_X0_valueOf : GoodIn wsX4_traysOfPass (wsV RX4 152 RX0 yX0_valueOf wsX0_valueOf) := goodIn_app (goodIn_of _ (by decide +kernel)) ggX4_traysOfPass_X0_valueOf
set_option maxRecDepth 20000 in
theorem ggX4_traysOfPass_X1_countOf : GoodIn wsX4_traysOfPass wsX1_countOf := goodIn_r _ [59, 60, 23, 24, 25, 15, 26, 17, 95, 96, 97, 98, 99, 100] (by decide +kernel) (by decide +kernel)
set_option maxRecDepth 20000 in
theorem gX4_traysOfPass_X1_countOf : GoodIn wsX4_traysOfPass (wsV RX4 162 RX1 yX1_countOf wsX1_countOf) := goodIn_app (goodIn_of _ (by decide +kernel)) ggX4_traysOfPass_X1_countOf
set_option maxRecDepth 20000 in
theorem ggX4_traysOfPass_X0_put : GoodIn wsX4_traysOfPass wsX0_put := goodIn_r _ [64, 10, 9, 11, 50, 51, 52, 53, 7, 54, 55, 91, 92, 93, 94] (by decide +kernel) (by decide +kernel)
set_option maxRecDepth 20000 in
theorem gX4_traysOfPass_X0_put : GoodIn wsX4_traysOfPass (wsV RX4 111 RX0 yX0_put wsX0_put) := goodIn_app (goodIn_of _ (by decide +kernel)) ggX4_traysOfPass_X0_put
set_option maxRecDepth 20000 in
theorem ggX4_traysOfPass_X0_size : GoodIn wsX4_traysOfPass wsX0_size := goodIn_r _ [68, 9, 91, 92, 93, 94] (by decide +kernel) (by decide +kernel)
set_option maxRecDepth 20000 in
theorem gX4_traysOfPass_X0_size : GoodIn wsX4_traysOfPass (wsV RX4 165 RX0 yX0_size wsX0_size) := goodIn_app (goodIn_of _ (by decide +kernel)) ggX4_traysOfPass_X0_size
set_option maxRecDepth 20000 in
theorem ggX4_traysOfPass_X0_valueAt : GoodIn wsX4_traysOfPass wsX0_valueAt := goodIn_r _ [72, 9, 50, 11, 91, 92, 93, 94] (by decide +kernel) (by decide +kernel)
set_option maxRecDepth 20000 in
theorem gX4_traysOfPass_X0_valueAt : GoodIn wsX4_traysOfPass (wsV RX4 168 RX0 yX0_valueAt wsX0_valueAt) := goodIn_app (goodIn_of _ (by decide +kernel)) ggX4_traysOfPass_X0_valueAt
set_option maxRecDepth 20000 in
theorem ggX4_traysOfPass_X0_binAt : GoodIn wsX4_traysOfPass wsX0_binAt := goodIn_r _ [76, 9, 10, 11, 91, 92, 93, 94] (by decide +kernel) (by decide +kernel)
set_option maxRecDepth 20000 in
theorem gX4_traysOfPass_X0_binAt : GoodIn wsX4_traysOfPass (wsV RX4 171 RX0 yX0_binAt wsX0_binAt) := goodIn_app (goodIn_of _ (by decide +kernel)) ggX4_traysOfPass_X0_binAt
set_option maxRecDepth 20000 in
theorem ggX4_traysOfPass_X4_heightOf : GoodIn wsX4_traysOfPass wsX4_heightOf := goodIn_r _ [81, 82, 46, 47, 48, 7, 49, 10, 50, 51, 52, 53, 54, 55, 86, 87, 88, 89, 90, 91, 92, 93, 94] (by decide +kernel) (by decide +kernel)
set_option maxRecDepth 20000 in
theorem gX4_traysOfPass_X4_heightOf : GoodIn wsX4_traysOfPass (wsV RX4 107 RX4 yX4_heightOf wsX4_heightOf) := goodIn_app (goodIn_of _ (by decide +kernel)) ggX4_traysOfPass_X4_heightOf
set_option maxRecDepth 20000 in
theorem ggX4_traysOfPass_X3_quotientUp : GoodIn wsX4_traysOfPass wsX3_quotientUp := goodIn_r _ [85] (by decide +kernel) (by decide +kernel)
set_option maxRecDepth 20000 in
theorem gX4_traysOfPass_X3_quotientUp : GoodIn wsX4_traysOfPass (va_wsS RX4 174 yX3_quotientUp wsX3_quotientUp) := goodIn_app (goodIn_of _ (by decide +kernel)) ggX4_traysOfPass_X3_quotientUp
theorem dX4_traysOfPass_0 : decode cX4_traysOfPass 0 = .ok (.aload_n 0, 1) := by decide +kernel
theorem dX4_traysOfPass_1 : decode cX4_traysOfPass 1 = .ok (.getfield 46, 3) := by decide +kernel
theorem dX4_traysOfPass_4 : decode cX4_traysOfPass 4 = .ok (.invokevirtual 155, 3) := by decide +kernel
theorem dX4_traysOfPass_7 : decode cX4_traysOfPass 7 = .ok (.iconst 0, 1) := by decide +kernel
theorem dX4_traysOfPass_8 : decode cX4_traysOfPass 8 = .ok (.istore_n 2, 1) := by decide +kernel
theorem dX4_traysOfPass_9 : decode cX4_traysOfPass 9 = .ok (.iload_n 2, 1) := by decide +kernel
theorem dX4_traysOfPass_10 : decode cX4_traysOfPass 10 = .ok (.aload_n 0, 1) := by decide +kernel
theorem dX4_traysOfPass_11 : decode cX4_traysOfPass 11 = .ok (.getfield 35, 3) := by decide +kernel
theorem dX4_traysOfPass_14 : decode cX4_traysOfPass 14 = .ok (.invokevirtual 156, 3) := by decide +kernel
theorem dX4_traysOfPass_17 : decode cX4_traysOfPass 17 = .ok (.if_icmp .ge 52, 3) := by decide +kernel
theorem dX4_traysOfPass_20 : decode cX4_traysOfPass 20 = .ok (.aload_n 0, 1) := by decide +kernel
theorem dX4_traysOfPass_21 : decode cX4_traysOfPass 21 = .ok (.getfield 28, 3) := by decide +kernel
theorem dX4_traysOfPass_24 : decode cX4_traysOfPass 24 = .ok (.aload_n 0, 1) := by decide +kernel
theorem dX4_traysOfPass_25 : decode cX4_traysOfPass 25 = .ok (.getfield 35, 3) := by decide +kernel
theorem dX4_traysOfPass_28 : decode cX4_traysOfPass 28 = .ok (.iload_n 2, 1) := by decide +kernel
theorem dX4_traysOfPass_29 : decode cX4_traysOfPass 29 = .ok (.invokevirtual 159, 3) := by decide +kernel
theorem dX4_traysOfPass_32 : decode cX4_traysOfPass 32 = .ok (.iload_n 1, 1) := by decide +kernel
theorem dX4_traysOfPass_33 : decode cX4_traysOfPass 33 = .ok (.invokevirtual 82, 3) := by decide +kernel
theorem dX4_traysOfPass_36 : decode cX4_traysOfPass 36 = .ok (.istore_n 3, 1) := by decide +kernel
theorem dX4_traysOfPass_37 : decode cX4_traysOfPass 37 = .ok (.aload_n 0, 1) := by decide +kernel
theorem dX4_traysOfPass_38 : decode cX4_traysOfPass 38 = .ok (.getfield 46, 3) := by decide +kernel
theorem dX4_traysOfPass_41 : decode cX4_traysOfPass 41 = .ok (.iload_n 3, 1) := by decide +kernel
theorem dX4_traysOfPass_42 : decode cX4_traysOfPass 42 = .ok (.aload_n 0, 1) := by decide +kernel
theorem dX4_traysOfPass_43 : decode cX4_traysOfPass 43 = .ok (.getfield 46, 3) := by decide +kernel
theorem dX4_traysOfPass_46 : decode cX4_traysOfPass 46 = .ok (.iload_n 3, 1) := by decide +kernel
theorem dX4_traysOfPass_47 : decode cX4_traysOfPass 47 = .ok (.invokevirtual 152, 3) := by decide +kernel
theorem dX4_traysOfPass_50 : decode cX4_traysOfPass 50 = .ok (.aload_n 0, 1) := by decide +kernel
theorem dX4_traysOfPass_51 : decode cX4_traysOfPass 51 = .ok (.getfield 35, 3) := by decide +kernel
theorem dX4_traysOfPass_54 : decode cX4_traysOfPass 54 = .ok (.iload_n 2, 1) := by decide +kernel
theorem dX4_traysOfPass_55 : decode cX4_traysOfPass 55 = .ok (.invokevirtual 162, 3) := by decide +kernel
theorem dX4_traysOfPass_58 : decode cX4_traysOfPass 58 = .ok (.iadd, 1) := by decide +kernel
theorem dX4_traysOfPass_59 : decode cX4_traysOfPass 59 = .ok (.invokevirtual 111, 3) := by decide +kernel
theorem dX4_traysOfPass_62 : decode cX4_traysOfPass 62 = .ok (.pop, 1) := by decide +kernel
theorem dX4_traysOfPass_63 : decode cX4_traysOfPass 63 = .ok (.iinc 2 1, 3) := by decide +kernel
theorem dX4_traysOfPass_66 : decode cX4_traysOfPass 66 = .ok (.goto (-57), 3) := by decide +kernel
theorem dX4_traysOfPass_69 : decode cX4_traysOfPass 69 = .ok (.iconst 0, 1) := by decide +kernel
theorem dX4_traysOfPass_70 : decode cX4_traysOfPass 70 = .ok (.istore_n 2, 1) := by decide +kernel
theorem dX4_traysOfPass_71 : decode cX4_traysOfPass 71 = .ok (.iconst 0, 1) := by decide +kernel
theorem dX4_traysOfPass_72 : decode cX4_traysOfPass 72 = .ok (.istore_n 3, 1) := by decide +kernel
theorem dX4_traysOfPass_73 : decode cX4_traysOfPass 73 = .ok (.iload_n 3, 1) := by decide +kernel
theorem dX4_traysOfPass_74 : decode cX4_traysOfPass 74 = .ok (.aload_n 0, 1) := by decide +kernel
theorem dX4_traysOfPass_75 : decode cX4_traysOfPass 75 = .ok (.getfield 46, 3) := by decide +kernel
theorem dX4_traysOfPass_78 : decode cX4_traysOfPass 78 = .ok (.invokevirtual 165, 3) := by decide +kernel
theorem dX4_traysOfPass_81 : decode cX4_traysOfPass 81 = .ok (.if_icmp .ge 35, 3) := by decide +kernel
theorem dX4_traysOfPass_84 : decode cX4_traysOfPass 84 = .ok (.iload_n 2, 1) := by decide +kernel
theorem dX4_traysOfPass_85 : decode cX4_traysOfPass 85 = .ok (.aload_n 0, 1) := by decide +kernel
theorem dX4_traysOfPass_86 : decode cX4_traysOfPass 86 = .ok (.getfield 46, 3) := by decide +kernel
theorem dX4_traysOfPass_89 : decode cX4_traysOfPass 89 = .ok (.iload_n 3, 1) := by decide +kernel
theorem dX4_traysOfPass_90 : decode cX4_traysOfPass 90 = .ok (.invokevirtual 168, 3) := by decide +kernel
theorem dX4_traysOfPass_93 : decode cX4_traysOfPass 93 = .ok (.aload_n 0, 1) := by decide +kernel
theorem dX4_traysOfPass_94 : decode cX4_traysOfPass 94 = .ok (.aload_n 0, 1) := by decide +kernel
theorem dX4_traysOfPass_95 : decode cX4_traysOfPass 95 = .ok (.getfield 46, 3) := by decide +kernel
theorem dX4_traysOfPass_98 : decode cX4_traysOfPass 98 = .ok (.iload_n 3, 1) := by decide +kernel
theorem dX4_traysOfPass_99 : decode cX4_traysOfPass 99 = .ok (.invokevirtual 171, 3) := by decide +kernel
theorem dX4_traysOfPass_102 : decode cX4_traysOfPass 102 = .ok (.invokevirtual 107, 3) := by decide +kernel
theorem dX4_traysOfPass_105 : decode cX4_traysOfPass 105 = .ok (.invokestatic 174, 3) := by decide +kernel
theorem dX4_traysOfPass_108 : decode cX4_traysOfPass 108 = .ok (.iadd, 1) := by decide +kernel
theorem dX4_traysOfPass_109 : decode cX4_traysOfPass 109 = .ok (.istore_n 2, 1) := by decide +kernel
theorem dX4_traysOfPass_110 : decode cX4_traysOfPass 110 = .ok (.iinc 3 1, 3) := by decide +kernel
theorem dX4_traysOfPass_113 : decode cX4_traysOfPass 113 = .ok (.goto (-40), 3) := by decide +kernel
theorem dX4_traysOfPass_116 : decode cX4_traysOfPass 116 = .ok (.iload_n 2, 1) := by decide +kernel
theorem dX4_traysOfPass_117 : decode cX4_traysOfPass 117 = .ok (.ireturn, 1) := by decide +kernel
theorem dX5_init_0 : decode cX5_init 0 = .ok (.aload_n 0, 1) := by decide +kernel
theorem dX5_init_1 : decode cX5_init 1 = .ok (.invokespecial 1, 3) := by decide +kernel
theorem dX5_init_4 : decode cX5_init 4 = .ok (.aload_n 0, 1) := by decide +kernel
theorem dX5_init_5 : decode cX5_init 5 = .ok (.ldc 7, 2) := by decide +kernel
theorem dX5_init_7 : decode cX5_init 7 = .ok (.newarray .int, 2) := by decide +kernel
theorem dX5_init_9 : decode cX5_init 9 = .ok (.putfield 8, 3) := by decide +kernel
theorem dX5_init_12 : decode cX5_init 12 = .ok (.aload_n 0, 1) := by decide +kernel
theorem dX5_init_13 : decode cX5_init 13 = .ok (.ldc 7, 2) := by decide +kernel
theorem dX5_init_15 : decode cX5_init 15 = .ok (.newarray .int, 2) := by decide +kernel
theorem dX5_init_17 : decode cX5_init 17 = .ok (.putfield 14, 3) := by decide +kernel
theorem dX5_init_20 : decode cX5_init 20 = .ok (.aload_n 0, 1) := by decide +kernel
theorem dX5_init_21 : decode cX5_init 21 = .ok (.bipush 62, 2) := by decide +kernel
theorem dX5_init_23 : decode cX5_init 23 = .ok (.newarray .int, 2) := by decide +kernel
theorem dX5_init_25 : decode cX5_init 25 = .ok (.putfield 17, 3) := by decide +kernel
theorem dX5_init_28 : decode cX5_init 28 = .ok (.aload_n 0, 1) := by decide +kernel
theorem dX5_init_29 : decode cX5_init 29 = .ok (.sipush 4000, 3) := by decide +kernel
theorem dX5_init_32 : decode cX5_init 32 = .ok (.newarray .long, 2) := by decide +kernel
theorem dX5_init_34 : decode cX5_init 34 = .ok (.putfield 20, 3) := by decide +kernel
theorem dX5_init_37 : decode cX5_init 37 = .ok (.aload_n 0, 1) := by decide +kernel
theorem dX5_init_38 : decode cX5_init 38 = .ok (.sipush 4000, 3) := by decide +kernel
theorem dX5_init_41 : decode cX5_init 41 = .ok (.newarray .int, 2) := by decide +kernel
theorem dX5_init_43 : decode cX5_init 43 = .ok (.putfield 24, 3) := by decide +kernel
theorem dX5_init_46 : decode cX5_init 46 = .ok (.aload_n 0, 1) := by decide +kernel
theorem dX5_init_47 : decode cX5_init 47 = .ok (.iload_n 1, 1) := by decide +kernel
theorem dX5_init_48 : decode cX5_init 48 = .ok (.ifCond .ge 7, 3) := by decide +kernel
theorem dX5_init_51 : decode cX5_init 51 = .ok (.iconst 0, 1) := by decide +kernel
theorem dX5_init_52 : decode cX5_init 52 = .ok (.goto 15, 3) := by decide +kernel
theorem dX5_init_55 : decode cX5_init 55 = .ok (.iload_n 1, 1) := by decide +kernel
theorem dX5_init_56 : decode cX5_init 56 = .ok (.ldc 7, 2) := by decide +kernel
theorem dX5_init_58 : decode cX5_init 58 = .ok (.if_icmp .le 8, 3) := by decide +kernel
theorem dX5_init_61 : decode cX5_init 61 = .ok (.ldc 7, 2) := by decide +kernel
theorem dX5_init_63 : decode cX5_init 63 = .ok (.goto 4, 3) := by decide +kernel
theorem dX5_init_66 : decode cX5_init 66 = .ok (.iload_n 1, 1) := by decide +kernel
theorem dX5_init_67 : decode cX5_init 67 = .ok (.putfield 27, 3) := by decide +kernel
theorem dX5_init_70 : decode cX5_init 70 = .ok (.iconst 0, 1) := by decide +kernel
theorem dX5_init_71 : decode cX5_init 71 = .ok (.istore_n 2, 1) := by decide +kernel
theorem dX5_init_72 : decode cX5_init 72 = .ok (.iload_n 2, 1) := by decide +kernel
theorem dX5_init_73 : decode cX5_init 73 = .ok (.ldc 7, 2) := by decide +kernel
theorem dX5_init_75 : decode cX5_init 75 = .ok (.if_icmp .ge 18, 3) := by decide +kernel
theorem dX5_init_78 : decode cX5_init 78 = .ok (.aload_n 0, 1) := by decide +kernel
theorem dX5_init_79 : decode cX5_init 79 = .ok (.getfield 8, 3) := by decide +kernel
theorem dX5_init_82 : decode cX5_init 82 = .ok (.iload_n 2, 1) := by decide +kernel
theorem dX5_init_83 : decode cX5_init 83 = .ok (.sipush 1000, 3) := by decide +kernel
theorem dX5_init_86 : decode cX5_init 86 = .ok (.iastore, 1) := by decide +kernel
theorem dX5_init_87 : decode cX5_init 87 = .ok (.iinc 2 1, 3) := by decide +kernel
theorem dX5_init_90 : decode cX5_init 90 = .ok (.goto (-18), 3) := by decide +kernel
theorem dX5_init_93 : decode cX5_init 93 = .ok (.return_, 1) := by decide +kernel
theorem dX5_thrown_0 : decode cX5_thrown 0 = .ok (.aload_n 0, 1) := by decide +kernel
theorem dX5_thrown_1 : decode cX5_thrown 1 = .ok (.getfield 31, 3) := by decide +kernel
theorem dX5_thrown_4 : decode cX5_thrown 4 = .ok (.ireturn, 1) := by decide +kernel
theorem dX5_isCount_0 : decode cX5_isCount 0 = .ok (.lload_n 0, 1) := by decide +kernel
theorem dX5_isCount_1 : decode cX5_isCount 1 = .ok (.lconst 1, 1) := by decide +kernel
theorem dX5_isCount_2 : decode cX5_isCount 2 = .ok (.lcmp, 1) := by decide +kernel
theorem dX5_isCount_3 : decode cX5_isCount 3 = .ok (.ifCond .lt 15, 3) := by decide +kernel
theorem dX5_isCount_6 : decode cX5_isCount 6 = .ok (.lload_n 0, 1) := by decide +kernel
theorem dX5_isCount_7 : decode cX5_isCount 7 = .ok (.ldc2_w 34, 3) := by decide +kernel
theorem dX5_isCount_10 : decode cX5_isCount 10 = .ok (.lcmp, 1) := by decide +kernel
theorem dX5_isCount_11 : decode cX5_isCount 11 = .ok (.ifCond .gt 7, 3) := by decide +kernel
theorem dX5_isCount_14 : decode cX5_isCount 14 = .ok (.iconst 1, 1) := by decide +kernel
theorem dX5_isCount_15 : decode cX5_isCount 15 = .ok (.goto 4, 3) := by decide +kernel
theorem dX5_isCount_18 : decode cX5_isCount 18 = .ok (.iconst 0, 1) := by decide +kernel
theorem dX5_isCount_19 : decode cX5_isCount 19 = .ok (.ireturn, 1) := by decide +kernel
theorem dX5_product_0 : decode cX5_product 0 = .ok (.lload_n 0, 1) := by decide +kernel
theorem dX5_product_1 : decode cX5_product 1 = .ok (.lconst 0, 1) := by decide +kernel
theorem dX5_product_2 : decode cX5_product 2 = .ok (.lcmp, 1) := by decide +kernel
theorem dX5_product_3 : decode cX5_product 3 = .ok (.ifCond .eq 9, 3) := by decide +kernel
theorem dX5_product_6 : decode cX5_product 6 = .ok (.lload_n 2, 1) := by decide +kernel
theorem dX5_product_7 : decode cX5_product 7 = .ok (.lconst 0, 1) := by decide +kernel
theorem dX5_product_8 : decode cX5_product 8 = .ok (.lcmp, 1) := by decide +kernel
theorem dX5_product_9 : decode cX5_product 9 = .ok (.ifCond .ne 7, 3) := by decide +kernel
theorem dX5_product_12 : decode cX5_product 12 = .ok (.lconst 0, 1) := by decide +kernel
theorem dX5_product_13 : decode cX5_product 13 = .ok (.goto 26, 3) := by decide +kernel
theorem dX5_product_16 : decode cX5_product 16 = .ok (.lload_n 0, 1) := by decide +kernel
theorem dX5_product_17 : decode cX5_product 17 = .ok (.ldc2_w 34, 3) := by decide +kernel
theorem dX5_product_20 : decode cX5_product 20 = .ok (.lload_n 2, 1) := by decide +kernel
theorem dX5_product_21 : decode cX5_product 21 = .ok (.ladd, 1) := by decide +kernel
theorem dX5_product_22 : decode cX5_product 22 = .ok (.lconst 1, 1) := by decide +kernel
theorem dX5_product_23 : decode cX5_product 23 = .ok (.lsub, 1) := by decide +kernel
theorem dX5_product_24 : decode cX5_product 24 = .ok (.lload_n 2, 1) := by decide +kernel
theorem dX5_product_25 : decode cX5_product 25 = .ok (.ldiv, 1) := by decide +kernel
theorem dX5_product_26 : decode cX5_product 26 = .ok (.lcmp, 1) := by decide +kernel
theorem dX5_product_27 : decode cX5_product 27 = .ok (.ifCond .lt 9, 3) := by decide +kernel
theorem dX5_product_30 : decode cX5_product 30 = .ok (.ldc2_w 34, 3) := by decide +kernel
theorem dX5_product_33 : decode cX5_product 33 = .ok (.goto 6, 3) := by decide +kernel
theorem dX5_product_36 : decode cX5_product 36 = .ok (.lload_n 0, 1) := by decide +kernel
theorem dX5_product_37 : decode cX5_product 37 = .ok (.lload_n 2, 1) := by decide +kernel
theorem dX5_product_38 : decode cX5_product 38 = .ok (.lmul, 1) := by decide +kernel
theorem dX5_product_39 : decode cX5_product 39 = .ok (.lreturn, 1) := by decide +kernel
set_option maxRecDepth 20000 in
theorem ggX5_fewest_X5_product : GoodIn wsX5_fewest wsX5_product := goodIn_r _ [4, 5] (by decide +kernel) (by decide +kernel)
set_option maxRecDepth 20000 in
theorem gX5_fewest_X5_product : GoodIn wsX5_fewest (va_wsS RX5 36 yX5_product wsX5_product) := goodIn_app (goodIn_of _ (by decide +kernel)) ggX5_fewest_X5_product
theorem dX5_fewest_0 : decode cX5_fewest 0 = .ok (.iconst 0, 1) := by decide +kernel
theorem dX5_fewest_1 : decode cX5_fewest 1 = .ok (.istore_n 3, 1) := by decide +kernel
theorem dX5_fewest_2 : decode cX5_fewest 2 = .ok (.lconst 1, 1) := by decide +kernel
theorem dX5_fewest_3 : decode cX5_fewest 3 = .ok (.lstore 4, 2) := by decide +kernel
theorem dX5_fewest_5 : decode cX5_fewest 5 = .ok (.lload 4, 2) := by decide +kernel
theorem dX5_fewest_7 : decode cX5_fewest 7 = .ok (.lload_n 0, 1) := by decide +kernel
theorem dX5_fewest_8 : decode cX5_fewest 8 = .ok (.lcmp, 1) := by decide +kernel
theorem dX5_fewest_9 : decode cX5_fewest 9 = .ok (.ifCond .ge 18, 3) := by decide +kernel
theorem dX5_fewest_12 : decode cX5_fewest 12 = .ok (.lload 4, 2) := by decide +kernel
theorem dX5_fewest_14 : decode cX5_fewest 14 = .ok (.iload_n 2, 1) := by decide +kernel
theorem dX5_fewest_15 : decode cX5_fewest 15 = .ok (.i2l, 1) := by decide +kernel
theorem dX5_fewest_16 : decode cX5_fewest 16 = .ok (.invokestatic 36, 3) := by decide +kernel
theorem dX5_fewest_19 : decode cX5_fewest 19 = .ok (.lstore 4, 2) := by decide +kernel
theorem dX5_fewest_21 : decode cX5_fewest 21 = .ok (.iinc 3 1, 3) := by decide +kernel
theorem dX5_fewest_24 : decode cX5_fewest 24 = .ok (.goto (-19), 3) := by decide +kernel
theorem dX5_fewest_27 : decode cX5_fewest 27 = .ok (.iload_n 3, 1) := by decide +kernel
theorem dX5_fewest_28 : decode cX5_fewest 28 = .ok (.ireturn, 1) := by decide +kernel
set_option maxRecDepth 20000 in
theorem ggX5_greatest_X5_product : GoodIn wsX5_greatest wsX5_product := goodIn_r _ [5, 6] (by decide +kernel) (by decide +kernel)
set_option maxRecDepth 20000 in
theorem gX5_greatest_X5_product : GoodIn wsX5_greatest (va_wsS RX5 36 yX5_product wsX5_product) := goodIn_app (goodIn_of _ (by decide +kernel)) ggX5_greatest_X5_product
end
section
theorem dX5_greatest_0 : decode cX5_greatest 0 = .ok (.lload_n 0, 1) := by decide +kernel
theorem dX5_greatest_1 : decode cX5_greatest 1 = .ok (.ldc2_w 40, 3) := by decide +kernel
theorem dX5_greatest_4 : decode cX5_greatest 4 = .ok (.iload_n 2, 1) := by decide +kernel
theorem dX5_greatest_5 : decode cX5_greatest 5 = .ok (.i2l, 1) := by decide +kernel
theorem dX5_greatest_6 : decode cX5_greatest 6 = .ok (.lmul, 1) := by decide +kernel
theorem dX5_greatest_7 : decode cX5_greatest 7 = .ok (.lcmp, 1) := by decide +kernel
theorem dX5_greatest_8 : decode cX5_greatest 8 = .ok (.ifCond .lt 13, 3) := by decide +kernel
theorem dX5_greatest_11 : decode cX5_greatest 11 = .ok (.lload_n 0, 1) := by decide +kernel
theorem dX5_greatest_12 : decode cX5_greatest 12 = .ok (.iload_n 2, 1) := by decide +kernel
theorem dX5_greatest_13 : decode cX5_greatest 13 = .ok (.i2l, 1) := by decide +kernel
theorem dX5_greatest_14 : decode cX5_greatest 14 = .ok (.iload_n 3, 1) := by decide +kernel
theorem dX5_greatest_15 : decode cX5_greatest 15 = .ok (.i2l, 1) := by decide +kernel
theorem dX5_greatest_16 : decode cX5_greatest 16 = .ok (.lmul, 1) := by decide +kernel
theorem dX5_greatest_17 : decode cX5_greatest 17 = .ok (.lcmp, 1) := by decide +kernel
theorem dX5_greatest_18 : decode cX5_greatest 18 = .ok (.ifCond .le 5, 3) := by decide +kernel
theorem dX5_greatest_21 : decode cX5_greatest 21 = .ok (.lconst 0, 1) := by decide +kernel
theorem dX5_greatest_22 : decode cX5_greatest 22 = .ok (.lreturn, 1) := by decide +kernel
theorem dX5_greatest_23 : decode cX5_greatest 23 = .ok (.lload_n 0, 1) := by decide +kernel
theorem dX5_greatest_24 : decode cX5_greatest 24 = .ok (.lstore 4, 2) := by decide +kernel
theorem dX5_greatest_26 : decode cX5_greatest 26 = .ok (.lconst 1, 1) := by decide +kernel
theorem dX5_greatest_27 : decode cX5_greatest 27 = .ok (.lstore 6, 2) := by decide +kernel
theorem dX5_greatest_29 : decode cX5_greatest 29 = .ok (.iload_n 2, 1) := by decide +kernel
theorem dX5_greatest_30 : decode cX5_greatest 30 = .ok (.istore 8, 2) := by decide +kernel
theorem dX5_greatest_32 : decode cX5_greatest 32 = .ok (.iload 8, 2) := by decide +kernel
theorem dX5_greatest_34 : decode cX5_greatest 34 = .ok (.ifCond .le 33, 3) := by decide +kernel
theorem dX5_greatest_37 : decode cX5_greatest 37 = .ok (.lload 4, 2) := by decide +kernel
theorem dX5_greatest_39 : decode cX5_greatest 39 = .ok (.iload 8, 2) := by decide +kernel
theorem dX5_greatest_41 : decode cX5_greatest 41 = .ok (.i2l, 1) := by decide +kernel
theorem dX5_greatest_42 : decode cX5_greatest 42 = .ok (.ldiv, 1) := by decide +kernel
theorem dX5_greatest_43 : decode cX5_greatest 43 = .ok (.lstore 9, 2) := by decide +kernel
theorem dX5_greatest_45 : decode cX5_greatest 45 = .ok (.lload 6, 2) := by decide +kernel
theorem dX5_greatest_47 : decode cX5_greatest 47 = .ok (.lload 9, 2) := by decide +kernel
theorem dX5_greatest_49 : decode cX5_greatest 49 = .ok (.invokestatic 36, 3) := by decide +kernel
theorem dX5_greatest_52 : decode cX5_greatest 52 = .ok (.lstore 6, 2) := by decide +kernel
theorem dX5_greatest_54 : decode cX5_greatest 54 = .ok (.lload 4, 2) := by decide +kernel
theorem dX5_greatest_56 : decode cX5_greatest 56 = .ok (.lload 9, 2) := by decide +kernel
theorem dX5_greatest_58 : decode cX5_greatest 58 = .ok (.lsub, 1) := by decide +kernel
theorem dX5_greatest_59 : decode cX5_greatest 59 = .ok (.lstore 4, 2) := by decide +kernel
theorem dX5_greatest_61 : decode cX5_greatest 61 = .ok (.iinc 8 (-1), 3) := by decide +kernel
theorem dX5_greatest_64 : decode cX5_greatest 64 = .ok (.goto (-32), 3) := by decide +kernel
theorem dX5_greatest_67 : decode cX5_greatest 67 = .ok (.lload 6, 2) := by decide +kernel
theorem dX5_greatest_69 : decode cX5_greatest 69 = .ok (.lreturn, 1) := by decide +kernel
set_option maxRecDepth 20000 in
theorem ggX5_choose_X5_greatest : GoodIn wsX5_choose wsX5_greatest := goodIn_r _ [10, 1, 11, 12, 9, 13, 14] (by decide +kernel) (by decide +kernel)
set_option maxRecDepth 20000 in
theorem gX5_choose_X5_greatest : GoodIn wsX5_choose (va_wsS RX5 47 yX5_greatest wsX5_greatest) := goodIn_app (goodIn_of _ (by decide +kernel)) ggX5_choose_X5_greatest
set_option maxRecDepth 20000 in
theorem ggX5_choose_X5_product : GoodIn wsX5_choose wsX5_product := goodIn_r _ [13, 14] (by decide +kernel) (by decide +kernel)
set_option maxRecDepth 20000 in
theorem gX5_choose_X5_product : GoodIn wsX5_choose (va_wsS RX5 36 yX5_product wsX5_product) := goodIn_app (goodIn_of _ (by decide +kernel)) ggX5_choose_X5_product
theorem dX5_choose_0 : decode cX5_choose 0 = .ok (.ldc2_w 40, 3) := by decide +kernel
theorem dX5_choose_3 : decode cX5_choose 3 = .ok (.aload_n 0, 1) := by decide +kernel
theorem dX5_choose_4 : decode cX5_choose 4 = .ok (.getfield 42, 3) := by decide +kernel
theorem dX5_choose_7 : decode cX5_choose 7 = .ok (.i2l, 1) := by decide +kernel
theorem dX5_choose_8 : decode cX5_choose 8 = .ok (.lmul, 1) := by decide +kernel
theorem dX5_choose_9 : decode cX5_choose 9 = .ok (.lstore_n 1, 1) := by decide +kernel
theorem dX5_choose_10 : decode cX5_choose 10 = .ok (.ldc2_w 45, 3) := by decide +kernel
theorem dX5_choose_13 : decode cX5_choose 13 = .ok (.lstore_n 3, 1) := by decide +kernel
theorem dX5_choose_14 : decode cX5_choose 14 = .ok (.lload_n 3, 1) := by decide +kernel
theorem dX5_choose_15 : decode cX5_choose 15 = .ok (.lconst 0, 1) := by decide +kernel
theorem dX5_choose_16 : decode cX5_choose 16 = .ok (.lcmp, 1) := by decide +kernel
theorem dX5_choose_17 : decode cX5_choose 17 = .ok (.ifCond .le 60, 3) := by decide +kernel
theorem dX5_choose_20 : decode cX5_choose 20 = .ok (.lload_n 1, 1) := by decide +kernel
theorem dX5_choose_21 : decode cX5_choose 21 = .ok (.lload_n 3, 1) := by decide +kernel
theorem dX5_choose_22 : decode cX5_choose 22 = .ok (.ladd, 1) := by decide +kernel
theorem dX5_choose_23 : decode cX5_choose 23 = .ok (.aload_n 0, 1) := by decide +kernel
theorem dX5_choose_24 : decode cX5_choose 24 = .ok (.getfield 42, 3) := by decide +kernel
theorem dX5_choose_27 : decode cX5_choose 27 = .ok (.aload_n 0, 1) := by decide +kernel
theorem dX5_choose_28 : decode cX5_choose 28 = .ok (.getfield 27, 3) := by decide +kernel
theorem dX5_choose_31 : decode cX5_choose 31 = .ok (.invokestatic 47, 3) := by decide +kernel
theorem dX5_choose_34 : decode cX5_choose 34 = .ok (.lconst 0, 1) := by decide +kernel
theorem dX5_choose_35 : decode cX5_choose 35 = .ok (.lcmp, 1) := by decide +kernel
theorem dX5_choose_36 : decode cX5_choose 36 = .ok (.ifCond .le 32, 3) := by decide +kernel
theorem dX5_choose_39 : decode cX5_choose 39 = .ok (.lload_n 1, 1) := by decide +kernel
theorem dX5_choose_40 : decode cX5_choose 40 = .ok (.lload_n 3, 1) := by decide +kernel
theorem dX5_choose_41 : decode cX5_choose 41 = .ok (.ladd, 1) := by decide +kernel
theorem dX5_choose_42 : decode cX5_choose 42 = .ok (.aload_n 0, 1) := by decide +kernel
theorem dX5_choose_43 : decode cX5_choose 43 = .ok (.getfield 42, 3) := by decide +kernel
theorem dX5_choose_46 : decode cX5_choose 46 = .ok (.aload_n 0, 1) := by decide +kernel
theorem dX5_choose_47 : decode cX5_choose 47 = .ok (.getfield 27, 3) := by decide +kernel
theorem dX5_choose_50 : decode cX5_choose 50 = .ok (.invokestatic 47, 3) := by decide +kernel
theorem dX5_choose_53 : decode cX5_choose 53 = .ok (.aload_n 0, 1) := by decide +kernel
theorem dX5_choose_54 : decode cX5_choose 54 = .ok (.getfield 51, 3) := by decide +kernel
theorem dX5_choose_57 : decode cX5_choose 57 = .ok (.lcmp, 1) := by decide +kernel
theorem dX5_choose_58 : decode cX5_choose 58 = .ok (.ifCond .ge 10, 3) := by decide +kernel
theorem dX5_choose_61 : decode cX5_choose 61 = .ok (.lload_n 1, 1) := by decide +kernel
theorem dX5_choose_62 : decode cX5_choose 62 = .ok (.lload_n 3, 1) := by decide +kernel
theorem dX5_choose_63 : decode cX5_choose 63 = .ok (.ladd, 1) := by decide +kernel
theorem dX5_choose_64 : decode cX5_choose 64 = .ok (.lstore_n 1, 1) := by decide +kernel
theorem dX5_choose_65 : decode cX5_choose 65 = .ok (.goto (-45), 3) := by decide +kernel
theorem dX5_choose_68 : decode cX5_choose 68 = .ok (.lload_n 3, 1) := by decide +kernel
theorem dX5_choose_69 : decode cX5_choose 69 = .ok (.ldc2_w 40, 3) := by decide +kernel
theorem dX5_choose_72 : decode cX5_choose 72 = .ok (.ldiv, 1) := by decide +kernel
theorem dX5_choose_73 : decode cX5_choose 73 = .ok (.lstore_n 3, 1) := by decide +kernel
theorem dX5_choose_74 : decode cX5_choose 74 = .ok (.goto (-60), 3) := by decide +kernel
theorem dX5_choose_77 : decode cX5_choose 77 = .ok (.lload_n 1, 1) := by decide +kernel
theorem dX5_choose_78 : decode cX5_choose 78 = .ok (.aload_n 0, 1) := by decide +kernel
theorem dX5_choose_79 : decode cX5_choose 79 = .ok (.getfield 42, 3) := by decide +kernel
theorem dX5_choose_82 : decode cX5_choose 82 = .ok (.aload_n 0, 1) := by decide +kernel
theorem dX5_choose_83 : decode cX5_choose 83 = .ok (.getfield 27, 3) := by decide +kernel
theorem dX5_choose_86 : decode cX5_choose 86 = .ok (.invokestatic 47, 3) := by decide +kernel
theorem dX5_choose_89 : decode cX5_choose 89 = .ok (.aload_n 0, 1) := by decide +kernel
theorem dX5_choose_90 : decode cX5_choose 90 = .ok (.getfield 51, 3) := by decide +kernel
theorem dX5_choose_93 : decode cX5_choose 93 = .ok (.lcmp, 1) := by decide +kernel
theorem dX5_choose_94 : decode cX5_choose 94 = .ok (.ifCond .ge 7, 3) := by decide +kernel
theorem dX5_choose_97 : decode cX5_choose 97 = .ok (.lload_n 1, 1) := by decide +kernel
theorem dX5_choose_98 : decode cX5_choose 98 = .ok (.lconst 1, 1) := by decide +kernel
theorem dX5_choose_99 : decode cX5_choose 99 = .ok (.ladd, 1) := by decide +kernel
theorem dX5_choose_100 : decode cX5_choose 100 = .ok (.lstore_n 1, 1) := by decide +kernel
theorem dX5_choose_101 : decode cX5_choose 101 = .ok (.lconst 1, 1) := by decide +kernel
theorem dX5_choose_102 : decode cX5_choose 102 = .ok (.lstore 5, 2) := by decide +kernel
theorem dX5_choose_104 : decode cX5_choose 104 = .ok (.iconst 0, 1) := by decide +kernel
theorem dX5_choose_105 : decode cX5_choose 105 = .ok (.istore 7, 2) := by decide +kernel
theorem dX5_choose_107 : decode cX5_choose 107 = .ok (.iload 7, 2) := by decide +kernel
theorem dX5_choose_109 : decode cX5_choose 109 = .ok (.aload_n 0, 1) := by decide +kernel
theorem dX5_choose_110 : decode cX5_choose 110 = .ok (.getfield 42, 3) := by decide +kernel
theorem dX5_choose_113 : decode cX5_choose 113 = .ok (.if_icmp .ge 83, 3) := by decide +kernel
theorem dX5_choose_116 : decode cX5_choose 116 = .ok (.iconst 2, 1) := by decide +kernel
theorem dX5_choose_117 : decode cX5_choose 117 = .ok (.istore 8, 2) := by decide +kernel
theorem dX5_choose_119 : decode cX5_choose 119 = .ok (.lload 5, 2) := by decide +kernel
theorem dX5_choose_121 : decode cX5_choose 121 = .ok (.iload 8, 2) := by decide +kernel
theorem dX5_choose_123 : decode cX5_choose 123 = .ok (.i2l, 1) := by decide +kernel
theorem dX5_choose_124 : decode cX5_choose 124 = .ok (.invokestatic 36, 3) := by decide +kernel
theorem dX5_choose_127 : decode cX5_choose 127 = .ok (.lload_n 1, 1) := by decide +kernel
theorem dX5_choose_128 : decode cX5_choose 128 = .ok (.iload 8, 2) := by decide +kernel
theorem dX5_choose_130 : decode cX5_choose 130 = .ok (.i2l, 1) := by decide +kernel
theorem dX5_choose_131 : decode cX5_choose 131 = .ok (.lsub, 1) := by decide +kernel
theorem dX5_choose_132 : decode cX5_choose 132 = .ok (.aload_n 0, 1) := by decide +kernel
theorem dX5_choose_133 : decode cX5_choose 133 = .ok (.getfield 42, 3) := by decide +kernel
theorem dX5_choose_136 : decode cX5_choose 136 = .ok (.iload 7, 2) := by decide +kernel
theorem dX5_choose_138 : decode cX5_choose 138 = .ok (.isub, 1) := by decide +kernel
theorem dX5_choose_139 : decode cX5_choose 139 = .ok (.iconst 1, 1) := by decide +kernel
theorem dX5_choose_140 : decode cX5_choose 140 = .ok (.isub, 1) := by decide +kernel
theorem dX5_choose_141 : decode cX5_choose 141 = .ok (.aload_n 0, 1) := by decide +kernel
theorem dX5_choose_142 : decode cX5_choose 142 = .ok (.getfield 27, 3) := by decide +kernel
theorem dX5_choose_145 : decode cX5_choose 145 = .ok (.invokestatic 47, 3) := by decide +kernel
theorem dX5_choose_148 : decode cX5_choose 148 = .ok (.invokestatic 36, 3) := by decide +kernel
theorem dX5_choose_151 : decode cX5_choose 151 = .ok (.aload_n 0, 1) := by decide +kernel
theorem dX5_choose_152 : decode cX5_choose 152 = .ok (.getfield 51, 3) := by decide +kernel
theorem dX5_choose_155 : decode cX5_choose 155 = .ok (.lcmp, 1) := by decide +kernel
theorem dX5_choose_156 : decode cX5_choose 156 = .ok (.ifCond .ge 9, 3) := by decide +kernel
theorem dX5_choose_159 : decode cX5_choose 159 = .ok (.iinc 8 1, 3) := by decide +kernel
theorem dX5_choose_162 : decode cX5_choose 162 = .ok (.goto (-43), 3) := by decide +kernel
theorem dX5_choose_165 : decode cX5_choose 165 = .ok (.aload_n 0, 1) := by decide +kernel
theorem dX5_choose_166 : decode cX5_choose 166 = .ok (.getfield 17, 3) := by decide +kernel
theorem dX5_choose_169 : decode cX5_choose 169 = .ok (.iload 7, 2) := by decide +kernel
theorem dX5_choose_171 : decode cX5_choose 171 = .ok (.iload 8, 2) := by decide +kernel
theorem dX5_choose_173 : decode cX5_choose 173 = .ok (.iastore, 1) := by decide +kernel
theorem dX5_choose_174 : decode cX5_choose 174 = .ok (.lload_n 1, 1) := by decide +kernel
theorem dX5_choose_175 : decode cX5_choose 175 = .ok (.iload 8, 2) := by decide +kernel
theorem dX5_choose_177 : decode cX5_choose 177 = .ok (.i2l, 1) := by decide +kernel
theorem dX5_choose_178 : decode cX5_choose 178 = .ok (.lsub, 1) := by decide +kernel
theorem dX5_choose_179 : decode cX5_choose 179 = .ok (.lstore_n 1, 1) := by decide +kernel
theorem dX5_choose_180 : decode cX5_choose 180 = .ok (.lload 5, 2) := by decide +kernel
theorem dX5_choose_182 : decode cX5_choose 182 = .ok (.iload 8, 2) := by decide +kernel
theorem dX5_choose_184 : decode cX5_choose 184 = .ok (.i2l, 1) := by decide +kernel
theorem dX5_choose_185 : decode cX5_choose 185 = .ok (.invokestatic 36, 3) := by decide +kernel
theorem dX5_choose_188 : decode cX5_choose 188 = .ok (.lstore 5, 2) := by decide +kernel
theorem dX5_choose_190 : decode cX5_choose 190 = .ok (.iinc 7 1, 3) := by decide +kernel
theorem dX5_choose_193 : decode cX5_choose 193 = .ok (.goto (-86), 3) := by decide +kernel
theorem dX5_choose_196 : decode cX5_choose 196 = .ok (.return_, 1) := by decide +kernel
set_option maxRecDepth 20000 in
theorem ggX5_passes_X5_isCount : GoodIn wsX5_passes wsX5_isCount := goodIn_r _ [10, 11] (by decide +kernel) (by decide +kernel)
set_option maxRecDepth 20000 in
theorem gX5_passes_X5_isCount : GoodIn wsX5_passes (va_wsS RX5 55 yX5_isCount wsX5_isCount) := goodIn_app (goodIn_of _ (by decide +kernel)) ggX5_passes_X5_isCount
set_option maxRecDepth 20000 in
theorem ggX5_passes_X5_fewest : GoodIn wsX5_passes wsX5_fewest := goodIn_r _ [14, 15, 16, 9, 17, 11] (by decide +kernel) (by decide +kernel)
set_option maxRecDepth 20000 in
theorem gX5_passes_X5_fewest : GoodIn wsX5_passes (va_wsS RX5 66 yX5_fewest wsX5_fewest) := goodIn_app (goodIn_of _ (by decide +kernel)) ggX5_passes_X5_fewest
set_option maxRecDepth 20000 in
theorem ggX5_passes_X5_choose : GoodIn wsX5_passes wsX5_choose := goodIn_r _ [21, 22, 6, 23, 1, 4, 24, 25, 26, 9, 27, 15, 16, 17, 11, 28, 29, 30, 31, 32, 33, 34, 35, 36, 37, 38] (by decide +kernel) (by decide +kernel)
set_option maxRecDepth 20000 in
theorem gX5_passes_X5_choose : GoodIn wsX5_passes (wsV RX5 70 RX5 yX5_choose wsX5_choose) := goodIn_app (goodIn_of _ (by decide +kernel)) ggX5_passes_X5_choose
theorem dX5_passes_0 : decode cX5_passes 0 = .ok (.aload_n 0, 1) := by decide +kernel
theorem dX5_passes_1 : decode cX5_passes 1 = .ok (.aload_n 0, 1) := by decide +kernel
theorem dX5_passes_2 : decode cX5_passes 2 = .ok (.getfield 27, 3) := by decide +kernel
theorem dX5_passes_5 : decode cX5_passes 5 = .ok (.iconst 2, 1) := by decide +kernel
theorem dX5_passes_6 : decode cX5_passes 6 = .ok (.if_icmp .ge 7, 3) := by decide +kernel
theorem dX5_passes_9 : decode cX5_passes 9 = .ok (.iconst 1, 1) := by decide +kernel
theorem dX5_passes_10 : decode cX5_passes 10 = .ok (.goto 4, 3) := by decide +kernel
theorem dX5_passes_13 : decode cX5_passes 13 = .ok (.iconst 0, 1) := by decide +kernel
theorem dX5_passes_14 : decode cX5_passes 14 = .ok (.putfield 31, 3) := by decide +kernel
theorem dX5_passes_17 : decode cX5_passes 17 = .ok (.aload_n 0, 1) := by decide +kernel
theorem dX5_passes_18 : decode cX5_passes 18 = .ok (.getfield 31, 3) := by decide +kernel
theorem dX5_passes_21 : decode cX5_passes 21 = .ok (.ifCond .le 5, 3) := by decide +kernel
theorem dX5_passes_24 : decode cX5_passes 24 = .ok (.iconst 0, 1) := by decide +kernel
theorem dX5_passes_25 : decode cX5_passes 25 = .ok (.ireturn, 1) := by decide +kernel
theorem dX5_passes_26 : decode cX5_passes 26 = .ok (.lload_n 1, 1) := by decide +kernel
theorem dX5_passes_27 : decode cX5_passes 27 = .ok (.invokestatic 55, 3) := by decide +kernel
theorem dX5_passes_30 : decode cX5_passes 30 = .ok (.ifCond .ne 6, 3) := by decide +kernel
theorem dX5_passes_33 : decode cX5_passes 33 = .ok (.bipush (-2), 2) := by decide +kernel
theorem dX5_passes_35 : decode cX5_passes 35 = .ok (.ireturn, 1) := by decide +kernel
theorem dX5_passes_36 : decode cX5_passes 36 = .ok (.aload_n 0, 1) := by decide +kernel
theorem dX5_passes_37 : decode cX5_passes 37 = .ok (.iconst 1, 1) := by decide +kernel
theorem dX5_passes_38 : decode cX5_passes 38 = .ok (.putfield 59, 3) := by decide +kernel
theorem dX5_passes_41 : decode cX5_passes 41 = .ok (.aload_n 0, 1) := by decide +kernel
theorem dX5_passes_42 : decode cX5_passes 42 = .ok (.lload_n 1, 1) := by decide +kernel
theorem dX5_passes_43 : decode cX5_passes 43 = .ok (.putfield 51, 3) := by decide +kernel
theorem dX5_passes_46 : decode cX5_passes 46 = .ok (.aload_n 0, 1) := by decide +kernel
theorem dX5_passes_47 : decode cX5_passes 47 = .ok (.iconst 0, 1) := by decide +kernel
theorem dX5_passes_48 : decode cX5_passes 48 = .ok (.putfield 63, 3) := by decide +kernel
theorem dX5_passes_51 : decode cX5_passes 51 = .ok (.aload_n 0, 1) := by decide +kernel
theorem dX5_passes_52 : decode cX5_passes 52 = .ok (.lload_n 1, 1) := by decide +kernel
theorem dX5_passes_53 : decode cX5_passes 53 = .ok (.aload_n 0, 1) := by decide +kernel
theorem dX5_passes_54 : decode cX5_passes 54 = .ok (.getfield 27, 3) := by decide +kernel
theorem dX5_passes_57 : decode cX5_passes 57 = .ok (.invokestatic 66, 3) := by decide +kernel
theorem dX5_passes_60 : decode cX5_passes 60 = .ok (.putfield 42, 3) := by decide +kernel
theorem dX5_passes_63 : decode cX5_passes 63 = .ok (.aload_n 0, 1) := by decide +kernel
theorem dX5_passes_64 : decode cX5_passes 64 = .ok (.invokevirtual 70, 3) := by decide +kernel
theorem dX5_passes_67 : decode cX5_passes 67 = .ok (.aload_n 0, 1) := by decide +kernel
theorem dX5_passes_68 : decode cX5_passes 68 = .ok (.getfield 42, 3) := by decide +kernel
theorem dX5_passes_71 : decode cX5_passes 71 = .ok (.ireturn, 1) := by decide +kernel
theorem dX5_isPoint_0 : decode cX5_isPoint 0 = .ok (.lload_n 1, 1) := by decide +kernel
theorem dX5_isPoint_1 : decode cX5_isPoint 1 = .ok (.lconst 0, 1) := by decide +kernel
theorem dX5_isPoint_2 : decode cX5_isPoint 2 = .ok (.lcmp, 1) := by decide +kernel
theorem dX5_isPoint_3 : decode cX5_isPoint 3 = .ok (.ifCond .lt 23, 3) := by decide +kernel
theorem dX5_isPoint_6 : decode cX5_isPoint 6 = .ok (.aload_n 0, 1) := by decide +kernel
theorem dX5_isPoint_7 : decode cX5_isPoint 7 = .ok (.getfield 59, 3) := by decide +kernel
theorem dX5_isPoint_10 : decode cX5_isPoint 10 = .ok (.ifCond .eq 12, 3) := by decide +kernel
theorem dX5_isPoint_13 : decode cX5_isPoint 13 = .ok (.lload_n 1, 1) := by decide +kernel
theorem dX5_isPoint_14 : decode cX5_isPoint 14 = .ok (.aload_n 0, 1) := by decide +kernel
theorem dX5_isPoint_15 : decode cX5_isPoint 15 = .ok (.getfield 51, 3) := by decide +kernel
theorem dX5_isPoint_18 : decode cX5_isPoint 18 = .ok (.lcmp, 1) := by decide +kernel
theorem dX5_isPoint_19 : decode cX5_isPoint 19 = .ok (.ifCond .ge 7, 3) := by decide +kernel
theorem dX5_isPoint_22 : decode cX5_isPoint 22 = .ok (.iconst 1, 1) := by decide +kernel
theorem dX5_isPoint_23 : decode cX5_isPoint 23 = .ok (.goto 4, 3) := by decide +kernel
theorem dX5_isPoint_26 : decode cX5_isPoint 26 = .ok (.iconst 0, 1) := by decide +kernel
theorem dX5_isPoint_27 : decode cX5_isPoint 27 = .ok (.ireturn, 1) := by decide +kernel
theorem dX5_isPass_0 : decode cX5_isPass 0 = .ok (.iload_n 1, 1) := by decide +kernel
theorem dX5_isPass_1 : decode cX5_isPass 1 = .ok (.ifCond .lt 22, 3) := by decide +kernel
theorem dX5_isPass_4 : decode cX5_isPass 4 = .ok (.aload_n 0, 1) := by decide +kernel
theorem dX5_isPass_5 : decode cX5_isPass 5 = .ok (.getfield 59, 3) := by decide +kernel
theorem dX5_isPass_8 : decode cX5_isPass 8 = .ok (.ifCond .eq 11, 3) := by decide +kernel
theorem dX5_isPass_11 : decode cX5_isPass 11 = .ok (.iload_n 1, 1) := by decide +kernel
theorem dX5_isPass_12 : decode cX5_isPass 12 = .ok (.aload_n 0, 1) := by decide +kernel
theorem dX5_isPass_13 : decode cX5_isPass 13 = .ok (.getfield 42, 3) := by decide +kernel
theorem dX5_isPass_16 : decode cX5_isPass 16 = .ok (.if_icmp .ge 7, 3) := by decide +kernel
theorem dX5_isPass_19 : decode cX5_isPass 19 = .ok (.iconst 1, 1) := by decide +kernel
theorem dX5_isPass_20 : decode cX5_isPass 20 = .ok (.goto 4, 3) := by decide +kernel
theorem dX5_isPass_23 : decode cX5_isPass 23 = .ok (.iconst 0, 1) := by decide +kernel
theorem dX5_isPass_24 : decode cX5_isPass 24 = .ok (.ireturn, 1) := by decide +kernel
theorem dX5_isItem_0 : decode cX5_isItem 0 = .ok (.iload_n 1, 1) := by decide +kernel
theorem dX5_isItem_1 : decode cX5_isItem 1 = .ok (.ifCond .lt 22, 3) := by decide +kernel
theorem dX5_isItem_4 : decode cX5_isItem 4 = .ok (.aload_n 0, 1) := by decide +kernel
theorem dX5_isItem_5 : decode cX5_isItem 5 = .ok (.getfield 59, 3) := by decide +kernel
theorem dX5_isItem_8 : decode cX5_isItem 8 = .ok (.ifCond .eq 11, 3) := by decide +kernel
theorem dX5_isItem_11 : decode cX5_isItem 11 = .ok (.iload_n 1, 1) := by decide +kernel
theorem dX5_isItem_12 : decode cX5_isItem 12 = .ok (.aload_n 0, 1) := by decide +kernel
theorem dX5_isItem_13 : decode cX5_isItem 13 = .ok (.getfield 63, 3) := by decide +kernel
theorem dX5_isItem_16 : decode cX5_isItem 16 = .ok (.if_icmp .ge 7, 3) := by decide +kernel
theorem dX5_isItem_19 : decode cX5_isItem 19 = .ok (.iconst 1, 1) := by decide +kernel
theorem dX5_isItem_20 : decode cX5_isItem 20 = .ok (.goto 4, 3) := by decide +kernel
theorem dX5_isItem_23 : decode cX5_isItem 23 = .ok (.iconst 0, 1) := by decide +kernel
theorem dX5_isItem_24 : decode cX5_isItem 24 = .ok (.ireturn, 1) := by decide +kernel
set_option maxRecDepth 20000 in
theorem ggX5_digit_X5_isPoint : GoodIn wsX5_digit wsX5_isPoint := goodIn_r _ [8, 2, 9, 15, 16, 17, 18, 19, 20, 21, 22, 23, 24, 25] (by decide +kernel) (by decide +kernel)
set_option maxRecDepth 20000 in
theorem gX5_digit_X5_isPoint : GoodIn wsX5_digit (wsV RX5 73 RX5 yX5_isPoint wsX5_isPoint) := goodIn_app (goodIn_of _ (by decide +kernel)) ggX5_digit_X5_isPoint
set_option maxRecDepth 20000 in
theorem ggX5_digit_X5_isPass : GoodIn wsX5_digit wsX5_isPass := goodIn_r _ [13, 2, 14, 15, 16, 17, 18, 19, 20, 21, 22, 23, 24, 25] (by decide +kernel) (by decide +kernel)
set_option maxRecDepth 20000 in
theorem gX5_digit_X5_isPass : GoodIn wsX5_digit (wsV RX5 76 RX5 yX5_isPass wsX5_isPass) := goodIn_app (goodIn_of _ (by decide +kernel)) ggX5_digit_X5_isPass
theorem dX5_digit_0 : decode cX5_digit 0 = .ok (.aload_n 0, 1) := by decide +kernel
theorem dX5_digit_1 : decode cX5_digit 1 = .ok (.iconst 0, 1) := by decide +kernel
theorem dX5_digit_2 : decode cX5_digit 2 = .ok (.putfield 31, 3) := by decide +kernel
theorem dX5_digit_5 : decode cX5_digit 5 = .ok (.aload_n 0, 1) := by decide +kernel
theorem dX5_digit_6 : decode cX5_digit 6 = .ok (.lload_n 1, 1) := by decide +kernel
theorem dX5_digit_7 : decode cX5_digit 7 = .ok (.invokevirtual 73, 3) := by decide +kernel
theorem dX5_digit_10 : decode cX5_digit 10 = .ok (.ifCond .eq 11, 3) := by decide +kernel
theorem dX5_digit_13 : decode cX5_digit 13 = .ok (.aload_n 0, 1) := by decide +kernel
theorem dX5_digit_14 : decode cX5_digit 14 = .ok (.iload_n 3, 1) := by decide +kernel
theorem dX5_digit_15 : decode cX5_digit 15 = .ok (.invokevirtual 76, 3) := by decide +kernel
theorem dX5_digit_18 : decode cX5_digit 18 = .ok (.ifCond .ne 5, 3) := by decide +kernel
theorem dX5_digit_21 : decode cX5_digit 21 = .ok (.iconst (-1), 1) := by decide +kernel
theorem dX5_digit_22 : decode cX5_digit 22 = .ok (.ireturn, 1) := by decide +kernel
theorem dX5_digit_23 : decode cX5_digit 23 = .ok (.aload_n 0, 1) := by decide +kernel
theorem dX5_digit_24 : decode cX5_digit 24 = .ok (.getfield 59, 3) := by decide +kernel
theorem dX5_digit_27 : decode cX5_digit 27 = .ok (.ifCond .ne 6, 3) := by decide +kernel
theorem dX5_digit_30 : decode cX5_digit 30 = .ok (.bipush (-3), 2) := by decide +kernel
theorem dX5_digit_32 : decode cX5_digit 32 = .ok (.ireturn, 1) := by decide +kernel
theorem dX5_digit_33 : decode cX5_digit 33 = .ok (.lload_n 1, 1) := by decide +kernel
theorem dX5_digit_34 : decode cX5_digit 34 = .ok (.lstore 4, 2) := by decide +kernel
theorem dX5_digit_36 : decode cX5_digit 36 = .ok (.iconst 0, 1) := by decide +kernel
theorem dX5_digit_37 : decode cX5_digit 37 = .ok (.istore 6, 2) := by decide +kernel
theorem dX5_digit_39 : decode cX5_digit 39 = .ok (.iload 6, 2) := by decide +kernel
theorem dX5_digit_41 : decode cX5_digit 41 = .ok (.iload_n 3, 1) := by decide +kernel
theorem dX5_digit_42 : decode cX5_digit 42 = .ok (.if_icmp .ge 22, 3) := by decide +kernel
theorem dX5_digit_45 : decode cX5_digit 45 = .ok (.lload 4, 2) := by decide +kernel
theorem dX5_digit_47 : decode cX5_digit 47 = .ok (.aload_n 0, 1) := by decide +kernel
theorem dX5_digit_48 : decode cX5_digit 48 = .ok (.getfield 17, 3) := by decide +kernel
theorem dX5_digit_51 : decode cX5_digit 51 = .ok (.iload 6, 2) := by decide +kernel
theorem dX5_digit_53 : decode cX5_digit 53 = .ok (.iaload, 1) := by decide +kernel
theorem dX5_digit_54 : decode cX5_digit 54 = .ok (.i2l, 1) := by decide +kernel
theorem dX5_digit_55 : decode cX5_digit 55 = .ok (.ldiv, 1) := by decide +kernel
theorem dX5_digit_56 : decode cX5_digit 56 = .ok (.lstore 4, 2) := by decide +kernel
theorem dX5_digit_58 : decode cX5_digit 58 = .ok (.iinc 6 1, 3) := by decide +kernel
theorem dX5_digit_61 : decode cX5_digit 61 = .ok (.goto (-22), 3) := by decide +kernel
theorem dX5_digit_64 : decode cX5_digit 64 = .ok (.lload 4, 2) := by decide +kernel
theorem dX5_digit_66 : decode cX5_digit 66 = .ok (.aload_n 0, 1) := by decide +kernel
theorem dX5_digit_67 : decode cX5_digit 67 = .ok (.getfield 17, 3) := by decide +kernel
theorem dX5_digit_70 : decode cX5_digit 70 = .ok (.iload_n 3, 1) := by decide +kernel
theorem dX5_digit_71 : decode cX5_digit 71 = .ok (.iaload, 1) := by decide +kernel
theorem dX5_digit_72 : decode cX5_digit 72 = .ok (.i2l, 1) := by decide +kernel
theorem dX5_digit_73 : decode cX5_digit 73 = .ok (.lrem, 1) := by decide +kernel
theorem dX5_digit_74 : decode cX5_digit 74 = .ok (.l2i, 1) := by decide +kernel
theorem dX5_digit_75 : decode cX5_digit 75 = .ok (.ireturn, 1) := by decide +kernel
set_option maxRecDepth 20000 in
theorem ggX5_isEnough_X5_product : GoodIn wsX5_isEnough wsX5_product := goodIn_r _ [4, 5] (by decide +kernel) (by decide +kernel)
set_option maxRecDepth 20000 in
theorem gX5_isEnough_X5_product : GoodIn wsX5_isEnough (va_wsS RX5 36 yX5_product wsX5_product) := goodIn_app (goodIn_of _ (by decide +kernel)) ggX5_isEnough_X5_product
theorem dX5_isEnough_0 : decode cX5_isEnough 0 = .ok (.lconst 1, 1) := by decide +kernel
theorem dX5_isEnough_1 : decode cX5_isEnough 1 = .ok (.lstore 5, 2) := by decide +kernel
theorem dX5_isEnough_3 : decode cX5_isEnough 3 = .ok (.iconst 0, 1) := by decide +kernel
theorem dX5_isEnough_4 : decode cX5_isEnough 4 = .ok (.istore 7, 2) := by decide +kernel
theorem dX5_isEnough_6 : decode cX5_isEnough 6 = .ok (.iload 7, 2) := by decide +kernel
theorem dX5_isEnough_8 : decode cX5_isEnough 8 = .ok (.iload_n 2, 1) := by decide +kernel
theorem dX5_isEnough_9 : decode cX5_isEnough 9 = .ok (.if_icmp .ge 17, 3) := by decide +kernel
theorem dX5_isEnough_12 : decode cX5_isEnough 12 = .ok (.lload 5, 2) := by decide +kernel
theorem dX5_isEnough_14 : decode cX5_isEnough 14 = .ok (.lload_n 0, 1) := by decide +kernel
theorem dX5_isEnough_15 : decode cX5_isEnough 15 = .ok (.invokestatic 36, 3) := by decide +kernel
theorem dX5_isEnough_18 : decode cX5_isEnough 18 = .ok (.lstore 5, 2) := by decide +kernel
theorem dX5_isEnough_20 : decode cX5_isEnough 20 = .ok (.iinc 7 1, 3) := by decide +kernel
theorem dX5_isEnough_23 : decode cX5_isEnough 23 = .ok (.goto (-17), 3) := by decide +kernel
theorem dX5_isEnough_26 : decode cX5_isEnough 26 = .ok (.lload 5, 2) := by decide +kernel
theorem dX5_isEnough_28 : decode cX5_isEnough 28 = .ok (.lload_n 3, 1) := by decide +kernel
theorem dX5_isEnough_29 : decode cX5_isEnough 29 = .ok (.lcmp, 1) := by decide +kernel
theorem dX5_isEnough_30 : decode cX5_isEnough 30 = .ok (.ifCond .lt 7, 3) := by decide +kernel
theorem dX5_isEnough_33 : decode cX5_isEnough 33 = .ok (.iconst 1, 1) := by decide +kernel
theorem dX5_isEnough_34 : decode cX5_isEnough 34 = .ok (.goto 4, 3) := by decide +kernel
theorem dX5_isEnough_37 : decode cX5_isEnough 37 = .ok (.iconst 0, 1) := by decide +kernel
theorem dX5_isEnough_38 : decode cX5_isEnough 38 = .ok (.ireturn, 1) := by decide +kernel
set_option maxRecDepth 20000 in
theorem ggX5_best_X5_isCount : GoodIn wsX5_best wsX5_isCount := goodIn_r _ [6, 7] (by decide +kernel) (by decide +kernel)
set_option maxRecDepth 20000 in
theorem gX5_best_X5_isCount : GoodIn wsX5_best (va_wsS RX5 55 yX5_isCount wsX5_isCount) := goodIn_app (goodIn_of _ (by decide +kernel)) ggX5_best_X5_isCount
set_option maxRecDepth 20000 in
theorem ggX5_best_X5_isEnough : GoodIn wsX5_best wsX5_isEnough := goodIn_r _ [10, 11, 12, 5, 13, 7] (by decide +kernel) (by decide +kernel)
set_option maxRecDepth 20000 in
theorem gX5_best_X5_isEnough : GoodIn wsX5_best (va_wsS RX5 80 yX5_isEnough wsX5_isEnough) := goodIn_app (goodIn_of _ (by decide +kernel)) ggX5_best_X5_isEnough
theorem dX5_best_0 : decode cX5_best 0 = .ok (.aload_n 0, 1) := by decide +kernel
theorem dX5_best_1 : decode cX5_best 1 = .ok (.iconst 0, 1) := by decide +kernel
theorem dX5_best_2 : decode cX5_best 2 = .ok (.putfield 31, 3) := by decide +kernel
theorem dX5_best_5 : decode cX5_best 5 = .ok (.lload_n 1, 1) := by decide +kernel
theorem dX5_best_6 : decode cX5_best 6 = .ok (.invokestatic 55, 3) := by decide +kernel
theorem dX5_best_9 : decode cX5_best 9 = .ok (.ifCond .eq 14, 3) := by decide +kernel
theorem dX5_best_12 : decode cX5_best 12 = .ok (.iload_n 3, 1) := by decide +kernel
theorem dX5_best_13 : decode cX5_best 13 = .ok (.iconst 1, 1) := by decide +kernel
theorem dX5_best_14 : decode cX5_best 14 = .ok (.if_icmp .lt 9, 3) := by decide +kernel
theorem dX5_best_17 : decode cX5_best 17 = .ok (.iload_n 3, 1) := by decide +kernel
theorem dX5_best_18 : decode cX5_best 18 = .ok (.bipush 62, 2) := by decide +kernel
theorem dX5_best_20 : decode cX5_best 20 = .ok (.if_icmp .le 6, 3) := by decide +kernel
theorem dX5_best_23 : decode cX5_best 23 = .ok (.bipush (-2), 2) := by decide +kernel
theorem dX5_best_25 : decode cX5_best 25 = .ok (.ireturn, 1) := by decide +kernel
theorem dX5_best_26 : decode cX5_best 26 = .ok (.lconst 1, 1) := by decide +kernel
theorem dX5_best_27 : decode cX5_best 27 = .ok (.lstore 4, 2) := by decide +kernel
theorem dX5_best_29 : decode cX5_best 29 = .ok (.bipush 31, 2) := by decide +kernel
theorem dX5_best_31 : decode cX5_best 31 = .ok (.istore 6, 2) := by decide +kernel
theorem dX5_best_33 : decode cX5_best 33 = .ok (.iload 6, 2) := by decide +kernel
theorem dX5_best_35 : decode cX5_best 35 = .ok (.ifCond .lt 38, 3) := by decide +kernel
theorem dX5_best_38 : decode cX5_best 38 = .ok (.lload 4, 2) := by decide +kernel
theorem dX5_best_40 : decode cX5_best 40 = .ok (.lconst 1, 1) := by decide +kernel
theorem dX5_best_41 : decode cX5_best 41 = .ok (.iload 6, 2) := by decide +kernel
theorem dX5_best_43 : decode cX5_best 43 = .ok (.lshl, 1) := by decide +kernel
theorem dX5_best_44 : decode cX5_best 44 = .ok (.ladd, 1) := by decide +kernel
theorem dX5_best_45 : decode cX5_best 45 = .ok (.iload_n 3, 1) := by decide +kernel
theorem dX5_best_46 : decode cX5_best 46 = .ok (.lload_n 1, 1) := by decide +kernel
theorem dX5_best_47 : decode cX5_best 47 = .ok (.invokestatic 80, 3) := by decide +kernel
theorem dX5_best_50 : decode cX5_best 50 = .ok (.ifCond .ne 13, 3) := by decide +kernel
theorem dX5_best_53 : decode cX5_best 53 = .ok (.lload 4, 2) := by decide +kernel
theorem dX5_best_55 : decode cX5_best 55 = .ok (.lconst 1, 1) := by decide +kernel
theorem dX5_best_56 : decode cX5_best 56 = .ok (.iload 6, 2) := by decide +kernel
theorem dX5_best_58 : decode cX5_best 58 = .ok (.lshl, 1) := by decide +kernel
theorem dX5_best_59 : decode cX5_best 59 = .ok (.ladd, 1) := by decide +kernel
theorem dX5_best_60 : decode cX5_best 60 = .ok (.goto 5, 3) := by decide +kernel
theorem dX5_best_63 : decode cX5_best 63 = .ok (.lload 4, 2) := by decide +kernel
theorem dX5_best_65 : decode cX5_best 65 = .ok (.lstore 4, 2) := by decide +kernel
theorem dX5_best_67 : decode cX5_best 67 = .ok (.iinc 6 (-1), 3) := by decide +kernel
theorem dX5_best_70 : decode cX5_best 70 = .ok (.goto (-37), 3) := by decide +kernel
theorem dX5_best_73 : decode cX5_best 73 = .ok (.lload 4, 2) := by decide +kernel
theorem dX5_best_75 : decode cX5_best 75 = .ok (.lconst 1, 1) := by decide +kernel
theorem dX5_best_76 : decode cX5_best 76 = .ok (.ladd, 1) := by decide +kernel
theorem dX5_best_77 : decode cX5_best 77 = .ok (.ldc2_w 84, 3) := by decide +kernel
theorem dX5_best_80 : decode cX5_best 80 = .ok (.lcmp, 1) := by decide +kernel
theorem dX5_best_81 : decode cX5_best 81 = .ok (.ifCond .le 8, 3) := by decide +kernel
theorem dX5_best_84 : decode cX5_best 84 = .ok (.bipush (-2), 2) := by decide +kernel
theorem dX5_best_86 : decode cX5_best 86 = .ok (.goto 8, 3) := by decide +kernel
theorem dX5_best_89 : decode cX5_best 89 = .ok (.lload 4, 2) := by decide +kernel
theorem dX5_best_91 : decode cX5_best 91 = .ok (.lconst 1, 1) := by decide +kernel
theorem dX5_best_92 : decode cX5_best 92 = .ok (.ladd, 1) := by decide +kernel
theorem dX5_best_93 : decode cX5_best 93 = .ok (.l2i, 1) := by decide +kernel
theorem dX5_best_94 : decode cX5_best 94 = .ok (.ireturn, 1) := by decide +kernel
set_option maxRecDepth 20000 in
theorem ggX5_volume_X5_isPoint : GoodIn wsX5_volume wsX5_isPoint := goodIn_r _ [10, 2, 11, 12, 13, 14, 15, 16, 17, 18, 19, 20, 21, 22] (by decide +kernel) (by decide +kernel)
set_option maxRecDepth 20000 in
theorem gX5_volume_X5_isPoint : GoodIn wsX5_volume (wsV RX5 73 RX5 yX5_isPoint wsX5_isPoint) := goodIn_app (goodIn_of _ (by decide +kernel)) ggX5_volume_X5_isPoint
theorem dX5_volume_0 : decode cX5_volume 0 = .ok (.aload_n 0, 1) := by decide +kernel
theorem dX5_volume_1 : decode cX5_volume 1 = .ok (.iconst 0, 1) := by decide +kernel
theorem dX5_volume_2 : decode cX5_volume 2 = .ok (.putfield 31, 3) := by decide +kernel
theorem dX5_volume_5 : decode cX5_volume 5 = .ok (.aload_n 0, 1) := by decide +kernel
theorem dX5_volume_6 : decode cX5_volume 6 = .ok (.lload_n 1, 1) := by decide +kernel
theorem dX5_volume_7 : decode cX5_volume 7 = .ok (.invokevirtual 73, 3) := by decide +kernel
theorem dX5_volume_10 : decode cX5_volume 10 = .ok (.ifCond .ne 5, 3) := by decide +kernel
theorem dX5_volume_13 : decode cX5_volume 13 = .ok (.iconst (-1), 1) := by decide +kernel
theorem dX5_volume_14 : decode cX5_volume 14 = .ok (.ireturn, 1) := by decide +kernel
theorem dX5_volume_15 : decode cX5_volume 15 = .ok (.iload_n 3, 1) := by decide +kernel
theorem dX5_volume_16 : decode cX5_volume 16 = .ok (.ifCond .lt 10, 3) := by decide +kernel
theorem dX5_volume_19 : decode cX5_volume 19 = .ok (.iload_n 3, 1) := by decide +kernel
theorem dX5_volume_20 : decode cX5_volume 20 = .ok (.sipush 1000, 3) := by decide +kernel
theorem dX5_volume_23 : decode cX5_volume 23 = .ok (.if_icmp .le 6, 3) := by decide +kernel
theorem dX5_volume_26 : decode cX5_volume 26 = .ok (.bipush (-2), 2) := by decide +kernel
theorem dX5_volume_28 : decode cX5_volume 28 = .ok (.ireturn, 1) := by decide +kernel
theorem dX5_volume_29 : decode cX5_volume 29 = .ok (.aload_n 0, 1) := by decide +kernel
theorem dX5_volume_30 : decode cX5_volume 30 = .ok (.getfield 59, 3) := by decide +kernel
theorem dX5_volume_33 : decode cX5_volume 33 = .ok (.ifCond .ne 6, 3) := by decide +kernel
theorem dX5_volume_36 : decode cX5_volume 36 = .ok (.bipush (-3), 2) := by decide +kernel
theorem dX5_volume_38 : decode cX5_volume 38 = .ok (.ireturn, 1) := by decide +kernel
theorem dX5_volume_39 : decode cX5_volume 39 = .ok (.aload_n 0, 1) := by decide +kernel
theorem dX5_volume_40 : decode cX5_volume 40 = .ok (.getfield 63, 3) := by decide +kernel
theorem dX5_volume_43 : decode cX5_volume 43 = .ok (.iload_n 3, 1) := by decide +kernel
theorem dX5_volume_44 : decode cX5_volume 44 = .ok (.iadd, 1) := by decide +kernel
theorem dX5_volume_45 : decode cX5_volume 45 = .ok (.sipush 4000, 3) := by decide +kernel
theorem dX5_volume_48 : decode cX5_volume 48 = .ok (.if_icmp .le 6, 3) := by decide +kernel
theorem dX5_volume_51 : decode cX5_volume 51 = .ok (.bipush (-4), 2) := by decide +kernel
theorem dX5_volume_53 : decode cX5_volume 53 = .ok (.ireturn, 1) := by decide +kernel
theorem dX5_volume_54 : decode cX5_volume 54 = .ok (.iconst 0, 1) := by decide +kernel
theorem dX5_volume_55 : decode cX5_volume 55 = .ok (.istore 4, 2) := by decide +kernel
theorem dX5_volume_57 : decode cX5_volume 57 = .ok (.iload 4, 2) := by decide +kernel
theorem dX5_volume_59 : decode cX5_volume 59 = .ok (.aload_n 0, 1) := by decide +kernel
theorem dX5_volume_60 : decode cX5_volume 60 = .ok (.getfield 63, 3) := by decide +kernel
theorem dX5_volume_63 : decode cX5_volume 63 = .ok (.if_icmp .ge 26, 3) := by decide +kernel
end
section
theorem dX5_volume_66 : decode cX5_volume 66 = .ok (.aload_n 0, 1) := by decide +kernel
theorem dX5_volume_67 : decode cX5_volume 67 = .ok (.getfield 20, 3) := by decide +kernel
theorem dX5_volume_70 : decode cX5_volume 70 = .ok (.aload_n 0, 1) := by decide +kernel
theorem dX5_volume_71 : decode cX5_volume 71 = .ok (.getfield 24, 3) := by decide +kernel
theorem dX5_volume_74 : decode cX5_volume 74 = .ok (.iload 4, 2) := by decide +kernel
theorem dX5_volume_76 : decode cX5_volume 76 = .ok (.iaload, 1) := by decide +kernel
theorem dX5_volume_77 : decode cX5_volume 77 = .ok (.laload, 1) := by decide +kernel
theorem dX5_volume_78 : decode cX5_volume 78 = .ok (.lload_n 1, 1) := by decide +kernel
theorem dX5_volume_79 : decode cX5_volume 79 = .ok (.lcmp, 1) := by decide +kernel
theorem dX5_volume_80 : decode cX5_volume 80 = .ok (.ifCond .gt 9, 3) := by decide +kernel
theorem dX5_volume_83 : decode cX5_volume 83 = .ok (.iinc 4 1, 3) := by decide +kernel
theorem dX5_volume_86 : decode cX5_volume 86 = .ok (.goto (-29), 3) := by decide +kernel
theorem dX5_volume_89 : decode cX5_volume 89 = .ok (.aload_n 0, 1) := by decide +kernel
theorem dX5_volume_90 : decode cX5_volume 90 = .ok (.getfield 63, 3) := by decide +kernel
theorem dX5_volume_93 : decode cX5_volume 93 = .ok (.iconst 1, 1) := by decide +kernel
theorem dX5_volume_94 : decode cX5_volume 94 = .ok (.isub, 1) := by decide +kernel
theorem dX5_volume_95 : decode cX5_volume 95 = .ok (.istore 5, 2) := by decide +kernel
theorem dX5_volume_97 : decode cX5_volume 97 = .ok (.iload 5, 2) := by decide +kernel
theorem dX5_volume_99 : decode cX5_volume 99 = .ok (.iload 4, 2) := by decide +kernel
theorem dX5_volume_101 : decode cX5_volume 101 = .ok (.if_icmp .lt 25, 3) := by decide +kernel
theorem dX5_volume_104 : decode cX5_volume 104 = .ok (.aload_n 0, 1) := by decide +kernel
theorem dX5_volume_105 : decode cX5_volume 105 = .ok (.getfield 24, 3) := by decide +kernel
theorem dX5_volume_108 : decode cX5_volume 108 = .ok (.iload 5, 2) := by decide +kernel
theorem dX5_volume_110 : decode cX5_volume 110 = .ok (.iload_n 3, 1) := by decide +kernel
theorem dX5_volume_111 : decode cX5_volume 111 = .ok (.iadd, 1) := by decide +kernel
theorem dX5_volume_112 : decode cX5_volume 112 = .ok (.aload_n 0, 1) := by decide +kernel
theorem dX5_volume_113 : decode cX5_volume 113 = .ok (.getfield 24, 3) := by decide +kernel
theorem dX5_volume_116 : decode cX5_volume 116 = .ok (.iload 5, 2) := by decide +kernel
theorem dX5_volume_118 : decode cX5_volume 118 = .ok (.iaload, 1) := by decide +kernel
theorem dX5_volume_119 : decode cX5_volume 119 = .ok (.iastore, 1) := by decide +kernel
theorem dX5_volume_120 : decode cX5_volume 120 = .ok (.iinc 5 (-1), 3) := by decide +kernel
theorem dX5_volume_123 : decode cX5_volume 123 = .ok (.goto (-26), 3) := by decide +kernel
theorem dX5_volume_126 : decode cX5_volume 126 = .ok (.iconst 0, 1) := by decide +kernel
theorem dX5_volume_127 : decode cX5_volume 127 = .ok (.istore 5, 2) := by decide +kernel
theorem dX5_volume_129 : decode cX5_volume 129 = .ok (.iload 5, 2) := by decide +kernel
theorem dX5_volume_131 : decode cX5_volume 131 = .ok (.iload_n 3, 1) := by decide +kernel
theorem dX5_volume_132 : decode cX5_volume 132 = .ok (.if_icmp .ge 39, 3) := by decide +kernel
theorem dX5_volume_135 : decode cX5_volume 135 = .ok (.aload_n 0, 1) := by decide +kernel
theorem dX5_volume_136 : decode cX5_volume 136 = .ok (.getfield 24, 3) := by decide +kernel
theorem dX5_volume_139 : decode cX5_volume 139 = .ok (.iload 4, 2) := by decide +kernel
theorem dX5_volume_141 : decode cX5_volume 141 = .ok (.iload 5, 2) := by decide +kernel
theorem dX5_volume_143 : decode cX5_volume 143 = .ok (.iadd, 1) := by decide +kernel
theorem dX5_volume_144 : decode cX5_volume 144 = .ok (.aload_n 0, 1) := by decide +kernel
theorem dX5_volume_145 : decode cX5_volume 145 = .ok (.getfield 63, 3) := by decide +kernel
theorem dX5_volume_148 : decode cX5_volume 148 = .ok (.iload 5, 2) := by decide +kernel
theorem dX5_volume_150 : decode cX5_volume 150 = .ok (.iadd, 1) := by decide +kernel
theorem dX5_volume_151 : decode cX5_volume 151 = .ok (.iastore, 1) := by decide +kernel
theorem dX5_volume_152 : decode cX5_volume 152 = .ok (.aload_n 0, 1) := by decide +kernel
theorem dX5_volume_153 : decode cX5_volume 153 = .ok (.getfield 20, 3) := by decide +kernel
theorem dX5_volume_156 : decode cX5_volume 156 = .ok (.aload_n 0, 1) := by decide +kernel
theorem dX5_volume_157 : decode cX5_volume 157 = .ok (.getfield 63, 3) := by decide +kernel
theorem dX5_volume_160 : decode cX5_volume 160 = .ok (.iload 5, 2) := by decide +kernel
theorem dX5_volume_162 : decode cX5_volume 162 = .ok (.iadd, 1) := by decide +kernel
theorem dX5_volume_163 : decode cX5_volume 163 = .ok (.lload_n 1, 1) := by decide +kernel
theorem dX5_volume_164 : decode cX5_volume 164 = .ok (.lastore, 1) := by decide +kernel
theorem dX5_volume_165 : decode cX5_volume 165 = .ok (.iinc 5 1, 3) := by decide +kernel
theorem dX5_volume_168 : decode cX5_volume 168 = .ok (.goto (-39), 3) := by decide +kernel
theorem dX5_volume_171 : decode cX5_volume 171 = .ok (.aload_n 0, 1) := by decide +kernel
theorem dX5_volume_172 : decode cX5_volume 172 = .ok (.aload_n 0, 1) := by decide +kernel
theorem dX5_volume_173 : decode cX5_volume 173 = .ok (.getfield 63, 3) := by decide +kernel
theorem dX5_volume_176 : decode cX5_volume 176 = .ok (.iload_n 3, 1) := by decide +kernel
theorem dX5_volume_177 : decode cX5_volume 177 = .ok (.iadd, 1) := by decide +kernel
theorem dX5_volume_178 : decode cX5_volume 178 = .ok (.putfield 63, 3) := by decide +kernel
theorem dX5_volume_181 : decode cX5_volume 181 = .ok (.aload_n 0, 1) := by decide +kernel
theorem dX5_volume_182 : decode cX5_volume 182 = .ok (.getfield 63, 3) := by decide +kernel
theorem dX5_volume_185 : decode cX5_volume 185 = .ok (.ireturn, 1) := by decide +kernel
theorem dX5_height_0 : decode cX5_height 0 = .ok (.aload_n 0, 1) := by decide +kernel
theorem dX5_height_1 : decode cX5_height 1 = .ok (.iconst 0, 1) := by decide +kernel
theorem dX5_height_2 : decode cX5_height 2 = .ok (.putfield 31, 3) := by decide +kernel
theorem dX5_height_5 : decode cX5_height 5 = .ok (.iload_n 1, 1) := by decide +kernel
theorem dX5_height_6 : decode cX5_height 6 = .ok (.ifCond .lt 11, 3) := by decide +kernel
theorem dX5_height_9 : decode cX5_height 9 = .ok (.iload_n 1, 1) := by decide +kernel
theorem dX5_height_10 : decode cX5_height 10 = .ok (.aload_n 0, 1) := by decide +kernel
theorem dX5_height_11 : decode cX5_height 11 = .ok (.getfield 27, 3) := by decide +kernel
theorem dX5_height_14 : decode cX5_height 14 = .ok (.if_icmp .lt 5, 3) := by decide +kernel
theorem dX5_height_17 : decode cX5_height 17 = .ok (.iconst (-1), 1) := by decide +kernel
theorem dX5_height_18 : decode cX5_height 18 = .ok (.ireturn, 1) := by decide +kernel
theorem dX5_height_19 : decode cX5_height 19 = .ok (.iload_n 2, 1) := by decide +kernel
theorem dX5_height_20 : decode cX5_height 20 = .ok (.iconst 1, 1) := by decide +kernel
theorem dX5_height_21 : decode cX5_height 21 = .ok (.if_icmp .lt 9, 3) := by decide +kernel
theorem dX5_height_24 : decode cX5_height 24 = .ok (.iload_n 2, 1) := by decide +kernel
theorem dX5_height_25 : decode cX5_height 25 = .ok (.ldc 86, 2) := by decide +kernel
theorem dX5_height_27 : decode cX5_height 27 = .ok (.if_icmp .le 6, 3) := by decide +kernel
theorem dX5_height_30 : decode cX5_height 30 = .ok (.bipush (-2), 2) := by decide +kernel
theorem dX5_height_32 : decode cX5_height 32 = .ok (.ireturn, 1) := by decide +kernel
theorem dX5_height_33 : decode cX5_height 33 = .ok (.aload_n 0, 1) := by decide +kernel
theorem dX5_height_34 : decode cX5_height 34 = .ok (.getfield 8, 3) := by decide +kernel
theorem dX5_height_37 : decode cX5_height 37 = .ok (.iload_n 1, 1) := by decide +kernel
theorem dX5_height_38 : decode cX5_height 38 = .ok (.iaload, 1) := by decide +kernel
theorem dX5_height_39 : decode cX5_height 39 = .ok (.istore_n 3, 1) := by decide +kernel
theorem dX5_height_40 : decode cX5_height 40 = .ok (.aload_n 0, 1) := by decide +kernel
theorem dX5_height_41 : decode cX5_height 41 = .ok (.getfield 8, 3) := by decide +kernel
theorem dX5_height_44 : decode cX5_height 44 = .ok (.iload_n 1, 1) := by decide +kernel
theorem dX5_height_45 : decode cX5_height 45 = .ok (.iload_n 2, 1) := by decide +kernel
theorem dX5_height_46 : decode cX5_height 46 = .ok (.iastore, 1) := by decide +kernel
theorem dX5_height_47 : decode cX5_height 47 = .ok (.iload_n 3, 1) := by decide +kernel
theorem dX5_height_48 : decode cX5_height 48 = .ok (.ireturn, 1) := by decide +kernel
set_option maxRecDepth 20000 in
theorem ggX5_trays_X5_digit : GoodIn wsX5_trays wsX5_digit := goodIn_r _ [13, 1, 2, 4, 14, 15, 16, 12, 17, 18, 19, 20, 21, 22, 3, 23, 24, 25, 26, 27, 28, 29, 30, 31, 32, 33] (by decide +kernel) (by decide +kernel)
set_option maxRecDepth 20000 in
theorem gX5_trays_X5_digit : GoodIn wsX5_trays (wsV RX5 87 RX5 yX5_digit wsX5_digit) := goodIn_app (goodIn_of _ (by decide +kernel)) ggX5_trays_X5_digit
theorem dX5_trays_0 : decode cX5_trays 0 = .ok (.aload_n 0, 1) := by decide +kernel
theorem dX5_trays_1 : decode cX5_trays 1 = .ok (.iconst 0, 1) := by decide +kernel
theorem dX5_trays_2 : decode cX5_trays 2 = .ok (.putfield 31, 3) := by decide +kernel
theorem dX5_trays_5 : decode cX5_trays 5 = .ok (.aload_n 0, 1) := by decide +kernel
theorem dX5_trays_6 : decode cX5_trays 6 = .ok (.getfield 59, 3) := by decide +kernel
theorem dX5_trays_9 : decode cX5_trays 9 = .ok (.ifCond .ne 6, 3) := by decide +kernel
theorem dX5_trays_12 : decode cX5_trays 12 = .ok (.bipush (-3), 2) := by decide +kernel
theorem dX5_trays_14 : decode cX5_trays 14 = .ok (.ireturn, 1) := by decide +kernel
theorem dX5_trays_15 : decode cX5_trays 15 = .ok (.iconst 0, 1) := by decide +kernel
theorem dX5_trays_16 : decode cX5_trays 16 = .ok (.istore_n 1, 1) := by decide +kernel
theorem dX5_trays_17 : decode cX5_trays 17 = .ok (.iconst 0, 1) := by decide +kernel
theorem dX5_trays_18 : decode cX5_trays 18 = .ok (.istore_n 2, 1) := by decide +kernel
theorem dX5_trays_19 : decode cX5_trays 19 = .ok (.iload_n 2, 1) := by decide +kernel
theorem dX5_trays_20 : decode cX5_trays 20 = .ok (.aload_n 0, 1) := by decide +kernel
theorem dX5_trays_21 : decode cX5_trays 21 = .ok (.getfield 42, 3) := by decide +kernel
theorem dX5_trays_24 : decode cX5_trays 24 = .ok (.if_icmp .ge 126, 3) := by decide +kernel
theorem dX5_trays_27 : decode cX5_trays 27 = .ok (.iconst 0, 1) := by decide +kernel
theorem dX5_trays_28 : decode cX5_trays 28 = .ok (.istore_n 3, 1) := by decide +kernel
theorem dX5_trays_29 : decode cX5_trays 29 = .ok (.iload_n 3, 1) := by decide +kernel
theorem dX5_trays_30 : decode cX5_trays 30 = .ok (.aload_n 0, 1) := by decide +kernel
theorem dX5_trays_31 : decode cX5_trays 31 = .ok (.getfield 17, 3) := by decide +kernel
theorem dX5_trays_34 : decode cX5_trays 34 = .ok (.iload_n 2, 1) := by decide +kernel
theorem dX5_trays_35 : decode cX5_trays 35 = .ok (.iaload, 1) := by decide +kernel
theorem dX5_trays_36 : decode cX5_trays 36 = .ok (.if_icmp .ge 16, 3) := by decide +kernel
theorem dX5_trays_39 : decode cX5_trays 39 = .ok (.aload_n 0, 1) := by decide +kernel
theorem dX5_trays_40 : decode cX5_trays 40 = .ok (.getfield 14, 3) := by decide +kernel
theorem dX5_trays_43 : decode cX5_trays 43 = .ok (.iload_n 3, 1) := by decide +kernel
theorem dX5_trays_44 : decode cX5_trays 44 = .ok (.iconst 0, 1) := by decide +kernel
theorem dX5_trays_45 : decode cX5_trays 45 = .ok (.iastore, 1) := by decide +kernel
theorem dX5_trays_46 : decode cX5_trays 46 = .ok (.iinc 3 1, 3) := by decide +kernel
theorem dX5_trays_49 : decode cX5_trays 49 = .ok (.goto (-20), 3) := by decide +kernel
theorem dX5_trays_52 : decode cX5_trays 52 = .ok (.iconst 0, 1) := by decide +kernel
theorem dX5_trays_53 : decode cX5_trays 53 = .ok (.istore_n 3, 1) := by decide +kernel
theorem dX5_trays_54 : decode cX5_trays 54 = .ok (.iload_n 3, 1) := by decide +kernel
theorem dX5_trays_55 : decode cX5_trays 55 = .ok (.aload_n 0, 1) := by decide +kernel
theorem dX5_trays_56 : decode cX5_trays 56 = .ok (.getfield 63, 3) := by decide +kernel
theorem dX5_trays_59 : decode cX5_trays 59 = .ok (.if_icmp .ge 29, 3) := by decide +kernel
theorem dX5_trays_62 : decode cX5_trays 62 = .ok (.aload_n 0, 1) := by decide +kernel
theorem dX5_trays_63 : decode cX5_trays 63 = .ok (.getfield 14, 3) := by decide +kernel
theorem dX5_trays_66 : decode cX5_trays 66 = .ok (.aload_n 0, 1) := by decide +kernel
theorem dX5_trays_67 : decode cX5_trays 67 = .ok (.aload_n 0, 1) := by decide +kernel
theorem dX5_trays_68 : decode cX5_trays 68 = .ok (.getfield 20, 3) := by decide +kernel
theorem dX5_trays_71 : decode cX5_trays 71 = .ok (.iload_n 3, 1) := by decide +kernel
theorem dX5_trays_72 : decode cX5_trays 72 = .ok (.laload, 1) := by decide +kernel
theorem dX5_trays_73 : decode cX5_trays 73 = .ok (.iload_n 2, 1) := by decide +kernel
theorem dX5_trays_74 : decode cX5_trays 74 = .ok (.invokevirtual 87, 3) := by decide +kernel
theorem dX5_trays_77 : decode cX5_trays 77 = .ok (.dup2, 1) := by decide +kernel
theorem dX5_trays_78 : decode cX5_trays 78 = .ok (.iaload, 1) := by decide +kernel
theorem dX5_trays_79 : decode cX5_trays 79 = .ok (.iconst 1, 1) := by decide +kernel
theorem dX5_trays_80 : decode cX5_trays 80 = .ok (.iadd, 1) := by decide +kernel
theorem dX5_trays_81 : decode cX5_trays 81 = .ok (.iastore, 1) := by decide +kernel
theorem dX5_trays_82 : decode cX5_trays 82 = .ok (.iinc 3 1, 3) := by decide +kernel
theorem dX5_trays_85 : decode cX5_trays 85 = .ok (.goto (-31), 3) := by decide +kernel
theorem dX5_trays_88 : decode cX5_trays 88 = .ok (.iconst 0, 1) := by decide +kernel
theorem dX5_trays_89 : decode cX5_trays 89 = .ok (.istore_n 3, 1) := by decide +kernel
theorem dX5_trays_90 : decode cX5_trays 90 = .ok (.iload_n 3, 1) := by decide +kernel
theorem dX5_trays_91 : decode cX5_trays 91 = .ok (.aload_n 0, 1) := by decide +kernel
theorem dX5_trays_92 : decode cX5_trays 92 = .ok (.getfield 17, 3) := by decide +kernel
theorem dX5_trays_95 : decode cX5_trays 95 = .ok (.iload_n 2, 1) := by decide +kernel
theorem dX5_trays_96 : decode cX5_trays 96 = .ok (.iaload, 1) := by decide +kernel
theorem dX5_trays_97 : decode cX5_trays 97 = .ok (.if_icmp .ge 47, 3) := by decide +kernel
theorem dX5_trays_100 : decode cX5_trays 100 = .ok (.iload_n 1, 1) := by decide +kernel
theorem dX5_trays_101 : decode cX5_trays 101 = .ok (.aload_n 0, 1) := by decide +kernel
theorem dX5_trays_102 : decode cX5_trays 102 = .ok (.getfield 14, 3) := by decide +kernel
theorem dX5_trays_105 : decode cX5_trays 105 = .ok (.iload_n 3, 1) := by decide +kernel
theorem dX5_trays_106 : decode cX5_trays 106 = .ok (.iaload, 1) := by decide +kernel
theorem dX5_trays_107 : decode cX5_trays 107 = .ok (.aload_n 0, 1) := by decide +kernel
theorem dX5_trays_108 : decode cX5_trays 108 = .ok (.getfield 8, 3) := by decide +kernel
theorem dX5_trays_111 : decode cX5_trays 111 = .ok (.iload_n 3, 1) := by decide +kernel
theorem dX5_trays_112 : decode cX5_trays 112 = .ok (.iaload, 1) := by decide +kernel
theorem dX5_trays_113 : decode cX5_trays 113 = .ok (.idiv, 1) := by decide +kernel
theorem dX5_trays_114 : decode cX5_trays 114 = .ok (.iadd, 1) := by decide +kernel
theorem dX5_trays_115 : decode cX5_trays 115 = .ok (.aload_n 0, 1) := by decide +kernel
theorem dX5_trays_116 : decode cX5_trays 116 = .ok (.getfield 14, 3) := by decide +kernel
theorem dX5_trays_119 : decode cX5_trays 119 = .ok (.iload_n 3, 1) := by decide +kernel
theorem dX5_trays_120 : decode cX5_trays 120 = .ok (.iaload, 1) := by decide +kernel
theorem dX5_trays_121 : decode cX5_trays 121 = .ok (.aload_n 0, 1) := by decide +kernel
theorem dX5_trays_122 : decode cX5_trays 122 = .ok (.getfield 8, 3) := by decide +kernel
theorem dX5_trays_125 : decode cX5_trays 125 = .ok (.iload_n 3, 1) := by decide +kernel
theorem dX5_trays_126 : decode cX5_trays 126 = .ok (.iaload, 1) := by decide +kernel
theorem dX5_trays_127 : decode cX5_trays 127 = .ok (.irem, 1) := by decide +kernel
theorem dX5_trays_128 : decode cX5_trays 128 = .ok (.ifCond .le 7, 3) := by decide +kernel
theorem dX5_trays_131 : decode cX5_trays 131 = .ok (.iconst 1, 1) := by decide +kernel
theorem dX5_trays_132 : decode cX5_trays 132 = .ok (.goto 4, 3) := by decide +kernel
theorem dX5_trays_135 : decode cX5_trays 135 = .ok (.iconst 0, 1) := by decide +kernel
theorem dX5_trays_136 : decode cX5_trays 136 = .ok (.iadd, 1) := by decide +kernel
theorem dX5_trays_137 : decode cX5_trays 137 = .ok (.istore_n 1, 1) := by decide +kernel
theorem dX5_trays_138 : decode cX5_trays 138 = .ok (.iinc 3 1, 3) := by decide +kernel
theorem dX5_trays_141 : decode cX5_trays 141 = .ok (.goto (-51), 3) := by decide +kernel
theorem dX5_trays_144 : decode cX5_trays 144 = .ok (.iinc 2 1, 3) := by decide +kernel
theorem dX5_trays_147 : decode cX5_trays 147 = .ok (.goto (-128), 3) := by decide +kernel
theorem dX5_trays_150 : decode cX5_trays 150 = .ok (.iload_n 1, 1) := by decide +kernel
theorem dX5_trays_151 : decode cX5_trays 151 = .ok (.ireturn, 1) := by decide +kernel
set_option maxRecDepth 20000 in
theorem ggX5_sort_X5_isItem : GoodIn wsX5_sort wsX5_isItem := goodIn_r _ [10, 2, 4, 20, 21, 22, 23, 24, 25, 26, 27, 28, 29, 30] (by decide +kernel) (by decide +kernel)
set_option maxRecDepth 20000 in
theorem gX5_sort_X5_isItem : GoodIn wsX5_sort (wsV RX5 90 RX5 yX5_isItem wsX5_isItem) := goodIn_app (goodIn_of _ (by decide +kernel)) ggX5_sort_X5_isItem
set_option maxRecDepth 20000 in
theorem ggX5_sort_X5_isPass : GoodIn wsX5_sort wsX5_isPass := goodIn_r _ [14, 2, 15, 20, 21, 22, 23, 24, 25, 26, 27, 28, 29, 30] (by decide +kernel) (by decide +kernel)
set_option maxRecDepth 20000 in
theorem gX5_sort_X5_isPass : GoodIn wsX5_sort (wsV RX5 76 RX5 yX5_isPass wsX5_isPass) := goodIn_app (goodIn_of _ (by decide +kernel)) ggX5_sort_X5_isPass
set_option maxRecDepth 20000 in
theorem ggX5_sort_X5_product : GoodIn wsX5_sort wsX5_product := goodIn_r _ [18, 19] (by decide +kernel) (by decide +kernel)
set_option maxRecDepth 20000 in
theorem gX5_sort_X5_product : GoodIn wsX5_sort (va_wsS RX5 36 yX5_product wsX5_product) := goodIn_app (goodIn_of _ (by decide +kernel)) ggX5_sort_X5_product
theorem dX5_sort_0 : decode cX5_sort 0 = .ok (.aload_n 0, 1) := by decide +kernel
theorem dX5_sort_1 : decode cX5_sort 1 = .ok (.iconst 0, 1) := by decide +kernel
theorem dX5_sort_2 : decode cX5_sort 2 = .ok (.putfield 31, 3) := by decide +kernel
theorem dX5_sort_5 : decode cX5_sort 5 = .ok (.aload_n 0, 1) := by decide +kernel
theorem dX5_sort_6 : decode cX5_sort 6 = .ok (.iload_n 1, 1) := by decide +kernel
theorem dX5_sort_7 : decode cX5_sort 7 = .ok (.invokevirtual 90, 3) := by decide +kernel
theorem dX5_sort_10 : decode cX5_sort 10 = .ok (.ifCond .eq 11, 3) := by decide +kernel
theorem dX5_sort_13 : decode cX5_sort 13 = .ok (.aload_n 0, 1) := by decide +kernel
theorem dX5_sort_14 : decode cX5_sort 14 = .ok (.iload_n 2, 1) := by decide +kernel
theorem dX5_sort_15 : decode cX5_sort 15 = .ok (.invokevirtual 76, 3) := by decide +kernel
theorem dX5_sort_18 : decode cX5_sort 18 = .ok (.ifCond .ne 5, 3) := by decide +kernel
theorem dX5_sort_21 : decode cX5_sort 21 = .ok (.iconst (-1), 1) := by decide +kernel
theorem dX5_sort_22 : decode cX5_sort 22 = .ok (.ireturn, 1) := by decide +kernel
theorem dX5_sort_23 : decode cX5_sort 23 = .ok (.aload_n 0, 1) := by decide +kernel
theorem dX5_sort_24 : decode cX5_sort 24 = .ok (.getfield 59, 3) := by decide +kernel
theorem dX5_sort_27 : decode cX5_sort 27 = .ok (.ifCond .ne 6, 3) := by decide +kernel
theorem dX5_sort_30 : decode cX5_sort 30 = .ok (.bipush (-3), 2) := by decide +kernel
theorem dX5_sort_32 : decode cX5_sort 32 = .ok (.ireturn, 1) := by decide +kernel
theorem dX5_sort_33 : decode cX5_sort 33 = .ok (.lconst 1, 1) := by decide +kernel
theorem dX5_sort_34 : decode cX5_sort 34 = .ok (.lstore_n 3, 1) := by decide +kernel
theorem dX5_sort_35 : decode cX5_sort 35 = .ok (.iconst 0, 1) := by decide +kernel
theorem dX5_sort_36 : decode cX5_sort 36 = .ok (.istore 5, 2) := by decide +kernel
theorem dX5_sort_38 : decode cX5_sort 38 = .ok (.iload 5, 2) := by decide +kernel
theorem dX5_sort_40 : decode cX5_sort 40 = .ok (.iload_n 2, 1) := by decide +kernel
theorem dX5_sort_41 : decode cX5_sort 41 = .ok (.if_icmp .gt 22, 3) := by decide +kernel
theorem dX5_sort_44 : decode cX5_sort 44 = .ok (.lload_n 3, 1) := by decide +kernel
theorem dX5_sort_45 : decode cX5_sort 45 = .ok (.aload_n 0, 1) := by decide +kernel
theorem dX5_sort_46 : decode cX5_sort 46 = .ok (.getfield 17, 3) := by decide +kernel
theorem dX5_sort_49 : decode cX5_sort 49 = .ok (.iload 5, 2) := by decide +kernel
theorem dX5_sort_51 : decode cX5_sort 51 = .ok (.iaload, 1) := by decide +kernel
theorem dX5_sort_52 : decode cX5_sort 52 = .ok (.i2l, 1) := by decide +kernel
theorem dX5_sort_53 : decode cX5_sort 53 = .ok (.invokestatic 36, 3) := by decide +kernel
theorem dX5_sort_56 : decode cX5_sort 56 = .ok (.lstore_n 3, 1) := by decide +kernel
theorem dX5_sort_57 : decode cX5_sort 57 = .ok (.iinc 5 1, 3) := by decide +kernel
theorem dX5_sort_60 : decode cX5_sort 60 = .ok (.goto (-22), 3) := by decide +kernel
theorem dX5_sort_63 : decode cX5_sort 63 = .ok (.iconst 0, 1) := by decide +kernel
theorem dX5_sort_64 : decode cX5_sort 64 = .ok (.istore 5, 2) := by decide +kernel
theorem dX5_sort_66 : decode cX5_sort 66 = .ok (.iconst 0, 1) := by decide +kernel
theorem dX5_sort_67 : decode cX5_sort 67 = .ok (.istore 6, 2) := by decide +kernel
theorem dX5_sort_69 : decode cX5_sort 69 = .ok (.iload 6, 2) := by decide +kernel
theorem dX5_sort_71 : decode cX5_sort 71 = .ok (.aload_n 0, 1) := by decide +kernel
theorem dX5_sort_72 : decode cX5_sort 72 = .ok (.getfield 63, 3) := by decide +kernel
theorem dX5_sort_75 : decode cX5_sort 75 = .ok (.if_icmp .ge 63, 3) := by decide +kernel
theorem dX5_sort_78 : decode cX5_sort 78 = .ok (.aload_n 0, 1) := by decide +kernel
theorem dX5_sort_79 : decode cX5_sort 79 = .ok (.getfield 20, 3) := by decide +kernel
theorem dX5_sort_82 : decode cX5_sort 82 = .ok (.iload 6, 2) := by decide +kernel
theorem dX5_sort_84 : decode cX5_sort 84 = .ok (.laload, 1) := by decide +kernel
theorem dX5_sort_85 : decode cX5_sort 85 = .ok (.lload_n 3, 1) := by decide +kernel
theorem dX5_sort_86 : decode cX5_sort 86 = .ok (.lrem, 1) := by decide +kernel
theorem dX5_sort_87 : decode cX5_sort 87 = .ok (.lstore 7, 2) := by decide +kernel
theorem dX5_sort_89 : decode cX5_sort 89 = .ok (.aload_n 0, 1) := by decide +kernel
theorem dX5_sort_90 : decode cX5_sort 90 = .ok (.getfield 20, 3) := by decide +kernel
theorem dX5_sort_93 : decode cX5_sort 93 = .ok (.iload_n 1, 1) := by decide +kernel
theorem dX5_sort_94 : decode cX5_sort 94 = .ok (.laload, 1) := by decide +kernel
theorem dX5_sort_95 : decode cX5_sort 95 = .ok (.lload_n 3, 1) := by decide +kernel
theorem dX5_sort_96 : decode cX5_sort 96 = .ok (.lrem, 1) := by decide +kernel
theorem dX5_sort_97 : decode cX5_sort 97 = .ok (.lstore 9, 2) := by decide +kernel
theorem dX5_sort_99 : decode cX5_sort 99 = .ok (.lload 7, 2) := by decide +kernel
theorem dX5_sort_101 : decode cX5_sort 101 = .ok (.lload 9, 2) := by decide +kernel
theorem dX5_sort_103 : decode cX5_sort 103 = .ok (.lcmp, 1) := by decide +kernel
theorem dX5_sort_104 : decode cX5_sort 104 = .ok (.ifCond .lt 17, 3) := by decide +kernel
theorem dX5_sort_107 : decode cX5_sort 107 = .ok (.lload 7, 2) := by decide +kernel
theorem dX5_sort_109 : decode cX5_sort 109 = .ok (.lload 9, 2) := by decide +kernel
theorem dX5_sort_111 : decode cX5_sort 111 = .ok (.lcmp, 1) := by decide +kernel
theorem dX5_sort_112 : decode cX5_sort 112 = .ok (.ifCond .ne 16, 3) := by decide +kernel
theorem dX5_sort_115 : decode cX5_sort 115 = .ok (.iload 6, 2) := by decide +kernel
theorem dX5_sort_117 : decode cX5_sort 117 = .ok (.iload_n 1, 1) := by decide +kernel
theorem dX5_sort_118 : decode cX5_sort 118 = .ok (.if_icmp .ge 10, 3) := by decide +kernel
theorem dX5_sort_121 : decode cX5_sort 121 = .ok (.iload 5, 2) := by decide +kernel
theorem dX5_sort_123 : decode cX5_sort 123 = .ok (.iconst 1, 1) := by decide +kernel
theorem dX5_sort_124 : decode cX5_sort 124 = .ok (.iadd, 1) := by decide +kernel
theorem dX5_sort_125 : decode cX5_sort 125 = .ok (.goto 5, 3) := by decide +kernel
theorem dX5_sort_128 : decode cX5_sort 128 = .ok (.iload 5, 2) := by decide +kernel
theorem dX5_sort_130 : decode cX5_sort 130 = .ok (.istore 5, 2) := by decide +kernel
theorem dX5_sort_132 : decode cX5_sort 132 = .ok (.iinc 6 1, 3) := by decide +kernel
theorem dX5_sort_135 : decode cX5_sort 135 = .ok (.goto (-66), 3) := by decide +kernel
theorem dX5_sort_138 : decode cX5_sort 138 = .ok (.iload 5, 2) := by decide +kernel
theorem dX5_sort_140 : decode cX5_sort 140 = .ok (.ireturn, 1) := by decide +kernel
set_option maxRecDepth 20000 in
theorem ggX5_order_X5_isItem : GoodIn wsX5_order wsX5_isItem := goodIn_r _ [9, 2, 10, 11, 12, 13, 14, 15, 16, 17, 18, 19, 20, 21] (by decide +kernel) (by decide +kernel)
set_option maxRecDepth 20000 in
theorem gX5_order_X5_isItem : GoodIn wsX5_order (wsV RX5 90 RX5 yX5_isItem wsX5_isItem) := goodIn_app (goodIn_of _ (by decide +kernel)) ggX5_order_X5_isItem
theorem dX5_order_0 : decode cX5_order 0 = .ok (.aload_n 0, 1) := by decide +kernel
theorem dX5_order_1 : decode cX5_order 1 = .ok (.iconst 0, 1) := by decide +kernel
theorem dX5_order_2 : decode cX5_order 2 = .ok (.putfield 31, 3) := by decide +kernel
theorem dX5_order_5 : decode cX5_order 5 = .ok (.aload_n 0, 1) := by decide +kernel
theorem dX5_order_6 : decode cX5_order 6 = .ok (.iload_n 1, 1) := by decide +kernel
theorem dX5_order_7 : decode cX5_order 7 = .ok (.invokevirtual 90, 3) := by decide +kernel
theorem dX5_order_10 : decode cX5_order 10 = .ok (.ifCond .ne 5, 3) := by decide +kernel
theorem dX5_order_13 : decode cX5_order 13 = .ok (.iconst (-1), 1) := by decide +kernel
theorem dX5_order_14 : decode cX5_order 14 = .ok (.ireturn, 1) := by decide +kernel
theorem dX5_order_15 : decode cX5_order 15 = .ok (.aload_n 0, 1) := by decide +kernel
theorem dX5_order_16 : decode cX5_order 16 = .ok (.getfield 59, 3) := by decide +kernel
theorem dX5_order_19 : decode cX5_order 19 = .ok (.ifCond .eq 23, 3) := by decide +kernel
theorem dX5_order_22 : decode cX5_order 22 = .ok (.aload_n 0, 1) := by decide +kernel
theorem dX5_order_23 : decode cX5_order 23 = .ok (.getfield 42, 3) := by decide +kernel
theorem dX5_order_26 : decode cX5_order 26 = .ok (.ifCond .ne 7, 3) := by decide +kernel
theorem dX5_order_29 : decode cX5_order 29 = .ok (.iload_n 1, 1) := by decide +kernel
theorem dX5_order_30 : decode cX5_order 30 = .ok (.goto 14, 3) := by decide +kernel
theorem dX5_order_33 : decode cX5_order 33 = .ok (.aload_n 0, 1) := by decide +kernel
theorem dX5_order_34 : decode cX5_order 34 = .ok (.getfield 24, 3) := by decide +kernel
theorem dX5_order_37 : decode cX5_order 37 = .ok (.iload_n 1, 1) := by decide +kernel
theorem dX5_order_38 : decode cX5_order 38 = .ok (.iaload, 1) := by decide +kernel
theorem dX5_order_39 : decode cX5_order 39 = .ok (.goto 5, 3) := by decide +kernel
theorem dX5_order_42 : decode cX5_order 42 = .ok (.bipush (-3), 2) := by decide +kernel
theorem dX5_order_44 : decode cX5_order 44 = .ok (.ireturn, 1) := by decide +kernel
theorem dX5_digits_0 : decode cX5_digits 0 = .ok (.aload_n 0, 1) := by decide +kernel
theorem dX5_digits_1 : decode cX5_digits 1 = .ok (.aload_n 0, 1) := by decide +kernel
theorem dX5_digits_2 : decode cX5_digits 2 = .ok (.getfield 59, 3) := by decide +kernel
theorem dX5_digits_5 : decode cX5_digits 5 = .ok (.ifCond .eq 15, 3) := by decide +kernel
theorem dX5_digits_8 : decode cX5_digits 8 = .ok (.iload_n 1, 1) := by decide +kernel
theorem dX5_digits_9 : decode cX5_digits 9 = .ok (.ifCond .lt 11, 3) := by decide +kernel
theorem dX5_digits_12 : decode cX5_digits 12 = .ok (.iload_n 1, 1) := by decide +kernel
theorem dX5_digits_13 : decode cX5_digits 13 = .ok (.aload_n 0, 1) := by decide +kernel
theorem dX5_digits_14 : decode cX5_digits 14 = .ok (.getfield 42, 3) := by decide +kernel
theorem dX5_digits_17 : decode cX5_digits 17 = .ok (.if_icmp .lt 7, 3) := by decide +kernel
theorem dX5_digits_20 : decode cX5_digits 20 = .ok (.iconst 1, 1) := by decide +kernel
theorem dX5_digits_21 : decode cX5_digits 21 = .ok (.goto 4, 3) := by decide +kernel
theorem dX5_digits_24 : decode cX5_digits 24 = .ok (.iconst 0, 1) := by decide +kernel
theorem dX5_digits_25 : decode cX5_digits 25 = .ok (.putfield 31, 3) := by decide +kernel
theorem dX5_digits_28 : decode cX5_digits 28 = .ok (.aload_n 0, 1) := by decide +kernel
theorem dX5_digits_29 : decode cX5_digits 29 = .ok (.getfield 31, 3) := by decide +kernel
theorem dX5_digits_32 : decode cX5_digits 32 = .ok (.ifCond .le 7, 3) := by decide +kernel
theorem dX5_digits_35 : decode cX5_digits 35 = .ok (.iconst 0, 1) := by decide +kernel
theorem dX5_digits_36 : decode cX5_digits 36 = .ok (.goto 9, 3) := by decide +kernel
theorem dX5_digits_39 : decode cX5_digits 39 = .ok (.aload_n 0, 1) := by decide +kernel
theorem dX5_digits_40 : decode cX5_digits 40 = .ok (.getfield 17, 3) := by decide +kernel
theorem dX5_digits_43 : decode cX5_digits 43 = .ok (.iload_n 1, 1) := by decide +kernel
theorem dX5_digits_44 : decode cX5_digits 44 = .ok (.iaload, 1) := by decide +kernel
theorem dX5_digits_45 : decode cX5_digits 45 = .ok (.ireturn, 1) := by decide +kernel
set_option maxRecDepth 20000 in
theorem ggX5_least_X5_isCount : GoodIn wsX5_least wsX5_isCount := goodIn_r _ [6, 7] (by decide +kernel) (by decide +kernel)
set_option maxRecDepth 20000 in
theorem gX5_least_X5_isCount : GoodIn wsX5_least (va_wsS RX5 55 yX5_isCount wsX5_isCount) := goodIn_app (goodIn_of _ (by decide +kernel)) ggX5_least_X5_isCount
set_option maxRecDepth 20000 in
theorem ggX5_least_X5_fewest : GoodIn wsX5_least wsX5_fewest := goodIn_r _ [10, 11, 12, 5, 13, 7] (by decide +kernel) (by decide +kernel)
set_option maxRecDepth 20000 in
theorem gX5_least_X5_fewest : GoodIn wsX5_least (va_wsS RX5 66 yX5_fewest wsX5_fewest) := goodIn_app (goodIn_of _ (by decide +kernel)) ggX5_least_X5_fewest
theorem dX5_least_0 : decode cX5_least 0 = .ok (.aload_n 0, 1) := by decide +kernel
theorem dX5_least_1 : decode cX5_least 1 = .ok (.iconst 0, 1) := by decide +kernel
theorem dX5_least_2 : decode cX5_least 2 = .ok (.putfield 31, 3) := by decide +kernel
theorem dX5_least_5 : decode cX5_least 5 = .ok (.aload_n 0, 1) := by decide +kernel
theorem dX5_least_6 : decode cX5_least 6 = .ok (.getfield 27, 3) := by decide +kernel
theorem dX5_least_9 : decode cX5_least 9 = .ok (.iconst 1, 1) := by decide +kernel
theorem dX5_least_10 : decode cX5_least 10 = .ok (.if_icmp .le 26, 3) := by decide +kernel
theorem dX5_least_13 : decode cX5_least 13 = .ok (.lload_n 1, 1) := by decide +kernel
theorem dX5_least_14 : decode cX5_least 14 = .ok (.invokestatic 55, 3) := by decide +kernel
theorem dX5_least_17 : decode cX5_least 17 = .ok (.ifCond .eq 19, 3) := by decide +kernel
theorem dX5_least_20 : decode cX5_least 20 = .ok (.lload_n 1, 1) := by decide +kernel
theorem dX5_least_21 : decode cX5_least 21 = .ok (.aload_n 0, 1) := by decide +kernel
theorem dX5_least_22 : decode cX5_least 22 = .ok (.getfield 27, 3) := by decide +kernel
theorem dX5_least_25 : decode cX5_least 25 = .ok (.invokestatic 66, 3) := by decide +kernel
theorem dX5_least_28 : decode cX5_least 28 = .ok (.iload_n 3, 1) := by decide +kernel
theorem dX5_least_29 : decode cX5_least 29 = .ok (.if_icmp .ne 7, 3) := by decide +kernel
theorem dX5_least_32 : decode cX5_least 32 = .ok (.iconst 1, 1) := by decide +kernel
theorem dX5_least_33 : decode cX5_least 33 = .ok (.goto 4, 3) := by decide +kernel
theorem dX5_least_36 : decode cX5_least 36 = .ok (.iconst 0, 1) := by decide +kernel
theorem dX5_least_37 : decode cX5_least 37 = .ok (.ireturn, 1) := by decide +kernel
theorem dJx00060_init_a7421_0 : decode cJx00060_init_a7421 0 = .ok (.aload_n 0, 1) := by decide +kernel
theorem dJx00060_init_a7421_1 : decode cJx00060_init_a7421 1 = .ok (.aload_n 1, 1) := by decide +kernel
theorem dJx00060_init_a7421_2 : decode cJx00060_init_a7421 2 = .ok (.invokespecial 7, 3) := by decide +kernel
theorem dJx00060_init_a7421_5 : decode cJx00060_init_a7421 5 = .ok (.return_, 1) := by decide +kernel
theorem dJ9_max_7cf53_0 : decode cJ9_max_7cf53 0 = .ok (.iload_n 0, 1) := by decide +kernel
theorem dJ9_max_7cf53_1 : decode cJ9_max_7cf53 1 = .ok (.iload_n 1, 1) := by decide +kernel
theorem dJ9_max_7cf53_2 : decode cJ9_max_7cf53 2 = .ok (.if_icmp .lt 7, 3) := by decide +kernel
theorem dJ9_max_7cf53_5 : decode cJ9_max_7cf53 5 = .ok (.iload_n 0, 1) := by decide +kernel
theorem dJ9_max_7cf53_6 : decode cJ9_max_7cf53 6 = .ok (.goto 4, 3) := by decide +kernel
theorem dJ9_max_7cf53_9 : decode cJ9_max_7cf53 9 = .ok (.iload_n 1, 1) := by decide +kernel
theorem dJ9_max_7cf53_10 : decode cJ9_max_7cf53 10 = .ok (.ireturn, 1) := by decide +kernel
theorem dJ9_min_7cf53_0 : decode cJ9_min_7cf53 0 = .ok (.iload_n 0, 1) := by decide +kernel
theorem dJ9_min_7cf53_1 : decode cJ9_min_7cf53 1 = .ok (.iload_n 1, 1) := by decide +kernel
theorem dJ9_min_7cf53_2 : decode cJ9_min_7cf53 2 = .ok (.if_icmp .gt 7, 3) := by decide +kernel
theorem dJ9_min_7cf53_5 : decode cJ9_min_7cf53 5 = .ok (.iload_n 0, 1) := by decide +kernel
theorem dJ9_min_7cf53_6 : decode cJ9_min_7cf53 6 = .ok (.goto 4, 3) := by decide +kernel
theorem dJ9_min_7cf53_9 : decode cJ9_min_7cf53 9 = .ok (.iload_n 1, 1) := by decide +kernel
theorem dJ9_min_7cf53_10 : decode cJ9_min_7cf53 10 = .ok (.ireturn, 1) := by decide +kernel
theorem dL_cell_0 : decode cL_cell 0 = .ok (.iload_n 1, 1) := by decide +kernel
theorem dL_cell_1 : decode cL_cell 1 = .ok (.aload_n 0, 1) := by decide +kernel
theorem dL_cell_2 : decode cL_cell 2 = .ok (.arraylength, 1) := by decide +kernel
theorem dL_cell_3 : decode cL_cell 3 = .ok (.if_icmp .ge 9, 3) := by decide +kernel
theorem dL_cell_6 : decode cL_cell 6 = .ok (.aload_n 0, 1) := by decide +kernel
theorem dL_cell_7 : decode cL_cell 7 = .ok (.iload_n 1, 1) := by decide +kernel
theorem dL_cell_8 : decode cL_cell 8 = .ok (.iaload, 1) := by decide +kernel
theorem dL_cell_9 : decode cL_cell 9 = .ok (.goto 4, 3) := by decide +kernel
theorem dL_cell_12 : decode cL_cell 12 = .ok (.iconst 0, 1) := by decide +kernel
theorem dL_cell_13 : decode cL_cell 13 = .ok (.ireturn, 1) := by decide +kernel
set_option maxRecDepth 20000 in
theorem ggL_passes_X4_passes : GoodIn wsL_passes wsX4_passes := goodIn_ca (goodIn_r _ [6, 7, 8, 9, 10, 11, 12, 13, 5, 14, 15, 16, 17, 18, 19, 20, 21, 22, 23, 24, 25, 26, 27, 28, 29, 30, 31, 32, 33, 34, 35, 36, 37, 38, 39, 40, 41, 42, 43, 44, 45, 46, 47, 48, 49, 50, 51, 52, 53, 54, 55, 56, 57, 58, 59, 60, 61, 62, 63, 64, 65, 66, 67, 68, 69, 70, 71, 72, 73, 74, 75, 76, 77, 78, 79, 80, 81, 82, 83, 84, 85, 86, 87, 88, 89, 90, 91, 92, 93, 94] (by decide +kernel) (by decide +kernel)) (goodIn_sub (fun _ h => List.mem_cons_of_mem _ (List.mem_append_right _ h)) (by decide +kernel))
set_option maxRecDepth 20000 in
theorem gL_passes_X4_passes : GoodIn wsL_passes (wsV RL 7 RX4 yX4_passes wsX4_passes) := goodIn_app (goodIn_of _ (by decide +kernel)) ggL_passes_X4_passes
theorem dL_passes_0 : decode cL_passes 0 = .ok (.aload_n 3, 1) := by decide +kernel
theorem dL_passes_1 : decode cL_passes 1 = .ok (.iconst 0, 1) := by decide +kernel
theorem dL_passes_2 : decode cL_passes 2 = .ok (.aload_n 0, 1) := by decide +kernel
theorem dL_passes_3 : decode cL_passes 3 = .ok (.lload_n 1, 1) := by decide +kernel
theorem dL_passes_4 : decode cL_passes 4 = .ok (.invokevirtual 7, 3) := by decide +kernel
theorem dL_passes_7 : decode cL_passes 7 = .ok (.i2l, 1) := by decide +kernel
theorem dL_passes_8 : decode cL_passes 8 = .ok (.lastore, 1) := by decide +kernel
theorem dL_passes_9 : decode cL_passes 9 = .ok (.goto 7, 3) := by decide +kernel
theorem dL_passes_12 : decode cL_passes 12 = .ok (.astore 4, 2) := by decide +kernel
theorem dL_passes_14 : decode cL_passes 14 = .ok (.iconst 1, 1) := by decide +kernel
theorem dL_passes_15 : decode cL_passes 15 = .ok (.ireturn, 1) := by decide +kernel
theorem dL_passes_16 : decode cL_passes 16 = .ok (.iconst 0, 1) := by decide +kernel
theorem dL_passes_17 : decode cL_passes 17 = .ok (.ireturn, 1) := by decide +kernel
set_option maxRecDepth 20000 in
theorem ggL_digits_X4_digits : GoodIn wsL_digits wsX4_digits := goodIn_r _ [5, 6, 7, 8, 9, 10, 11, 12, 13, 14, 15, 16, 17, 18, 19, 20, 21, 22, 23, 24, 25, 26, 27, 28, 29, 30, 31, 32, 33, 34, 35, 36, 37] (by decide +kernel) (by decide +kernel)
set_option maxRecDepth 20000 in
theorem gL_digits_X4_digits : GoodIn wsL_digits (wsV RL 15 RX4 yX4_digits wsX4_digits) := goodIn_app (goodIn_of _ (by decide +kernel)) ggL_digits_X4_digits
theorem dL_digits_0 : decode cL_digits 0 = .ok (.aload_n 2, 1) := by decide +kernel
theorem dL_digits_1 : decode cL_digits 1 = .ok (.iconst 0, 1) := by decide +kernel
theorem dL_digits_2 : decode cL_digits 2 = .ok (.aload_n 0, 1) := by decide +kernel
theorem dL_digits_3 : decode cL_digits 3 = .ok (.iload_n 1, 1) := by decide +kernel
theorem dL_digits_4 : decode cL_digits 4 = .ok (.invokevirtual 15, 3) := by decide +kernel
theorem dL_digits_7 : decode cL_digits 7 = .ok (.i2l, 1) := by decide +kernel
theorem dL_digits_8 : decode cL_digits 8 = .ok (.lastore, 1) := by decide +kernel
theorem dL_digits_9 : decode cL_digits 9 = .ok (.goto 6, 3) := by decide +kernel
theorem dL_digits_12 : decode cL_digits 12 = .ok (.astore_n 3, 1) := by decide +kernel
theorem dL_digits_13 : decode cL_digits 13 = .ok (.iconst 1, 1) := by decide +kernel
theorem dL_digits_14 : decode cL_digits 14 = .ok (.ireturn, 1) := by decide +kernel
theorem dL_digits_15 : decode cL_digits 15 = .ok (.iconst 0, 1) := by decide +kernel
theorem dL_digits_16 : decode cL_digits 16 = .ok (.ireturn, 1) := by decide +kernel
set_option maxRecDepth 20000 in
theorem ggL_law_L_cell : GoodIn wsL_law wsL_cell := goodIn_r _ [11] (by decide +kernel) (by decide +kernel)
set_option maxRecDepth 20000 in
theorem gL_law_L_cell : GoodIn wsL_law (va_wsS RL 21 yL_cell wsL_cell) := goodIn_app (goodIn_of _ (by decide +kernel)) ggL_law_L_cell
end
section
set_option maxRecDepth 20000 in
theorem ggL_law_X4_init : GoodIn wsL_law wsX4_init := goodIn_r _ [14, 15, 16, 17, 18, 19, 20, 21, 22, 23, 24, 25, 26, 27, 28, 29, 30, 31, 32, 33, 34, 35, 36, 37, 38, 39, 40, 41, 42, 43, 44, 45, 6, 46, 47, 48, 49, 50, 51, 52, 53, 54, 55, 56, 57, 58, 59, 60, 398, 399, 400, 401, 402, 414, 415, 416, 417, 418, 419, 420, 421, 422, 423, 424, 425, 426, 427, 428] (by decide +kernel) (by decide +kernel)
set_option maxRecDepth 20000 in
theorem gL_law_X4_init : GoodIn wsL_law (wsX4_init) := ggL_law_X4_init
set_option maxRecDepth 20000 in
theorem ggL_law_X5_init : GoodIn wsL_law wsX5_init := goodIn_r _ [63, 64, 16, 17, 65, 44, 66, 67, 68, 6, 69, 70, 71, 403, 404, 405, 406, 407, 408, 409, 410, 411, 412, 413] (by decide +kernel) (by decide +kernel)
set_option maxRecDepth 20000 in
theorem gL_law_X5_init : GoodIn wsL_law (wsX5_init) := ggL_law_X5_init
set_option maxRecDepth 20000 in
theorem ggL_law_L_passes : GoodIn wsL_law wsL_passes := goodIn_ca (goodIn_r _ [74, 75, 76, 77, 78, 2, 79, 80, 81, 26, 30, 34, 82, 83, 84, 85, 86, 87, 88, 29, 89, 90, 47, 91, 46, 45, 92, 93, 94, 95, 96, 97, 98, 99, 100, 101, 102, 103, 104, 105, 106, 107, 24, 21, 25, 108, 109, 110, 111, 112, 113, 114, 115, 116, 117, 118, 119, 120, 121, 122, 123, 124, 125, 126, 127, 128, 129, 130, 131, 132, 133, 33, 134, 135, 136, 137, 138, 139, 140, 398, 399, 400, 401, 402, 414, 415, 416, 417, 418, 419, 420, 421, 422, 423, 424] (by decide +kernel) (by decide +kernel)) (goodIn_sub (fun _ h => List.mem_append_right _ h) (by decide +kernel))
set_option maxRecDepth 20000 in
theorem gL_law_L_passes : GoodIn wsL_law (va_wsS RL 35 yL_passes wsL_passes) := goodIn_app (goodIn_of _ (by decide +kernel)) ggL_law_L_passes
set_option maxRecDepth 20000 in
theorem ggL_law_X5_passes : GoodIn wsL_law wsX5_passes := goodIn_r _ [144, 71, 145, 146, 147, 148, 149, 150, 151, 5, 152, 153, 154, 155, 156, 157, 158, 159, 160, 161, 162, 163, 164, 165, 68, 166, 167, 168, 403, 404, 405, 406, 407, 408, 409, 410, 411, 412, 413] (by decide +kernel) (by decide +kernel)
set_option maxRecDepth 20000 in
theorem gL_law_X5_passes : GoodIn wsL_law (wsV RL 38 RX5 yX5_passes wsX5_passes) := goodIn_app (goodIn_of _ (by decide +kernel)) ggL_law_X5_passes
set_option maxRecDepth 20000 in
theorem ggL_law_X5_thrown : GoodIn wsL_law wsX5_thrown := goodIn_r _ [172, 145, 403, 404, 405, 406, 407, 408, 409, 410, 411, 412, 413] (by decide +kernel) (by decide +kernel)
set_option maxRecDepth 20000 in
theorem gL_law_X5_thrown : GoodIn wsL_law (wsV RL 39 RX5 yX5_thrown wsX5_thrown) := goodIn_app (goodIn_of _ (by decide +kernel)) ggL_law_X5_thrown
set_option maxRecDepth 20000 in
theorem ggL_law_X4_digit : GoodIn wsL_law wsX4_digit := goodIn_r _ [176, 30, 177, 178, 179, 2, 180, 181, 182, 183, 29, 184, 90, 185, 186, 187, 188, 189, 190, 191, 192, 193, 194, 195, 196, 91, 197, 198, 199, 200, 46, 45, 201, 125, 101, 94, 102, 202, 119, 120, 398, 399, 400, 401, 402, 414, 415, 416, 417, 418] (by decide +kernel) (by decide +kernel)
set_option maxRecDepth 20000 in
theorem gL_law_X4_digit : GoodIn wsL_law (wsV RL 43 RX4 yX4_digit wsX4_digit) := goodIn_app (goodIn_of _ (by decide +kernel)) ggL_law_X4_digit
set_option maxRecDepth 20000 in
theorem ggL_law_X5_digit : GoodIn wsL_law wsX5_digit := goodIn_r _ [206, 145, 146, 68, 207, 208, 209, 5, 210, 147, 211, 212, 213, 214, 149, 403, 404, 405, 406, 407, 408, 409, 410, 411, 412, 413] (by decide +kernel) (by decide +kernel)
set_option maxRecDepth 20000 in
theorem gL_law_X5_digit : GoodIn wsL_law (wsV RL 47 RX5 yX5_digit wsX5_digit) := goodIn_app (goodIn_of _ (by decide +kernel)) ggL_law_X5_digit
set_option maxRecDepth 20000 in
theorem ggL_law_X4_best : GoodIn wsL_law wsX4_best := goodIn_r _ [218, 219, 82, 83, 2, 84, 85, 220, 109, 94, 110, 111, 112, 113, 114, 96, 97, 98, 99, 100, 101, 102] (by decide +kernel) (by decide +kernel)
set_option maxRecDepth 20000 in
theorem gL_law_X4_best : GoodIn wsL_law (wsV RL 48 RX4 yX4_best wsX4_best) := goodIn_app (goodIn_of _ (by decide +kernel)) ggL_law_X4_best
set_option maxRecDepth 20000 in
theorem ggL_law_X5_best : GoodIn wsL_law wsX5_best := goodIn_r _ [224, 145, 225, 150, 151, 5, 152, 153, 226, 227, 228, 157, 158, 159, 403, 404, 405, 406, 407, 408, 409, 410, 411, 412, 413] (by decide +kernel) (by decide +kernel)
set_option maxRecDepth 20000 in
theorem gL_law_X5_best : GoodIn wsL_law (wsV RL 51 RX5 yX5_best wsX5_best) := goodIn_app (goodIn_of _ (by decide +kernel)) ggL_law_X5_best
set_option maxRecDepth 20000 in
theorem ggL_law_X4_volume : GoodIn wsL_law wsX4_volume := goodIn_r _ [232, 30, 34, 177, 178, 179, 2, 180, 181, 182, 183, 29, 184, 90, 185, 186, 187, 188, 233, 234, 235, 33, 236, 136, 135, 237, 238, 239, 240, 51, 52, 53, 241, 242, 243, 244, 245, 54, 246, 247, 248, 249, 398, 399, 400, 401, 402, 414, 415, 416, 417, 418, 419, 420, 421, 422, 423, 424] (by decide +kernel) (by decide +kernel)
set_option maxRecDepth 20000 in
theorem gL_law_X4_volume : GoodIn wsL_law (wsV RL 52 RX4 yX4_volume wsX4_volume) := goodIn_app (goodIn_of _ (by decide +kernel)) ggL_law_X4_volume
set_option maxRecDepth 20000 in
theorem ggL_law_X5_volume : GoodIn wsL_law wsX5_volume := goodIn_r _ [253, 145, 146, 148, 69, 70, 207, 208, 209, 5, 210, 147, 403, 404, 405, 406, 407, 408, 409, 410, 411, 412, 413] (by decide +kernel) (by decide +kernel)
set_option maxRecDepth 20000 in
theorem gL_law_X5_volume : GoodIn wsL_law (wsV RL 55 RX5 yX5_volume wsX5_volume) := goodIn_app (goodIn_of _ (by decide +kernel)) ggL_law_X5_volume
set_option maxRecDepth 20000 in
theorem ggL_law_X4_height : GoodIn wsL_law wsX4_height := goodIn_r _ [257, 26, 258, 38, 259, 260, 261, 2, 262, 263, 264, 265, 37, 266, 58, 59, 267, 268, 269, 270, 271, 272, 273, 274, 275, 276, 60, 398, 399, 400, 401, 402, 425, 426, 427, 428] (by decide +kernel) (by decide +kernel)
set_option maxRecDepth 20000 in
theorem gL_law_X4_height : GoodIn wsL_law (wsV RL 56 RX4 yX4_height wsX4_height) := goodIn_app (goodIn_of _ (by decide +kernel)) ggL_law_X4_height
set_option maxRecDepth 20000 in
theorem ggL_law_X5_height : GoodIn wsL_law wsX5_height := goodIn_r _ [280, 145, 71, 281, 66, 403, 404, 405, 406, 407, 408, 409, 410, 411, 412, 413] (by decide +kernel) (by decide +kernel)
set_option maxRecDepth 20000 in
theorem gL_law_X5_height : GoodIn wsL_law (wsV RL 60 RX5 yX5_height wsX5_height) := goodIn_app (goodIn_of _ (by decide +kernel)) ggL_law_X5_height
set_option maxRecDepth 20000 in
theorem ggL_law_X4_trays : GoodIn wsL_law wsX4_trays := goodIn_r _ [285, 30, 181, 182, 183, 29, 184, 90, 137, 138, 139, 140, 91, 286, 287, 288, 2, 289, 39, 34, 290, 291, 292, 37, 293, 276, 58, 60, 294, 295, 296, 33, 297, 135, 298, 299, 300, 301, 51, 302, 303, 304, 305, 197, 198, 199, 200, 46, 45, 201, 194, 195, 196, 125, 101, 94, 102, 202, 119, 120, 263, 264, 265, 266, 59, 267, 268, 269, 270, 271, 306, 307, 308, 309, 53, 272, 273, 274, 275, 310, 311, 312, 313, 314, 315, 316, 317, 318, 319, 320, 321, 259, 260, 261, 262, 38, 322, 323, 324, 398, 399, 400, 401, 402, 414, 415, 416, 417, 418, 425, 426, 427, 428, 419, 420, 421, 422, 423, 424] (by decide +kernel) (by decide +kernel)
set_option maxRecDepth 20000 in
theorem gL_law_X4_trays : GoodIn wsL_law (wsV RL 61 RX4 yX4_trays wsX4_trays) := goodIn_app (goodIn_of _ (by decide +kernel)) ggL_law_X4_trays
set_option maxRecDepth 20000 in
theorem ggL_law_X5_trays : GoodIn wsL_law wsX5_trays := goodIn_r _ [328, 145, 146, 149, 68, 67, 148, 69, 66, 329, 204, 205, 5, 206, 207, 208, 209, 210, 147, 211, 212, 213, 214, 403, 404, 405, 406, 407, 408, 409, 410, 411, 412, 413] (by decide +kernel) (by decide +kernel)
set_option maxRecDepth 20000 in
theorem gL_law_X5_trays : GoodIn wsL_law (wsV RL 64 RX5 yX5_trays wsX5_trays) := goodIn_app (goodIn_of _ (by decide +kernel)) ggL_law_X5_trays
set_option maxRecDepth 20000 in
theorem ggL_law_X4_sort : GoodIn wsL_law wsX4_sort := goodIn_r _ [333, 30, 34, 334, 335, 336, 2, 337, 181, 182, 183, 29, 184, 90, 246, 247, 248, 33, 249, 136, 189, 190, 191, 192, 193, 194, 195, 196, 91, 338, 339, 340, 341, 46, 201, 342, 343, 344, 345, 51, 52, 135, 53, 346, 347, 348, 349, 302, 303, 304, 305, 350, 119, 94, 120, 398, 399, 400, 401, 402, 414, 415, 416, 417, 418, 419, 420, 421, 422, 423, 424] (by decide +kernel) (by decide +kernel)
set_option maxRecDepth 20000 in
theorem gL_law_X4_sort : GoodIn wsL_law (wsV RL 65 RX4 yX4_sort wsX4_sort) := goodIn_app (goodIn_of _ (by decide +kernel)) ggL_law_X4_sort
set_option maxRecDepth 20000 in
theorem ggL_law_X5_sort : GoodIn wsL_law wsX5_sort := goodIn_r _ [354, 145, 146, 68, 148, 69, 355, 356, 357, 5, 358, 211, 212, 213, 214, 149, 157, 158, 159, 153, 403, 404, 405, 406, 407, 408, 409, 410, 411, 412, 413] (by decide +kernel) (by decide +kernel)
set_option maxRecDepth 20000 in
theorem gL_law_X5_sort : GoodIn wsL_law (wsV RL 68 RX5 yX5_sort wsX5_sort) := goodIn_app (goodIn_of _ (by decide +kernel)) ggL_law_X5_sort
set_option maxRecDepth 20000 in
theorem ggL_law_X4_order : GoodIn wsL_law wsX4_order := goodIn_r _ [362, 30, 34, 334, 335, 336, 2, 337, 181, 182, 183, 29, 184, 90, 246, 247, 248, 33, 249, 136, 363, 364, 365, 366, 135, 54, 53, 52, 398, 399, 400, 401, 402, 414, 415, 416, 417, 418, 419, 420, 421, 422, 423, 424] (by decide +kernel) (by decide +kernel)
set_option maxRecDepth 20000 in
theorem gL_law_X4_order : GoodIn wsL_law (wsV RL 69 RX4 yX4_order wsX4_order) := goodIn_app (goodIn_of _ (by decide +kernel)) ggL_law_X4_order
set_option maxRecDepth 20000 in
theorem ggL_law_X5_order : GoodIn wsL_law wsX5_order := goodIn_r _ [370, 145, 146, 149, 70, 355, 356, 357, 5, 358, 148, 403, 404, 405, 406, 407, 408, 409, 410, 411, 412, 413] (by decide +kernel) (by decide +kernel)
set_option maxRecDepth 20000 in
theorem gL_law_X5_order : GoodIn wsL_law (wsV RL 72 RX5 yX5_order wsX5_order) := goodIn_app (goodIn_of _ (by decide +kernel)) ggL_law_X5_order
set_option maxRecDepth 20000 in
theorem ggL_law_L_digits : GoodIn wsL_law wsL_digits := goodIn_r _ [373, 374, 375, 376, 2, 377, 30, 378, 379, 380, 193, 194, 195, 29, 196, 91, 381, 382, 383, 384, 45, 201, 398, 399, 400, 401, 402, 429, 430, 431, 432, 433, 434, 414, 415, 416, 417, 418] (by decide +kernel) (by decide +kernel)
set_option maxRecDepth 20000 in
theorem gL_law_L_digits : GoodIn wsL_law (va_wsS RL 73 yL_digits wsL_digits) := goodIn_app (goodIn_of _ (by decide +kernel)) ggL_law_L_digits
set_option maxRecDepth 20000 in
theorem ggL_law_X5_digits : GoodIn wsL_law wsX5_digits := goodIn_r _ [388, 146, 149, 145, 68, 403, 404, 405, 406, 407, 408, 409, 410, 411, 412, 413] (by decide +kernel) (by decide +kernel)
set_option maxRecDepth 20000 in
theorem gL_law_X5_digits : GoodIn wsL_law (wsV RL 76 RX5 yX5_digits wsX5_digits) := goodIn_app (goodIn_of _ (by decide +kernel)) ggL_law_X5_digits
set_option maxRecDepth 20000 in
theorem ggL_law_X4_least : GoodIn wsL_law wsX4_least := goodIn_r _ [392, 26, 82, 83, 2, 84, 85, 393, 93, 94, 95, 96, 97, 98, 99, 100, 101, 102, 398, 399, 400, 401, 402] (by decide +kernel) (by decide +kernel)
set_option maxRecDepth 20000 in
theorem gL_law_X4_least : GoodIn wsL_law (wsV RL 77 RX4 yX4_least wsX4_least) := goodIn_app (goodIn_of _ (by decide +kernel)) ggL_law_X4_least
set_option maxRecDepth 20000 in
theorem ggL_law_X5_least : GoodIn wsL_law wsX5_least := goodIn_r _ [397, 145, 71, 150, 151, 5, 152, 153, 154, 155, 156, 157, 158, 159, 403, 404, 405, 406, 407, 408, 409, 410, 411, 412, 413] (by decide +kernel) (by decide +kernel)
set_option maxRecDepth 20000 in
theorem gL_law_X5_least : GoodIn wsL_law (wsV RL 81 RX5 yX5_least wsX5_least) := goodIn_app (goodIn_of _ (by decide +kernel)) ggL_law_X5_least
theorem dL_law_0 : decode cL_law 0 = .ok (.new 8, 3) := by decide +kernel
theorem dL_law_3 : decode cL_law 3 = .ok (.dup, 1) := by decide +kernel
theorem dL_law_4 : decode cL_law 4 = .ok (.aload_n 0, 1) := by decide +kernel
theorem dL_law_5 : decode cL_law 5 = .ok (.iconst 0, 1) := by decide +kernel
theorem dL_law_6 : decode cL_law 6 = .ok (.invokestatic 21, 3) := by decide +kernel
theorem dL_law_9 : decode cL_law 9 = .ok (.invokespecial 27, 3) := by decide +kernel
theorem dL_law_12 : decode cL_law 12 = .ok (.astore_n 1, 1) := by decide +kernel
theorem dL_law_13 : decode cL_law 13 = .ok (.new 30, 3) := by decide +kernel
theorem dL_law_16 : decode cL_law 16 = .ok (.dup, 1) := by decide +kernel
theorem dL_law_17 : decode cL_law 17 = .ok (.aload_n 0, 1) := by decide +kernel
theorem dL_law_18 : decode cL_law 18 = .ok (.iconst 0, 1) := by decide +kernel
theorem dL_law_19 : decode cL_law 19 = .ok (.invokestatic 21, 3) := by decide +kernel
theorem dL_law_22 : decode cL_law 22 = .ok (.invokespecial 32, 3) := by decide +kernel
theorem dL_law_25 : decode cL_law 25 = .ok (.astore_n 2, 1) := by decide +kernel
theorem dL_law_26 : decode cL_law 26 = .ok (.iconst 1, 1) := by decide +kernel
theorem dL_law_27 : decode cL_law 27 = .ok (.newarray .long, 2) := by decide +kernel
theorem dL_law_29 : decode cL_law 29 = .ok (.astore_n 3, 1) := by decide +kernel
theorem dL_law_30 : decode cL_law 30 = .ok (.iconst 1, 1) := by decide +kernel
theorem dL_law_31 : decode cL_law 31 = .ok (.istore 4, 2) := by decide +kernel
theorem dL_law_33 : decode cL_law 33 = .ok (.iload 4, 2) := by decide +kernel
theorem dL_law_35 : decode cL_law 35 = .ok (.aload_n 0, 1) := by decide +kernel
theorem dL_law_36 : decode cL_law 36 = .ok (.arraylength, 1) := by decide +kernel
theorem dL_law_37 : decode cL_law 37 = .ok (.iconst 4, 1) := by decide +kernel
theorem dL_law_38 : decode cL_law 38 = .ok (.isub, 1) := by decide +kernel
theorem dL_law_39 : decode cL_law 39 = .ok (.if_icmp .gt 603, 3) := by decide +kernel
theorem dL_law_42 : decode cL_law 42 = .ok (.aload_n 0, 1) := by decide +kernel
theorem dL_law_43 : decode cL_law 43 = .ok (.iload 4, 2) := by decide +kernel
theorem dL_law_45 : decode cL_law 45 = .ok (.iaload, 1) := by decide +kernel
theorem dL_law_46 : decode cL_law 46 = .ok (.bipush 15, 2) := by decide +kernel
theorem dL_law_48 : decode cL_law 48 = .ok (.iand, 1) := by decide +kernel
theorem dL_law_49 : decode cL_law 49 = .ok (.tableswitch 587 0 9 #[55, 143, 212, 281, 350, 387, 400, 437, 462, 518], 55) := by decide +kernel
theorem dL_law_104 : decode cL_law 104 = .ok (.aload_n 1, 1) := by decide +kernel
theorem dL_law_105 : decode cL_law 105 = .ok (.aload_n 0, 1) := by decide +kernel
theorem dL_law_106 : decode cL_law 106 = .ok (.iload 4, 2) := by decide +kernel
theorem dL_law_108 : decode cL_law 108 = .ok (.iconst 1, 1) := by decide +kernel
theorem dL_law_109 : decode cL_law 109 = .ok (.iadd, 1) := by decide +kernel
theorem dL_law_110 : decode cL_law 110 = .ok (.iaload, 1) := by decide +kernel
theorem dL_law_111 : decode cL_law 111 = .ok (.i2l, 1) := by decide +kernel
theorem dL_law_112 : decode cL_law 112 = .ok (.bipush 32, 2) := by decide +kernel
theorem dL_law_114 : decode cL_law 114 = .ok (.lshl, 1) := by decide +kernel
theorem dL_law_115 : decode cL_law 115 = .ok (.aload_n 0, 1) := by decide +kernel
theorem dL_law_116 : decode cL_law 116 = .ok (.iload 4, 2) := by decide +kernel
theorem dL_law_118 : decode cL_law 118 = .ok (.iconst 2, 1) := by decide +kernel
theorem dL_law_119 : decode cL_law 119 = .ok (.iadd, 1) := by decide +kernel
theorem dL_law_120 : decode cL_law 120 = .ok (.iaload, 1) := by decide +kernel
theorem dL_law_121 : decode cL_law 121 = .ok (.i2l, 1) := by decide +kernel
theorem dL_law_122 : decode cL_law 122 = .ok (.ldc2_w 33, 3) := by decide +kernel
theorem dL_law_125 : decode cL_law 125 = .ok (.land, 1) := by decide +kernel
theorem dL_law_126 : decode cL_law 126 = .ok (.lor, 1) := by decide +kernel
theorem dL_law_127 : decode cL_law 127 = .ok (.aload_n 3, 1) := by decide +kernel
theorem dL_law_128 : decode cL_law 128 = .ok (.invokestatic 35, 3) := by decide +kernel
theorem dL_law_131 : decode cL_law 131 = .ok (.istore 5, 2) := by decide +kernel
theorem dL_law_133 : decode cL_law 133 = .ok (.aload_n 2, 1) := by decide +kernel
theorem dL_law_134 : decode cL_law 134 = .ok (.aload_n 0, 1) := by decide +kernel
theorem dL_law_135 : decode cL_law 135 = .ok (.iload 4, 2) := by decide +kernel
theorem dL_law_137 : decode cL_law 137 = .ok (.iconst 1, 1) := by decide +kernel
theorem dL_law_138 : decode cL_law 138 = .ok (.iadd, 1) := by decide +kernel
theorem dL_law_139 : decode cL_law 139 = .ok (.iaload, 1) := by decide +kernel
theorem dL_law_140 : decode cL_law 140 = .ok (.i2l, 1) := by decide +kernel
theorem dL_law_141 : decode cL_law 141 = .ok (.bipush 32, 2) := by decide +kernel
theorem dL_law_143 : decode cL_law 143 = .ok (.lshl, 1) := by decide +kernel
theorem dL_law_144 : decode cL_law 144 = .ok (.aload_n 0, 1) := by decide +kernel
theorem dL_law_145 : decode cL_law 145 = .ok (.iload 4, 2) := by decide +kernel
theorem dL_law_147 : decode cL_law 147 = .ok (.iconst 2, 1) := by decide +kernel
theorem dL_law_148 : decode cL_law 148 = .ok (.iadd, 1) := by decide +kernel
theorem dL_law_149 : decode cL_law 149 = .ok (.iaload, 1) := by decide +kernel
theorem dL_law_150 : decode cL_law 150 = .ok (.i2l, 1) := by decide +kernel
theorem dL_law_151 : decode cL_law 151 = .ok (.ldc2_w 33, 3) := by decide +kernel
theorem dL_law_154 : decode cL_law 154 = .ok (.land, 1) := by decide +kernel
theorem dL_law_155 : decode cL_law 155 = .ok (.lor, 1) := by decide +kernel
theorem dL_law_156 : decode cL_law 156 = .ok (.invokevirtual 38, 3) := by decide +kernel
theorem dL_law_159 : decode cL_law 159 = .ok (.istore 6, 2) := by decide +kernel
theorem dL_law_161 : decode cL_law 161 = .ok (.aload_n 2, 1) := by decide +kernel
theorem dL_law_162 : decode cL_law 162 = .ok (.invokevirtual 39, 3) := by decide +kernel
theorem dL_law_165 : decode cL_law 165 = .ok (.iload 5, 2) := by decide +kernel
theorem dL_law_167 : decode cL_law 167 = .ok (.if_icmp .eq 5, 3) := by decide +kernel
theorem dL_law_170 : decode cL_law 170 = .ok (.iconst 0, 1) := by decide +kernel
theorem dL_law_171 : decode cL_law 171 = .ok (.ireturn, 1) := by decide +kernel
theorem dL_law_172 : decode cL_law 172 = .ok (.iload 5, 2) := by decide +kernel
theorem dL_law_174 : decode cL_law 174 = .ok (.ifCond .ne 15, 3) := by decide +kernel
theorem dL_law_177 : decode cL_law 177 = .ok (.aload_n 3, 1) := by decide +kernel
theorem dL_law_178 : decode cL_law 178 = .ok (.iconst 0, 1) := by decide +kernel
theorem dL_law_179 : decode cL_law 179 = .ok (.laload, 1) := by decide +kernel
theorem dL_law_180 : decode cL_law 180 = .ok (.iload 6, 2) := by decide +kernel
theorem dL_law_182 : decode cL_law 182 = .ok (.i2l, 1) := by decide +kernel
theorem dL_law_183 : decode cL_law 183 = .ok (.lcmp, 1) := by decide +kernel
theorem dL_law_184 : decode cL_law 184 = .ok (.ifCond .eq 5, 3) := by decide +kernel
theorem dL_law_187 : decode cL_law 187 = .ok (.iconst 0, 1) := by decide +kernel
theorem dL_law_188 : decode cL_law 188 = .ok (.ireturn, 1) := by decide +kernel
theorem dL_law_189 : decode cL_law 189 = .ok (.goto 447, 3) := by decide +kernel
theorem dL_law_192 : decode cL_law 192 = .ok (.aload_n 1, 1) := by decide +kernel
theorem dL_law_193 : decode cL_law 193 = .ok (.aload_n 0, 1) := by decide +kernel
theorem dL_law_194 : decode cL_law 194 = .ok (.iload 4, 2) := by decide +kernel
theorem dL_law_196 : decode cL_law 196 = .ok (.iconst 1, 1) := by decide +kernel
theorem dL_law_197 : decode cL_law 197 = .ok (.iadd, 1) := by decide +kernel
theorem dL_law_198 : decode cL_law 198 = .ok (.iaload, 1) := by decide +kernel
theorem dL_law_199 : decode cL_law 199 = .ok (.i2l, 1) := by decide +kernel
theorem dL_law_200 : decode cL_law 200 = .ok (.bipush 32, 2) := by decide +kernel
theorem dL_law_202 : decode cL_law 202 = .ok (.lshl, 1) := by decide +kernel
theorem dL_law_203 : decode cL_law 203 = .ok (.aload_n 0, 1) := by decide +kernel
theorem dL_law_204 : decode cL_law 204 = .ok (.iload 4, 2) := by decide +kernel
theorem dL_law_206 : decode cL_law 206 = .ok (.iconst 2, 1) := by decide +kernel
theorem dL_law_207 : decode cL_law 207 = .ok (.iadd, 1) := by decide +kernel
theorem dL_law_208 : decode cL_law 208 = .ok (.iaload, 1) := by decide +kernel
theorem dL_law_209 : decode cL_law 209 = .ok (.i2l, 1) := by decide +kernel
theorem dL_law_210 : decode cL_law 210 = .ok (.ldc2_w 33, 3) := by decide +kernel
theorem dL_law_213 : decode cL_law 213 = .ok (.land, 1) := by decide +kernel
theorem dL_law_214 : decode cL_law 214 = .ok (.lor, 1) := by decide +kernel
theorem dL_law_215 : decode cL_law 215 = .ok (.aload_n 0, 1) := by decide +kernel
theorem dL_law_216 : decode cL_law 216 = .ok (.iload 4, 2) := by decide +kernel
theorem dL_law_218 : decode cL_law 218 = .ok (.iconst 3, 1) := by decide +kernel
theorem dL_law_219 : decode cL_law 219 = .ok (.iadd, 1) := by decide +kernel
theorem dL_law_220 : decode cL_law 220 = .ok (.iaload, 1) := by decide +kernel
theorem dL_law_221 : decode cL_law 221 = .ok (.invokevirtual 43, 3) := by decide +kernel
theorem dL_law_224 : decode cL_law 224 = .ok (.aload_n 2, 1) := by decide +kernel
theorem dL_law_225 : decode cL_law 225 = .ok (.aload_n 0, 1) := by decide +kernel
theorem dL_law_226 : decode cL_law 226 = .ok (.iload 4, 2) := by decide +kernel
theorem dL_law_228 : decode cL_law 228 = .ok (.iconst 1, 1) := by decide +kernel
theorem dL_law_229 : decode cL_law 229 = .ok (.iadd, 1) := by decide +kernel
theorem dL_law_230 : decode cL_law 230 = .ok (.iaload, 1) := by decide +kernel
theorem dL_law_231 : decode cL_law 231 = .ok (.i2l, 1) := by decide +kernel
theorem dL_law_232 : decode cL_law 232 = .ok (.bipush 32, 2) := by decide +kernel
theorem dL_law_234 : decode cL_law 234 = .ok (.lshl, 1) := by decide +kernel
theorem dL_law_235 : decode cL_law 235 = .ok (.aload_n 0, 1) := by decide +kernel
theorem dL_law_236 : decode cL_law 236 = .ok (.iload 4, 2) := by decide +kernel
theorem dL_law_238 : decode cL_law 238 = .ok (.iconst 2, 1) := by decide +kernel
theorem dL_law_239 : decode cL_law 239 = .ok (.iadd, 1) := by decide +kernel
theorem dL_law_240 : decode cL_law 240 = .ok (.iaload, 1) := by decide +kernel
theorem dL_law_241 : decode cL_law 241 = .ok (.i2l, 1) := by decide +kernel
theorem dL_law_242 : decode cL_law 242 = .ok (.ldc2_w 33, 3) := by decide +kernel
theorem dL_law_245 : decode cL_law 245 = .ok (.land, 1) := by decide +kernel
theorem dL_law_246 : decode cL_law 246 = .ok (.lor, 1) := by decide +kernel
theorem dL_law_247 : decode cL_law 247 = .ok (.aload_n 0, 1) := by decide +kernel
theorem dL_law_248 : decode cL_law 248 = .ok (.iload 4, 2) := by decide +kernel
theorem dL_law_250 : decode cL_law 250 = .ok (.iconst 3, 1) := by decide +kernel
theorem dL_law_251 : decode cL_law 251 = .ok (.iadd, 1) := by decide +kernel
theorem dL_law_252 : decode cL_law 252 = .ok (.iaload, 1) := by decide +kernel
theorem dL_law_253 : decode cL_law 253 = .ok (.invokevirtual 47, 3) := by decide +kernel
theorem dL_law_256 : decode cL_law 256 = .ok (.if_icmp .eq 380, 3) := by decide +kernel
theorem dL_law_259 : decode cL_law 259 = .ok (.iconst 0, 1) := by decide +kernel
theorem dL_law_260 : decode cL_law 260 = .ok (.ireturn, 1) := by decide +kernel
theorem dL_law_261 : decode cL_law 261 = .ok (.aload_n 1, 1) := by decide +kernel
theorem dL_law_262 : decode cL_law 262 = .ok (.aload_n 0, 1) := by decide +kernel
theorem dL_law_263 : decode cL_law 263 = .ok (.iload 4, 2) := by decide +kernel
theorem dL_law_265 : decode cL_law 265 = .ok (.iconst 1, 1) := by decide +kernel
theorem dL_law_266 : decode cL_law 266 = .ok (.iadd, 1) := by decide +kernel
theorem dL_law_267 : decode cL_law 267 = .ok (.iaload, 1) := by decide +kernel
theorem dL_law_268 : decode cL_law 268 = .ok (.i2l, 1) := by decide +kernel
theorem dL_law_269 : decode cL_law 269 = .ok (.bipush 32, 2) := by decide +kernel
theorem dL_law_271 : decode cL_law 271 = .ok (.lshl, 1) := by decide +kernel
theorem dL_law_272 : decode cL_law 272 = .ok (.aload_n 0, 1) := by decide +kernel
theorem dL_law_273 : decode cL_law 273 = .ok (.iload 4, 2) := by decide +kernel
theorem dL_law_275 : decode cL_law 275 = .ok (.iconst 2, 1) := by decide +kernel
theorem dL_law_276 : decode cL_law 276 = .ok (.iadd, 1) := by decide +kernel
theorem dL_law_277 : decode cL_law 277 = .ok (.iaload, 1) := by decide +kernel
theorem dL_law_278 : decode cL_law 278 = .ok (.i2l, 1) := by decide +kernel
theorem dL_law_279 : decode cL_law 279 = .ok (.ldc2_w 33, 3) := by decide +kernel
theorem dL_law_282 : decode cL_law 282 = .ok (.land, 1) := by decide +kernel
theorem dL_law_283 : decode cL_law 283 = .ok (.lor, 1) := by decide +kernel
theorem dL_law_284 : decode cL_law 284 = .ok (.aload_n 0, 1) := by decide +kernel
theorem dL_law_285 : decode cL_law 285 = .ok (.iload 4, 2) := by decide +kernel
theorem dL_law_287 : decode cL_law 287 = .ok (.iconst 3, 1) := by decide +kernel
theorem dL_law_288 : decode cL_law 288 = .ok (.iadd, 1) := by decide +kernel
theorem dL_law_289 : decode cL_law 289 = .ok (.iaload, 1) := by decide +kernel
theorem dL_law_290 : decode cL_law 290 = .ok (.invokevirtual 48, 3) := by decide +kernel
theorem dL_law_293 : decode cL_law 293 = .ok (.aload_n 2, 1) := by decide +kernel
theorem dL_law_294 : decode cL_law 294 = .ok (.aload_n 0, 1) := by decide +kernel
theorem dL_law_295 : decode cL_law 295 = .ok (.iload 4, 2) := by decide +kernel
theorem dL_law_297 : decode cL_law 297 = .ok (.iconst 1, 1) := by decide +kernel
theorem dL_law_298 : decode cL_law 298 = .ok (.iadd, 1) := by decide +kernel
theorem dL_law_299 : decode cL_law 299 = .ok (.iaload, 1) := by decide +kernel
theorem dL_law_300 : decode cL_law 300 = .ok (.i2l, 1) := by decide +kernel
theorem dL_law_301 : decode cL_law 301 = .ok (.bipush 32, 2) := by decide +kernel
theorem dL_law_303 : decode cL_law 303 = .ok (.lshl, 1) := by decide +kernel
theorem dL_law_304 : decode cL_law 304 = .ok (.aload_n 0, 1) := by decide +kernel
theorem dL_law_305 : decode cL_law 305 = .ok (.iload 4, 2) := by decide +kernel
theorem dL_law_307 : decode cL_law 307 = .ok (.iconst 2, 1) := by decide +kernel
theorem dL_law_308 : decode cL_law 308 = .ok (.iadd, 1) := by decide +kernel
theorem dL_law_309 : decode cL_law 309 = .ok (.iaload, 1) := by decide +kernel
theorem dL_law_310 : decode cL_law 310 = .ok (.i2l, 1) := by decide +kernel
theorem dL_law_311 : decode cL_law 311 = .ok (.ldc2_w 33, 3) := by decide +kernel
theorem dL_law_314 : decode cL_law 314 = .ok (.land, 1) := by decide +kernel
theorem dL_law_315 : decode cL_law 315 = .ok (.lor, 1) := by decide +kernel
theorem dL_law_316 : decode cL_law 316 = .ok (.aload_n 0, 1) := by decide +kernel
theorem dL_law_317 : decode cL_law 317 = .ok (.iload 4, 2) := by decide +kernel
theorem dL_law_319 : decode cL_law 319 = .ok (.iconst 3, 1) := by decide +kernel
theorem dL_law_320 : decode cL_law 320 = .ok (.iadd, 1) := by decide +kernel
theorem dL_law_321 : decode cL_law 321 = .ok (.iaload, 1) := by decide +kernel
theorem dL_law_322 : decode cL_law 322 = .ok (.invokevirtual 51, 3) := by decide +kernel
theorem dL_law_325 : decode cL_law 325 = .ok (.if_icmp .eq 311, 3) := by decide +kernel
theorem dL_law_328 : decode cL_law 328 = .ok (.iconst 0, 1) := by decide +kernel
theorem dL_law_329 : decode cL_law 329 = .ok (.ireturn, 1) := by decide +kernel
theorem dL_law_330 : decode cL_law 330 = .ok (.aload_n 1, 1) := by decide +kernel
theorem dL_law_331 : decode cL_law 331 = .ok (.aload_n 0, 1) := by decide +kernel
theorem dL_law_332 : decode cL_law 332 = .ok (.iload 4, 2) := by decide +kernel
theorem dL_law_334 : decode cL_law 334 = .ok (.iconst 1, 1) := by decide +kernel
theorem dL_law_335 : decode cL_law 335 = .ok (.iadd, 1) := by decide +kernel
theorem dL_law_336 : decode cL_law 336 = .ok (.iaload, 1) := by decide +kernel
theorem dL_law_337 : decode cL_law 337 = .ok (.i2l, 1) := by decide +kernel
theorem dL_law_338 : decode cL_law 338 = .ok (.bipush 32, 2) := by decide +kernel
theorem dL_law_340 : decode cL_law 340 = .ok (.lshl, 1) := by decide +kernel
theorem dL_law_341 : decode cL_law 341 = .ok (.aload_n 0, 1) := by decide +kernel
theorem dL_law_342 : decode cL_law 342 = .ok (.iload 4, 2) := by decide +kernel
theorem dL_law_344 : decode cL_law 344 = .ok (.iconst 2, 1) := by decide +kernel
theorem dL_law_345 : decode cL_law 345 = .ok (.iadd, 1) := by decide +kernel
theorem dL_law_346 : decode cL_law 346 = .ok (.iaload, 1) := by decide +kernel
theorem dL_law_347 : decode cL_law 347 = .ok (.i2l, 1) := by decide +kernel
theorem dL_law_348 : decode cL_law 348 = .ok (.ldc2_w 33, 3) := by decide +kernel
theorem dL_law_351 : decode cL_law 351 = .ok (.land, 1) := by decide +kernel
theorem dL_law_352 : decode cL_law 352 = .ok (.lor, 1) := by decide +kernel
theorem dL_law_353 : decode cL_law 353 = .ok (.aload_n 0, 1) := by decide +kernel
theorem dL_law_354 : decode cL_law 354 = .ok (.iload 4, 2) := by decide +kernel
theorem dL_law_356 : decode cL_law 356 = .ok (.iconst 3, 1) := by decide +kernel
theorem dL_law_357 : decode cL_law 357 = .ok (.iadd, 1) := by decide +kernel
theorem dL_law_358 : decode cL_law 358 = .ok (.iaload, 1) := by decide +kernel
theorem dL_law_359 : decode cL_law 359 = .ok (.invokevirtual 52, 3) := by decide +kernel
theorem dL_law_362 : decode cL_law 362 = .ok (.aload_n 2, 1) := by decide +kernel
theorem dL_law_363 : decode cL_law 363 = .ok (.aload_n 0, 1) := by decide +kernel
theorem dL_law_364 : decode cL_law 364 = .ok (.iload 4, 2) := by decide +kernel
theorem dL_law_366 : decode cL_law 366 = .ok (.iconst 1, 1) := by decide +kernel
theorem dL_law_367 : decode cL_law 367 = .ok (.iadd, 1) := by decide +kernel
theorem dL_law_368 : decode cL_law 368 = .ok (.iaload, 1) := by decide +kernel
theorem dL_law_369 : decode cL_law 369 = .ok (.i2l, 1) := by decide +kernel
theorem dL_law_370 : decode cL_law 370 = .ok (.bipush 32, 2) := by decide +kernel
theorem dL_law_372 : decode cL_law 372 = .ok (.lshl, 1) := by decide +kernel
theorem dL_law_373 : decode cL_law 373 = .ok (.aload_n 0, 1) := by decide +kernel
theorem dL_law_374 : decode cL_law 374 = .ok (.iload 4, 2) := by decide +kernel
theorem dL_law_376 : decode cL_law 376 = .ok (.iconst 2, 1) := by decide +kernel
theorem dL_law_377 : decode cL_law 377 = .ok (.iadd, 1) := by decide +kernel
theorem dL_law_378 : decode cL_law 378 = .ok (.iaload, 1) := by decide +kernel
theorem dL_law_379 : decode cL_law 379 = .ok (.i2l, 1) := by decide +kernel
theorem dL_law_380 : decode cL_law 380 = .ok (.ldc2_w 33, 3) := by decide +kernel
theorem dL_law_383 : decode cL_law 383 = .ok (.land, 1) := by decide +kernel
theorem dL_law_384 : decode cL_law 384 = .ok (.lor, 1) := by decide +kernel
theorem dL_law_385 : decode cL_law 385 = .ok (.aload_n 0, 1) := by decide +kernel
theorem dL_law_386 : decode cL_law 386 = .ok (.iload 4, 2) := by decide +kernel
theorem dL_law_388 : decode cL_law 388 = .ok (.iconst 3, 1) := by decide +kernel
theorem dL_law_389 : decode cL_law 389 = .ok (.iadd, 1) := by decide +kernel
theorem dL_law_390 : decode cL_law 390 = .ok (.iaload, 1) := by decide +kernel
theorem dL_law_391 : decode cL_law 391 = .ok (.invokevirtual 55, 3) := by decide +kernel
theorem dL_law_394 : decode cL_law 394 = .ok (.if_icmp .eq 242, 3) := by decide +kernel
theorem dL_law_397 : decode cL_law 397 = .ok (.iconst 0, 1) := by decide +kernel
theorem dL_law_398 : decode cL_law 398 = .ok (.ireturn, 1) := by decide +kernel
theorem dL_law_399 : decode cL_law 399 = .ok (.aload_n 1, 1) := by decide +kernel
theorem dL_law_400 : decode cL_law 400 = .ok (.aload_n 0, 1) := by decide +kernel
theorem dL_law_401 : decode cL_law 401 = .ok (.iload 4, 2) := by decide +kernel
theorem dL_law_403 : decode cL_law 403 = .ok (.iconst 1, 1) := by decide +kernel
theorem dL_law_404 : decode cL_law 404 = .ok (.iadd, 1) := by decide +kernel
theorem dL_law_405 : decode cL_law 405 = .ok (.iaload, 1) := by decide +kernel
theorem dL_law_406 : decode cL_law 406 = .ok (.aload_n 0, 1) := by decide +kernel
theorem dL_law_407 : decode cL_law 407 = .ok (.iload 4, 2) := by decide +kernel
theorem dL_law_409 : decode cL_law 409 = .ok (.iconst 2, 1) := by decide +kernel
theorem dL_law_410 : decode cL_law 410 = .ok (.iadd, 1) := by decide +kernel
theorem dL_law_411 : decode cL_law 411 = .ok (.iaload, 1) := by decide +kernel
theorem dL_law_412 : decode cL_law 412 = .ok (.invokevirtual 56, 3) := by decide +kernel
theorem dL_law_415 : decode cL_law 415 = .ok (.aload_n 2, 1) := by decide +kernel
theorem dL_law_416 : decode cL_law 416 = .ok (.aload_n 0, 1) := by decide +kernel
theorem dL_law_417 : decode cL_law 417 = .ok (.iload 4, 2) := by decide +kernel
theorem dL_law_419 : decode cL_law 419 = .ok (.iconst 1, 1) := by decide +kernel
theorem dL_law_420 : decode cL_law 420 = .ok (.iadd, 1) := by decide +kernel
theorem dL_law_421 : decode cL_law 421 = .ok (.iaload, 1) := by decide +kernel
theorem dL_law_422 : decode cL_law 422 = .ok (.aload_n 0, 1) := by decide +kernel
theorem dL_law_423 : decode cL_law 423 = .ok (.iload 4, 2) := by decide +kernel
theorem dL_law_425 : decode cL_law 425 = .ok (.iconst 2, 1) := by decide +kernel
theorem dL_law_426 : decode cL_law 426 = .ok (.iadd, 1) := by decide +kernel
theorem dL_law_427 : decode cL_law 427 = .ok (.iaload, 1) := by decide +kernel
theorem dL_law_428 : decode cL_law 428 = .ok (.invokevirtual 60, 3) := by decide +kernel
theorem dL_law_431 : decode cL_law 431 = .ok (.if_icmp .eq 205, 3) := by decide +kernel
theorem dL_law_434 : decode cL_law 434 = .ok (.iconst 0, 1) := by decide +kernel
theorem dL_law_435 : decode cL_law 435 = .ok (.ireturn, 1) := by decide +kernel
theorem dL_law_436 : decode cL_law 436 = .ok (.aload_n 1, 1) := by decide +kernel
theorem dL_law_437 : decode cL_law 437 = .ok (.invokevirtual 61, 3) := by decide +kernel
theorem dL_law_440 : decode cL_law 440 = .ok (.aload_n 2, 1) := by decide +kernel
theorem dL_law_441 : decode cL_law 441 = .ok (.invokevirtual 64, 3) := by decide +kernel
theorem dL_law_444 : decode cL_law 444 = .ok (.if_icmp .eq 192, 3) := by decide +kernel
theorem dL_law_447 : decode cL_law 447 = .ok (.iconst 0, 1) := by decide +kernel
theorem dL_law_448 : decode cL_law 448 = .ok (.ireturn, 1) := by decide +kernel
theorem dL_law_449 : decode cL_law 449 = .ok (.aload_n 1, 1) := by decide +kernel
theorem dL_law_450 : decode cL_law 450 = .ok (.aload_n 0, 1) := by decide +kernel
theorem dL_law_451 : decode cL_law 451 = .ok (.iload 4, 2) := by decide +kernel
theorem dL_law_453 : decode cL_law 453 = .ok (.iconst 1, 1) := by decide +kernel
theorem dL_law_454 : decode cL_law 454 = .ok (.iadd, 1) := by decide +kernel
theorem dL_law_455 : decode cL_law 455 = .ok (.iaload, 1) := by decide +kernel
theorem dL_law_456 : decode cL_law 456 = .ok (.aload_n 0, 1) := by decide +kernel
theorem dL_law_457 : decode cL_law 457 = .ok (.iload 4, 2) := by decide +kernel
theorem dL_law_459 : decode cL_law 459 = .ok (.iconst 2, 1) := by decide +kernel
theorem dL_law_460 : decode cL_law 460 = .ok (.iadd, 1) := by decide +kernel
theorem dL_law_461 : decode cL_law 461 = .ok (.iaload, 1) := by decide +kernel
theorem dL_law_462 : decode cL_law 462 = .ok (.invokevirtual 65, 3) := by decide +kernel
theorem dL_law_465 : decode cL_law 465 = .ok (.aload_n 2, 1) := by decide +kernel
theorem dL_law_466 : decode cL_law 466 = .ok (.aload_n 0, 1) := by decide +kernel
theorem dL_law_467 : decode cL_law 467 = .ok (.iload 4, 2) := by decide +kernel
theorem dL_law_469 : decode cL_law 469 = .ok (.iconst 1, 1) := by decide +kernel
theorem dL_law_470 : decode cL_law 470 = .ok (.iadd, 1) := by decide +kernel
theorem dL_law_471 : decode cL_law 471 = .ok (.iaload, 1) := by decide +kernel
theorem dL_law_472 : decode cL_law 472 = .ok (.aload_n 0, 1) := by decide +kernel
theorem dL_law_473 : decode cL_law 473 = .ok (.iload 4, 2) := by decide +kernel
theorem dL_law_475 : decode cL_law 475 = .ok (.iconst 2, 1) := by decide +kernel
theorem dL_law_476 : decode cL_law 476 = .ok (.iadd, 1) := by decide +kernel
theorem dL_law_477 : decode cL_law 477 = .ok (.iaload, 1) := by decide +kernel
theorem dL_law_478 : decode cL_law 478 = .ok (.invokevirtual 68, 3) := by decide +kernel
theorem dL_law_481 : decode cL_law 481 = .ok (.if_icmp .eq 155, 3) := by decide +kernel
theorem dL_law_484 : decode cL_law 484 = .ok (.iconst 0, 1) := by decide +kernel
theorem dL_law_485 : decode cL_law 485 = .ok (.ireturn, 1) := by decide +kernel
theorem dL_law_486 : decode cL_law 486 = .ok (.aload_n 1, 1) := by decide +kernel
theorem dL_law_487 : decode cL_law 487 = .ok (.aload_n 0, 1) := by decide +kernel
theorem dL_law_488 : decode cL_law 488 = .ok (.iload 4, 2) := by decide +kernel
theorem dL_law_490 : decode cL_law 490 = .ok (.iconst 1, 1) := by decide +kernel
theorem dL_law_491 : decode cL_law 491 = .ok (.iadd, 1) := by decide +kernel
theorem dL_law_492 : decode cL_law 492 = .ok (.iaload, 1) := by decide +kernel
theorem dL_law_493 : decode cL_law 493 = .ok (.invokevirtual 69, 3) := by decide +kernel
theorem dL_law_496 : decode cL_law 496 = .ok (.aload_n 2, 1) := by decide +kernel
theorem dL_law_497 : decode cL_law 497 = .ok (.aload_n 0, 1) := by decide +kernel
theorem dL_law_498 : decode cL_law 498 = .ok (.iload 4, 2) := by decide +kernel
theorem dL_law_500 : decode cL_law 500 = .ok (.iconst 1, 1) := by decide +kernel
theorem dL_law_501 : decode cL_law 501 = .ok (.iadd, 1) := by decide +kernel
theorem dL_law_502 : decode cL_law 502 = .ok (.iaload, 1) := by decide +kernel
theorem dL_law_503 : decode cL_law 503 = .ok (.invokevirtual 72, 3) := by decide +kernel
theorem dL_law_506 : decode cL_law 506 = .ok (.if_icmp .eq 130, 3) := by decide +kernel
theorem dL_law_509 : decode cL_law 509 = .ok (.iconst 0, 1) := by decide +kernel
theorem dL_law_510 : decode cL_law 510 = .ok (.ireturn, 1) := by decide +kernel
theorem dL_law_511 : decode cL_law 511 = .ok (.aload_n 1, 1) := by decide +kernel
theorem dL_law_512 : decode cL_law 512 = .ok (.aload_n 0, 1) := by decide +kernel
theorem dL_law_513 : decode cL_law 513 = .ok (.iload 4, 2) := by decide +kernel
theorem dL_law_515 : decode cL_law 515 = .ok (.iconst 1, 1) := by decide +kernel
theorem dL_law_516 : decode cL_law 516 = .ok (.iadd, 1) := by decide +kernel
theorem dL_law_517 : decode cL_law 517 = .ok (.iaload, 1) := by decide +kernel
theorem dL_law_518 : decode cL_law 518 = .ok (.aload_n 3, 1) := by decide +kernel
theorem dL_law_519 : decode cL_law 519 = .ok (.invokestatic 73, 3) := by decide +kernel
theorem dL_law_522 : decode cL_law 522 = .ok (.istore 5, 2) := by decide +kernel
theorem dL_law_524 : decode cL_law 524 = .ok (.aload_n 2, 1) := by decide +kernel
theorem dL_law_525 : decode cL_law 525 = .ok (.aload_n 0, 1) := by decide +kernel
theorem dL_law_526 : decode cL_law 526 = .ok (.iload 4, 2) := by decide +kernel
theorem dL_law_528 : decode cL_law 528 = .ok (.iconst 1, 1) := by decide +kernel
theorem dL_law_529 : decode cL_law 529 = .ok (.iadd, 1) := by decide +kernel
theorem dL_law_530 : decode cL_law 530 = .ok (.iaload, 1) := by decide +kernel
theorem dL_law_531 : decode cL_law 531 = .ok (.invokevirtual 76, 3) := by decide +kernel
theorem dL_law_534 : decode cL_law 534 = .ok (.istore 6, 2) := by decide +kernel
end
section
theorem dL_law_536 : decode cL_law 536 = .ok (.aload_n 2, 1) := by decide +kernel
theorem dL_law_537 : decode cL_law 537 = .ok (.invokevirtual 39, 3) := by decide +kernel
theorem dL_law_540 : decode cL_law 540 = .ok (.iload 5, 2) := by decide +kernel
theorem dL_law_542 : decode cL_law 542 = .ok (.if_icmp .eq 5, 3) := by decide +kernel
theorem dL_law_545 : decode cL_law 545 = .ok (.iconst 0, 1) := by decide +kernel
theorem dL_law_546 : decode cL_law 546 = .ok (.ireturn, 1) := by decide +kernel
theorem dL_law_547 : decode cL_law 547 = .ok (.iload 5, 2) := by decide +kernel
theorem dL_law_549 : decode cL_law 549 = .ok (.ifCond .ne 15, 3) := by decide +kernel
theorem dL_law_552 : decode cL_law 552 = .ok (.aload_n 3, 1) := by decide +kernel
theorem dL_law_553 : decode cL_law 553 = .ok (.iconst 0, 1) := by decide +kernel
theorem dL_law_554 : decode cL_law 554 = .ok (.laload, 1) := by decide +kernel
theorem dL_law_555 : decode cL_law 555 = .ok (.iload 6, 2) := by decide +kernel
theorem dL_law_557 : decode cL_law 557 = .ok (.i2l, 1) := by decide +kernel
theorem dL_law_558 : decode cL_law 558 = .ok (.lcmp, 1) := by decide +kernel
theorem dL_law_559 : decode cL_law 559 = .ok (.ifCond .eq 5, 3) := by decide +kernel
theorem dL_law_562 : decode cL_law 562 = .ok (.iconst 0, 1) := by decide +kernel
theorem dL_law_563 : decode cL_law 563 = .ok (.ireturn, 1) := by decide +kernel
theorem dL_law_564 : decode cL_law 564 = .ok (.goto 72, 3) := by decide +kernel
theorem dL_law_567 : decode cL_law 567 = .ok (.aload_n 1, 1) := by decide +kernel
theorem dL_law_568 : decode cL_law 568 = .ok (.aload_n 0, 1) := by decide +kernel
theorem dL_law_569 : decode cL_law 569 = .ok (.iload 4, 2) := by decide +kernel
theorem dL_law_571 : decode cL_law 571 = .ok (.iconst 1, 1) := by decide +kernel
theorem dL_law_572 : decode cL_law 572 = .ok (.iadd, 1) := by decide +kernel
theorem dL_law_573 : decode cL_law 573 = .ok (.iaload, 1) := by decide +kernel
theorem dL_law_574 : decode cL_law 574 = .ok (.i2l, 1) := by decide +kernel
theorem dL_law_575 : decode cL_law 575 = .ok (.bipush 32, 2) := by decide +kernel
theorem dL_law_577 : decode cL_law 577 = .ok (.lshl, 1) := by decide +kernel
theorem dL_law_578 : decode cL_law 578 = .ok (.aload_n 0, 1) := by decide +kernel
theorem dL_law_579 : decode cL_law 579 = .ok (.iload 4, 2) := by decide +kernel
theorem dL_law_581 : decode cL_law 581 = .ok (.iconst 2, 1) := by decide +kernel
theorem dL_law_582 : decode cL_law 582 = .ok (.iadd, 1) := by decide +kernel
theorem dL_law_583 : decode cL_law 583 = .ok (.iaload, 1) := by decide +kernel
theorem dL_law_584 : decode cL_law 584 = .ok (.i2l, 1) := by decide +kernel
theorem dL_law_585 : decode cL_law 585 = .ok (.ldc2_w 33, 3) := by decide +kernel
theorem dL_law_588 : decode cL_law 588 = .ok (.land, 1) := by decide +kernel
theorem dL_law_589 : decode cL_law 589 = .ok (.lor, 1) := by decide +kernel
theorem dL_law_590 : decode cL_law 590 = .ok (.aload_n 0, 1) := by decide +kernel
theorem dL_law_591 : decode cL_law 591 = .ok (.iload 4, 2) := by decide +kernel
theorem dL_law_593 : decode cL_law 593 = .ok (.iconst 3, 1) := by decide +kernel
theorem dL_law_594 : decode cL_law 594 = .ok (.iadd, 1) := by decide +kernel
theorem dL_law_595 : decode cL_law 595 = .ok (.iaload, 1) := by decide +kernel
theorem dL_law_596 : decode cL_law 596 = .ok (.invokevirtual 77, 3) := by decide +kernel
theorem dL_law_599 : decode cL_law 599 = .ok (.aload_n 2, 1) := by decide +kernel
theorem dL_law_600 : decode cL_law 600 = .ok (.aload_n 0, 1) := by decide +kernel
theorem dL_law_601 : decode cL_law 601 = .ok (.iload 4, 2) := by decide +kernel
theorem dL_law_603 : decode cL_law 603 = .ok (.iconst 1, 1) := by decide +kernel
theorem dL_law_604 : decode cL_law 604 = .ok (.iadd, 1) := by decide +kernel
theorem dL_law_605 : decode cL_law 605 = .ok (.iaload, 1) := by decide +kernel
theorem dL_law_606 : decode cL_law 606 = .ok (.i2l, 1) := by decide +kernel
theorem dL_law_607 : decode cL_law 607 = .ok (.bipush 32, 2) := by decide +kernel
theorem dL_law_609 : decode cL_law 609 = .ok (.lshl, 1) := by decide +kernel
theorem dL_law_610 : decode cL_law 610 = .ok (.aload_n 0, 1) := by decide +kernel
theorem dL_law_611 : decode cL_law 611 = .ok (.iload 4, 2) := by decide +kernel
theorem dL_law_613 : decode cL_law 613 = .ok (.iconst 2, 1) := by decide +kernel
theorem dL_law_614 : decode cL_law 614 = .ok (.iadd, 1) := by decide +kernel
theorem dL_law_615 : decode cL_law 615 = .ok (.iaload, 1) := by decide +kernel
theorem dL_law_616 : decode cL_law 616 = .ok (.i2l, 1) := by decide +kernel
theorem dL_law_617 : decode cL_law 617 = .ok (.ldc2_w 33, 3) := by decide +kernel
theorem dL_law_620 : decode cL_law 620 = .ok (.land, 1) := by decide +kernel
theorem dL_law_621 : decode cL_law 621 = .ok (.lor, 1) := by decide +kernel
theorem dL_law_622 : decode cL_law 622 = .ok (.aload_n 0, 1) := by decide +kernel
theorem dL_law_623 : decode cL_law 623 = .ok (.iload 4, 2) := by decide +kernel
theorem dL_law_625 : decode cL_law 625 = .ok (.iconst 3, 1) := by decide +kernel
theorem dL_law_626 : decode cL_law 626 = .ok (.iadd, 1) := by decide +kernel
theorem dL_law_627 : decode cL_law 627 = .ok (.iaload, 1) := by decide +kernel
theorem dL_law_628 : decode cL_law 628 = .ok (.invokevirtual 81, 3) := by decide +kernel
theorem dL_law_631 : decode cL_law 631 = .ok (.if_icmp .eq 5, 3) := by decide +kernel
theorem dL_law_634 : decode cL_law 634 = .ok (.iconst 0, 1) := by decide +kernel
theorem dL_law_635 : decode cL_law 635 = .ok (.ireturn, 1) := by decide +kernel
theorem dL_law_636 : decode cL_law 636 = .ok (.iinc 4 4, 3) := by decide +kernel
theorem dL_law_639 : decode cL_law 639 = .ok (.goto (-606), 3) := by decide +kernel
theorem dL_law_642 : decode cL_law 642 = .ok (.iconst 1, 1) := by decide +kernel
theorem dL_law_643 : decode cL_law 643 = .ok (.ireturn, 1) := by decide +kernel
abbrev vwCl : List vw_C := [(RJx00060, TJx00060, 6), (RX0, TX0, 4), (RX1, TX1, 6), (RX2, TX2, 5), (RX4, TX4, 5), (RX5, TX5, 11)]
end
section
section ZZ
variable {p : Program} {l : Launch} {e : Env} {R : Room} {s : State} {m : MethodId} {args : Array Value} {below : List Frame} {meth : Method} {c : Code} {H : Heap} {locs : List Loc} {cells slots : Nat} {Q : State → Prop} {cc : ByteArray} {pc : Nat} {ls : Array Slot} {rest : List Value}
/-- a truth value as the machine has it -/
def bI (P : Prop) [Decidable P] : Int32 := if P then 1 else 0
theorem bI_t {P : Prop} [Decidable P] (h : P) : bI P = 1 := if_pos h
theorem bI_f {P : Prop} [Decidable P] (h : ¬ P) : bI P = 0 := if_neg h
theorem bI_t' {P : Prop} [Decidable P] (h : P) : nI 1 = bI P := (bI_t h).symm
theorem bI_f' {P : Prop} [Decidable P] (h : ¬ P) : nI 0 = bI P := (bI_f h).symm
theorem bI_01 (P : Prop) [Decidable P] : bI P = 0 ∨ bI P = 1 := by by_cases h : P <;> simp [bI, h]
theorem bI_c {P P' : Prop} [Decidable P] [Decidable P'] (h : P ↔ P') : bI P = bI P' := by by_cases h1 : P <;> simp [bI, h1, ← h]
theorem lN_ne0 {n : Nat} (h0 : 0 < n) (h : n < 2 ^ 63) : ¬ lN n = 0 := fun q => by
  have := (pk_lEQ (b := 0) h (by decide)).mp q
  omega
theorem z0I : (0 : Int32).toInt = 0 := by decide
abbrev uF (F : Nat → Nat) (k x : Nat) : Nat → Nat := fun j => if j = k then x else F j
theorem uF_s {F : Nat → Nat} {k x : Nat} : uF F k x k = x := if_pos rfl
theorem uF_n {F : Nat → Nat} {k x j : Nat} (h : j ≠ k) : uF F k x j = F j := if_neg h
abbrev aI (cA : ClassId) (n : Nat) (F : Nat → Nat) : va_E := .inl (cA, n, .inl (fun j => nI (F j)))
abbrev aJ (cA : ClassId) (n : Nat) (F : Nat → Nat) : va_E := .inl (cA, n, .inr (.inl (fun j => lN (F j))))

theorem zi_add {a b : Nat} (hexec : p.tables.exec = Jvm.exec) (hb : c.code = cc) (hdg : decode cc pc = .ok (.iadd, 1))
    (k : W p l e R s m args below meth c H locs cells slots Q (F0 m (pc + 1) ls (.int (nI (a + b)) :: rest))) : W p l e R s m args below meth c H locs cells slots Q (F0 m pc ls (.int (nI b) :: .int (nI a) :: rest)) :=
  lv_iadd hexec hb hdg (by rw [nI_add]; exact k)
theorem zi_sub {a b : Nat} (hexec : p.tables.exec = Jvm.exec) (hb : c.code = cc) (hdg : decode cc pc = .ok (.isub, 1)) (h : b ≤ a)
    (k : W p l e R s m args below meth c H locs cells slots Q (F0 m (pc + 1) ls (.int (nI (a - b)) :: rest))) : W p l e R s m args below meth c H locs cells slots Q (F0 m pc ls (.int (nI b) :: .int (nI a) :: rest)) :=
  lv_isub hexec hb hdg (by rw [pk_sub h]; exact k)
theorem zi_mul {a b : Nat} (hexec : p.tables.exec = Jvm.exec) (hb : c.code = cc) (hdg : decode cc pc = .ok (.imul, 1))
    (k : W p l e R s m args below meth c H locs cells slots Q (F0 m (pc + 1) ls (.int (nI (a * b)) :: rest))) : W p l e R s m args below meth c H locs cells slots Q (F0 m pc ls (.int (nI b) :: .int (nI a) :: rest)) :=
  lv_imul hexec hb hdg (by rw [pk_mul]; exact k)
theorem zi_div {a b : Nat} (hexec : p.tables.exec = Jvm.exec) (hb : c.code = cc) (hdg : decode cc pc = .ok (.idiv, 1)) (ha : a < 2 ^ 31) (h0 : 0 < b) (h1 : b < 2 ^ 31)
    (k : W p l e R s m args below meth c H locs cells slots Q (F0 m (pc + 1) ls (.int (nI (a / b)) :: rest))) : W p l e R s m args below meth c H locs cells slots Q (F0 m pc ls (.int (nI b) :: .int (nI a) :: rest)) :=
  lv_idiv hexec hb hdg (nI_ne0 h0 h1) (by rw [pk_div ha h0 h1]; exact k)
theorem zi_rem {a b : Nat} (hexec : p.tables.exec = Jvm.exec) (hb : c.code = cc) (hdg : decode cc pc = .ok (.irem, 1)) (ha : a < 2 ^ 31) (h0 : 0 < b) (h1 : b < 2 ^ 31)
    (k : W p l e R s m args below meth c H locs cells slots Q (F0 m (pc + 1) ls (.int (nI (a % b)) :: rest))) : W p l e R s m args below meth c H locs cells slots Q (F0 m pc ls (.int (nI b) :: .int (nI a) :: rest)) :=
  lv_irem hexec hb hdg (nI_ne0 h0 h1) (by rw [pk_rem ha h0 h1]; exact k)
theorem zl_add {a b : Nat} (hexec : p.tables.exec = Jvm.exec) (hb : c.code = cc) (hdg : decode cc pc = .ok (.ladd, 1))
    (k : W p l e R s m args below meth c H locs cells slots Q (F0 m (pc + 1) ls (.long (lN (a + b)) :: rest))) : W p l e R s m args below meth c H locs cells slots Q (F0 m pc ls (.long (lN b) :: .long (lN a) :: rest)) :=
  lv_ladd hexec hb hdg (by rw [lN_add]; exact k)
theorem zl_sub {a b : Nat} (hexec : p.tables.exec = Jvm.exec) (hb : c.code = cc) (hdg : decode cc pc = .ok (.lsub, 1)) (h : b ≤ a)
    (k : W p l e R s m args below meth c H locs cells slots Q (F0 m (pc + 1) ls (.long (lN (a - b)) :: rest))) : W p l e R s m args below meth c H locs cells slots Q (F0 m pc ls (.long (lN b) :: .long (lN a) :: rest)) :=
  lv_lsub hexec hb hdg (by rw [lN_sub h]; exact k)
theorem zl_mul {a b : Nat} (hexec : p.tables.exec = Jvm.exec) (hb : c.code = cc) (hdg : decode cc pc = .ok (.lmul, 1))
    (k : W p l e R s m args below meth c H locs cells slots Q (F0 m (pc + 1) ls (.long (lN (a * b)) :: rest))) : W p l e R s m args below meth c H locs cells slots Q (F0 m pc ls (.long (lN b) :: .long (lN a) :: rest)) :=
  lv_lmul hexec hb hdg (by rw [lN_mul]; exact k)
theorem zl_div {a b : Nat} (hexec : p.tables.exec = Jvm.exec) (hb : c.code = cc) (hdg : decode cc pc = .ok (.ldiv, 1)) (ha : a < 2 ^ 63) (h0 : 0 < b) (h1 : b < 2 ^ 63)
    (k : W p l e R s m args below meth c H locs cells slots Q (F0 m (pc + 1) ls (.long (lN (a / b)) :: rest))) : W p l e R s m args below meth c H locs cells slots Q (F0 m pc ls (.long (lN b) :: .long (lN a) :: rest)) :=
  lv_ldiv hexec hb hdg (lN_ne0 h0 h1) (by rw [pk_lDiv ha h0 h1]; exact k)
theorem zl_rem {a b : Nat} (hexec : p.tables.exec = Jvm.exec) (hb : c.code = cc) (hdg : decode cc pc = .ok (.lrem, 1)) (ha : a < 2 ^ 63) (h0 : 0 < b) (h1 : b < 2 ^ 63)
    (k : W p l e R s m args below meth c H locs cells slots Q (F0 m (pc + 1) ls (.long (lN (a % b)) :: rest))) : W p l e R s m args below meth c H locs cells slots Q (F0 m pc ls (.long (lN b) :: .long (lN a) :: rest)) :=
  lv_lrem hexec hb hdg (lN_ne0 h0 h1) (by rw [pk_lRem ha h0 h1]; exact k)
theorem z_i2l {a : Nat} (hexec : p.tables.exec = Jvm.exec) (hb : c.code = cc) (hdg : decode cc pc = .ok (.i2l, 1)) (h : a < 2 ^ 31)
    (k : W p l e R s m args below meth c H locs cells slots Q (F0 m (pc + 1) ls (.long (lN a) :: rest))) : W p l e R s m args below meth c H locs cells slots Q (F0 m pc ls (.int (nI a) :: rest)) :=
  lv_i2l hexec hb hdg (nI_l h) k
theorem z_l2i {a : Nat} (hexec : p.tables.exec = Jvm.exec) (hb : c.code = cc) (hdg : decode cc pc = .ok (.l2i, 1))
    (k : W p l e R s m args below meth c H locs cells slots Q (F0 m (pc + 1) ls (.int (nI a) :: rest))) : W p l e R s m args below meth c H locs cells slots Q (F0 m pc ls (.long (lN a) :: rest)) :=
  lv_l2i hexec hb hdg (lN_i a) k
theorem zi_lt {a b : Nat} {off : Int} {tgt : Nat} (hexec : p.tables.exec = Jvm.exec) (hb : c.code = cc) (hdg : decode cc pc = .ok (.if_icmp .lt off, 3)) (ht : (pc : Int) + off = (tgt : Int)) (ha : a < 2 ^ 31) (hb2 : b < 2 ^ 31)
    (kt : a < b → W p l e R s m args below meth c H locs cells slots Q (F0 m tgt ls rest)) (kf : b ≤ a → W p l e R s m args below meth c H locs cells slots Q (F0 m (pc + 3) ls rest)) : W p l e R s m args below meth c H locs cells slots Q (F0 m pc ls (.int (nI b) :: .int (nI a) :: rest)) :=
  lv_icmp_lt hexec hb hdg ht (fun h => kt ((nI_ltI ha hb2).mp h)) (fun h => kf (Nat.not_lt.mp fun q => h ((nI_ltI ha hb2).mpr q)))
theorem zi_ge {a b : Nat} {off : Int} {tgt : Nat} (hexec : p.tables.exec = Jvm.exec) (hb : c.code = cc) (hdg : decode cc pc = .ok (.if_icmp .ge off, 3)) (ht : (pc : Int) + off = (tgt : Int)) (ha : a < 2 ^ 31) (hb2 : b < 2 ^ 31)
    (kt : b ≤ a → W p l e R s m args below meth c H locs cells slots Q (F0 m tgt ls rest)) (kf : a < b → W p l e R s m args below meth c H locs cells slots Q (F0 m (pc + 3) ls rest)) : W p l e R s m args below meth c H locs cells slots Q (F0 m pc ls (.int (nI b) :: .int (nI a) :: rest)) :=
  lv_icmp_ge hexec hb hdg ht (fun h => kt ((nI_leI hb2 ha).mp h)) (fun h => kf (Nat.not_le.mp fun q => h ((nI_leI hb2 ha).mpr q)))
theorem zi_gt {a b : Nat} {off : Int} {tgt : Nat} (hexec : p.tables.exec = Jvm.exec) (hb : c.code = cc) (hdg : decode cc pc = .ok (.if_icmp .gt off, 3)) (ht : (pc : Int) + off = (tgt : Int)) (ha : a < 2 ^ 31) (hb2 : b < 2 ^ 31)
    (kt : b < a → W p l e R s m args below meth c H locs cells slots Q (F0 m tgt ls rest)) (kf : a ≤ b → W p l e R s m args below meth c H locs cells slots Q (F0 m (pc + 3) ls rest)) : W p l e R s m args below meth c H locs cells slots Q (F0 m pc ls (.int (nI b) :: .int (nI a) :: rest)) :=
  lv_icmp_gt hexec hb hdg ht (fun h => kt ((nI_ltI hb2 ha).mp h)) (fun h => kf (Nat.not_lt.mp fun q => h ((nI_ltI hb2 ha).mpr q)))
theorem zi_le {a b : Nat} {off : Int} {tgt : Nat} (hexec : p.tables.exec = Jvm.exec) (hb : c.code = cc) (hdg : decode cc pc = .ok (.if_icmp .le off, 3)) (ht : (pc : Int) + off = (tgt : Int)) (ha : a < 2 ^ 31) (hb2 : b < 2 ^ 31)
    (kt : a ≤ b → W p l e R s m args below meth c H locs cells slots Q (F0 m tgt ls rest)) (kf : b < a → W p l e R s m args below meth c H locs cells slots Q (F0 m (pc + 3) ls rest)) : W p l e R s m args below meth c H locs cells slots Q (F0 m pc ls (.int (nI b) :: .int (nI a) :: rest)) :=
  lv_icmp_le hexec hb hdg ht (fun h => kt ((nI_leI ha hb2).mp h)) (fun h => kf (Nat.not_le.mp fun q => h ((nI_leI ha hb2).mpr q)))
theorem zi_eq {a b : Nat} {off : Int} {tgt : Nat} (hexec : p.tables.exec = Jvm.exec) (hb : c.code = cc) (hdg : decode cc pc = .ok (.if_icmp .eq off, 3)) (ht : (pc : Int) + off = (tgt : Int)) (ha : a < 2 ^ 31) (hb2 : b < 2 ^ 31)
    (kt : a = b → W p l e R s m args below meth c H locs cells slots Q (F0 m tgt ls rest)) (kf : ¬ a = b → W p l e R s m args below meth c H locs cells slots Q (F0 m (pc + 3) ls rest)) : W p l e R s m args below meth c H locs cells slots Q (F0 m pc ls (.int (nI b) :: .int (nI a) :: rest)) :=
  lv_icmp_eq hexec hb hdg ht (fun h => kt ((nI_eq ha hb2).mp h)) (fun h => kf (fun q => h ((nI_eq ha hb2).mpr q)))
theorem zi_ne {a b : Nat} {off : Int} {tgt : Nat} (hexec : p.tables.exec = Jvm.exec) (hb : c.code = cc) (hdg : decode cc pc = .ok (.if_icmp .ne off, 3)) (ht : (pc : Int) + off = (tgt : Int)) (ha : a < 2 ^ 31) (hb2 : b < 2 ^ 31)
    (kt : ¬ a = b → W p l e R s m args below meth c H locs cells slots Q (F0 m tgt ls rest)) (kf : a = b → W p l e R s m args below meth c H locs cells slots Q (F0 m (pc + 3) ls rest)) : W p l e R s m args below meth c H locs cells slots Q (F0 m pc ls (.int (nI b) :: .int (nI a) :: rest)) :=
  lv_icmp_ne hexec hb hdg ht (fun h => kt (fun q => h ((nI_eq ha hb2).mpr q))) (fun h => kf ((nI_eq ha hb2).mp h))
theorem zr_lt {x y : Int64} {off : Int} {tgt : Nat} (hexec : p.tables.exec = Jvm.exec) (hb : c.code = cc) (h1 : decode cc pc = .ok (.lcmp, 1)) (h2 : decode cc (pc + 1) = .ok (.ifCond .lt off, 3)) (ht : ((pc + 1 : Nat) : Int) + off = (tgt : Int))
    (kt : x.toInt < y.toInt → W p l e R s m args below meth c H locs cells slots Q (F0 m tgt ls rest)) (kf : y.toInt ≤ x.toInt → W p l e R s m args below meth c H locs cells slots Q (F0 m (pc + 4) ls rest)) : W p l e R s m args below meth c H locs cells slots Q (F0 m pc ls (.long y :: .long x :: rest)) :=
  W.lcmp hexec hb h1 (lv_if_lt hexec hb h2 ht (fun h => kt (by have h := (lg_cmp_lt x y).mp h; rw [Int64.lt_iff_toInt_lt] at h; exact h)) (fun h => kf (Int.not_lt.mp fun q => h ((lg_cmp_lt x y).mpr (Int64.lt_iff_toInt_lt.mpr q)))))
theorem zl_lt {a b : Nat} {off : Int} {tgt : Nat} (hexec : p.tables.exec = Jvm.exec) (hb : c.code = cc) (h1 : decode cc pc = .ok (.lcmp, 1)) (h2 : decode cc (pc + 1) = .ok (.ifCond .lt off, 3)) (ht : ((pc + 1 : Nat) : Int) + off = (tgt : Int)) (ha : a < 2 ^ 63) (hb2 : b < 2 ^ 63)
    (kt : a < b → W p l e R s m args below meth c H locs cells slots Q (F0 m tgt ls rest)) (kf : b ≤ a → W p l e R s m args below meth c H locs cells slots Q (F0 m (pc + 4) ls rest)) : W p l e R s m args below meth c H locs cells slots Q (F0 m pc ls (.long (lN b) :: .long (lN a) :: rest)) :=
  zr_lt hexec hb h1 h2 ht (fun h => kt (by rw [pk_lT ha, pk_lT hb2] at h; omega)) (fun h => kf (by rw [pk_lT ha, pk_lT hb2] at h; omega))
theorem zr_ge {x y : Int64} {off : Int} {tgt : Nat} (hexec : p.tables.exec = Jvm.exec) (hb : c.code = cc) (h1 : decode cc pc = .ok (.lcmp, 1)) (h2 : decode cc (pc + 1) = .ok (.ifCond .ge off, 3)) (ht : ((pc + 1 : Nat) : Int) + off = (tgt : Int))
    (kt : y.toInt ≤ x.toInt → W p l e R s m args below meth c H locs cells slots Q (F0 m tgt ls rest)) (kf : x.toInt < y.toInt → W p l e R s m args below meth c H locs cells slots Q (F0 m (pc + 4) ls rest)) : W p l e R s m args below meth c H locs cells slots Q (F0 m pc ls (.long y :: .long x :: rest)) :=
  W.lcmp hexec hb h1 (lv_if_ge hexec hb h2 ht (fun h => kt (by have h := (lg_cmp_ge x y).mp h; rw [Int64.le_iff_toInt_le] at h; exact h)) (fun h => kf (Int.not_le.mp fun q => h ((lg_cmp_ge x y).mpr (Int64.le_iff_toInt_le.mpr q)))))
theorem zl_ge {a b : Nat} {off : Int} {tgt : Nat} (hexec : p.tables.exec = Jvm.exec) (hb : c.code = cc) (h1 : decode cc pc = .ok (.lcmp, 1)) (h2 : decode cc (pc + 1) = .ok (.ifCond .ge off, 3)) (ht : ((pc + 1 : Nat) : Int) + off = (tgt : Int)) (ha : a < 2 ^ 63) (hb2 : b < 2 ^ 63)
    (kt : b ≤ a → W p l e R s m args below meth c H locs cells slots Q (F0 m tgt ls rest)) (kf : a < b → W p l e R s m args below meth c H locs cells slots Q (F0 m (pc + 4) ls rest)) : W p l e R s m args below meth c H locs cells slots Q (F0 m pc ls (.long (lN b) :: .long (lN a) :: rest)) :=
  zr_ge hexec hb h1 h2 ht (fun h => kt (by rw [pk_lT ha, pk_lT hb2] at h; omega)) (fun h => kf (by rw [pk_lT ha, pk_lT hb2] at h; omega))
theorem zr_gt {x y : Int64} {off : Int} {tgt : Nat} (hexec : p.tables.exec = Jvm.exec) (hb : c.code = cc) (h1 : decode cc pc = .ok (.lcmp, 1)) (h2 : decode cc (pc + 1) = .ok (.ifCond .gt off, 3)) (ht : ((pc + 1 : Nat) : Int) + off = (tgt : Int))
    (kt : y.toInt < x.toInt → W p l e R s m args below meth c H locs cells slots Q (F0 m tgt ls rest)) (kf : x.toInt ≤ y.toInt → W p l e R s m args below meth c H locs cells slots Q (F0 m (pc + 4) ls rest)) : W p l e R s m args below meth c H locs cells slots Q (F0 m pc ls (.long y :: .long x :: rest)) :=
  W.lcmp hexec hb h1 (lv_if_gt hexec hb h2 ht (fun h => kt (by have h := (lg_cmp_gt x y).mp h; rw [Int64.lt_iff_toInt_lt] at h; exact h)) (fun h => kf (Int.not_lt.mp fun q => h ((lg_cmp_gt x y).mpr (Int64.lt_iff_toInt_lt.mpr q)))))
theorem zl_gt {a b : Nat} {off : Int} {tgt : Nat} (hexec : p.tables.exec = Jvm.exec) (hb : c.code = cc) (h1 : decode cc pc = .ok (.lcmp, 1)) (h2 : decode cc (pc + 1) = .ok (.ifCond .gt off, 3)) (ht : ((pc + 1 : Nat) : Int) + off = (tgt : Int)) (ha : a < 2 ^ 63) (hb2 : b < 2 ^ 63)
    (kt : b < a → W p l e R s m args below meth c H locs cells slots Q (F0 m tgt ls rest)) (kf : a ≤ b → W p l e R s m args below meth c H locs cells slots Q (F0 m (pc + 4) ls rest)) : W p l e R s m args below meth c H locs cells slots Q (F0 m pc ls (.long (lN b) :: .long (lN a) :: rest)) :=
  zr_gt hexec hb h1 h2 ht (fun h => kt (by rw [pk_lT ha, pk_lT hb2] at h; omega)) (fun h => kf (by rw [pk_lT ha, pk_lT hb2] at h; omega))
theorem zr_le {x y : Int64} {off : Int} {tgt : Nat} (hexec : p.tables.exec = Jvm.exec) (hb : c.code = cc) (h1 : decode cc pc = .ok (.lcmp, 1)) (h2 : decode cc (pc + 1) = .ok (.ifCond .le off, 3)) (ht : ((pc + 1 : Nat) : Int) + off = (tgt : Int))
    (kt : x.toInt ≤ y.toInt → W p l e R s m args below meth c H locs cells slots Q (F0 m tgt ls rest)) (kf : y.toInt < x.toInt → W p l e R s m args below meth c H locs cells slots Q (F0 m (pc + 4) ls rest)) : W p l e R s m args below meth c H locs cells slots Q (F0 m pc ls (.long y :: .long x :: rest)) :=
  W.lcmp hexec hb h1 (lv_if_le hexec hb h2 ht (fun h => kt (by have h := (lg_cmp_le x y).mp h; rw [Int64.le_iff_toInt_le] at h; exact h)) (fun h => kf (Int.not_le.mp fun q => h ((lg_cmp_le x y).mpr (Int64.le_iff_toInt_le.mpr q)))))
theorem zl_le {a b : Nat} {off : Int} {tgt : Nat} (hexec : p.tables.exec = Jvm.exec) (hb : c.code = cc) (h1 : decode cc pc = .ok (.lcmp, 1)) (h2 : decode cc (pc + 1) = .ok (.ifCond .le off, 3)) (ht : ((pc + 1 : Nat) : Int) + off = (tgt : Int)) (ha : a < 2 ^ 63) (hb2 : b < 2 ^ 63)
    (kt : a ≤ b → W p l e R s m args below meth c H locs cells slots Q (F0 m tgt ls rest)) (kf : b < a → W p l e R s m args below meth c H locs cells slots Q (F0 m (pc + 4) ls rest)) : W p l e R s m args below meth c H locs cells slots Q (F0 m pc ls (.long (lN b) :: .long (lN a) :: rest)) :=
  zr_le hexec hb h1 h2 ht (fun h => kt (by rw [pk_lT ha, pk_lT hb2] at h; omega)) (fun h => kf (by rw [pk_lT ha, pk_lT hb2] at h; omega))
theorem zr_eq {x y : Int64} {off : Int} {tgt : Nat} (hexec : p.tables.exec = Jvm.exec) (hb : c.code = cc) (h1 : decode cc pc = .ok (.lcmp, 1)) (h2 : decode cc (pc + 1) = .ok (.ifCond .eq off, 3)) (ht : ((pc + 1 : Nat) : Int) + off = (tgt : Int))
    (kt : x.toInt = y.toInt → W p l e R s m args below meth c H locs cells slots Q (F0 m tgt ls rest)) (kf : ¬ x.toInt = y.toInt → W p l e R s m args below meth c H locs cells slots Q (F0 m (pc + 4) ls rest)) : W p l e R s m args below meth c H locs cells slots Q (F0 m pc ls (.long y :: .long x :: rest)) :=
  W.lcmp hexec hb h1 (lv_if_eq hexec hb h2 ht (fun h => kt (by rw [(lg_cmp_eq x y).mp h])) (fun h => kf (fun q => h ((lg_cmp_eq x y).mpr (Int64.toInt_inj.mp q)))))
theorem zl_eq {a b : Nat} {off : Int} {tgt : Nat} (hexec : p.tables.exec = Jvm.exec) (hb : c.code = cc) (h1 : decode cc pc = .ok (.lcmp, 1)) (h2 : decode cc (pc + 1) = .ok (.ifCond .eq off, 3)) (ht : ((pc + 1 : Nat) : Int) + off = (tgt : Int)) (ha : a < 2 ^ 63) (hb2 : b < 2 ^ 63)
    (kt : a = b → W p l e R s m args below meth c H locs cells slots Q (F0 m tgt ls rest)) (kf : ¬ a = b → W p l e R s m args below meth c H locs cells slots Q (F0 m (pc + 4) ls rest)) : W p l e R s m args below meth c H locs cells slots Q (F0 m pc ls (.long (lN b) :: .long (lN a) :: rest)) :=
  zr_eq hexec hb h1 h2 ht (fun h => kt (by rw [pk_lT ha, pk_lT hb2] at h; omega)) (fun h => kf (by rw [pk_lT ha, pk_lT hb2] at h; omega))
theorem zr_ne {x y : Int64} {off : Int} {tgt : Nat} (hexec : p.tables.exec = Jvm.exec) (hb : c.code = cc) (h1 : decode cc pc = .ok (.lcmp, 1)) (h2 : decode cc (pc + 1) = .ok (.ifCond .ne off, 3)) (ht : ((pc + 1 : Nat) : Int) + off = (tgt : Int))
    (kt : ¬ x.toInt = y.toInt → W p l e R s m args below meth c H locs cells slots Q (F0 m tgt ls rest)) (kf : x.toInt = y.toInt → W p l e R s m args below meth c H locs cells slots Q (F0 m (pc + 4) ls rest)) : W p l e R s m args below meth c H locs cells slots Q (F0 m pc ls (.long y :: .long x :: rest)) :=
  W.lcmp hexec hb h1 (lv_if_ne hexec hb h2 ht (fun h => kt (fun q => h ((lg_cmp_eq x y).mpr (Int64.toInt_inj.mp q)))) (fun h => kf (by rw [(lg_cmp_eq x y).mp h])))
theorem zl_ne {a b : Nat} {off : Int} {tgt : Nat} (hexec : p.tables.exec = Jvm.exec) (hb : c.code = cc) (h1 : decode cc pc = .ok (.lcmp, 1)) (h2 : decode cc (pc + 1) = .ok (.ifCond .ne off, 3)) (ht : ((pc + 1 : Nat) : Int) + off = (tgt : Int)) (ha : a < 2 ^ 63) (hb2 : b < 2 ^ 63)
    (kt : ¬ a = b → W p l e R s m args below meth c H locs cells slots Q (F0 m tgt ls rest)) (kf : a = b → W p l e R s m args below meth c H locs cells slots Q (F0 m (pc + 4) ls rest)) : W p l e R s m args below meth c H locs cells slots Q (F0 m pc ls (.long (lN b) :: .long (lN a) :: rest)) :=
  zr_ne hexec hb h1 h2 ht (fun h => kt (by rw [pk_lT ha, pk_lT hb2] at h; omega)) (fun h => kf (by rw [pk_lT ha, pk_lT hb2] at h; omega))
theorem zq_lt {x y : Int32} {off : Int} {tgt : Nat} (hexec : p.tables.exec = Jvm.exec) (hb : c.code = cc) (hdg : decode cc pc = .ok (.if_icmp .lt off, 3)) (ht : (pc : Int) + off = (tgt : Int))
    (kt : x.toInt < y.toInt → W p l e R s m args below meth c H locs cells slots Q (F0 m tgt ls rest)) (kf : y.toInt ≤ x.toInt → W p l e R s m args below meth c H locs cells slots Q (F0 m (pc + 3) ls rest)) : W p l e R s m args below meth c H locs cells slots Q (F0 m pc ls (.int y :: .int x :: rest)) :=
  lv_icmp_lt hexec hb hdg ht (fun h => kt (by rw [Int32.lt_iff_toInt_lt] at h; omega)) (fun h => kf (by rw [Int32.lt_iff_toInt_lt] at h; omega))
theorem zq_if_lt {x : Int32} {off : Int} {tgt : Nat} (hexec : p.tables.exec = Jvm.exec) (hb : c.code = cc) (hdg : decode cc pc = .ok (.ifCond .lt off, 3)) (ht : (pc : Int) + off = (tgt : Int))
    (kt : x.toInt < 0 → W p l e R s m args below meth c H locs cells slots Q (F0 m tgt ls rest)) (kf : 0 ≤ x.toInt → W p l e R s m args below meth c H locs cells slots Q (F0 m (pc + 3) ls rest)) : W p l e R s m args below meth c H locs cells slots Q (F0 m pc ls (.int x :: rest)) :=
  lv_if_lt hexec hb hdg ht (fun h => kt (by rw [Int32.lt_iff_toInt_lt, z0I] at h; omega)) (fun h => kf (by rw [Int32.lt_iff_toInt_lt, z0I] at h; omega))
theorem zq_ge {x y : Int32} {off : Int} {tgt : Nat} (hexec : p.tables.exec = Jvm.exec) (hb : c.code = cc) (hdg : decode cc pc = .ok (.if_icmp .ge off, 3)) (ht : (pc : Int) + off = (tgt : Int))
    (kt : y.toInt ≤ x.toInt → W p l e R s m args below meth c H locs cells slots Q (F0 m tgt ls rest)) (kf : x.toInt < y.toInt → W p l e R s m args below meth c H locs cells slots Q (F0 m (pc + 3) ls rest)) : W p l e R s m args below meth c H locs cells slots Q (F0 m pc ls (.int y :: .int x :: rest)) :=
  lv_icmp_ge hexec hb hdg ht (fun h => kt (by rw [Int32.le_iff_toInt_le] at h; omega)) (fun h => kf (by rw [Int32.le_iff_toInt_le] at h; omega))
theorem zq_if_ge {x : Int32} {off : Int} {tgt : Nat} (hexec : p.tables.exec = Jvm.exec) (hb : c.code = cc) (hdg : decode cc pc = .ok (.ifCond .ge off, 3)) (ht : (pc : Int) + off = (tgt : Int))
    (kt : 0 ≤ x.toInt → W p l e R s m args below meth c H locs cells slots Q (F0 m tgt ls rest)) (kf : x.toInt < 0 → W p l e R s m args below meth c H locs cells slots Q (F0 m (pc + 3) ls rest)) : W p l e R s m args below meth c H locs cells slots Q (F0 m pc ls (.int x :: rest)) :=
  lv_if_ge hexec hb hdg ht (fun h => kt (by rw [Int32.le_iff_toInt_le, z0I] at h; omega)) (fun h => kf (by rw [Int32.le_iff_toInt_le, z0I] at h; omega))
theorem zq_gt {x y : Int32} {off : Int} {tgt : Nat} (hexec : p.tables.exec = Jvm.exec) (hb : c.code = cc) (hdg : decode cc pc = .ok (.if_icmp .gt off, 3)) (ht : (pc : Int) + off = (tgt : Int))
    (kt : y.toInt < x.toInt → W p l e R s m args below meth c H locs cells slots Q (F0 m tgt ls rest)) (kf : x.toInt ≤ y.toInt → W p l e R s m args below meth c H locs cells slots Q (F0 m (pc + 3) ls rest)) : W p l e R s m args below meth c H locs cells slots Q (F0 m pc ls (.int y :: .int x :: rest)) :=
  lv_icmp_gt hexec hb hdg ht (fun h => kt (by rw [Int32.lt_iff_toInt_lt] at h; omega)) (fun h => kf (by rw [Int32.lt_iff_toInt_lt] at h; omega))
theorem zq_if_gt {x : Int32} {off : Int} {tgt : Nat} (hexec : p.tables.exec = Jvm.exec) (hb : c.code = cc) (hdg : decode cc pc = .ok (.ifCond .gt off, 3)) (ht : (pc : Int) + off = (tgt : Int))
    (kt : 0 < x.toInt → W p l e R s m args below meth c H locs cells slots Q (F0 m tgt ls rest)) (kf : x.toInt ≤ 0 → W p l e R s m args below meth c H locs cells slots Q (F0 m (pc + 3) ls rest)) : W p l e R s m args below meth c H locs cells slots Q (F0 m pc ls (.int x :: rest)) :=
  lv_if_gt hexec hb hdg ht (fun h => kt (by rw [Int32.lt_iff_toInt_lt, z0I] at h; omega)) (fun h => kf (by rw [Int32.lt_iff_toInt_lt, z0I] at h; omega))
theorem zq_le {x y : Int32} {off : Int} {tgt : Nat} (hexec : p.tables.exec = Jvm.exec) (hb : c.code = cc) (hdg : decode cc pc = .ok (.if_icmp .le off, 3)) (ht : (pc : Int) + off = (tgt : Int))
    (kt : x.toInt ≤ y.toInt → W p l e R s m args below meth c H locs cells slots Q (F0 m tgt ls rest)) (kf : y.toInt < x.toInt → W p l e R s m args below meth c H locs cells slots Q (F0 m (pc + 3) ls rest)) : W p l e R s m args below meth c H locs cells slots Q (F0 m pc ls (.int y :: .int x :: rest)) :=
  lv_icmp_le hexec hb hdg ht (fun h => kt (by rw [Int32.le_iff_toInt_le] at h; omega)) (fun h => kf (by rw [Int32.le_iff_toInt_le] at h; omega))
theorem zq_if_le {x : Int32} {off : Int} {tgt : Nat} (hexec : p.tables.exec = Jvm.exec) (hb : c.code = cc) (hdg : decode cc pc = .ok (.ifCond .le off, 3)) (ht : (pc : Int) + off = (tgt : Int))
    (kt : x.toInt ≤ 0 → W p l e R s m args below meth c H locs cells slots Q (F0 m tgt ls rest)) (kf : 0 < x.toInt → W p l e R s m args below meth c H locs cells slots Q (F0 m (pc + 3) ls rest)) : W p l e R s m args below meth c H locs cells slots Q (F0 m pc ls (.int x :: rest)) :=
  lv_if_le hexec hb hdg ht (fun h => kt (by rw [Int32.le_iff_toInt_le, z0I] at h; omega)) (fun h => kf (by rw [Int32.le_iff_toInt_le, z0I] at h; omega))
theorem zq_eq {x y : Int32} {off : Int} {tgt : Nat} (hexec : p.tables.exec = Jvm.exec) (hb : c.code = cc) (hdg : decode cc pc = .ok (.if_icmp .eq off, 3)) (ht : (pc : Int) + off = (tgt : Int))
    (kt : x.toInt = y.toInt → W p l e R s m args below meth c H locs cells slots Q (F0 m tgt ls rest)) (kf : ¬ x.toInt = y.toInt → W p l e R s m args below meth c H locs cells slots Q (F0 m (pc + 3) ls rest)) : W p l e R s m args below meth c H locs cells slots Q (F0 m pc ls (.int y :: .int x :: rest)) :=
  lv_icmp_eq hexec hb hdg ht (fun h => kt (by rw [← Int32.toInt_inj] at h; omega)) (fun h => kf (by rw [← Int32.toInt_inj] at h; omega))
theorem zq_if_eq {x : Int32} {off : Int} {tgt : Nat} (hexec : p.tables.exec = Jvm.exec) (hb : c.code = cc) (hdg : decode cc pc = .ok (.ifCond .eq off, 3)) (ht : (pc : Int) + off = (tgt : Int))
    (kt : x.toInt = 0 → W p l e R s m args below meth c H locs cells slots Q (F0 m tgt ls rest)) (kf : ¬ x.toInt = 0 → W p l e R s m args below meth c H locs cells slots Q (F0 m (pc + 3) ls rest)) : W p l e R s m args below meth c H locs cells slots Q (F0 m pc ls (.int x :: rest)) :=
  lv_if_eq hexec hb hdg ht (fun h => kt (by rw [← Int32.toInt_inj, z0I] at h; omega)) (fun h => kf (by rw [← Int32.toInt_inj, z0I] at h; omega))
theorem zq_ne {x y : Int32} {off : Int} {tgt : Nat} (hexec : p.tables.exec = Jvm.exec) (hb : c.code = cc) (hdg : decode cc pc = .ok (.if_icmp .ne off, 3)) (ht : (pc : Int) + off = (tgt : Int))
    (kt : ¬ x.toInt = y.toInt → W p l e R s m args below meth c H locs cells slots Q (F0 m tgt ls rest)) (kf : x.toInt = y.toInt → W p l e R s m args below meth c H locs cells slots Q (F0 m (pc + 3) ls rest)) : W p l e R s m args below meth c H locs cells slots Q (F0 m pc ls (.int y :: .int x :: rest)) :=
  lv_icmp_ne hexec hb hdg ht (fun h => kt (by rw [← Int32.toInt_inj] at h; omega)) (fun h => kf (by rw [← Int32.toInt_inj] at h; omega))
theorem zq_if_ne {x : Int32} {off : Int} {tgt : Nat} (hexec : p.tables.exec = Jvm.exec) (hb : c.code = cc) (hdg : decode cc pc = .ok (.ifCond .ne off, 3)) (ht : (pc : Int) + off = (tgt : Int))
    (kt : ¬ x.toInt = 0 → W p l e R s m args below meth c H locs cells slots Q (F0 m tgt ls rest)) (kf : x.toInt = 0 → W p l e R s m args below meth c H locs cells slots Q (F0 m (pc + 3) ls rest)) : W p l e R s m args below meth c H locs cells slots Q (F0 m pc ls (.int x :: rest)) :=
  lv_if_ne hexec hb hdg ht (fun h => kt (by rw [← Int32.toInt_inj, z0I] at h; omega)) (fun h => kf (by rw [← Int32.toInt_inj, z0I] at h; omega))
theorem zi_if_eq {a : Nat} {off : Int} {tgt : Nat} (hexec : p.tables.exec = Jvm.exec) (hb : c.code = cc) (hdg : decode cc pc = .ok (.ifCond .eq off, 3)) (ht : (pc : Int) + off = (tgt : Int)) (ha : a < 2 ^ 31)
    (kt : a = 0 → W p l e R s m args below meth c H locs cells slots Q (F0 m tgt ls rest)) (kf : 0 < a → W p l e R s m args below meth c H locs cells slots Q (F0 m (pc + 3) ls rest)) : W p l e R s m args below meth c H locs cells slots Q (F0 m pc ls (.int (nI a) :: rest)) :=
  zq_if_eq hexec hb hdg ht (fun h => kt (by rw [nI_toInt ha] at h; omega)) (fun h => kf (by rw [nI_toInt ha] at h; omega))
theorem zi_if_ne {a : Nat} {off : Int} {tgt : Nat} (hexec : p.tables.exec = Jvm.exec) (hb : c.code = cc) (hdg : decode cc pc = .ok (.ifCond .ne off, 3)) (ht : (pc : Int) + off = (tgt : Int)) (ha : a < 2 ^ 31)
    (kt : 0 < a → W p l e R s m args below meth c H locs cells slots Q (F0 m tgt ls rest)) (kf : a = 0 → W p l e R s m args below meth c H locs cells slots Q (F0 m (pc + 3) ls rest)) : W p l e R s m args below meth c H locs cells slots Q (F0 m pc ls (.int (nI a) :: rest)) :=
  zq_if_ne hexec hb hdg ht (fun h => kt (by rw [nI_toInt ha] at h; omega)) (fun h => kf (by rw [nI_toInt ha] at h; omega))
theorem zi_if_gt {a : Nat} {off : Int} {tgt : Nat} (hexec : p.tables.exec = Jvm.exec) (hb : c.code = cc) (hdg : decode cc pc = .ok (.ifCond .gt off, 3)) (ht : (pc : Int) + off = (tgt : Int)) (ha : a < 2 ^ 31)
    (kt : 0 < a → W p l e R s m args below meth c H locs cells slots Q (F0 m tgt ls rest)) (kf : a = 0 → W p l e R s m args below meth c H locs cells slots Q (F0 m (pc + 3) ls rest)) : W p l e R s m args below meth c H locs cells slots Q (F0 m pc ls (.int (nI a) :: rest)) :=
  zq_if_gt hexec hb hdg ht (fun h => kt (by rw [nI_toInt ha] at h; omega)) (fun h => kf (by rw [nI_toInt ha] at h; omega))
theorem zi_if_le {a : Nat} {off : Int} {tgt : Nat} (hexec : p.tables.exec = Jvm.exec) (hb : c.code = cc) (hdg : decode cc pc = .ok (.ifCond .le off, 3)) (ht : (pc : Int) + off = (tgt : Int)) (ha : a < 2 ^ 31)
    (kt : a = 0 → W p l e R s m args below meth c H locs cells slots Q (F0 m tgt ls rest)) (kf : 0 < a → W p l e R s m args below meth c H locs cells slots Q (F0 m (pc + 3) ls rest)) : W p l e R s m args below meth c H locs cells slots Q (F0 m pc ls (.int (nI a) :: rest)) :=
  zq_if_le hexec hb hdg ht (fun h => kt (by rw [nI_toInt ha] at h; omega)) (fun h => kf (by rw [nI_toInt ha] at h; omega))
theorem zi_if_lt {a : Nat} {off : Int} {tgt : Nat} (hexec : p.tables.exec = Jvm.exec) (hb : c.code = cc) (hdg : decode cc pc = .ok (.ifCond .lt off, 3)) (ht : (pc : Int) + off = (tgt : Int)) (ha : a < 2 ^ 31)
    (kt : a < 0 → W p l e R s m args below meth c H locs cells slots Q (F0 m tgt ls rest)) (kf : 0 ≤ a → W p l e R s m args below meth c H locs cells slots Q (F0 m (pc + 3) ls rest)) : W p l e R s m args below meth c H locs cells slots Q (F0 m pc ls (.int (nI a) :: rest)) :=
  zq_if_lt hexec hb hdg ht (fun h => kt (by rw [nI_toInt ha] at h; omega)) (fun h => kf (by rw [nI_toInt ha] at h; omega))
theorem zi_if_ge {a : Nat} {off : Int} {tgt : Nat} (hexec : p.tables.exec = Jvm.exec) (hb : c.code = cc) (hdg : decode cc pc = .ok (.ifCond .ge off, 3)) (ht : (pc : Int) + off = (tgt : Int)) (ha : a < 2 ^ 31)
    (kt : 0 ≤ a → W p l e R s m args below meth c H locs cells slots Q (F0 m tgt ls rest)) (kf : a < 0 → W p l e R s m args below meth c H locs cells slots Q (F0 m (pc + 3) ls rest)) : W p l e R s m args below meth c H locs cells slots Q (F0 m pc ls (.int (nI a) :: rest)) :=
  zq_if_ge hexec hb hdg ht (fun h => kt (by rw [nI_toInt ha] at h; omega)) (fun h => kf (by rw [nI_toInt ha] at h; omega))
theorem zb_eq {P : Prop} [Decidable P] {off : Int} {tgt : Nat} (hexec : p.tables.exec = Jvm.exec) (hb : c.code = cc) (hdg : decode cc pc = .ok (.ifCond .eq off, 3)) (ht : (pc : Int) + off = (tgt : Int))
    (kt : ¬ P → W p l e R s m args below meth c H locs cells slots Q (F0 m tgt ls rest)) (kf : P → W p l e R s m args below meth c H locs cells slots Q (F0 m (pc + 3) ls rest)) : W p l e R s m args below meth c H locs cells slots Q (F0 m pc ls (.int (bI P) :: rest)) :=
  lv_if_eq hexec hb hdg ht (fun h => kt (fun q => by rw [bI_t q] at h; exact absurd h (by decide))) (fun h => kf (Classical.byContradiction fun q => h (bI_f q)))
theorem zb_ne {P : Prop} [Decidable P] {off : Int} {tgt : Nat} (hexec : p.tables.exec = Jvm.exec) (hb : c.code = cc) (hdg : decode cc pc = .ok (.ifCond .ne off, 3)) (ht : (pc : Int) + off = (tgt : Int))
    (kt : P → W p l e R s m args below meth c H locs cells slots Q (F0 m tgt ls rest)) (kf : ¬ P → W p l e R s m args below meth c H locs cells slots Q (F0 m (pc + 3) ls rest)) : W p l e R s m args below meth c H locs cells slots Q (F0 m pc ls (.int (bI P) :: rest)) :=
  lv_if_ne hexec hb hdg ht (fun h => kt (Classical.byContradiction fun q => h (bI_f q))) (fun h => kf (fun q => by rw [bI_t q] at h; exact absurd h (by decide)))
theorem zi_ald {D : va_G} {ws : va_W} {tys : List (ClassId × FieldType)} {a : Nat} (hexec : p.tables.exec = Jvm.exec) (hb : c.code = cc) (hK : va_K D vwCl tys s) (hP : va_P D vwCl ws H) (q0 t0 : Nat) {cA : ClassId} {n : Nat} {F : Nat → Nat} (ha : ws[q0]? = some (a, aI cA n F)) (ht : tys[t0]? = some (cA, .int)) {k : Nat} (hk : k < n) (hn : n < 2 ^ 31) (hdg : decode cc pc = .ok (.iaload, 1))
    (kk : W p l e R s m args below meth c H locs cells slots Q (F0 m (pc + 1) ls (.int (nI (F k)) :: rest))) : W p l e R s m args below meth c H locs cells slots Q (F0 m pc ls (.int (nI k) :: .ref a :: rest)) :=
  va_iald hexec hb hK hP q0 t0 ha ht (vp_in_nI hk hn) hdg (by rw [nI_clamp (Nat.lt_trans hk hn)]; exact kk)
theorem zl_ald {D : va_G} {ws : va_W} {tys : List (ClassId × FieldType)} {a : Nat} (hexec : p.tables.exec = Jvm.exec) (hb : c.code = cc) (hK : va_K D vwCl tys s) (hP : va_P D vwCl ws H) (q0 t0 : Nat) {cA : ClassId} {n : Nat} {F : Nat → Nat} (ha : ws[q0]? = some (a, aJ cA n F)) (ht : tys[t0]? = some (cA, .long)) {k : Nat} (hk : k < n) (hn : n < 2 ^ 31) (hdg : decode cc pc = .ok (.laload, 1))
    (kk : W p l e R s m args below meth c H locs cells slots Q (F0 m (pc + 1) ls (.long (lN (F k)) :: rest))) : W p l e R s m args below meth c H locs cells slots Q (F0 m pc ls (.int (nI k) :: .ref a :: rest)) :=
  va_lald hexec hb hK hP q0 t0 ha ht (vp_in_nI hk hn) hdg (by rw [nI_clamp (Nat.lt_trans hk hn)]; exact kk)
theorem uF_i (F : Nat → Nat) (k x : Nat) : upd (fun j => nI (F j)) k (nI x) = fun j => nI (uF F k x j) := by
  funext j
  by_cases h : j = k <;> simp [upd, uF, h]
theorem uF_l (F : Nat → Nat) (k x : Nat) : vp_updL (fun j => lN (F j)) k (lN x) = fun j => lN (uF F k x j) := by
  funext j
  by_cases h : j = k <;> simp [vp_updL, uF, h]
theorem zi_ast {D : va_G} {ws : va_W} {tys : List (ClassId × FieldType)} {a : Nat} {A : Nat → Prop} {H0 : Heap} (hexec : p.tables.exec = Jvm.exec) (hb : c.code = cc) (hK : va_K D vwCl tys s) (hP : va_P D vwCl ws H) (hD : va_D A ws) (hS : va_S A H0 H locs) (q0 t0 : Nat) {cA : ClassId} {n : Nat} {F : Nat → Nat} (ha : ws[q0]? = some (a, aI cA n F)) (ht : tys[t0]? = some (cA, .int)) {k x : Nat} (hk : k < n) (hn : n < 2 ^ 31) (hdg : decode cc pc = .ok (.iastore, 1))
    (kk : ∀ (H : Heap) (locs : List Loc), va_P D vwCl (ws.set q0 (a, aI cA n (uF F k x))) H → va_D A (ws.set q0 (a, aI cA n (uF F k x))) → va_S A H0 H locs → W p l e R s m args below meth c H locs cells slots Q (F0 m (pc + 1) ls rest)) : W p l e R s m args below meth c H locs cells slots Q (F0 m pc ls (.int (nI x) :: .int (nI k) :: .ref a :: rest)) :=
  va_iast hexec hb hK hP hD hS q0 t0 ha ht (vp_in_nI hk hn) hdg (fun H1 l1 h1 h2 h3 => by rw [nI_clamp (Nat.lt_trans hk hn), uF_i] at h1 h2; exact kk H1 l1 h1 h2 h3)
theorem zl_ast {D : va_G} {ws : va_W} {tys : List (ClassId × FieldType)} {a : Nat} {A : Nat → Prop} {H0 : Heap} (hexec : p.tables.exec = Jvm.exec) (hb : c.code = cc) (hK : va_K D vwCl tys s) (hP : va_P D vwCl ws H) (hD : va_D A ws) (hS : va_S A H0 H locs) (q0 t0 : Nat) {cA : ClassId} {n : Nat} {F : Nat → Nat} (ha : ws[q0]? = some (a, aJ cA n F)) (ht : tys[t0]? = some (cA, .long)) {k x : Nat} (hk : k < n) (hn : n < 2 ^ 31) (hdg : decode cc pc = .ok (.lastore, 1))
    (kk : ∀ (H : Heap) (locs : List Loc), va_P D vwCl (ws.set q0 (a, aJ cA n (uF F k x))) H → va_D A (ws.set q0 (a, aJ cA n (uF F k x))) → va_S A H0 H locs → W p l e R s m args below meth c H locs cells slots Q (F0 m (pc + 1) ls rest)) : W p l e R s m args below meth c H locs cells slots Q (F0 m pc ls (.long (lN x) :: .int (nI k) :: .ref a :: rest)) :=
  va_last hexec hb hK hP hD hS q0 t0 ha ht (vp_in_nI hk hn) hdg (fun H1 l1 h1 h2 h3 => by rw [nI_clamp (Nat.lt_trans hk hn), uF_l] at h1 h2; exact kk H1 l1 h1 h2 h3)
end ZZ
/-- a method that reads (its answer: .int) -/
def RO_i (l : Launch) (y : MethodName) (ws : List Cond) (rm : Room) (D : va_G) (Wd : va_W) (tys : List (ClassId × FieldType)) (As : List Value) (post : Int32 → Prop) : Prop :=
  ∀ sz : Nat, Met l y ws rm (va_Pc As (fun U => U.heap.size = sz ∧ va_P D vwCl Wd U.heap ∧ va_K D vwCl tys U)) (va_Qi (fun r (_ : Unit) => post r) (fun _ _ => True) (va_A [] sz)) 0 0 (va_A [] sz)
/-- a method that reads (its answer: .long) -/
def RO_l (l : Launch) (y : MethodName) (ws : List Cond) (rm : Room) (D : va_G) (Wd : va_W) (tys : List (ClassId × FieldType)) (As : List Value) (post : Int64 → Prop) : Prop :=
  ∀ sz : Nat, Met l y ws rm (va_Pc As (fun U => U.heap.size = sz ∧ va_P D vwCl Wd U.heap ∧ va_K D vwCl tys U)) (va_Ql (fun r (_ : Unit) => post r) (fun _ _ => True) (va_A [] sz)) 0 0 (va_A [] sz)
theorem RO_i.of {l : Launch} {y : MethodName} {ws ws' : List Cond} {rm : Room} {D : va_G} {Wd : va_W} {tys : List (ClassId × FieldType)} {As : List Value} {post : Int32 → Prop} {cc : ByteArray} {maxL : Nat} (hy : plainName y.cls = true) (hw : ws = Cond.code y cc maxL (some .int) :: ws') (hlen : (lg_sl As).length ≤ maxL)
    (body : ∀ (p : Program) (e : Env) (s : State) (m : MethodId) (args : Array Value) (below : List Frame) (meth : Method) (c : Code) (ls : Array Slot) (A : Nat → Prop) (Q : State → Prop), p.tables.exec = Jvm.exec → c.code = cc → c.maxLocals = maxL → (∀ w ∈ ws, w.before args s = true) → s.vm.findClass y.cls = some m.cls → (∀ q, s.heap.size ≤ q → A q) → va_P D vwCl Wd s.heap → va_K D vwCl tys s → lv_has ls maxL (lv_args 0 As) →
      (∀ (v : Int32) (H : Heap) (locs : List Loc) (ls : Array Slot) (pc : Nat), va_S A s.heap H locs → post v → decode cc pc = .ok (.ireturn, 1) → W p l e rm s m args below meth c H locs 0 0 Q (F0 m pc ls [.int v])) → W p l e rm s m args below meth c s.heap [] 0 0 Q (F0 m 0 ls [])) : RO_i l y ws rm D Wd tys As post := by
  intro sz
  refine Met.ofW (cc := cc) (maxL := maxL) (ret := some .int) hy hw ?_
  intro p e s m args below meth c s₁ B hml hv
  obtain ⟨rfl, hsz, hP, hK⟩ := hv
  subst hsz
  have hl := lv_entry As (n := maxL) hlen
  rw [lg_entry_eq]
  exact body p e s m _ below meth c _ (va_A [] s.heap.size) _ B.exec B.bytes hml (atoms_spec (ws := ws) B.pre) (findClass_of_methodNamed B.named) (fun q h => Or.inr h) hP hK hl (fun v H locs ls pc hS hp hd => W.iret (v := v) B.exec B.bytes B.returns (fun t ht hW => ⟨⟨v, (), rfl, hp, trivial⟩, hS.F ht⟩) hS.2.2 hd (hlocks := B.notSynchronized))
theorem RO_i.ofz {l : Launch} {y : MethodName} {ws ws' : List Cond} {rm : Room} {D : va_G} {Wd : va_W} {tys : List (ClassId × FieldType)} {As : List Value} {post : Int32 → Prop} {cc : ByteArray} {maxL : Nat} (hy : plainName y.cls = true) (hw : ws = Cond.code y cc maxL (some .boolean) :: ws') (hlen : (lg_sl As).length ≤ maxL)
    (body : ∀ (p : Program) (e : Env) (s : State) (m : MethodId) (args : Array Value) (below : List Frame) (meth : Method) (c : Code) (ls : Array Slot) (A : Nat → Prop) (Q : State → Prop), p.tables.exec = Jvm.exec → c.code = cc → c.maxLocals = maxL → (∀ w ∈ ws, w.before args s = true) → s.vm.findClass y.cls = some m.cls → (∀ q, s.heap.size ≤ q → A q) → va_P D vwCl Wd s.heap → va_K D vwCl tys s → lv_has ls maxL (lv_args 0 As) →
      (∀ (v : Int32) (H : Heap) (locs : List Loc) (ls : Array Slot) (pc : Nat), va_S A s.heap H locs → (v = 0 ∨ v = 1) → post v → decode cc pc = .ok (.ireturn, 1) → W p l e rm s m args below meth c H locs 0 0 Q (F0 m pc ls [.int v])) → W p l e rm s m args below meth c s.heap [] 0 0 Q (F0 m 0 ls [])) : RO_i l y ws rm D Wd tys As post := by
  intro sz
  refine Met.ofW (cc := cc) (maxL := maxL) (ret := some .boolean) hy hw ?_
  intro p e s m args below meth c s₁ B hml hv
  obtain ⟨rfl, hsz, hP, hK⟩ := hv
  subst hsz
  have hl := lv_entry As (n := maxL) hlen
  rw [lg_entry_eq]
  exact body p e s m _ below meth c _ (va_A [] s.heap.size) _ B.exec B.bytes hml (atoms_spec (ws := ws) B.pre) (findClass_of_methodNamed B.named) (fun q h => Or.inr h) hP hK hl (fun v H locs ls pc hS hz hp hd => W.zret (v := v) B.exec B.bytes B.returns (by rcases hz with h | h <;> (rw [h]; rfl)) (fun t ht hW => ⟨⟨v, (), rfl, hp, trivial⟩, hS.F ht⟩) hS.2.2 hd (hlocks := B.notSynchronized))
theorem RO_l.of {l : Launch} {y : MethodName} {ws ws' : List Cond} {rm : Room} {D : va_G} {Wd : va_W} {tys : List (ClassId × FieldType)} {As : List Value} {post : Int64 → Prop} {cc : ByteArray} {maxL : Nat} (hy : plainName y.cls = true) (hw : ws = Cond.code y cc maxL (some .long) :: ws') (hlen : (lg_sl As).length ≤ maxL)
    (body : ∀ (p : Program) (e : Env) (s : State) (m : MethodId) (args : Array Value) (below : List Frame) (meth : Method) (c : Code) (ls : Array Slot) (A : Nat → Prop) (Q : State → Prop), p.tables.exec = Jvm.exec → c.code = cc → c.maxLocals = maxL → (∀ w ∈ ws, w.before args s = true) → s.vm.findClass y.cls = some m.cls → (∀ q, s.heap.size ≤ q → A q) → va_P D vwCl Wd s.heap → va_K D vwCl tys s → lv_has ls maxL (lv_args 0 As) →
      (∀ (v : Int64) (H : Heap) (locs : List Loc) (ls : Array Slot) (pc : Nat), va_S A s.heap H locs → post v → decode cc pc = .ok (.lreturn, 1) → W p l e rm s m args below meth c H locs 0 0 Q (F0 m pc ls [.long v])) → W p l e rm s m args below meth c s.heap [] 0 0 Q (F0 m 0 ls [])) : RO_l l y ws rm D Wd tys As post := by
  intro sz
  refine Met.ofW (cc := cc) (maxL := maxL) (ret := some .long) hy hw ?_
  intro p e s m args below meth c s₁ B hml hv
  obtain ⟨rfl, hsz, hP, hK⟩ := hv
  subst hsz
  have hl := lv_entry As (n := maxL) hlen
  rw [lg_entry_eq]
  exact body p e s m _ below meth c _ (va_A [] s.heap.size) _ B.exec B.bytes hml (atoms_spec (ws := ws) B.pre) (findClass_of_methodNamed B.named) (fun q h => Or.inr h) hP hK hl (fun v H locs ls pc hS hp hd => W.lret (v := v) B.exec B.bytes B.returns (fun t ht hW => ⟨⟨v, (), rfl, hp, trivial⟩, hS.F ht⟩) hS.2.2 hd (hlocks := B.notSynchronized))
theorem zk_A0 {n q : Nat} (h : va_A [] n q) : n ≤ q := by
  rcases h with ⟨i, e, h⟩ | h
  · simp at h
  · exact h
theorem zk_ro {D : va_G} {ws : va_W} {H H1 : Heap} (hP : va_P D vwCl ws H) (hk : ∀ q : Nat, q < H.size → ¬ va_A [] H.size q → H1[q]? = H[q]?) : va_P D vwCl ws H1 :=
  hP.kept (fun k q hq => hk q.1 (hP k q hq).lt (fun h => absurd (zk_A0 h) (Nat.not_le.mpr (hP k q hq).lt)))
theorem RO_i.callS {p : Program} {l : Launch} {e : Env} {R : Room} {s : State} {m : MethodId} {args : Array Value} {below : List Frame} {meth : Method} {c : Code} {H : Heap} {locs : List Loc} {cells slots : Nat} {Q : State → Prop} {cc bytes : ByteArray} {pc nL maxL n index : Nat} {ls : Array Slot} {st rest : List Value} {y : MethodName} {ws Ts : List Cond} {rm : Room} {D : va_G} {Wd W0 : va_W} {tys tys0 : List (ClassId × FieldType)} {own : String} {ret : Option FieldType} {A : Nat → Prop} {As : List Value} {post : Int32 → Prop} (hM : RO_i l y ws rm D Wd tys As post) (S : CallFix p m c cc nL s args Ts own) (cw : CallB R s args own index y bytes maxL ret ws rm 0 0 n ∧ (Cond.static y).before args s = true) (hK : va_K D vwCl tys0 s) (hP : va_P D vwCl W0 H) (hS : va_S A s.heap H locs) (hA : ∀ q, s.heap.size ≤ q → A q) (is js : List Nat) (his : is.filterMap (fun i => W0[i]?) = Wd) (hjs : js.filterMap (fun i => tys0[i]?) = tys) (hn : As.length = n) (hsize : ls.size = nL) (hst : st = As.reverse ++ rest) (hW : (rest.map fun v => v.category).sum ≤ 8) (hdg : decode cc pc = .ok (.invokestatic index, 3)) (hf : cells ≤ R.cells ∧ slots ≤ R.slots)
    (kk : ∀ (v : Int32) (H : Heap) (locs : List Loc), post v → va_P D vwCl W0 H → va_S A s.heap H locs → W p l e R s m args below meth c H locs cells slots Q (F0 m (pc + 3) ls (.int v :: rest))) : W p l e R s m args below meth c H locs cells slots Q (F0 m pc ls st) :=
  va_calli (va_runS (As := As) (rest := rest) S (hM H.size) cw ⟨fun a U g mk q => by obtain ⟨q0, q1, qP, qK⟩ := q; exact ⟨q0, q1, qP, va_K.moved (u := U) (U := U.calling g mk a) (Vm.Alike.refl U.vm) qK⟩, fun U hU hW => ⟨rfl, by rw [hU], by rw [hU]; exact hP.sub is his, va_K.moved hW.alike (hK.sub js hjs)⟩⟩ rfl hn hsize hst (lv_room hW) hdg hf) hS (fun q h1 h2 => absurd (zk_A0 h2) (Nat.not_le.mpr h1)) (fun q h => hA q (Nat.le_trans hS.1 (zk_A0 h))) (fun v u t H1 l1 ht hvm hw hB hz hk hS1 => kk v H1 l1 hw (zk_ro hP hk) hS1)
theorem RO_i.callV {p : Program} {l : Launch} {e : Env} {R : Room} {s : State} {m : MethodId} {args : Array Value} {below : List Frame} {meth : Method} {c : Code} {H : Heap} {locs : List Loc} {cells slots : Nat} {Q : State → Prop} {cc bytes : ByteArray} {pc nL maxL n index : Nat} {ls : Array Slot} {st rest : List Value} {y : MethodName} {ws Ts : List Cond} {rm : Room} {D : va_G} {Wd W0 : va_W} {tys tys0 : List (ClassId × FieldType)} {own : String} {ret : Option FieldType} {A : Nat → Prop} {b : Nat} {As : List Value} {post : Int32 → Prop} {C : String} (hM : RO_i l y ws rm D Wd tys (.ref b :: As) post) (S : CallFix p m c cc nL s args Ts own) (cw : CallW R s args own C index y bytes maxL ret ws rm 0 0 n) (hK : va_K D vwCl tys0 s) (hP : va_P D vwCl W0 H) (hS : va_S A s.heap H locs) (hA : ∀ q, s.heap.size ≤ q → A q) (is js : List Nat) (his : is.filterMap (fun i => W0[i]?) = Wd) (hjs : js.filterMap (fun i => tys0[i]?) = tys) (q0 ci : Nat) {qc : vw_C} {fs : List Value} (hci : vwCl[ci]? = some qc) (hq0 : W0[q0]? = some (b, .inr (ci, fs))) (hC : qc.1 = C) (hn : As.length = n) (hsize : ls.size = nL) (hst : st = As.reverse ++ .ref b :: rest) (hW : (rest.map fun v => v.category).sum ≤ 8) (hdg : decode cc pc = .ok (.invokevirtual index, 3)) (hf : cells ≤ R.cells ∧ slots ≤ R.slots)
    (kk : ∀ (v : Int32) (H : Heap) (locs : List Loc), post v → va_P D vwCl W0 H → va_S A s.heap H locs → W p l e R s m args below meth c H locs cells slots Q (F0 m (pc + 3) ls (.int v :: rest))) : W p l e R s m args below meth c H locs cells slots Q (F0 m pc ls st) :=
  va_calli (va_runV (As := As) (rest := rest) S (hM H.size) cw ⟨fun a U g mk q => by obtain ⟨q0, q1, qP, qK⟩ := q; exact ⟨q0, q1, qP, va_K.moved (u := U) (U := U.calling g mk a) (Vm.Alike.refl U.vm) qK⟩, by subst hC; exact va_recv hK hP hci hq0, fun U hU hW => ⟨rfl, by rw [hU], by rw [hU]; exact hP.sub is his, va_K.moved hW.alike (hK.sub js hjs)⟩⟩ rfl hn hsize hst (lv_room hW) hdg hf) hS (fun q h1 h2 => absurd (zk_A0 h2) (Nat.not_le.mpr h1)) (fun q h => hA q (Nat.le_trans hS.1 (zk_A0 h))) (fun v u t H1 l1 ht hvm hw hB hz hk hS1 => kk v H1 l1 hw (zk_ro hP hk) hS1)
theorem RO_l.callS {p : Program} {l : Launch} {e : Env} {R : Room} {s : State} {m : MethodId} {args : Array Value} {below : List Frame} {meth : Method} {c : Code} {H : Heap} {locs : List Loc} {cells slots : Nat} {Q : State → Prop} {cc bytes : ByteArray} {pc nL maxL n index : Nat} {ls : Array Slot} {st rest : List Value} {y : MethodName} {ws Ts : List Cond} {rm : Room} {D : va_G} {Wd W0 : va_W} {tys tys0 : List (ClassId × FieldType)} {own : String} {ret : Option FieldType} {A : Nat → Prop} {As : List Value} {post : Int64 → Prop} (hM : RO_l l y ws rm D Wd tys As post) (S : CallFix p m c cc nL s args Ts own) (cw : CallB R s args own index y bytes maxL ret ws rm 0 0 n ∧ (Cond.static y).before args s = true) (hK : va_K D vwCl tys0 s) (hP : va_P D vwCl W0 H) (hS : va_S A s.heap H locs) (hA : ∀ q, s.heap.size ≤ q → A q) (is js : List Nat) (his : is.filterMap (fun i => W0[i]?) = Wd) (hjs : js.filterMap (fun i => tys0[i]?) = tys) (hn : As.length = n) (hsize : ls.size = nL) (hst : st = As.reverse ++ rest) (hW : (rest.map fun v => v.category).sum ≤ 8) (hdg : decode cc pc = .ok (.invokestatic index, 3)) (hf : cells ≤ R.cells ∧ slots ≤ R.slots)
    (kk : ∀ (v : Int64) (H : Heap) (locs : List Loc), post v → va_P D vwCl W0 H → va_S A s.heap H locs → W p l e R s m args below meth c H locs cells slots Q (F0 m (pc + 3) ls (.long v :: rest))) : W p l e R s m args below meth c H locs cells slots Q (F0 m pc ls st) :=
  va_calll (va_runS (As := As) (rest := rest) S (hM H.size) cw ⟨fun a U g mk q => by obtain ⟨q0, q1, qP, qK⟩ := q; exact ⟨q0, q1, qP, va_K.moved (u := U) (U := U.calling g mk a) (Vm.Alike.refl U.vm) qK⟩, fun U hU hW => ⟨rfl, by rw [hU], by rw [hU]; exact hP.sub is his, va_K.moved hW.alike (hK.sub js hjs)⟩⟩ rfl hn hsize hst (lv_room hW) hdg hf) hS (fun q h1 h2 => absurd (zk_A0 h2) (Nat.not_le.mpr h1)) (fun q h => hA q (Nat.le_trans hS.1 (zk_A0 h))) (fun v u t H1 l1 ht hvm hw hB hz hk hS1 => kk v H1 l1 hw (zk_ro hP hk) hS1)
theorem RO_l.callV {p : Program} {l : Launch} {e : Env} {R : Room} {s : State} {m : MethodId} {args : Array Value} {below : List Frame} {meth : Method} {c : Code} {H : Heap} {locs : List Loc} {cells slots : Nat} {Q : State → Prop} {cc bytes : ByteArray} {pc nL maxL n index : Nat} {ls : Array Slot} {st rest : List Value} {y : MethodName} {ws Ts : List Cond} {rm : Room} {D : va_G} {Wd W0 : va_W} {tys tys0 : List (ClassId × FieldType)} {own : String} {ret : Option FieldType} {A : Nat → Prop} {b : Nat} {As : List Value} {post : Int64 → Prop} {C : String} (hM : RO_l l y ws rm D Wd tys (.ref b :: As) post) (S : CallFix p m c cc nL s args Ts own) (cw : CallW R s args own C index y bytes maxL ret ws rm 0 0 n) (hK : va_K D vwCl tys0 s) (hP : va_P D vwCl W0 H) (hS : va_S A s.heap H locs) (hA : ∀ q, s.heap.size ≤ q → A q) (is js : List Nat) (his : is.filterMap (fun i => W0[i]?) = Wd) (hjs : js.filterMap (fun i => tys0[i]?) = tys) (q0 ci : Nat) {qc : vw_C} {fs : List Value} (hci : vwCl[ci]? = some qc) (hq0 : W0[q0]? = some (b, .inr (ci, fs))) (hC : qc.1 = C) (hn : As.length = n) (hsize : ls.size = nL) (hst : st = As.reverse ++ .ref b :: rest) (hW : (rest.map fun v => v.category).sum ≤ 8) (hdg : decode cc pc = .ok (.invokevirtual index, 3)) (hf : cells ≤ R.cells ∧ slots ≤ R.slots)
    (kk : ∀ (v : Int64) (H : Heap) (locs : List Loc), post v → va_P D vwCl W0 H → va_S A s.heap H locs → W p l e R s m args below meth c H locs cells slots Q (F0 m (pc + 3) ls (.long v :: rest))) : W p l e R s m args below meth c H locs cells slots Q (F0 m pc ls st) :=
  va_calll (va_runV (As := As) (rest := rest) S (hM H.size) cw ⟨fun a U g mk q => by obtain ⟨q0, q1, qP, qK⟩ := q; exact ⟨q0, q1, qP, va_K.moved (u := U) (U := U.calling g mk a) (Vm.Alike.refl U.vm) qK⟩, by subst hC; exact va_recv hK hP hci hq0, fun U hU hW => ⟨rfl, by rw [hU], by rw [hU]; exact hP.sub is his, va_K.moved hW.alike (hK.sub js hjs)⟩⟩ rfl hn hsize hst (lv_room hW) hdg hf) hS (fun q h1 h2 => absurd (zk_A0 h2) (Nat.not_le.mpr h1)) (fun q h => hA q (Nat.le_trans hS.1 (zk_A0 h))) (fun v u t H1 l1 ht hvm hw hB hz hk hS1 => kk v H1 l1 hw (zk_ro hP hk) hS1)
theorem zk_subP {D : va_G} {W0 Wd : va_W} {H : Heap} {is : List Nat} (hP : va_P D vwCl W0 H) (hC : is.map (fun i => W0[i]?) = Wd.map some) : va_P D vwCl Wd H := by
  intro k q hq
  have h1 : (is.map (fun i => W0[i]?))[k]? = some (some q) := by rw [hC, List.getElem?_map, hq]; rfl
  rw [List.getElem?_map] at h1
  cases hi : is[k]? with
  | none => rw [hi] at h1; cases h1
  | some i => rw [hi] at h1; exact hP i q (Option.some.inj h1)
/-- a method that writes its world's cells (mc cells of ms slots may be new) -/
def WR_i (l : Launch) (y : MethodName) (ws : List Cond) (rm : Room) (D : va_G) (Wd : va_W) (tys : List (ClassId × FieldType)) (As : List Value) {S : Type} (mk : S → va_W) (post : Int32 → S → Prop) (mc ms : Nat) : Prop :=
  ∀ sz : Nat, Met l y ws rm (va_Pc As (fun U => U.heap.size = sz ∧ va_P D vwCl Wd U.heap ∧ va_K D vwCl tys U ∧ va_D (fun _ => True) Wd)) (va_Qi post (fun u t => va_P D vwCl (mk u) t.heap ∧ va_D (va_A Wd sz) (mk u)) (va_A Wd sz)) mc ms (va_A Wd sz)
theorem WR_i.of {l : Launch} {y : MethodName} {ws ws' : List Cond} {rm : Room} {D : va_G} {Wd : va_W} {tys : List (ClassId × FieldType)} {As : List Value} {S : Type} {mk : S → va_W} {post : Int32 → S → Prop} {mc ms : Nat} {cc : ByteArray} {maxL : Nat} (hy : plainName y.cls = true) (hw : ws = Cond.code y cc maxL (some .int) :: ws') (hlen : (lg_sl As).length ≤ maxL)
    (body : ∀ (p : Program) (e : Env) (s : State) (m : MethodId) (args : Array Value) (below : List Frame) (meth : Method) (c : Code) (ls : Array Slot) (A : Nat → Prop) (Q : State → Prop), p.tables.exec = Jvm.exec → c.code = cc → c.maxLocals = maxL → (∀ w ∈ ws, w.before args s = true) → s.vm.findClass y.cls = some m.cls → (∀ q, s.heap.size ≤ q → A q) → va_P D vwCl Wd s.heap → va_D A Wd → va_K D vwCl tys s → lv_has ls maxL (lv_args 0 As) → meth.name = y.name →
      (∀ (v : Int32) (u : S) (H : Heap) (locs : List Loc) (ls : Array Slot) (pc : Nat), va_P D vwCl (mk u) H → va_D A (mk u) → va_S A s.heap H locs → post v u → decode cc pc = .ok (.ireturn, 1) → W p l e rm s m args below meth c H locs mc ms Q (F0 m pc ls [.int v])) → W p l e rm s m args below meth c s.heap [] 0 0 Q (F0 m 0 ls [])) : WR_i l y ws rm D Wd tys As mk post mc ms := by
  intro sz
  refine Met.ofW (cc := cc) (maxL := maxL) (ret := some .int) hy hw ?_
  intro p e s m args below meth c s₁ B hml hv
  obtain ⟨rfl, hsz, hP, hK, hD0⟩ := hv
  subst hsz
  have hl := lv_entry As (n := maxL) hlen
  rw [lg_entry_eq]
  exact body p e s m _ below meth c _ (va_A Wd s.heap.size) _ B.exec B.bytes hml (atoms_spec (ws := ws) B.pre) (findClass_of_methodNamed B.named) (fun q h => Or.inr h) hP (hD0.self (sz := s.heap.size)) hK hl (name_of_methodNamed B.named B.method).1 (fun v u H locs ls pc hP hD hS hp hd => W.iret (v := v) B.exec B.bytes B.returns (fun t ht hW => ⟨⟨v, u, rfl, hp, by rw [ht]; exact hP, hD⟩, hS.F ht⟩) hS.2.2 hd (hlocks := B.notSynchronized))
theorem WR_i.ofz {l : Launch} {y : MethodName} {ws ws' : List Cond} {rm : Room} {D : va_G} {Wd : va_W} {tys : List (ClassId × FieldType)} {As : List Value} {S : Type} {mk : S → va_W} {post : Int32 → S → Prop} {mc ms : Nat} {cc : ByteArray} {maxL : Nat} (hy : plainName y.cls = true) (hw : ws = Cond.code y cc maxL (some .boolean) :: ws') (hlen : (lg_sl As).length ≤ maxL)
    (body : ∀ (p : Program) (e : Env) (s : State) (m : MethodId) (args : Array Value) (below : List Frame) (meth : Method) (c : Code) (ls : Array Slot) (A : Nat → Prop) (Q : State → Prop), p.tables.exec = Jvm.exec → c.code = cc → c.maxLocals = maxL → (∀ w ∈ ws, w.before args s = true) → s.vm.findClass y.cls = some m.cls → (∀ q, s.heap.size ≤ q → A q) → va_P D vwCl Wd s.heap → va_D A Wd → va_K D vwCl tys s → lv_has ls maxL (lv_args 0 As) → meth.name = y.name →
      (∀ (v : Int32) (u : S) (H : Heap) (locs : List Loc) (ls : Array Slot) (pc : Nat), va_P D vwCl (mk u) H → va_D A (mk u) → va_S A s.heap H locs → (v = 0 ∨ v = 1) → post v u → decode cc pc = .ok (.ireturn, 1) → W p l e rm s m args below meth c H locs mc ms Q (F0 m pc ls [.int v])) → W p l e rm s m args below meth c s.heap [] 0 0 Q (F0 m 0 ls [])) : WR_i l y ws rm D Wd tys As mk post mc ms := by
  intro sz
  refine Met.ofW (cc := cc) (maxL := maxL) (ret := some .boolean) hy hw ?_
  intro p e s m args below meth c s₁ B hml hv
  obtain ⟨rfl, hsz, hP, hK, hD0⟩ := hv
  subst hsz
  have hl := lv_entry As (n := maxL) hlen
  rw [lg_entry_eq]
  exact body p e s m _ below meth c _ (va_A Wd s.heap.size) _ B.exec B.bytes hml (atoms_spec (ws := ws) B.pre) (findClass_of_methodNamed B.named) (fun q h => Or.inr h) hP (hD0.self (sz := s.heap.size)) hK hl (name_of_methodNamed B.named B.method).1 (fun v u H locs ls pc hP hD hS hz hp hd => W.zret (v := v) B.exec B.bytes B.returns (by rcases hz with h | h <;> (rw [h]; rfl)) (fun t ht hW => ⟨⟨v, u, rfl, hp, by rw [ht]; exact hP, hD⟩, hS.F ht⟩) hS.2.2 hd (hlocks := B.notSynchronized))
theorem WR_i.callV {p : Program} {l : Launch} {e : Env} {R : Room} {s : State} {m : MethodId} {args : Array Value} {below : List Frame} {meth : Method} {c : Code} {H : Heap} {locs : List Loc} {cells slots : Nat} {Q : State → Prop} {cc bytes : ByteArray} {pc nL maxL n index : Nat} {ls : Array Slot} {st rest : List Value} {y : MethodName} {ws Ts : List Cond} {rm : Room} {D : va_G} {Wd W0 wr : va_W} {tys tys0 : List (ClassId × FieldType)} {own : String} {ret : Option FieldType} {A : Nat → Prop} {b : Nat} {As : List Value} {S : Type} {mk : S → va_W} {post : Int32 → S → Prop} {mc ms : Nat} {C : String} (hM : WR_i l y ws rm D Wd tys (.ref b :: As) mk post mc ms) (Sx : CallFix p m c cc nL s args Ts own) (cw : CallW R s args own C index y bytes maxL ret ws rm mc ms n) (hK : va_K D vwCl tys0 s) (hP : va_P D vwCl W0 H) (hD : va_D A W0) (hS : va_S A s.heap H locs) (hA : ∀ q, s.heap.size ≤ q → A q) (isC isR js : List Nat) (hC : isC.map (fun i => W0[i]?) = Wd.map some) (hR : isR.map (fun i => W0[i]?) = wr.map some) (hn1 : va_nd isR = true) (hn2 : va_nd isC = true) (hdis : ∀ i ∈ isR, i ∉ isC) (hjs : js.filterMap (fun i => tys0[i]?) = tys) (q0 ci : Nat) {qc : vw_C} {fs : List Value} (hci : vwCl[ci]? = some qc) (hq0 : W0[q0]? = some (b, .inr (ci, fs))) (hCn : qc.1 = C) (hn : As.length = n) (hsize : ls.size = nL) (hst : st = As.reverse ++ .ref b :: rest) (hW : (rest.map fun v => v.category).sum ≤ 8) (hdg : decode cc pc = .ok (.invokevirtual index, 3)) (hf : cells + mc ≤ R.cells ∧ slots + ms ≤ R.slots)
    (kk : ∀ (v : Int32) (u : S) (H : Heap) (locs : List Loc), post v u → va_P D vwCl (wr ++ mk u) H → va_D A (wr ++ mk u) → va_S A s.heap H locs → W p l e R s m args below meth c H locs (cells + mc) (slots + ms) Q (F0 m (pc + 3) ls (.int v :: rest))) : W p l e R s m args below meth c H locs cells slots Q (F0 m pc ls st) := by
  have hFc := va_free (wc := Wd) hD hS hA isC hC
  refine va_calli (va_runV (As := As) (rest := rest) Sx (hM H.size) cw ⟨fun a U g mk q => by obtain ⟨q0, q1, qP, qK, qD⟩ := q; exact ⟨q0, q1, qP, va_K.moved (u := U) (U := U.calling g mk a) (Vm.Alike.refl U.vm) qK, qD⟩, by subst hCn; exact va_recv hK hP hci hq0, fun U hU hW => ⟨rfl, by rw [hU], by rw [hU]; exact zk_subP hP hC, va_K.moved hW.alike (hK.sub js hjs), (hD.sub isC hn2 hC).weaken (fun _ _ _ _ => trivial)⟩⟩ rfl hn hsize hst (lv_room hW) hdg hf) hS (fun q _ h => hFc q h) hFc (fun v u t H1 l1 ht hvm hw hB hz hk hS1 => ?_)
  obtain ⟨hP1, hD1⟩ := hB
  rw [ht] at hP1
  obtain ⟨hP2, hD2⟩ := va_join (wr := wr) (w1 := mk u) hP hD isC isR hC hR hn1 hdis hk hFc hP1 hD1
  exact kk v u H1 l1 hw hP2 hD2 hS1
/-- a method that writes its world's cells (mc cells of ms slots may be new) -/
def WR_v (l : Launch) (y : MethodName) (ws : List Cond) (rm : Room) (D : va_G) (Wd : va_W) (tys : List (ClassId × FieldType)) (As : List Value) {S : Type} (mk : S → va_W) (post : S → Prop) (mc ms : Nat) : Prop :=
  ∀ sz : Nat, Met l y ws rm (va_Pc As (fun U => U.heap.size = sz ∧ va_P D vwCl Wd U.heap ∧ va_K D vwCl tys U ∧ va_D (fun _ => True) Wd)) (va_Qv post (fun u t => va_P D vwCl (mk u) t.heap ∧ va_D (va_A Wd sz) (mk u)) (va_A Wd sz)) mc ms (va_A Wd sz)
theorem WR_v.of {l : Launch} {y : MethodName} {ws ws' : List Cond} {rm : Room} {D : va_G} {Wd : va_W} {tys : List (ClassId × FieldType)} {As : List Value} {S : Type} {mk : S → va_W} {post : S → Prop} {mc ms : Nat} {cc : ByteArray} {maxL : Nat} (hy : plainName y.cls = true) (hw : ws = Cond.code y cc maxL (none) :: ws') (hlen : (lg_sl As).length ≤ maxL)
    (body : ∀ (p : Program) (e : Env) (s : State) (m : MethodId) (args : Array Value) (below : List Frame) (meth : Method) (c : Code) (ls : Array Slot) (A : Nat → Prop) (Q : State → Prop), p.tables.exec = Jvm.exec → c.code = cc → c.maxLocals = maxL → (∀ w ∈ ws, w.before args s = true) → s.vm.findClass y.cls = some m.cls → (∀ q, s.heap.size ≤ q → A q) → va_P D vwCl Wd s.heap → va_D A Wd → va_K D vwCl tys s → lv_has ls maxL (lv_args 0 As) → meth.name = y.name →
      (∀ (u : S) (H : Heap) (locs : List Loc) (ls : Array Slot) (pc : Nat), va_P D vwCl (mk u) H → va_D A (mk u) → va_S A s.heap H locs → post u → decode cc pc = .ok (.return_, 1) → W p l e rm s m args below meth c H locs mc ms Q (F0 m pc ls [])) → W p l e rm s m args below meth c s.heap [] 0 0 Q (F0 m 0 ls [])) : WR_v l y ws rm D Wd tys As mk post mc ms := by
  intro sz
  refine Met.ofW (cc := cc) (maxL := maxL) (ret := none) hy hw ?_
  intro p e s m args below meth c s₁ B hml hv
  obtain ⟨rfl, hsz, hP, hK, hD0⟩ := hv
  subst hsz
  have hl := lv_entry As (n := maxL) hlen
  rw [lg_entry_eq]
  exact body p e s m _ below meth c _ (va_A Wd s.heap.size) _ B.exec B.bytes hml (atoms_spec (ws := ws) B.pre) (findClass_of_methodNamed B.named) (fun q h => Or.inr h) hP (hD0.self (sz := s.heap.size)) hK hl (name_of_methodNamed B.named B.method).1 (fun u H locs ls pc hP hD hS hp hd => W.vret B.exec B.bytes B.returns (fun t ht hW => ⟨⟨u, rfl, hp, by rw [ht]; exact hP, hD⟩, hS.F ht⟩) hS.2.2 hd (hlocks := B.notSynchronized))
theorem WR_v.callV {p : Program} {l : Launch} {e : Env} {R : Room} {s : State} {m : MethodId} {args : Array Value} {below : List Frame} {meth : Method} {c : Code} {H : Heap} {locs : List Loc} {cells slots : Nat} {Q : State → Prop} {cc bytes : ByteArray} {pc nL maxL n index : Nat} {ls : Array Slot} {st rest : List Value} {y : MethodName} {ws Ts : List Cond} {rm : Room} {D : va_G} {Wd W0 wr : va_W} {tys tys0 : List (ClassId × FieldType)} {own : String} {ret : Option FieldType} {A : Nat → Prop} {b : Nat} {As : List Value} {S : Type} {mk : S → va_W} {post : S → Prop} {mc ms : Nat} {C : String} (hM : WR_v l y ws rm D Wd tys (.ref b :: As) mk post mc ms) (Sx : CallFix p m c cc nL s args Ts own) (cw : CallW R s args own C index y bytes maxL ret ws rm mc ms n) (hK : va_K D vwCl tys0 s) (hP : va_P D vwCl W0 H) (hD : va_D A W0) (hS : va_S A s.heap H locs) (hA : ∀ q, s.heap.size ≤ q → A q) (isC isR js : List Nat) (hC : isC.map (fun i => W0[i]?) = Wd.map some) (hR : isR.map (fun i => W0[i]?) = wr.map some) (hn1 : va_nd isR = true) (hn2 : va_nd isC = true) (hdis : ∀ i ∈ isR, i ∉ isC) (hjs : js.filterMap (fun i => tys0[i]?) = tys) (q0 ci : Nat) {qc : vw_C} {fs : List Value} (hci : vwCl[ci]? = some qc) (hq0 : W0[q0]? = some (b, .inr (ci, fs))) (hCn : qc.1 = C) (hn : As.length = n) (hsize : ls.size = nL) (hst : st = As.reverse ++ .ref b :: rest) (hW : (rest.map fun v => v.category).sum ≤ 8) (hdg : decode cc pc = .ok (.invokevirtual index, 3)) (hf : cells + mc ≤ R.cells ∧ slots + ms ≤ R.slots)
    (kk : ∀ (u : S) (H : Heap) (locs : List Loc), post u → va_P D vwCl (wr ++ mk u) H → va_D A (wr ++ mk u) → va_S A s.heap H locs → W p l e R s m args below meth c H locs (cells + mc) (slots + ms) Q (F0 m (pc + 3) ls rest)) : W p l e R s m args below meth c H locs cells slots Q (F0 m pc ls st) := by
  have hFc := va_free (wc := Wd) hD hS hA isC hC
  refine va_callv (va_runV (As := As) (rest := rest) Sx (hM H.size) cw ⟨fun a U g mk q => by obtain ⟨q0, q1, qP, qK, qD⟩ := q; exact ⟨q0, q1, qP, va_K.moved (u := U) (U := U.calling g mk a) (Vm.Alike.refl U.vm) qK, qD⟩, by subst hCn; exact va_recv hK hP hci hq0, fun U hU hW => ⟨rfl, by rw [hU], by rw [hU]; exact zk_subP hP hC, va_K.moved hW.alike (hK.sub js hjs), (hD.sub isC hn2 hC).weaken (fun _ _ _ _ => trivial)⟩⟩ rfl hn hsize hst (lv_room hW) hdg hf) hS (fun q _ h => hFc q h) hFc (fun u t H1 l1 ht hvm hw hB hz hk hS1 => ?_)
  obtain ⟨hP1, hD1⟩ := hB
  rw [ht] at hP1
  obtain ⟨hP2, hD2⟩ := va_join (wr := wr) (w1 := mk u) hP hD isC isR hC hR hn1 hdis hk hFc hP1 hD1
  exact kk u H1 l1 hw hP2 hD2 hS1
theorem z_max (a b : Nat) (ha : a < 2 ^ 31) (hb : b < 2 ^ 31) : (if nI a < nI b then nI b else nI a) = nI (max a b) := by
  rcases Nat.lt_or_ge a b with h | h
  · rw [if_pos ((nI_ltI ha hb).mpr h), Nat.max_eq_right (by omega)]
  · rw [if_neg (fun q => absurd ((nI_ltI ha hb).mp q) (by omega)), Nat.max_eq_left h]
end
section
/-- what no product passes -/
def sat (x : Nat) : Nat := min x 4611686018427387904
theorem sat_le {x : Nat} (h : x ≤ 4611686018427387904) : sat x = x := Nat.min_eq_left h
theorem sat_ge {x : Nat} (h : 4611686018427387904 ≤ x) : sat x = 4611686018427387904 := Nat.min_eq_right h
theorem sat_top (x : Nat) : sat x ≤ 4611686018427387904 := Nat.min_le_right _ _
theorem sat_lt (x : Nat) : sat x < 9223372036854775808 := Nat.lt_of_le_of_lt (sat_top x) (by decide)
theorem sat_mul (a : Nat) {b : Nat} (h : 1 ≤ b) : sat (sat a * b) = sat (a * b) := by
  rcases Nat.le_total a 4611686018427387904 with q | q
  · rw [sat_le q]
  · rw [sat_ge q, sat_ge (Nat.le_mul_of_pos_right _ h), sat_ge (Nat.le_trans q (Nat.le_mul_of_pos_right _ h))]
theorem sat_mul2 {a b : Nat} (h : 1 ≤ a) (hb : 1 ≤ b) : sat (sat a * sat b) = sat (a * b) := by
  have h1 : 1 ≤ sat b := by unfold sat; omega
  rw [sat_mul a h1, Nat.mul_comm, sat_mul b h, Nat.mul_comm]
theorem sat_pos {a : Nat} (h : 1 ≤ a) : 1 ≤ sat a := by unfold sat; omega
theorem le_sat {n x : Nat} (h : n ≤ 4611686018427387904) : n ≤ sat x ↔ n ≤ x := by unfold sat; omega
theorem sat_lt_iff {n x : Nat} (h : n ≤ 4611686018427387904) : sat x < n ↔ x < n := by unfold sat; omega
set_option maxHeartbeats 4000000 in
set_option maxRecDepth 100000 in
/-- quotient(a, b), b not 0 -/
theorem c_X3_quotient (l : Launch) (D : va_G) (a b : Nat) (ha : a < 9223372036854775808) (h0 : 1 ≤ b) (h1 : b < 9223372036854775808) : RO_l l yX3_quotient wsX3_quotient ({ frames := 0, cells := 0, slots := 0, locals := 0 } : Room) D [] [] [.long (lN a), .long (lN b)] (fun v => v = lN (a / b)) := by
  refine RO_l.of (cc := cX3_quotient) (maxL := 4) (by decide) rfl (Nat.le_of_ble_eq_true rfl) ?_
  intro p e s m args below meth c ls A Q hx hb hml hts hown hA hP hK hl hret
  have hown : s.vm.findClass RX3 = some m.cls := hown
  have hl : lv_has ls 4 [(0, .long (lN a)), (2, .long (lN b))] := hl
  have hS : va_S A s.heap s.heap [] := va_S.rf
  refine lv_lload_n hx hb dX3_quotient_0 rfl (lv_at hl 1 rfl) ?_
  refine lv_lconst (v := lN 1) hx hb dX3_quotient_1 (by decide) ?_
  refine zl_ge (tgt := 10) hx hb dX3_quotient_2 dX3_quotient_3 (by decide) (by omega) (by omega) (fun c2 => ?_) (fun c2 => ?_)
  · refine lv_lload_n hx hb dX3_quotient_10 rfl (lv_at hl 0 rfl) ?_
    refine lv_lload_n hx hb dX3_quotient_11 rfl (lv_at hl 1 rfl) ?_
    refine zl_div hx hb dX3_quotient_12 (by omega) (by omega) (by omega) ?_
    exact hret _ _ _ _ _ hS (rfl) dX3_quotient_13
  · exact False.elim (by omega)
set_option maxHeartbeats 4000000 in
set_option maxRecDepth 100000 in
/-- remainder(a, b), b not 0 -/
theorem c_X3_remainder (l : Launch) (D : va_G) (a b : Nat) (ha : a < 9223372036854775808) (h0 : 1 ≤ b) (h1 : b < 9223372036854775808) : RO_l l yX3_remainder wsX3_remainder ({ frames := 0, cells := 0, slots := 0, locals := 0 } : Room) D [] [] [.long (lN a), .long (lN b)] (fun v => v = lN (a % b)) := by
  refine RO_l.of (cc := cX3_remainder) (maxL := 4) (by decide) rfl (Nat.le_of_ble_eq_true rfl) ?_
  intro p e s m args below meth c ls A Q hx hb hml hts hown hA hP hK hl hret
  have hown : s.vm.findClass RX3 = some m.cls := hown
  have hl : lv_has ls 4 [(0, .long (lN a)), (2, .long (lN b))] := hl
  have hS : va_S A s.heap s.heap [] := va_S.rf
  refine lv_lload_n hx hb dX3_remainder_0 rfl (lv_at hl 1 rfl) ?_
  refine lv_lconst (v := lN 1) hx hb dX3_remainder_1 (by decide) ?_
  refine zl_ge (tgt := 10) hx hb dX3_remainder_2 dX3_remainder_3 (by decide) (by omega) (by omega) (fun c2 => ?_) (fun c2 => ?_)
  · refine lv_lload_n hx hb dX3_remainder_10 rfl (lv_at hl 0 rfl) ?_
    refine lv_lload_n hx hb dX3_remainder_11 rfl (lv_at hl 1 rfl) ?_
    refine zl_rem hx hb dX3_remainder_12 (by omega) (by omega) (by omega) ?_
    exact hret _ _ _ _ _ hS (rfl) dX3_remainder_13
  · exact False.elim (by omega)
set_option maxHeartbeats 4000000 in
set_option maxRecDepth 100000 in
/-- quotientUp(a, b), b not 0 -/
theorem c_X3_quotientUp (l : Launch) (D : va_G) (a b : Nat) (h0 : 1 ≤ b) (h1 : a + b < 2147483648) : RO_i l yX3_quotientUp wsX3_quotientUp ({ frames := 0, cells := 0, slots := 0, locals := 0 } : Room) D [] [] [.int (nI a), .int (nI b)] (fun v => v = nI ((a + b - 1) / b)) := by
  refine RO_i.of (cc := cX3_quotientUp) (maxL := 2) (by decide) rfl (Nat.le_of_ble_eq_true rfl) ?_
  intro p e s m args below meth c ls A Q hx hb hml hts hown hA hP hK hl hret
  have hown : s.vm.findClass RX3 = some m.cls := hown
  have hl : lv_has ls 2 [(0, .int (nI a)), (1, .int (nI b))] := hl
  have hS : va_S A s.heap s.heap [] := va_S.rf
  refine lv_iload_n hx hb dX3_quotientUp_0 rfl (lv_at hl 1 rfl) ?_
  refine lv_iconst (v := nI 1) hx hb dX3_quotientUp_1 (by decide) ?_
  refine zi_ge (tgt := 9) hx hb dX3_quotientUp_2 (by decide) (by omega) (by omega) (fun c2 => ?_) (fun c2 => ?_)
  · refine lv_iload_n hx hb dX3_quotientUp_9 rfl (lv_at hl 0 rfl) ?_
    refine lv_iload_n hx hb dX3_quotientUp_10 rfl (lv_at hl 1 rfl) ?_
    refine zi_add hx hb dX3_quotientUp_11  ?_
    refine lv_iconst (v := nI 1) hx hb dX3_quotientUp_12 (by decide) ?_
    refine zi_sub hx hb dX3_quotientUp_13 (by omega) ?_
    refine lv_iload_n hx hb dX3_quotientUp_14 rfl (lv_at hl 1 rfl) ?_
    refine zi_div hx hb dX3_quotientUp_15 (by omega) (by omega) (by omega) ?_
    exact hret _ _ _ _ _ hS (rfl) dX3_quotientUp_16
  · exact False.elim (by omega)
set_option maxHeartbeats 4000000 in
set_option maxRecDepth 100000 in
/-- product(a, b): never above 2 to the 62 -/
theorem c_X3_product (l : Launch) (D : va_G) (a b : Nat) (ha : a ≤ 4611686018427387904) (h0 : 1 ≤ b) (h1 : b ≤ 4611686018427387904) : RO_l l yX3_product wsX3_product ({ frames := 1, cells := 0, slots := 0, locals := 23 } : Room) D [] [] [.long (lN a), .long (lN b)] (fun v => v = lN (sat (a * b))) := by
  refine RO_l.of (cc := cX3_product) (maxL := 4) (by decide) rfl (Nat.le_of_ble_eq_true rfl) ?_
  intro p e s m args below meth c ls A Q hx hb hml hts hown hA hP hK hl hret
  have hown : s.vm.findClass RX3 = some m.cls := hown
  have hl : lv_has ls 4 [(0, .long (lN a)), (2, .long (lN b))] := hl
  have hS : va_S A s.heap s.heap [] := va_S.rf
  refine lv_lload_n hx hb dX3_product_0 rfl (lv_at hl 0 rfl) ?_
  refine lv_ldc2 (v := 4611686018427387904) hx hb hown (hts (.constantLong RX3 9 (4611686018427387904)) (by decide +kernel)) dX3_product_1 ?_
  refine W.eq (g2 := F0 m 4 ls [.long (lN 4611686018427387904), .long (lN a)]) rfl ?_
  refine lv_lload_n hx hb dX3_product_4 rfl (lv_at hl 1 rfl) ?_
  refine RO_l.callS (rest := [.long (lN a)]) (c_X3_quotient l D 4611686018427387904 b (by decide) h0 (by omega)) ⟨hx, hb, hml, hown, hts⟩ (va_cwS 2 hts gX3_product_X3_quotient rfl rfl rfl (by decide +kernel) ⟨Nat.le_of_ble_eq_true rfl, Nat.le_of_ble_eq_true rfl⟩) hK hP hS hA [] [] rfl rfl rfl hl.1 rfl (Nat.le_of_ble_eq_true rfl) dX3_product_5 ⟨Nat.zero_le _, Nat.zero_le _⟩ (fun v1_ H locs e1_ hP hS => ?_)
  obtain rfl : v1_ = lN (4611686018427387904 / b) := e1_
  refine zl_le (tgt := 18) hx hb dX3_product_8 dX3_product_9 (by decide) (by omega) (Nat.lt_of_le_of_lt (Nat.div_le_self _ _) (by decide)) (fun c8 => ?_) (fun c8 => ?_)
  · refine lv_lload_n hx hb dX3_product_18 rfl (lv_at hl 0 rfl) ?_
    refine lv_lload_n hx hb dX3_product_19 rfl (lv_at hl 1 rfl) ?_
    refine zl_mul hx hb dX3_product_20  ?_
    exact hret _ _ _ _ _ hS (congrArg lN (sat_le ((Nat.le_div_iff_mul_le (by omega)).mp c8)).symm) dX3_product_21
  · refine lv_ldc2 (v := 4611686018427387904) hx hb hown (hts (.constantLong RX3 9 (4611686018427387904)) (by decide +kernel)) dX3_product_12 ?_
    refine W.eq (g2 := F0 m 15 ls [.long (lN 4611686018427387904)]) rfl ?_
    refine lv_goto (tgt := 21) hx hb dX3_product_15 (by decide) ?_
    exact hret _ _ _ _ _ hS (congrArg lN (sat_ge (Nat.le_of_lt (Nat.lt_of_not_le fun q => absurd ((Nat.le_div_iff_mul_le (by omega)).mpr q) (Nat.not_le.mpr c8)))).symm) dX3_product_21
set_option maxHeartbeats 4000000 in
set_option maxRecDepth 100000 in
/-- power(b, n): never above 2 to the 62 -/
theorem c_X3_power (l : Launch) (D : va_G) (b n : Nat) (h0 : 1 ≤ b) (h1 : b ≤ 4611686018427387904) (hn : n < 2147483648) : RO_l l yX3_power wsX3_power ({ frames := 2, cells := 0, slots := 0, locals := 46 } : Room) D [] [] [.long (lN b), .int (nI n)] (fun v => v = lN (sat (b ^ n))) := by
  refine RO_l.of (cc := cX3_power) (maxL := 6) (by decide) rfl (Nat.le_of_ble_eq_true rfl) ?_
  intro p e s m args below meth c ls A Q hx hb hml hts hown hA hP hK hl hret
  have hown : s.vm.findClass RX3 = some m.cls := hown
  have hl : lv_has ls 6 [(0, .long (lN b)), (2, .int (nI n))] := hl
  have hS : va_S A s.heap s.heap [] := va_S.rf
  refine lv_lconst (v := lN 1) hx hb dX3_power_0 (by decide) ?_
  refine lv_topl (fun v1_ e1_ => ?_)
  obtain rfl : v1_ = lN (sat (b ^ 0)) := e1_.trans (congrArg lN (by rw [Nat.pow_zero]; rfl))
  refine lv_lstore_n (lv' := [(3, .long (lN (sat (b ^ 0)))), (0, .long (lN b)), (2, .int (nI n))]) hx hb dX3_power_1 rfl hl (by decide) rfl (fun ls hl => ?_)
  refine lv_iconst (v := nI 0) hx hb dX3_power_2 (by decide) ?_
  refine lv_istore (lv' := [(5, .int (nI 0)), (3, .long (lN (sat (b ^ 0)))), (0, .long (lN b)), (2, .int (nI n))]) hx hb dX3_power_3 hl (by decide) rfl (fun ls hl => ?_)
  have L5 : ∀ (nf : Nat) (k : Nat), (k ≤ n) → n - k < nf → ∀ (H : Heap) (locs : List Loc) (ls : Array Slot), va_P D vwCl [] H → va_S A s.heap H locs → lv_has ls 6 [(3, .long (lN (sat (b ^ k)))), (5, .int (nI k)), (0, .long (lN b)), (2, .int (nI n))] → W p l e ({ frames := 2, cells := 0, slots := 0, locals := 46 } : Room) s m args below meth c H locs 0 0 Q (F0 m 5 ls []) := by
    intro nf
    induction nf with
    | zero => intro k i1 hm; exact absurd hm (Nat.not_lt_zero _)
    | succ nf ih5 =>
      intro k i1 hm5 H locs ls hP hS hl
      refine lv_iload hx hb dX3_power_5 (lv_at hl 1 rfl) ?_
      refine lv_iload_n hx hb dX3_power_7 rfl (lv_at hl 3 rfl) ?_
      refine zi_ge (tgt := 23) hx hb dX3_power_8 (by decide) (by omega) (by omega) (fun c8 => ?_) (fun c8 => ?_)
      · refine lv_lload_n hx hb dX3_power_23 rfl (lv_at hl 0 rfl) ?_
        exact hret _ _ _ _ _ hS (by rw [show k = n by omega]) dX3_power_24
      · refine lv_lload_n hx hb dX3_power_11 rfl (lv_at hl 0 rfl) ?_
        refine lv_lload_n hx hb dX3_power_12 rfl (lv_at hl 2 rfl) ?_
        refine RO_l.callS (rest := []) (c_X3_product l D (sat (b ^ k)) b (sat_top _) h0 h1) ⟨hx, hb, hml, hown, hts⟩ (va_cwS 2 hts gX3_power_X3_product rfl rfl rfl (by decide +kernel) ⟨Nat.le_of_ble_eq_true rfl, Nat.le_of_ble_eq_true rfl⟩) hK hP hS hA [] [] rfl rfl rfl hl.1 rfl (Nat.le_of_ble_eq_true rfl) dX3_power_13 ⟨Nat.zero_le _, Nat.zero_le _⟩ (fun v2_ H locs e2_ hP hS => ?_)
        obtain rfl : v2_ = lN (sat (sat (b ^ k) * b)) := e2_
        refine lv_topl (fun v3_ e3_ => ?_)
        obtain rfl : v3_ = lN (sat (b ^ (k + 1))) := e3_.trans (congrArg lN (by rw [sat_mul _ h0, Nat.pow_succ]))
        refine lv_lstore_n (lv' := [(3, .long (lN (sat (b ^ (k + 1))))), (5, .int (nI k)), (0, .long (lN b)), (2, .int (nI n))]) hx hb dX3_power_16 rfl hl (by decide) rfl (fun ls hl => ?_)
        refine lv_iinc (v := nI (k + 1)) (lv' := [(5, .int (nI (k + 1))), (3, .long (lN (sat (b ^ (k + 1))))), (0, .long (lN b)), (2, .int (nI n))]) hx hb dX3_power_17 hl (k := 1) rfl (by rw [show Int32.ofInt 1 = nI 1 by decide, nI_add]) (by decide) rfl (fun ls hl => ?_)
        refine lv_goto (tgt := 5) hx hb dX3_power_20 (by decide) ?_
        exact ih5 (k + 1) (by omega) (by omega) _ _ _ hP hS (lv_sub hl [1, 0, 2, 3] rfl)
  exact L5 _ 0 (by omega) (Nat.lt_succ_self _) _ _ _ hP hS (lv_sub hl [1, 0, 2, 3] rfl)
/-- so many passes are just as many as are needed -/
def isExp (b q x : Nat) : Prop := q ≤ b ^ x ∧ ∀ j, j < x → b ^ j < q
theorem isExp_one {b q x y : Nat} (h1 : isExp b q x) (h2 : isExp b q y) : x = y := by
  rcases Nat.lt_trichotomy x y with h | h | h
  · exact absurd (h2.2 x h) (Nat.not_lt.mpr h1.1)
  · exact h
  · exact absurd (h1.2 y h) (Nat.not_lt.mpr h2.1)
theorem pow62 {b : Nat} (h : 2 ≤ b) : 4611686018427387904 ≤ b ^ 62 := Nat.le_trans (by decide) (Nat.pow_le_pow_left h 62)
theorem half64 {t : Nat} (h : t < 64) : 2 ^ (64 - t) = 2 * 2 ^ (64 - (t + 1)) := by
  rw [show 64 - t = (64 - (t + 1)) + 1 by omega, Nat.pow_succ, Nat.mul_comm]
/-- the least base, up to mo -/
def isBase (q n mo x : Nat) : Prop := 2 ≤ x ∧ x ≤ mo + 1 ∧ (∀ b, 2 ≤ b → b < x → b ^ n < q) ∧ (x ≤ mo → q ≤ x ^ n)
/-- the widest product of n numbers with the sum z -/
def wide (z n : Nat) : Nat := (z / n + 1) ^ (z % n) * (z / n) ^ (n - z % n)
set_option maxHeartbeats 4000000 in
set_option maxRecDepth 100000 in
/-- leastExponent -/
theorem c_X3_leastExponent (l : Launch) (D : va_G) (b q : Nat) (h0 : 2 ≤ b) (h1 : b ≤ 4611686018427387904) (hq : q ≤ 4611686018427387904) : RO_i l yX3_leastExponent wsX3_leastExponent ({ frames := 2, cells := 0, slots := 0, locals := 46 } : Room) D [] [] [.long (lN b), .long (lN q)] (fun v => ∃ x, v = nI x ∧ x ≤ 62 ∧ isExp b q x) := by
  refine RO_i.of (cc := cX3_leastExponent) (maxL := 7) (by decide) rfl (Nat.le_of_ble_eq_true rfl) ?_
  intro p e s m args below meth c ls A Q hx hb hml hts hown hA hP hK hl hret
  have hown : s.vm.findClass RX3 = some m.cls := hown
  have hl : lv_has ls 7 [(0, .long (lN b)), (2, .long (lN q))] := hl
  have hS : va_S A s.heap s.heap [] := va_S.rf
  refine lv_lconst (v := lN 1) hx hb dX3_leastExponent_0 (by decide) ?_
  refine lv_topl (fun v1_ e1_ => ?_)
  obtain rfl : v1_ = lN (sat (b ^ 0)) := e1_.trans (congrArg lN (by rw [Nat.pow_zero]; rfl))
  refine lv_lstore (lv' := [(4, .long (lN (sat (b ^ 0)))), (0, .long (lN b)), (2, .long (lN q))]) hx hb dX3_leastExponent_1 hl (by decide) rfl (fun ls hl => ?_)
  refine lv_iconst (v := nI 0) hx hb dX3_leastExponent_3 (by decide) ?_
  refine lv_istore (lv' := [(6, .int (nI 0)), (4, .long (lN (sat (b ^ 0)))), (0, .long (lN b)), (2, .long (lN q))]) hx hb dX3_leastExponent_4 hl (by decide) rfl (fun ls hl => ?_)
  have L6 : ∀ (nf : Nat) (k : Nat), (k ≤ 62) → (∀ j, j < k → b ^ j < q) → 62 - k < nf → ∀ (H : Heap) (locs : List Loc) (ls : Array Slot), va_P D vwCl [] H → va_S A s.heap H locs → lv_has ls 7 [(4, .long (lN (sat (b ^ k)))), (6, .int (nI k)), (0, .long (lN b)), (2, .long (lN q))] → W p l e ({ frames := 2, cells := 0, slots := 0, locals := 46 } : Room) s m args below meth c H locs 0 0 Q (F0 m 6 ls []) := by
    intro nf
    induction nf with
    | zero => intro k i1 i2 hm; exact absurd hm (Nat.not_lt_zero _)
    | succ nf ih6 =>
      intro k i1 i2 hm6 H locs ls hP hS hl
      refine lv_iload hx hb dX3_leastExponent_6 (lv_at hl 1 rfl) ?_
      refine lv_bipush (v := nI 62) hx hb dX3_leastExponent_8 (by decide) ?_
      refine zi_ge (tgt := 34) hx hb dX3_leastExponent_10 (by decide) (by omega) (by omega) (fun c10 => ?_) (fun c10 => ?_)
      · refine lv_iload hx hb dX3_leastExponent_34 (lv_at hl 1 rfl) ?_
        exact hret _ _ _ _ _ hS (⟨k, rfl, i1, by rw [show k = 62 by omega]; exact Nat.le_trans hq (pow62 h0), i2⟩) dX3_leastExponent_36
      · refine lv_lload hx hb dX3_leastExponent_13 (lv_at hl 0 rfl) ?_
        refine lv_lload_n hx hb dX3_leastExponent_15 rfl (lv_at hl 3 rfl) ?_
        refine zl_ge (tgt := 34) hx hb dX3_leastExponent_16 dX3_leastExponent_17 (by decide) (sat_lt _) (by omega) (fun c16 => ?_) (fun c16 => ?_)
        · refine lv_iload hx hb dX3_leastExponent_34 (lv_at hl 1 rfl) ?_
          exact hret _ _ _ _ _ hS (⟨k, rfl, i1, (le_sat hq).mp c16, i2⟩) dX3_leastExponent_36
        · refine lv_lload hx hb dX3_leastExponent_20 (lv_at hl 0 rfl) ?_
          refine lv_lload_n hx hb dX3_leastExponent_22 rfl (lv_at hl 2 rfl) ?_
          refine RO_l.callS (rest := []) (c_X3_product l D (sat (b ^ k)) b (sat_top _) (by omega) h1) ⟨hx, hb, hml, hown, hts⟩ (va_cwS 2 hts gX3_leastExponent_X3_product rfl rfl rfl (by decide +kernel) ⟨Nat.le_of_ble_eq_true rfl, Nat.le_of_ble_eq_true rfl⟩) hK hP hS hA [] [] rfl rfl rfl hl.1 rfl (Nat.le_of_ble_eq_true rfl) dX3_leastExponent_23 ⟨Nat.zero_le _, Nat.zero_le _⟩ (fun v2_ H locs e2_ hP hS => ?_)
          obtain rfl : v2_ = lN (sat (sat (b ^ k) * b)) := e2_
          refine lv_topl (fun v3_ e3_ => ?_)
          obtain rfl : v3_ = lN (sat (b ^ (k + 1))) := e3_.trans (congrArg lN (by rw [sat_mul _ (by omega), Nat.pow_succ]))
          refine lv_lstore (lv' := [(4, .long (lN (sat (b ^ (k + 1))))), (6, .int (nI k)), (0, .long (lN b)), (2, .long (lN q))]) hx hb dX3_leastExponent_26 hl (by decide) rfl (fun ls hl => ?_)
          refine lv_iinc (v := nI (k + 1)) (lv' := [(6, .int (nI (k + 1))), (4, .long (lN (sat (b ^ (k + 1))))), (0, .long (lN b)), (2, .long (lN q))]) hx hb dX3_leastExponent_28 hl (k := 1) rfl (by rw [show Int32.ofInt 1 = nI 1 by decide, nI_add]) (by decide) rfl (fun ls hl => ?_)
          refine lv_goto (tgt := 6) hx hb dX3_leastExponent_31 (by decide) ?_
          exact ih6 (k + 1) (by omega) (fun j hj => if hk : j < k then i2 j hk else by rw [show j = k by omega]; exact (sat_lt_iff hq).mp c16) (by omega) _ _ _ hP hS (lv_sub hl [1, 0, 2, 3] rfl)
  exact L6 _ 0 (by omega) (fun j hj => absurd hj (Nat.not_lt_zero _)) (Nat.lt_succ_self _) _ _ _ hP hS (lv_sub hl [1, 0, 2, 3] rfl)
set_option maxHeartbeats 4000000 in
set_option maxRecDepth 100000 in
/-- leastBase -/
theorem c_X3_leastBase (l : Launch) (D : va_G) (q n mo : Nat) (hq : q ≤ 4611686018427387904) (hn : n < 2147483648) (h0 : 1 ≤ mo) (h1 : mo ≤ 2147483648) : RO_l l yX3_leastBase wsX3_leastBase ({ frames := 3, cells := 0, slots := 0, locals := 71 } : Room) D [] [] [.long (lN q), .int (nI n), .long (lN mo)] (fun v => ∃ x, v = lN x ∧ isBase q n mo x) := by
  refine RO_l.of (cc := cX3_leastBase) (maxL := 12) (by decide) rfl (Nat.le_of_ble_eq_true rfl) ?_
  intro p e s m args below meth c ls A Q hx hb hml hts hown hA hP hK hl hret
  have hown : s.vm.findClass RX3 = some m.cls := hown
  have hl : lv_has ls 12 [(0, .long (lN q)), (2, .int (nI n)), (3, .long (lN mo))] := hl
  have hS : va_S A s.heap s.heap [] := va_S.rf
  refine lv_ldc2 (v := 2) hx hb hown (hts (.constantLong RX3 20 (2)) (by decide +kernel)) dX3_leastBase_0 ?_
  refine W.eq (g2 := F0 m 3 ls [.long (lN 2)]) rfl ?_
  refine lv_lstore (lv' := [(5, .long (lN 2)), (0, .long (lN q)), (2, .int (nI n)), (3, .long (lN mo))]) hx hb dX3_leastBase_3 hl (by decide) rfl (fun ls hl => ?_)
  refine lv_lload_n hx hb dX3_leastBase_5 rfl (lv_at hl 3 rfl) ?_
  refine lv_lconst (v := lN 1) hx hb dX3_leastBase_6 (by decide) ?_
  refine zl_add hx hb dX3_leastBase_7  ?_
  refine lv_lstore (lv' := [(7, .long (lN (mo + 1))), (5, .long (lN 2)), (0, .long (lN q)), (2, .int (nI n)), (3, .long (lN mo))]) hx hb dX3_leastBase_8 hl (by decide) rfl (fun ls hl => ?_)
  refine lv_iconst (v := nI 0) hx hb dX3_leastBase_10 (by decide) ?_
  refine lv_istore (lv' := [(9, .int (nI 0)), (7, .long (lN (mo + 1))), (5, .long (lN 2)), (0, .long (lN q)), (2, .int (nI n)), (3, .long (lN mo))]) hx hb dX3_leastBase_11 hl (by decide) rfl (fun ls hl => ?_)
  have L13 : ∀ (nf : Nat) (lo : Nat) (hi : Nat) (t : Nat), (2 ≤ lo ∧ lo ≤ hi ∧ hi ≤ mo + 1 ∧ t ≤ 64) → (hi - lo < 2 ^ (64 - t)) → (∀ b, 2 ≤ b → b < lo → b ^ n < q) → (hi ≤ mo → q ≤ hi ^ n) → 64 - t < nf → ∀ (H : Heap) (locs : List Loc) (ls : Array Slot), va_P D vwCl [] H → va_S A s.heap H locs → lv_has ls 12 [(5, .long (lN lo)), (7, .long (lN hi)), (9, .int (nI t)), (0, .long (lN q)), (2, .int (nI n)), (3, .long (lN mo))] → W p l e ({ frames := 3, cells := 0, slots := 0, locals := 71 } : Room) s m args below meth c H locs 0 0 Q (F0 m 13 ls []) := by
    intro nf
    induction nf with
    | zero => intro lo hi t i1 i2 i3 i4 hm; exact absurd hm (Nat.not_lt_zero _)
    | succ nf ih13 =>
      intro lo hi t i1 i2 i3 i4 hm13 H locs ls hP hS hl
      refine lv_iload hx hb dX3_leastBase_13 (lv_at hl 2 rfl) ?_
      refine lv_bipush (v := nI 64) hx hb dX3_leastBase_15 (by decide) ?_
      refine zi_ge (tgt := 69) hx hb dX3_leastBase_17 (by decide) (by omega) (by omega) (fun c17 => ?_) (fun c17 => ?_)
      · refine lv_lload hx hb dX3_leastBase_69 (lv_at hl 0 rfl) ?_
        exact hret _ _ _ _ _ hS (⟨lo, rfl, by omega, by omega, i3, by rw [show 64 - t = 0 by omega] at i2; rw [show lo = hi by omega]; exact i4⟩) dX3_leastBase_71
      · refine lv_lload hx hb dX3_leastBase_20 (lv_at hl 0 rfl) ?_
        refine lv_lload hx hb dX3_leastBase_22 (lv_at hl 1 rfl) ?_
        refine zl_ge (tgt := 69) hx hb dX3_leastBase_24 dX3_leastBase_25 (by decide) (by omega) (by omega) (fun c24 => ?_) (fun c24 => ?_)
        · refine lv_lload hx hb dX3_leastBase_69 (lv_at hl 0 rfl) ?_
          exact hret _ _ _ _ _ hS (⟨lo, rfl, by omega, by omega, i3, by rw [show lo = hi by omega]; exact i4⟩) dX3_leastBase_71
        · refine lv_lload hx hb dX3_leastBase_28 (lv_at hl 0 rfl) ?_
          refine lv_lload hx hb dX3_leastBase_30 (lv_at hl 1 rfl) ?_
          refine zl_add hx hb dX3_leastBase_32  ?_
          refine lv_ldc2 (v := 2) hx hb hown (hts (.constantLong RX3 20 (2)) (by decide +kernel)) dX3_leastBase_33 ?_
          refine W.eq (g2 := F0 m 36 ls [.long (lN 2), .long (lN (lo + hi))]) rfl ?_
          refine zl_div hx hb dX3_leastBase_36 (by omega) (by omega) (by omega) ?_
          refine lv_lstore (lv' := [(10, .long (lN ((lo + hi) / 2))), (5, .long (lN lo)), (7, .long (lN hi)), (9, .int (nI t)), (0, .long (lN q)), (2, .int (nI n)), (3, .long (lN mo))]) hx hb dX3_leastBase_37 hl (by decide) rfl (fun ls hl => ?_)
          refine lv_lload hx hb dX3_leastBase_39 (lv_at hl 0 rfl) ?_
          refine lv_iload_n hx hb dX3_leastBase_41 rfl (lv_at hl 5 rfl) ?_
          refine RO_l.callS (rest := []) (c_X3_power l D ((lo + hi) / 2) n (by omega) (by omega) hn) ⟨hx, hb, hml, hown, hts⟩ (va_cwS 2 hts gX3_leastBase_X3_power rfl rfl rfl (by decide +kernel) ⟨Nat.le_of_ble_eq_true rfl, Nat.le_of_ble_eq_true rfl⟩) hK hP hS hA [] [] rfl rfl rfl hl.1 rfl (Nat.le_of_ble_eq_true rfl) dX3_leastBase_42 ⟨Nat.zero_le _, Nat.zero_le _⟩ (fun v1_ H locs e1_ hP hS => ?_)
          obtain rfl : v1_ = lN (sat (((lo + hi) / 2) ^ n)) := e1_
          refine lv_lload_n hx hb dX3_leastBase_45 rfl (lv_at hl 4 rfl) ?_
          refine zl_lt (tgt := 57) hx hb dX3_leastBase_46 dX3_leastBase_47 (by decide) (sat_lt _) (by omega) (fun c46 => ?_) (fun c46 => ?_)
          · refine lv_lload hx hb dX3_leastBase_57 (lv_at hl 0 rfl) ?_
            refine lv_lconst (v := lN 1) hx hb dX3_leastBase_59 (by decide) ?_
            refine zl_add hx hb dX3_leastBase_60  ?_
            refine lv_lstore (lv' := [(5, .long (lN (((lo + hi) / 2) + 1))), (10, .long (lN ((lo + hi) / 2))), (7, .long (lN hi)), (9, .int (nI t)), (0, .long (lN q)), (2, .int (nI n)), (3, .long (lN mo))]) hx hb dX3_leastBase_61 hl (by decide) rfl (fun ls hl => ?_)
            refine lv_iinc (v := nI (t + 1)) (lv' := [(9, .int (nI (t + 1))), (5, .long (lN (((lo + hi) / 2) + 1))), (10, .long (lN ((lo + hi) / 2))), (7, .long (lN hi)), (0, .long (lN q)), (2, .int (nI n)), (3, .long (lN mo))]) hx hb dX3_leastBase_63 hl (k := 3) rfl (by rw [show Int32.ofInt 1 = nI 1 by decide, nI_add]) (by decide) rfl (fun ls hl => ?_)
            refine lv_goto (tgt := 13) hx hb dX3_leastBase_66 (by decide) ?_
            have h64 := half64 (t := t) (by omega)
            exact ih13 (((lo + hi) / 2) + 1) hi (t + 1) (by omega) (by omega) (fun b h2 h3 => Nat.lt_of_le_of_lt (Nat.pow_le_pow_left (show b ≤ (lo + hi) / 2 by omega) n) ((sat_lt_iff hq).mp c46)) (i4) (by omega) _ _ _ hP hS (lv_sub hl [1, 3, 0, 4, 5, 6] rfl)
          · refine lv_lload hx hb dX3_leastBase_50 (lv_at hl 0 rfl) ?_
            refine lv_lstore (lv' := [(7, .long (lN ((lo + hi) / 2))), (10, .long (lN ((lo + hi) / 2))), (5, .long (lN lo)), (9, .int (nI t)), (0, .long (lN q)), (2, .int (nI n)), (3, .long (lN mo))]) hx hb dX3_leastBase_52 hl (by decide) rfl (fun ls hl => ?_)
            refine lv_goto (tgt := 63) hx hb dX3_leastBase_54 (by decide) ?_
            refine lv_iinc (v := nI (t + 1)) (lv' := [(9, .int (nI (t + 1))), (7, .long (lN ((lo + hi) / 2))), (10, .long (lN ((lo + hi) / 2))), (5, .long (lN lo)), (0, .long (lN q)), (2, .int (nI n)), (3, .long (lN mo))]) hx hb dX3_leastBase_63 hl (k := 3) rfl (by rw [show Int32.ofInt 1 = nI 1 by decide, nI_add]) (by decide) rfl (fun ls hl => ?_)
            refine lv_goto (tgt := 13) hx hb dX3_leastBase_66 (by decide) ?_
            have h64 := half64 (t := t) (by omega)
            exact ih13 lo ((lo + hi) / 2) (t + 1) (by omega) (by omega) (i3) (fun _ => (le_sat hq).mp c46) (by omega) _ _ _ hP hS (lv_sub hl [3, 1, 0, 4, 5, 6] rfl)
  exact L13 _ 2 (mo + 1) 0 (by omega) (Nat.lt_of_le_of_lt (show mo + 1 - 2 ≤ 2147483648 by omega) (by decide)) (fun b h2 h3 => by omega) (fun h => by omega) (Nat.lt_succ_self _) _ _ _ hP hS (lv_sub hl [2, 1, 0, 3, 4, 5] rfl)
set_option maxHeartbeats 4000000 in
set_option maxRecDepth 100000 in
/-- widestProduct -/
theorem c_X3_widestProduct (l : Launch) (D : va_G) (z n : Nat) (h0 : 1 ≤ n) (h1 : n ≤ z) (h2 : z < 2147483647) : RO_l l yX3_widestProduct wsX3_widestProduct ({ frames := 3, cells := 0, slots := 0, locals := 71 } : Room) D [] [] [.int (nI z), .int (nI n)] (fun v => v = lN (sat (wide z n))) := by
  refine RO_l.of (cc := cX3_widestProduct) (maxL := 4) (by decide) rfl (Nat.le_of_ble_eq_true rfl) ?_
  intro p e s m args below meth c ls A Q hx hb hml hts hown hA hP hK hl hret
  have hown : s.vm.findClass RX3 = some m.cls := hown
  have hl : lv_has ls 4 [(0, .int (nI z)), (1, .int (nI n))] := hl
  have hS : va_S A s.heap s.heap [] := va_S.rf
  have hd : z / n ≤ z := Nat.div_le_self _ _
  have hd1 : 1 ≤ z / n := Nat.div_pos h1 h0
  have hr : z % n < n := Nat.mod_lt _ h0
  refine lv_iload_n hx hb dX3_widestProduct_0 rfl (lv_at hl 0 rfl) ?_
  refine z_i2l hx hb dX3_widestProduct_1 (by omega) ?_
  refine lv_iload_n hx hb dX3_widestProduct_2 rfl (lv_at hl 1 rfl) ?_
  refine z_i2l hx hb dX3_widestProduct_3 (by omega) ?_
  refine RO_l.callS (rest := []) (c_X3_quotient l D z n (by omega) h0 (by omega)) ⟨hx, hb, hml, hown, hts⟩ (va_cwS 2 hts gX3_widestProduct_X3_quotient rfl rfl rfl (by decide +kernel) ⟨Nat.le_of_ble_eq_true rfl, Nat.le_of_ble_eq_true rfl⟩) hK hP hS hA [] [] rfl rfl rfl hl.1 rfl (Nat.le_of_ble_eq_true rfl) dX3_widestProduct_4 ⟨Nat.zero_le _, Nat.zero_le _⟩ (fun v1_ H locs e1_ hP hS => ?_)
  obtain rfl : v1_ = lN (z / n) := e1_
  refine z_l2i hx hb dX3_widestProduct_7 ?_
  refine lv_istore_n (lv' := [(2, .int (nI (z / n))), (0, .int (nI z)), (1, .int (nI n))]) hx hb dX3_widestProduct_8 rfl hl (by decide) rfl (fun ls hl => ?_)
  refine lv_iload_n hx hb dX3_widestProduct_9 rfl (lv_at hl 1 rfl) ?_
  refine z_i2l hx hb dX3_widestProduct_10 (by omega) ?_
  refine lv_iload_n hx hb dX3_widestProduct_11 rfl (lv_at hl 2 rfl) ?_
  refine z_i2l hx hb dX3_widestProduct_12 (by omega) ?_
  refine RO_l.callS (rest := []) (c_X3_remainder l D z n (by omega) h0 (by omega)) ⟨hx, hb, hml, hown, hts⟩ (va_cwS 2 hts gX3_widestProduct_X3_remainder rfl rfl rfl (by decide +kernel) ⟨Nat.le_of_ble_eq_true rfl, Nat.le_of_ble_eq_true rfl⟩) hK hP hS hA [] [] rfl rfl rfl hl.1 rfl (Nat.le_of_ble_eq_true rfl) dX3_widestProduct_13 ⟨Nat.zero_le _, Nat.zero_le _⟩ (fun v2_ H locs e2_ hP hS => ?_)
  obtain rfl : v2_ = lN (z % n) := e2_
  refine z_l2i hx hb dX3_widestProduct_16 ?_
  refine lv_istore_n (lv' := [(3, .int (nI (z % n))), (2, .int (nI (z / n))), (0, .int (nI z)), (1, .int (nI n))]) hx hb dX3_widestProduct_17 rfl hl (by decide) rfl (fun ls hl => ?_)
  refine lv_iload_n hx hb dX3_widestProduct_18 rfl (lv_at hl 1 rfl) ?_
  refine lv_iconst (v := nI 1) hx hb dX3_widestProduct_19 (by decide) ?_
  refine zi_add hx hb dX3_widestProduct_20  ?_
  refine z_i2l hx hb dX3_widestProduct_21 (by omega) ?_
  refine lv_iload_n hx hb dX3_widestProduct_22 rfl (lv_at hl 0 rfl) ?_
  refine RO_l.callS (rest := []) (c_X3_power l D (z / n + 1) (z % n) (by omega) (by omega) (by omega)) ⟨hx, hb, hml, hown, hts⟩ (va_cwS 2 hts gX3_widestProduct_X3_power rfl rfl rfl (by decide +kernel) ⟨Nat.le_of_ble_eq_true rfl, Nat.le_of_ble_eq_true rfl⟩) hK hP hS hA [] [] rfl rfl rfl hl.1 rfl (Nat.le_of_ble_eq_true rfl) dX3_widestProduct_23 ⟨Nat.zero_le _, Nat.zero_le _⟩ (fun v3_ H locs e3_ hP hS => ?_)
  obtain rfl : v3_ = lN (sat ((z / n + 1) ^ (z % n))) := e3_
  refine lv_iload_n hx hb dX3_widestProduct_26 rfl (lv_at hl 1 rfl) ?_
  refine z_i2l hx hb dX3_widestProduct_27 (by omega) ?_
  refine lv_iload_n hx hb dX3_widestProduct_28 rfl (lv_at hl 3 rfl) ?_
  refine lv_iload_n hx hb dX3_widestProduct_29 rfl (lv_at hl 0 rfl) ?_
  refine zi_sub hx hb dX3_widestProduct_30 (by omega) ?_
  refine RO_l.callS (rest := [.long (lN (sat ((z / n + 1) ^ (z % n))))]) (c_X3_power l D (z / n) (n - z % n) (by omega) (by omega) (by omega)) ⟨hx, hb, hml, hown, hts⟩ (va_cwS 2 hts gX3_widestProduct_X3_power rfl rfl rfl (by decide +kernel) ⟨Nat.le_of_ble_eq_true rfl, Nat.le_of_ble_eq_true rfl⟩) hK hP hS hA [] [] rfl rfl rfl hl.1 rfl (Nat.le_of_ble_eq_true rfl) dX3_widestProduct_31 ⟨Nat.zero_le _, Nat.zero_le _⟩ (fun v4_ H locs e4_ hP hS => ?_)
  obtain rfl : v4_ = lN (sat ((z / n) ^ (n - z % n))) := e4_
  refine RO_l.callS (rest := []) (c_X3_product l D (sat ((z / n + 1) ^ (z % n))) (sat ((z / n) ^ (n - z % n))) (sat_top _) (sat_pos (Nat.pow_pos (by omega))) (sat_top _)) ⟨hx, hb, hml, hown, hts⟩ (va_cwS 2 hts gX3_widestProduct_X3_product rfl rfl rfl (by decide +kernel) ⟨Nat.le_of_ble_eq_true rfl, Nat.le_of_ble_eq_true rfl⟩) hK hP hS hA [] [] rfl rfl rfl hl.1 rfl (Nat.le_of_ble_eq_true rfl) dX3_widestProduct_34 ⟨Nat.zero_le _, Nat.zero_le _⟩ (fun v5_ H locs e5_ hP hS => ?_)
  obtain rfl : v5_ = lN (sat (sat ((z / n + 1) ^ (z % n)) * sat ((z / n) ^ (n - z % n)))) := e5_
  exact hret _ _ _ _ _ hS (congrArg lN (sat_mul2 (Nat.pow_pos (by omega)) (Nat.pow_pos (by omega)))) dX3_widestProduct_37
end
section
/-! the widest product of n numbers with a given sum -/
theorem wd_div {n l h : Nat} (hh : h < n) : (n * l + h) / n = l ∧ (n * l + h) % n = h := by
  have h0 : 0 < n := by omega
  constructor
  · rw [Nat.mul_add_div h0, Nat.div_eq_of_lt hh, Nat.add_zero]
  · rw [Nat.mul_add_mod, Nat.mod_eq_of_lt hh]
theorem wide_at {n l h : Nat} (hh : h < n) : wide (n * l + h) n = (l + 1) ^ h * l ^ (n - h) := by
  obtain ⟨h1, h2⟩ := wd_div (l := l) hh
  unfold wide
  rw [h1, h2]
theorem wide_split (z : Nat) {n : Nat} (h0 : 1 ≤ n) : ∃ l h, h < n ∧ z = n * l + h ∧ z / n = l ∧ z % n = h :=
  ⟨z / n, z % n, Nat.mod_lt _ h0, (Nat.div_add_mod z n).symm, rfl, rfl⟩
theorem wide_succ (z : Nat) {n : Nat} (h0 : 1 ≤ n) : wide (z + 1) n * (z / n) = wide z n * (z / n + 1) := by
  obtain ⟨l, h, hh, e, e1, -⟩ := wide_split z h0
  rw [e1, e, wide_at hh]
  rcases Nat.lt_or_ge (h + 1) n with q | q
  · rw [Nat.add_assoc, wide_at q, show n - h = (n - (h + 1)) + 1 by omega, Nat.pow_succ, Nat.pow_succ]
    simp only [Nat.mul_comm, Nat.mul_left_comm, Nat.mul_assoc]
  · have hn : n = h + 1 := by omega
    rw [Nat.add_assoc, show n * l + (h + 1) = n * (l + 1) + 0 by rw [Nat.mul_succ]; omega, wide_at (by omega), Nat.pow_zero, Nat.one_mul, Nat.sub_zero, hn, show h + 1 - h = 1 by omega, Nat.pow_one, Nat.pow_succ]
    simp only [Nat.mul_comm, Nat.mul_left_comm, Nat.mul_assoc]
theorem wide_zero {z n : Nat} (h : z < n) : wide z n = 0 := by
  unfold wide
  rw [Nat.div_eq_of_lt h, Nat.mod_eq_of_lt h, Nat.zero_pow (by omega), Nat.mul_zero]
theorem wide_le_succ (z : Nat) {n : Nat} (h0 : 1 ≤ n) : wide z n ≤ wide (z + 1) n := by
  rcases Nat.lt_or_ge z n with h | h
  · rw [wide_zero h]; exact Nat.zero_le _
  · have hl : 0 < z / n := Nat.div_pos h h0
    have e := wide_succ z h0
    refine Nat.le_of_mul_le_mul_right (c := z / n) ?_ hl
    rw [e]
    exact Nat.mul_le_mul_left _ (Nat.le_succ _)
theorem wide_mono {n : Nat} (h0 : 1 ≤ n) {y z : Nat} (h : y ≤ z) : wide y n ≤ wide z n := by
  induction h with
  | refl => exact Nat.le_refl _
  | step _ ih => exact Nat.le_trans ih (wide_le_succ _ h0)
theorem wide_even (b : Nat) {n : Nat} (h0 : 1 ≤ n) : wide (n * b) n = b ^ n := by
  have h := wide_at (n := n) (l := b) (h := 0) h0
  rw [Nat.add_zero, Nat.pow_zero, Nat.one_mul, Nat.sub_zero] at h
  exact h
theorem wide_00 : wide 0 0 = 1 := by decide
/-- the first of the most equal numbers, and the others -/
theorem wide_step (z n : Nat) : wide z (n + 1) = z / (n + 1) * wide (z - z / (n + 1)) n := by
  obtain ⟨l, h, hh, e, e1, -⟩ := wide_split z (n := n + 1) (by omega)
  rw [e1]
  have hz : z - l = n * l + h := by rw [e, Nat.succ_mul]; omega
  rw [hz, e, wide_at hh]
  rcases Nat.lt_or_ge h n with q | q
  · rw [wide_at q, show n + 1 - h = (n - h) + 1 by omega, Nat.pow_succ]
    simp only [Nat.mul_comm, Nat.mul_left_comm, Nat.mul_assoc]
  · have hn : h = n := by omega
    subst hn
    rw [show h + 1 - h = 1 by omega, Nat.pow_one]
    rcases Nat.eq_zero_or_pos h with q2 | q2
    · subst q2
      simp [wide]
    · rw [show h * l + h = h * (l + 1) by rw [Nat.mul_succ], wide_even _ q2, Nat.mul_comm]
/-- up to the mean a greater number never makes the product smaller -/
theorem wide_up {x z n : Nat} (h0 : 1 ≤ n) (h : x + 1 ≤ z / (n + 1)) : x * wide (z - x) n ≤ (x + 1) * wide (z - (x + 1)) n := by
  have h1 : (n + 1) * (x + 1) ≤ z := by
    have := (Nat.le_div_iff_mul_le (by omega)).mp h
    rw [Nat.mul_comm]; exact this
  rw [Nat.succ_mul] at h1
  have hl : x + 1 ≤ (z - (x + 1)) / n := (Nat.le_div_iff_mul_le h0).mpr (by rw [Nat.mul_comm]; omega)
  have e := wide_succ (z - (x + 1)) h0
  rw [show z - (x + 1) + 1 = z - x by omega] at e
  generalize wide (z - x) n = a at e ⊢
  generalize wide (z - (x + 1)) n = b at e ⊢
  generalize (z - (x + 1)) / n = l at e hl
  refine Nat.le_of_mul_le_mul_right (c := l) ?_ (by omega)
  rw [Nat.mul_assoc, e, Nat.mul_right_comm, Nat.mul_comm b (l + 1), ← Nat.mul_assoc]
  refine Nat.mul_le_mul_right b ?_
  rw [Nat.mul_succ, Nat.succ_mul]
  omega
theorem wide_ups {z n : Nat} (h0 : 1 ≤ n) {y : Nat} (hy : y ≤ z / (n + 1)) {x : Nat} (h : x ≤ y) : x * wide (z - x) n ≤ y * wide (z - y) n := by
  induction h with
  | refl => exact Nat.le_refl _
  | step _ ih => exact Nat.le_trans (ih (by omega)) (wide_up h0 hy)
/-- no choice up to the mean has a wider product than the most equal one -/
theorem wide_top {x z n : Nat} (h : x ≤ z / (n + 1)) : x * wide (z - x) n ≤ wide z (n + 1) := by
  rw [wide_step]
  rcases Nat.eq_zero_or_pos n with q | q
  · subst q
    rw [Nat.zero_add, Nat.div_one] at h
    rw [Nat.zero_add, Nat.div_one, Nat.sub_self, wide_00, Nat.mul_one]
    rcases Nat.lt_or_ge x z with q | q
    · simp only [wide, Nat.div_zero, Nat.mod_zero, Nat.zero_add, Nat.one_pow, Nat.zero_sub, Nat.pow_zero, Nat.mul_one]
      exact h
    · simp only [wide, Nat.div_zero, Nat.mod_zero, Nat.zero_add, Nat.one_pow, Nat.zero_sub, Nat.pow_zero, Nat.mul_one]
      exact h
  · exact wide_ups q (Nat.le_refl _) h
theorem wide_pos {z n : Nat} (h : n ≤ z) : 1 ≤ wide z n := by
  unfold wide
  rcases Nat.eq_zero_or_pos n with q | q
  · subst q; simp
  · have : 0 < z / n := Nat.div_pos h q
    exact Nat.mul_pos (Nat.pow_pos (by omega)) (Nat.pow_pos this)
/-- the least sum of n sizes that does -/
def isSum (q n z : Nat) : Prop := 2 * n ≤ z ∧ q ≤ wide z n ∧ ∀ y, 2 * n ≤ y → y < z → wide y n < q
theorem isSum_one {q n z y : Nat} (h1 : isSum q n z) (h2 : isSum q n y) : z = y := by
  rcases Nat.lt_trichotomy z y with h | h | h
  · exact absurd (h2.2.2 z h1.1 h) (Nat.not_lt.mpr h1.2.1)
  · exact h
  · exact absurd (h1.2.2 y h2.1 h) (Nat.not_lt.mpr h2.2.1)
/-- its product doesn't pass 2 to the 63 -/
theorem isSum_small {b q n z : Nat} (hb : 2 ≤ b) (hq : q ≤ 4611686018427387904) (he : isExp b q n) (h : isSum q n z) : wide z n < 9223372036854775808 := by
  rcases Nat.eq_zero_or_pos n with h0 | h0
  · subst h0
    simp [wide]
  · rcases Nat.lt_or_ge (2 * n) z with hz | hz
    · have h1 := h.2.2 (z - 1) (by omega) (by omega)
      have e := wide_succ (z - 1) h0
      rw [show z - 1 + 1 = z by omega] at e
      have hl : 2 ≤ (z - 1) / n := (Nat.le_div_iff_mul_le h0).mpr (by omega)
      generalize wide z n = a at e ⊢
      generalize wide (z - 1) n = c at e h1
      generalize (z - 1) / n = l at e hl
      have h2 : a * l ≤ (2 * c) * l := by
        rw [e, Nat.mul_comm 2 c, Nat.mul_assoc]
        exact Nat.mul_le_mul_left _ (by omega)
      have h3 : a ≤ 2 * c := Nat.le_of_mul_le_mul_right h2 (by omega)
      omega
    · have hz2 : z = n * 2 := by have := h.1; omega
      rw [hz2, wide_even _ h0]
      have h1 := he.2 (n - 1) (by omega)
      have h2 := Nat.pow_le_pow_left hb (n - 1)
      rw [show n = (n - 1) + 1 by omega, Nat.pow_succ]
      omega
/-- x can be a pass's size: dn the product before, z the sum left, n passes behind it -/
def okS (q b dn z n x : Nat) : Prop := 2 ≤ x ∧ x ≤ z ∧ 2 * n ≤ z - x ∧ z - x ≤ n * b ∧ q ≤ dn * x * wide (z - x) n
def isSize (q b dn z n x : Nat) : Prop := okS q b dn z n x ∧ ∀ y, y < x → ¬ okS q b dn z n y
theorem isSize_one {q b dn z n x y : Nat} (h1 : isSize q b dn z n x) (h2 : isSize q b dn z n y) : x = y := by
  rcases Nat.lt_trichotomy x y with h | h | h
  · exact absurd h1.1 (h2.2 x h)
  · exact h
  · exact absurd h2.1 (h1.2 y h)
theorem okS_up {q b dn z n x : Nat} (h0 : 1 ≤ n) (h : x + 1 ≤ z / (n + 1)) (ho : okS q b dn z n x) : okS q b dn z n (x + 1) := by
  obtain ⟨h1, h2, h3, h4, h5⟩ := ho
  have hm : (n + 1) * (x + 1) ≤ z := by
    have := (Nat.le_div_iff_mul_le (by omega)).mp h
    rw [Nat.mul_comm]; exact this
  rw [Nat.succ_mul] at hm
  have hm2 : 2 * n ≤ n * (x + 1) := by rw [Nat.mul_comm]; exact Nat.mul_le_mul_left n (by omega)
  refine ⟨by omega, by omega, by omega, by omega, Nat.le_trans h5 ?_⟩
  rw [Nat.mul_assoc, Nat.mul_assoc]
  exact Nat.mul_le_mul_left dn (wide_up h0 h)
theorem okS_mean {q b dn z n : Nat} (h1 : 2 * (n + 1) ≤ z) (h2 : z ≤ (n + 1) * b) (h3 : q ≤ dn * wide z (n + 1)) : okS q b dn z n (z / (n + 1)) := by
  obtain ⟨l, h, hh, e, e1, -⟩ := wide_split z (n := n + 1) (by omega)
  have hs := wide_step z n
  rw [e1] at hs ⊢
  have hl : 2 ≤ l := by rw [← e1]; exact (Nat.le_div_iff_mul_le (by omega)).mpr (by omega)
  have hz : z - l = n * l + h := by rw [e, Nat.succ_mul]; omega
  have hlb : l ≤ b := by
    rcases Nat.lt_or_ge b l with q2 | q2
    · exfalso
      have : (n + 1) * (b + 1) ≤ (n + 1) * l := Nat.mul_le_mul_left _ q2
      rw [Nat.mul_succ] at this
      omega
    · exact q2
  have hnl : n * 2 ≤ n * l := Nat.mul_le_mul_left n hl
  refine ⟨hl, by rw [e, Nat.succ_mul]; omega, by rw [hz]; omega, ?_, by rw [Nat.mul_assoc, ← hs]; exact h3⟩
  rw [hz]
  rcases Nat.lt_or_ge l b with q2 | q2
  · have : n * (l + 1) ≤ n * b := Nat.mul_le_mul_left n q2
    rw [Nat.mul_succ] at this
    omega
  · have hle : l = b := by omega
    subst hle
    rw [e] at h2
    omega
theorem okS_ups {q b dn z n : Nat} (h0 : 1 ≤ n) {y : Nat} (hy : y ≤ z / (n + 1)) {x : Nat} (h : x ≤ y) (ho : okS q b dn z n x) : okS q b dn z n y := by
  induction h with
  | refl => exact ho
  | step _ ih => exact okS_up h0 hy (ih (by omega))
theorem mean_room {x z n : Nat} (h : x ≤ z / (n + 1)) (h2 : 2 ≤ x) : x ≤ z ∧ 2 * n ≤ z - x := by
  have h1 := (Nat.le_div_iff_mul_le (show 0 < n + 1 by omega)).mp h
  rw [Nat.mul_succ] at h1
  have h3 : 2 * n ≤ x * n := Nat.mul_le_mul_right n h2
  omega
theorem half32 {t : Nat} (h : t < 32) : 2 ^ (32 - t) = 2 * 2 ^ (32 - (t + 1)) := by
  rw [show 32 - t = (32 - (t + 1)) + 1 by omega, Nat.pow_succ, Nat.mul_comm]
theorem isSize_last {q b dn z : Nat} (h1 : 2 ≤ z) (h3 : q ≤ dn * wide z 1) : isSize q b dn z 0 z := by
  have hw : wide z 1 = z := by
    have := wide_even z (n := 1) (by omega)
    rw [Nat.one_mul, Nat.pow_one] at this
    exact this
  rw [hw] at h3
  refine ⟨⟨h1, Nat.le_refl _, by omega, by omega, ?_⟩, fun y hy ho => ?_⟩
  · rw [Nat.sub_self, wide_00, Nat.mul_one]; exact h3
  · have := ho.2.2.2.1
    rw [Nat.zero_mul] at this
    omega
theorem isBase_le {q n mo x : Nat} (h : isBase q n mo x) (h2 : 2 ≤ mo) (hq : q ≤ mo ^ n) : x ≤ mo := by
  rcases Nat.lt_or_ge mo x with g | g
  · exact absurd (h.2.2.1 mo h2 g) (Nat.not_lt.mpr hq)
  · exact g
theorem sum_start {q n mo x : Nat} (h : isBase q n mo x) (y : Nat) (h1 : 2 * n ≤ y) (h2 : y < max (2 * n) (x * n - n)) : wide y n < q := by
  have hy : y < x * n - n := by
    rcases Nat.lt_or_ge (2 * n) (x * n - n) with g | g
    · rw [Nat.max_eq_right (by omega)] at h2; exact h2
    · rw [Nat.max_eq_left g] at h2; omega
  have hx := h.1
  obtain ⟨d, rfl⟩ : ∃ d, x = d + 1 := ⟨x - 1, by omega⟩
  rw [Nat.succ_mul, Nat.add_sub_cancel] at hy
  have hn : 1 ≤ n := by
    rcases Nat.eq_zero_or_pos n with g | g
    · subst g; omega
    · exact g
  have hd : 2 ≤ d := by
    rcases Nat.lt_or_ge d 2 with g | g
    · have : d * n ≤ 1 * n := Nat.mul_le_mul_right n (by omega)
      omega
    · exact g
  have h3 := wide_mono hn (Nat.le_of_lt hy)
  rw [Nat.mul_comm d n, wide_even _ hn] at h3
  exact Nat.lt_of_le_of_lt h3 (h.2.2.1 d hd (by omega))
theorem wide_base {q n x : Nat} (h : q ≤ x ^ n) : q ≤ wide (x * n) n := by
  rcases Nat.eq_zero_or_pos n with g | g
  · subst g
    rw [Nat.pow_zero] at h
    rw [Nat.mul_zero, wide_00]; exact h
  · rw [Nat.mul_comm, wide_even _ g]; exact h
theorem wide_two {z n : Nat} (h0 : 1 ≤ n) (h : 2 * n ≤ z) : 2 ≤ wide z n := by
  have h1 := wide_mono h0 (show n * 2 ≤ z by omega)
  rw [wide_even _ h0] at h1
  have h2 : 2 ^ 1 ≤ 2 ^ n := Nat.pow_le_pow_right (by decide) h0
  omega
/-- a plan, as far as pass k: z is the sum left -/
def preP (b q n : Nat) (Z S : Nat → Nat) (k z : Nat) : Prop := S 0 = 1 ∧ (∃ zz : Nat → Nat, isSum q n (zz 0) ∧ zz k = z ∧ ∀ j, j < k → S (j + 1) = S j * Z j ∧ zz (j + 1) + Z j = zz j ∧ isSize q b (S j) (zz j) (n - j - 1) (Z j) ∧ 2 ≤ Z j ∧ Z j ≤ b) ∧ (∀ j, j ≤ k → 1 ≤ S j ∧ S j < 9223372036854775808) ∧ 2 * (n - k) ≤ z ∧ z ≤ (n - k) * b ∧ q ≤ S k * wide z (n - k) ∧ S k * wide z (n - k) < 9223372036854775808
/-- the plan for q points with b bins: n passes, the sizes Z, their products S -/
def isPlan (b q n : Nat) (Z S : Nat → Nat) : Prop := n ≤ 62 ∧ isExp b q n ∧ ∃ z, preP b q n Z S n z
theorem preP_0 {b q n z : Nat} {Z S : Nat → Nat} (hb : 2 ≤ b) (hq : q ≤ 4611686018427387904) (he : isExp b q n) (hs : isSum q n z) (hz : z ≤ n * b) (h0 : S 0 = 1) : preP b q n Z S 0 z := by
  refine ⟨h0, ⟨fun _ => z, hs, rfl, fun j hj => absurd hj (Nat.not_lt_zero _)⟩, fun j hj => ?_, hs.1, hz, ?_, ?_⟩
  · rw [show j = 0 by omega, h0]; decide
  · rw [h0, Nat.one_mul]; exact hs.2.1
  · rw [h0, Nat.one_mul]; exact isSum_small hb hq he hs
theorem preP_small {b q n k z : Nat} {Z S : Nat → Nat} (h : preP b q n Z S k z) (hk : k < n) : S k ≤ 4611686018427387904 := by
  obtain ⟨-, -, -, h1, -, -, h2⟩ := h
  have h3 := wide_two (show 1 ≤ n - k by omega) h1
  have h4 : S k * 2 ≤ S k * wide z (n - k) := Nat.mul_le_mul_left _ h3
  omega
theorem preP_step {b q n k z x : Nat} {Z S : Nat → Nat} (hk : k < n) (h : preP b q n Z S k z) (hs : isSize q b (S k) z (n - k - 1) x) (hx : x ≤ z / (n - k)) : preP b q n (uF Z k x) (uF S (k + 1) (S k * x)) (k + 1) (z - x) := by
  obtain ⟨h0, ⟨zz, g1, g2, g3⟩, hS, h1, h2, h3, h4⟩ := h
  have ho := hs.1
  obtain ⟨o1, o2, o3, o4, o5⟩ := ho
  have hb : x ≤ b := by
    refine Nat.le_trans hx ?_
    have := Nat.div_le_div_right (c := n - k) h2
    rw [Nat.mul_div_cancel_left b (by omega)] at this
    exact this
  have ht : x * wide (z - x) (n - k - 1) ≤ wide z (n - k) := by
    have := wide_top (x := x) (z := z) (n := n - k - 1) (by rw [show n - k - 1 + 1 = n - k by omega]; exact hx)
    rw [show n - k - 1 + 1 = n - k by omega] at this
    exact this
  have hw : S k * x * wide (z - x) (n - k - 1) ≤ S k * wide z (n - k) := by rw [Nat.mul_assoc]; exact Nat.mul_le_mul_left _ ht
  have hwp : 1 ≤ wide (z - x) (n - k - 1) := wide_pos (by omega)
  have hSk := hS k (Nat.le_refl _)
  have hsx : 1 ≤ S k * x := Nat.mul_pos hSk.1 (by omega)
  have hsx2 : S k * x ≤ S k * x * wide (z - x) (n - k - 1) := Nat.le_mul_of_pos_right _ hwp
  have e1 : ∀ j, j ≤ k → uF S (k + 1) (S k * x) j = S j := fun j hj => uF_n (by omega)
  have e2 : ∀ j, j < k → uF Z k x j = Z j := fun j hj => uF_n (by omega)
  have e3 : uF S (k + 1) (S k * x) (k + 1) = S k * x := uF_s
  have e4 : uF Z k x k = x := uF_s
  refine ⟨by rw [e1 0 (by omega)]; exact h0, ⟨uF zz (k + 1) (z - x), by rw [uF_n (by omega)]; exact g1, uF_s, fun j hj => ?_⟩, fun j hj => ?_, ?_, ?_, ?_, ?_⟩
  · rcases Nat.lt_or_ge j k with g | g
    · rw [e1 j (by omega), e1 (j + 1) (by omega), e2 j g, uF_n (show j + 1 ≠ k + 1 by omega), uF_n (show j ≠ k + 1 by omega)]
      exact g3 j g
    · have hjk : j = k := by omega
      subst hjk
      rw [e1 j (Nat.le_refl _), e3, e4, uF_s, uF_n (show j ≠ j + 1 by omega), g2]
      exact ⟨rfl, by omega, hs, o1, hb⟩
  · rcases Nat.lt_or_ge k j with g | g
    · rw [show j = k + 1 by omega, e3]; omega
    · rw [e1 j g]; exact hS j g
  · rw [show n - (k + 1) = n - k - 1 by omega]; exact o3
  · rw [show n - (k + 1) = n - k - 1 by omega]; exact o4
  · rw [show n - (k + 1) = n - k - 1 by omega, e3]; exact o5
  · rw [show n - (k + 1) = n - k - 1 by omega, e3]; omega
/-- a plan is the only one -/
theorem isPlan_one {b q n n2 : Nat} {Z S Z2 S2 : Nat → Nat} (h1 : isPlan b q n Z S) (h2 : isPlan b q n2 Z2 S2) : n = n2 ∧ (∀ k, k < n → Z k = Z2 k) ∧ ∀ k, k ≤ n → S k = S2 k := by
  obtain ⟨-, e1, z1, p0, ⟨zz, g1, g2, g3⟩, -⟩ := h1
  obtain ⟨-, e2, z2, p02, ⟨zz2, g12, g22, g32⟩, -⟩ := h2
  have hn := isExp_one e1 e2
  subst hn
  have hz := isSum_one g1 g12
  have key : ∀ k, k ≤ n → S k = S2 k ∧ zz k = zz2 k := by
    intro k
    induction k with
    | zero => intro _; exact ⟨p0.trans p02.symm, hz⟩
    | succ k ih =>
      intro hk
      obtain ⟨i1, i2⟩ := ih (by omega)
      obtain ⟨a1, a2, a3, -⟩ := g3 k (by omega)
      obtain ⟨b1, b2, b3, -⟩ := g32 k (by omega)
      rw [← i1, ← i2] at b3
      have hZ := isSize_one a3 b3
      exact ⟨by rw [a1, b1, i1, hZ], by omega⟩
  refine ⟨rfl, fun k hk => ?_, fun k hk => (key k hk).1⟩
  obtain ⟨i1, i2⟩ := key k (by omega)
  obtain ⟨a1, a2, a3, -⟩ := g3 k hk
  obtain ⟨b1, b2, b3, -⟩ := g32 k hk
  rw [← i1, ← i2] at b3
  exact isSize_one a3 b3
end
section
set_option maxHeartbeats 4000000 in
set_option maxRecDepth 100000 in
/-- isLaid -/
theorem c_X2_isLaid (l : Launch) (D : va_G) (cI cJ : ClassId) (h hz hs bn pt pn : Nat) (Z S : Nat → Nat) (hpt : pt < 9223372036854775808) : RO_i l yX2_isLaid wsX2_isLaid ({ frames := 0, cells := 0, slots := 0, locals := 0 } : Room) D [(h, .inr (3, [.int (nI bn), .ref hz, .ref hs, .long (lN pt), .int (nI pn)])), (hz, aI cI 62 Z), (hs, aJ cJ 63 S)] [(cI, .int), (cJ, .long)] [.ref h] (fun v => v = bI (0 < pt)) := by
  refine RO_i.ofz (cc := cX2_isLaid) (maxL := 1) (by decide) rfl (Nat.le_of_ble_eq_true rfl) ?_
  intro p e s m args below meth c ls A Q hx hb hml hts hown hA hP hK hl hret
  have hown : s.vm.findClass RX2 = some m.cls := hown
  have hl : lv_has ls 1 [(0, .ref h)] := hl
  have hS : va_S A s.heap s.heap [] := va_S.rf
  have hinX2 : ∀ w ∈ wsX20, w ∈ wsX2_isLaid := by decide +kernel
  refine lv_aload_n hx hb dX2_isLaid_0 rfl (lv_at hl 0 rfl) ?_
  refine va_get (D := D) (ci := 3) (v := .long (lN pt)) (C := RX2) (T := TX2) (N := 5) hx hb hts hinX2 hown hK hP 0 rfl rfl 3 (by decide) (hts (.fieldLink RX2 23 "PassSearch$Plan" "points" "J") (by decide +kernel)) (fun _ h9 => h9) rfl dX2_isLaid_1 ?_
  refine lv_lconst (v := lN 0) hx hb dX2_isLaid_4 (by decide) ?_
  refine zl_le (tgt := 13) hx hb dX2_isLaid_5 dX2_isLaid_6 (by decide) (by omega) (by omega) (fun c5 => ?_) (fun c5 => ?_)
  · refine lv_iconst (v := nI 0) hx hb dX2_isLaid_13 (by decide) ?_
    exact hret _ _ _ _ _ hS (Or.inl rfl) (bI_f' (by omega)) dX2_isLaid_14
  · refine lv_iconst (v := nI 1) hx hb dX2_isLaid_9 (by decide) ?_
    refine lv_goto (tgt := 14) hx hb dX2_isLaid_10 (by decide) ?_
    exact hret _ _ _ _ _ hS (Or.inr rfl) (bI_t' c5) dX2_isLaid_14
set_option maxHeartbeats 4000000 in
set_option maxRecDepth 100000 in
/-- hasPoint -/
theorem c_X2_hasPoint (l : Launch) (D : va_G) (cI cJ : ClassId) (h hz hs bn pt pn : Nat) (Z S : Nat → Nat) (a : Nat) (hpt : pt < 9223372036854775808) (ha : a < 9223372036854775808) : RO_i l yX2_hasPoint wsX2_hasPoint ({ frames := 0, cells := 0, slots := 0, locals := 0 } : Room) D [(h, .inr (3, [.int (nI bn), .ref hz, .ref hs, .long (lN pt), .int (nI pn)])), (hz, aI cI 62 Z), (hs, aJ cJ 63 S)] [(cI, .int), (cJ, .long)] [.ref h, .long (lN a)] (fun v => v = bI (a < pt)) := by
  refine RO_i.ofz (cc := cX2_hasPoint) (maxL := 3) (by decide) rfl (Nat.le_of_ble_eq_true rfl) ?_
  intro p e s m args below meth c ls A Q hx hb hml hts hown hA hP hK hl hret
  have hown : s.vm.findClass RX2 = some m.cls := hown
  have hl : lv_has ls 3 [(0, .ref h), (1, .long (lN a))] := hl
  have hS : va_S A s.heap s.heap [] := va_S.rf
  have hinX2 : ∀ w ∈ wsX20, w ∈ wsX2_hasPoint := by decide +kernel
  refine lv_lload_n hx hb dX2_hasPoint_0 rfl (lv_at hl 1 rfl) ?_
  refine lv_lconst (v := lN 0) hx hb dX2_hasPoint_1 (by decide) ?_
  refine zl_lt (tgt := 19) hx hb dX2_hasPoint_2 dX2_hasPoint_3 (by decide) (by omega) (by omega) (fun c2 => ?_) (fun c2 => ?_)
  · exact False.elim (by omega)
  · refine lv_lload_n hx hb dX2_hasPoint_6 rfl (lv_at hl 1 rfl) ?_
    refine lv_aload_n hx hb dX2_hasPoint_7 rfl (lv_at hl 0 rfl) ?_
    refine va_get (D := D) (ci := 3) (v := .long (lN pt)) (C := RX2) (T := TX2) (N := 5) hx hb hts hinX2 hown hK hP 0 rfl rfl 3 (by decide) (hts (.fieldLink RX2 23 "PassSearch$Plan" "points" "J") (by decide +kernel)) (fun _ h9 => h9) rfl dX2_hasPoint_8 ?_
    refine zl_ge (tgt := 19) hx hb dX2_hasPoint_11 dX2_hasPoint_12 (by decide) (by omega) (by omega) (fun c11 => ?_) (fun c11 => ?_)
    · refine lv_iconst (v := nI 0) hx hb dX2_hasPoint_19 (by decide) ?_
      exact hret _ _ _ _ _ hS (Or.inl rfl) (bI_f' (by omega)) dX2_hasPoint_20
    · refine lv_iconst (v := nI 1) hx hb dX2_hasPoint_15 (by decide) ?_
      refine lv_goto (tgt := 20) hx hb dX2_hasPoint_16 (by decide) ?_
      exact hret _ _ _ _ _ hS (Or.inr rfl) (bI_t' c11) dX2_hasPoint_20
set_option maxHeartbeats 4000000 in
set_option maxRecDepth 100000 in
/-- hasPass -/
theorem c_X2_hasPass (l : Launch) (D : va_G) (cI cJ : ClassId) (h hz hs bn pt pn : Nat) (Z S : Nat → Nat) (x : Int32) (hpn : pn < 2147483648) : RO_i l yX2_hasPass wsX2_hasPass ({ frames := 0, cells := 0, slots := 0, locals := 0 } : Room) D [(h, .inr (3, [.int (nI bn), .ref hz, .ref hs, .long (lN pt), .int (nI pn)])), (hz, aI cI 62 Z), (hs, aJ cJ 63 S)] [(cI, .int), (cJ, .long)] [.ref h, .int x] (fun v => v = bI (0 ≤ x.toInt ∧ x.toInt < (pn : Int))) := by
  refine RO_i.ofz (cc := cX2_hasPass) (maxL := 2) (by decide) rfl (Nat.le_of_ble_eq_true rfl) ?_
  intro p e s m args below meth c ls A Q hx hb hml hts hown hA hP hK hl hret
  have hown : s.vm.findClass RX2 = some m.cls := hown
  have hl : lv_has ls 2 [(0, .ref h), (1, .int x)] := hl
  have hS : va_S A s.heap s.heap [] := va_S.rf
  have hinX2 : ∀ w ∈ wsX20, w ∈ wsX2_hasPass := by decide +kernel
  refine lv_iload_n hx hb dX2_hasPass_0 rfl (lv_at hl 1 rfl) ?_
  refine zq_if_lt (tgt := 16) hx hb dX2_hasPass_1 (by decide) (fun c1 => ?_) (fun c1 => ?_)
  · refine lv_iconst (v := nI 0) hx hb dX2_hasPass_16 (by decide) ?_
    exact hret _ _ _ _ _ hS (Or.inl rfl) (bI_f' (by omega)) dX2_hasPass_17
  · refine lv_iload_n hx hb dX2_hasPass_4 rfl (lv_at hl 1 rfl) ?_
    refine lv_aload_n hx hb dX2_hasPass_5 rfl (lv_at hl 0 rfl) ?_
    refine va_get (D := D) (ci := 3) (v := .int (nI pn)) (C := RX2) (T := TX2) (N := 5) hx hb hts hinX2 hown hK hP 0 rfl rfl 4 (by decide) (hts (.fieldLink RX2 27 "PassSearch$Plan" "passCount" "I") (by decide +kernel)) (fun _ h9 => h9) rfl dX2_hasPass_6 ?_
    refine zq_ge (tgt := 16) hx hb dX2_hasPass_9 (by decide) (fun c9 => ?_) (fun c9 => ?_)
    · refine lv_iconst (v := nI 0) hx hb dX2_hasPass_16 (by decide) ?_
      exact hret _ _ _ _ _ hS (Or.inl rfl) (bI_f' (by rw [nI_toInt (by omega)] at c9; omega)) dX2_hasPass_17
    · refine lv_iconst (v := nI 1) hx hb dX2_hasPass_12 (by decide) ?_
      refine lv_goto (tgt := 17) hx hb dX2_hasPass_13 (by decide) ?_
      exact hret _ _ _ _ _ hS (Or.inr rfl) (bI_t' (by rw [nI_toInt (by omega)] at c9; omega)) dX2_hasPass_17
set_option maxHeartbeats 4000000 in
set_option maxRecDepth 100000 in
/-- passCount -/
theorem c_X2_passCount (l : Launch) (D : va_G) (cI cJ : ClassId) (h hz hs bn pt pn : Nat) (Z S : Nat → Nat) : RO_i l yX2_passCount wsX2_passCount ({ frames := 0, cells := 0, slots := 0, locals := 0 } : Room) D [(h, .inr (3, [.int (nI bn), .ref hz, .ref hs, .long (lN pt), .int (nI pn)])), (hz, aI cI 62 Z), (hs, aJ cJ 63 S)] [(cI, .int), (cJ, .long)] [.ref h] (fun v => v = nI pn) := by
  refine RO_i.of (cc := cX2_passCount) (maxL := 1) (by decide) rfl (Nat.le_of_ble_eq_true rfl) ?_
  intro p e s m args below meth c ls A Q hx hb hml hts hown hA hP hK hl hret
  have hown : s.vm.findClass RX2 = some m.cls := hown
  have hl : lv_has ls 1 [(0, .ref h)] := hl
  have hS : va_S A s.heap s.heap [] := va_S.rf
  have hinX2 : ∀ w ∈ wsX20, w ∈ wsX2_passCount := by decide +kernel
  refine lv_aload_n hx hb dX2_passCount_0 rfl (lv_at hl 0 rfl) ?_
  refine va_get (D := D) (ci := 3) (v := .int (nI pn)) (C := RX2) (T := TX2) (N := 5) hx hb hts hinX2 hown hK hP 0 rfl rfl 4 (by decide) (hts (.fieldLink RX2 27 "PassSearch$Plan" "passCount" "I") (by decide +kernel)) (fun _ h9 => h9) rfl dX2_passCount_1 ?_
  exact hret _ _ _ _ _ hS (rfl) dX2_passCount_4
set_option maxHeartbeats 4000000 in
set_option maxRecDepth 100000 in
/-- sizeOf -/
theorem c_X2_sizeOf (l : Launch) (D : va_G) (cI cJ : ClassId) (h hz hs bn pt pn : Nat) (Z S : Nat → Nat) (k : Nat) (hk : k < pn) (hpn : pn ≤ 62) : RO_i l yX2_sizeOf wsX2_sizeOf ({ frames := 1, cells := 0, slots := 0, locals := 21 } : Room) D [(h, .inr (3, [.int (nI bn), .ref hz, .ref hs, .long (lN pt), .int (nI pn)])), (hz, aI cI 62 Z), (hs, aJ cJ 63 S)] [(cI, .int), (cJ, .long)] [.ref h, .int (nI k)] (fun v => v = nI (Z k)) := by
  refine RO_i.of (cc := cX2_sizeOf) (maxL := 2) (by decide) rfl (Nat.le_of_ble_eq_true rfl) ?_
  intro p e s m args below meth c ls A Q hx hb hml hts hown hA hP hK hl hret
  have hown : s.vm.findClass RX2 = some m.cls := hown
  have hl : lv_has ls 2 [(0, .ref h), (1, .int (nI k))] := hl
  have hS : va_S A s.heap s.heap [] := va_S.rf
  have hinX2 : ∀ w ∈ wsX20, w ∈ wsX2_sizeOf := by decide +kernel
  refine lv_aload_n hx hb dX2_sizeOf_0 rfl (lv_at hl 0 rfl) ?_
  refine lv_iload_n hx hb dX2_sizeOf_1 rfl (lv_at hl 1 rfl) ?_
  refine RO_i.callV (rest := []) (c_X2_hasPass l D cI cJ h hz hs bn pt pn Z S (nI k) (by omega)) ⟨hx, hb, hml, hown, hts⟩ (cwV 1 hts gX2_sizeOf_X2_hasPass rfl rfl rfl (by decide +kernel) ⟨Nat.le_of_ble_eq_true rfl, Nat.le_of_ble_eq_true rfl⟩) hK hP hS hA [0, 1, 2] [0, 1] rfl rfl 0 3 rfl rfl rfl rfl hl.1 rfl (Nat.le_of_ble_eq_true rfl) dX2_sizeOf_2 ⟨Nat.zero_le _, Nat.zero_le _⟩ (fun v1_ H locs e1_ hP hS => ?_)
  obtain rfl : v1_ = bI (k < pn) := e1_.trans (bI_c (by rw [nI_toInt (by omega)]; omega))
  refine zb_eq (tgt := 17) hx hb dX2_sizeOf_5 (by decide) (fun c5 => ?_) (fun c5 => ?_)
  · exact False.elim (c5 hk)
  · refine lv_aload_n hx hb dX2_sizeOf_8 rfl (lv_at hl 0 rfl) ?_
    refine va_get (D := D) (ci := 3) (v := .ref hz) (C := RX2) (T := TX2) (N := 5) hx hb hts hinX2 hown hK hP 0 rfl rfl 1 (by decide) (hts (.fieldLink RX2 9 "PassSearch$Plan" "sizes" "[I") (by decide +kernel)) (fun _ h9 => h9) rfl dX2_sizeOf_9 ?_
    refine lv_iload_n hx hb dX2_sizeOf_12 rfl (lv_at hl 1 rfl) ?_
    refine zi_ald hx hb hK hP 1 0 rfl rfl (k := k) (by omega) (by omega) dX2_sizeOf_13 ?_
    refine lv_goto (tgt := 18) hx hb dX2_sizeOf_14 (by decide) ?_
    exact hret _ _ _ _ _ hS (rfl) dX2_sizeOf_18
set_option maxHeartbeats 4000000 in
set_option maxRecDepth 100000 in
/-- spanBehind -/
theorem c_X2_spanBehind (l : Launch) (D : va_G) (cI cJ : ClassId) (h hz hs bn pt pn : Nat) (Z S : Nat → Nat) (k : Nat) (hk : k < pn) (hpn : pn ≤ 62) : RO_l l yX2_spanBehind wsX2_spanBehind ({ frames := 1, cells := 0, slots := 0, locals := 21 } : Room) D [(h, .inr (3, [.int (nI bn), .ref hz, .ref hs, .long (lN pt), .int (nI pn)])), (hz, aI cI 62 Z), (hs, aJ cJ 63 S)] [(cI, .int), (cJ, .long)] [.ref h, .int (nI k)] (fun v => v = lN (S (k + 1))) := by
  refine RO_l.of (cc := cX2_spanBehind) (maxL := 2) (by decide) rfl (Nat.le_of_ble_eq_true rfl) ?_
  intro p e s m args below meth c ls A Q hx hb hml hts hown hA hP hK hl hret
  have hown : s.vm.findClass RX2 = some m.cls := hown
  have hl : lv_has ls 2 [(0, .ref h), (1, .int (nI k))] := hl
  have hS : va_S A s.heap s.heap [] := va_S.rf
  have hinX2 : ∀ w ∈ wsX20, w ∈ wsX2_spanBehind := by decide +kernel
  refine lv_aload_n hx hb dX2_spanBehind_0 rfl (lv_at hl 0 rfl) ?_
  refine lv_iload_n hx hb dX2_spanBehind_1 rfl (lv_at hl 1 rfl) ?_
  refine RO_i.callV (rest := []) (c_X2_hasPass l D cI cJ h hz hs bn pt pn Z S (nI k) (by omega)) ⟨hx, hb, hml, hown, hts⟩ (cwV 1 hts gX2_spanBehind_X2_hasPass rfl rfl rfl (by decide +kernel) ⟨Nat.le_of_ble_eq_true rfl, Nat.le_of_ble_eq_true rfl⟩) hK hP hS hA [0, 1, 2] [0, 1] rfl rfl 0 3 rfl rfl rfl rfl hl.1 rfl (Nat.le_of_ble_eq_true rfl) dX2_spanBehind_2 ⟨Nat.zero_le _, Nat.zero_le _⟩ (fun v1_ H locs e1_ hP hS => ?_)
  obtain rfl : v1_ = bI (k < pn) := e1_.trans (bI_c (by rw [nI_toInt (by omega)]; omega))
  refine zb_eq (tgt := 19) hx hb dX2_spanBehind_5 (by decide) (fun c5 => ?_) (fun c5 => ?_)
  · exact False.elim (c5 hk)
  · refine lv_aload_n hx hb dX2_spanBehind_8 rfl (lv_at hl 0 rfl) ?_
    refine va_get (D := D) (ci := 3) (v := .ref hs) (C := RX2) (T := TX2) (N := 5) hx hb hts hinX2 hown hK hP 0 rfl rfl 2 (by decide) (hts (.fieldLink RX2 15 "PassSearch$Plan" "spans" "[J") (by decide +kernel)) (fun _ h9 => h9) rfl dX2_spanBehind_9 ?_
    refine lv_iload_n hx hb dX2_spanBehind_12 rfl (lv_at hl 1 rfl) ?_
    refine lv_iconst (v := nI 1) hx hb dX2_spanBehind_13 (by decide) ?_
    refine zi_add hx hb dX2_spanBehind_14  ?_
    refine zl_ald hx hb hK hP 2 1 rfl rfl (k := k + 1) (by omega) (by omega) dX2_spanBehind_15 ?_
    refine lv_goto (tgt := 20) hx hb dX2_spanBehind_16 (by decide) ?_
    exact hret _ _ _ _ _ hS (rfl) dX2_spanBehind_20
set_option maxHeartbeats 4000000 in
set_option maxRecDepth 100000 in
/-- binOf -/
theorem c_X2_binOf (l : Launch) (D : va_G) (cI cJ : ClassId) (h hz hs bn pt pn : Nat) (Z S : Nat → Nat) (a k : Nat) (hk : k < pn) (hpn : pn ≤ 62) (ha : a < 9223372036854775808) (hS1 : 1 ≤ S k ∧ S k < 9223372036854775808) (hZ1 : 1 ≤ Z k ∧ Z k < 2147483648) : RO_i l yX2_binOf wsX2_binOf ({ frames := 1, cells := 0, slots := 0, locals := 23 } : Room) D [(h, .inr (3, [.int (nI bn), .ref hz, .ref hs, .long (lN pt), .int (nI pn)])), (hz, aI cI 62 Z), (hs, aJ cJ 63 S)] [(cI, .int), (cJ, .long)] [.ref h, .long (lN a), .int (nI k)] (fun v => v = nI (a / S k % Z k)) := by
  refine RO_i.of (cc := cX2_binOf) (maxL := 4) (by decide) rfl (Nat.le_of_ble_eq_true rfl) ?_
  intro p e s m args below meth c ls A Q hx hb hml hts hown hA hP hK hl hret
  have hown : s.vm.findClass RX2 = some m.cls := hown
  have hl : lv_has ls 4 [(0, .ref h), (1, .long (lN a)), (3, .int (nI k))] := hl
  have hS : va_S A s.heap s.heap [] := va_S.rf
  have hinX2 : ∀ w ∈ wsX20, w ∈ wsX2_binOf := by decide +kernel
  refine lv_aload_n hx hb dX2_binOf_0 rfl (lv_at hl 0 rfl) ?_
  refine lv_iload_n hx hb dX2_binOf_1 rfl (lv_at hl 2 rfl) ?_
  refine RO_i.callV (rest := []) (c_X2_hasPass l D cI cJ h hz hs bn pt pn Z S (nI k) (by omega)) ⟨hx, hb, hml, hown, hts⟩ (cwV 1 hts gX2_binOf_X2_hasPass rfl rfl rfl (by decide +kernel) ⟨Nat.le_of_ble_eq_true rfl, Nat.le_of_ble_eq_true rfl⟩) hK hP hS hA [0, 1, 2] [0, 1] rfl rfl 0 3 rfl rfl rfl rfl hl.1 rfl (Nat.le_of_ble_eq_true rfl) dX2_binOf_2 ⟨Nat.zero_le _, Nat.zero_le _⟩ (fun v1_ H locs e1_ hP hS => ?_)
  obtain rfl : v1_ = bI (k < pn) := e1_.trans (bI_c (by rw [nI_toInt (by omega)]; omega))
  refine zb_eq (tgt := 32) hx hb dX2_binOf_5 (by decide) (fun c5 => ?_) (fun c5 => ?_)
  · exact False.elim (c5 hk)
  · refine lv_lload_n hx hb dX2_binOf_8 rfl (lv_at hl 1 rfl) ?_
    refine lv_aload_n hx hb dX2_binOf_9 rfl (lv_at hl 0 rfl) ?_
    refine va_get (D := D) (ci := 3) (v := .ref hs) (C := RX2) (T := TX2) (N := 5) hx hb hts hinX2 hown hK hP 0 rfl rfl 2 (by decide) (hts (.fieldLink RX2 15 "PassSearch$Plan" "spans" "[J") (by decide +kernel)) (fun _ h9 => h9) rfl dX2_binOf_10 ?_
    refine lv_iload_n hx hb dX2_binOf_13 rfl (lv_at hl 2 rfl) ?_
    refine zl_ald hx hb hK hP 2 1 rfl rfl (k := k) (by omega) (by omega) dX2_binOf_14 ?_
    refine RO_l.callS (rest := []) (c_X3_quotient l D a (S k) ha hS1.1 hS1.2) ⟨hx, hb, hml, hown, hts⟩ (va_cwS 2 hts gX2_binOf_X3_quotient rfl rfl rfl (by decide +kernel) ⟨Nat.le_of_ble_eq_true rfl, Nat.le_of_ble_eq_true rfl⟩) hK hP hS hA [] [] rfl rfl rfl hl.1 rfl (Nat.le_of_ble_eq_true rfl) dX2_binOf_15 ⟨Nat.zero_le _, Nat.zero_le _⟩ (fun v2_ H locs e2_ hP hS => ?_)
    obtain rfl : v2_ = lN (a / S k) := e2_
    refine lv_aload_n hx hb dX2_binOf_18 rfl (lv_at hl 0 rfl) ?_
    refine va_get (D := D) (ci := 3) (v := .ref hz) (C := RX2) (T := TX2) (N := 5) hx hb hts hinX2 hown hK hP 0 rfl rfl 1 (by decide) (hts (.fieldLink RX2 9 "PassSearch$Plan" "sizes" "[I") (by decide +kernel)) (fun _ h9 => h9) rfl dX2_binOf_19 ?_
    refine lv_iload_n hx hb dX2_binOf_22 rfl (lv_at hl 2 rfl) ?_
    refine zi_ald hx hb hK hP 1 0 rfl rfl (k := k) (by omega) (by omega) dX2_binOf_23 ?_
    refine z_i2l hx hb dX2_binOf_24 (by omega) ?_
    refine RO_l.callS (rest := []) (c_X3_remainder l D (a / S k) (Z k) (Nat.lt_of_le_of_lt (Nat.div_le_self _ _) ha) hZ1.1 (by omega)) ⟨hx, hb, hml, hown, hts⟩ (va_cwS 2 hts gX2_binOf_X3_remainder rfl rfl rfl (by decide +kernel) ⟨Nat.le_of_ble_eq_true rfl, Nat.le_of_ble_eq_true rfl⟩) hK hP hS hA [] [] rfl rfl rfl hl.1 rfl (Nat.le_of_ble_eq_true rfl) dX2_binOf_25 ⟨Nat.zero_le _, Nat.zero_le _⟩ (fun v3_ H locs e3_ hP hS => ?_)
    obtain rfl : v3_ = lN (a / S k % Z k) := e3_
    refine z_l2i hx hb dX2_binOf_28 ?_
    refine lv_goto (tgt := 33) hx hb dX2_binOf_29 (by decide) ?_
    exact hret _ _ _ _ _ hS (rfl) dX2_binOf_33
set_option maxHeartbeats 4000000 in
set_option maxRecDepth 100000 in
/-- isEnough -/
theorem c_X2_isEnough (l : Launch) (D : va_G) (cI cJ : ClassId) (h hz hs bn pt pn : Nat) (Z S : Nat → Nat) (k x y : Nat) (hk : k + 1 < pn) (hpn : pn ≤ 62) (hbn : bn ≤ 65536) (hx1 : 1 ≤ x ∧ x < 2147483648) (hy : pn - k - 1 ≤ y ∧ y < 2147483647) (hSk : 1 ≤ S k ∧ S k ≤ 4611686018427387904) (hpt : pt ≤ 4611686018427387904) : RO_i l yX2_isEnough wsX2_isEnough ({ frames := 4, cells := 0, slots := 0, locals := 94 } : Room) D [(h, .inr (3, [.int (nI bn), .ref hz, .ref hs, .long (lN pt), .int (nI pn)])), (hz, aI cI 62 Z), (hs, aJ cJ 63 S)] [(cI, .int), (cJ, .long)] [.ref h, .int (nI k), .int (nI x), .int (nI y)] (fun v => v = bI (y ≤ (pn - k - 1) * bn ∧ pt ≤ S k * x * wide y (pn - k - 1))) := by
  refine RO_i.ofz (cc := cX2_isEnough) (maxL := 7) (by decide) rfl (Nat.le_of_ble_eq_true rfl) ?_
  intro p e s m args below meth c ls A Q hx hb hml hts hown hA hP hK hl hret
  have hown : s.vm.findClass RX2 = some m.cls := hown
  have hl : lv_has ls 7 [(0, .ref h), (1, .int (nI k)), (2, .int (nI x)), (3, .int (nI y))] := hl
  have hS : va_S A s.heap s.heap [] := va_S.rf
  have hinX2 : ∀ w ∈ wsX20, w ∈ wsX2_isEnough := by decide +kernel
  have hm : (pn - k - 1) * bn ≤ 62 * 65536 := Nat.mul_le_mul (by omega) hbn
  have hwp : 1 ≤ wide y (pn - k - 1) := wide_pos (by omega)
  have hsx : 1 ≤ S k * x := Nat.mul_pos hSk.1 (by omega)
  refine lv_aload_n hx hb dX2_isEnough_0 rfl (lv_at hl 0 rfl) ?_
  refine va_get (D := D) (ci := 3) (v := .int (nI pn)) (C := RX2) (T := TX2) (N := 5) hx hb hts hinX2 hown hK hP 0 rfl rfl 4 (by decide) (hts (.fieldLink RX2 27 "PassSearch$Plan" "passCount" "I") (by decide +kernel)) (fun _ h9 => h9) rfl dX2_isEnough_1 ?_
  refine lv_iload_n hx hb dX2_isEnough_4 rfl (lv_at hl 1 rfl) ?_
  refine zi_sub hx hb dX2_isEnough_5 (by omega) ?_
  refine lv_iconst (v := nI 1) hx hb dX2_isEnough_6 (by decide) ?_
  refine zi_sub hx hb dX2_isEnough_7 (by omega) ?_
  refine lv_istore (lv' := [(4, .int (nI ((pn - k) - 1))), (0, .ref h), (1, .int (nI k)), (2, .int (nI x)), (3, .int (nI y))]) hx hb dX2_isEnough_8 hl (by decide) rfl (fun ls hl => ?_)
  refine lv_iload_n hx hb dX2_isEnough_10 rfl (lv_at hl 4 rfl) ?_
  refine lv_iload hx hb dX2_isEnough_11 (lv_at hl 0 rfl) ?_
  refine lv_aload_n hx hb dX2_isEnough_13 rfl (lv_at hl 1 rfl) ?_
  refine va_get (D := D) (ci := 3) (v := .int (nI bn)) (C := RX2) (T := TX2) (N := 5) hx hb hts hinX2 hown hK hP 0 rfl rfl 0 (by decide) (hts (.fieldLink RX2 19 "PassSearch$Plan" "bins" "I") (by decide +kernel)) (fun _ h9 => h9) rfl dX2_isEnough_14 ?_
  refine zi_mul hx hb dX2_isEnough_17  ?_
  refine zi_le (tgt := 23) hx hb dX2_isEnough_18 (by decide) (by omega) (by omega) (fun c18 => ?_) (fun c18 => ?_)
  · refine lv_iload_n hx hb dX2_isEnough_23 rfl (lv_at hl 4 rfl) ?_
    refine lv_iload hx hb dX2_isEnough_24 (lv_at hl 0 rfl) ?_
    refine RO_l.callS (rest := []) (c_X3_widestProduct l D y (pn - k - 1) (by omega) (by omega) (by omega)) ⟨hx, hb, hml, hown, hts⟩ (va_cwS 2 hts gX2_isEnough_X3_widestProduct rfl rfl rfl (by decide +kernel) ⟨Nat.le_of_ble_eq_true rfl, Nat.le_of_ble_eq_true rfl⟩) hK hP hS hA [] [] rfl rfl rfl hl.1 rfl (Nat.le_of_ble_eq_true rfl) dX2_isEnough_26 ⟨Nat.zero_le _, Nat.zero_le _⟩ (fun v1_ H locs e1_ hP hS => ?_)
    obtain rfl : v1_ = lN (sat (wide y (pn - k - 1))) := e1_
    refine lv_lstore (lv' := [(5, .long (lN (sat (wide y (pn - k - 1))))), (4, .int (nI ((pn - k) - 1))), (0, .ref h), (1, .int (nI k)), (2, .int (nI x)), (3, .int (nI y))]) hx hb dX2_isEnough_29 hl (by decide) rfl (fun ls hl => ?_)
    refine lv_aload_n hx hb dX2_isEnough_31 rfl (lv_at hl 2 rfl) ?_
    refine va_get (D := D) (ci := 3) (v := .ref hs) (C := RX2) (T := TX2) (N := 5) hx hb hts hinX2 hown hK hP 0 rfl rfl 2 (by decide) (hts (.fieldLink RX2 15 "PassSearch$Plan" "spans" "[J") (by decide +kernel)) (fun _ h9 => h9) rfl dX2_isEnough_32 ?_
    refine lv_iload_n hx hb dX2_isEnough_35 rfl (lv_at hl 3 rfl) ?_
    refine zl_ald hx hb hK hP 2 1 rfl rfl (k := k) (by omega) (by omega) dX2_isEnough_36 ?_
    refine lv_iload_n hx hb dX2_isEnough_37 rfl (lv_at hl 4 rfl) ?_
    refine z_i2l hx hb dX2_isEnough_38 (by omega) ?_
    refine RO_l.callS (rest := []) (c_X3_product l D (S k) x hSk.2 (by omega) (by omega)) ⟨hx, hb, hml, hown, hts⟩ (va_cwS 2 hts gX2_isEnough_X3_product rfl rfl rfl (by decide +kernel) ⟨Nat.le_of_ble_eq_true rfl, Nat.le_of_ble_eq_true rfl⟩) hK hP hS hA [] [] rfl rfl rfl hl.1 rfl (Nat.le_of_ble_eq_true rfl) dX2_isEnough_39 ⟨Nat.zero_le _, Nat.zero_le _⟩ (fun v2_ H locs e2_ hP hS => ?_)
    obtain rfl : v2_ = lN (sat (S k * x)) := e2_
    refine lv_lload hx hb dX2_isEnough_42 (lv_at hl 0 rfl) ?_
    refine RO_l.callS (rest := []) (c_X3_product l D (sat (S k * x)) (sat (wide y (pn - k - 1))) (sat_top _) (sat_pos hwp) (sat_top _)) ⟨hx, hb, hml, hown, hts⟩ (va_cwS 2 hts gX2_isEnough_X3_product rfl rfl rfl (by decide +kernel) ⟨Nat.le_of_ble_eq_true rfl, Nat.le_of_ble_eq_true rfl⟩) hK hP hS hA [] [] rfl rfl rfl hl.1 rfl (Nat.le_of_ble_eq_true rfl) dX2_isEnough_44 ⟨Nat.zero_le _, Nat.zero_le _⟩ (fun v3_ H locs e3_ hP hS => ?_)
    obtain rfl : v3_ = lN (sat (sat (S k * x) * sat (wide y (pn - k - 1)))) := e3_
    refine lv_topl (fun v4_ e4_ => ?_)
    obtain rfl : v4_ = lN (sat (S k * x * wide y (pn - k - 1))) := e4_.trans (congrArg lN (sat_mul2 hsx hwp))
    refine lv_aload_n hx hb dX2_isEnough_47 rfl (lv_at hl 2 rfl) ?_
    refine va_get (D := D) (ci := 3) (v := .long (lN pt)) (C := RX2) (T := TX2) (N := 5) hx hb hts hinX2 hown hK hP 0 rfl rfl 3 (by decide) (hts (.fieldLink RX2 23 "PassSearch$Plan" "points" "J") (by decide +kernel)) (fun _ h9 => h9) rfl dX2_isEnough_48 ?_
    refine zl_lt (tgt := 59) hx hb dX2_isEnough_51 dX2_isEnough_52 (by decide) (sat_lt _) (by omega) (fun c51 => ?_) (fun c51 => ?_)
    · refine lv_iconst (v := nI 0) hx hb dX2_isEnough_59 (by decide) ?_
      exact hret _ _ _ _ _ hS (Or.inl rfl) (bI_f' (fun q => absurd ((le_sat hpt).mpr q.2) (by omega))) dX2_isEnough_60
    · refine lv_iconst (v := nI 1) hx hb dX2_isEnough_55 (by decide) ?_
      refine lv_goto (tgt := 60) hx hb dX2_isEnough_56 (by decide) ?_
      exact hret _ _ _ _ _ hS (Or.inr rfl) (bI_t' ⟨c18, (le_sat hpt).mp c51⟩) dX2_isEnough_60
  · refine lv_iconst (v := nI 0) hx hb dX2_isEnough_21 (by decide) ?_
    exact hret _ _ _ _ _ hS (Or.inl rfl) (bI_f' (fun q => by omega)) dX2_isEnough_22
set_option maxHeartbeats 4000000 in
set_option maxRecDepth 100000 in
/-- leastSize -/
theorem c_X2_leastSize (l : Launch) (D : va_G) (cI cJ : ClassId) (h hz hs bn pt pn : Nat) (Z S : Nat → Nat) (k z : Nat) (hk : k < pn) (hpn : pn ≤ 62) (hbn : bn ≤ 65536) (hzz : 2 * (pn - k) ≤ z ∧ z ≤ (pn - k) * bn) (hSk : 1 ≤ S k ∧ S k ≤ 4611686018427387904) (hpt : pt ≤ 4611686018427387904) (hfe : pt ≤ S k * wide z (pn - k)) : RO_i l yX2_leastSize wsX2_leastSize ({ frames := 5, cells := 0, slots := 0, locals := 120 } : Room) D [(h, .inr (3, [.int (nI bn), .ref hz, .ref hs, .long (lN pt), .int (nI pn)])), (hz, aI cI 62 Z), (hs, aJ cJ 63 S)] [(cI, .int), (cJ, .long)] [.ref h, .int (nI k), .int (nI z)] (fun v => ∃ x, v = nI x ∧ isSize pt bn (S k) z (pn - k - 1) x ∧ x ≤ z / (pn - k)) := by
  refine RO_i.of (cc := cX2_leastSize) (maxL := 7) (by decide) rfl (Nat.le_of_ble_eq_true rfl) ?_
  intro p e s m args below meth c ls A Q hx hb hml hts hown hA hP hK hl hret
  have hown : s.vm.findClass RX2 = some m.cls := hown
  have hl : lv_has ls 7 [(0, .ref h), (1, .int (nI k)), (2, .int (nI z))] := hl
  have hS : va_S A s.heap s.heap [] := va_S.rf
  have hinX2 : ∀ w ∈ wsX20, w ∈ wsX2_leastSize := by decide +kernel
  have hm : (pn - k) * bn ≤ 62 * 65536 := Nat.mul_le_mul (by omega) hbn
  have hdz : z / (pn - k) ≤ z := Nat.div_le_self _ _
  have hd2 : 2 ≤ z / (pn - k) := (Nat.le_div_iff_mul_le (by omega)).mpr hzz.1
  have hn1 : pn - k - 1 + 1 = pn - k := by omega
  have hmn : okS pt bn (S k) z (pn - k - 1) (z / (pn - k)) := by
    have h := okS_mean (q := pt) (b := bn) (dn := S k) (z := z) (n := pn - k - 1) (by omega) (by rw [hn1]; exact hzz.2) (by rw [hn1]; exact hfe)
    rw [hn1] at h
    exact h
  refine lv_iconst (v := nI 2) hx hb dX2_leastSize_0 (by decide) ?_
  refine lv_istore_n (lv' := [(3, .int (nI 2)), (0, .ref h), (1, .int (nI k)), (2, .int (nI z))]) hx hb dX2_leastSize_1 rfl hl (by decide) rfl (fun ls hl => ?_)
  refine lv_iload_n hx hb dX2_leastSize_2 rfl (lv_at hl 3 rfl) ?_
  refine z_i2l hx hb dX2_leastSize_3 (by omega) ?_
  refine lv_aload_n hx hb dX2_leastSize_4 rfl (lv_at hl 1 rfl) ?_
  refine va_get (D := D) (ci := 3) (v := .int (nI pn)) (C := RX2) (T := TX2) (N := 5) hx hb hts hinX2 hown hK hP 0 rfl rfl 4 (by decide) (hts (.fieldLink RX2 27 "PassSearch$Plan" "passCount" "I") (by decide +kernel)) (fun _ h9 => h9) rfl dX2_leastSize_5 ?_
  refine lv_iload_n hx hb dX2_leastSize_8 rfl (lv_at hl 2 rfl) ?_
  refine zi_sub hx hb dX2_leastSize_9 (by omega) ?_
  refine z_i2l hx hb dX2_leastSize_10 (by omega) ?_
  refine RO_l.callS (rest := []) (c_X3_quotient l D z (pn - k) (by omega) (by omega) (by omega)) ⟨hx, hb, hml, hown, hts⟩ (va_cwS 2 hts gX2_leastSize_X3_quotient rfl rfl rfl (by decide +kernel) ⟨Nat.le_of_ble_eq_true rfl, Nat.le_of_ble_eq_true rfl⟩) hK hP hS hA [] [] rfl rfl rfl hl.1 rfl (Nat.le_of_ble_eq_true rfl) dX2_leastSize_11 ⟨Nat.zero_le _, Nat.zero_le _⟩ (fun v1_ H locs e1_ hP hS => ?_)
  obtain rfl : v1_ = lN (z / (pn - k)) := e1_
  refine z_l2i hx hb dX2_leastSize_14 ?_
  refine lv_istore (lv' := [(4, .int (nI (z / (pn - k)))), (3, .int (nI 2)), (0, .ref h), (1, .int (nI k)), (2, .int (nI z))]) hx hb dX2_leastSize_15 hl (by decide) rfl (fun ls hl => ?_)
  refine lv_iload_n hx hb dX2_leastSize_17 rfl (lv_at hl 3 rfl) ?_
  refine lv_aload_n hx hb dX2_leastSize_18 rfl (lv_at hl 2 rfl) ?_
  refine va_get (D := D) (ci := 3) (v := .int (nI pn)) (C := RX2) (T := TX2) (N := 5) hx hb hts hinX2 hown hK hP 0 rfl rfl 4 (by decide) (hts (.fieldLink RX2 27 "PassSearch$Plan" "passCount" "I") (by decide +kernel)) (fun _ h9 => h9) rfl dX2_leastSize_19 ?_
  refine lv_iconst (v := nI 1) hx hb dX2_leastSize_22 (by decide) ?_
  refine zi_sub hx hb dX2_leastSize_23 (by omega) ?_
  refine zi_ne (tgt := 30) hx hb dX2_leastSize_24 (by decide) (by omega) (by omega) (fun c24 => ?_) (fun c24 => ?_)
  · refine lv_iconst (v := nI 0) hx hb dX2_leastSize_30 (by decide) ?_
    refine lv_istore (lv' := [(5, .int (nI 0)), (4, .int (nI (z / (pn - k)))), (3, .int (nI 2)), (0, .ref h), (1, .int (nI k)), (2, .int (nI z))]) hx hb dX2_leastSize_31 hl (by decide) rfl (fun ls hl => ?_)
    have L33 : ∀ (nf : Nat) (lo : Nat) (hi : Nat) (t : Nat), (2 ≤ lo ∧ lo ≤ hi ∧ hi ≤ z / (pn - k) ∧ t ≤ 32) → (hi - lo < 2 ^ (32 - t)) → (∀ y, y < lo → ¬ okS pt bn (S k) z (pn - k - 1) y) → (okS pt bn (S k) z (pn - k - 1) hi) → 32 - t < nf → ∀ (H : Heap) (locs : List Loc) (ls : Array Slot), va_P D vwCl [(h, .inr (3, [.int (nI bn), .ref hz, .ref hs, .long (lN pt), .int (nI pn)])), (hz, aI cI 62 Z), (hs, aJ cJ 63 S)] H → va_S A s.heap H locs → lv_has ls 7 [(3, .int (nI lo)), (4, .int (nI hi)), (5, .int (nI t)), (0, .ref h), (1, .int (nI k)), (2, .int (nI z))] → W p l e ({ frames := 5, cells := 0, slots := 0, locals := 120 } : Room) s m args below meth c H locs 0 0 Q (F0 m 33 ls []) := by
      intro nf
      induction nf with
      | zero => intro lo hi t i1 i2 i3 i4 hm; exact absurd hm (Nat.not_lt_zero _)
      | succ nf ih33 =>
        intro lo hi t i1 i2 i3 i4 hm33 H locs ls hP hS hl
        refine lv_iload hx hb dX2_leastSize_33 (lv_at hl 2 rfl) ?_
        refine lv_bipush (v := nI 32) hx hb dX2_leastSize_35 (by decide) ?_
        refine zi_ge (tgt := 86) hx hb dX2_leastSize_37 (by decide) (by omega) (by omega) (fun c37 => ?_) (fun c37 => ?_)
        · refine lv_iload_n hx hb dX2_leastSize_86 rfl (lv_at hl 0 rfl) ?_
          exact hret _ _ _ _ _ hS (⟨lo, rfl, ⟨by rw [show lo = hi by rw [show 32 - t = 0 by omega] at i2; omega]; exact i4, i3⟩, by omega⟩) dX2_leastSize_87
        · refine lv_iload_n hx hb dX2_leastSize_40 rfl (lv_at hl 0 rfl) ?_
          refine lv_iload hx hb dX2_leastSize_41 (lv_at hl 1 rfl) ?_
          refine zi_ge (tgt := 86) hx hb dX2_leastSize_43 (by decide) (by omega) (by omega) (fun c43 => ?_) (fun c43 => ?_)
          · refine lv_iload_n hx hb dX2_leastSize_86 rfl (lv_at hl 0 rfl) ?_
            exact hret _ _ _ _ _ hS (⟨lo, rfl, ⟨by rw [show lo = hi by omega]; exact i4, i3⟩, by omega⟩) dX2_leastSize_87
          · refine lv_iload_n hx hb dX2_leastSize_46 rfl (lv_at hl 0 rfl) ?_
            refine lv_iload hx hb dX2_leastSize_47 (lv_at hl 1 rfl) ?_
            refine zi_add hx hb dX2_leastSize_49  ?_
            refine lv_iconst (v := nI 2) hx hb dX2_leastSize_50 (by decide) ?_
            refine zi_div hx hb dX2_leastSize_51 (by omega) (by omega) (by omega) ?_
            refine lv_istore (lv' := [(6, .int (nI ((lo + hi) / 2))), (3, .int (nI lo)), (4, .int (nI hi)), (5, .int (nI t)), (0, .ref h), (1, .int (nI k)), (2, .int (nI z))]) hx hb dX2_leastSize_52 hl (by decide) rfl (fun ls hl => ?_)
            have hmr := mean_room (x := (lo + hi) / 2) (z := z) (n := pn - k - 1) (by rw [hn1]; omega) (by omega)
            refine lv_aload_n hx hb dX2_leastSize_54 rfl (lv_at hl 4 rfl) ?_
            refine lv_iload_n hx hb dX2_leastSize_55 rfl (lv_at hl 5 rfl) ?_
            refine lv_iload hx hb dX2_leastSize_56 (lv_at hl 0 rfl) ?_
            refine lv_iload_n hx hb dX2_leastSize_58 rfl (lv_at hl 6 rfl) ?_
            refine lv_iload hx hb dX2_leastSize_59 (lv_at hl 0 rfl) ?_
            refine zi_sub hx hb dX2_leastSize_61 (by omega) ?_
            refine RO_i.callV (rest := []) (c_X2_isEnough l D cI cJ h hz hs bn pt pn Z S k ((lo + hi) / 2) (z - (lo + hi) / 2) (by omega) hpn hbn (by omega) (by omega) hSk hpt) ⟨hx, hb, hml, hown, hts⟩ (cwV 3 hts gX2_leastSize_X2_isEnough rfl rfl rfl (by decide +kernel) ⟨Nat.le_of_ble_eq_true rfl, Nat.le_of_ble_eq_true rfl⟩) hK hP hS hA [0, 1, 2] [0, 1] rfl rfl 0 3 rfl rfl rfl rfl hl.1 rfl (Nat.le_of_ble_eq_true rfl) dX2_leastSize_62 ⟨Nat.zero_le _, Nat.zero_le _⟩ (fun v2_ H locs e2_ hP hS => ?_)
            obtain rfl : v2_ = bI (z - (lo + hi) / 2 ≤ (pn - k - 1) * bn ∧ pt ≤ S k * ((lo + hi) / 2) * wide (z - (lo + hi) / 2) (pn - k - 1)) := e2_
            refine zb_eq (tgt := 75) hx hb dX2_leastSize_65 (by decide) (fun c65 => ?_) (fun c65 => ?_)
            · have hno : ¬ okS pt bn (S k) z (pn - k - 1) ((lo + hi) / 2) := fun o => c65 ⟨o.2.2.2.1, o.2.2.2.2⟩
              refine lv_iload hx hb dX2_leastSize_75 (lv_at hl 0 rfl) ?_
              refine lv_iconst (v := nI 1) hx hb dX2_leastSize_77 (by decide) ?_
              refine zi_add hx hb dX2_leastSize_78  ?_
              refine lv_istore_n (lv' := [(3, .int (nI (((lo + hi) / 2) + 1))), (6, .int (nI ((lo + hi) / 2))), (4, .int (nI hi)), (5, .int (nI t)), (0, .ref h), (1, .int (nI k)), (2, .int (nI z))]) hx hb dX2_leastSize_79 rfl hl (by decide) rfl (fun ls hl => ?_)
              refine lv_iinc (v := nI (t + 1)) (lv' := [(5, .int (nI (t + 1))), (3, .int (nI (((lo + hi) / 2) + 1))), (6, .int (nI ((lo + hi) / 2))), (4, .int (nI hi)), (0, .ref h), (1, .int (nI k)), (2, .int (nI z))]) hx hb dX2_leastSize_80 hl (k := 3) rfl (by rw [show Int32.ofInt 1 = nI 1 by decide, nI_add]) (by decide) rfl (fun ls hl => ?_)
              refine lv_goto (tgt := 33) hx hb dX2_leastSize_83 (by decide) ?_
              have h32 := half32 (t := t) (by omega)
              exact ih33 (((lo + hi) / 2) + 1) hi (t + 1) (by omega) (by omega) (fun y hy ho => hno (okS_ups (by omega) (by rw [hn1]; omega) (show y ≤ (lo + hi) / 2 by omega) ho)) (i4) (by omega) _ _ _ hP hS (lv_sub hl [1, 3, 0, 4, 5, 6] rfl)
            · have hyes : okS pt bn (S k) z (pn - k - 1) ((lo + hi) / 2) := ⟨by omega, hmr.1, hmr.2, c65.1, c65.2⟩
              refine lv_iload hx hb dX2_leastSize_68 (lv_at hl 0 rfl) ?_
              refine lv_istore (lv' := [(4, .int (nI ((lo + hi) / 2))), (6, .int (nI ((lo + hi) / 2))), (3, .int (nI lo)), (5, .int (nI t)), (0, .ref h), (1, .int (nI k)), (2, .int (nI z))]) hx hb dX2_leastSize_70 hl (by decide) rfl (fun ls hl => ?_)
              refine lv_goto (tgt := 80) hx hb dX2_leastSize_72 (by decide) ?_
              refine lv_iinc (v := nI (t + 1)) (lv' := [(5, .int (nI (t + 1))), (4, .int (nI ((lo + hi) / 2))), (6, .int (nI ((lo + hi) / 2))), (3, .int (nI lo)), (0, .ref h), (1, .int (nI k)), (2, .int (nI z))]) hx hb dX2_leastSize_80 hl (k := 3) rfl (by rw [show Int32.ofInt 1 = nI 1 by decide, nI_add]) (by decide) rfl (fun ls hl => ?_)
              refine lv_goto (tgt := 33) hx hb dX2_leastSize_83 (by decide) ?_
              have h32 := half32 (t := t) (by omega)
              exact ih33 lo ((lo + hi) / 2) (t + 1) (by omega) (by omega) (i3) (hyes) (by omega) _ _ _ hP hS (lv_sub hl [3, 1, 0, 4, 5, 6] rfl)
    exact L33 _ 2 (z / (pn - k)) 0 (by omega) (Nat.lt_of_le_of_lt (show z / (pn - k) - 2 ≤ 2147483648 by omega) (by decide)) (fun y hy ho => absurd ho.1 (by omega)) (hmn) (Nat.lt_succ_self _) _ _ _ hP hS (lv_sub hl [2, 1, 0, 3, 4, 5] rfl)
  · refine lv_iload hx hb dX2_leastSize_27 (lv_at hl 0 rfl) ?_
    exact hret _ _ _ _ _ hS (⟨z / (pn - k), rfl, by rw [show pn - k = 1 by omega, Nat.div_one]; exact isSize_last (by omega) (by rw [show pn - k = 1 by omega] at hfe; exact hfe), Nat.le_refl _⟩) dX2_leastSize_29
set_option maxHeartbeats 4000000 in
set_option maxRecDepth 100000 in
/-- leastSum -/
theorem c_X2_leastSum (l : Launch) (D : va_G) (cI cJ : ClassId) (h hz hs bn pt pn : Nat) (Z S : Nat → Nat) (hpn : pn ≤ 62) (hbn : 2 ≤ bn ∧ bn ≤ 65536) (hpt : pt ≤ 4611686018427387904) (he : isExp bn pt pn) : RO_i l yX2_leastSum wsX2_leastSum ({ frames := 4, cells := 0, slots := 0, locals := 102 } : Room) D [(h, .inr (3, [.int (nI bn), .ref hz, .ref hs, .long (lN pt), .int (nI pn)])), (hz, aI cI 62 Z), (hs, aJ cJ 63 S)] [(cI, .int), (cJ, .long)] [.ref h] (fun v => ∃ z, v = nI z ∧ isSum pt pn z ∧ z ≤ pn * bn) := by
  refine RO_i.of (cc := cX2_leastSum) (maxL := 4) (by decide) rfl (Nat.le_of_ble_eq_true rfl) ?_
  intro p e s m args below meth c ls A Q hx hb hml hts hown hA hP hK hl hret
  have hown : s.vm.findClass RX2 = some m.cls := hown
  have hl : lv_has ls 4 [(0, .ref h)] := hl
  have hS : va_S A s.heap s.heap [] := va_S.rf
  have hinX2 : ∀ w ∈ wsX20, w ∈ wsX2_leastSum := by decide +kernel
  refine lv_aload_n hx hb dX2_leastSum_0 rfl (lv_at hl 0 rfl) ?_
  refine va_get (D := D) (ci := 3) (v := .long (lN pt)) (C := RX2) (T := TX2) (N := 5) hx hb hts hinX2 hown hK hP 0 rfl rfl 3 (by decide) (hts (.fieldLink RX2 23 "PassSearch$Plan" "points" "J") (by decide +kernel)) (fun _ h9 => h9) rfl dX2_leastSum_1 ?_
  refine lv_aload_n hx hb dX2_leastSum_4 rfl (lv_at hl 0 rfl) ?_
  refine va_get (D := D) (ci := 3) (v := .int (nI pn)) (C := RX2) (T := TX2) (N := 5) hx hb hts hinX2 hown hK hP 0 rfl rfl 4 (by decide) (hts (.fieldLink RX2 27 "PassSearch$Plan" "passCount" "I") (by decide +kernel)) (fun _ h9 => h9) rfl dX2_leastSum_5 ?_
  refine lv_aload_n hx hb dX2_leastSum_8 rfl (lv_at hl 0 rfl) ?_
  refine va_get (D := D) (ci := 3) (v := .int (nI bn)) (C := RX2) (T := TX2) (N := 5) hx hb hts hinX2 hown hK hP 0 rfl rfl 0 (by decide) (hts (.fieldLink RX2 19 "PassSearch$Plan" "bins" "I") (by decide +kernel)) (fun _ h9 => h9) rfl dX2_leastSum_9 ?_
  refine z_i2l hx hb dX2_leastSum_12 (by omega) ?_
  refine RO_l.callS (rest := []) (c_X3_leastBase l D pt pn bn hpt (by omega) (by omega) (by omega)) ⟨hx, hb, hml, hown, hts⟩ (va_cwS 3 hts gX2_leastSum_X3_leastBase rfl rfl rfl (by decide +kernel) ⟨Nat.le_of_ble_eq_true rfl, Nat.le_of_ble_eq_true rfl⟩) hK hP hS hA [] [] rfl rfl rfl hl.1 rfl (Nat.le_of_ble_eq_true rfl) dX2_leastSum_13 ⟨Nat.zero_le _, Nat.zero_le _⟩ (fun v1_ H locs e1_ hP hS => ?_)
  obtain ⟨xb, rfl, hxb⟩ := e1_
  have hxb2 : xb ≤ bn := isBase_le hxb hbn.1 he.1
  have hxm : xb * pn ≤ pn * bn := by rw [Nat.mul_comm]; exact Nat.mul_le_mul_left pn hxb2
  have hxl : pn * bn ≤ 62 * 65536 := Nat.mul_le_mul hpn hbn.2
  have hxp : 2 * pn ≤ xb * pn := Nat.mul_le_mul_right pn hxb.1
  refine z_l2i hx hb dX2_leastSum_16 ?_
  refine lv_istore_n (lv' := [(1, .int (nI xb)), (0, .ref h)]) hx hb dX2_leastSum_17 rfl hl (by decide) rfl (fun ls hl => ?_)
  refine lv_iload_n hx hb dX2_leastSum_18 rfl (lv_at hl 0 rfl) ?_
  refine lv_aload_n hx hb dX2_leastSum_19 rfl (lv_at hl 1 rfl) ?_
  refine va_get (D := D) (ci := 3) (v := .int (nI pn)) (C := RX2) (T := TX2) (N := 5) hx hb hts hinX2 hown hK hP 0 rfl rfl 4 (by decide) (hts (.fieldLink RX2 27 "PassSearch$Plan" "passCount" "I") (by decide +kernel)) (fun _ h9 => h9) rfl dX2_leastSum_20 ?_
  refine zi_mul hx hb dX2_leastSum_23  ?_
  refine lv_istore_n (lv' := [(2, .int (nI (xb * pn))), (1, .int (nI xb)), (0, .ref h)]) hx hb dX2_leastSum_24 rfl hl (by decide) rfl (fun ls hl => ?_)
  refine lv_iconst (v := nI 2) hx hb dX2_leastSum_25 (by decide) ?_
  refine lv_aload_n hx hb dX2_leastSum_26 rfl (lv_at hl 2 rfl) ?_
  refine va_get (D := D) (ci := 3) (v := .int (nI pn)) (C := RX2) (T := TX2) (N := 5) hx hb hts hinX2 hown hK hP 0 rfl rfl 4 (by decide) (hts (.fieldLink RX2 27 "PassSearch$Plan" "passCount" "I") (by decide +kernel)) (fun _ h9 => h9) rfl dX2_leastSum_27 ?_
  refine zi_mul hx hb dX2_leastSum_30  ?_
  refine lv_iload_n hx hb dX2_leastSum_31 rfl (lv_at hl 0 rfl) ?_
  refine lv_aload_n hx hb dX2_leastSum_32 rfl (lv_at hl 2 rfl) ?_
  refine va_get (D := D) (ci := 3) (v := .int (nI pn)) (C := RX2) (T := TX2) (N := 5) hx hb hts hinX2 hown hK hP 0 rfl rfl 4 (by decide) (hts (.fieldLink RX2 27 "PassSearch$Plan" "passCount" "I") (by decide +kernel)) (fun _ h9 => h9) rfl dX2_leastSum_33 ?_
  refine zi_sub hx hb dX2_leastSum_36 (by omega) ?_
  refine va_mmax hx hb (hml.trans hl.1.symm) hown (hts (.methodLink RX2 59 Lib.Math.max.name) (by decide +kernel)) (hts (.static Lib.Math.max.name) (by decide +kernel)) (hts (.initialized "java/lang/Math") (by decide +kernel)) (hts _ (List.mem_of_getElem? (i := 7) rfl)) (Nat.le_of_ble_eq_true rfl) (Nat.le_of_ble_eq_true rfl) (Nat.zero_le _) (Nat.zero_le _) dX2_leastSum_37 ?_
  refine lv_topi (fun vm_ em_ => ?_)
  obtain rfl : vm_ = nI (max (2 * pn) ((xb * pn) - pn)) := em_.trans (z_max _ _ (by omega) (by omega))
  refine lv_istore_n (lv' := [(3, .int (nI (max (2 * pn) ((xb * pn) - pn)))), (2, .int (nI (xb * pn))), (1, .int (nI xb)), (0, .ref h)]) hx hb dX2_leastSum_40 rfl hl (by decide) rfl (fun ls hl => ?_)
  have L41 : ∀ (nf : Nat) (z : Nat), (2 * pn ≤ z ∧ z ≤ xb * pn) → (∀ y, 2 * pn ≤ y → y < z → wide y pn < pt) → xb * pn - z < nf → ∀ (H : Heap) (locs : List Loc) (ls : Array Slot), va_P D vwCl [(h, .inr (3, [.int (nI bn), .ref hz, .ref hs, .long (lN pt), .int (nI pn)])), (hz, aI cI 62 Z), (hs, aJ cJ 63 S)] H → va_S A s.heap H locs → lv_has ls 4 [(3, .int (nI z)), (2, .int (nI (xb * pn))), (1, .int (nI xb)), (0, .ref h)] → W p l e ({ frames := 4, cells := 0, slots := 0, locals := 102 } : Room) s m args below meth c H locs 0 0 Q (F0 m 41 ls []) := by
    intro nf
    induction nf with
    | zero => intro z i1 i2 hm; exact absurd hm (Nat.not_lt_zero _)
    | succ nf ih41 =>
      intro z i1 i2 hm41 H locs ls hP hS hl
      refine lv_iload_n hx hb dX2_leastSum_41 rfl (lv_at hl 0 rfl) ?_
      refine lv_iload_n hx hb dX2_leastSum_42 rfl (lv_at hl 1 rfl) ?_
      refine zi_ge (tgt := 68) hx hb dX2_leastSum_43 (by decide) (by omega) (by omega) (fun c43 => ?_) (fun c43 => ?_)
      · refine lv_iload_n hx hb dX2_leastSum_68 rfl (lv_at hl 0 rfl) ?_
        exact hret _ _ _ _ _ hS (⟨z, rfl, ⟨i1.1, by rw [show z = xb * pn by omega]; exact wide_base (hxb.2.2.2 hxb2), i2⟩, by omega⟩) dX2_leastSum_69
      · have hp1 : 1 ≤ pn := by
          rcases Nat.eq_zero_or_pos pn with g | g
          · rw [g, Nat.mul_zero] at c43; omega
          · exact g
        refine lv_iload_n hx hb dX2_leastSum_46 rfl (lv_at hl 0 rfl) ?_
        refine lv_aload_n hx hb dX2_leastSum_47 rfl (lv_at hl 3 rfl) ?_
        refine va_get (D := D) (ci := 3) (v := .int (nI pn)) (C := RX2) (T := TX2) (N := 5) hx hb hts hinX2 hown hK hP 0 rfl rfl 4 (by decide) (hts (.fieldLink RX2 27 "PassSearch$Plan" "passCount" "I") (by decide +kernel)) (fun _ h9 => h9) rfl dX2_leastSum_48 ?_
        refine RO_l.callS (rest := []) (c_X3_widestProduct l D z pn hp1 (by omega) (by omega)) ⟨hx, hb, hml, hown, hts⟩ (va_cwS 2 hts gX2_leastSum_X3_widestProduct rfl rfl rfl (by decide +kernel) ⟨Nat.le_of_ble_eq_true rfl, Nat.le_of_ble_eq_true rfl⟩) hK hP hS hA [] [] rfl rfl rfl hl.1 rfl (Nat.le_of_ble_eq_true rfl) dX2_leastSum_51 ⟨Nat.zero_le _, Nat.zero_le _⟩ (fun v2_ H locs e2_ hP hS => ?_)
        obtain rfl : v2_ = lN (sat (wide z pn)) := e2_
        refine lv_aload_n hx hb dX2_leastSum_54 rfl (lv_at hl 3 rfl) ?_
        refine va_get (D := D) (ci := 3) (v := .long (lN pt)) (C := RX2) (T := TX2) (N := 5) hx hb hts hinX2 hown hK hP 0 rfl rfl 3 (by decide) (hts (.fieldLink RX2 23 "PassSearch$Plan" "points" "J") (by decide +kernel)) (fun _ h9 => h9) rfl dX2_leastSum_55 ?_
        refine zl_ge (tgt := 68) hx hb dX2_leastSum_58 dX2_leastSum_59 (by decide) (sat_lt _) (by omega) (fun c58 => ?_) (fun c58 => ?_)
        · refine lv_iload_n hx hb dX2_leastSum_68 rfl (lv_at hl 0 rfl) ?_
          exact hret _ _ _ _ _ hS (⟨z, rfl, ⟨i1.1, (le_sat hpt).mp c58, i2⟩, by omega⟩) dX2_leastSum_69
        · refine lv_iinc (v := nI (z + 1)) (lv' := [(3, .int (nI (z + 1))), (2, .int (nI (xb * pn))), (1, .int (nI xb)), (0, .ref h)]) hx hb dX2_leastSum_62 hl (k := 0) rfl (by rw [show Int32.ofInt 1 = nI 1 by decide, nI_add]) (by decide) rfl (fun ls hl => ?_)
          refine lv_goto (tgt := 41) hx hb dX2_leastSum_65 (by decide) ?_
          exact ih41 (z + 1) (by omega) (fun y h1 h2 => if h3 : y < z then i2 y h1 h3 else by rw [show y = z by omega]; exact (sat_lt_iff hpt).mp c58) (by omega) _ _ _ hP hS (lv_sub hl [0, 1, 2, 3] rfl)
  exact L41 _ (max (2 * pn) ((xb * pn) - pn)) (by omega) (sum_start hxb) (Nat.lt_succ_self _) _ _ _ hP hS (lv_sub hl [0, 1, 2, 3] rfl)
set_option maxHeartbeats 4000000 in
set_option maxRecDepth 100000 in
/-- lay: the plan for q points -/
theorem c_X2_lay (l : Launch) (D : va_G) (cI cJ : ClassId) (h hz hs bn pt pn : Nat) (Z S : Nat → Nat) (q : Nat) (hbn : 2 ≤ bn ∧ bn ≤ 65536) (hq : q ≤ 4611686018427387904) : WR_v l yX2_lay wsX2_lay ({ frames := 6, cells := 0, slots := 0, locals := 146 } : Room) D [(h, .inr (3, [.int (nI bn), .ref hz, .ref hs, .long (lN pt), .int (nI pn)])), (hz, aI cI 62 Z), (hs, aJ cJ 63 S)] [(cI, .int), (cJ, .long)] [.ref h, .long (lN q)] (fun (u : Nat × (Nat → Nat) × (Nat → Nat)) => [(h, .inr (3, [.int (nI bn), .ref hz, .ref hs, .long (lN q), .int (nI u.1)])), (hz, aI cI 62 u.2.1), (hs, aJ cJ 63 u.2.2)]) (fun u => isPlan bn q u.1 u.2.1 u.2.2) 0 0 := by
  refine WR_v.of (cc := cX2_lay) (maxL := 5) (by decide) rfl (Nat.le_of_ble_eq_true rfl) ?_
  intro p e s m args below meth c ls A Q hx hb hml hts hown hA hP hD hK hl hin hret
  have hown : s.vm.findClass RX2 = some m.cls := hown
  have hl : lv_has ls 5 [(0, .ref h), (1, .long (lN q))] := hl
  have hS : va_S A s.heap s.heap [] := va_S.rf
  have hinX2 : ∀ w ∈ wsX20, w ∈ wsX2_lay := by decide +kernel
  refine lv_aload_n hx hb dX2_lay_0 rfl (lv_at hl 0 rfl) ?_
  refine lv_lload_n hx hb dX2_lay_1 rfl (lv_at hl 1 rfl) ?_
  refine va_put (D := D) (ci := 3) (v := .long (lN q)) (ty := .long) (C := RX2) (T := TX2) (N := 5) hx hb hts hinX2 tyX2 tyX2_ok nmX2 hown hK hP hD hS 0 rfl rfl 3 (by decide) (hts (.fieldLink RX2 23 "PassSearch$Plan" "points" "J") (by decide +kernel)) (fun _ h9 => h9) rfl (by decide +kernel) rfl rfl (Nat.le_of_ble_eq_true rfl) dX2_lay_2 (fun H locs hP hD hS => ?_)
  have hP : va_P D vwCl [(h, .inr (3, [.int (nI bn), .ref hz, .ref hs, .long (lN q), .int (nI pn)])), (hz, aI cI 62 Z), (hs, aJ cJ 63 S)] H := hP
  have hD : va_D A [(h, .inr (3, [.int (nI bn), .ref hz, .ref hs, .long (lN q), .int (nI pn)])), (hz, aI cI 62 Z), (hs, aJ cJ 63 S)] := hD
  refine lv_aload_n hx hb dX2_lay_5 rfl (lv_at hl 0 rfl) ?_
  refine lv_aload_n hx hb dX2_lay_6 rfl (lv_at hl 0 rfl) ?_
  refine va_get (D := D) (ci := 3) (v := .int (nI bn)) (C := RX2) (T := TX2) (N := 5) hx hb hts hinX2 hown hK hP 0 rfl rfl 0 (by decide) (hts (.fieldLink RX2 19 "PassSearch$Plan" "bins" "I") (by decide +kernel)) (fun _ h9 => h9) rfl dX2_lay_7 ?_
  refine z_i2l hx hb dX2_lay_10 (by omega) ?_
  refine lv_lload_n hx hb dX2_lay_11 rfl (lv_at hl 1 rfl) ?_
  refine RO_i.callS (rest := [.ref h]) (c_X3_leastExponent l D bn q hbn.1 (by omega) hq) ⟨hx, hb, hml, hown, hts⟩ (va_cwS 2 hts gX2_lay_X3_leastExponent rfl rfl rfl (by decide +kernel) ⟨Nat.le_of_ble_eq_true rfl, Nat.le_of_ble_eq_true rfl⟩) hK hP hS hA [] [] rfl rfl rfl hl.1 rfl (Nat.le_of_ble_eq_true rfl) dX2_lay_12 ⟨Nat.zero_le _, Nat.zero_le _⟩ (fun v1_ H locs e1_ hP hS => ?_)
  obtain ⟨n, rfl, hn1, hn2⟩ := e1_
  refine va_put (D := D) (ci := 3) (v := .int (nI n)) (ty := .int) (C := RX2) (T := TX2) (N := 5) hx hb hts hinX2 tyX2 tyX2_ok nmX2 hown hK hP hD hS 0 rfl rfl 4 (by decide) (hts (.fieldLink RX2 27 "PassSearch$Plan" "passCount" "I") (by decide +kernel)) (fun _ h9 => h9) rfl (by decide +kernel) rfl rfl (Nat.le_of_ble_eq_true rfl) dX2_lay_15 (fun H locs hP hD hS => ?_)
  have hP : va_P D vwCl [(h, .inr (3, [.int (nI bn), .ref hz, .ref hs, .long (lN q), .int (nI n)])), (hz, aI cI 62 Z), (hs, aJ cJ 63 S)] H := hP
  have hD : va_D A [(h, .inr (3, [.int (nI bn), .ref hz, .ref hs, .long (lN q), .int (nI n)])), (hz, aI cI 62 Z), (hs, aJ cJ 63 S)] := hD
  refine lv_aload_n hx hb dX2_lay_18 rfl (lv_at hl 0 rfl) ?_
  refine va_get (D := D) (ci := 3) (v := .ref hs) (C := RX2) (T := TX2) (N := 5) hx hb hts hinX2 hown hK hP 0 rfl rfl 2 (by decide) (hts (.fieldLink RX2 15 "PassSearch$Plan" "spans" "[J") (by decide +kernel)) (fun _ h9 => h9) rfl dX2_lay_19 ?_
  refine lv_iconst (v := nI 0) hx hb dX2_lay_22 (by decide) ?_
  refine lv_lconst (v := lN 1) hx hb dX2_lay_23 (by decide) ?_
  refine zl_ast hx hb hK hP hD hS 2 1 rfl rfl (k := 0) (x := 1) (by omega) (by omega) dX2_lay_24 (fun H locs hP hD hS => ?_)
  have hP : va_P D vwCl [(h, .inr (3, [.int (nI bn), .ref hz, .ref hs, .long (lN q), .int (nI n)])), (hz, aI cI 62 Z), (hs, aJ cJ 63 (uF S 0 1))] H := hP
  have hD : va_D A [(h, .inr (3, [.int (nI bn), .ref hz, .ref hs, .long (lN q), .int (nI n)])), (hz, aI cI 62 Z), (hs, aJ cJ 63 (uF S 0 1))] := hD
  refine lv_aload_n hx hb dX2_lay_25 rfl (lv_at hl 0 rfl) ?_
  refine RO_i.callV (rest := []) (c_X2_leastSum l D cI cJ h hz hs bn q n Z (uF S 0 1) hn1 hbn hq hn2) ⟨hx, hb, hml, hown, hts⟩ (cwV 0 hts gX2_lay_X2_leastSum rfl rfl rfl (by decide +kernel) ⟨Nat.le_of_ble_eq_true rfl, Nat.le_of_ble_eq_true rfl⟩) hK hP hS hA [0, 1, 2] [0, 1] rfl rfl 0 3 rfl rfl rfl rfl hl.1 rfl (Nat.le_of_ble_eq_true rfl) dX2_lay_26 ⟨Nat.zero_le _, Nat.zero_le _⟩ (fun v2_ H locs e2_ hP hS => ?_)
  obtain ⟨z0, rfl, hz1, hz2⟩ := e2_
  refine lv_istore_n (lv' := [(3, .int (nI z0)), (0, .ref h), (1, .long (lN q))]) hx hb dX2_lay_29 rfl hl (by decide) rfl (fun ls hl => ?_)
  refine lv_iconst (v := nI 0) hx hb dX2_lay_30 (by decide) ?_
  refine lv_istore (lv' := [(4, .int (nI 0)), (3, .int (nI z0)), (0, .ref h), (1, .long (lN q))]) hx hb dX2_lay_31 hl (by decide) rfl (fun ls hl => ?_)
  have L33 : ∀ (nf : Nat) (k : Nat) (z : Nat) (Z : Nat → Nat) (S : Nat → Nat), (k ≤ n) → (preP bn q n Z S k z) → n - k < nf → ∀ (H : Heap) (locs : List Loc) (ls : Array Slot), va_P D vwCl [(h, .inr (3, [.int (nI bn), .ref hz, .ref hs, .long (lN q), .int (nI n)])), (hz, aI cI 62 Z), (hs, aJ cJ 63 S)] H → va_D A [(h, .inr (3, [.int (nI bn), .ref hz, .ref hs, .long (lN q), .int (nI n)])), (hz, aI cI 62 Z), (hs, aJ cJ 63 S)] → va_S A s.heap H locs → lv_has ls 5 [(4, .int (nI k)), (3, .int (nI z)), (0, .ref h), (1, .long (lN q))] → W p l e ({ frames := 6, cells := 0, slots := 0, locals := 146 } : Room) s m args below meth c H locs 0 0 Q (F0 m 33 ls []) := by
    intro nf
    induction nf with
    | zero => intro k z Z S i1 i2 hm; exact absurd hm (Nat.not_lt_zero _)
    | succ nf ih33 =>
      intro k z Z S i1 i2 hm33 H locs ls hP hD hS hl
      refine lv_iload hx hb dX2_lay_33 (lv_at hl 0 rfl) ?_
      refine lv_aload_n hx hb dX2_lay_35 rfl (lv_at hl 2 rfl) ?_
      refine va_get (D := D) (ci := 3) (v := .int (nI n)) (C := RX2) (T := TX2) (N := 5) hx hb hts hinX2 hown hK hP 0 rfl rfl 4 (by decide) (hts (.fieldLink RX2 27 "PassSearch$Plan" "passCount" "I") (by decide +kernel)) (fun _ h9 => h9) rfl dX2_lay_36 ?_
      refine zi_ge (tgt := 97) hx hb dX2_lay_39 (by decide) (by omega) (by omega) (fun c39 => ?_) (fun c39 => ?_)
      · exact hret ((n, Z, S)) _ _ _ _ hP hD hS (⟨hn1, hn2, z, by rw [show k = n by omega] at i2; exact i2⟩) dX2_lay_97
      · have hfa := i2.2.2
        have hxl : (n - k) * bn ≤ 62 * 65536 := Nat.mul_le_mul (by omega) hbn.2
        refine lv_aload_n hx hb dX2_lay_42 rfl (lv_at hl 2 rfl) ?_
        refine va_get (D := D) (ci := 3) (v := .ref hz) (C := RX2) (T := TX2) (N := 5) hx hb hts hinX2 hown hK hP 0 rfl rfl 1 (by decide) (hts (.fieldLink RX2 9 "PassSearch$Plan" "sizes" "[I") (by decide +kernel)) (fun _ h9 => h9) rfl dX2_lay_43 ?_
        refine lv_iload hx hb dX2_lay_46 (lv_at hl 0 rfl) ?_
        refine lv_aload_n hx hb dX2_lay_48 rfl (lv_at hl 2 rfl) ?_
        refine lv_iload hx hb dX2_lay_49 (lv_at hl 0 rfl) ?_
        refine lv_iload_n hx hb dX2_lay_51 rfl (lv_at hl 1 rfl) ?_
        refine RO_i.callV (rest := [.int (nI k), .ref hz]) (c_X2_leastSize l D cI cJ h hz hs bn q n Z S k z (by omega) hn1 hbn.2 ⟨hfa.2.1, hfa.2.2.1⟩ ⟨(hfa.1 k (Nat.le_refl _)).1, preP_small i2 (by omega)⟩ hq hfa.2.2.2.1) ⟨hx, hb, hml, hown, hts⟩ (cwV 2 hts gX2_lay_X2_leastSize rfl rfl rfl (by decide +kernel) ⟨Nat.le_of_ble_eq_true rfl, Nat.le_of_ble_eq_true rfl⟩) hK hP hS hA [0, 1, 2] [0, 1] rfl rfl 0 3 rfl rfl rfl rfl hl.1 rfl (Nat.le_of_ble_eq_true rfl) dX2_lay_52 ⟨Nat.zero_le _, Nat.zero_le _⟩ (fun v3_ H locs e3_ hP hS => ?_)
        obtain ⟨x, rfl, hx1, hx2⟩ := e3_
        have hxz := hx1.1
        have hxa := hxz.2.1
        refine zi_ast hx hb hK hP hD hS 1 0 rfl rfl (k := k) (x := x) (by omega) (by omega) dX2_lay_55 (fun H locs hP hD hS => ?_)
        have hP : va_P D vwCl [(h, .inr (3, [.int (nI bn), .ref hz, .ref hs, .long (lN q), .int (nI n)])), (hz, aI cI 62 (uF Z k x)), (hs, aJ cJ 63 S)] H := hP
        have hD : va_D A [(h, .inr (3, [.int (nI bn), .ref hz, .ref hs, .long (lN q), .int (nI n)])), (hz, aI cI 62 (uF Z k x)), (hs, aJ cJ 63 S)] := hD
        refine lv_aload_n hx hb dX2_lay_56 rfl (lv_at hl 2 rfl) ?_
        refine va_get (D := D) (ci := 3) (v := .ref hs) (C := RX2) (T := TX2) (N := 5) hx hb hts hinX2 hown hK hP 0 rfl rfl 2 (by decide) (hts (.fieldLink RX2 15 "PassSearch$Plan" "spans" "[J") (by decide +kernel)) (fun _ h9 => h9) rfl dX2_lay_57 ?_
        refine lv_iload hx hb dX2_lay_60 (lv_at hl 0 rfl) ?_
        refine lv_iconst (v := nI 1) hx hb dX2_lay_62 (by decide) ?_
        refine zi_add hx hb dX2_lay_63  ?_
        refine lv_aload_n hx hb dX2_lay_64 rfl (lv_at hl 2 rfl) ?_
        refine va_get (D := D) (ci := 3) (v := .ref hs) (C := RX2) (T := TX2) (N := 5) hx hb hts hinX2 hown hK hP 0 rfl rfl 2 (by decide) (hts (.fieldLink RX2 15 "PassSearch$Plan" "spans" "[J") (by decide +kernel)) (fun _ h9 => h9) rfl dX2_lay_65 ?_
        refine lv_iload hx hb dX2_lay_68 (lv_at hl 0 rfl) ?_
        refine zl_ald hx hb hK hP 2 1 rfl rfl (k := k) (by omega) (by omega) dX2_lay_70 ?_
        refine lv_aload_n hx hb dX2_lay_71 rfl (lv_at hl 2 rfl) ?_
        refine va_get (D := D) (ci := 3) (v := .ref hz) (C := RX2) (T := TX2) (N := 5) hx hb hts hinX2 hown hK hP 0 rfl rfl 1 (by decide) (hts (.fieldLink RX2 9 "PassSearch$Plan" "sizes" "[I") (by decide +kernel)) (fun _ h9 => h9) rfl dX2_lay_72 ?_
        refine lv_iload hx hb dX2_lay_75 (lv_at hl 0 rfl) ?_
        refine zi_ald hx hb hK hP 1 0 rfl rfl (k := k) (by omega) (by omega) dX2_lay_77 ?_
        refine lv_topi (fun v4_ e4_ => ?_)
        obtain rfl : v4_ = nI x := e4_.trans (congrArg nI (uF_s))
        refine z_i2l hx hb dX2_lay_78 (by omega) ?_
        refine zl_mul hx hb dX2_lay_79  ?_
        refine zl_ast hx hb hK hP hD hS 2 1 rfl rfl (k := k + 1) (x := (S k) * x) (by omega) (by omega) dX2_lay_80 (fun H locs hP hD hS => ?_)
        have hP : va_P D vwCl [(h, .inr (3, [.int (nI bn), .ref hz, .ref hs, .long (lN q), .int (nI n)])), (hz, aI cI 62 (uF Z k x)), (hs, aJ cJ 63 (uF S (k + 1) ((S k) * x)))] H := hP
        have hD : va_D A [(h, .inr (3, [.int (nI bn), .ref hz, .ref hs, .long (lN q), .int (nI n)])), (hz, aI cI 62 (uF Z k x)), (hs, aJ cJ 63 (uF S (k + 1) ((S k) * x)))] := hD
        refine lv_iload_n hx hb dX2_lay_81 rfl (lv_at hl 1 rfl) ?_
        refine lv_aload_n hx hb dX2_lay_82 rfl (lv_at hl 2 rfl) ?_
        refine va_get (D := D) (ci := 3) (v := .ref hz) (C := RX2) (T := TX2) (N := 5) hx hb hts hinX2 hown hK hP 0 rfl rfl 1 (by decide) (hts (.fieldLink RX2 9 "PassSearch$Plan" "sizes" "[I") (by decide +kernel)) (fun _ h9 => h9) rfl dX2_lay_83 ?_
        refine lv_iload hx hb dX2_lay_86 (lv_at hl 0 rfl) ?_
        refine zi_ald hx hb hK hP 1 0 rfl rfl (k := k) (by omega) (by omega) dX2_lay_88 ?_
        refine lv_topi (fun v5_ e5_ => ?_)
        obtain rfl : v5_ = nI x := e5_.trans (congrArg nI (uF_s))
        refine zi_sub hx hb dX2_lay_89 (by omega) ?_
        refine lv_istore_n (lv' := [(3, .int (nI (z - x))), (4, .int (nI k)), (0, .ref h), (1, .long (lN q))]) hx hb dX2_lay_90 rfl hl (by decide) rfl (fun ls hl => ?_)
        refine lv_iinc (v := nI (k + 1)) (lv' := [(4, .int (nI (k + 1))), (3, .int (nI (z - x))), (0, .ref h), (1, .long (lN q))]) hx hb dX2_lay_91 hl (k := 1) rfl (by rw [show Int32.ofInt 1 = nI 1 by decide, nI_add]) (by decide) rfl (fun ls hl => ?_)
        refine lv_goto (tgt := 33) hx hb dX2_lay_94 (by decide) ?_
        exact ih33 (k + 1) (z - x) (uF Z k x) (uF S (k + 1) ((S k) * x)) (by omega) (preP_step (by omega) i2 hx1 hx2) (by omega) _ _ _ hP hD hS (lv_sub hl [0, 1, 2, 3] rfl)
  exact L33 _ 0 z0 Z (uF S 0 1) (by omega) (preP_0 hbn.1 hq hn2 hz1 hz2 uF_s) (Nat.lt_succ_self _) _ _ _ hP hD hS (lv_sub hl [0, 1, 2, 3] rfl)
end
section
/-! sums, counts, the table of bins -/
def sumN (g : Nat → Nat) : Nat → Nat
  | 0 => 0
  | n + 1 => sumN g n + g n
theorem sumN_succ (g : Nat → Nat) (n : Nat) : sumN g (n + 1) = sumN g n + g n := rfl
theorem sumN_congr {g h : Nat → Nat} {n : Nat} (e : ∀ i, i < n → g i = h i) : sumN g n = sumN h n := by
  induction n with
  | zero => rfl
  | succ n ih => simp only [sumN]; rw [ih (fun i hi => e i (by omega)), e n (by omega)]
theorem sumN_add (g h : Nat → Nat) (n : Nat) : sumN (fun i => g i + h i) n = sumN g n + sumN h n := by
  induction n with
  | zero => rfl
  | succ n ih => simp only [sumN]; rw [ih]; omega
theorem sumN_zero {g : Nat → Nat} {n : Nat} (e : ∀ i, i < n → g i = 0) : sumN g n = 0 := by
  induction n with
  | zero => rfl
  | succ n ih => simp only [sumN]; rw [ih (fun i hi => e i (by omega)), e n (by omega)]
theorem sumN_one {g : Nat → Nat} {n k : Nat} (hk : k < n) (e : ∀ i, i < n → i ≠ k → g i = 0) : sumN g n = g k := by
  induction n with
  | zero => omega
  | succ n ih =>
    simp only [sumN]
    rcases Nat.lt_or_ge k n with h | h
    · rw [ih h (fun i hi => e i (by omega)), e n (by omega) (by omega), Nat.add_zero]
    · have hkn : k = n := by omega
      subst hkn
      rw [sumN_zero (fun i hi => e i (by omega) (by omega)), Nat.zero_add]
/-- one summand more, at k, where none was -/
theorem sumN_put {g h : Nat → Nat} {n k : Nat} (hk : k < n) (hg : g k = 0) (e : ∀ i, i < n → i ≠ k → h i = g i) : sumN h n = sumN g n + h k := by
  have h1 : sumN h n = sumN (fun i => g i + (if i = k then h k else 0)) n := sumN_congr (fun i hi => by
    by_cases hik : i = k
    · subst hik; simp [hg]
    · simp [hik, e i hi hik])
  rw [h1, sumN_add, sumN_one (g := fun i => if i = k then h k else 0) hk (fun i _ hik => by simp [hik])]
  simp
theorem sumN_le {g h : Nat → Nat} {n : Nat} (e : ∀ i, i < n → g i ≤ h i) : sumN g n ≤ sumN h n := by
  induction n with
  | zero => exact Nat.le_refl _
  | succ n ih => simp only [sumN]; exact Nat.add_le_add (ih (fun i hi => e i (by omega))) (e n (by omega))
/-- how many marks are set -/
def cntM (M : Nat → Nat) (n : Nat) : Nat := sumN (fun t => if M t = 0 then 0 else 1) n
theorem cntM_full {M : Nat → Nat} {n : Nat} (h : ∀ t, t < n → M t ≠ 0) : cntM M n = n := by
  unfold cntM
  induction n with
  | zero => rfl
  | succ n ih => simp only [sumN]; rw [ih (fun t ht => h t (by omega)), if_neg (h n (by omega))]
theorem cntM_free {M : Nat → Nat} (h : cntM M 1024 ≤ 512) : ∃ f, f < 1024 ∧ M f = 0 := by
  refine Classical.byContradiction fun q => ?_
  have := cntM_full (M := M) (n := 1024) (fun t ht he => q ⟨t, ht, he⟩)
  omega
theorem cntM_put {M : Nat → Nat} {t x : Nat} (ht : t < 1024) (h0 : M t = 0) (hx : x ≠ 0) : cntM (uF M t x) 1024 = cntM M 1024 + 1 := by
  unfold cntM
  rw [sumN_put (g := fun t => if M t = 0 then 0 else 1) (k := t) ht (by simp [h0]) (fun i _ hi => by simp [uF, hi])]
  simp [uF, hx]
/-- where the search for a bin begins -/
def hsh (b : Nat) : Nat := (nI b * (-1640531535)).toBitVec.toNat / 2 ^ 22
theorem hsh_lt (b : Nat) : hsh b < 1024 := by
  unfold hsh
  have := (nI b * (-1640531535)).toBitVec.isLt
  omega
theorem nI_self (x : Int32) : x = nI x.toBitVec.toNat := by
  refine Int32.toBitVec_inj.mp (BitVec.eq_of_toNat_eq ?_)
  rw [pk_tn x.toBitVec.isLt]
theorem hsh_v (b : Nat) : ((nI b * (-1640531535)).toUInt32 >>> ((nI 22).toUInt32 &&& Int32.toUInt32 31)).toInt32 = nI (hsh b) := by
  unfold hsh
  rw [nI_self (nI b * (-1640531535)), pk_ushrN (nI b * (-1640531535)).toBitVec.isLt (nI 22) 22 (by decide), pk_tn (nI b * (-1640531535)).toBitVec.isLt]
/-- the slot at which the search for bin b ends -/
def isSlot (M : Nat → Nat) (b t : Nat) : Prop := ∃ i, i < 1024 ∧ t = (hsh b + i) % 1024 ∧ (M t = 0 ∨ M t = b + 1) ∧ ∀ j, j < i → M ((hsh b + j) % 1024) ≠ 0 ∧ M ((hsh b + j) % 1024) ≠ b + 1
theorem isSlot_lt {M : Nat → Nat} {b t : Nat} (h : isSlot M b t) : t < 1024 := by
  obtain ⟨i, -, rfl, -⟩ := h
  omega
theorem isSlot_one {M : Nat → Nat} {b t t2 : Nat} (h1 : isSlot M b t) (h2 : isSlot M b t2) : t = t2 := by
  obtain ⟨i, hi, rfl, s1, n1⟩ := h1
  obtain ⟨j, hj, rfl, s2, n2⟩ := h2
  rcases Nat.lt_trichotomy i j with h | h | h
  · have := n2 i h; rcases s1 with s | s <;> omega
  · rw [h]
  · have := n1 j h; rcases s2 with s | s <;> omega
/-- a search that does not end at t doesn't see that t's mark has changed -/
theorem isSlot_keep {M M2 : Nat → Nat} {b s t : Nat} (h : isSlot M b s) (h0 : M t = 0) (hst : s ≠ t) (hk : ∀ r, r ≠ t → M2 r = M r) : isSlot M2 b s := by
  obtain ⟨i, hi, e, s1, n1⟩ := h
  refine ⟨i, hi, e, by rw [hk s hst]; exact s1, fun j hj => ?_⟩
  have hne : (hsh b + j) % 1024 ≠ t := fun q => (n1 j hj).1 (by rw [q]; exact h0)
  rw [hk _ hne]
  exact n1 j hj
theorem isSlot_put {M M2 : Nat → Nat} {b t : Nat} (h : isSlot M b t) (h0 : M t = 0) (ht : M2 t = b + 1) (hk : ∀ r, r ≠ t → M2 r = M r) : isSlot M2 b t := by
  obtain ⟨i, hi, e, s1, n1⟩ := h
  refine ⟨i, hi, e, Or.inr ht, fun j hj => ?_⟩
  have hne : (hsh b + j) % 1024 ≠ t := fun q => (n1 j hj).1 (by rw [q]; exact h0)
  rw [hk _ hne]
  exact n1 j hj
theorem isSlot_end {M : Nat → Nat} {b k : Nat} (hf : ∃ f, f < 1024 ∧ M f = 0) (hk : 1024 ≤ k) (n1 : ∀ j, j < k → M ((hsh b + j) % 1024) ≠ 0 ∧ M ((hsh b + j) % 1024) ≠ b + 1) : False := by
  obtain ⟨f, hf, h0⟩ := hf
  have hl := hsh_lt b
  refine (n1 ((f + 1024 - hsh b) % 1024) (by omega)).1 ?_
  rw [show (hsh b + (f + 1024 - hsh b) % 1024) % 1024 = f by omega]
  exact h0
/-- the table holds f: bin b has the number f b, 0 for no entry -/
def tab (M V K : Nat → Nat) (sz : Nat) (f : Nat → Nat) : Prop :=
  cntM M 1024 = sz ∧ (∀ t, t < 1024 → M t ≠ 0 → isSlot M (M t - 1) t ∧ V t = f (M t - 1) ∧ f (M t - 1) ≠ 0 ∧ ∃ i, i < sz ∧ K i = t) ∧ (∀ i, i < sz → K i < 1024 ∧ M (K i) ≠ 0) ∧ (∀ b, f b ≠ 0 → b < 65536 ∧ ∃ t, t < 1024 ∧ M t = b + 1) ∧
  ∀ g : Nat → Nat, sumN (fun i => g (M (K i) - 1)) sz = sumN (fun b => if f b = 0 then 0 else g b) 65536
theorem tab_free {M V K f : Nat → Nat} {sz : Nat} (h : tab M V K sz f) (hs : sz ≤ 512) : ∃ t, t < 1024 ∧ M t = 0 := cntM_free (by rw [h.1]; exact hs)
theorem tab_none {M V K f : Nat → Nat} {sz b t : Nat} (h : tab M V K sz f) (ht : isSlot M b t) (h0 : M t = 0) : f b = 0 := by
  refine Classical.byContradiction fun q => ?_
  obtain ⟨-, t2, ht2, e⟩ := h.2.2.2.1 b q
  have h1 := (h.2.1 t2 ht2 (by omega)).1
  rw [e, Nat.add_sub_cancel] at h1
  have := isSlot_one ht h1
  subst this
  omega
theorem tab_mark {M : Nat → Nat} {b t : Nat} (ht : isSlot M b t) (h0 : M t ≠ 0) : M t = b + 1 := by
  obtain ⟨i, -, -, s, -⟩ := ht
  rcases s with s | s
  · exact absurd s h0
  · exact s
theorem tab_val {M V K f : Nat → Nat} {sz b t : Nat} (h : tab M V K sz f) (ht : isSlot M b t) (h0 : M t ≠ 0) : V t = f b := by
  have e := tab_mark ht h0
  have := (h.2.1 t (isSlot_lt ht) h0).2.1
  rw [e, Nat.add_sub_cancel] at this
  exact this
theorem tab_set {M V K f : Nat → Nat} {sz b t x : Nat} (h : tab M V K sz f) (ht : isSlot M b t) (h0 : M t ≠ 0) (hx : x ≠ 0) : tab M (uF V t x) K sz (uF f b x) := by
  have e := tab_mark ht h0
  have hfb : f b ≠ 0 := by have := (h.2.1 t (isSlot_lt ht) h0).2.2.1; rw [e, Nat.add_sub_cancel] at this; exact this
  refine ⟨h.1, fun s hs hm => ?_, h.2.2.1, fun c hc => ?_, fun g => ?_⟩
  · obtain ⟨a1, a2, a3, a4⟩ := h.2.1 s hs hm
    by_cases hst : s = t
    · subst hst
      refine ⟨a1, ?_, ?_, a4⟩
      · rw [e, Nat.add_sub_cancel, uF_s, uF_s]
      · rw [e, Nat.add_sub_cancel, uF_s]; exact hx
    · have hne : M s - 1 ≠ b := fun q => hst (by rw [q] at a1; exact isSlot_one a1 ht)
      rw [uF_n hst, uF_n hne]
      exact ⟨a1, a2, a3, a4⟩
  · by_cases hcb : c = b
    · subst hcb; exact h.2.2.2.1 c hfb
    · rw [uF_n hcb] at hc; exact h.2.2.2.1 c hc
  · rw [h.2.2.2.2 g]
    refine sumN_congr (fun c _ => ?_)
    by_cases hcb : c = b
    · subst hcb; rw [uF_s, if_neg hfb, if_neg hx]
    · rw [uF_n hcb]
theorem tab_add {M V K f : Nat → Nat} {sz b t x : Nat} (h : tab M V K sz f) (ht : isSlot M b t) (h0 : M t = 0) (hx : x ≠ 0) (hb : b < 65536) : tab (uF M t (b + 1)) (uF V t x) (uF K sz t) (sz + 1) (uF f b x) := by
  have hfb := tab_none h ht h0
  have htl := isSlot_lt ht
  have hk : ∀ r, r ≠ t → uF M t (b + 1) r = M r := fun r hr => uF_n hr
  refine ⟨by rw [cntM_put htl h0 (by omega), h.1], fun s hs hm => ?_, fun i hi => ?_, fun c hc => ?_, fun g => ?_⟩
  · by_cases hst : s = t
    · subst hst
      rw [uF_s, Nat.add_sub_cancel, uF_s, uF_s]
      exact ⟨isSlot_put ht h0 uF_s hk, rfl, hx, sz, by omega, uF_s⟩
    · rw [uF_n hst] at hm ⊢
      obtain ⟨a1, a2, a3, i, hi, a4⟩ := h.2.1 s hs hm
      have hne : M s - 1 ≠ b := fun q => a3 (by rw [q]; exact hfb)
      rw [uF_n hst, uF_n hne]
      exact ⟨isSlot_keep a1 h0 hst hk, a2, a3, i, by omega, by rw [uF_n (by omega)]; exact a4⟩
  · by_cases his : i = sz
    · subst his
      rw [uF_s, uF_s]
      exact ⟨htl, by omega⟩
    · rw [uF_n his]
      obtain ⟨a1, a2⟩ := h.2.2.1 i (by omega)
      have hne : K i ≠ t := fun q => a2 (by rw [q]; exact h0)
      rw [uF_n hne]
      exact ⟨a1, a2⟩
  · by_cases hcb : c = b
    · subst hcb; exact ⟨hb, t, htl, uF_s⟩
    · rw [uF_n hcb] at hc
      obtain ⟨a1, s, hs, a2⟩ := h.2.2.2.1 c hc
      have hne : s ≠ t := fun q => by rw [q, h0] at a2; omega
      exact ⟨a1, s, hs, by rw [uF_n hne]; exact a2⟩
  · rw [sumN_succ _ sz, uF_s, uF_s, Nat.add_sub_cancel]
    have e1 : sumN (fun i => g (uF M t (b + 1) (uF K sz t i) - 1)) sz = sumN (fun i => g (M (K i) - 1)) sz := sumN_congr (fun i hi => by
      have hne : K i ≠ t := fun q => (h.2.2.1 i hi).2 (by rw [q]; exact h0)
      rw [uF_n (show i ≠ sz by omega), uF_n hne])
    rw [e1, h.2.2.2.2 g, sumN_put (g := fun c => if f c = 0 then 0 else g c) (h := fun c => if uF f b x c = 0 then 0 else g c) hb (by simp [hfb]) (fun i _ hi => by rw [uF_n hi])]
    rw [uF_s, if_neg hx]
theorem tab_empty {M V K : Nat → Nat} (h : ∀ t, t < 1024 → M t = 0) : tab M V K 0 (fun _ => 0) := by
  refine ⟨?_, fun t ht hm => absurd (h t ht) hm, fun i hi => absurd hi (Nat.not_lt_zero _), fun b hb => absurd rfl hb, fun g => ?_⟩
  · unfold cntM
    exact sumN_zero (fun t ht => by rw [if_pos (h t ht)])
  · exact (sumN_zero (fun b _ => if_pos rfl)).symm
end
section
theorem tab_mb {M V K f : Nat → Nat} {sz : Nat} (h : tab M V K sz f) (t : Nat) (ht : t < 1024) : M t ≤ 65536 := by
  by_cases h0 : M t = 0
  · omega
  · have := (h.2.2.2.1 _ (h.2.1 t ht h0).2.2.1).1
    omega
set_option maxHeartbeats 4000000 in
set_option maxRecDepth 100000 in
/-- size -/
theorem c_X0_size (l : Launch) (D : va_G) (cI cJ : ClassId) (h hm hv hk sz : Nat) (M V K : Nat → Nat) : RO_i l yX0_size wsX0_size ({ frames := 0, cells := 0, slots := 0, locals := 0 } : Room) D [(h, .inr (1, [.ref hm, .ref hv, .ref hk, .int (nI sz)])), (hm, aI cI 1024 M), (hv, aI cI 1024 V), (hk, aI cI 512 K)] [(cI, .int), (cJ, .long)] [.ref h] (fun v => v = nI sz) := by
  refine RO_i.of (cc := cX0_size) (maxL := 1) (by decide) rfl (Nat.le_of_ble_eq_true rfl) ?_
  intro p e s m args below meth c ls A Q hx hb hml hts hown hA hP hK hl hret
  have hown : s.vm.findClass RX0 = some m.cls := hown
  have hl : lv_has ls 1 [(0, .ref h)] := hl
  have hS : va_S A s.heap s.heap [] := va_S.rf
  have hinX0 : ∀ w ∈ wsX00, w ∈ wsX0_size := by decide +kernel
  refine lv_aload_n hx hb dX0_size_0 rfl (lv_at hl 0 rfl) ?_
  refine va_get (D := D) (ci := 1) (v := .int (nI sz)) (C := RX0) (T := TX0) (N := 4) hx hb hts hinX0 hown hK hP 0 rfl rfl 3 (by decide) (hts (.fieldLink RX0 21 "PassSearch$BinTable" "size" "I") (by decide +kernel)) (fun _ h9 => h9) rfl dX0_size_1 ?_
  exact hret _ _ _ _ _ hS (rfl) dX0_size_4
set_option maxHeartbeats 4000000 in
set_option maxRecDepth 100000 in
/-- slotOf: where the search for bin b ends -/
theorem c_X0_slotOf (l : Launch) (D : va_G) (cI cJ : ClassId) (h hm hv hk sz : Nat) (M V K : Nat → Nat) (b : Nat) (hb1 : b < 65536) (hM : ∀ t, t < 1024 → M t ≤ 65536) (hf : ∃ t, t < 1024 ∧ M t = 0) : RO_i l yX0_slotOf wsX0_slotOf ({ frames := 0, cells := 0, slots := 0, locals := 0 } : Room) D [(h, .inr (1, [.ref hm, .ref hv, .ref hk, .int (nI sz)])), (hm, aI cI 1024 M), (hv, aI cI 1024 V), (hk, aI cI 512 K)] [(cI, .int), (cJ, .long)] [.ref h, .int (nI b)] (fun v => ∃ t, v = nI t ∧ isSlot M b t) := by
  refine RO_i.of (cc := cX0_slotOf) (maxL := 4) (by decide) rfl (Nat.le_of_ble_eq_true rfl) ?_
  intro p e s m args below meth c ls A Q hx hb hml hts hown hA hP hK hl hret
  have hown : s.vm.findClass RX0 = some m.cls := hown
  have hl : lv_has ls 4 [(0, .ref h), (1, .int (nI b))] := hl
  have hS : va_S A s.heap s.heap [] := va_S.rf
  have hinX0 : ∀ w ∈ wsX00, w ∈ wsX0_slotOf := by decide +kernel
  refine lv_iload_n hx hb dX0_slotOf_0 rfl (lv_at hl 1 rfl) ?_
  refine lv_ldc (v := -1640531535) hx hb hown (hts (.constant RX0 29 (-1640531535)) (by decide +kernel)) dX0_slotOf_1 ?_
  refine lv_imul hx hb dX0_slotOf_3 ?_
  refine lv_bipush (v := nI 22) hx hb dX0_slotOf_4 (by decide) ?_
  refine lv_iushr hx hb dX0_slotOf_6 (hsh_v b) ?_
  refine lv_istore_n (lv' := [(2, .int (nI (hsh b))), (0, .ref h), (1, .int (nI b))]) hx hb dX0_slotOf_7 rfl hl (by decide) rfl (fun ls hl => ?_)
  refine lv_iconst (v := nI 0) hx hb dX0_slotOf_8 (by decide) ?_
  refine lv_istore_n (lv' := [(3, .int (nI 0)), (2, .int (nI (hsh b))), (0, .ref h), (1, .int (nI b))]) hx hb dX0_slotOf_9 rfl hl (by decide) rfl (fun ls hl => ?_)
  have hhl := hsh_lt b
  have L10 : ∀ (nf : Nat) (t : Nat) (k : Nat), (t = (hsh b + k) % 1024 ∧ k ≤ 1024) → (∀ j, j < k → M ((hsh b + j) % 1024) ≠ 0 ∧ M ((hsh b + j) % 1024) ≠ b + 1) → 1024 - k < nf → ∀ (H : Heap) (locs : List Loc) (ls : Array Slot), va_P D vwCl [(h, .inr (1, [.ref hm, .ref hv, .ref hk, .int (nI sz)])), (hm, aI cI 1024 M), (hv, aI cI 1024 V), (hk, aI cI 512 K)] H → va_S A s.heap H locs → lv_has ls 4 [(2, .int (nI t)), (3, .int (nI k)), (0, .ref h), (1, .int (nI b))] → W p l e ({ frames := 0, cells := 0, slots := 0, locals := 0 } : Room) s m args below meth c H locs 0 0 Q (F0 m 10 ls []) := by
    intro nf
    induction nf with
    | zero => intro t k i1 i2 hm; exact absurd hm (Nat.not_lt_zero _)
    | succ nf ih10 =>
      intro t k i1 i2 hm10 H locs ls hP hS hl
      refine lv_iload_n hx hb dX0_slotOf_10 rfl (lv_at hl 1 rfl) ?_
      refine lv_sipush (v := nI 1024) hx hb dX0_slotOf_11 (by decide) ?_
      refine zi_ge (tgt := 52) hx hb dX0_slotOf_14 (by decide) (by omega) (by omega) (fun c14 => ?_) (fun c14 => ?_)
      · exact False.elim (isSlot_end hf c14 i2)
      · have htl : t < 1024 := by omega
        have hMt := hM t htl
        refine lv_aload_n hx hb dX0_slotOf_17 rfl (lv_at hl 2 rfl) ?_
        refine va_get (D := D) (ci := 1) (v := .ref hm) (C := RX0) (T := TX0) (N := 4) hx hb hts hinX0 hown hK hP 0 rfl rfl 0 (by decide) (hts (.fieldLink RX0 11 "PassSearch$BinTable" "marks" "[I") (by decide +kernel)) (fun _ h9 => h9) rfl dX0_slotOf_18 ?_
        refine lv_iload_n hx hb dX0_slotOf_21 rfl (lv_at hl 0 rfl) ?_
        refine zi_ald hx hb hK hP 1 0 rfl rfl (k := t) (by omega) (by omega) dX0_slotOf_22 ?_
        refine zi_if_eq (tgt := 52) hx hb dX0_slotOf_23 (by decide) (by omega) (fun c23 => ?_) (fun c23 => ?_)
        · refine lv_iload_n hx hb dX0_slotOf_52 rfl (lv_at hl 0 rfl) ?_
          exact hret _ _ _ _ _ hS (⟨t, rfl, k, by omega, i1.1, Or.inl c23, i2⟩) dX0_slotOf_53
        · refine lv_aload_n hx hb dX0_slotOf_26 rfl (lv_at hl 2 rfl) ?_
          refine va_get (D := D) (ci := 1) (v := .ref hm) (C := RX0) (T := TX0) (N := 4) hx hb hts hinX0 hown hK hP 0 rfl rfl 0 (by decide) (hts (.fieldLink RX0 11 "PassSearch$BinTable" "marks" "[I") (by decide +kernel)) (fun _ h9 => h9) rfl dX0_slotOf_27 ?_
          refine lv_iload_n hx hb dX0_slotOf_30 rfl (lv_at hl 0 rfl) ?_
          refine zi_ald hx hb hK hP 1 0 rfl rfl (k := t) (by omega) (by omega) dX0_slotOf_31 ?_
          refine lv_iload_n hx hb dX0_slotOf_32 rfl (lv_at hl 3 rfl) ?_
          refine lv_iconst (v := nI 1) hx hb dX0_slotOf_33 (by decide) ?_
          refine zi_add hx hb dX0_slotOf_34  ?_
          refine zi_eq (tgt := 52) hx hb dX0_slotOf_35 (by decide) (by omega) (by omega) (fun c35 => ?_) (fun c35 => ?_)
          · refine lv_iload_n hx hb dX0_slotOf_52 rfl (lv_at hl 0 rfl) ?_
            exact hret _ _ _ _ _ hS (⟨t, rfl, k, by omega, i1.1, Or.inr c35, i2⟩) dX0_slotOf_53
          · refine lv_iload_n hx hb dX0_slotOf_38 rfl (lv_at hl 0 rfl) ?_
            refine lv_iconst (v := nI 1) hx hb dX0_slotOf_39 (by decide) ?_
            refine zi_add hx hb dX0_slotOf_40  ?_
            refine lv_sipush (v := nI 1023) hx hb dX0_slotOf_41 (by decide) ?_
            refine lv_iand hx hb dX0_slotOf_44 ?_
            refine lv_topi (fun va_ ea_ => ?_)
            obtain rfl : va_ = nI ((t + 1) % 1024) := ea_.trans (pk_andN (by omega) 10 (by decide))
            refine lv_istore_n (lv' := [(2, .int (nI ((t + 1) % 1024))), (3, .int (nI k)), (0, .ref h), (1, .int (nI b))]) hx hb dX0_slotOf_45 rfl hl (by decide) rfl (fun ls hl => ?_)
            refine lv_iinc (v := nI (k + 1)) (lv' := [(3, .int (nI (k + 1))), (2, .int (nI ((t + 1) % 1024))), (0, .ref h), (1, .int (nI b))]) hx hb dX0_slotOf_46 hl (k := 1) rfl (by rw [show Int32.ofInt 1 = nI 1 by decide, nI_add]) (by decide) rfl (fun ls hl => ?_)
            refine lv_goto (tgt := 10) hx hb dX0_slotOf_49 (by decide) ?_
            exact ih10 ((t + 1) % 1024) (k + 1) (by omega) (fun j hj => if hk : j < k then i2 j hk else by rw [show j = k by omega, ← i1.1]; exact ⟨by omega, c35⟩) (by omega) _ _ _ hP hS (lv_sub hl [1, 0, 2, 3] rfl)
  exact L10 _ (hsh b) 0 (by omega) (fun j hj => absurd hj (Nat.not_lt_zero _)) (Nat.lt_succ_self _) _ _ _ hP hS (lv_sub hl [1, 0, 2, 3] rfl)
set_option maxHeartbeats 4000000 in
set_option maxRecDepth 100000 in
/-- valueOf -/
theorem c_X0_valueOf (l : Launch) (D : va_G) (cI cJ : ClassId) (h hm hv hk sz : Nat) (M V K : Nat → Nat) (f : Nat → Nat) (b : Nat) (htab : tab M V K sz f) (hsz : sz ≤ 512) (hb1 : b < 65536) : RO_i l yX0_valueOf wsX0_valueOf ({ frames := 1, cells := 0, slots := 0, locals := 23 } : Room) D [(h, .inr (1, [.ref hm, .ref hv, .ref hk, .int (nI sz)])), (hm, aI cI 1024 M), (hv, aI cI 1024 V), (hk, aI cI 512 K)] [(cI, .int), (cJ, .long)] [.ref h, .int (nI b)] (fun v => v = nI (f b)) := by
  refine RO_i.of (cc := cX0_valueOf) (maxL := 3) (by decide) rfl (Nat.le_of_ble_eq_true rfl) ?_
  intro p e s m args below meth c ls A Q hx hb hml hts hown hA hP hK hl hret
  have hown : s.vm.findClass RX0 = some m.cls := hown
  have hl : lv_has ls 3 [(0, .ref h), (1, .int (nI b))] := hl
  have hS : va_S A s.heap s.heap [] := va_S.rf
  have hinX0 : ∀ w ∈ wsX00, w ∈ wsX0_valueOf := by decide +kernel
  refine lv_aload_n hx hb dX0_valueOf_0 rfl (lv_at hl 0 rfl) ?_
  refine lv_iload_n hx hb dX0_valueOf_1 rfl (lv_at hl 1 rfl) ?_
  refine RO_i.callV (rest := []) (c_X0_slotOf l D cI cJ h hm hv hk sz M V K b hb1 (tab_mb htab) (tab_free htab (by omega))) ⟨hx, hb, hml, hown, hts⟩ (cwV 1 hts gX0_valueOf_X0_slotOf rfl rfl rfl (by decide +kernel) ⟨Nat.le_of_ble_eq_true rfl, Nat.le_of_ble_eq_true rfl⟩) hK hP hS hA [0, 1, 2, 3] [0, 1] rfl rfl 0 1 rfl rfl rfl rfl hl.1 rfl (Nat.le_of_ble_eq_true rfl) dX0_valueOf_2 ⟨Nat.zero_le _, Nat.zero_le _⟩ (fun v1_ H locs e1_ hP hS => ?_)
  obtain ⟨t, rfl, ht⟩ := e1_
  have htl := isSlot_lt ht
  have hMt := tab_mb htab t htl
  refine lv_istore_n (lv' := [(2, .int (nI t)), (0, .ref h), (1, .int (nI b))]) hx hb dX0_valueOf_5 rfl hl (by decide) rfl (fun ls hl => ?_)
  refine lv_aload_n hx hb dX0_valueOf_6 rfl (lv_at hl 1 rfl) ?_
  refine va_get (D := D) (ci := 1) (v := .ref hm) (C := RX0) (T := TX0) (N := 4) hx hb hts hinX0 hown hK hP 0 rfl rfl 0 (by decide) (hts (.fieldLink RX0 11 "PassSearch$BinTable" "marks" "[I") (by decide +kernel)) (fun _ h9 => h9) rfl dX0_valueOf_7 ?_
  refine lv_iload_n hx hb dX0_valueOf_10 rfl (lv_at hl 0 rfl) ?_
  refine zi_ald hx hb hK hP 1 0 rfl rfl (k := t) (by omega) (by omega) dX0_valueOf_11 ?_
  refine zi_if_ne (tgt := 19) hx hb dX0_valueOf_12 (by decide) (by omega) (fun c12 => ?_) (fun c12 => ?_)
  · refine lv_aload_n hx hb dX0_valueOf_19 rfl (lv_at hl 1 rfl) ?_
    refine va_get (D := D) (ci := 1) (v := .ref hv) (C := RX0) (T := TX0) (N := 4) hx hb hts hinX0 hown hK hP 0 rfl rfl 1 (by decide) (hts (.fieldLink RX0 15 "PassSearch$BinTable" "values" "[I") (by decide +kernel)) (fun _ h9 => h9) rfl dX0_valueOf_20 ?_
    refine lv_iload_n hx hb dX0_valueOf_23 rfl (lv_at hl 0 rfl) ?_
    refine zi_ald hx hb hK hP 2 0 rfl rfl (k := t) (by omega) (by omega) dX0_valueOf_24 ?_
    exact hret _ _ _ _ _ hS (by rw [tab_val htab ht (by omega)]) dX0_valueOf_25
  · refine lv_iconst (v := nI 0) hx hb dX0_valueOf_15 (by decide) ?_
    refine lv_goto (tgt := 25) hx hb dX0_valueOf_16 (by decide) ?_
    exact hret _ _ _ _ _ hS (by rw [tab_none htab ht c12]) dX0_valueOf_25
set_option maxHeartbeats 4000000 in
set_option maxRecDepth 100000 in
/-- binAt -/
theorem c_X0_binAt (l : Launch) (D : va_G) (cI cJ : ClassId) (h hm hv hk sz : Nat) (M V K : Nat → Nat) (f : Nat → Nat) (i : Nat) (htab : tab M V K sz f) (hsz : sz ≤ 512) (hi : i < sz) : RO_i l yX0_binAt wsX0_binAt ({ frames := 0, cells := 0, slots := 0, locals := 0 } : Room) D [(h, .inr (1, [.ref hm, .ref hv, .ref hk, .int (nI sz)])), (hm, aI cI 1024 M), (hv, aI cI 1024 V), (hk, aI cI 512 K)] [(cI, .int), (cJ, .long)] [.ref h, .int (nI i)] (fun v => v = nI (M (K i) - 1)) := by
  refine RO_i.of (cc := cX0_binAt) (maxL := 2) (by decide) rfl (Nat.le_of_ble_eq_true rfl) ?_
  intro p e s m args below meth c ls A Q hx hb hml hts hown hA hP hK hl hret
  have hown : s.vm.findClass RX0 = some m.cls := hown
  have hl : lv_has ls 2 [(0, .ref h), (1, .int (nI i))] := hl
  have hS : va_S A s.heap s.heap [] := va_S.rf
  have hinX0 : ∀ w ∈ wsX00, w ∈ wsX0_binAt := by decide +kernel
  have hki := htab.2.2.1 i hi
  refine lv_iload_n hx hb dX0_binAt_0 rfl (lv_at hl 1 rfl) ?_
  refine zi_if_lt (tgt := 28) hx hb dX0_binAt_1 (by decide) (by omega) (fun c1 => ?_) (fun c1 => ?_)
  · exact False.elim (by omega)
  · refine lv_iload_n hx hb dX0_binAt_4 rfl (lv_at hl 1 rfl) ?_
    refine lv_aload_n hx hb dX0_binAt_5 rfl (lv_at hl 0 rfl) ?_
    refine va_get (D := D) (ci := 1) (v := .int (nI sz)) (C := RX0) (T := TX0) (N := 4) hx hb hts hinX0 hown hK hP 0 rfl rfl 3 (by decide) (hts (.fieldLink RX0 21 "PassSearch$BinTable" "size" "I") (by decide +kernel)) (fun _ h9 => h9) rfl dX0_binAt_6 ?_
    refine zi_ge (tgt := 28) hx hb dX0_binAt_9 (by decide) (by omega) (by omega) (fun c9 => ?_) (fun c9 => ?_)
    · exact False.elim (by omega)
    · refine lv_aload_n hx hb dX0_binAt_12 rfl (lv_at hl 0 rfl) ?_
      refine va_get (D := D) (ci := 1) (v := .ref hm) (C := RX0) (T := TX0) (N := 4) hx hb hts hinX0 hown hK hP 0 rfl rfl 0 (by decide) (hts (.fieldLink RX0 11 "PassSearch$BinTable" "marks" "[I") (by decide +kernel)) (fun _ h9 => h9) rfl dX0_binAt_13 ?_
      refine lv_aload_n hx hb dX0_binAt_16 rfl (lv_at hl 0 rfl) ?_
      refine va_get (D := D) (ci := 1) (v := .ref hk) (C := RX0) (T := TX0) (N := 4) hx hb hts hinX0 hown hK hP 0 rfl rfl 2 (by decide) (hts (.fieldLink RX0 18 "PassSearch$BinTable" "taken" "[I") (by decide +kernel)) (fun _ h9 => h9) rfl dX0_binAt_17 ?_
      refine lv_iload_n hx hb dX0_binAt_20 rfl (lv_at hl 1 rfl) ?_
      refine zi_ald hx hb hK hP 3 0 rfl rfl (k := i) (by omega) (by omega) dX0_binAt_21 ?_
      refine zi_ald hx hb hK hP 1 0 rfl rfl (k := K i) (hki.1) (by omega) dX0_binAt_22 ?_
      refine lv_iconst (v := nI 1) hx hb dX0_binAt_23 (by decide) ?_
      refine zi_sub hx hb dX0_binAt_24 (Nat.pos_of_ne_zero hki.2) ?_
      refine lv_goto (tgt := 29) hx hb dX0_binAt_25 (by decide) ?_
      exact hret _ _ _ _ _ hS (rfl) dX0_binAt_29
set_option maxHeartbeats 4000000 in
set_option maxRecDepth 100000 in
/-- valueAt -/
theorem c_X0_valueAt (l : Launch) (D : va_G) (cI cJ : ClassId) (h hm hv hk sz : Nat) (M V K : Nat → Nat) (f : Nat → Nat) (i : Nat) (htab : tab M V K sz f) (hsz : sz ≤ 512) (hi : i < sz) : RO_i l yX0_valueAt wsX0_valueAt ({ frames := 0, cells := 0, slots := 0, locals := 0 } : Room) D [(h, .inr (1, [.ref hm, .ref hv, .ref hk, .int (nI sz)])), (hm, aI cI 1024 M), (hv, aI cI 1024 V), (hk, aI cI 512 K)] [(cI, .int), (cJ, .long)] [.ref h, .int (nI i)] (fun v => v = nI (V (K i))) := by
  refine RO_i.of (cc := cX0_valueAt) (maxL := 2) (by decide) rfl (Nat.le_of_ble_eq_true rfl) ?_
  intro p e s m args below meth c ls A Q hx hb hml hts hown hA hP hK hl hret
  have hown : s.vm.findClass RX0 = some m.cls := hown
  have hl : lv_has ls 2 [(0, .ref h), (1, .int (nI i))] := hl
  have hS : va_S A s.heap s.heap [] := va_S.rf
  have hinX0 : ∀ w ∈ wsX00, w ∈ wsX0_valueAt := by decide +kernel
  have hki := htab.2.2.1 i hi
  refine lv_iload_n hx hb dX0_valueAt_0 rfl (lv_at hl 1 rfl) ?_
  refine zi_if_lt (tgt := 26) hx hb dX0_valueAt_1 (by decide) (by omega) (fun c1 => ?_) (fun c1 => ?_)
  · exact False.elim (by omega)
  · refine lv_iload_n hx hb dX0_valueAt_4 rfl (lv_at hl 1 rfl) ?_
    refine lv_aload_n hx hb dX0_valueAt_5 rfl (lv_at hl 0 rfl) ?_
    refine va_get (D := D) (ci := 1) (v := .int (nI sz)) (C := RX0) (T := TX0) (N := 4) hx hb hts hinX0 hown hK hP 0 rfl rfl 3 (by decide) (hts (.fieldLink RX0 21 "PassSearch$BinTable" "size" "I") (by decide +kernel)) (fun _ h9 => h9) rfl dX0_valueAt_6 ?_
    refine zi_ge (tgt := 26) hx hb dX0_valueAt_9 (by decide) (by omega) (by omega) (fun c9 => ?_) (fun c9 => ?_)
    · exact False.elim (by omega)
    · refine lv_aload_n hx hb dX0_valueAt_12 rfl (lv_at hl 0 rfl) ?_
      refine va_get (D := D) (ci := 1) (v := .ref hv) (C := RX0) (T := TX0) (N := 4) hx hb hts hinX0 hown hK hP 0 rfl rfl 1 (by decide) (hts (.fieldLink RX0 15 "PassSearch$BinTable" "values" "[I") (by decide +kernel)) (fun _ h9 => h9) rfl dX0_valueAt_13 ?_
      refine lv_aload_n hx hb dX0_valueAt_16 rfl (lv_at hl 0 rfl) ?_
      refine va_get (D := D) (ci := 1) (v := .ref hk) (C := RX0) (T := TX0) (N := 4) hx hb hts hinX0 hown hK hP 0 rfl rfl 2 (by decide) (hts (.fieldLink RX0 18 "PassSearch$BinTable" "taken" "[I") (by decide +kernel)) (fun _ h9 => h9) rfl dX0_valueAt_17 ?_
      refine lv_iload_n hx hb dX0_valueAt_20 rfl (lv_at hl 1 rfl) ?_
      refine zi_ald hx hb hK hP 3 0 rfl rfl (k := i) (by omega) (by omega) dX0_valueAt_21 ?_
      refine zi_ald hx hb hK hP 2 0 rfl rfl (k := K i) (hki.1) (by omega) dX0_valueAt_22 ?_
      refine lv_goto (tgt := 27) hx hb dX0_valueAt_23 (by decide) ?_
      exact hret _ _ _ _ _ hS (rfl) dX0_valueAt_27
set_option maxHeartbeats 4000000 in
set_option maxRecDepth 100000 in
/-- put -/
theorem c_X0_put (l : Launch) (D : va_G) (cI cJ : ClassId) (h hm hv hk sz : Nat) (M V K : Nat → Nat) (f : Nat → Nat) (b x : Nat) (htab : tab M V K sz f) (hsz : sz < 512) (hb1 : b < 65536) (hx1 : 1 ≤ x) : WR_i l yX0_put wsX0_put ({ frames := 1, cells := 0, slots := 0, locals := 23 } : Room) D [(h, .inr (1, [.ref hm, .ref hv, .ref hk, .int (nI sz)])), (hm, aI cI 1024 M), (hv, aI cI 1024 V), (hk, aI cI 512 K)] [(cI, .int), (cJ, .long)] [.ref h, .int (nI b), .int (nI x)] (fun (u : Nat × (Nat → Nat) × (Nat → Nat) × (Nat → Nat)) => [(h, .inr (1, [.ref hm, .ref hv, .ref hk, .int (nI u.1)])), (hm, aI cI 1024 u.2.1), (hv, aI cI 1024 u.2.2.1), (hk, aI cI 512 u.2.2.2)]) (fun v u => v = bI True ∧ tab u.2.1 u.2.2.1 u.2.2.2 u.1 (uF f b x) ∧ u.1 ≤ sz + 1) 0 0 := by
  refine WR_i.ofz (cc := cX0_put) (maxL := 4) (by decide) rfl (Nat.le_of_ble_eq_true rfl) ?_
  intro p e s m args below meth c ls A Q hx hb hml hts hown hA hP hD hK hl hin hret
  have hown : s.vm.findClass RX0 = some m.cls := hown
  have hl : lv_has ls 4 [(0, .ref h), (1, .int (nI b)), (2, .int (nI x))] := hl
  have hS : va_S A s.heap s.heap [] := va_S.rf
  have hinX0 : ∀ w ∈ wsX00, w ∈ wsX0_put := by decide +kernel
  refine lv_aload_n hx hb dX0_put_0 rfl (lv_at hl 0 rfl) ?_
  refine lv_iload_n hx hb dX0_put_1 rfl (lv_at hl 1 rfl) ?_
  refine RO_i.callV (rest := []) (c_X0_slotOf l D cI cJ h hm hv hk sz M V K b hb1 (tab_mb htab) (tab_free htab (by omega))) ⟨hx, hb, hml, hown, hts⟩ (cwV 1 hts gX0_put_X0_slotOf rfl rfl rfl (by decide +kernel) ⟨Nat.le_of_ble_eq_true rfl, Nat.le_of_ble_eq_true rfl⟩) hK hP hS hA [0, 1, 2, 3] [0, 1] rfl rfl 0 1 rfl rfl rfl rfl hl.1 rfl (Nat.le_of_ble_eq_true rfl) dX0_put_2 ⟨Nat.zero_le _, Nat.zero_le _⟩ (fun v1_ H locs e1_ hP hS => ?_)
  obtain ⟨t, rfl, ht⟩ := e1_
  have htl := isSlot_lt ht
  have hMt := tab_mb htab t htl
  refine lv_istore_n (lv' := [(3, .int (nI t)), (0, .ref h), (1, .int (nI b)), (2, .int (nI x))]) hx hb dX0_put_5 rfl hl (by decide) rfl (fun ls hl => ?_)
  refine lv_aload_n hx hb dX0_put_6 rfl (lv_at hl 1 rfl) ?_
  refine va_get (D := D) (ci := 1) (v := .ref hm) (C := RX0) (T := TX0) (N := 4) hx hb hts hinX0 hown hK hP 0 rfl rfl 0 (by decide) (hts (.fieldLink RX0 11 "PassSearch$BinTable" "marks" "[I") (by decide +kernel)) (fun _ h9 => h9) rfl dX0_put_7 ?_
  refine lv_iload_n hx hb dX0_put_10 rfl (lv_at hl 0 rfl) ?_
  refine zi_ald hx hb hK hP 1 0 rfl rfl (k := t) (by omega) (by omega) dX0_put_11 ?_
  refine zi_if_ne (tgt := 56) hx hb dX0_put_12 (by decide) (by omega) (fun c12 => ?_) (fun c12 => ?_)
  · refine lv_aload_n hx hb dX0_put_56 rfl (lv_at hl 1 rfl) ?_
    refine va_get (D := D) (ci := 1) (v := .ref hv) (C := RX0) (T := TX0) (N := 4) hx hb hts hinX0 hown hK hP 0 rfl rfl 1 (by decide) (hts (.fieldLink RX0 15 "PassSearch$BinTable" "values" "[I") (by decide +kernel)) (fun _ h9 => h9) rfl dX0_put_57 ?_
    refine lv_iload_n hx hb dX0_put_60 rfl (lv_at hl 0 rfl) ?_
    refine lv_iload_n hx hb dX0_put_61 rfl (lv_at hl 3 rfl) ?_
    refine zi_ast hx hb hK hP hD hS 2 0 rfl rfl (k := t) (x := x) (by omega) (by omega) dX0_put_62 (fun H locs hP hD hS => ?_)
    have hP : va_P D vwCl [(h, .inr (1, [.ref hm, .ref hv, .ref hk, .int (nI sz)])), (hm, aI cI 1024 M), (hv, aI cI 1024 (uF V t x)), (hk, aI cI 512 K)] H := hP
    have hD : va_D A [(h, .inr (1, [.ref hm, .ref hv, .ref hk, .int (nI sz)])), (hm, aI cI 1024 M), (hv, aI cI 1024 (uF V t x)), (hk, aI cI 512 K)] := hD
    refine lv_iconst (v := nI 1) hx hb dX0_put_63 (by decide) ?_
    exact hret _ ((sz, M, uF V t x, K)) _ _ _ _ hP hD hS (Or.inr rfl) (⟨bI_t' trivial, tab_set htab ht (Nat.ne_of_gt c12) (Nat.ne_of_gt hx1), Nat.le_succ sz⟩) dX0_put_64
  · refine lv_aload_n hx hb dX0_put_15 rfl (lv_at hl 1 rfl) ?_
    refine va_get (D := D) (ci := 1) (v := .int (nI sz)) (C := RX0) (T := TX0) (N := 4) hx hb hts hinX0 hown hK hP 0 rfl rfl 3 (by decide) (hts (.fieldLink RX0 21 "PassSearch$BinTable" "size" "I") (by decide +kernel)) (fun _ h9 => h9) rfl dX0_put_16 ?_
    refine lv_sipush (v := nI 512) hx hb dX0_put_19 (by decide) ?_
    refine zi_lt (tgt := 27) hx hb dX0_put_22 (by decide) (by omega) (by omega) (fun c22 => ?_) (fun c22 => ?_)
    · refine lv_aload_n hx hb dX0_put_27 rfl (lv_at hl 1 rfl) ?_
      refine va_get (D := D) (ci := 1) (v := .ref hm) (C := RX0) (T := TX0) (N := 4) hx hb hts hinX0 hown hK hP 0 rfl rfl 0 (by decide) (hts (.fieldLink RX0 11 "PassSearch$BinTable" "marks" "[I") (by decide +kernel)) (fun _ h9 => h9) rfl dX0_put_28 ?_
      refine lv_iload_n hx hb dX0_put_31 rfl (lv_at hl 0 rfl) ?_
      refine lv_iload_n hx hb dX0_put_32 rfl (lv_at hl 2 rfl) ?_
      refine lv_iconst (v := nI 1) hx hb dX0_put_33 (by decide) ?_
      refine zi_add hx hb dX0_put_34  ?_
      refine zi_ast hx hb hK hP hD hS 1 0 rfl rfl (k := t) (x := b + 1) (by omega) (by omega) dX0_put_35 (fun H locs hP hD hS => ?_)
      have hP : va_P D vwCl [(h, .inr (1, [.ref hm, .ref hv, .ref hk, .int (nI sz)])), (hm, aI cI 1024 (uF M t (b + 1))), (hv, aI cI 1024 V), (hk, aI cI 512 K)] H := hP
      have hD : va_D A [(h, .inr (1, [.ref hm, .ref hv, .ref hk, .int (nI sz)])), (hm, aI cI 1024 (uF M t (b + 1))), (hv, aI cI 1024 V), (hk, aI cI 512 K)] := hD
      refine lv_aload_n hx hb dX0_put_36 rfl (lv_at hl 1 rfl) ?_
      refine va_get (D := D) (ci := 1) (v := .ref hk) (C := RX0) (T := TX0) (N := 4) hx hb hts hinX0 hown hK hP 0 rfl rfl 2 (by decide) (hts (.fieldLink RX0 18 "PassSearch$BinTable" "taken" "[I") (by decide +kernel)) (fun _ h9 => h9) rfl dX0_put_37 ?_
      refine lv_aload_n hx hb dX0_put_40 rfl (lv_at hl 1 rfl) ?_
      refine va_get (D := D) (ci := 1) (v := .int (nI sz)) (C := RX0) (T := TX0) (N := 4) hx hb hts hinX0 hown hK hP 0 rfl rfl 3 (by decide) (hts (.fieldLink RX0 21 "PassSearch$BinTable" "size" "I") (by decide +kernel)) (fun _ h9 => h9) rfl dX0_put_41 ?_
      refine lv_iload_n hx hb dX0_put_44 rfl (lv_at hl 0 rfl) ?_
      refine zi_ast hx hb hK hP hD hS 3 0 rfl rfl (k := sz) (x := t) (by omega) (by omega) dX0_put_45 (fun H locs hP hD hS => ?_)
      have hP : va_P D vwCl [(h, .inr (1, [.ref hm, .ref hv, .ref hk, .int (nI sz)])), (hm, aI cI 1024 (uF M t (b + 1))), (hv, aI cI 1024 V), (hk, aI cI 512 (uF K sz t))] H := hP
      have hD : va_D A [(h, .inr (1, [.ref hm, .ref hv, .ref hk, .int (nI sz)])), (hm, aI cI 1024 (uF M t (b + 1))), (hv, aI cI 1024 V), (hk, aI cI 512 (uF K sz t))] := hD
      refine lv_aload_n hx hb dX0_put_46 rfl (lv_at hl 1 rfl) ?_
      refine lv_dup hx hb dX0_put_47 rfl ?_
      refine va_get (D := D) (ci := 1) (v := .int (nI sz)) (C := RX0) (T := TX0) (N := 4) hx hb hts hinX0 hown hK hP 0 rfl rfl 3 (by decide) (hts (.fieldLink RX0 21 "PassSearch$BinTable" "size" "I") (by decide +kernel)) (fun _ h9 => h9) rfl dX0_put_48 ?_
      refine lv_iconst (v := nI 1) hx hb dX0_put_51 (by decide) ?_
      refine zi_add hx hb dX0_put_52  ?_
      refine va_put (D := D) (ci := 1) (v := .int (nI (sz + 1))) (ty := .int) (C := RX0) (T := TX0) (N := 4) hx hb hts hinX0 tyX0 tyX0_ok nmX0 hown hK hP hD hS 0 rfl rfl 3 (by decide) (hts (.fieldLink RX0 21 "PassSearch$BinTable" "size" "I") (by decide +kernel)) (fun _ h9 => h9) rfl (by decide +kernel) rfl rfl (Nat.le_of_ble_eq_true rfl) dX0_put_53 (fun H locs hP hD hS => ?_)
      have hP : va_P D vwCl [(h, .inr (1, [.ref hm, .ref hv, .ref hk, .int (nI (sz + 1))])), (hm, aI cI 1024 (uF M t (b + 1))), (hv, aI cI 1024 V), (hk, aI cI 512 (uF K sz t))] H := hP
      have hD : va_D A [(h, .inr (1, [.ref hm, .ref hv, .ref hk, .int (nI (sz + 1))])), (hm, aI cI 1024 (uF M t (b + 1))), (hv, aI cI 1024 V), (hk, aI cI 512 (uF K sz t))] := hD
      refine lv_aload_n hx hb dX0_put_56 rfl (lv_at hl 1 rfl) ?_
      refine va_get (D := D) (ci := 1) (v := .ref hv) (C := RX0) (T := TX0) (N := 4) hx hb hts hinX0 hown hK hP 0 rfl rfl 1 (by decide) (hts (.fieldLink RX0 15 "PassSearch$BinTable" "values" "[I") (by decide +kernel)) (fun _ h9 => h9) rfl dX0_put_57 ?_
      refine lv_iload_n hx hb dX0_put_60 rfl (lv_at hl 0 rfl) ?_
      refine lv_iload_n hx hb dX0_put_61 rfl (lv_at hl 3 rfl) ?_
      refine zi_ast hx hb hK hP hD hS 2 0 rfl rfl (k := t) (x := x) (by omega) (by omega) dX0_put_62 (fun H locs hP hD hS => ?_)
      have hP : va_P D vwCl [(h, .inr (1, [.ref hm, .ref hv, .ref hk, .int (nI (sz + 1))])), (hm, aI cI 1024 (uF M t (b + 1))), (hv, aI cI 1024 (uF V t x)), (hk, aI cI 512 (uF K sz t))] H := hP
      have hD : va_D A [(h, .inr (1, [.ref hm, .ref hv, .ref hk, .int (nI (sz + 1))])), (hm, aI cI 1024 (uF M t (b + 1))), (hv, aI cI 1024 (uF V t x)), (hk, aI cI 512 (uF K sz t))] := hD
      refine lv_iconst (v := nI 1) hx hb dX0_put_63 (by decide) ?_
      exact hret _ ((sz + 1, uF M t (b + 1), uF V t x, uF K sz t)) _ _ _ _ hP hD hS (Or.inr rfl) (⟨bI_t' trivial, tab_add htab ht c12 (Nat.ne_of_gt hx1) hb1, Nat.le_refl _⟩) dX0_put_64
    · exact False.elim (by omega)
set_option maxHeartbeats 4000000 in
set_option maxRecDepth 100000 in
/-- clear -/
theorem c_X0_clear (l : Launch) (D : va_G) (cI cJ : ClassId) (h hm hv hk sz : Nat) (M V K : Nat → Nat) (f : Nat → Nat) (htab : tab M V K sz f) (hsz : sz ≤ 512) : WR_v l yX0_clear wsX0_clear ({ frames := 0, cells := 0, slots := 0, locals := 0 } : Room) D [(h, .inr (1, [.ref hm, .ref hv, .ref hk, .int (nI sz)])), (hm, aI cI 1024 M), (hv, aI cI 1024 V), (hk, aI cI 512 K)] [(cI, .int), (cJ, .long)] [.ref h] (fun (u : Nat → Nat) => [(h, .inr (1, [.ref hm, .ref hv, .ref hk, .int (nI 0)])), (hm, aI cI 1024 u), (hv, aI cI 1024 V), (hk, aI cI 512 K)]) (fun u => ∀ t, t < 1024 → u t = 0) 0 0 := by
  refine WR_v.of (cc := cX0_clear) (maxL := 2) (by decide) rfl (Nat.le_of_ble_eq_true rfl) ?_
  intro p e s m args below meth c ls A Q hx hb hml hts hown hA hP hD hK hl hin hret
  have hown : s.vm.findClass RX0 = some m.cls := hown
  have hl : lv_has ls 2 [(0, .ref h)] := hl
  have hS : va_S A s.heap s.heap [] := va_S.rf
  have hinX0 : ∀ w ∈ wsX00, w ∈ wsX0_clear := by decide +kernel
  refine lv_iconst (v := nI 0) hx hb dX0_clear_0 (by decide) ?_
  refine lv_istore_n (lv' := [(1, .int (nI 0)), (0, .ref h)]) hx hb dX0_clear_1 rfl hl (by decide) rfl (fun ls hl => ?_)
  have L2 : ∀ (nf : Nat) (i : Nat) (N : Nat → Nat), (i ≤ sz) → (∀ t, t < 1024 → N t ≠ 0 → ∃ j, i ≤ j ∧ j < sz ∧ K j = t) → sz - i < nf → ∀ (H : Heap) (locs : List Loc) (ls : Array Slot), va_P D vwCl [(h, .inr (1, [.ref hm, .ref hv, .ref hk, .int (nI sz)])), (hm, aI cI 1024 N), (hv, aI cI 1024 V), (hk, aI cI 512 K)] H → va_D A [(h, .inr (1, [.ref hm, .ref hv, .ref hk, .int (nI sz)])), (hm, aI cI 1024 N), (hv, aI cI 1024 V), (hk, aI cI 512 K)] → va_S A s.heap H locs → lv_has ls 2 [(1, .int (nI i)), (0, .ref h)] → W p l e ({ frames := 0, cells := 0, slots := 0, locals := 0 } : Room) s m args below meth c H locs 0 0 Q (F0 m 2 ls []) := by
    intro nf
    induction nf with
    | zero => intro i N i1 i2 hm; exact absurd hm (Nat.not_lt_zero _)
    | succ nf ih2 =>
      intro i N i1 i2 hm2 H locs ls hP hD hS hl
      refine lv_iload_n hx hb dX0_clear_2 rfl (lv_at hl 0 rfl) ?_
      refine lv_aload_n hx hb dX0_clear_3 rfl (lv_at hl 1 rfl) ?_
      refine va_get (D := D) (ci := 1) (v := .int (nI sz)) (C := RX0) (T := TX0) (N := 4) hx hb hts hinX0 hown hK hP 0 rfl rfl 3 (by decide) (hts (.fieldLink RX0 21 "PassSearch$BinTable" "size" "I") (by decide +kernel)) (fun _ h9 => h9) rfl dX0_clear_4 ?_
      refine zi_ge (tgt := 28) hx hb dX0_clear_7 (by decide) (by omega) (by omega) (fun c7 => ?_) (fun c7 => ?_)
      · refine lv_aload_n hx hb dX0_clear_28 rfl (lv_at hl 1 rfl) ?_
        refine lv_iconst (v := nI 0) hx hb dX0_clear_29 (by decide) ?_
        refine va_put (D := D) (ci := 1) (v := .int (nI 0)) (ty := .int) (C := RX0) (T := TX0) (N := 4) hx hb hts hinX0 tyX0 tyX0_ok nmX0 hown hK hP hD hS 0 rfl rfl 3 (by decide) (hts (.fieldLink RX0 21 "PassSearch$BinTable" "size" "I") (by decide +kernel)) (fun _ h9 => h9) rfl (by decide +kernel) rfl rfl (Nat.le_of_ble_eq_true rfl) dX0_clear_30 (fun H locs hP hD hS => ?_)
        have hP : va_P D vwCl [(h, .inr (1, [.ref hm, .ref hv, .ref hk, .int (nI 0)])), (hm, aI cI 1024 N), (hv, aI cI 1024 V), (hk, aI cI 512 K)] H := hP
        have hD : va_D A [(h, .inr (1, [.ref hm, .ref hv, .ref hk, .int (nI 0)])), (hm, aI cI 1024 N), (hv, aI cI 1024 V), (hk, aI cI 512 K)] := hD
        exact hret (N) _ _ _ _ hP hD hS (fun t ht => Classical.byContradiction fun q => by
              obtain ⟨j, h1, h2, -⟩ := i2 t ht q
              omega) dX0_clear_33
      · have hki := (htab.2.2.1 i (by omega)).1
        refine lv_aload_n hx hb dX0_clear_10 rfl (lv_at hl 1 rfl) ?_
        refine va_get (D := D) (ci := 1) (v := .ref hm) (C := RX0) (T := TX0) (N := 4) hx hb hts hinX0 hown hK hP 0 rfl rfl 0 (by decide) (hts (.fieldLink RX0 11 "PassSearch$BinTable" "marks" "[I") (by decide +kernel)) (fun _ h9 => h9) rfl dX0_clear_11 ?_
        refine lv_aload_n hx hb dX0_clear_14 rfl (lv_at hl 1 rfl) ?_
        refine va_get (D := D) (ci := 1) (v := .ref hk) (C := RX0) (T := TX0) (N := 4) hx hb hts hinX0 hown hK hP 0 rfl rfl 2 (by decide) (hts (.fieldLink RX0 18 "PassSearch$BinTable" "taken" "[I") (by decide +kernel)) (fun _ h9 => h9) rfl dX0_clear_15 ?_
        refine lv_iload_n hx hb dX0_clear_18 rfl (lv_at hl 0 rfl) ?_
        refine zi_ald hx hb hK hP 3 0 rfl rfl (k := i) (by omega) (by omega) dX0_clear_19 ?_
        refine lv_iconst (v := nI 0) hx hb dX0_clear_20 (by decide) ?_
        refine zi_ast hx hb hK hP hD hS 1 0 rfl rfl (k := K i) (x := 0) (by omega) (by omega) dX0_clear_21 (fun H locs hP hD hS => ?_)
        have hP : va_P D vwCl [(h, .inr (1, [.ref hm, .ref hv, .ref hk, .int (nI sz)])), (hm, aI cI 1024 (uF N (K i) 0)), (hv, aI cI 1024 V), (hk, aI cI 512 K)] H := hP
        have hD : va_D A [(h, .inr (1, [.ref hm, .ref hv, .ref hk, .int (nI sz)])), (hm, aI cI 1024 (uF N (K i) 0)), (hv, aI cI 1024 V), (hk, aI cI 512 K)] := hD
        refine lv_iinc (v := nI (i + 1)) (lv' := [(1, .int (nI (i + 1))), (0, .ref h)]) hx hb dX0_clear_22 hl (k := 0) rfl (by rw [show Int32.ofInt 1 = nI 1 by decide, nI_add]) (by decide) rfl (fun ls hl => ?_)
        refine lv_goto (tgt := 2) hx hb dX0_clear_25 (by decide) ?_
        exact ih2 (i + 1) (uF N (K i) 0) (by omega) (fun t ht h0 => by
                by_cases hq : t = K i
                · rw [hq, uF_s] at h0; exact absurd rfl h0
                · rw [uF_n hq] at h0
                  obtain ⟨j, h1, h2, h3⟩ := i2 t ht h0
                  have : j ≠ i := fun q => hq (by rw [← h3, q])
                  exact ⟨j, by omega, h2, h3⟩) (by omega) _ _ _ hP hD hS (lv_sub hl [0, 1] rfl)
  exact L2 _ 0 M (by omega) (fun t ht h0 => by
      obtain ⟨j, hj, e⟩ := (htab.2.1 t ht h0).2.2.2
      exact ⟨j, by omega, hj, e⟩) (Nat.lt_succ_self _) _ _ _ hP hD hS (lv_sub hl [0, 1] rfl)
end
section
/-! the items as groups: gc groups, tt items, P points, F firsts, C counts, O the groups' order -/
theorem sumN_mono {g : Nat → Nat} {m n : Nat} (h : m ≤ n) : sumN g m ≤ sumN g n := by
  induction h with
  | refl => exact Nat.le_refl _
  | step _ ih => exact Nat.le_trans ih (by rw [sumN_succ]; omega)
def itOK (gc tt : Nat) (P F C : Nat → Nat) : Prop := gc ≤ 512 ∧ tt ≤ 4000 ∧ tt = sumN C gc ∧ ∀ g, g < gc → F g = sumN C g ∧ 1 ≤ C g ∧ P g < 4611686018427387904
def ordOK (gc tt : Nat) (P C O : Nat → Nat) : Prop := (∀ k, k < gc → O k < gc) ∧ (∀ j k, j ≤ k → k < gc → P (O j) ≤ P (O k)) ∧ sumN (fun i => C (O i)) gc = tt
theorem it_le {gc tt : Nat} {P F C : Nat → Nat} (h : itOK gc tt P F C) {g : Nat} (hg : g < gc) : F g + C g ≤ tt := by
  rw [(h.2.2.2 g hg).1, ← sumN_succ, h.2.2.1]
  exact sumN_mono hg
theorem it_next {gc tt : Nat} {P F C : Nat → Nat} (h : itOK gc tt P F C) {g : Nat} (hg : g + 1 < gc) : F (g + 1) = F g + C g := by
  rw [(h.2.2.2 (g + 1) hg).1, (h.2.2.2 g (by omega)).1, sumN_succ]
theorem it_last {gc tt : Nat} {P F C : Nat → Nat} (h : itOK gc tt P F C) {g : Nat} (hg : g + 1 = gc) : tt = F g + C g := by
  rw [(h.2.2.2 g (by omega)).1, ← sumN_succ, hg]; exact h.2.2.1
/-- the new group stands at place kp -/
def isIns (P O : Nat → Nat) (gc a kp : Nat) (O2 : Nat → Nat) : Prop := kp ≤ gc ∧ (∀ i, i < kp → O2 i = O i) ∧ O2 kp = gc ∧ (∀ i, kp < i → i ≤ gc → O2 i = O (i - 1)) ∧ (∀ i, kp ≤ i → i < gc → a < P (O i)) ∧ (kp = 0 ∨ P (O (kp - 1)) ≤ a)
theorem sum_ins {q h : Nat → Nat} {kp x n : Nat} (h1 : ∀ i, i < kp → h i = q i) (h2 : h kp = x) (h3 : ∀ i, kp < i → i ≤ n → h i = q (i - 1)) : (∀ k, k ≤ kp → sumN h k = sumN q k) ∧ ∀ k, kp ≤ k → k ≤ n → sumN h (k + 1) = sumN q k + x := by
  have e1 : ∀ k, k ≤ kp → sumN h k = sumN q k := fun k hk => sumN_congr (fun i hi => h1 i (by omega))
  refine ⟨e1, fun k => ?_⟩
  induction k with
  | zero =>
    intro hk _
    have : kp = 0 := by omega
    subst this
    rw [sumN_succ, h2]; rfl
  | succ k ih =>
    intro hk hn
    rcases Nat.lt_or_ge k kp with g | g
    · have : kp = k + 1 := by omega
      subst this
      rw [sumN_succ, e1 _ (Nat.le_refl _), h2]
    · rw [sumN_succ, ih g (by omega), h3 (k + 1) (by omega) hn, Nat.add_sub_cancel, sumN_succ]; omega
theorem it_add {gc tt a n : Nat} {P F C : Nat → Nat} (h : itOK gc tt P F C) (hg : gc < 512) (ht : tt + n ≤ 4000) (hn : 1 ≤ n) (ha : a < 4611686018427387904) : itOK (gc + 1) (tt + n) (uF P gc a) (uF F gc tt) (uF C gc n) := by
  have e : ∀ k, k ≤ gc → sumN (uF C gc n) k = sumN C k := fun k hk => sumN_congr (fun i hi => uF_n (by omega))
  refine ⟨by omega, ht, by rw [sumN_succ, e gc (Nat.le_refl _), uF_s, ← h.2.2.1], fun g hgg => ?_⟩
  rw [e g (by omega)]
  by_cases hq : g = gc
  · subst hq
    rw [uF_s, uF_s, uF_s]
    exact ⟨h.2.2.1, hn, ha⟩
  · rw [uF_n hq, uF_n hq, uF_n hq]
    exact h.2.2.2 g (by omega)
theorem ord_add {gc tt a n kp : Nat} {P C O O2 : Nat → Nat} (h : ordOK gc tt P C O) (hi : isIns P O gc a kp O2) : ordOK (gc + 1) (tt + n) (uF P gc a) (uF C gc n) O2 ∧ (∀ k, k ≤ kp → sumN (fun i => uF C gc n (O2 i)) k = sumN (fun i => C (O i)) k) ∧ ∀ k, kp ≤ k → k ≤ gc → sumN (fun i => uF C gc n (O2 i)) (k + 1) = sumN (fun i => C (O i)) k + n := by
  obtain ⟨i0, i1, i2, i3, i4, i5⟩ := hi
  have e1 : ∀ i, i < kp → O2 i = O i ∧ O i < gc := fun i hk => ⟨i1 i hk, h.1 i (by omega)⟩
  have e3 : ∀ i, kp < i → i ≤ gc → O2 i = O (i - 1) ∧ O (i - 1) < gc := fun i hk hg => ⟨i3 i hk hg, h.1 (i - 1) (by omega)⟩
  have hs := sum_ins (q := fun i => C (O i)) (h := fun i => uF C gc n (O2 i)) (kp := kp) (x := n) (n := gc) (fun i hk => by
      obtain ⟨a1, a2⟩ := e1 i hk
      simp only [a1]
      exact uF_n (by omega)) (by simp only [i2]; exact uF_s) (fun i hk hg => by
      obtain ⟨a1, a2⟩ := e3 i hk hg
      simp only [a1]
      exact uF_n (by omega))
  refine ⟨⟨fun k hk => ?_, fun j k hjk hk => ?_, ?_⟩, hs.1, hs.2⟩
  · rcases Nat.lt_trichotomy k kp with g | g | g
    · have := e1 k g; omega
    · subst g; rw [i2]; omega
    · have := e3 k g (by omega); omega
  · have v1 : ∀ i, i < kp → uF P gc a (O2 i) = P (O i) := fun i hk => by
      obtain ⟨a1, a2⟩ := e1 i hk
      rw [a1]; exact uF_n (by omega)
    have v2 : uF P gc a (O2 kp) = a := by rw [i2]; exact uF_s
    have v3 : ∀ i, kp < i → i ≤ gc → uF P gc a (O2 i) = P (O (i - 1)) := fun i hk hg => by
      obtain ⟨a1, a2⟩ := e3 i hk hg
      rw [a1]; exact uF_n (by omega)
    have low : ∀ i, i < kp → P (O i) ≤ a := fun i hk => by
      rcases i5 with g | g
      · omega
      · exact Nat.le_trans (h.2.1 i (kp - 1) (by omega) (by omega)) g
    rcases Nat.lt_trichotomy j kp with g | g | g
    · rw [v1 j g]
      rcases Nat.lt_trichotomy k kp with g2 | g2 | g2
      · rw [v1 k g2]; exact h.2.1 j k hjk (by omega)
      · subst g2; rw [v2]; exact low j g
      · rw [v3 k g2 (by omega)]; exact h.2.1 j (k - 1) (by omega) (by omega)
    · subst g
      rw [v2]
      rcases Nat.lt_or_ge j k with g2 | g2
      · rw [v3 k g2 (by omega)]; exact Nat.le_of_lt (i4 (k - 1) (by omega) (by omega))
      · rw [show k = j by omega, v2]; exact Nat.le_refl _
    · rw [v3 j g (by omega), v3 k (by omega) (by omega)]; exact h.2.1 (j - 1) (k - 1) (by omega) (by omega)
  · rw [hs.2 gc i0 (Nat.le_refl _), h.2.2]
/-- a sum over the items is one over the groups -/
theorem sumN_app (g : Nat → Nat) (m n : Nat) : sumN g (m + n) = sumN g m + sumN (fun j => g (m + j)) n := by
  induction n with
  | zero => rfl
  | succ n ih => rw [← Nat.add_assoc, sumN_succ, ih, sumN_succ, Nat.add_assoc]
theorem sum_groups (C g : Nat → Nat) (n : Nat) : sumN g (sumN C n) = sumN (fun k => sumN (fun j => g (sumN C k + j)) (C k)) n := by
  induction n with
  | zero => rfl
  | succ n ih => rw [sumN_succ, sumN_app, ih, sumN_succ]
theorem sumN_const (x n : Nat) : sumN (fun _ => x) n = n * x := by
  induction n with
  | zero => simp [sumN]
  | succ n ih => rw [sumN_succ, ih, Nat.succ_mul]
/-- the place: the groups that lie before own, and own's items before this one -/
def before (P C : Nat → Nat) (w ow g : Nat) : Nat := if P g % w < P ow % w ∨ (P g % w = P ow % w ∧ g < ow) then C g else 0
end
section
theorem isIns_old {P O O2 : Nat → Nat} {gc a kp : Nat} (hO : ∀ k, k < gc → O k < gc) (h : isIns (uF P gc a) O gc (uF P gc a gc) kp O2) : isIns P O gc a kp O2 := by
  obtain ⟨h0, h1, h2, h3, h4, h5⟩ := h
  rw [uF_s] at h4 h5
  refine ⟨h0, h1, h2, h3, fun i hi hg => ?_, ?_⟩
  · have := h4 i hi hg
    have hq := hO i hg
    rw [uF_n (by omega)] at this
    exact this
  · rcases h5 with h5 | h5
    · exact Or.inl h5
    · rcases Nat.eq_zero_or_pos kp with q | q
      · exact Or.inl q
      · have hq := hO (kp - 1) (by omega)
        rw [uF_n (by omega)] at h5
        exact Or.inr h5
set_option maxHeartbeats 4000000 in
set_option maxRecDepth 100000 in
/-- total -/
theorem c_X1_total (l : Launch) (D : va_G) (cI cJ : ClassId) (h h1 h2 h3 h4 gc tt : Nat) (P F C O : Nat → Nat) : RO_i l yX1_total wsX1_total ({ frames := 0, cells := 0, slots := 0, locals := 0 } : Room) D [(h, .inr (2, [.ref h1, .ref h2, .ref h3, .ref h4, .int (nI gc), .int (nI tt)])), (h1, aJ cJ 512 P), (h2, aI cI 512 F), (h3, aI cI 512 C), (h4, aI cI 512 O)] [(cI, .int), (cJ, .long)] [.ref h] (fun v => v = nI tt) := by
  refine RO_i.of (cc := cX1_total) (maxL := 1) (by decide) rfl (Nat.le_of_ble_eq_true rfl) ?_
  intro p e s m args below meth c ls A Q hx hb hml hts hown hA hP hK hl hret
  have hown : s.vm.findClass RX1 = some m.cls := hown
  have hl : lv_has ls 1 [(0, .ref h)] := hl
  have hS : va_S A s.heap s.heap [] := va_S.rf
  have hinX1 : ∀ w ∈ wsX10, w ∈ wsX1_total := by decide +kernel
  refine lv_aload_n hx hb dX1_total_0 rfl (lv_at hl 0 rfl) ?_
  refine va_get (D := D) (ci := 2) (v := .int (nI tt)) (C := RX1) (T := TX1) (N := 6) hx hb hts hinX1 hown hK hP 0 rfl rfl 5 (by decide) (hts (.fieldLink RX1 29 "PassSearch$Items" "total" "I") (by decide +kernel)) (fun _ h9 => h9) rfl dX1_total_1 ?_
  exact hret _ _ _ _ _ hS (rfl) dX1_total_4
set_option maxHeartbeats 4000000 in
set_option maxRecDepth 100000 in
/-- groupCount -/
theorem c_X1_groupCount (l : Launch) (D : va_G) (cI cJ : ClassId) (h h1 h2 h3 h4 gc tt : Nat) (P F C O : Nat → Nat) : RO_i l yX1_groupCount wsX1_groupCount ({ frames := 0, cells := 0, slots := 0, locals := 0 } : Room) D [(h, .inr (2, [.ref h1, .ref h2, .ref h3, .ref h4, .int (nI gc), .int (nI tt)])), (h1, aJ cJ 512 P), (h2, aI cI 512 F), (h3, aI cI 512 C), (h4, aI cI 512 O)] [(cI, .int), (cJ, .long)] [.ref h] (fun v => v = nI gc) := by
  refine RO_i.of (cc := cX1_groupCount) (maxL := 1) (by decide) rfl (Nat.le_of_ble_eq_true rfl) ?_
  intro p e s m args below meth c ls A Q hx hb hml hts hown hA hP hK hl hret
  have hown : s.vm.findClass RX1 = some m.cls := hown
  have hl : lv_has ls 1 [(0, .ref h)] := hl
  have hS : va_S A s.heap s.heap [] := va_S.rf
  have hinX1 : ∀ w ∈ wsX10, w ∈ wsX1_groupCount := by decide +kernel
  refine lv_aload_n hx hb dX1_groupCount_0 rfl (lv_at hl 0 rfl) ?_
  refine va_get (D := D) (ci := 2) (v := .int (nI gc)) (C := RX1) (T := TX1) (N := 6) hx hb hts hinX1 hown hK hP 0 rfl rfl 4 (by decide) (hts (.fieldLink RX1 25 "PassSearch$Items" "groupCount" "I") (by decide +kernel)) (fun _ h9 => h9) rfl dX1_groupCount_1 ?_
  exact hret _ _ _ _ _ hS (rfl) dX1_groupCount_4
set_option maxHeartbeats 4000000 in
set_option maxRecDepth 100000 in
/-- hasGroup -/
theorem c_X1_hasGroup (l : Launch) (D : va_G) (cI cJ : ClassId) (h h1 h2 h3 h4 gc tt : Nat) (P F C O : Nat → Nat) (g : Nat) (hg : g < 2147483648) (hgc : gc < 2147483648) : RO_i l yX1_hasGroup wsX1_hasGroup ({ frames := 0, cells := 0, slots := 0, locals := 0 } : Room) D [(h, .inr (2, [.ref h1, .ref h2, .ref h3, .ref h4, .int (nI gc), .int (nI tt)])), (h1, aJ cJ 512 P), (h2, aI cI 512 F), (h3, aI cI 512 C), (h4, aI cI 512 O)] [(cI, .int), (cJ, .long)] [.ref h, .int (nI g)] (fun v => v = bI (g < gc)) := by
  refine RO_i.ofz (cc := cX1_hasGroup) (maxL := 2) (by decide) rfl (Nat.le_of_ble_eq_true rfl) ?_
  intro p e s m args below meth c ls A Q hx hb hml hts hown hA hP hK hl hret
  have hown : s.vm.findClass RX1 = some m.cls := hown
  have hl : lv_has ls 2 [(0, .ref h), (1, .int (nI g))] := hl
  have hS : va_S A s.heap s.heap [] := va_S.rf
  have hinX1 : ∀ w ∈ wsX10, w ∈ wsX1_hasGroup := by decide +kernel
  refine lv_iload_n hx hb dX1_hasGroup_0 rfl (lv_at hl 1 rfl) ?_
  refine zi_if_lt (tgt := 16) hx hb dX1_hasGroup_1 (by decide) (by omega) (fun c1 => ?_) (fun c1 => ?_)
  · exact False.elim (by omega)
  · refine lv_iload_n hx hb dX1_hasGroup_4 rfl (lv_at hl 1 rfl) ?_
    refine lv_aload_n hx hb dX1_hasGroup_5 rfl (lv_at hl 0 rfl) ?_
    refine va_get (D := D) (ci := 2) (v := .int (nI gc)) (C := RX1) (T := TX1) (N := 6) hx hb hts hinX1 hown hK hP 0 rfl rfl 4 (by decide) (hts (.fieldLink RX1 25 "PassSearch$Items" "groupCount" "I") (by decide +kernel)) (fun _ h9 => h9) rfl dX1_hasGroup_6 ?_
    refine zi_ge (tgt := 16) hx hb dX1_hasGroup_9 (by decide) (by omega) (by omega) (fun c9 => ?_) (fun c9 => ?_)
    · refine lv_iconst (v := nI 0) hx hb dX1_hasGroup_16 (by decide) ?_
      exact hret _ _ _ _ _ hS (Or.inl rfl) (bI_f' (by omega)) dX1_hasGroup_17
    · refine lv_iconst (v := nI 1) hx hb dX1_hasGroup_12 (by decide) ?_
      refine lv_goto (tgt := 17) hx hb dX1_hasGroup_13 (by decide) ?_
      exact hret _ _ _ _ _ hS (Or.inr rfl) (bI_t' c9) dX1_hasGroup_17
set_option maxHeartbeats 4000000 in
set_option maxRecDepth 100000 in
/-- pointOf -/
theorem c_X1_pointOf (l : Launch) (D : va_G) (cI cJ : ClassId) (h h1 h2 h3 h4 gc tt : Nat) (P F C O : Nat → Nat) (g : Nat) (hg : g < gc) (hgc : gc ≤ 512) : RO_l l yX1_pointOf wsX1_pointOf ({ frames := 1, cells := 0, slots := 0, locals := 21 } : Room) D [(h, .inr (2, [.ref h1, .ref h2, .ref h3, .ref h4, .int (nI gc), .int (nI tt)])), (h1, aJ cJ 512 P), (h2, aI cI 512 F), (h3, aI cI 512 C), (h4, aI cI 512 O)] [(cI, .int), (cJ, .long)] [.ref h, .int (nI g)] (fun v => v = lN (P g)) := by
  refine RO_l.of (cc := cX1_pointOf) (maxL := 2) (by decide) rfl (Nat.le_of_ble_eq_true rfl) ?_
  intro p e s m args below meth c ls A Q hx hb hml hts hown hA hP hK hl hret
  have hown : s.vm.findClass RX1 = some m.cls := hown
  have hl : lv_has ls 2 [(0, .ref h), (1, .int (nI g))] := hl
  have hS : va_S A s.heap s.heap [] := va_S.rf
  have hinX1 : ∀ w ∈ wsX10, w ∈ wsX1_pointOf := by decide +kernel
  refine lv_aload_n hx hb dX1_pointOf_0 rfl (lv_at hl 0 rfl) ?_
  refine lv_iload_n hx hb dX1_pointOf_1 rfl (lv_at hl 1 rfl) ?_
  refine RO_i.callV (rest := []) (c_X1_hasGroup l D cI cJ h h1 h2 h3 h4 gc tt P F C O g (by omega) (by omega)) ⟨hx, hb, hml, hown, hts⟩ (cwV 1 hts gX1_pointOf_X1_hasGroup rfl rfl rfl (by decide +kernel) ⟨Nat.le_of_ble_eq_true rfl, Nat.le_of_ble_eq_true rfl⟩) hK hP hS hA [0, 1, 2, 3, 4] [0, 1] rfl rfl 0 2 rfl rfl rfl rfl hl.1 rfl (Nat.le_of_ble_eq_true rfl) dX1_pointOf_2 ⟨Nat.zero_le _, Nat.zero_le _⟩ (fun v1_ H locs e1_ hP hS => ?_)
  obtain rfl : v1_ = bI (g < gc) := e1_
  refine zb_eq (tgt := 17) hx hb dX1_pointOf_5 (by decide) (fun c5 => ?_) (fun c5 => ?_)
  · exact False.elim (c5 hg)
  · refine lv_aload_n hx hb dX1_pointOf_8 rfl (lv_at hl 0 rfl) ?_
    refine va_get (D := D) (ci := 2) (v := .ref h1) (C := RX1) (T := TX1) (N := 6) hx hb hts hinX1 hown hK hP 0 rfl rfl 0 (by decide) (hts (.fieldLink RX1 9 "PassSearch$Items" "points" "[J") (by decide +kernel)) (fun _ h9 => h9) rfl dX1_pointOf_9 ?_
    refine lv_iload_n hx hb dX1_pointOf_12 rfl (lv_at hl 1 rfl) ?_
    refine zl_ald hx hb hK hP 1 1 rfl rfl (k := g) (by omega) (by omega) dX1_pointOf_13 ?_
    refine lv_goto (tgt := 18) hx hb dX1_pointOf_14 (by decide) ?_
    exact hret _ _ _ _ _ hS (rfl) dX1_pointOf_18
set_option maxHeartbeats 4000000 in
set_option maxRecDepth 100000 in
/-- countOf -/
theorem c_X1_countOf (l : Launch) (D : va_G) (cI cJ : ClassId) (h h1 h2 h3 h4 gc tt : Nat) (P F C O : Nat → Nat) (g : Nat) (hg : g < gc) (hgc : gc ≤ 512) : RO_i l yX1_countOf wsX1_countOf ({ frames := 1, cells := 0, slots := 0, locals := 21 } : Room) D [(h, .inr (2, [.ref h1, .ref h2, .ref h3, .ref h4, .int (nI gc), .int (nI tt)])), (h1, aJ cJ 512 P), (h2, aI cI 512 F), (h3, aI cI 512 C), (h4, aI cI 512 O)] [(cI, .int), (cJ, .long)] [.ref h, .int (nI g)] (fun v => v = nI (C g)) := by
  refine RO_i.of (cc := cX1_countOf) (maxL := 2) (by decide) rfl (Nat.le_of_ble_eq_true rfl) ?_
  intro p e s m args below meth c ls A Q hx hb hml hts hown hA hP hK hl hret
  have hown : s.vm.findClass RX1 = some m.cls := hown
  have hl : lv_has ls 2 [(0, .ref h), (1, .int (nI g))] := hl
  have hS : va_S A s.heap s.heap [] := va_S.rf
  have hinX1 : ∀ w ∈ wsX10, w ∈ wsX1_countOf := by decide +kernel
  refine lv_aload_n hx hb dX1_countOf_0 rfl (lv_at hl 0 rfl) ?_
  refine lv_iload_n hx hb dX1_countOf_1 rfl (lv_at hl 1 rfl) ?_
  refine RO_i.callV (rest := []) (c_X1_hasGroup l D cI cJ h h1 h2 h3 h4 gc tt P F C O g (by omega) (by omega)) ⟨hx, hb, hml, hown, hts⟩ (cwV 1 hts gX1_countOf_X1_hasGroup rfl rfl rfl (by decide +kernel) ⟨Nat.le_of_ble_eq_true rfl, Nat.le_of_ble_eq_true rfl⟩) hK hP hS hA [0, 1, 2, 3, 4] [0, 1] rfl rfl 0 2 rfl rfl rfl rfl hl.1 rfl (Nat.le_of_ble_eq_true rfl) dX1_countOf_2 ⟨Nat.zero_le _, Nat.zero_le _⟩ (fun v1_ H locs e1_ hP hS => ?_)
  obtain rfl : v1_ = bI (g < gc) := e1_
  refine zb_eq (tgt := 17) hx hb dX1_countOf_5 (by decide) (fun c5 => ?_) (fun c5 => ?_)
  · exact False.elim (c5 hg)
  · refine lv_aload_n hx hb dX1_countOf_8 rfl (lv_at hl 0 rfl) ?_
    refine va_get (D := D) (ci := 2) (v := .ref h3) (C := RX1) (T := TX1) (N := 6) hx hb hts hinX1 hown hK hP 0 rfl rfl 2 (by decide) (hts (.fieldLink RX1 19 "PassSearch$Items" "counts" "[I") (by decide +kernel)) (fun _ h9 => h9) rfl dX1_countOf_9 ?_
    refine lv_iload_n hx hb dX1_countOf_12 rfl (lv_at hl 1 rfl) ?_
    refine zi_ald hx hb hK hP 3 0 rfl rfl (k := g) (by omega) (by omega) dX1_countOf_13 ?_
    refine lv_goto (tgt := 18) hx hb dX1_countOf_14 (by decide) ?_
    exact hret _ _ _ _ _ hS (rfl) dX1_countOf_18
set_option maxHeartbeats 4000000 in
set_option maxRecDepth 100000 in
/-- hasRoom -/
theorem c_X1_hasRoom (l : Launch) (D : va_G) (cI cJ : ClassId) (h h1 h2 h3 h4 gc tt : Nat) (P F C O : Nat → Nat) (n : Nat) (hn : n ≤ 1000) (ht : tt ≤ 4000) (hgc : gc ≤ 512) : RO_i l yX1_hasRoom wsX1_hasRoom ({ frames := 0, cells := 0, slots := 0, locals := 0 } : Room) D [(h, .inr (2, [.ref h1, .ref h2, .ref h3, .ref h4, .int (nI gc), .int (nI tt)])), (h1, aJ cJ 512 P), (h2, aI cI 512 F), (h3, aI cI 512 C), (h4, aI cI 512 O)] [(cI, .int), (cJ, .long)] [.ref h, .int (nI n)] (fun v => v = bI (tt + n ≤ 4000 ∧ (n = 0 ∨ gc < 512))) := by
  refine RO_i.ofz (cc := cX1_hasRoom) (maxL := 2) (by decide) rfl (Nat.le_of_ble_eq_true rfl) ?_
  intro p e s m args below meth c ls A Q hx hb hml hts hown hA hP hK hl hret
  have hown : s.vm.findClass RX1 = some m.cls := hown
  have hl : lv_has ls 2 [(0, .ref h), (1, .int (nI n))] := hl
  have hS : va_S A s.heap s.heap [] := va_S.rf
  have hinX1 : ∀ w ∈ wsX10, w ∈ wsX1_hasRoom := by decide +kernel
  refine lv_aload_n hx hb dX1_hasRoom_0 rfl (lv_at hl 0 rfl) ?_
  refine va_get (D := D) (ci := 2) (v := .int (nI tt)) (C := RX1) (T := TX1) (N := 6) hx hb hts hinX1 hown hK hP 0 rfl rfl 5 (by decide) (hts (.fieldLink RX1 29 "PassSearch$Items" "total" "I") (by decide +kernel)) (fun _ h9 => h9) rfl dX1_hasRoom_1 ?_
  refine lv_iload_n hx hb dX1_hasRoom_4 rfl (lv_at hl 1 rfl) ?_
  refine zi_add hx hb dX1_hasRoom_5  ?_
  refine lv_sipush (v := nI 4000) hx hb dX1_hasRoom_6 (by decide) ?_
  refine zi_gt (tgt := 30) hx hb dX1_hasRoom_9 (by decide) (by omega) (by omega) (fun c9 => ?_) (fun c9 => ?_)
  · refine lv_iconst (v := nI 0) hx hb dX1_hasRoom_30 (by decide) ?_
    exact hret _ _ _ _ _ hS (Or.inl rfl) (bI_f' (by omega)) dX1_hasRoom_31
  · refine lv_iload_n hx hb dX1_hasRoom_12 rfl (lv_at hl 1 rfl) ?_
    refine zi_if_eq (tgt := 26) hx hb dX1_hasRoom_13 (by decide) (by omega) (fun c13 => ?_) (fun c13 => ?_)
    · refine lv_iconst (v := nI 1) hx hb dX1_hasRoom_26 (by decide) ?_
      refine lv_goto (tgt := 31) hx hb dX1_hasRoom_27 (by decide) ?_
      exact hret _ _ _ _ _ hS (Or.inr rfl) (bI_t' (by omega)) dX1_hasRoom_31
    · refine lv_aload_n hx hb dX1_hasRoom_16 rfl (lv_at hl 0 rfl) ?_
      refine va_get (D := D) (ci := 2) (v := .int (nI gc)) (C := RX1) (T := TX1) (N := 6) hx hb hts hinX1 hown hK hP 0 rfl rfl 4 (by decide) (hts (.fieldLink RX1 25 "PassSearch$Items" "groupCount" "I") (by decide +kernel)) (fun _ h9 => h9) rfl dX1_hasRoom_17 ?_
      refine lv_sipush (v := nI 512) hx hb dX1_hasRoom_20 (by decide) ?_
      refine zi_ge (tgt := 30) hx hb dX1_hasRoom_23 (by decide) (by omega) (by omega) (fun c23 => ?_) (fun c23 => ?_)
      · refine lv_iconst (v := nI 0) hx hb dX1_hasRoom_30 (by decide) ?_
        exact hret _ _ _ _ _ hS (Or.inl rfl) (bI_f' (by omega)) dX1_hasRoom_31
      · refine lv_iconst (v := nI 1) hx hb dX1_hasRoom_26 (by decide) ?_
        refine lv_goto (tgt := 31) hx hb dX1_hasRoom_27 (by decide) ?_
        exact hret _ _ _ _ _ hS (Or.inr rfl) (bI_t' (by omega)) dX1_hasRoom_31
set_option maxHeartbeats 4000000 in
set_option maxRecDepth 100000 in
/-- groupOf -/
theorem c_X1_groupOf (l : Launch) (D : va_G) (cI cJ : ClassId) (h h1 h2 h3 h4 gc tt : Nat) (P F C O : Nat → Nat) (x : Nat) (hit : itOK gc tt P F C) (hx1 : x < tt) : RO_i l yX1_groupOf wsX1_groupOf ({ frames := 0, cells := 0, slots := 0, locals := 0 } : Room) D [(h, .inr (2, [.ref h1, .ref h2, .ref h3, .ref h4, .int (nI gc), .int (nI tt)])), (h1, aJ cJ 512 P), (h2, aI cI 512 F), (h3, aI cI 512 C), (h4, aI cI 512 O)] [(cI, .int), (cJ, .long)] [.ref h, .int (nI x)] (fun v => ∃ ow, v = nI ow ∧ ow < gc ∧ F ow ≤ x ∧ x < F ow + C ow) := by
  refine RO_i.of (cc := cX1_groupOf) (maxL := 3) (by decide) rfl (Nat.le_of_ble_eq_true rfl) ?_
  intro p e s m args below meth c ls A Q hx hb hml hts hown hA hP hK hl hret
  have hown : s.vm.findClass RX1 = some m.cls := hown
  have hl : lv_has ls 3 [(0, .ref h), (1, .int (nI x))] := hl
  have hS : va_S A s.heap s.heap [] := va_S.rf
  have hinX1 : ∀ w ∈ wsX10, w ∈ wsX1_groupOf := by decide +kernel
  have hgc := hit.1
  have htt := hit.2.1
  have hg1 : 1 ≤ gc := by
    rcases Nat.eq_zero_or_pos gc with q | q
    · have := hit.2.2.1; rw [q] at this; simp only [sumN] at this; omega
    · exact q
  refine lv_aload_n hx hb dX1_groupOf_0 rfl (lv_at hl 0 rfl) ?_
  refine va_get (D := D) (ci := 2) (v := .int (nI gc)) (C := RX1) (T := TX1) (N := 6) hx hb hts hinX1 hown hK hP 0 rfl rfl 4 (by decide) (hts (.fieldLink RX1 25 "PassSearch$Items" "groupCount" "I") (by decide +kernel)) (fun _ h9 => h9) rfl dX1_groupOf_1 ?_
  refine lv_iconst (v := nI 1) hx hb dX1_groupOf_4 (by decide) ?_
  refine zi_sub hx hb dX1_groupOf_5 (by omega) ?_
  refine lv_istore_n (lv' := [(2, .int (nI (gc - 1))), (0, .ref h), (1, .int (nI x))]) hx hb dX1_groupOf_6 rfl hl (by decide) rfl (fun ls hl => ?_)
  have L7 : ∀ (nf : Nat) (g : Nat), (g < gc) → (x < F g + C g) → g < nf → ∀ (H : Heap) (locs : List Loc) (ls : Array Slot), va_P D vwCl [(h, .inr (2, [.ref h1, .ref h2, .ref h3, .ref h4, .int (nI gc), .int (nI tt)])), (h1, aJ cJ 512 P), (h2, aI cI 512 F), (h3, aI cI 512 C), (h4, aI cI 512 O)] H → va_S A s.heap H locs → lv_has ls 3 [(2, .int (nI g)), (0, .ref h), (1, .int (nI x))] → W p l e ({ frames := 0, cells := 0, slots := 0, locals := 0 } : Room) s m args below meth c H locs 0 0 Q (F0 m 7 ls []) := by
    intro nf
    induction nf with
    | zero => intro g i1 i2 hm; exact absurd hm (Nat.not_lt_zero _)
    | succ nf ih7 =>
      intro g i1 i2 hm7 H locs ls hP hS hl
      refine lv_iload_n hx hb dX1_groupOf_7 rfl (lv_at hl 0 rfl) ?_
      refine zi_if_le (tgt := 27) hx hb dX1_groupOf_8 (by decide) (by omega) (fun c8 => ?_) (fun c8 => ?_)
      · refine lv_iload_n hx hb dX1_groupOf_27 rfl (lv_at hl 0 rfl) ?_
        exact hret _ _ _ _ _ hS (⟨g, rfl, i1, by rw [c8, (hit.2.2.2 0 (by omega)).1]; exact Nat.zero_le _, i2⟩) dX1_groupOf_28
      · have hFg := it_le hit i1
        refine lv_aload_n hx hb dX1_groupOf_11 rfl (lv_at hl 1 rfl) ?_
        refine va_get (D := D) (ci := 2) (v := .ref h2) (C := RX1) (T := TX1) (N := 6) hx hb hts hinX1 hown hK hP 0 rfl rfl 1 (by decide) (hts (.fieldLink RX1 15 "PassSearch$Items" "firsts" "[I") (by decide +kernel)) (fun _ h9 => h9) rfl dX1_groupOf_12 ?_
        refine lv_iload_n hx hb dX1_groupOf_15 rfl (lv_at hl 0 rfl) ?_
        refine zi_ald hx hb hK hP 2 0 rfl rfl (k := g) (by omega) (by omega) dX1_groupOf_16 ?_
        refine lv_iload_n hx hb dX1_groupOf_17 rfl (lv_at hl 2 rfl) ?_
        refine zi_le (tgt := 27) hx hb dX1_groupOf_18 (by decide) (by omega) (by omega) (fun c18 => ?_) (fun c18 => ?_)
        · refine lv_iload_n hx hb dX1_groupOf_27 rfl (lv_at hl 0 rfl) ?_
          exact hret _ _ _ _ _ hS (⟨g, rfl, i1, c18, i2⟩) dX1_groupOf_28
        · refine lv_iinc (v := nI (g - 1)) (lv' := [(2, .int (nI (g - 1))), (0, .ref h), (1, .int (nI x))]) hx hb dX1_groupOf_21 hl (k := 0) rfl (by rw [show Int32.ofInt (-1) = -nI 1 by decide, ← Int32.sub_eq_add_neg, pk_sub (by omega)]) (by decide) rfl (fun ls hl => ?_)
          refine lv_goto (tgt := 7) hx hb dX1_groupOf_24 (by decide) ?_
          exact ih7 (g - 1) (by omega) (by rw [← it_next hit (g := g - 1) (by omega), show g - 1 + 1 = g by omega]; exact c18) (by omega) _ _ _ hP hS (lv_sub hl [0, 1, 2] rfl)
  exact L7 _ (gc - 1) (by omega) (by rw [← it_last hit (by omega)]; exact hx1) (Nat.lt_succ_self _) _ _ _ hP hS (lv_sub hl [0, 1, 2] rfl)
set_option maxHeartbeats 4000000 in
set_option maxRecDepth 100000 in
/-- putSorted -/
theorem c_X1_putSorted (l : Launch) (D : va_G) (cI cJ : ClassId) (h h1 h2 h3 h4 gc tt : Nat) (P F C O : Nat → Nat) (g : Nat) (hg : g < 512) (hO : ∀ i, i < g → O i < g) (hP1 : ∀ i, i ≤ g → P i < 4611686018427387904) : WR_v l yX1_putSorted wsX1_putSorted ({ frames := 0, cells := 0, slots := 0, locals := 0 } : Room) D [(h, .inr (2, [.ref h1, .ref h2, .ref h3, .ref h4, .int (nI gc), .int (nI tt)])), (h1, aJ cJ 512 P), (h2, aI cI 512 F), (h3, aI cI 512 C), (h4, aI cI 512 O)] [(cI, .int), (cJ, .long)] [.ref h, .int (nI g)] (fun (u : Nat → Nat) => [(h, .inr (2, [.ref h1, .ref h2, .ref h3, .ref h4, .int (nI gc), .int (nI tt)])), (h1, aJ cJ 512 P), (h2, aI cI 512 F), (h3, aI cI 512 C), (h4, aI cI 512 u)]) (fun u => ∃ kp, isIns P O g (P g) kp u) 0 0 := by
  refine WR_v.of (cc := cX1_putSorted) (maxL := 3) (by decide) rfl (Nat.le_of_ble_eq_true rfl) ?_
  intro p e s m args below meth c ls A Q hx hb hml hts hown hA hP hD hK hl hin hret
  have hown : s.vm.findClass RX1 = some m.cls := hown
  have hl : lv_has ls 3 [(0, .ref h), (1, .int (nI g))] := hl
  have hS : va_S A s.heap s.heap [] := va_S.rf
  have hinX1 : ∀ w ∈ wsX10, w ∈ wsX1_putSorted := by decide +kernel
  refine lv_iload_n hx hb dX1_putSorted_0 rfl (lv_at hl 1 rfl) ?_
  refine lv_istore_n (lv' := [(2, .int (nI g)), (0, .ref h), (1, .int (nI g))]) hx hb dX1_putSorted_1 rfl hl (by decide) rfl (fun ls hl => ?_)
  have L2 : ∀ (nf : Nat) (k : Nat) (N : Nat → Nat), (k ≤ g) → (∀ i, i < k → N i = O i) → (∀ i, k < i → i ≤ g → N i = O (i - 1)) → (∀ i, k ≤ i → i < g → P g < P (O i)) → k < nf → ∀ (H : Heap) (locs : List Loc) (ls : Array Slot), va_P D vwCl [(h, .inr (2, [.ref h1, .ref h2, .ref h3, .ref h4, .int (nI gc), .int (nI tt)])), (h1, aJ cJ 512 P), (h2, aI cI 512 F), (h3, aI cI 512 C), (h4, aI cI 512 N)] H → va_D A [(h, .inr (2, [.ref h1, .ref h2, .ref h3, .ref h4, .int (nI gc), .int (nI tt)])), (h1, aJ cJ 512 P), (h2, aI cI 512 F), (h3, aI cI 512 C), (h4, aI cI 512 N)] → va_S A s.heap H locs → lv_has ls 3 [(2, .int (nI k)), (0, .ref h), (1, .int (nI g))] → W p l e ({ frames := 0, cells := 0, slots := 0, locals := 0 } : Room) s m args below meth c H locs 0 0 Q (F0 m 2 ls []) := by
    intro nf
    induction nf with
    | zero => intro k N i1 i2 i3 i4 hm; exact absurd hm (Nat.not_lt_zero _)
    | succ nf ih2 =>
      intro k N i1 i2 i3 i4 hm2 H locs ls hP hD hS hl
      refine lv_iload_n hx hb dX1_putSorted_2 rfl (lv_at hl 0 rfl) ?_
      refine zi_if_le (tgt := 49) hx hb dX1_putSorted_3 (by decide) (by omega) (fun c3 => ?_) (fun c3 => ?_)
      · refine lv_aload_n hx hb dX1_putSorted_49 rfl (lv_at hl 1 rfl) ?_
        refine va_get (D := D) (ci := 2) (v := .ref h4) (C := RX1) (T := TX1) (N := 6) hx hb hts hinX1 hown hK hP 0 rfl rfl 3 (by decide) (hts (.fieldLink RX1 22 "PassSearch$Items" "sorted" "[I") (by decide +kernel)) (fun _ h9 => h9) rfl dX1_putSorted_50 ?_
        refine lv_iload_n hx hb dX1_putSorted_53 rfl (lv_at hl 0 rfl) ?_
        refine lv_iload_n hx hb dX1_putSorted_54 rfl (lv_at hl 2 rfl) ?_
        refine zi_ast hx hb hK hP hD hS 4 0 rfl rfl (k := k) (x := g) (by omega) (by omega) dX1_putSorted_55 (fun H locs hP hD hS => ?_)
        have hP : va_P D vwCl [(h, .inr (2, [.ref h1, .ref h2, .ref h3, .ref h4, .int (nI gc), .int (nI tt)])), (h1, aJ cJ 512 P), (h2, aI cI 512 F), (h3, aI cI 512 C), (h4, aI cI 512 (uF N k g))] H := hP
        have hD : va_D A [(h, .inr (2, [.ref h1, .ref h2, .ref h3, .ref h4, .int (nI gc), .int (nI tt)])), (h1, aJ cJ 512 P), (h2, aI cI 512 F), (h3, aI cI 512 C), (h4, aI cI 512 (uF N k g))] := hD
        exact hret (uF N k g) _ _ _ _ hP hD hS (⟨k, i1, fun i hi => by rw [uF_n (by omega)]; exact i2 i hi, uF_s, fun i h1 h2 => by rw [uF_n (by omega)]; exact i3 i h1 h2, i4, Or.inl c3⟩) dX1_putSorted_56
      · have hOk := hO (k - 1) (by omega)
        have hPo := hP1 (O (k - 1)) (by omega)
        have hPg := hP1 g (Nat.le_refl _)
        refine lv_aload_n hx hb dX1_putSorted_6 rfl (lv_at hl 1 rfl) ?_
        refine va_get (D := D) (ci := 2) (v := .ref h1) (C := RX1) (T := TX1) (N := 6) hx hb hts hinX1 hown hK hP 0 rfl rfl 0 (by decide) (hts (.fieldLink RX1 9 "PassSearch$Items" "points" "[J") (by decide +kernel)) (fun _ h9 => h9) rfl dX1_putSorted_7 ?_
        refine lv_aload_n hx hb dX1_putSorted_10 rfl (lv_at hl 1 rfl) ?_
        refine va_get (D := D) (ci := 2) (v := .ref h4) (C := RX1) (T := TX1) (N := 6) hx hb hts hinX1 hown hK hP 0 rfl rfl 3 (by decide) (hts (.fieldLink RX1 22 "PassSearch$Items" "sorted" "[I") (by decide +kernel)) (fun _ h9 => h9) rfl dX1_putSorted_11 ?_
        refine lv_iload_n hx hb dX1_putSorted_14 rfl (lv_at hl 0 rfl) ?_
        refine lv_iconst (v := nI 1) hx hb dX1_putSorted_15 (by decide) ?_
        refine zi_sub hx hb dX1_putSorted_16 (by omega) ?_
        refine zi_ald hx hb hK hP 4 0 rfl rfl (k := k - 1) (by omega) (by omega) dX1_putSorted_17 ?_
        refine lv_topi (fun v1_ e1_ => ?_)
        obtain rfl : v1_ = nI (O (k - 1)) := e1_.trans (congrArg nI (i2 (k - 1) (by omega)))
        refine zl_ald hx hb hK hP 1 1 rfl rfl (k := O (k - 1)) (by omega) (by omega) dX1_putSorted_18 ?_
        refine lv_aload_n hx hb dX1_putSorted_19 rfl (lv_at hl 1 rfl) ?_
        refine va_get (D := D) (ci := 2) (v := .ref h1) (C := RX1) (T := TX1) (N := 6) hx hb hts hinX1 hown hK hP 0 rfl rfl 0 (by decide) (hts (.fieldLink RX1 9 "PassSearch$Items" "points" "[J") (by decide +kernel)) (fun _ h9 => h9) rfl dX1_putSorted_20 ?_
        refine lv_iload_n hx hb dX1_putSorted_23 rfl (lv_at hl 2 rfl) ?_
        refine zl_ald hx hb hK hP 1 1 rfl rfl (k := g) (by omega) (by omega) dX1_putSorted_24 ?_
        refine zl_le (tgt := 49) hx hb dX1_putSorted_25 dX1_putSorted_26 (by decide) (by omega) (by omega) (fun c25 => ?_) (fun c25 => ?_)
        · refine lv_aload_n hx hb dX1_putSorted_49 rfl (lv_at hl 1 rfl) ?_
          refine va_get (D := D) (ci := 2) (v := .ref h4) (C := RX1) (T := TX1) (N := 6) hx hb hts hinX1 hown hK hP 0 rfl rfl 3 (by decide) (hts (.fieldLink RX1 22 "PassSearch$Items" "sorted" "[I") (by decide +kernel)) (fun _ h9 => h9) rfl dX1_putSorted_50 ?_
          refine lv_iload_n hx hb dX1_putSorted_53 rfl (lv_at hl 0 rfl) ?_
          refine lv_iload_n hx hb dX1_putSorted_54 rfl (lv_at hl 2 rfl) ?_
          refine zi_ast hx hb hK hP hD hS 4 0 rfl rfl (k := k) (x := g) (by omega) (by omega) dX1_putSorted_55 (fun H locs hP hD hS => ?_)
          have hP : va_P D vwCl [(h, .inr (2, [.ref h1, .ref h2, .ref h3, .ref h4, .int (nI gc), .int (nI tt)])), (h1, aJ cJ 512 P), (h2, aI cI 512 F), (h3, aI cI 512 C), (h4, aI cI 512 (uF N k g))] H := hP
          have hD : va_D A [(h, .inr (2, [.ref h1, .ref h2, .ref h3, .ref h4, .int (nI gc), .int (nI tt)])), (h1, aJ cJ 512 P), (h2, aI cI 512 F), (h3, aI cI 512 C), (h4, aI cI 512 (uF N k g))] := hD
          exact hret (uF N k g) _ _ _ _ hP hD hS (⟨k, i1, fun i hi => by rw [uF_n (by omega)]; exact i2 i hi, uF_s, fun i h1 h2 => by rw [uF_n (by omega)]; exact i3 i h1 h2, i4, Or.inr c25⟩) dX1_putSorted_56
        · refine lv_aload_n hx hb dX1_putSorted_29 rfl (lv_at hl 1 rfl) ?_
          refine va_get (D := D) (ci := 2) (v := .ref h4) (C := RX1) (T := TX1) (N := 6) hx hb hts hinX1 hown hK hP 0 rfl rfl 3 (by decide) (hts (.fieldLink RX1 22 "PassSearch$Items" "sorted" "[I") (by decide +kernel)) (fun _ h9 => h9) rfl dX1_putSorted_30 ?_
          refine lv_iload_n hx hb dX1_putSorted_33 rfl (lv_at hl 0 rfl) ?_
          refine lv_aload_n hx hb dX1_putSorted_34 rfl (lv_at hl 1 rfl) ?_
          refine va_get (D := D) (ci := 2) (v := .ref h4) (C := RX1) (T := TX1) (N := 6) hx hb hts hinX1 hown hK hP 0 rfl rfl 3 (by decide) (hts (.fieldLink RX1 22 "PassSearch$Items" "sorted" "[I") (by decide +kernel)) (fun _ h9 => h9) rfl dX1_putSorted_35 ?_
          refine lv_iload_n hx hb dX1_putSorted_38 rfl (lv_at hl 0 rfl) ?_
          refine lv_iconst (v := nI 1) hx hb dX1_putSorted_39 (by decide) ?_
          refine zi_sub hx hb dX1_putSorted_40 (by omega) ?_
          refine zi_ald hx hb hK hP 4 0 rfl rfl (k := k - 1) (by omega) (by omega) dX1_putSorted_41 ?_
          refine lv_topi (fun v2_ e2_ => ?_)
          obtain rfl : v2_ = nI (O (k - 1)) := e2_.trans (congrArg nI (i2 (k - 1) (by omega)))
          refine zi_ast hx hb hK hP hD hS 4 0 rfl rfl (k := k) (x := O (k - 1)) (by omega) (by omega) dX1_putSorted_42 (fun H locs hP hD hS => ?_)
          have hP : va_P D vwCl [(h, .inr (2, [.ref h1, .ref h2, .ref h3, .ref h4, .int (nI gc), .int (nI tt)])), (h1, aJ cJ 512 P), (h2, aI cI 512 F), (h3, aI cI 512 C), (h4, aI cI 512 (uF N k (O (k - 1))))] H := hP
          have hD : va_D A [(h, .inr (2, [.ref h1, .ref h2, .ref h3, .ref h4, .int (nI gc), .int (nI tt)])), (h1, aJ cJ 512 P), (h2, aI cI 512 F), (h3, aI cI 512 C), (h4, aI cI 512 (uF N k (O (k - 1))))] := hD
          refine lv_iinc (v := nI (k - 1)) (lv' := [(2, .int (nI (k - 1))), (0, .ref h), (1, .int (nI g))]) hx hb dX1_putSorted_43 hl (k := 0) rfl (by rw [show Int32.ofInt (-1) = -nI 1 by decide, ← Int32.sub_eq_add_neg, pk_sub (by omega)]) (by decide) rfl (fun ls hl => ?_)
          refine lv_goto (tgt := 2) hx hb dX1_putSorted_46 (by decide) ?_
          exact ih2 (k - 1) (uF N k (O (k - 1))) (by omega) (fun i hi => by rw [uF_n (by omega)]; exact i2 i (by omega)) (fun i h1 h2 => if hq : i = k then by rw [hq, uF_s] else by rw [uF_n hq]; exact i3 i (by omega) h2) (fun i h1 h2 => if hq : i = k - 1 then by rw [hq]; exact c25 else i4 i (by omega) h2) (by omega) _ _ _ hP hD hS (lv_sub hl [0, 1, 2] rfl)
  exact L2 _ g O (by omega) (fun i hi => rfl) (fun i h1 h2 => by omega) (fun i h1 h2 => by omega) (Nat.lt_succ_self _) _ _ _ hP hD hS (lv_sub hl [0, 1, 2] rfl)
set_option maxHeartbeats 4000000 in
set_option maxRecDepth 100000 in
/-- add -/
theorem c_X1_add (l : Launch) (D : va_G) (cI cJ : ClassId) (h h1 h2 h3 h4 gc tt : Nat) (P F C O : Nat → Nat) (a n : Nat) (hit : itOK gc tt P F C) (hord : ordOK gc tt P C O) (hg : gc < 512) (hn : n ≤ 1000) (ht : tt + n ≤ 4000) (ha : a < 4611686018427387904) : WR_v l yX1_add wsX1_add ({ frames := 1, cells := 0, slots := 0, locals := 22 } : Room) D [(h, .inr (2, [.ref h1, .ref h2, .ref h3, .ref h4, .int (nI gc), .int (nI tt)])), (h1, aJ cJ 512 P), (h2, aI cI 512 F), (h3, aI cI 512 C), (h4, aI cI 512 O)] [(cI, .int), (cJ, .long)] [.ref h, .long (lN a), .int (nI n)] (fun (u : Nat × Nat × (Nat → Nat) × (Nat → Nat) × (Nat → Nat) × (Nat → Nat)) => [(h, .inr (2, [.ref h1, .ref h2, .ref h3, .ref h4, .int (nI u.1), .int (nI u.2.1)])), (h1, aJ cJ 512 u.2.2.1), (h2, aI cI 512 u.2.2.2.1), (h3, aI cI 512 u.2.2.2.2.1), (h4, aI cI 512 u.2.2.2.2.2)]) (fun u => (n = 0 → u = (gc, tt, P, F, C, O)) ∧ (1 ≤ n → ∃ kp O2, isIns P O gc a kp O2 ∧ u = (gc + 1, tt + n, uF P gc a, uF F gc tt, uF C gc n, O2))) 0 0 := by
  refine WR_v.of (cc := cX1_add) (maxL := 4) (by decide) rfl (Nat.le_of_ble_eq_true rfl) ?_
  intro p e s m args below meth c ls A Q hx hb hml hts hown hA hP hD hK hl hin hret
  have hown : s.vm.findClass RX1 = some m.cls := hown
  have hl : lv_has ls 4 [(0, .ref h), (1, .long (lN a)), (3, .int (nI n))] := hl
  have hS : va_S A s.heap s.heap [] := va_S.rf
  have hinX1 : ∀ w ∈ wsX10, w ∈ wsX1_add := by decide +kernel
  refine lv_iload_n hx hb dX1_add_0 rfl (lv_at hl 2 rfl) ?_
  refine lv_iconst (v := nI 1) hx hb dX1_add_1 (by decide) ?_
  refine zi_lt (tgt := 13) hx hb dX1_add_2 (by decide) (by omega) (by omega) (fun c2 => ?_) (fun c2 => ?_)
  · exact hret ((gc, tt, P, F, C, O)) _ _ _ _ hP hD hS (⟨fun _ => rfl, fun h => by omega⟩) dX1_add_13
  · refine lv_aload_n hx hb dX1_add_5 rfl (lv_at hl 0 rfl) ?_
    refine lv_iload_n hx hb dX1_add_6 rfl (lv_at hl 2 rfl) ?_
    refine RO_i.callV (rest := []) (c_X1_hasRoom l D cI cJ h h1 h2 h3 h4 gc tt P F C O n hn (by omega) (by omega)) ⟨hx, hb, hml, hown, hts⟩ (cwV 1 hts gX1_add_X1_hasRoom rfl rfl rfl (by decide +kernel) ⟨Nat.le_of_ble_eq_true rfl, Nat.le_of_ble_eq_true rfl⟩) hK hP hS hA [0, 1, 2, 3, 4] [0, 1] rfl rfl 0 2 rfl rfl rfl rfl hl.1 rfl (Nat.le_of_ble_eq_true rfl) dX1_add_7 ⟨Nat.zero_le _, Nat.zero_le _⟩ (fun v1_ H locs e1_ hP hS => ?_)
    obtain rfl : v1_ = bI (tt + n ≤ 4000 ∧ (n = 0 ∨ gc < 512)) := e1_
    refine zb_ne (tgt := 14) hx hb dX1_add_10 (by decide) (fun c10 => ?_) (fun c10 => ?_)
    · refine lv_aload_n hx hb dX1_add_14 rfl (lv_at hl 0 rfl) ?_
      refine va_get (D := D) (ci := 2) (v := .ref h1) (C := RX1) (T := TX1) (N := 6) hx hb hts hinX1 hown hK hP 0 rfl rfl 0 (by decide) (hts (.fieldLink RX1 9 "PassSearch$Items" "points" "[J") (by decide +kernel)) (fun _ h9 => h9) rfl dX1_add_15 ?_
      refine lv_aload_n hx hb dX1_add_18 rfl (lv_at hl 0 rfl) ?_
      refine va_get (D := D) (ci := 2) (v := .int (nI gc)) (C := RX1) (T := TX1) (N := 6) hx hb hts hinX1 hown hK hP 0 rfl rfl 4 (by decide) (hts (.fieldLink RX1 25 "PassSearch$Items" "groupCount" "I") (by decide +kernel)) (fun _ h9 => h9) rfl dX1_add_19 ?_
      refine lv_lload_n hx hb dX1_add_22 rfl (lv_at hl 1 rfl) ?_
      refine zl_ast hx hb hK hP hD hS 1 1 rfl rfl (k := gc) (x := a) (by omega) (by omega) dX1_add_23 (fun H locs hP hD hS => ?_)
      have hP : va_P D vwCl [(h, .inr (2, [.ref h1, .ref h2, .ref h3, .ref h4, .int (nI gc), .int (nI tt)])), (h1, aJ cJ 512 (uF P gc a)), (h2, aI cI 512 F), (h3, aI cI 512 C), (h4, aI cI 512 O)] H := hP
      have hD : va_D A [(h, .inr (2, [.ref h1, .ref h2, .ref h3, .ref h4, .int (nI gc), .int (nI tt)])), (h1, aJ cJ 512 (uF P gc a)), (h2, aI cI 512 F), (h3, aI cI 512 C), (h4, aI cI 512 O)] := hD
      refine lv_aload_n hx hb dX1_add_24 rfl (lv_at hl 0 rfl) ?_
      refine va_get (D := D) (ci := 2) (v := .ref h2) (C := RX1) (T := TX1) (N := 6) hx hb hts hinX1 hown hK hP 0 rfl rfl 1 (by decide) (hts (.fieldLink RX1 15 "PassSearch$Items" "firsts" "[I") (by decide +kernel)) (fun _ h9 => h9) rfl dX1_add_25 ?_
      refine lv_aload_n hx hb dX1_add_28 rfl (lv_at hl 0 rfl) ?_
      refine va_get (D := D) (ci := 2) (v := .int (nI gc)) (C := RX1) (T := TX1) (N := 6) hx hb hts hinX1 hown hK hP 0 rfl rfl 4 (by decide) (hts (.fieldLink RX1 25 "PassSearch$Items" "groupCount" "I") (by decide +kernel)) (fun _ h9 => h9) rfl dX1_add_29 ?_
      refine lv_aload_n hx hb dX1_add_32 rfl (lv_at hl 0 rfl) ?_
      refine va_get (D := D) (ci := 2) (v := .int (nI tt)) (C := RX1) (T := TX1) (N := 6) hx hb hts hinX1 hown hK hP 0 rfl rfl 5 (by decide) (hts (.fieldLink RX1 29 "PassSearch$Items" "total" "I") (by decide +kernel)) (fun _ h9 => h9) rfl dX1_add_33 ?_
      refine zi_ast hx hb hK hP hD hS 2 0 rfl rfl (k := gc) (x := tt) (by omega) (by omega) dX1_add_36 (fun H locs hP hD hS => ?_)
      have hP : va_P D vwCl [(h, .inr (2, [.ref h1, .ref h2, .ref h3, .ref h4, .int (nI gc), .int (nI tt)])), (h1, aJ cJ 512 (uF P gc a)), (h2, aI cI 512 (uF F gc tt)), (h3, aI cI 512 C), (h4, aI cI 512 O)] H := hP
      have hD : va_D A [(h, .inr (2, [.ref h1, .ref h2, .ref h3, .ref h4, .int (nI gc), .int (nI tt)])), (h1, aJ cJ 512 (uF P gc a)), (h2, aI cI 512 (uF F gc tt)), (h3, aI cI 512 C), (h4, aI cI 512 O)] := hD
      refine lv_aload_n hx hb dX1_add_37 rfl (lv_at hl 0 rfl) ?_
      refine va_get (D := D) (ci := 2) (v := .ref h3) (C := RX1) (T := TX1) (N := 6) hx hb hts hinX1 hown hK hP 0 rfl rfl 2 (by decide) (hts (.fieldLink RX1 19 "PassSearch$Items" "counts" "[I") (by decide +kernel)) (fun _ h9 => h9) rfl dX1_add_38 ?_
      refine lv_aload_n hx hb dX1_add_41 rfl (lv_at hl 0 rfl) ?_
      refine va_get (D := D) (ci := 2) (v := .int (nI gc)) (C := RX1) (T := TX1) (N := 6) hx hb hts hinX1 hown hK hP 0 rfl rfl 4 (by decide) (hts (.fieldLink RX1 25 "PassSearch$Items" "groupCount" "I") (by decide +kernel)) (fun _ h9 => h9) rfl dX1_add_42 ?_
      refine lv_iload_n hx hb dX1_add_45 rfl (lv_at hl 2 rfl) ?_
      refine zi_ast hx hb hK hP hD hS 3 0 rfl rfl (k := gc) (x := n) (by omega) (by omega) dX1_add_46 (fun H locs hP hD hS => ?_)
      have hP : va_P D vwCl [(h, .inr (2, [.ref h1, .ref h2, .ref h3, .ref h4, .int (nI gc), .int (nI tt)])), (h1, aJ cJ 512 (uF P gc a)), (h2, aI cI 512 (uF F gc tt)), (h3, aI cI 512 (uF C gc n)), (h4, aI cI 512 O)] H := hP
      have hD : va_D A [(h, .inr (2, [.ref h1, .ref h2, .ref h3, .ref h4, .int (nI gc), .int (nI tt)])), (h1, aJ cJ 512 (uF P gc a)), (h2, aI cI 512 (uF F gc tt)), (h3, aI cI 512 (uF C gc n)), (h4, aI cI 512 O)] := hD
      refine lv_aload_n hx hb dX1_add_47 rfl (lv_at hl 0 rfl) ?_
      refine lv_aload_n hx hb dX1_add_48 rfl (lv_at hl 0 rfl) ?_
      refine va_get (D := D) (ci := 2) (v := .int (nI gc)) (C := RX1) (T := TX1) (N := 6) hx hb hts hinX1 hown hK hP 0 rfl rfl 4 (by decide) (hts (.fieldLink RX1 25 "PassSearch$Items" "groupCount" "I") (by decide +kernel)) (fun _ h9 => h9) rfl dX1_add_49 ?_
      refine WR_v.callV (rest := []) (wr := []) (c_X1_putSorted l D cI cJ h h1 h2 h3 h4 gc tt (uF P gc a) (uF F gc tt) (uF C gc n) O gc hg (hord.1) (fun i hi => if hq : i = gc then by rw [hq, uF_s]; exact ha else by rw [uF_n hq]; exact (hit.2.2.2 i (by omega)).2.2)) ⟨hx, hb, hml, hown, hts⟩ (cwV 1 hts gX1_add_X1_putSorted rfl rfl rfl (by decide +kernel) ⟨Nat.le_of_ble_eq_true rfl, Nat.le_of_ble_eq_true rfl⟩) hK hP hD hS hA [0, 1, 2, 3, 4] [] [0, 1] rfl rfl (by decide) (by decide) (by decide) rfl 0 2 rfl rfl rfl rfl hl.1 rfl (Nat.le_of_ble_eq_true rfl) dX1_add_52 ⟨Nat.zero_le _, Nat.zero_le _⟩ (fun u2_ H locs e2_ hP hD hS => ?_)
      obtain ⟨O2, rfl⟩ : ∃ z, z = u2_ := ⟨_, rfl⟩
      obtain ⟨kp, hkp⟩ := e2_
      have hP := hP.sub (ws' := [(h, .inr (2, [.ref h1, .ref h2, .ref h3, .ref h4, .int (nI gc), .int (nI tt)])), (h1, aJ cJ 512 (uF P gc a)), (h2, aI cI 512 (uF F gc tt)), (h3, aI cI 512 (uF C gc n)), (h4, aI cI 512 O2)]) [0, 1, 2, 3, 4] rfl
      have hD := hD.sub (ws' := [(h, .inr (2, [.ref h1, .ref h2, .ref h3, .ref h4, .int (nI gc), .int (nI tt)])), (h1, aJ cJ 512 (uF P gc a)), (h2, aI cI 512 (uF F gc tt)), (h3, aI cI 512 (uF C gc n)), (h4, aI cI 512 O2)]) [0, 1, 2, 3, 4] (by decide) rfl
      refine lv_aload_n hx hb dX1_add_55 rfl (lv_at hl 0 rfl) ?_
      refine lv_dup hx hb dX1_add_56 rfl ?_
      refine va_get (D := D) (ci := 2) (v := .int (nI gc)) (C := RX1) (T := TX1) (N := 6) hx hb hts hinX1 hown hK hP 0 rfl rfl 4 (by decide) (hts (.fieldLink RX1 25 "PassSearch$Items" "groupCount" "I") (by decide +kernel)) (fun _ h9 => h9) rfl dX1_add_57 ?_
      refine lv_iconst (v := nI 1) hx hb dX1_add_60 (by decide) ?_
      refine zi_add hx hb dX1_add_61  ?_
      refine va_put (D := D) (ci := 2) (v := .int (nI (gc + 1))) (ty := .int) (C := RX1) (T := TX1) (N := 6) hx hb hts hinX1 tyX1 tyX1_ok nmX1 hown hK hP hD hS 0 rfl rfl 4 (by decide) (hts (.fieldLink RX1 25 "PassSearch$Items" "groupCount" "I") (by decide +kernel)) (fun _ h9 => h9) rfl (by decide +kernel) rfl rfl (Nat.le_of_ble_eq_true rfl) dX1_add_62 (fun H locs hP hD hS => ?_)
      have hP : va_P D vwCl [(h, .inr (2, [.ref h1, .ref h2, .ref h3, .ref h4, .int (nI (gc + 1)), .int (nI tt)])), (h1, aJ cJ 512 (uF P gc a)), (h2, aI cI 512 (uF F gc tt)), (h3, aI cI 512 (uF C gc n)), (h4, aI cI 512 O2)] H := hP
      have hD : va_D A [(h, .inr (2, [.ref h1, .ref h2, .ref h3, .ref h4, .int (nI (gc + 1)), .int (nI tt)])), (h1, aJ cJ 512 (uF P gc a)), (h2, aI cI 512 (uF F gc tt)), (h3, aI cI 512 (uF C gc n)), (h4, aI cI 512 O2)] := hD
      refine lv_aload_n hx hb dX1_add_65 rfl (lv_at hl 0 rfl) ?_
      refine lv_dup hx hb dX1_add_66 rfl ?_
      refine va_get (D := D) (ci := 2) (v := .int (nI tt)) (C := RX1) (T := TX1) (N := 6) hx hb hts hinX1 hown hK hP 0 rfl rfl 5 (by decide) (hts (.fieldLink RX1 29 "PassSearch$Items" "total" "I") (by decide +kernel)) (fun _ h9 => h9) rfl dX1_add_67 ?_
      refine lv_iload_n hx hb dX1_add_70 rfl (lv_at hl 2 rfl) ?_
      refine zi_add hx hb dX1_add_71  ?_
      refine va_put (D := D) (ci := 2) (v := .int (nI (tt + n))) (ty := .int) (C := RX1) (T := TX1) (N := 6) hx hb hts hinX1 tyX1 tyX1_ok nmX1 hown hK hP hD hS 0 rfl rfl 5 (by decide) (hts (.fieldLink RX1 29 "PassSearch$Items" "total" "I") (by decide +kernel)) (fun _ h9 => h9) rfl (by decide +kernel) rfl rfl (Nat.le_of_ble_eq_true rfl) dX1_add_72 (fun H locs hP hD hS => ?_)
      have hP : va_P D vwCl [(h, .inr (2, [.ref h1, .ref h2, .ref h3, .ref h4, .int (nI (gc + 1)), .int (nI (tt + n))])), (h1, aJ cJ 512 (uF P gc a)), (h2, aI cI 512 (uF F gc tt)), (h3, aI cI 512 (uF C gc n)), (h4, aI cI 512 O2)] H := hP
      have hD : va_D A [(h, .inr (2, [.ref h1, .ref h2, .ref h3, .ref h4, .int (nI (gc + 1)), .int (nI (tt + n))])), (h1, aJ cJ 512 (uF P gc a)), (h2, aI cI 512 (uF F gc tt)), (h3, aI cI 512 (uF C gc n)), (h4, aI cI 512 O2)] := hD
      exact hret ((gc + 1, tt + n, uF P gc a, uF F gc tt, uF C gc n, O2)) _ _ _ _ hP hD hS (⟨fun h => by omega, fun _ => ⟨kp, O2, isIns_old hord.1 hkp, rfl⟩⟩) dX1_add_75
    · exact False.elim (c10 (by omega))
set_option maxHeartbeats 4000000 in
set_option maxRecDepth 100000 in
/-- itemAt -/
theorem c_X1_itemAt (l : Launch) (D : va_G) (cI cJ : ClassId) (h h1 h2 h3 h4 gc tt : Nat) (P F C O : Nat → Nat) (x : Nat) (hit : itOK gc tt P F C) (hord : ordOK gc tt P C O) (hx1 : x < tt) : RO_i l yX1_itemAt wsX1_itemAt ({ frames := 0, cells := 0, slots := 0, locals := 0 } : Room) D [(h, .inr (2, [.ref h1, .ref h2, .ref h3, .ref h4, .int (nI gc), .int (nI tt)])), (h1, aJ cJ 512 P), (h2, aI cI 512 F), (h3, aI cI 512 C), (h4, aI cI 512 O)] [(cI, .int), (cJ, .long)] [.ref h, .int (nI x)] (fun v => ∃ k j, k < gc ∧ j < C (O k) ∧ x = sumN (fun i => C (O i)) k + j ∧ v = nI (F (O k) + j)) := by
  refine RO_i.of (cc := cX1_itemAt) (maxL := 5) (by decide) rfl (Nat.le_of_ble_eq_true rfl) ?_
  intro p e s m args below meth c ls A Q hx hb hml hts hown hA hP hK hl hret
  have hown : s.vm.findClass RX1 = some m.cls := hown
  have hl : lv_has ls 5 [(0, .ref h), (1, .int (nI x))] := hl
  have hS : va_S A s.heap s.heap [] := va_S.rf
  have hinX1 : ∀ w ∈ wsX10, w ∈ wsX1_itemAt := by decide +kernel
  have hgc := hit.1
  have htt := hit.2.1
  refine lv_iconst (v := nI 0) hx hb dX1_itemAt_0 (by decide) ?_
  refine lv_istore_n (lv' := [(2, .int (nI 0)), (0, .ref h), (1, .int (nI x))]) hx hb dX1_itemAt_1 rfl hl (by decide) rfl (fun ls hl => ?_)
  refine lv_iconst (v := nI 0) hx hb dX1_itemAt_2 (by decide) ?_
  refine lv_istore_n (lv' := [(3, .int (nI 0)), (2, .int (nI 0)), (0, .ref h), (1, .int (nI x))]) hx hb dX1_itemAt_3 rfl hl (by decide) rfl (fun ls hl => ?_)
  have L4 : ∀ (nf : Nat) (k : Nat) (bf : Nat), (k ≤ gc) → (bf = sumN (fun i => C (O i)) k) → (bf ≤ x) → gc - k < nf → ∀ (H : Heap) (locs : List Loc) (ls : Array Slot), va_P D vwCl [(h, .inr (2, [.ref h1, .ref h2, .ref h3, .ref h4, .int (nI gc), .int (nI tt)])), (h1, aJ cJ 512 P), (h2, aI cI 512 F), (h3, aI cI 512 C), (h4, aI cI 512 O)] H → va_S A s.heap H locs → lv_has ls 5 [(3, .int (nI k)), (2, .int (nI bf)), (0, .ref h), (1, .int (nI x))] → W p l e ({ frames := 0, cells := 0, slots := 0, locals := 0 } : Room) s m args below meth c H locs 0 0 Q (F0 m 4 ls []) := by
    intro nf
    induction nf with
    | zero => intro k bf i1 i2 i3 hm; exact absurd hm (Nat.not_lt_zero _)
    | succ nf ih4 =>
      intro k bf i1 i2 i3 hm4 H locs ls hP hS hl
      refine lv_iload_n hx hb dX1_itemAt_4 rfl (lv_at hl 0 rfl) ?_
      refine lv_aload_n hx hb dX1_itemAt_5 rfl (lv_at hl 2 rfl) ?_
      refine va_get (D := D) (ci := 2) (v := .int (nI gc)) (C := RX1) (T := TX1) (N := 6) hx hb hts hinX1 hown hK hP 0 rfl rfl 4 (by decide) (hts (.fieldLink RX1 25 "PassSearch$Items" "groupCount" "I") (by decide +kernel)) (fun _ h9 => h9) rfl dX1_itemAt_6 ?_
      refine zi_ge (tgt := 61) hx hb dX1_itemAt_9 (by decide) (by omega) (by omega) (fun c9 => ?_) (fun c9 => ?_)
      · exact False.elim (by rw [show k = gc by omega, hord.2.2] at i2; omega)
      · have hOk := hord.1 k (by omega)
        have hFC := it_le hit hOk
        refine lv_aload_n hx hb dX1_itemAt_12 rfl (lv_at hl 2 rfl) ?_
        refine va_get (D := D) (ci := 2) (v := .ref h4) (C := RX1) (T := TX1) (N := 6) hx hb hts hinX1 hown hK hP 0 rfl rfl 3 (by decide) (hts (.fieldLink RX1 22 "PassSearch$Items" "sorted" "[I") (by decide +kernel)) (fun _ h9 => h9) rfl dX1_itemAt_13 ?_
        refine lv_iload_n hx hb dX1_itemAt_16 rfl (lv_at hl 0 rfl) ?_
        refine zi_ald hx hb hK hP 4 0 rfl rfl (k := k) (by omega) (by omega) dX1_itemAt_17 ?_
        refine lv_istore (lv' := [(4, .int (nI (O k))), (3, .int (nI k)), (2, .int (nI bf)), (0, .ref h), (1, .int (nI x))]) hx hb dX1_itemAt_18 hl (by decide) rfl (fun ls hl => ?_)
        refine lv_iload_n hx hb dX1_itemAt_20 rfl (lv_at hl 4 rfl) ?_
        refine lv_iload_n hx hb dX1_itemAt_21 rfl (lv_at hl 2 rfl) ?_
        refine lv_aload_n hx hb dX1_itemAt_22 rfl (lv_at hl 3 rfl) ?_
        refine va_get (D := D) (ci := 2) (v := .ref h3) (C := RX1) (T := TX1) (N := 6) hx hb hts hinX1 hown hK hP 0 rfl rfl 2 (by decide) (hts (.fieldLink RX1 19 "PassSearch$Items" "counts" "[I") (by decide +kernel)) (fun _ h9 => h9) rfl dX1_itemAt_23 ?_
        refine lv_iload hx hb dX1_itemAt_26 (lv_at hl 0 rfl) ?_
        refine zi_ald hx hb hK hP 3 0 rfl rfl (k := O k) (by omega) (by omega) dX1_itemAt_28 ?_
        refine zi_add hx hb dX1_itemAt_29  ?_
        refine zi_ge (tgt := 45) hx hb dX1_itemAt_30 (by decide) (by omega) (by omega) (fun c30 => ?_) (fun c30 => ?_)
        · refine lv_iload_n hx hb dX1_itemAt_45 rfl (lv_at hl 2 rfl) ?_
          refine lv_aload_n hx hb dX1_itemAt_46 rfl (lv_at hl 3 rfl) ?_
          refine va_get (D := D) (ci := 2) (v := .ref h3) (C := RX1) (T := TX1) (N := 6) hx hb hts hinX1 hown hK hP 0 rfl rfl 2 (by decide) (hts (.fieldLink RX1 19 "PassSearch$Items" "counts" "[I") (by decide +kernel)) (fun _ h9 => h9) rfl dX1_itemAt_47 ?_
          refine lv_iload hx hb dX1_itemAt_50 (lv_at hl 0 rfl) ?_
          refine zi_ald hx hb hK hP 3 0 rfl rfl (k := O k) (by omega) (by omega) dX1_itemAt_52 ?_
          refine zi_add hx hb dX1_itemAt_53  ?_
          refine lv_istore_n (lv' := [(2, .int (nI (bf + (C (O k))))), (4, .int (nI (O k))), (3, .int (nI k)), (0, .ref h), (1, .int (nI x))]) hx hb dX1_itemAt_54 rfl hl (by decide) rfl (fun ls hl => ?_)
          refine lv_iinc (v := nI (k + 1)) (lv' := [(3, .int (nI (k + 1))), (2, .int (nI (bf + (C (O k))))), (4, .int (nI (O k))), (0, .ref h), (1, .int (nI x))]) hx hb dX1_itemAt_55 hl (k := 2) rfl (by rw [show Int32.ofInt 1 = nI 1 by decide, nI_add]) (by decide) rfl (fun ls hl => ?_)
          refine lv_goto (tgt := 4) hx hb dX1_itemAt_58 (by decide) ?_
          exact ih4 (k + 1) (bf + (C (O k))) (by omega) (by rw [sumN_succ, i2]) (c30) (by omega) _ _ _ hP hS (lv_sub hl [0, 1, 3, 4] rfl)
        · refine lv_aload_n hx hb dX1_itemAt_33 rfl (lv_at hl 3 rfl) ?_
          refine va_get (D := D) (ci := 2) (v := .ref h2) (C := RX1) (T := TX1) (N := 6) hx hb hts hinX1 hown hK hP 0 rfl rfl 1 (by decide) (hts (.fieldLink RX1 15 "PassSearch$Items" "firsts" "[I") (by decide +kernel)) (fun _ h9 => h9) rfl dX1_itemAt_34 ?_
          refine lv_iload hx hb dX1_itemAt_37 (lv_at hl 0 rfl) ?_
          refine zi_ald hx hb hK hP 2 0 rfl rfl (k := O k) (by omega) (by omega) dX1_itemAt_39 ?_
          refine lv_iload_n hx hb dX1_itemAt_40 rfl (lv_at hl 4 rfl) ?_
          refine zi_add hx hb dX1_itemAt_41  ?_
          refine lv_iload_n hx hb dX1_itemAt_42 rfl (lv_at hl 2 rfl) ?_
          refine zi_sub hx hb dX1_itemAt_43 (by omega) ?_
          exact hret _ _ _ _ _ hS (⟨k, x - bf, by omega, by omega, by omega, congrArg nI (by omega)⟩) dX1_itemAt_44
  exact L4 _ 0 0 (by omega) (rfl) (by omega) (Nat.lt_succ_self _) _ _ _ hP hS (lv_sub hl [0, 1, 2, 3] rfl)
set_option maxHeartbeats 4000000 in
set_option maxRecDepth 100000 in
/-- placeOf -/
theorem c_X1_placeOf (l : Launch) (D : va_G) (cI cJ : ClassId) (h h1 h2 h3 h4 gc tt : Nat) (P F C O : Nat → Nat) (x sp : Nat) (hit : itOK gc tt P F C) (hx1 : x < tt) (hsp : 1 ≤ sp ∧ sp < 9223372036854775808) : RO_i l yX1_placeOf wsX1_placeOf ({ frames := 1, cells := 0, slots := 0, locals := 23 } : Room) D [(h, .inr (2, [.ref h1, .ref h2, .ref h3, .ref h4, .int (nI gc), .int (nI tt)])), (h1, aJ cJ 512 P), (h2, aI cI 512 F), (h3, aI cI 512 C), (h4, aI cI 512 O)] [(cI, .int), (cJ, .long)] [.ref h, .int (nI x), .long (lN sp)] (fun v => ∃ ow, ow < gc ∧ F ow ≤ x ∧ x < F ow + C ow ∧ v = nI (x - F ow + sumN (before P C sp ow) gc)) := by
  refine RO_i.of (cc := cX1_placeOf) (maxL := 11) (by decide) rfl (Nat.le_of_ble_eq_true rfl) ?_
  intro p e s m args below meth c ls A Q hx hb hml hts hown hA hP hK hl hret
  have hown : s.vm.findClass RX1 = some m.cls := hown
  have hl : lv_has ls 11 [(0, .ref h), (1, .int (nI x)), (2, .long (lN sp))] := hl
  have hS : va_S A s.heap s.heap [] := va_S.rf
  have hinX1 : ∀ w ∈ wsX10, w ∈ wsX1_placeOf := by decide +kernel
  have hgc := hit.1
  have htt := hit.2.1
  have hmod : ∀ i, P i % sp < 9223372036854775808 := fun i => Nat.lt_trans (Nat.mod_lt _ hsp.1) hsp.2
  refine lv_aload_n hx hb dX1_placeOf_0 rfl (lv_at hl 0 rfl) ?_
  refine lv_iload_n hx hb dX1_placeOf_1 rfl (lv_at hl 1 rfl) ?_
  refine RO_i.callV (rest := []) (c_X1_groupOf l D cI cJ h h1 h2 h3 h4 gc tt P F C O x hit hx1) ⟨hx, hb, hml, hown, hts⟩ (cwV 1 hts gX1_placeOf_X1_groupOf rfl rfl rfl (by decide +kernel) ⟨Nat.le_of_ble_eq_true rfl, Nat.le_of_ble_eq_true rfl⟩) hK hP hS hA [0, 1, 2, 3, 4] [0, 1] rfl rfl 0 2 rfl rfl rfl rfl hl.1 rfl (Nat.le_of_ble_eq_true rfl) dX1_placeOf_2 ⟨Nat.zero_le _, Nat.zero_le _⟩ (fun v1_ H locs e1_ hP hS => ?_)
  obtain ⟨ow, rfl, ho1, ho2, ho3⟩ := e1_
  have hPo := (hit.2.2.2 ow ho1).2.2
  refine lv_istore (lv' := [(4, .int (nI ow)), (0, .ref h), (1, .int (nI x)), (2, .long (lN sp))]) hx hb dX1_placeOf_5 hl (by decide) rfl (fun ls hl => ?_)
  refine lv_aload_n hx hb dX1_placeOf_7 rfl (lv_at hl 1 rfl) ?_
  refine lv_iload hx hb dX1_placeOf_8 (lv_at hl 0 rfl) ?_
  refine RO_i.callV (rest := []) (c_X1_hasGroup l D cI cJ h h1 h2 h3 h4 gc tt P F C O ow (by omega) (by omega)) ⟨hx, hb, hml, hown, hts⟩ (cwV 1 hts gX1_placeOf_X1_hasGroup rfl rfl rfl (by decide +kernel) ⟨Nat.le_of_ble_eq_true rfl, Nat.le_of_ble_eq_true rfl⟩) hK hP hS hA [0, 1, 2, 3, 4] [0, 1] rfl rfl 0 2 rfl rfl rfl rfl hl.1 rfl (Nat.le_of_ble_eq_true rfl) dX1_placeOf_10 ⟨Nat.zero_le _, Nat.zero_le _⟩ (fun v2_ H locs e2_ hP hS => ?_)
  obtain rfl : v2_ = bI (ow < gc) := e2_
  refine zb_ne (tgt := 18) hx hb dX1_placeOf_13 (by decide) (fun c13 => ?_) (fun c13 => ?_)
  · refine lv_aload_n hx hb dX1_placeOf_18 rfl (lv_at hl 1 rfl) ?_
    refine va_get (D := D) (ci := 2) (v := .ref h1) (C := RX1) (T := TX1) (N := 6) hx hb hts hinX1 hown hK hP 0 rfl rfl 0 (by decide) (hts (.fieldLink RX1 9 "PassSearch$Items" "points" "[J") (by decide +kernel)) (fun _ h9 => h9) rfl dX1_placeOf_19 ?_
    refine lv_iload hx hb dX1_placeOf_22 (lv_at hl 0 rfl) ?_
    refine zl_ald hx hb hK hP 1 1 rfl rfl (k := ow) (by omega) (by omega) dX1_placeOf_24 ?_
    refine lv_lload_n hx hb dX1_placeOf_25 rfl (lv_at hl 3 rfl) ?_
    refine RO_l.callS (rest := []) (c_X3_remainder l D (P ow) sp (by omega) hsp.1 hsp.2) ⟨hx, hb, hml, hown, hts⟩ (va_cwS 2 hts gX1_placeOf_X3_remainder rfl rfl rfl (by decide +kernel) ⟨Nat.le_of_ble_eq_true rfl, Nat.le_of_ble_eq_true rfl⟩) hK hP hS hA [] [] rfl rfl rfl hl.1 rfl (Nat.le_of_ble_eq_true rfl) dX1_placeOf_26 ⟨Nat.zero_le _, Nat.zero_le _⟩ (fun v3_ H locs e3_ hP hS => ?_)
    obtain rfl : v3_ = lN (P ow % sp) := e3_
    refine lv_lstore (lv' := [(5, .long (lN (P ow % sp))), (4, .int (nI ow)), (0, .ref h), (1, .int (nI x)), (2, .long (lN sp))]) hx hb dX1_placeOf_29 hl (by decide) rfl (fun ls hl => ?_)
    refine lv_iload_n hx hb dX1_placeOf_31 rfl (lv_at hl 3 rfl) ?_
    refine lv_aload_n hx hb dX1_placeOf_32 rfl (lv_at hl 2 rfl) ?_
    refine va_get (D := D) (ci := 2) (v := .ref h2) (C := RX1) (T := TX1) (N := 6) hx hb hts hinX1 hown hK hP 0 rfl rfl 1 (by decide) (hts (.fieldLink RX1 15 "PassSearch$Items" "firsts" "[I") (by decide +kernel)) (fun _ h9 => h9) rfl dX1_placeOf_33 ?_
    refine lv_iload hx hb dX1_placeOf_36 (lv_at hl 1 rfl) ?_
    refine zi_ald hx hb hK hP 2 0 rfl rfl (k := ow) (by omega) (by omega) dX1_placeOf_38 ?_
    refine zi_sub hx hb dX1_placeOf_39 (by omega) ?_
    refine lv_istore (lv' := [(7, .int (nI (x - (F ow)))), (5, .long (lN (P ow % sp))), (4, .int (nI ow)), (0, .ref h), (1, .int (nI x)), (2, .long (lN sp))]) hx hb dX1_placeOf_40 hl (by decide) rfl (fun ls hl => ?_)
    refine lv_iconst (v := nI 0) hx hb dX1_placeOf_42 (by decide) ?_
    refine lv_istore (lv' := [(8, .int (nI 0)), (7, .int (nI (x - (F ow)))), (5, .long (lN (P ow % sp))), (4, .int (nI ow)), (0, .ref h), (1, .int (nI x)), (2, .long (lN sp))]) hx hb dX1_placeOf_43 hl (by decide) rfl (fun ls hl => ?_)
    have L45 : ∀ (nf : Nat) (g : Nat) (ac : Nat), (g ≤ gc) → (ac = x - F ow + sumN (before P C sp ow) g) → gc - g < nf → ∀ (H : Heap) (locs : List Loc) (ls : Array Slot), va_P D vwCl [(h, .inr (2, [.ref h1, .ref h2, .ref h3, .ref h4, .int (nI gc), .int (nI tt)])), (h1, aJ cJ 512 P), (h2, aI cI 512 F), (h3, aI cI 512 C), (h4, aI cI 512 O)] H → va_S A s.heap H locs → lv_has ls 11 [(8, .int (nI g)), (7, .int (nI ac)), (4, .int (nI ow)), (5, .long (lN (P ow % sp))), (0, .ref h), (1, .int (nI x)), (2, .long (lN sp))] → W p l e ({ frames := 1, cells := 0, slots := 0, locals := 23 } : Room) s m args below meth c H locs 0 0 Q (F0 m 45 ls []) := by
      intro nf
      induction nf with
      | zero => intro g ac i1 i2 hm; exact absurd hm (Nat.not_lt_zero _)
      | succ nf ih45 =>
        intro g ac i1 i2 hm45 H locs ls hP hS hl
        refine lv_iload hx hb dX1_placeOf_45 (lv_at hl 0 rfl) ?_
        refine lv_aload_n hx hb dX1_placeOf_47 rfl (lv_at hl 4 rfl) ?_
        refine va_get (D := D) (ci := 2) (v := .int (nI gc)) (C := RX1) (T := TX1) (N := 6) hx hb hts hinX1 hown hK hP 0 rfl rfl 4 (by decide) (hts (.fieldLink RX1 25 "PassSearch$Items" "groupCount" "I") (by decide +kernel)) (fun _ h9 => h9) rfl dX1_placeOf_48 ?_
        refine zi_ge (tgt := 108) hx hb dX1_placeOf_51 (by decide) (by omega) (by omega) (fun c51 => ?_) (fun c51 => ?_)
        · refine lv_iload hx hb dX1_placeOf_108 (lv_at hl 1 rfl) ?_
          exact hret _ _ _ _ _ hS (⟨ow, ho1, ho2, ho3, by rw [i2, show g = gc by omega]⟩) dX1_placeOf_110
        · have hPg := (hit.2.2.2 g (by omega)).2.2
          refine lv_aload_n hx hb dX1_placeOf_54 rfl (lv_at hl 4 rfl) ?_
          refine va_get (D := D) (ci := 2) (v := .ref h1) (C := RX1) (T := TX1) (N := 6) hx hb hts hinX1 hown hK hP 0 rfl rfl 0 (by decide) (hts (.fieldLink RX1 9 "PassSearch$Items" "points" "[J") (by decide +kernel)) (fun _ h9 => h9) rfl dX1_placeOf_55 ?_
          refine lv_iload hx hb dX1_placeOf_58 (lv_at hl 0 rfl) ?_
          refine zl_ald hx hb hK hP 1 1 rfl rfl (k := g) (by omega) (by omega) dX1_placeOf_60 ?_
          refine lv_lload_n hx hb dX1_placeOf_61 rfl (lv_at hl 6 rfl) ?_
          refine RO_l.callS (rest := []) (c_X3_remainder l D (P g) sp (by omega) hsp.1 hsp.2) ⟨hx, hb, hml, hown, hts⟩ (va_cwS 2 hts gX1_placeOf_X3_remainder rfl rfl rfl (by decide +kernel) ⟨Nat.le_of_ble_eq_true rfl, Nat.le_of_ble_eq_true rfl⟩) hK hP hS hA [] [] rfl rfl rfl hl.1 rfl (Nat.le_of_ble_eq_true rfl) dX1_placeOf_62 ⟨Nat.zero_le _, Nat.zero_le _⟩ (fun v4_ H locs e4_ hP hS => ?_)
          obtain rfl : v4_ = lN (P g % sp) := e4_
          refine lv_lstore (lv' := [(9, .long (lN (P g % sp))), (8, .int (nI g)), (7, .int (nI ac)), (4, .int (nI ow)), (5, .long (lN (P ow % sp))), (0, .ref h), (1, .int (nI x)), (2, .long (lN sp))]) hx hb dX1_placeOf_65 hl (by decide) rfl (fun ls hl => ?_)
          refine lv_lload hx hb dX1_placeOf_67 (lv_at hl 0 rfl) ?_
          refine lv_lload hx hb dX1_placeOf_69 (lv_at hl 4 rfl) ?_
          refine zl_lt (tgt := 90) hx hb dX1_placeOf_71 dX1_placeOf_72 (by decide) (hmod _) (hmod _) (fun c71 => ?_) (fun c71 => ?_)
          · refine lv_iload hx hb dX1_placeOf_90 (lv_at hl 2 rfl) ?_
            refine lv_aload_n hx hb dX1_placeOf_92 rfl (lv_at hl 5 rfl) ?_
            refine va_get (D := D) (ci := 2) (v := .ref h3) (C := RX1) (T := TX1) (N := 6) hx hb hts hinX1 hown hK hP 0 rfl rfl 2 (by decide) (hts (.fieldLink RX1 19 "PassSearch$Items" "counts" "[I") (by decide +kernel)) (fun _ h9 => h9) rfl dX1_placeOf_93 ?_
            refine lv_iload hx hb dX1_placeOf_96 (lv_at hl 1 rfl) ?_
            refine zi_ald hx hb hK hP 3 0 rfl rfl (k := g) (by omega) (by omega) dX1_placeOf_98 ?_
            refine zi_add hx hb dX1_placeOf_99  ?_
            refine lv_istore (lv' := [(7, .int (nI (ac + (C g)))), (9, .long (lN (P g % sp))), (8, .int (nI g)), (4, .int (nI ow)), (5, .long (lN (P ow % sp))), (0, .ref h), (1, .int (nI x)), (2, .long (lN sp))]) hx hb dX1_placeOf_100 hl (by decide) rfl (fun ls hl => ?_)
            refine lv_iinc (v := nI (g + 1)) (lv' := [(8, .int (nI (g + 1))), (7, .int (nI (ac + (C g)))), (9, .long (lN (P g % sp))), (4, .int (nI ow)), (5, .long (lN (P ow % sp))), (0, .ref h), (1, .int (nI x)), (2, .long (lN sp))]) hx hb dX1_placeOf_102 hl (k := 2) rfl (by rw [show Int32.ofInt 1 = nI 1 by decide, nI_add]) (by decide) rfl (fun ls hl => ?_)
            refine lv_goto (tgt := 45) hx hb dX1_placeOf_105 (by decide) ?_
            exact ih45 (g + 1) (ac + (C g)) (by omega) (by rw [sumN_succ, before, if_pos (Or.inl c71), i2]; omega) (by omega) _ _ _ hP hS (lv_sub hl [0, 1, 3, 4, 5, 6, 7] rfl)
          · refine lv_lload hx hb dX1_placeOf_75 (lv_at hl 0 rfl) ?_
            refine lv_lload hx hb dX1_placeOf_77 (lv_at hl 4 rfl) ?_
            refine zl_ne (tgt := 102) hx hb dX1_placeOf_79 dX1_placeOf_80 (by decide) (hmod _) (hmod _) (fun c79 => ?_) (fun c79 => ?_)
            · refine lv_iinc (v := nI (g + 1)) (lv' := [(8, .int (nI (g + 1))), (9, .long (lN (P g % sp))), (7, .int (nI ac)), (4, .int (nI ow)), (5, .long (lN (P ow % sp))), (0, .ref h), (1, .int (nI x)), (2, .long (lN sp))]) hx hb dX1_placeOf_102 hl (k := 1) rfl (by rw [show Int32.ofInt 1 = nI 1 by decide, nI_add]) (by decide) rfl (fun ls hl => ?_)
              refine lv_goto (tgt := 45) hx hb dX1_placeOf_105 (by decide) ?_
              exact ih45 (g + 1) ac (by omega) (by rw [sumN_succ, before, if_neg (fun q => by rcases q with q | q <;> omega), i2]; omega) (by omega) _ _ _ hP hS (lv_sub hl [0, 2, 3, 4, 5, 6, 7] rfl)
            · refine lv_iload hx hb dX1_placeOf_83 (lv_at hl 1 rfl) ?_
              refine lv_iload hx hb dX1_placeOf_85 (lv_at hl 3 rfl) ?_
              refine zi_ge (tgt := 102) hx hb dX1_placeOf_87 (by decide) (by omega) (by omega) (fun c87 => ?_) (fun c87 => ?_)
              · refine lv_iinc (v := nI (g + 1)) (lv' := [(8, .int (nI (g + 1))), (9, .long (lN (P g % sp))), (7, .int (nI ac)), (4, .int (nI ow)), (5, .long (lN (P ow % sp))), (0, .ref h), (1, .int (nI x)), (2, .long (lN sp))]) hx hb dX1_placeOf_102 hl (k := 1) rfl (by rw [show Int32.ofInt 1 = nI 1 by decide, nI_add]) (by decide) rfl (fun ls hl => ?_)
                refine lv_goto (tgt := 45) hx hb dX1_placeOf_105 (by decide) ?_
                exact ih45 (g + 1) ac (by omega) (by rw [sumN_succ, before, if_neg (fun q => by rcases q with q | q <;> omega), i2]; omega) (by omega) _ _ _ hP hS (lv_sub hl [0, 2, 3, 4, 5, 6, 7] rfl)
              · refine lv_iload hx hb dX1_placeOf_90 (lv_at hl 2 rfl) ?_
                refine lv_aload_n hx hb dX1_placeOf_92 rfl (lv_at hl 5 rfl) ?_
                refine va_get (D := D) (ci := 2) (v := .ref h3) (C := RX1) (T := TX1) (N := 6) hx hb hts hinX1 hown hK hP 0 rfl rfl 2 (by decide) (hts (.fieldLink RX1 19 "PassSearch$Items" "counts" "[I") (by decide +kernel)) (fun _ h9 => h9) rfl dX1_placeOf_93 ?_
                refine lv_iload hx hb dX1_placeOf_96 (lv_at hl 1 rfl) ?_
                refine zi_ald hx hb hK hP 3 0 rfl rfl (k := g) (by omega) (by omega) dX1_placeOf_98 ?_
                refine zi_add hx hb dX1_placeOf_99  ?_
                refine lv_istore (lv' := [(7, .int (nI (ac + (C g)))), (9, .long (lN (P g % sp))), (8, .int (nI g)), (4, .int (nI ow)), (5, .long (lN (P ow % sp))), (0, .ref h), (1, .int (nI x)), (2, .long (lN sp))]) hx hb dX1_placeOf_100 hl (by decide) rfl (fun ls hl => ?_)
                refine lv_iinc (v := nI (g + 1)) (lv' := [(8, .int (nI (g + 1))), (7, .int (nI (ac + (C g)))), (9, .long (lN (P g % sp))), (4, .int (nI ow)), (5, .long (lN (P ow % sp))), (0, .ref h), (1, .int (nI x)), (2, .long (lN sp))]) hx hb dX1_placeOf_102 hl (k := 2) rfl (by rw [show Int32.ofInt 1 = nI 1 by decide, nI_add]) (by decide) rfl (fun ls hl => ?_)
                refine lv_goto (tgt := 45) hx hb dX1_placeOf_105 (by decide) ?_
                exact ih45 (g + 1) (ac + (C g)) (by omega) (by rw [sumN_succ, before, if_pos (Or.inr ⟨c79, c87⟩), i2]; omega) (by omega) _ _ _ hP hS (lv_sub hl [0, 1, 3, 4, 5, 6, 7] rfl)
    exact L45 _ 0 (x - (F ow)) (by omega) (rfl) (Nat.lt_succ_self _) _ _ _ hP hS (lv_sub hl [0, 1, 3, 2, 4, 5, 6] rfl)
  · exact False.elim (c13 ho1)
set_option maxHeartbeats 4000000 in
set_option maxRecDepth 100000 in
/-- clear -/
theorem c_X1_clear (l : Launch) (D : va_G) (cI cJ : ClassId) (h h1 h2 h3 h4 gc tt : Nat) (P F C O : Nat → Nat) : WR_v l yX1_clear wsX1_clear ({ frames := 0, cells := 0, slots := 0, locals := 0 } : Room) D [(h, .inr (2, [.ref h1, .ref h2, .ref h3, .ref h4, .int (nI gc), .int (nI tt)])), (h1, aJ cJ 512 P), (h2, aI cI 512 F), (h3, aI cI 512 C), (h4, aI cI 512 O)] [(cI, .int), (cJ, .long)] [.ref h] (fun (_ : Unit) => [(h, .inr (2, [.ref h1, .ref h2, .ref h3, .ref h4, .int (nI 0), .int (nI 0)])), (h1, aJ cJ 512 P), (h2, aI cI 512 F), (h3, aI cI 512 C), (h4, aI cI 512 O)]) (fun _ => True) 0 0 := by
  refine WR_v.of (cc := cX1_clear) (maxL := 1) (by decide) rfl (Nat.le_of_ble_eq_true rfl) ?_
  intro p e s m args below meth c ls A Q hx hb hml hts hown hA hP hD hK hl hin hret
  have hown : s.vm.findClass RX1 = some m.cls := hown
  have hl : lv_has ls 1 [(0, .ref h)] := hl
  have hS : va_S A s.heap s.heap [] := va_S.rf
  have hinX1 : ∀ w ∈ wsX10, w ∈ wsX1_clear := by decide +kernel
  refine lv_aload_n hx hb dX1_clear_0 rfl (lv_at hl 0 rfl) ?_
  refine lv_iconst (v := nI 0) hx hb dX1_clear_1 (by decide) ?_
  refine va_put (D := D) (ci := 2) (v := .int (nI 0)) (ty := .int) (C := RX1) (T := TX1) (N := 6) hx hb hts hinX1 tyX1 tyX1_ok nmX1 hown hK hP hD hS 0 rfl rfl 4 (by decide) (hts (.fieldLink RX1 25 "PassSearch$Items" "groupCount" "I") (by decide +kernel)) (fun _ h9 => h9) rfl (by decide +kernel) rfl rfl (Nat.le_of_ble_eq_true rfl) dX1_clear_2 (fun H locs hP hD hS => ?_)
  have hP : va_P D vwCl [(h, .inr (2, [.ref h1, .ref h2, .ref h3, .ref h4, .int (nI 0), .int (nI tt)])), (h1, aJ cJ 512 P), (h2, aI cI 512 F), (h3, aI cI 512 C), (h4, aI cI 512 O)] H := hP
  have hD : va_D A [(h, .inr (2, [.ref h1, .ref h2, .ref h3, .ref h4, .int (nI 0), .int (nI tt)])), (h1, aJ cJ 512 P), (h2, aI cI 512 F), (h3, aI cI 512 C), (h4, aI cI 512 O)] := hD
  refine lv_aload_n hx hb dX1_clear_5 rfl (lv_at hl 0 rfl) ?_
  refine lv_iconst (v := nI 0) hx hb dX1_clear_6 (by decide) ?_
  refine va_put (D := D) (ci := 2) (v := .int (nI 0)) (ty := .int) (C := RX1) (T := TX1) (N := 6) hx hb hts hinX1 tyX1 tyX1_ok nmX1 hown hK hP hD hS 0 rfl rfl 5 (by decide) (hts (.fieldLink RX1 29 "PassSearch$Items" "total" "I") (by decide +kernel)) (fun _ h9 => h9) rfl (by decide +kernel) rfl rfl (Nat.le_of_ble_eq_true rfl) dX1_clear_7 (fun H locs hP hD hS => ?_)
  have hP : va_P D vwCl [(h, .inr (2, [.ref h1, .ref h2, .ref h3, .ref h4, .int (nI 0), .int (nI 0)])), (h1, aJ cJ 512 P), (h2, aI cI 512 F), (h3, aI cI 512 C), (h4, aI cI 512 O)] H := hP
  have hD : va_D A [(h, .inr (2, [.ref h1, .ref h2, .ref h3, .ref h4, .int (nI 0), .int (nI 0)])), (h1, aJ cJ 512 P), (h2, aI cI 512 F), (h3, aI cI 512 C), (h4, aI cI 512 O)] := hD
  exact hret (()) _ _ _ _ hP hD hS (trivial) dX1_clear_10
end
section
theorem l_of {x : Int64} (h : 0 ≤ x.toInt) : ∃ a, a < 9223372036854775808 ∧ x = lN a ∧ x.toInt = (a : Int) := by
  obtain ⟨a, ha, e⟩ := pk_lOf (x := x) (fun q => by
    rw [Int64.lt_iff_toInt_lt] at q
    have h0 : (0 : Int64).toInt = 0 := by decide
    omega)
  exact ⟨a, ha, e, by rw [e]; exact pk_lT ha⟩
theorem i_of {x : Int32} (h : 0 ≤ x.toInt) : ∃ a, a < 2147483648 ∧ x = nI a ∧ x.toInt = (a : Int) := by
  obtain ⟨a, ha, e⟩ := nI_of (x := x) (fun q => by
    rw [Int32.lt_iff_toInt_lt, z0I] at q
    omega)
  exact ⟨a, ha, e, by rw [e]; exact nI_toInt ha⟩
theorem l0T : (lN 0).toInt = 0 := by decide
theorem l1T : (lN 1).toInt = 1 := by decide
theorem lTT : (lN 4611686018427387904).toInt = 4611686018427387904 := by decide
/-- a long, an int that names a thing: n of them, if there is a plan -/
abbrev knL (pt : Nat) (x : Int64) : Prop := 0 ≤ x.toInt ∧ (pt = 0 ∨ x.toInt < (pt : Int))
abbrev knI (pt n : Nat) (y : Int32) : Prop := 0 ≤ y.toInt ∧ (pt = 0 ∨ y.toInt < (n : Int))
abbrev rnd (x : Int64) : Prop := 1 ≤ x.toInt ∧ x.toInt ≤ 4611686018427387904
/-- what the class holds of its plan -/
def xPlan (bn pt pn : Nat) (Z S : Nat → Nat) : Prop := pt ≤ 4611686018427387904 ∧ pn ≤ 62 ∧ bn ≤ 65536 ∧ (pt = 0 → pn = 0) ∧ (0 < pt → 2 ≤ bn ∧ isPlan bn pt pn Z S)
theorem plan_S {b q n k : Nat} {Z S : Nat → Nat} (h : isPlan b q n Z S) (hk : k ≤ n) : 1 ≤ S k ∧ S k < 9223372036854775808 := by
  obtain ⟨-, -, z, -, -, h1, -⟩ := h
  exact h1 k hk
theorem plan_Z {b q n k : Nat} {Z S : Nat → Nat} (h : isPlan b q n Z S) (hk : k < n) : 2 ≤ Z k ∧ Z k ≤ b ∧ S (k + 1) = S k * Z k := by
  obtain ⟨-, -, z, -, ⟨zz, -, -, h1⟩, -⟩ := h
  obtain ⟨a1, -, -, a2, a3⟩ := h1 k hk
  exact ⟨a2, a3, a1⟩
def sDigit (pt pn : Nat) (Z S : Nat → Nat) (x : Int64) (y : Int32) : Int32 := if knL pt x ∧ knI pt pn y then (if pt = 0 then -3 else nI (x.toInt.toNat / S y.toInt.toNat % Z y.toInt.toNat)) else -1
theorem isBase_one {q n mo x y : Nat} (h1 : isBase q n mo x) (h2 : isBase q n mo y) : x = y := by
  obtain ⟨a1, a2, a3, a4⟩ := h1
  obtain ⟨b1, b2, b3, b4⟩ := h2
  rcases Nat.lt_trichotomy x y with h | h | h
  · exact absurd (b3 x a1 h) (Nat.not_lt.mpr (a4 (by omega)))
  · exact h
  · exact absurd (a3 y b1 h) (Nat.not_lt.mpr (b4 (by omega)))
set_option maxHeartbeats 4000000 in
set_option maxRecDepth 100000 in
/-- isRound -/
theorem c_X4_isRound (l : Launch) (D : va_G) (x : Int64) : RO_i l yX4_isRound wsX4_isRound ({ frames := 0, cells := 0, slots := 0, locals := 0 } : Room) D [] [] [.long x] (fun v => v = bI (rnd x)) := by
  refine RO_i.ofz (cc := cX4_isRound) (maxL := 2) (by decide) rfl (Nat.le_of_ble_eq_true rfl) ?_
  intro p e s m args below meth c ls A Q hx hb hml hts hown hA hP hK hl hret
  have hown : s.vm.findClass RX4 = some m.cls := hown
  have hl : lv_has ls 2 [(0, .long x)] := hl
  have hS : va_S A s.heap s.heap [] := va_S.rf
  refine lv_lload_n hx hb dX4_isRound_0 rfl (lv_at hl 0 rfl) ?_
  refine lv_lconst (v := lN 1) hx hb dX4_isRound_1 (by decide) ?_
  refine zr_lt (tgt := 18) hx hb dX4_isRound_2 dX4_isRound_3 (by decide) (fun c2 => ?_) (fun c2 => ?_)
  · rw [l1T] at c2
    refine lv_iconst (v := nI 0) hx hb dX4_isRound_18 (by decide) ?_
    exact hret _ _ _ _ _ hS (Or.inl rfl) (bI_f' (by omega)) dX4_isRound_19
  · rw [l1T] at c2
    refine lv_lload_n hx hb dX4_isRound_6 rfl (lv_at hl 0 rfl) ?_
    refine lv_ldc2 (v := 4611686018427387904) hx hb hown (hts (.constantLong RX4 147 (4611686018427387904)) (by decide +kernel)) dX4_isRound_7 ?_
    refine W.eq (g2 := F0 m 10 ls [.long (lN 4611686018427387904), .long x]) rfl ?_
    refine zr_gt (tgt := 18) hx hb dX4_isRound_10 dX4_isRound_11 (by decide) (fun c10 => ?_) (fun c10 => ?_)
    · rw [lTT] at c10
      refine lv_iconst (v := nI 0) hx hb dX4_isRound_18 (by decide) ?_
      exact hret _ _ _ _ _ hS (Or.inl rfl) (bI_f' (by omega)) dX4_isRound_19
    · rw [lTT] at c10
      refine lv_iconst (v := nI 1) hx hb dX4_isRound_14 (by decide) ?_
      refine lv_goto (tgt := 19) hx hb dX4_isRound_15 (by decide) ?_
      exact hret _ _ _ _ _ hS (Or.inr rfl) (bI_t' (by omega)) dX4_isRound_19
set_option maxHeartbeats 4000000 in
set_option maxRecDepth 100000 in
/-- isUnknownPoint -/
theorem c_X4_isUnknownPoint (l : Launch) (D : va_G) (cI cJ : ClassId) (xo hp hi hh ht bn : Nat) (pz ps pt pn : Nat) (Z S : Nat → Nat) (x : Int64) (hpt : pt ≤ 4611686018427387904) : RO_i l yX4_isUnknownPoint wsX4_isUnknownPoint ({ frames := 1, cells := 0, slots := 0, locals := 22 } : Room) D [(xo, .inr (4, [.int (nI bn), .ref hp, .ref hi, .ref hh, .ref ht])), (hp, .inr (3, [.int (nI bn), .ref pz, .ref ps, .long (lN pt), .int (nI pn)])), (pz, aI cI 62 Z), (ps, aJ cJ 63 S)] [(cI, .int), (cJ, .long)] [.ref xo, .long x] (fun v => v = bI (¬ knL pt x)) := by
  refine RO_i.ofz (cc := cX4_isUnknownPoint) (maxL := 3) (by decide) rfl (Nat.le_of_ble_eq_true rfl) ?_
  intro p e s m args below meth c ls A Q hx hb hml hts hown hA hP hK hl hret
  have hown : s.vm.findClass RX4 = some m.cls := hown
  have hl : lv_has ls 3 [(0, .ref xo), (1, .long x)] := hl
  have hS : va_S A s.heap s.heap [] := va_S.rf
  have hinX4 : ∀ w ∈ wsX40, w ∈ wsX4_isUnknownPoint := by decide +kernel
  refine lv_lload_n hx hb dX4_isUnknownPoint_0 rfl (lv_at hl 1 rfl) ?_
  refine lv_lconst (v := lN 0) hx hb dX4_isUnknownPoint_1 (by decide) ?_
  refine zr_lt (tgt := 27) hx hb dX4_isUnknownPoint_2 dX4_isUnknownPoint_3 (by decide) (fun c2 => ?_) (fun c2 => ?_)
  · rw [l0T] at c2
    refine lv_iconst (v := nI 1) hx hb dX4_isUnknownPoint_27 (by decide) ?_
    refine lv_goto (tgt := 32) hx hb dX4_isUnknownPoint_28 (by decide) ?_
    exact hret _ _ _ _ _ hS (Or.inr rfl) (bI_t' (by omega)) dX4_isUnknownPoint_32
  · rw [l0T] at c2
    obtain ⟨a, ha, rfl, hxa⟩ := l_of c2
    refine lv_aload_n hx hb dX4_isUnknownPoint_6 rfl (lv_at hl 0 rfl) ?_
    refine va_get (D := D) (ci := 4) (v := .ref hp) (C := RX4) (T := TX4) (N := 5) hx hb hts hinX4 hown hK hP 0 rfl rfl 1 (by decide) (hts (.fieldLink RX4 28 "PassSearch" "plan" "LPassSearch$Plan;") (by decide +kernel)) (fun _ h9 => h9) rfl dX4_isUnknownPoint_7 ?_
    refine RO_i.callV (rest := []) (c_X2_isLaid l D cI cJ hp pz ps bn pt pn Z S (by omega)) ⟨hx, hb, hml, hown, hts⟩ (cwV 0 hts gX4_isUnknownPoint_X2_isLaid rfl rfl rfl (by decide +kernel) ⟨Nat.le_of_ble_eq_true rfl, Nat.le_of_ble_eq_true rfl⟩) hK hP hS hA [1, 2, 3] [0, 1] rfl rfl 1 3 rfl rfl rfl rfl hl.1 rfl (Nat.le_of_ble_eq_true rfl) dX4_isUnknownPoint_10 ⟨Nat.zero_le _, Nat.zero_le _⟩ (fun v1_ H locs e1_ hP hS => ?_)
    obtain rfl : v1_ = bI (0 < pt) := e1_
    refine zb_eq (tgt := 31) hx hb dX4_isUnknownPoint_13 (by decide) (fun c13 => ?_) (fun c13 => ?_)
    · refine lv_iconst (v := nI 0) hx hb dX4_isUnknownPoint_31 (by decide) ?_
      exact hret _ _ _ _ _ hS (Or.inl rfl) (bI_f' (by omega)) dX4_isUnknownPoint_32
    · refine lv_aload_n hx hb dX4_isUnknownPoint_16 rfl (lv_at hl 0 rfl) ?_
      refine va_get (D := D) (ci := 4) (v := .ref hp) (C := RX4) (T := TX4) (N := 5) hx hb hts hinX4 hown hK hP 0 rfl rfl 1 (by decide) (hts (.fieldLink RX4 28 "PassSearch" "plan" "LPassSearch$Plan;") (by decide +kernel)) (fun _ h9 => h9) rfl dX4_isUnknownPoint_17 ?_
      refine lv_lload_n hx hb dX4_isUnknownPoint_20 rfl (lv_at hl 1 rfl) ?_
      refine RO_i.callV (rest := []) (c_X2_hasPoint l D cI cJ hp pz ps bn pt pn Z S a (by omega) (by omega)) ⟨hx, hb, hml, hown, hts⟩ (cwV 1 hts gX4_isUnknownPoint_X2_hasPoint rfl rfl rfl (by decide +kernel) ⟨Nat.le_of_ble_eq_true rfl, Nat.le_of_ble_eq_true rfl⟩) hK hP hS hA [1, 2, 3] [0, 1] rfl rfl 1 3 rfl rfl rfl rfl hl.1 rfl (Nat.le_of_ble_eq_true rfl) dX4_isUnknownPoint_21 ⟨Nat.zero_le _, Nat.zero_le _⟩ (fun v2_ H locs e2_ hP hS => ?_)
      obtain rfl : v2_ = bI (a < pt) := e2_
      refine zb_ne (tgt := 31) hx hb dX4_isUnknownPoint_24 (by decide) (fun c24 => ?_) (fun c24 => ?_)
      · refine lv_iconst (v := nI 0) hx hb dX4_isUnknownPoint_31 (by decide) ?_
        exact hret _ _ _ _ _ hS (Or.inl rfl) (bI_f' (by omega)) dX4_isUnknownPoint_32
      · refine lv_iconst (v := nI 1) hx hb dX4_isUnknownPoint_27 (by decide) ?_
        refine lv_goto (tgt := 32) hx hb dX4_isUnknownPoint_28 (by decide) ?_
        exact hret _ _ _ _ _ hS (Or.inr rfl) (bI_t' (by omega)) dX4_isUnknownPoint_32
set_option maxHeartbeats 4000000 in
set_option maxRecDepth 100000 in
/-- isUnknownPass -/
theorem c_X4_isUnknownPass (l : Launch) (D : va_G) (cI cJ : ClassId) (xo hp hi hh ht bn : Nat) (pz ps pt pn : Nat) (Z S : Nat → Nat) (y : Int32) (hpt : pt ≤ 4611686018427387904) (hpn : pn ≤ 62) : RO_i l yX4_isUnknownPass wsX4_isUnknownPass ({ frames := 1, cells := 0, slots := 0, locals := 21 } : Room) D [(xo, .inr (4, [.int (nI bn), .ref hp, .ref hi, .ref hh, .ref ht])), (hp, .inr (3, [.int (nI bn), .ref pz, .ref ps, .long (lN pt), .int (nI pn)])), (pz, aI cI 62 Z), (ps, aJ cJ 63 S)] [(cI, .int), (cJ, .long)] [.ref xo, .int y] (fun v => v = bI (¬ knI pt pn y)) := by
  refine RO_i.ofz (cc := cX4_isUnknownPass) (maxL := 2) (by decide) rfl (Nat.le_of_ble_eq_true rfl) ?_
  intro p e s m args below meth c ls A Q hx hb hml hts hown hA hP hK hl hret
  have hown : s.vm.findClass RX4 = some m.cls := hown
  have hl : lv_has ls 2 [(0, .ref xo), (1, .int y)] := hl
  have hS : va_S A s.heap s.heap [] := va_S.rf
  have hinX4 : ∀ w ∈ wsX40, w ∈ wsX4_isUnknownPass := by decide +kernel
  refine lv_iload_n hx hb dX4_isUnknownPass_0 rfl (lv_at hl 1 rfl) ?_
  refine zq_if_lt (tgt := 25) hx hb dX4_isUnknownPass_1 (by decide) (fun c1 => ?_) (fun c1 => ?_)
  · refine lv_iconst (v := nI 1) hx hb dX4_isUnknownPass_25 (by decide) ?_
    refine lv_goto (tgt := 30) hx hb dX4_isUnknownPass_26 (by decide) ?_
    exact hret _ _ _ _ _ hS (Or.inr rfl) (bI_t' (by omega)) dX4_isUnknownPass_30
  · refine lv_aload_n hx hb dX4_isUnknownPass_4 rfl (lv_at hl 0 rfl) ?_
    refine va_get (D := D) (ci := 4) (v := .ref hp) (C := RX4) (T := TX4) (N := 5) hx hb hts hinX4 hown hK hP 0 rfl rfl 1 (by decide) (hts (.fieldLink RX4 28 "PassSearch" "plan" "LPassSearch$Plan;") (by decide +kernel)) (fun _ h9 => h9) rfl dX4_isUnknownPass_5 ?_
    refine RO_i.callV (rest := []) (c_X2_isLaid l D cI cJ hp pz ps bn pt pn Z S (by omega)) ⟨hx, hb, hml, hown, hts⟩ (cwV 0 hts gX4_isUnknownPass_X2_isLaid rfl rfl rfl (by decide +kernel) ⟨Nat.le_of_ble_eq_true rfl, Nat.le_of_ble_eq_true rfl⟩) hK hP hS hA [1, 2, 3] [0, 1] rfl rfl 1 3 rfl rfl rfl rfl hl.1 rfl (Nat.le_of_ble_eq_true rfl) dX4_isUnknownPass_8 ⟨Nat.zero_le _, Nat.zero_le _⟩ (fun v1_ H locs e1_ hP hS => ?_)
    obtain rfl : v1_ = bI (0 < pt) := e1_
    refine zb_eq (tgt := 29) hx hb dX4_isUnknownPass_11 (by decide) (fun c11 => ?_) (fun c11 => ?_)
    · refine lv_iconst (v := nI 0) hx hb dX4_isUnknownPass_29 (by decide) ?_
      exact hret _ _ _ _ _ hS (Or.inl rfl) (bI_f' (by omega)) dX4_isUnknownPass_30
    · refine lv_aload_n hx hb dX4_isUnknownPass_14 rfl (lv_at hl 0 rfl) ?_
      refine va_get (D := D) (ci := 4) (v := .ref hp) (C := RX4) (T := TX4) (N := 5) hx hb hts hinX4 hown hK hP 0 rfl rfl 1 (by decide) (hts (.fieldLink RX4 28 "PassSearch" "plan" "LPassSearch$Plan;") (by decide +kernel)) (fun _ h9 => h9) rfl dX4_isUnknownPass_15 ?_
      refine lv_iload_n hx hb dX4_isUnknownPass_18 rfl (lv_at hl 1 rfl) ?_
      refine RO_i.callV (rest := []) (c_X2_hasPass l D cI cJ hp pz ps bn pt pn Z S y (by omega)) ⟨hx, hb, hml, hown, hts⟩ (cwV 1 hts gX4_isUnknownPass_X2_hasPass rfl rfl rfl (by decide +kernel) ⟨Nat.le_of_ble_eq_true rfl, Nat.le_of_ble_eq_true rfl⟩) hK hP hS hA [1, 2, 3] [0, 1] rfl rfl 1 3 rfl rfl rfl rfl hl.1 rfl (Nat.le_of_ble_eq_true rfl) dX4_isUnknownPass_19 ⟨Nat.zero_le _, Nat.zero_le _⟩ (fun v2_ H locs e2_ hP hS => ?_)
      obtain rfl : v2_ = bI (0 ≤ y.toInt ∧ y.toInt < (pn : Int)) := e2_
      refine zb_ne (tgt := 29) hx hb dX4_isUnknownPass_22 (by decide) (fun c22 => ?_) (fun c22 => ?_)
      · refine lv_iconst (v := nI 0) hx hb dX4_isUnknownPass_29 (by decide) ?_
        exact hret _ _ _ _ _ hS (Or.inl rfl) (bI_f' (by omega)) dX4_isUnknownPass_30
      · refine lv_iconst (v := nI 1) hx hb dX4_isUnknownPass_25 (by decide) ?_
        refine lv_goto (tgt := 30) hx hb dX4_isUnknownPass_26 (by decide) ?_
        exact hret _ _ _ _ _ hS (Or.inr rfl) (bI_t' (by omega)) dX4_isUnknownPass_30
set_option maxHeartbeats 4000000 in
set_option maxRecDepth 100000 in
/-- isUnknownItem -/
theorem c_X4_isUnknownItem (l : Launch) (D : va_G) (cI cJ : ClassId) (xo hp hi hh ht bn : Nat) (pz ps pt pn : Nat) (Z S : Nat → Nat) (ia ib ic id gc tt : Nat) (P F C O : Nat → Nat) (y : Int32) (hpt : pt ≤ 4611686018427387904) (htt : tt ≤ 4000) : RO_i l yX4_isUnknownItem wsX4_isUnknownItem ({ frames := 1, cells := 0, slots := 0, locals := 20 } : Room) D [(xo, .inr (4, [.int (nI bn), .ref hp, .ref hi, .ref hh, .ref ht])), (hp, .inr (3, [.int (nI bn), .ref pz, .ref ps, .long (lN pt), .int (nI pn)])), (pz, aI cI 62 Z), (ps, aJ cJ 63 S), (hi, .inr (2, [.ref ia, .ref ib, .ref ic, .ref id, .int (nI gc), .int (nI tt)])), (ia, aJ cJ 512 P), (ib, aI cI 512 F), (ic, aI cI 512 C), (id, aI cI 512 O)] [(cI, .int), (cJ, .long)] [.ref xo, .int y] (fun v => v = bI (¬ knI pt tt y)) := by
  refine RO_i.ofz (cc := cX4_isUnknownItem) (maxL := 2) (by decide) rfl (Nat.le_of_ble_eq_true rfl) ?_
  intro p e s m args below meth c ls A Q hx hb hml hts hown hA hP hK hl hret
  have hown : s.vm.findClass RX4 = some m.cls := hown
  have hl : lv_has ls 2 [(0, .ref xo), (1, .int y)] := hl
  have hS : va_S A s.heap s.heap [] := va_S.rf
  have hinX4 : ∀ w ∈ wsX40, w ∈ wsX4_isUnknownItem := by decide +kernel
  refine lv_iload_n hx hb dX4_isUnknownItem_0 rfl (lv_at hl 1 rfl) ?_
  refine zq_if_lt (tgt := 25) hx hb dX4_isUnknownItem_1 (by decide) (fun c1 => ?_) (fun c1 => ?_)
  · refine lv_iconst (v := nI 1) hx hb dX4_isUnknownItem_25 (by decide) ?_
    refine lv_goto (tgt := 30) hx hb dX4_isUnknownItem_26 (by decide) ?_
    exact hret _ _ _ _ _ hS (Or.inr rfl) (bI_t' (by omega)) dX4_isUnknownItem_30
  · refine lv_aload_n hx hb dX4_isUnknownItem_4 rfl (lv_at hl 0 rfl) ?_
    refine va_get (D := D) (ci := 4) (v := .ref hp) (C := RX4) (T := TX4) (N := 5) hx hb hts hinX4 hown hK hP 0 rfl rfl 1 (by decide) (hts (.fieldLink RX4 28 "PassSearch" "plan" "LPassSearch$Plan;") (by decide +kernel)) (fun _ h9 => h9) rfl dX4_isUnknownItem_5 ?_
    refine RO_i.callV (rest := []) (c_X2_isLaid l D cI cJ hp pz ps bn pt pn Z S (by omega)) ⟨hx, hb, hml, hown, hts⟩ (cwV 0 hts gX4_isUnknownItem_X2_isLaid rfl rfl rfl (by decide +kernel) ⟨Nat.le_of_ble_eq_true rfl, Nat.le_of_ble_eq_true rfl⟩) hK hP hS hA [1, 2, 3] [0, 1] rfl rfl 1 3 rfl rfl rfl rfl hl.1 rfl (Nat.le_of_ble_eq_true rfl) dX4_isUnknownItem_8 ⟨Nat.zero_le _, Nat.zero_le _⟩ (fun v1_ H locs e1_ hP hS => ?_)
    obtain rfl : v1_ = bI (0 < pt) := e1_
    refine zb_eq (tgt := 29) hx hb dX4_isUnknownItem_11 (by decide) (fun c11 => ?_) (fun c11 => ?_)
    · refine lv_iconst (v := nI 0) hx hb dX4_isUnknownItem_29 (by decide) ?_
      exact hret _ _ _ _ _ hS (Or.inl rfl) (bI_f' (by omega)) dX4_isUnknownItem_30
    · refine lv_iload_n hx hb dX4_isUnknownItem_14 rfl (lv_at hl 1 rfl) ?_
      refine lv_aload_n hx hb dX4_isUnknownItem_15 rfl (lv_at hl 0 rfl) ?_
      refine va_get (D := D) (ci := 4) (v := .ref hi) (C := RX4) (T := TX4) (N := 5) hx hb hts hinX4 hown hK hP 0 rfl rfl 2 (by decide) (hts (.fieldLink RX4 35 "PassSearch" "items" "LPassSearch$Items;") (by decide +kernel)) (fun _ h9 => h9) rfl dX4_isUnknownItem_16 ?_
      refine RO_i.callV (rest := [.int y]) (c_X1_total l D cI cJ hi ia ib ic id gc tt P F C O) ⟨hx, hb, hml, hown, hts⟩ (cwV 0 hts gX4_isUnknownItem_X1_total rfl rfl rfl (by decide +kernel) ⟨Nat.le_of_ble_eq_true rfl, Nat.le_of_ble_eq_true rfl⟩) hK hP hS hA [4, 5, 6, 7, 8] [0, 1] rfl rfl 4 2 rfl rfl rfl rfl hl.1 rfl (Nat.le_of_ble_eq_true rfl) dX4_isUnknownItem_19 ⟨Nat.zero_le _, Nat.zero_le _⟩ (fun v2_ H locs e2_ hP hS => ?_)
      obtain rfl : v2_ = nI tt := e2_
      refine zq_lt (tgt := 29) hx hb dX4_isUnknownItem_22 (by decide) (fun c22 => ?_) (fun c22 => ?_)
      · rw [nI_toInt (by omega)] at c22
        refine lv_iconst (v := nI 0) hx hb dX4_isUnknownItem_29 (by decide) ?_
        exact hret _ _ _ _ _ hS (Or.inl rfl) (bI_f' (by omega)) dX4_isUnknownItem_30
      · rw [nI_toInt (by omega)] at c22
        refine lv_iconst (v := nI 1) hx hb dX4_isUnknownItem_25 (by decide) ?_
        refine lv_goto (tgt := 30) hx hb dX4_isUnknownItem_26 (by decide) ?_
        exact hret _ _ _ _ _ hS (Or.inr rfl) (bI_t' (by omega)) dX4_isUnknownItem_30
set_option maxHeartbeats 4000000 in
set_option maxRecDepth 100000 in
/-- digit -/
theorem c_X4_digit (l : Launch) (D : va_G) (cI cJ : ClassId) (xo hp hi hh ht bn : Nat) (pz ps pt pn : Nat) (Z S : Nat → Nat) (x : Int64) (y : Int32) (hpl : xPlan bn pt pn Z S) : RO_i l yX4_digit wsX4_digit ({ frames := 2, cells := 0, slots := 0, locals := 46 } : Room) D [(xo, .inr (4, [.int (nI bn), .ref hp, .ref hi, .ref hh, .ref ht])), (hp, .inr (3, [.int (nI bn), .ref pz, .ref ps, .long (lN pt), .int (nI pn)])), (pz, aI cI 62 Z), (ps, aJ cJ 63 S)] [(cI, .int), (cJ, .long)] [.ref xo, .long x, .int y] (fun v => v = sDigit pt pn Z S x y) := by
  refine RO_i.of (cc := cX4_digit) (maxL := 4) (by decide) rfl (Nat.le_of_ble_eq_true rfl) ?_
  intro p e s m args below meth c ls A Q hx hb hml hts hown hA hP hK hl hret
  have hown : s.vm.findClass RX4 = some m.cls := hown
  have hl : lv_has ls 4 [(0, .ref xo), (1, .long x), (3, .int y)] := hl
  have hS : va_S A s.heap s.heap [] := va_S.rf
  have hinX4 : ∀ w ∈ wsX40, w ∈ wsX4_digit := by decide +kernel
  have hpt := hpl.1
  have hpn := hpl.2.1
  refine lv_aload_n hx hb dX4_digit_0 rfl (lv_at hl 0 rfl) ?_
  refine lv_lload_n hx hb dX4_digit_1 rfl (lv_at hl 1 rfl) ?_
  refine RO_i.callV (rest := []) (c_X4_isUnknownPoint l D cI cJ xo hp hi hh ht bn pz ps pt pn Z S x hpt) ⟨hx, hb, hml, hown, hts⟩ (cwV 1 hts gX4_digit_X4_isUnknownPoint rfl rfl rfl (by decide +kernel) ⟨Nat.le_of_ble_eq_true rfl, Nat.le_of_ble_eq_true rfl⟩) hK hP hS hA [0, 1, 2, 3] [0, 1] rfl rfl 0 4 rfl rfl rfl rfl hl.1 rfl (Nat.le_of_ble_eq_true rfl) dX4_digit_2 ⟨Nat.zero_le _, Nat.zero_le _⟩ (fun v1_ H locs e1_ hP hS => ?_)
  obtain rfl : v1_ = bI (¬ knL pt x) := e1_
  refine zb_ne (tgt := 16) hx hb dX4_digit_5 (by decide) (fun c5 => ?_) (fun c5 => ?_)
  · refine lv_iconst (v := (-1)) hx hb dX4_digit_16 (by decide) ?_
    exact hret _ _ _ _ _ hS (by rw [sDigit, if_neg (fun q => c5 q.1)]) dX4_digit_17
  · refine lv_aload_n hx hb dX4_digit_8 rfl (lv_at hl 0 rfl) ?_
    refine lv_iload_n hx hb dX4_digit_9 rfl (lv_at hl 2 rfl) ?_
    refine RO_i.callV (rest := []) (c_X4_isUnknownPass l D cI cJ xo hp hi hh ht bn pz ps pt pn Z S y hpt hpn) ⟨hx, hb, hml, hown, hts⟩ (cwV 1 hts gX4_digit_X4_isUnknownPass rfl rfl rfl (by decide +kernel) ⟨Nat.le_of_ble_eq_true rfl, Nat.le_of_ble_eq_true rfl⟩) hK hP hS hA [0, 1, 2, 3] [0, 1] rfl rfl 0 4 rfl rfl rfl rfl hl.1 rfl (Nat.le_of_ble_eq_true rfl) dX4_digit_10 ⟨Nat.zero_le _, Nat.zero_le _⟩ (fun v2_ H locs e2_ hP hS => ?_)
    obtain rfl : v2_ = bI (¬ knI pt pn y) := e2_
    refine zb_eq (tgt := 18) hx hb dX4_digit_13 (by decide) (fun c13 => ?_) (fun c13 => ?_)
    · refine lv_aload_n hx hb dX4_digit_18 rfl (lv_at hl 0 rfl) ?_
      refine va_get (D := D) (ci := 4) (v := .ref hp) (C := RX4) (T := TX4) (N := 5) hx hb hts hinX4 hown hK hP 0 rfl rfl 1 (by decide) (hts (.fieldLink RX4 28 "PassSearch" "plan" "LPassSearch$Plan;") (by decide +kernel)) (fun _ h9 => h9) rfl dX4_digit_19 ?_
      refine RO_i.callV (rest := []) (c_X2_isLaid l D cI cJ hp pz ps bn pt pn Z S (by omega)) ⟨hx, hb, hml, hown, hts⟩ (cwV 0 hts gX4_digit_X2_isLaid rfl rfl rfl (by decide +kernel) ⟨Nat.le_of_ble_eq_true rfl, Nat.le_of_ble_eq_true rfl⟩) hK hP hS hA [1, 2, 3] [0, 1] rfl rfl 1 3 rfl rfl rfl rfl hl.1 rfl (Nat.le_of_ble_eq_true rfl) dX4_digit_22 ⟨Nat.zero_le _, Nat.zero_le _⟩ (fun v3_ H locs e3_ hP hS => ?_)
      obtain rfl : v3_ = bI (0 < pt) := e3_
      refine zb_eq (tgt := 40) hx hb dX4_digit_25 (by decide) (fun c25 => ?_) (fun c25 => ?_)
      · refine lv_bipush (v := (-3)) hx hb dX4_digit_40 (by decide) ?_
        exact hret _ _ _ _ _ hS (by rw [sDigit, if_pos ⟨Classical.not_not.mp c5, Classical.not_not.mp c13⟩, if_pos (by omega)]) dX4_digit_42
      · have c5 := Classical.not_not.mp c5
        have c13 := Classical.not_not.mp c13
        obtain ⟨a, ha, rfl, hxa⟩ := l_of c5.1
        obtain ⟨k, hk, rfl, hyk⟩ := i_of c13.1
        have hip := (hpl.2.2.2.2 c25).2
        have hZk := plan_Z hip (k := k) (by omega)
        have hbn := hpl.2.2.1
        refine lv_aload_n hx hb dX4_digit_28 rfl (lv_at hl 0 rfl) ?_
        refine va_get (D := D) (ci := 4) (v := .ref hp) (C := RX4) (T := TX4) (N := 5) hx hb hts hinX4 hown hK hP 0 rfl rfl 1 (by decide) (hts (.fieldLink RX4 28 "PassSearch" "plan" "LPassSearch$Plan;") (by decide +kernel)) (fun _ h9 => h9) rfl dX4_digit_29 ?_
        refine lv_lload_n hx hb dX4_digit_32 rfl (lv_at hl 1 rfl) ?_
        refine lv_iload_n hx hb dX4_digit_33 rfl (lv_at hl 2 rfl) ?_
        refine RO_i.callV (rest := []) (c_X2_binOf l D cI cJ hp pz ps bn pt pn Z S a k (by omega) hpn ha (plan_S hip (by omega)) ⟨by omega, by omega⟩) ⟨hx, hb, hml, hown, hts⟩ (cwV 2 hts gX4_digit_X2_binOf rfl rfl rfl (by decide +kernel) ⟨Nat.le_of_ble_eq_true rfl, Nat.le_of_ble_eq_true rfl⟩) hK hP hS hA [1, 2, 3] [0, 1] rfl rfl 1 3 rfl rfl rfl rfl hl.1 rfl (Nat.le_of_ble_eq_true rfl) dX4_digit_34 ⟨Nat.zero_le _, Nat.zero_le _⟩ (fun v4_ H locs e4_ hP hS => ?_)
        obtain rfl : v4_ = nI (a / S k % Z k) := e4_
        refine lv_goto (tgt := 42) hx hb dX4_digit_37 (by decide) ?_
        exact hret _ _ _ _ _ hS (by rw [sDigit, if_pos ⟨c5, c13⟩, if_neg (by omega), hxa, hyk]; rfl) dX4_digit_42
    · refine lv_iconst (v := (-1)) hx hb dX4_digit_16 (by decide) ?_
      exact hret _ _ _ _ _ hS (by rw [sDigit, if_neg (fun q => c13 q.2)]) dX4_digit_17
set_option maxHeartbeats 4000000 in
set_option maxRecDepth 100000 in
/-- best -/
theorem c_X4_best (l : Launch) (D : va_G) (cI cJ : ClassId) (xo hp hi hh ht bn : Nat) (x : Int64) (y : Int32) : RO_i l yX4_best wsX4_best ({ frames := 4, cells := 0, slots := 0, locals := 102 } : Room) D [(xo, .inr (4, [.int (nI bn), .ref hp, .ref hi, .ref hh, .ref ht]))] [(cI, .int), (cJ, .long)] [.ref xo, .long x, .int y] (fun v => (¬ (rnd x ∧ 1 ≤ y.toInt ∧ y.toInt ≤ 62) → v = -2) ∧ (rnd x ∧ 1 ≤ y.toInt ∧ y.toInt ≤ 62 → ∃ xb, isBase x.toInt.toNat y.toInt.toNat 2147483647 xb ∧ v = if 2147483647 < xb then -2 else nI xb)) := by
  refine RO_i.of (cc := cX4_best) (maxL := 6) (by decide) rfl (Nat.le_of_ble_eq_true rfl) ?_
  intro p e s m args below meth c ls A Q hx hb hml hts hown hA hP hK hl hret
  have hown : s.vm.findClass RX4 = some m.cls := hown
  have hl : lv_has ls 6 [(0, .ref xo), (1, .long x), (3, .int y)] := hl
  have hS : va_S A s.heap s.heap [] := va_S.rf
  refine lv_lload_n hx hb dX4_best_0 rfl (lv_at hl 1 rfl) ?_
  refine RO_i.callS (rest := []) (c_X4_isRound l D x) ⟨hx, hb, hml, hown, hts⟩ (va_cwS 1 hts gX4_best_X4_isRound rfl rfl rfl (by decide +kernel) ⟨Nat.le_of_ble_eq_true rfl, Nat.le_of_ble_eq_true rfl⟩) hK hP hS hA [] [] rfl rfl rfl hl.1 rfl (Nat.le_of_ble_eq_true rfl) dX4_best_1 ⟨Nat.zero_le _, Nat.zero_le _⟩ (fun v1_ H locs e1_ hP hS => ?_)
  obtain rfl : v1_ = bI (rnd x) := e1_
  refine zb_eq (tgt := 18) hx hb dX4_best_4 (by decide) (fun c4 => ?_) (fun c4 => ?_)
  · refine lv_bipush (v := (-2)) hx hb dX4_best_18 (by decide) ?_
    exact hret _ _ _ _ _ hS (⟨fun _ => rfl, fun q => absurd q.1 c4⟩) dX4_best_20
  · refine lv_iload_n hx hb dX4_best_7 rfl (lv_at hl 2 rfl) ?_
    refine lv_iconst (v := nI 1) hx hb dX4_best_8 (by decide) ?_
    refine zq_lt (tgt := 18) hx hb dX4_best_9 (by decide) (fun c9 => ?_) (fun c9 => ?_)
    · rw [show (nI 1).toInt = 1 from by decide] at c9
      refine lv_bipush (v := (-2)) hx hb dX4_best_18 (by decide) ?_
      exact hret _ _ _ _ _ hS (⟨fun _ => rfl, fun q => by omega⟩) dX4_best_20
    · rw [show (nI 1).toInt = 1 from by decide] at c9
      refine lv_iload_n hx hb dX4_best_12 rfl (lv_at hl 2 rfl) ?_
      refine lv_bipush (v := nI 62) hx hb dX4_best_13 (by decide) ?_
      refine zq_le (tgt := 21) hx hb dX4_best_15 (by decide) (fun c15 => ?_) (fun c15 => ?_)
      · rw [show (nI 62).toInt = 62 from by decide] at c15
        obtain ⟨a, ha, rfl, hxa⟩ := l_of (x := x) (by omega)
        obtain ⟨k, hk, rfl, hyk⟩ := i_of (x := y) (by omega)
        refine lv_lload_n hx hb dX4_best_21 rfl (lv_at hl 1 rfl) ?_
        refine lv_iload_n hx hb dX4_best_22 rfl (lv_at hl 2 rfl) ?_
        refine lv_ldc2 (v := 2147483647) hx hb hown (hts (.constantLong RX4 88 (2147483647)) (by decide +kernel)) dX4_best_23 ?_
        refine W.eq (g2 := F0 m 26 ls [.long (lN 2147483647), .int (nI k), .long (lN a)]) rfl ?_
        refine RO_l.callS (rest := []) (c_X3_leastBase l D a k 2147483647 (by omega) (by omega) (by omega) (by omega)) ⟨hx, hb, hml, hown, hts⟩ (va_cwS 3 hts gX4_best_X3_leastBase rfl rfl rfl (by decide +kernel) ⟨Nat.le_of_ble_eq_true rfl, Nat.le_of_ble_eq_true rfl⟩) hK hP hS hA [] [] rfl rfl rfl hl.1 rfl (Nat.le_of_ble_eq_true rfl) dX4_best_26 ⟨Nat.zero_le _, Nat.zero_le _⟩ (fun v2_ H locs e2_ hP hS => ?_)
        obtain ⟨xb, rfl, hxb⟩ := e2_
        have hxb2 := hxb.2.1
        refine lv_lstore (lv' := [(4, .long (lN xb)), (0, .ref xo), (1, .long (lN a)), (3, .int (nI k))]) hx hb dX4_best_29 hl (by decide) rfl (fun ls hl => ?_)
        refine lv_lload hx hb dX4_best_31 (lv_at hl 0 rfl) ?_
        refine lv_ldc2 (v := 2147483647) hx hb hown (hts (.constantLong RX4 88 (2147483647)) (by decide +kernel)) dX4_best_33 ?_
        refine W.eq (g2 := F0 m 36 ls [.long (lN 2147483647), .long (lN xb)]) rfl ?_
        refine zl_le (tgt := 45) hx hb dX4_best_36 dX4_best_37 (by decide) (by omega) (by omega) (fun c36 => ?_) (fun c36 => ?_)
        · refine lv_lload hx hb dX4_best_45 (lv_at hl 0 rfl) ?_
          refine z_l2i hx hb dX4_best_47 ?_
          exact hret _ _ _ _ _ hS (⟨fun q => absurd ⟨c4, by omega, by omega⟩ q, fun _ => ⟨xb, by rw [hxa, hyk]; exact hxb, (if_neg (by omega)).symm⟩⟩) dX4_best_48
        · have e0 : ((-2 : Int32)) = -2 := rfl
          refine lv_bipush (v := (-2)) hx hb dX4_best_40 (by decide) ?_
          refine lv_goto (tgt := 48) hx hb dX4_best_42 (by decide) ?_
          exact hret _ _ _ _ _ hS (⟨fun _ => rfl, fun _ => ⟨xb, by rw [hxa, hyk]; exact hxb, (if_pos c36).symm⟩⟩) dX4_best_48
      · rw [show (nI 62).toInt = 62 from by decide] at c15
        refine lv_bipush (v := (-2)) hx hb dX4_best_18 (by decide) ?_
        exact hret _ _ _ _ _ hS (⟨fun _ => rfl, fun q => by omega⟩) dX4_best_20
set_option maxHeartbeats 4000000 in
set_option maxRecDepth 100000 in
/-- least -/
theorem c_X4_least (l : Launch) (D : va_G) (cI cJ : ClassId) (xo hp hi hh ht bn : Nat) (x : Int64) (y : Int32) (hbn : bn ≤ 65536) : RO_i l yX4_least wsX4_least ({ frames := 3, cells := 0, slots := 0, locals := 72 } : Room) D [(xo, .inr (4, [.int (nI bn), .ref hp, .ref hi, .ref hh, .ref ht]))] [(cI, .int), (cJ, .long)] [.ref xo, .long x, .int y] (fun v => (¬ (2 ≤ bn ∧ rnd x) → v = bI False) ∧ (2 ≤ bn ∧ rnd x → ∃ xe, xe ≤ 62 ∧ isExp bn x.toInt.toNat xe ∧ v = bI (y.toInt = (xe : Int)))) := by
  refine RO_i.ofz (cc := cX4_least) (maxL := 4) (by decide) rfl (Nat.le_of_ble_eq_true rfl) ?_
  intro p e s m args below meth c ls A Q hx hb hml hts hown hA hP hK hl hret
  have hown : s.vm.findClass RX4 = some m.cls := hown
  have hl : lv_has ls 4 [(0, .ref xo), (1, .long x), (3, .int y)] := hl
  have hS : va_S A s.heap s.heap [] := va_S.rf
  have hinX4 : ∀ w ∈ wsX40, w ∈ wsX4_least := by decide +kernel
  refine lv_aload_n hx hb dX4_least_0 rfl (lv_at hl 0 rfl) ?_
  refine va_get (D := D) (ci := 4) (v := .int (nI bn)) (C := RX4) (T := TX4) (N := 5) hx hb hts hinX4 hown hK hP 0 rfl rfl 0 (by decide) (hts (.fieldLink RX4 19 "PassSearch" "bins" "I") (by decide +kernel)) (fun _ h9 => h9) rfl dX4_least_1 ?_
  refine lv_iconst (v := nI 2) hx hb dX4_least_4 (by decide) ?_
  refine zi_lt (tgt := 32) hx hb dX4_least_5 (by decide) (by omega) (by omega) (fun c5 => ?_) (fun c5 => ?_)
  · refine lv_iconst (v := nI 0) hx hb dX4_least_32 (by decide) ?_
    exact hret _ _ _ _ _ hS (Or.inl rfl) (⟨fun _ => bI_f' id, fun q => by omega⟩) dX4_least_33
  · refine lv_lload_n hx hb dX4_least_8 rfl (lv_at hl 1 rfl) ?_
    refine RO_i.callS (rest := []) (c_X4_isRound l D x) ⟨hx, hb, hml, hown, hts⟩ (va_cwS 1 hts gX4_least_X4_isRound rfl rfl rfl (by decide +kernel) ⟨Nat.le_of_ble_eq_true rfl, Nat.le_of_ble_eq_true rfl⟩) hK hP hS hA [] [] rfl rfl rfl hl.1 rfl (Nat.le_of_ble_eq_true rfl) dX4_least_9 ⟨Nat.zero_le _, Nat.zero_le _⟩ (fun v1_ H locs e1_ hP hS => ?_)
    obtain rfl : v1_ = bI (rnd x) := e1_
    refine zb_eq (tgt := 32) hx hb dX4_least_12 (by decide) (fun c12 => ?_) (fun c12 => ?_)
    · refine lv_iconst (v := nI 0) hx hb dX4_least_32 (by decide) ?_
      exact hret _ _ _ _ _ hS (Or.inl rfl) (⟨fun _ => bI_f' id, fun q => absurd q.2 c12⟩) dX4_least_33
    · obtain ⟨a, ha, rfl, hxa⟩ := l_of (x := x) (by omega)
      refine lv_iload_n hx hb dX4_least_15 rfl (lv_at hl 2 rfl) ?_
      refine lv_aload_n hx hb dX4_least_16 rfl (lv_at hl 0 rfl) ?_
      refine va_get (D := D) (ci := 4) (v := .int (nI bn)) (C := RX4) (T := TX4) (N := 5) hx hb hts hinX4 hown hK hP 0 rfl rfl 0 (by decide) (hts (.fieldLink RX4 19 "PassSearch" "bins" "I") (by decide +kernel)) (fun _ h9 => h9) rfl dX4_least_17 ?_
      refine z_i2l hx hb dX4_least_20 (by omega) ?_
      refine lv_lload_n hx hb dX4_least_21 rfl (lv_at hl 1 rfl) ?_
      refine RO_i.callS (rest := [.int y]) (c_X3_leastExponent l D bn a (by omega) (by omega) (by omega)) ⟨hx, hb, hml, hown, hts⟩ (va_cwS 2 hts gX4_least_X3_leastExponent rfl rfl rfl (by decide +kernel) ⟨Nat.le_of_ble_eq_true rfl, Nat.le_of_ble_eq_true rfl⟩) hK hP hS hA [] [] rfl rfl rfl hl.1 rfl (Nat.le_of_ble_eq_true rfl) dX4_least_22 ⟨Nat.zero_le _, Nat.zero_le _⟩ (fun v2_ H locs e2_ hP hS => ?_)
      obtain ⟨xe, rfl, hx1, hx2⟩ := e2_
      refine zq_ne (tgt := 32) hx hb dX4_least_25 (by decide) (fun c25 => ?_) (fun c25 => ?_)
      · rw [nI_toInt (by omega)] at c25
        refine lv_iconst (v := nI 0) hx hb dX4_least_32 (by decide) ?_
        exact hret _ _ _ _ _ hS (Or.inl rfl) (⟨fun q => absurd ⟨c5, c12⟩ q, fun _ => ⟨xe, hx1, by rw [hxa]; exact hx2, bI_f' c25⟩⟩) dX4_least_33
      · rw [nI_toInt (by omega)] at c25
        refine lv_iconst (v := nI 1) hx hb dX4_least_28 (by decide) ?_
        refine lv_goto (tgt := 33) hx hb dX4_least_29 (by decide) ?_
        exact hret _ _ _ _ _ hS (Or.inr rfl) (⟨fun q => absurd ⟨c5, c12⟩ q, fun _ => ⟨xe, hx1, by rw [hxa]; exact hx2, bI_t' c25⟩⟩) dX4_least_33
end
