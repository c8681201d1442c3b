/-! words of the two throws -/
abbrev nmI : List String := ["java/lang/RuntimeException", "java/lang/Exception"]
abbrev nmA : List String := ["java/lang/IndexOutOfBoundsException", "java/lang/RuntimeException", "java/lang/Exception"]
abbrev clI : String := "java/lang/IllegalArgumentException"
abbrev atI : List Cond := vx_atS RX4 53 clI nmI
abbrev atA : List Cond := vx_atS RX4 139 RJx00060 nmA
/-- the words of a throw that aren't good ones: the tables alone decide them -/
def zb (cls : String) (ns : List String) : List Cond := Cond.castable cls cls :: ns.map (fun n => Cond.declares (Bundle.initS n))
theorem zb_warm {cls : String} {ns : List String} {s U : State} (hW : s.WarmedH U.vm) (h : ∀ w ∈ zb cls ns, va_Nw w s) : ∀ w ∈ zb cls ns, va_Nw w U := by
  intro w hw
  have h1 := h w hw
  rcases List.mem_cons.mp hw with e | e
  · subst e; exact va_Nw.warmC hW h1
  · obtain ⟨n, -, rfl⟩ := List.mem_map.mp e
    exact va_Nw.warmD hW h1
theorem zb_ot {cls : String} {ns : List String} : ∀ w ∈ zb cls ns, w.onTables = true := by
  intro w hw
  rcases List.mem_cons.mp hw with e | e
  · subst e; rfl
  · obtain ⟨n, -, rfl⟩ := List.mem_map.mp e
    rfl
theorem zb_same {cls : String} {ns : List String} {s U : State} (hv : s.vm = U.vm) (h : ∀ w ∈ zb cls ns, va_Nw w s) : ∀ w ∈ zb cls ns, va_Nw w U := fun w hw => va_Nw.same (zb_ot w hw) hv (h w hw)
theorem zb_use {cls : String} {ns : List String} {s : State} {args : Array Value} (h : ∀ w ∈ zb cls ns, va_Nw w s) : ∀ w ∈ zb cls ns, w.before args s = true := fun w hw => va_Nw.use (zb_ot w hw) (h w hw)
abbrev bdI : List Cond := zb clI ["java/lang/RuntimeException", "java/lang/Exception", Bundle.tN]
abbrev bdA : List Cond := zb RJx00060 ["java/lang/IndexOutOfBoundsException", "java/lang/RuntimeException", "java/lang/Exception", Bundle.tN]
theorem zw_atI : ∀ w ∈ atI.filter (fun w => !goodWord w), w ∈ bdI := by decide +kernel
theorem zw_atA : ∀ w ∈ atA.filter (fun w => !goodWord w), w ∈ bdA := by decide +kernel
/-- the words of digits, with those of its throw -/
def wsX4_digitsB : List Cond := .code yX4_digits cX4_digits 2 (some .int) :: (wsX4_digits ++ atA.filter goodWord)
def wsL_digitsB : List Cond := .codeWith yL_digits cL_digits 4 (some .int) [(0, 9, 12, 19)] :: (wsL_digits ++ Cond.classLink RL 19 RJx00060 :: atA.filter goodWord)
section ZX
variable {p : Program} {l : Launch} {e : Env} {R : Room} {s : State} {m : MethodId} {args : Array Value} {below : List Frame} {meth : Method} {c : Code} {H : Heap} {locs : List Loc} {cells slots : Nat} {Q : State → Prop} {pc : Nat} {ls : Array Slot} {rest : List Value}
/-- the one row of this method's table takes it -/
theorem zx_catch {own name E : String} {ce : Cell} {q : Addr} {x : ExceptionTableEntry} (hown : s.vm.findClass own = some m.cls) (htab : c.exceptionTable.toList = [x]) (hx : covers x pc = true) (h0 : x.catchType ≠ 0)
    (hlink : (Cond.classLink own x.catchType name).before args s = true) (hcast : (Cond.castable E name).before args s = true) (hcell : H[q]? = some ce) (hv : ce.vm = .none) (hcl : s.vm.findClass E = some ce.cls)
    (kk : W p l e R s m args below meth c H locs cells slots Q (F0 m x.handlerPc ls [.ref q])) : vx_W p l e R s m args below meth c H locs cells slots Q (F0 m pc ls rest) q := by
  intro T hT X
  have hpl : e.platform.magicAccessors = ({} : Platform).magicAccessors := by rw [X.admits.platform]
  obtain ⟨c3, c4, hc3, hc4, hasg⟩ := Cond.castable_spec hcast
  cases Option.some.inj (hc3.symm.trans hcl)
  obtain ⟨c5, hc5, hl5⟩ := Cond.classLink_spec hown hlink e.platform hpl
  cases Option.some.inj (hc4.symm.trans hc5)
  obtain ⟨dk, _, _, kt, hd, _, _, _, _, hkt, _, hopen⟩ := hl5.here
  have hal := X.warmed.alike
  have hW2 : s.WarmedH (T.vm.noted m.cls x.catchType (.cls c4)) := X.warmed.noted hd hopen (State.rightAt_cls hl5)
  have hT5 := X.warmed.classLinks hl5
  obtain ⟨t, a1, b1⟩ := kk (T.setVm (T.vm.noted m.cls x.catchType (.cls c4))) hT (X.noted hW2)
  refine ⟨t, ?_, b1⟩
  have hk1 : ∃ k, T.vm.classes[ce.cls]? = some k := by
    obtain ⟨k9, h9, -⟩ := Vm.findClass_spec hcl
    obtain ⟨k8, h8, -⟩ := hal.2.2 _ _ h9
    exact ⟨k8, h8⟩
  have hk2 : ∃ k, T.vm.classes[c4]? = some k := by
    obtain ⟨k8, h8, -⟩ := hal.2.2 _ _ hkt
    exact ⟨k8, h8⟩
  have hfit : T.vm.assignable ce.cls c4 = true := by rw [hal.assignable]; exact hasg
  have hal2 : T.vm.Alike (T.vm.noted m.cls x.catchType (.cls c4)) := (Vm.Alike.refl T.vm).noted _ _ _
  obtain ⟨k1, hk1⟩ := hk1
  obtain ⟨k2, hk2⟩ := hk2
  obtain ⟨j1, hj1, -⟩ := hal2.2.2 _ _ hk1
  obtain ⟨j2, hj2, -⟩ := hal2.2.2 _ _ hk2
  have hfit2 : (T.vm.noted m.cls x.catchType (.cls c4)).assignable ce.cls c4 = true := by rw [hal2.assignable]; exact hfit
  obtain ⟨S, hS⟩ : ∃ S, S = (T.setTop (F0 m pc ls rest)).pushFrame (.throwing q) := ⟨_, rfl⟩
  have hSvm : S.vm = T.vm := by rw [hS]; rfl
  have hShp : S.heap = T.heap := by rw [hS]; rfl
  have hfind : ∀ (Q9 : Handler → Pre) (E9 : CtlPost) (d9 : Bool) (acts : List Action), wp (findHandler (F0 m pc ls rest) q) Q9 E9 e d9 acts S ↔ Q9 (.found x.handlerPc) d9 acts (S.setVm (T.vm.noted m.cls x.catchType (.cls c4))) := by
    intro Q9 E9 d9 acts
    rw [W.findHandler_eq (meth := meth) (code := c) (by rw [hSvm]; exact X.method') X.code, htab]
    have hx2 := hx
    simp only [covers] at hx2
    have hl6 : S.vm.ClassLinks e.platform m.cls x.catchType c4 := by rw [hSvm]; exact hT5
    obtain ⟨ha, ht⟩ := (resolveClass_links e.toSetting hl6).op (op := VmOp.resolveClass m.cls x.catchType) rfl
    have hcS : S.heap[q]? = some ce := by rw [hShp, hT]; exact hcell
    have hob : ∀ k, ce.vm ≠ .statics k := by rw [hv]; intro k h; cases h
    rw [hSvm] at ha ht
    simp [findHandler.go, F0, hx2, h0, ha, ht, hcS, hob, hj1, hj2, hfit2, VmOp.dirties, VmOp.acts, hSvm]
  obtain ⟨hgo, hw⟩ := (show At T (F0 m pc ls rest).method c below from X.here).throwing q
  rw [← hS] at hgo hw ⊢
  refine Steps.head hgo hw ?_
  have hfr : S.frames = .throwing q :: .java (F0 m pc ls rest) :: T.frames.tail := by rw [hS]; exact frames_entered X.here.top _
  rw [stepThread_throwing hfr]
  have hst : (stepThrowing e S q (.java (F0 m pc ls rest) :: T.frames.tail)).Is ((S.setVm (T.vm.noted m.cls x.catchType (.cls c4))).setFrames (.java { (F0 m pc ls rest) with pc := x.handlerPc, stack := [.ref q] } :: T.frames.tail)) [] := by
    simp only [stepThrowing, searchFrame, vmDo]
    generalize hr : Sem.go _ e false [] S = res
    obtain ⟨as, rfl, ha⟩ := Sem.eq_ok_of hr (a := Handler.found x.handlerPc) (s' := S.setVm (T.vm.noted m.cls x.catchType (.cls c4))) (acts' := []) (by simp [hfind _ _ _ _])
    exact ⟨rfl, ha⟩
  rw [hst.1]
  obtain ⟨g₀, hg⟩ := Option.isSome_iff_exists.mp X.here.top
  obtain ⟨r, hr⟩ := State.topJava?_eq_some.mp hg
  have hr2 : (T.setVm (T.vm.noted m.cls x.catchType (.cls c4))).frames = .java g₀ :: r := hr
  rw [State.setTop_of_frames _ hr2] at a1
  rw [hr, List.tail_cons]
  have e9 : (S.setVm (T.vm.noted m.cls x.catchType (.cls c4))).setFrames (.java { (F0 m pc ls rest) with pc := x.handlerPc, stack := [.ref q] } :: r) = (T.setVm (T.vm.noted m.cls x.catchType (.cls c4))).setFrames (.java { (F0 m pc ls rest) with pc := x.handlerPc, stack := [.ref q] } :: r) := by
    rw [hS, State.pushFrame, State.setTop_of_frames _ hr, State.setFrames_setFrames]
    have h1 : ∀ F, (T.setFrames F).setVm (T.vm.noted m.cls x.catchType (.cls c4)) = (T.setVm (T.vm.noted m.cls x.catchType (.cls c4))).setFrames F := fun F => rfl
    rw [h1, State.setFrames_setFrames]
  rw [e9]
  exact a1
end ZX
abbrev zxZ (A : Nat → Prop) (U : State) (H : Heap) : Prop := vx_Zq Bundle.tN "UNASSIGNED_STACK" Bundle.steD A U H ∧ vx_Zq Bundle.tN "SUPPRESSED_SENTINEL" Bundle.listD A U H
theorem zxZ.move {A B : Nat → Prop} {u U : State} {H H1 : Heap} (h : zxZ A u H) (hvm : u.vm.Alike U.vm) (hq : ∀ a : Nat, a < H.size → ¬ A a → H1[a]? = H[a]?) (hAB : ∀ q, B q → A q) : zxZ B U H1 :=
  ⟨((h.1.moved hvm).kept hq).narrow hAB, ((h.2.moved hvm).kept hq).narrow hAB⟩
/-- a method that writes, or throws cls where pxc holds, its world as it was -/
def VX_i (Px : State → Prop) (cls : String) (pxc : Prop) (l : Launch) (y : MethodName) (ws : List Cond) (rm : Room) (D : va_G) (Wd : va_W) (tys : List (ClassId × FieldType)) (As : List Value) {S : Type} (mk : S → va_W) (post : Int32 → S → Prop) (mc ms : Nat) : Prop :=
  ∀ sz : Nat, vx_Met l y ws rm (va_Pc As (fun U => U.heap.size = sz ∧ va_P D vwCl Wd U.heap ∧ va_K D vwCl tys U ∧ va_D (fun _ => True) Wd ∧ zxZ (va_A Wd sz) U U.heap ∧ Px U)) (va_Qi post (fun u t => va_P D vwCl (mk u) t.heap ∧ va_D (va_A Wd sz) (mk u)) (va_A Wd sz)) (vx_X (fun _ : Unit => pxc) (fun E _ t => E = cls ∧ va_P D vwCl Wd t.heap) (va_A Wd sz)) mc ms (va_A Wd sz)
theorem VX_i.of {Px : State → Prop} {cls : String} {pxc : Prop} {l : Launch} {y : MethodName} {ws ws' : List Cond} {rm : Room} {D : va_G} {Wd : va_W} {tys : List (ClassId × FieldType)} {As : List Value} {S : Type} {mk : S → va_W} {post : Int32 → S → Prop} {mc ms : Nat} {cc : ByteArray} {maxL : Nat} (htr : l.stackTraces = false) (hy : plainName y.cls = true) (hw : ws = Cond.code y cc maxL (some .int) :: ws') (hlen : (lg_sl As).length ≤ maxL)
    (body : ∀ (p : Program) (e : Env) (s : State) (m : MethodId) (args : Array Value) (below : List Frame) (meth : Method) (c : Code) (ls : Array Slot) (A : Nat → Prop) (Q : State → Prop), p.tables.exec = Jvm.exec → c.code = cc → c.maxLocals = maxL → (∀ w ∈ ws, w.before args s = true) → s.vm.findClass y.cls = some m.cls → (∀ q, s.heap.size ≤ q → A q) → va_P D vwCl Wd s.heap → va_D A Wd → va_K D vwCl tys s → lv_has ls maxL (lv_args 0 As) → meth.name = y.name → Px s →
      (∀ (own text : String) (names : List String) (ik is ic sa pc : Nat) (H : Heap) (locs : List Loc) (ls : Array Slot), s.vm.findClass own = some m.cls → Bundle.fit cls = true → (∀ n ∈ names, Bundle.fit n = true) → (Cond.classLink own ik cls).before args s = true → (Cond.initialized cls).before args s = true → vk_R own is text sa s → (∀ w ∈ vx_atS own ic cls names, w.before args s = true) → (∀ w ∈ Cond.classLink own ik cls :: Cond.initialized cls :: vx_atS own ic cls names, vx_ot w = true) → va_S A s.heap H locs → va_P D vwCl Wd H → ls.size = c.maxLocals →
        decode cc pc = .ok (.new ik, 3) → decode cc (pc + 3) = .ok (.dup, 1) → decode cc (pc + 4) = .ok (.ldc is, 2) → decode cc (pc + 6) = .ok (.invokespecial ic, 3) → decode cc (pc + 9) = .ok (.athrow, 1) → names.length + 3 < rm.frames → 13 * (names.length + 1) + 43 ≤ rm.locals → 1 ≤ rm.cells → 6 ≤ rm.slots → 1 ≤ mc → 6 ≤ ms → pxc → W p l e rm s m args below meth c H locs 0 0 Q (F0 m pc ls [])) →
      (∀ (v : Int32) (u : S) (H : Heap) (locs : List Loc) (ls : Array Slot) (pc : Nat), va_P D vwCl (mk u) H → va_D A (mk u) → va_S A s.heap H locs → post v u → decode cc pc = .ok (.ireturn, 1) → W p l e rm s m args below meth c H locs mc ms Q (F0 m pc ls [.int v])) → W p l e rm s m args below meth c s.heap [] 0 0 Q (F0 m 0 ls [])) : VX_i Px cls pxc l y ws rm D Wd tys As mk post mc ms := by
  intro sz
  refine vx_ofW (cc := cc) (maxL := maxL) (ret := some .int) hy hw ?_
  intro p e s m args below meth c s₁ B hml hno hv
  obtain ⟨rfl, hsz, hP, hK, hD0, hZ, hX⟩ := hv
  subst hsz
  have hl := lv_entry As (n := maxL) hlen
  rw [lg_entry_eq]
  exact body p e s m _ below meth c _ (va_A Wd s.heap.size) _ B.exec B.bytes hml (atoms_spec (ws := ws) B.pre) (findClass_of_methodNamed B.named) (fun q h => Or.inr h) hP (hD0.self (sz := s.heap.size)) hK hl (name_of_methodNamed B.named B.method).1 hX
    (fun own text names ik is ic sa pc H locs ls h1 h2 h3 h4 h5 h6 h7 h8 hS hPn h9 d0 d3 d4 d6 d9 r1 r2 r3 r4 r5 r6 hpx => vx_throwS (A := va_A Wd s.heap.size) B.exec B.bytes htr h1 h2 h3 h4 h5 h6 h7 h8 hZ.1 hZ.2 hS h9 d0 d3 d4 d6 d9 (fun x hx => (hno x hx).elim) r1 (by simpa using r2) (by simpa using r3) (by simpa using r4) B.notSynchronized
      (fun t hal hsz2 hk2 => ⟨(), hpx, ⟨rfl, hPn.kept (fun k q hq => hk2 q.1 (hPn k q hq).lt)⟩, ⟨Nat.le_trans hS.1 hsz2, fun q hq hA => (hk2 q (Nat.lt_of_lt_of_le hq hS.1)).trans (hS.2.1 q hq hA)⟩⟩) hS.2.2 (by simpa using r5) (by simpa using r6))
    (fun v u H locs ls pc hP hD hS hp hd => vx_ret (W.iret (v := v) B.exec B.bytes B.returns (fun t ht hW => ⟨⟨v, u, rfl, hp, by rw [ht]; exact hP, hD⟩, hS.F ht⟩) hS.2.2 hd (hlocks := B.notSynchronized)))
theorem VX_i.callV {p : Program} {l : Launch} {e : Env} {R : Room} {s : State} {m : MethodId} {args : Array Value} {below : List Frame} {meth : Method} {c : Code} {H : Heap} {locs : List Loc} {cells slots : Nat} {Q : State → Prop} {cc bytes : ByteArray} {pc nL maxL n index : Nat} {ls : Array Slot} {st rest : List Value} {y : MethodName} {ws Ts : List Cond} {rm : Room} {D : va_G} {Wd W0 wr : va_W} {tys tys0 : List (ClassId × FieldType)} {own : String} {ret : Option FieldType} {A : Nat → Prop} {b : Nat} {As : List Value} {Px : State → Prop} {cls : String} {pxc : Prop} {S : Type} {mk : S → va_W} {post : Int32 → S → Prop} {mc ms : Nat} {C : String} (hM : VX_i Px cls pxc l y ws rm D Wd tys (.ref b :: As) mk post mc ms) (Sx : CallFix p m c cc nL s args Ts own) (cw : CallW R s args own C index y bytes maxL ret ws rm mc ms n) (hXs : ∀ U V : State, U.vm = V.vm → Px U → Px V) (hX : ∀ U : State, s.WarmedH U.vm → Px U) (hZ : zxZ A s s.heap) (hK : va_K D vwCl tys0 s) (hP : va_P D vwCl W0 H) (hD : va_D A W0) (hS : va_S A s.heap H locs) (hA : ∀ q, s.heap.size ≤ q → A q) (isC isR js : List Nat) (hC : isC.map (fun i => W0[i]?) = Wd.map some) (hR : isR.map (fun i => W0[i]?) = wr.map some) (hn1 : va_nd isR = true) (hn2 : va_nd isC = true) (hdis : ∀ i ∈ isR, i ∉ isC) (hjs : js.filterMap (fun i => tys0[i]?) = tys) (q0 ci : Nat) {qc : vw_C} {fs : List Value} (hci : vwCl[ci]? = some qc) (hq0 : W0[q0]? = some (b, .inr (ci, fs))) (hCn : qc.1 = C) (hn : As.length = n) (hsize : ls.size = nL) (hst : st = As.reverse ++ .ref b :: rest) (hW : (rest.map fun v => v.category).sum ≤ 8) (hdg : decode cc pc = .ok (.invokevirtual index, 3)) (hf : cells + mc ≤ R.cells ∧ slots + ms ≤ R.slots)
    (kx : ∀ (ce : Cell) (q : Addr) (H : Heap) (locs : List Loc), pxc → va_P D vwCl W0 H → va_D A W0 → va_S A s.heap H locs → H[q]? = some ce → ce.vm = .none → s.vm.findClass cls = some ce.cls → vx_W p l e R s m args below meth c H locs (cells + mc) (slots + ms) Q (F0 m pc ls rest) q)
    (kk : ∀ (v : Int32) (u : S) (H : Heap) (locs : List Loc), post v u → va_P D vwCl (wr ++ mk u) H → va_D A (wr ++ mk u) → va_S A s.heap H locs → W p l e R s m args below meth c H locs (cells + mc) (slots + ms) Q (F0 m (pc + 3) ls (.int v :: rest))) : W p l e R s m args below meth c H locs cells slots Q (F0 m pc ls st) := by
  have hFc := va_free (wc := Wd) hD hS hA isC hC
  refine vx_calli (vx_runV (As := As) (rest := rest) Sx (hM H.size) cw ⟨fun a U g mk q => by obtain ⟨q0, q1, qP, qK, qD, qZ, qX⟩ := q; exact ⟨q0, q1, qP, va_K.moved (u := U) (U := U.calling g mk a) (Vm.Alike.refl U.vm) qK, qD, ⟨vx_Zq.moved (u := U) (U := U.calling g mk a) (Vm.Alike.refl U.vm) qZ.1, vx_Zq.moved (u := U) (U := U.calling g mk a) (Vm.Alike.refl U.vm) qZ.2⟩, hXs U (U.calling g mk a) rfl qX⟩, by subst hCn; exact va_recv hK hP hci hq0, fun U hU hW => ⟨rfl, by rw [hU], by rw [hU]; exact zk_subP hP hC, va_K.moved hW.alike (hK.sub js hjs), (hD.sub isC hn2 hC).weaken (fun _ _ _ _ => trivial), by rw [hU]; exact hZ.move hW.alike hS.2.1 hFc, hX U hW⟩⟩ rfl hn hsize hst (lv_room hW) hdg hf) hS (fun q _ h => hFc q h) hFc (fun q _ h => hFc q h) (fun E ce q9 u t H1 l1 ht hvm hpx hB hz hk hS1 hce hcv hcl => ?_) (fun v u t H1 l1 ht hvm hw hB hz hk hS1 => ?_)
  · obtain ⟨rfl, hP1⟩ := hB
    rw [ht] at hP1
    obtain ⟨hP2, hD2⟩ := va_join (wr := wr) (w1 := Wd) hP hD isC isR hC hR hn1 hdis hk hFc hP1 (((hD.sub isC hn2 hC).weaken (fun _ _ _ _ => trivial) : va_D (fun _ => True) Wd).self (sz := H.size))
    refine kx ce q9 H1 l1 hpx (fun k z hz9 => ?_) hD hS1 hce hcv hcl
    by_cases hm : k ∈ isC
    · obtain ⟨i, hi⟩ := List.mem_iff_getElem?.mp hm
      have h1 : (isC.map (fun i => W0[i]?))[i]? = some (some z) := by rw [List.getElem?_map, hi]; simp [hz9]
      rw [hC, List.getElem?_map] at h1
      cases hq : Wd[i]? with
      | none => rw [hq] at h1; cases h1
      | some z2 =>
        rw [hq] at h1
        have h2 : z2 = z := by simpa using h1
        rw [← h2]
        exact hP1 i z2 hq
    · refine (hP k z hz9).kept (hk z.1 (hP k z hz9).lt (fun hAq => ?_))
      rcases hAq with ⟨i, e9, he9⟩ | hge
      · have h1 : (Wd.map some)[i]? = some (some (z.1, e9)) := by rw [List.getElem?_map, he9]; rfl
        rw [← hC, List.getElem?_map] at h1
        cases hq : isC[i]? with
        | none => rw [hq] at h1; cases h1
        | some j =>
          rw [hq] at h1
          have h2 : W0[j]? = some (z.1, e9) := by simpa using h1
          have h3 := hD.1 j k _ _ h2 hz9 rfl
          exact hm (by rw [← h3]; exact List.mem_of_getElem? hq)
      · exact absurd (hP k z hz9).lt (Nat.not_lt.mpr hge)
  · obtain ⟨hP1, hD1⟩ := hB
    rw [ht] at hP1
    obtain ⟨hP2, hD2⟩ := va_join (wr := wr) (w1 := mk u) hP hD isC isR hC hR hn1 hdis hk hFc hP1 hD1
    exact kk v u H1 l1 hw hP2 hD2 hS1
/-- a static method with a table of handlers: it returns an int and writes its world -/
def LW_i (Px : State → Prop) (l : Launch) (y : MethodName) (ws : List Cond) (rm : Room) (D : va_G) (Wd : va_W) (tys : List (ClassId × FieldType)) (As : List Value) {S : Type} (mk : S → va_W) (post : Int32 → S → Prop) (mc ms : Nat) : Prop :=
  ∀ sz : Nat, Met l y ws rm (va_Pc As (fun U => U.heap.size = sz ∧ va_P D vwCl Wd U.heap ∧ va_K D vwCl tys U ∧ va_D (fun _ => True) Wd ∧ zxZ (va_A Wd sz) U U.heap ∧ Px U)) (va_Qi post (fun u t => va_P D vwCl (mk u) t.heap ∧ va_D (va_A Wd sz) (mk u)) (va_A Wd sz)) mc ms (va_A Wd sz)
theorem LW_i.of {Px : State → Prop} {l : Launch} {y : MethodName} {ws ws' : List Cond} {rm : Room} {D : va_G} {Wd : va_W} {tys : List (ClassId × FieldType)} {As : List Value} {S : Type} {mk : S → va_W} {post : Int32 → S → Prop} {mc ms : Nat} {cc : ByteArray} {maxL : Nat} {hh : List (Nat × Nat × Nat × Nat)} (hy : plainName y.cls = true) (hw : ws = Cond.codeWith y cc maxL (some .int) hh :: ws') (hlen : (lg_sl As).length ≤ maxL)
    (body : ∀ (p : Program) (e : Env) (s : State) (m : MethodId) (args : Array Value) (below : List Frame) (meth : Method) (c : Code) (ls : Array Slot) (A : Nat → Prop) (Q : State → Prop), p.tables.exec = Jvm.exec → c.code = cc → c.maxLocals = maxL → (∀ w ∈ ws, w.before args s = true) → s.vm.findClass y.cls = some m.cls → (∀ q, s.heap.size ≤ q → A q) → va_P D vwCl Wd s.heap → va_D A Wd → va_K D vwCl tys s → lv_has ls maxL (lv_args 0 As) → zxZ A s s.heap → Px s → c.exceptionTable.toList = tableOf hh →
      (∀ (v : Int32) (u : S) (H : Heap) (locs : List Loc) (ls : Array Slot) (pc : Nat), va_P D vwCl (mk u) H → va_D A (mk u) → va_S A s.heap H locs → post v u → decode cc pc = .ok (.ireturn, 1) → W p l e rm s m args below meth c H locs mc ms Q (F0 m pc ls [.int v])) → W p l e rm s m args below meth c s.heap [] 0 0 Q (F0 m 0 ls [])) : LW_i Px l y ws rm D Wd tys As mk post mc ms := by
  intro sz
  refine va_MetW (cc := cc) (maxL := maxL) (ret := some .int) hy hw ?_
  intro p e s m args below meth c s₁ B hml hv
  obtain ⟨rfl, hsz, hP, hK, hD0, hZ, hX⟩ := hv
  subst hsz
  have hl := lv_entry As (n := maxL) hlen
  have hts := atoms_spec (ws := ws) B.pre
  rw [lg_entry_eq]
  exact body p e s m _ below meth c _ (va_A Wd s.heap.size) _ B.exec B.bytes hml hts (findClass_of_methodNamed B.named) (fun q h => Or.inr h) hP (hD0.self (sz := s.heap.size)) hK hl hZ hX (vx_table (x := y) B (hts _ (by rw [hw]; exact List.mem_cons_self))) (fun v u H locs ls pc hP hD hS hp hd => W.iret (v := v) B.exec B.bytes B.returns (fun t ht hW => ⟨⟨v, u, rfl, hp, by rw [ht]; exact hP, hD⟩, hS.F ht⟩) hS.2.2 hd (hlocks := B.notSynchronized))
theorem LW_i.callS {p : Program} {l : Launch} {e : Env} {R : Room} {s : State} {m : MethodId} {args : Array Value} {below : List Frame} {meth : Method} {c : Code} {H : Heap} {locs : List Loc} {cells slots : Nat} {Q : State → Prop} {cc bytes : ByteArray} {pc nL maxL n index : Nat} {ls : Array Slot} {st rest : List Value} {y : MethodName} {ws Ts : List Cond} {rm : Room} {D : va_G} {Wd W0 wr : va_W} {tys tys0 : List (ClassId × FieldType)} {own : String} {ret : Option FieldType} {A : Nat → Prop} {As : List Value} {Px : State → Prop} {S : Type} {mk : S → va_W} {post : Int32 → S → Prop} {mc ms : Nat} {hh : List (Nat × Nat × Nat × Nat)} (hM : LW_i Px l y ws rm D Wd tys As mk post mc ms) (Sx : CallFix p m c cc nL s args Ts own) (cw : vx_CSW R s args own index y bytes maxL ret hh ws rm mc ms n) (hXs : ∀ U V : State, U.vm = V.vm → Px U → Px V) (hX : ∀ U : State, s.WarmedH U.vm → Px U) (hZ : zxZ A s s.heap) (hK : va_K D vwCl tys0 s) (hP : va_P D vwCl W0 H) (hD : va_D A W0) (hS : va_S A s.heap H locs) (hA : ∀ q, s.heap.size ≤ q → A q) (isC isR js : List Nat) (hC : isC.map (fun i => W0[i]?) = Wd.map some) (hR : isR.map (fun i => W0[i]?) = wr.map some) (hn1 : va_nd isR = true) (hn2 : va_nd isC = true) (hdis : ∀ i ∈ isR, i ∉ isC) (hjs : js.filterMap (fun i => tys0[i]?) = tys) (hn : As.length = n) (hsize : ls.size = nL) (hst : st = As.reverse ++ rest) (hW : (rest.map fun v => v.category).sum ≤ 8) (hdg : decode cc pc = .ok (.invokestatic index, 3)) (hf : cells + mc ≤ R.cells ∧ slots + ms ≤ R.slots)
    (kk : ∀ (v : Int32) (u : S) (H : Heap) (locs : List Loc), post v u → va_P D vwCl (wr ++ mk u) H → va_D A (wr ++ mk u) → va_S A s.heap H locs → W p l e R s m args below meth c H locs (cells + mc) (slots + ms) Q (F0 m (pc + 3) ls (.int v :: rest))) : W p l e R s m args below meth c H locs cells slots Q (F0 m pc ls st) := by
  have hFc := va_free (wc := Wd) hD hS hA isC hC
  refine va_calli (vx_runSW (As := As) (rest := rest) Sx (hM H.size) cw ⟨fun a U g mk q => by obtain ⟨q0, q1, qP, qK, qD, qZ, qX⟩ := q; exact ⟨q0, q1, qP, va_K.moved (u := U) (U := U.calling g mk a) (Vm.Alike.refl U.vm) qK, qD, ⟨vx_Zq.moved (u := U) (U := U.calling g mk a) (Vm.Alike.refl U.vm) qZ.1, vx_Zq.moved (u := U) (U := U.calling g mk a) (Vm.Alike.refl U.vm) qZ.2⟩, hXs U (U.calling g mk a) rfl qX⟩, fun U hU hW => ⟨rfl, by rw [hU], by rw [hU]; exact zk_subP hP hC, va_K.moved hW.alike (hK.sub js hjs), (hD.sub isC hn2 hC).weaken (fun _ _ _ _ => trivial), by rw [hU]; exact hZ.move hW.alike hS.2.1 hFc, hX U hW⟩⟩ rfl hn hsize hst (lv_room hW) hdg hf) hS (fun q _ h => hFc q h) hFc (fun v u t H1 l1 ht hvm hw hB hz hk hS1 => ?_)
  obtain ⟨hP1, hD1⟩ := hB
  rw [ht] at hP1
  obtain ⟨hP2, hD2⟩ := va_join (wr := wr) (w1 := mk u) hP hD isC isR hC hR hn1 hdis hk hFc hP1 hD1
  exact kk v u H1 l1 hw hP2 hD2 hS1
