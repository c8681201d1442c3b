section ZN
variable {p : Program} {l : Launch} {e : Env} {R : Room} {s : State} {m : MethodId} {args : Array Value} {below : List Frame} {meth : Method} {c : Code} {H : Heap} {locs : List Loc} {cells slots : Nat} {Q : State → Prop} {cc : ByteArray} {pc : Nat} {ls : Array Slot} {rest : List Value} {D : va_G} {ws : va_W} {tys : List (ClassId × FieldType)} {A : Nat → Prop} {H0 : Heap} {cA : ClassId} {N : Nat}
theorem zi_newa (hexec : p.tables.exec = Jvm.exec) (hb : c.code = cc) (harr : (Cond.arrayClass .int).before args s = true) (hK : va_K D vwCl tys s) (t0 : Nat) (ht : tys[t0]? = some (cA, .int)) (hP : va_P D vwCl ws H) (hD : va_D A ws) (hS : va_S A H0 H locs) (hA : ∀ q, H0.size ≤ q → A q) (hN : N ≤ 65536) (hcells : cells + 1 ≤ R.cells) (hslots : slots + N ≤ R.slots) (hdg : decode cc pc = .ok (.newarray .int, 2))
    (kk : ∀ (q : Nat) (H : Heap), va_P D vwCl (ws ++ [(q, aI cA N (fun _ => 0))]) H → va_D A (ws ++ [(q, aI cA N (fun _ => 0))]) → va_S A H0 H locs → W p l e R s m args below meth c H locs (cells + 1) (slots + N) Q (F0 m (pc + 2) ls (.ref q :: rest))) : W p l e R s m args below meth c H locs cells slots Q (F0 m pc ls (.int (nI N) :: rest)) :=
  va_newa (atype := .int) (ty := .int) (N' := N) (a0 := (N, .inl (fun _ => nI 0))) hexec hb harr rfl hK hP hD hS hA (fun _ => rfl) (nI_pos (by omega)) (nI_clamp (by omega)) (by show N * 4 ≤ _; omega) hcells hslots hdg (fun q cB H1 hK2 hP2 hD2 hS2 => by
    have e : cB = cA := by
      have h1 : va_RA s cB .int := (hK2.2 tys.length (cB, .int) (by simp)).2
      have h2 : va_RA s cA .int := (hK.2 t0 _ ht).2
      exact Option.some.inj (h1.symm.trans h2)
    subst e
    exact kk q H1 hP2 hD2 hS2)
theorem zl_newa (hexec : p.tables.exec = Jvm.exec) (hb : c.code = cc) (harr : (Cond.arrayClass .long).before args s = true) (hK : va_K D vwCl tys s) (t0 : Nat) (ht : tys[t0]? = some (cA, .long)) (hP : va_P D vwCl ws H) (hD : va_D A ws) (hS : va_S A H0 H locs) (hA : ∀ q, H0.size ≤ q → A q) (hN : N ≤ 65536) (hcells : cells + 1 ≤ R.cells) (hslots : slots + N ≤ R.slots) (hdg : decode cc pc = .ok (.newarray .long, 2))
    (kk : ∀ (q : Nat) (H : Heap), va_P D vwCl (ws ++ [(q, aJ cA N (fun _ => 0))]) H → va_D A (ws ++ [(q, aJ cA N (fun _ => 0))]) → va_S A H0 H locs → W p l e R s m args below meth c H locs (cells + 1) (slots + N) Q (F0 m (pc + 2) ls (.ref q :: rest))) : W p l e R s m args below meth c H locs cells slots Q (F0 m pc ls (.int (nI N) :: rest)) :=
  va_newa (atype := .long) (ty := .long) (N' := N) (a0 := (N, .inr (.inl (fun _ => lN 0)))) hexec hb harr rfl hK hP hD hS hA (fun _ => rfl) (nI_pos (by omega)) (nI_clamp (by omega)) (by show N * 8 ≤ _; omega) hcells hslots hdg (fun q cB H1 hK2 hP2 hD2 hS2 => by
    have e : cB = cA := by
      have h1 : va_RA s cB .long := (hK2.2 tys.length (cB, .long) (by simp)).2
      have h2 : va_RA s cA .long := (hK.2 t0 _ ht).2
      exact Option.some.inj (h1.symm.trans h2)
    subst e
    exact kk q H1 hP2 hD2 hS2)
end ZN
theorem WR_v.callI {p : Program} {l : Launch} {e : Env} {R : Room} {s : State} {m : MethodId} {args : Array Value} {below : List Frame} {meth : Method} {c : Code} {H : Heap} {locs : List Loc} {cells slots : Nat} {Q : State → Prop} {cc bytes : ByteArray} {pc nL maxL n index : Nat} {ls : Array Slot} {st rest : List Value} {y : MethodName} {ws Ts : List Cond} {rm : Room} {D : va_G} {Wd W0 wr : va_W} {tys tys0 : List (ClassId × FieldType)} {own : String} {A : Nat → Prop} {b : Nat} {As : List Value} {S : Type} {mk : S → va_W} {post : S → Prop} {mc ms : Nat} (hM : WR_v l y ws rm D Wd tys (.ref b :: As) mk post mc ms) (Sx : CallFix p m c cc nL s args Ts own) (cw : CallB R s args own index y bytes maxL none ws rm mc ms n ∧ y.name = "<init>" ∧ (Cond.instanceMethod y).before args s = true) (hK : va_K D vwCl tys0 s) (hP : va_P D vwCl W0 H) (hD : va_D A W0) (hS : va_S A s.heap H locs) (hA : ∀ q, s.heap.size ≤ q → A q) (isC isR js : List Nat) (hC : isC.map (fun i => W0[i]?) = Wd.map some) (hR : isR.map (fun i => W0[i]?) = wr.map some) (hn1 : va_nd isR = true) (hn2 : va_nd isC = true) (hdis : ∀ i ∈ isR, i ∉ isC) (hjs : js.filterMap (fun i => tys0[i]?) = tys) (hn : As.length = n) (hsize : ls.size = nL) (hst : st = As.reverse ++ .ref b :: rest) (hW : (rest.map fun v => v.category).sum ≤ 8) (hdg : decode cc pc = .ok (.invokespecial index, 3)) (hf : cells + mc ≤ R.cells ∧ slots + ms ≤ R.slots)
    (kk : ∀ (u : S) (H : Heap) (locs : List Loc), post u → va_P D vwCl (wr ++ mk u) H → va_D A (wr ++ mk u) → va_S A s.heap H locs → W p l e R s m args below meth c H locs (cells + mc) (slots + ms) Q (F0 m (pc + 3) ls rest)) : W p l e R s m args below meth c H locs cells slots Q (F0 m pc ls st) := by
  have hFc := va_free (wc := Wd) hD hS hA isC hC
  refine va_callv (va_runI (As := As) (rest := rest) Sx (hM H.size) cw ⟨fun a U g mk q => by obtain ⟨q0, q1, qP, qK, qD⟩ := q; exact ⟨q0, q1, qP, va_K.moved (u := U) (U := U.calling g mk a) (Vm.Alike.refl U.vm) qK, qD⟩, fun U hU hW => ⟨rfl, by rw [hU], by rw [hU]; exact zk_subP hP hC, va_K.moved hW.alike (hK.sub js hjs), (hD.sub isC hn2 hC).weaken (fun _ _ _ _ => trivial)⟩⟩ rfl hn hsize hst (lv_room hW) hdg hf) hS (fun q _ h => hFc q h) hFc (fun u t H1 l1 ht hvm hw hB hz hk hS1 => ?_)
  obtain ⟨hP1, hD1⟩ := hB
  rw [ht] at hP1
  obtain ⟨hP2, hD2⟩ := va_join (wr := wr) (w1 := mk u) hP hD isC isR hC hR hn1 hdis hk hFc hP1 hD1
  exact kk u H1 l1 hw hP2 hD2 hS1
theorem WR_v.callN {p : Program} {l : Launch} {e : Env} {R : Room} {s : State} {m : MethodId} {args : Array Value} {below : List Frame} {meth : Method} {c : Code} {H : Heap} {locs : List Loc} {cells slots : Nat} {Q : State → Prop} {cc bytes : ByteArray} {pc nL maxL n index : Nat} {ls : Array Slot} {st rest : List Value} {y : MethodName} {ws Ts : List Cond} {rm : Room} {D : va_G} {Wd W0 wr : va_W} {tys tys0 : List (ClassId × FieldType)} {own : String} {A : Nat → Prop} {b : Nat} {As : List Value} {host : String} {S : Type} {mk : S → va_W} {post : S → Prop} {mc ms : Nat} (hM : WR_v l y ws rm D Wd tys (.ref b :: As) mk post mc ms) (Sx : CallFix p m c cc nL s args Ts own) (cw : va_CN R s args own index y host bytes maxL none ws rm mc ms n ∧ y.name = "<init>" ∧ (Cond.instanceMethod y).before args s = true) (hK : va_K D vwCl tys0 s) (hP : va_P D vwCl W0 H) (hD : va_D A W0) (hS : va_S A s.heap H locs) (hA : ∀ q, s.heap.size ≤ q → A q) (isC isR js : List Nat) (hC : isC.map (fun i => W0[i]?) = Wd.map some) (hR : isR.map (fun i => W0[i]?) = wr.map some) (hn1 : va_nd isR = true) (hn2 : va_nd isC = true) (hdis : ∀ i ∈ isR, i ∉ isC) (hjs : js.filterMap (fun i => tys0[i]?) = tys) (hn : As.length = n) (hsize : ls.size = nL) (hst : st = As.reverse ++ .ref b :: rest) (hW : (rest.map fun v => v.category).sum ≤ 8) (hdg : decode cc pc = .ok (.invokespecial index, 3)) (hf : cells + mc ≤ R.cells ∧ slots + ms ≤ R.slots)
    (kk : ∀ (u : S) (H : Heap) (locs : List Loc), post u → va_P D vwCl (wr ++ mk u) H → va_D A (wr ++ mk u) → va_S A s.heap H locs → W p l e R s m args below meth c H locs (cells + mc) (slots + ms) Q (F0 m (pc + 3) ls rest)) : W p l e R s m args below meth c H locs cells slots Q (F0 m pc ls st) := by
  have hFc := va_free (wc := Wd) hD hS hA isC hC
  refine va_callv (va_runIN (As := As) (rest := rest) Sx (hM H.size) cw ⟨fun a U g mk q => by obtain ⟨q0, q1, qP, qK, qD⟩ := q; exact ⟨q0, q1, qP, va_K.moved (u := U) (U := U.calling g mk a) (Vm.Alike.refl U.vm) qK, qD⟩, fun U hU hW => ⟨rfl, by rw [hU], by rw [hU]; exact zk_subP hP hC, va_K.moved hW.alike (hK.sub js hjs), (hD.sub isC hn2 hC).weaken (fun _ _ _ _ => trivial)⟩⟩ rfl hn hsize hst (lv_room hW) hdg hf) hS (fun q _ h => hFc q h) hFc (fun u t H1 l1 ht hvm hw hB hz hk hS1 => ?_)
  obtain ⟨hP1, hD1⟩ := hB
  rw [ht] at hP1
  obtain ⟨hP2, hD2⟩ := va_join (wr := wr) (w1 := mk u) hP hD isC isR hC hR hn1 hdis hk hFc hP1 hD1
  exact kk u H1 l1 hw hP2 hD2 hS1
/-- a method that writes, over a fact of the tables -/
def WX_v (Px : State → Prop) (l : Launch) (y : MethodName) (ws : List Cond) (rm : Room) (D : va_G) (Wd : va_W) (tys : List (ClassId × FieldType)) (As : List Value) {S : Type} (mk : S → va_W) (post : S → Prop) (mc ms : Nat) : Prop :=
  ∀ sz : Nat, Met l y ws rm (va_Pc As (fun U => U.heap.size = sz ∧ va_P D vwCl Wd U.heap ∧ va_K D vwCl tys U ∧ va_D (fun _ => True) Wd ∧ Px U)) (va_Qv post (fun u t => va_P D vwCl (mk u) t.heap ∧ va_D (va_A Wd sz) (mk u)) (va_A Wd sz)) mc ms (va_A Wd sz)
theorem WX_v.of {Px : State → Prop} {l : Launch} {y : MethodName} {ws ws' : List Cond} {rm : Room} {D : va_G} {Wd : va_W} {tys : List (ClassId × FieldType)} {As : List Value} {S : Type} {mk : S → va_W} {post : S → Prop} {mc ms : Nat} {cc : ByteArray} {maxL : Nat} (hy : plainName y.cls = true) (hw : ws = Cond.code y cc maxL none :: ws') (hlen : (lg_sl As).length ≤ maxL)
    (body : ∀ (p : Program) (e : Env) (s : State) (m : MethodId) (args : Array Value) (below : List Frame) (meth : Method) (c : Code) (ls : Array Slot) (A : Nat → Prop) (Q : State → Prop), p.tables.exec = Jvm.exec → c.code = cc → c.maxLocals = maxL → (∀ w ∈ ws, w.before args s = true) → s.vm.findClass y.cls = some m.cls → (∀ q, s.heap.size ≤ q → A q) → va_P D vwCl Wd s.heap → va_D A Wd → va_K D vwCl tys s → lv_has ls maxL (lv_args 0 As) → meth.name = y.name → Px s →
      (∀ (u : S) (H : Heap) (locs : List Loc) (ls : Array Slot) (pc : Nat), va_P D vwCl (mk u) H → va_D A (mk u) → va_S A s.heap H locs → post u → decode cc pc = .ok (.return_, 1) → W p l e rm s m args below meth c H locs mc ms Q (F0 m pc ls [])) → W p l e rm s m args below meth c s.heap [] 0 0 Q (F0 m 0 ls [])) : WX_v Px l y ws rm D Wd tys As mk post mc ms := by
  intro sz
  refine Met.ofW (cc := cc) (maxL := maxL) (ret := none) hy hw ?_
  intro p e s m args below meth c s₁ B hml hv
  obtain ⟨rfl, hsz, hP, hK, hD0, hX⟩ := hv
  subst hsz
  have hl := lv_entry As (n := maxL) hlen
  rw [lg_entry_eq]
  exact body p e s m _ below meth c _ (va_A Wd s.heap.size) _ B.exec B.bytes hml (atoms_spec (ws := ws) B.pre) (findClass_of_methodNamed B.named) (fun q h => Or.inr h) hP (hD0.self (sz := s.heap.size)) hK hl (name_of_methodNamed B.named B.method).1 hX (fun u H locs ls pc hP hD hS hp hd => W.vret B.exec B.bytes B.returns (fun t ht hW => ⟨⟨u, rfl, hp, by rw [ht]; exact hP, hD⟩, hS.F ht⟩) hS.2.2 hd (hlocks := B.notSynchronized))
theorem WX_v.callI {p : Program} {l : Launch} {e : Env} {R : Room} {s : State} {m : MethodId} {args : Array Value} {below : List Frame} {meth : Method} {c : Code} {H : Heap} {locs : List Loc} {cells slots : Nat} {Q : State → Prop} {cc bytes : ByteArray} {pc nL maxL n index : Nat} {ls : Array Slot} {st rest : List Value} {y : MethodName} {ws Ts : List Cond} {rm : Room} {D : va_G} {Wd W0 wr : va_W} {tys tys0 : List (ClassId × FieldType)} {own : String} {A : Nat → Prop} {b : Nat} {As : List Value} {Px : State → Prop} {S : Type} {mk : S → va_W} {post : S → Prop} {mc ms : Nat} (hM : WX_v Px l y ws rm D Wd tys (.ref b :: As) mk post mc ms) (Sx : CallFix p m c cc nL s args Ts own) (cw : CallB R s args own index y bytes maxL none ws rm mc ms n ∧ y.name = "<init>" ∧ (Cond.instanceMethod y).before args s = true) (hXs : ∀ U V : State, U.vm = V.vm → Px U → Px V) (hX : ∀ U : State, s.WarmedH U.vm → Px U) (hK : va_K D vwCl tys0 s) (hP : va_P D vwCl W0 H) (hD : va_D A W0) (hS : va_S A s.heap H locs) (hA : ∀ q, s.heap.size ≤ q → A q) (isC isR js : List Nat) (hC : isC.map (fun i => W0[i]?) = Wd.map some) (hR : isR.map (fun i => W0[i]?) = wr.map some) (hn1 : va_nd isR = true) (hn2 : va_nd isC = true) (hdis : ∀ i ∈ isR, i ∉ isC) (hjs : js.filterMap (fun i => tys0[i]?) = tys) (hn : As.length = n) (hsize : ls.size = nL) (hst : st = As.reverse ++ .ref b :: rest) (hW : (rest.map fun v => v.category).sum ≤ 8) (hdg : decode cc pc = .ok (.invokespecial index, 3)) (hf : cells + mc ≤ R.cells ∧ slots + ms ≤ R.slots)
    (kk : ∀ (u : S) (H : Heap) (locs : List Loc), post u → va_P D vwCl (wr ++ mk u) H → va_D A (wr ++ mk u) → va_S A s.heap H locs → W p l e R s m args below meth c H locs (cells + mc) (slots + ms) Q (F0 m (pc + 3) ls rest)) : W p l e R s m args below meth c H locs cells slots Q (F0 m pc ls st) := by
  have hFc := va_free (wc := Wd) hD hS hA isC hC
  refine va_callv (va_runI (As := As) (rest := rest) Sx (hM H.size) cw ⟨fun a U g mk q => by obtain ⟨q0, q1, qP, qK, qD, qX⟩ := q; exact ⟨q0, q1, qP, va_K.moved (u := U) (U := U.calling g mk a) (Vm.Alike.refl U.vm) qK, qD, hXs U (U.calling g mk a) rfl qX⟩, fun U hU hW => ⟨rfl, by rw [hU], by rw [hU]; exact zk_subP hP hC, va_K.moved hW.alike (hK.sub js hjs), (hD.sub isC hn2 hC).weaken (fun _ _ _ _ => trivial), hX U hW⟩⟩ rfl hn hsize hst (lv_room hW) hdg hf) hS (fun q _ h => hFc q h) hFc (fun u t H1 l1 ht hvm hw hB hz hk hS1 => ?_)
  obtain ⟨hP1, hD1⟩ := hB
  rw [ht] at hP1
  obtain ⟨hP2, hD2⟩ := va_join (wr := wr) (w1 := mk u) hP hD isC isR hC hR hn1 hdis hk hFc hP1 hD1
  exact kk u H1 l1 hw hP2 hD2 hS1
/-- how many bins an object has -/
def binsOf (x : Int32) : Nat := if x.toInt < 0 then 0 else if 65536 < x.toInt then 65536 else x.toInt.toNat
theorem binsOf_le (x : Int32) : binsOf x ≤ 65536 := by
  unfold binsOf
  split
  · omega
  · split <;> omega
theorem z_clamp (x : Int32) : (if nI 0 < (if nI 65536 < x then nI 65536 else x) then (if nI 65536 < x then nI 65536 else x) else nI 0) = nI (binsOf x) := by
  have e1 : (nI 65536).toInt = 65536 := by decide
  have e0 : (nI 0).toInt = 0 := by decide
  have h1 : nI 65536 < x ↔ 65536 < x.toInt := by rw [Int32.lt_iff_toInt_lt, e1]
  unfold binsOf
  by_cases h : 65536 < x.toInt
  · rw [if_pos (h1.mpr h), if_neg (show ¬ x.toInt < 0 by omega), if_pos h]
    decide
  · rw [if_neg (fun q => h (h1.mp q)), if_neg h]
    by_cases h2 : x.toInt < 0
    · rw [if_pos h2, if_neg (fun q => by rw [Int32.lt_iff_toInt_lt, e0] at q; omega)]
    · rw [if_neg h2]
      obtain ⟨a, ha, rfl, e⟩ := i_of (x := x) (by omega)
      by_cases h3 : a = 0
      · subst h3; decide
      · rw [if_pos (by rw [Int32.lt_iff_toInt_lt, e0]; omega), e]; rfl
