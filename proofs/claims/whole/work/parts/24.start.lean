/-- the script's first int -/
def cell0 (L : Nat) (xs : Nat → Int32) : Int32 := if 0 < L then xs 0 else nI 0
set_option maxHeartbeats 4000000 in
theorem c_L_cell (l : Launch) {bs L : Nat} {xs : Nat → Int32} (hL : L ≤ 2049) (sz : Nat) : Met l yL_cell wsL_cell ({ frames := 0, cells := 0, slots := 0, locals := 0 } : Room) (va_Pc [.ref bs, .int (nI 0)] (fun U => U.heap.size = sz ∧ va_X bs L xs U U.heap)) (va_Qi (fun r (_ : Unit) => r = cell0 L xs) (fun _ _ => True) (va_A [] sz)) 0 0 (va_A [] sz) := by
  refine Met.ofW (cc := cL_cell) (maxL := 2) (ret := some .int) (by decide) rfl ?_
  intro p e s m args below meth c s₁ B hml hv
  obtain ⟨rfl, hsz, hX⟩ := hv
  subst hsz
  have hl := lv_entry [.ref bs, .int (nI 0)] (n := 2) (Nat.le_of_ble_eq_true rfl)
  rw [lg_entry_eq]
  generalize (lg_sl ([.ref bs, .int (nI 0)]) ++ List.replicate (2 - (lg_sl ([.ref bs, .int (nI 0)])).length) Slot.unset).toArray = ls at hl ⊢
  have hl : lv_has ls 2 [(0, .ref bs), (1, .int (nI 0))] := hl
  have hx := B.exec
  have hb := B.bytes
  have hbl : bs < s.heap.size := by
    obtain ⟨scr, h1, -⟩ := hX
    exact (Array.getElem?_eq_some_iff.mp h1).1
  have hbA : ¬ va_A [] s.heap.size bs := fun q => absurd (zk_A0 q) (Nat.not_le.mpr hbl)
  have hS : va_S (va_A [] s.heap.size) s.heap s.heap [] := va_S.rf
  refine lv_iload_n hx hb dL_cell_0 rfl (lv_at hl 1 rfl) ?_
  refine lv_aload_n hx hb dL_cell_1 rfl (lv_at hl 0 rfl) ?_
  refine va_slen hx hb hX hbl hbA hS dL_cell_2 ?_
  refine W.eq (g2 := F0 m 3 ls [.int (nI L), .int (nI 0)]) rfl ?_
  refine zi_ge (tgt := 12) hx hb dL_cell_3 (by decide) (by omega) (by omega) (fun c3 => ?_) (fun c3 => ?_)
  · refine lv_iconst (v := nI 0) hx hb dL_cell_12 (by decide) ?_
    exact W.iret (v := _) hx hb B.returns (fun t ht hW => ⟨⟨_, (), rfl, (if_neg (by omega)).symm, trivial⟩, hS.F ht⟩) hS.2.2 dL_cell_13 (hlocks := B.notSynchronized)
  · refine lv_aload_n hx hb dL_cell_6 rfl (lv_at hl 0 rfl) ?_
    refine lv_iload_n hx hb dL_cell_7 rfl (lv_at hl 1 rfl) ?_
    refine zs_ld hx hb hX hbl hbA hS (k := 0) (by omega) (by omega) dL_cell_8 ?_
    refine lv_goto (tgt := 13) hx hb dL_cell_9 (by decide) ?_
    exact W.iret (v := _) hx hb B.returns (fun t ht hW => ⟨⟨_, (), rfl, (if_pos c3).symm, trivial⟩, hS.F ht⟩) hS.2.2 dL_cell_13 (hlocks := B.notSynchronized)
theorem cell_call {p : Program} {l : Launch} {e : Env} {R : Room} {s : State} {m : MethodId} {args : Array Value} {below : List Frame} {meth : Method} {c : Code} {H : Heap} {locs : List Loc} {cells slots : Nat} {Q : State → Prop} {cc bytes : ByteArray} {pc nL maxL index bs L : Nat} {xs : Nat → Int32} {ls : Array Slot} {rest : List Value} {Ts : List Cond} {D : va_G} {W0 : va_W} {own : String} {ret : Option FieldType} {A : Nat → Prop} (hL : L ≤ 2049) (Sx : CallFix p m c cc nL s args Ts own) (cw : CallB R s args own index yL_cell bytes maxL ret wsL_cell ({ frames := 0, cells := 0, slots := 0, locals := 0 } : Room) 0 0 2 ∧ (Cond.static yL_cell).before args s = true) (hX : va_X bs L xs s s.heap) (hbl : bs < s.heap.size) (hbA : ¬ A bs) (hP : va_P D vwCl W0 H) (hS : va_S A s.heap H locs) (hA : ∀ q, s.heap.size ≤ q → A q) (hsize : ls.size = nL) (hW : (rest.map fun v => v.category).sum ≤ 8) (hdg : decode cc pc = .ok (.invokestatic index, 3)) (hf : cells ≤ R.cells ∧ slots ≤ R.slots)
    (kk : ∀ (H : Heap) (locs : List Loc), va_P D vwCl W0 H → va_S A s.heap H locs → W p l e R s m args below meth c H locs cells slots Q (F0 m (pc + 3) ls (.int (cell0 L xs) :: rest))) : W p l e R s m args below meth c H locs cells slots Q (F0 m pc ls (.int (nI 0) :: .ref bs :: rest)) :=
  va_calli (va_runS (As := [.ref bs, .int (nI 0)]) (rest := rest) Sx (c_L_cell l (bs := bs) (L := L) (xs := xs) hL H.size) cw ⟨fun a U g mk q => by obtain ⟨q0, q1, qX⟩ := q; exact ⟨q0, q1, va_X.moved (u := U) (U := U.calling g mk a) (Vm.Alike.refl U.vm) qX⟩, fun U hU hW => ⟨rfl, by rw [hU], by rw [hU]; exact va_X.moved hW.alike (va_X.kept hX (hS.2.1 bs hbl hbA))⟩⟩ rfl rfl hsize rfl (lv_room hW) hdg hf) hS (fun q h1 h2 => absurd (zk_A0 h2) (Nat.not_le.mpr h1)) (fun q h => hA q (Nat.le_trans hS.1 (zk_A0 h))) (fun v u t H1 l1 ht hvm hw hB hz hk hS1 => by
    obtain rfl : v = cell0 L xs := hw
    exact kk H1 l1 (zk_ro hP hk) hS1)
set_option maxHeartbeats 4000000 in
set_option maxRecDepth 100000 in
theorem law_loop {p : Program} {l : Launch} {e : Env} {s : State} {m : MethodId} {below : List Frame} {meth : Method} {c : Code} {bs L : Nat} {xs : Nat → Int32} {D : va_G} {cI cJ : ClassId} {xo hp hi hh ht pz ps ia ib ic id ma va ka mb vb kb xm mh mi mz mp mo ou : Nat} (htr : l.stackTraces = false) (hL : L ≤ 2049) (C0 : lw_At p s m meth c bs L xs) (hK : va_K D vwCl [(cI, .int), (cJ, .long)] s) (sa1 sa2 : Nat) (hpx1 : vk_R RX4 51 "fewer than two bins" sa1 s ∧ ∀ w ∈ bdI, va_Nw w s) (hpx2 : vk_R RX4 137 "no such pass" sa2 s ∧ ∀ w ∈ bdA, va_Nw w s) (hZ : zxZ (fun q : Nat => s.heap.size ≤ q) s s.heap) :
    ∀ (nf n bn th pl pt pn gc tt sa sb : Nat) (Z S ZZ P F C O Ma Va Ka fa Mb Vb Kb fb HH IN PO SO ov : Nat → Nat), INV n bn pt pn gc tt sa sb pl Z S ZZ P F C O Ma Va Ka fa Mb Vb Kb fb HH PO SO → n ≤ 512 → 513 - n < nf → ∀ (H : Heap) (locs : List Loc) (ls : Array Slot), va_P D vwCl [(xo, .inr (4, [.int (nI bn), .ref hp, .ref hi, .ref hh, .ref ht])), (hp, .inr (3, [.int (nI bn), .ref pz, .ref ps, .long (lN pt), .int (nI pn)])), (pz, aI cI 62 Z), (ps, aJ cJ 63 S), (hi, .inr (2, [.ref ia, .ref ib, .ref ic, .ref id, .int (nI gc), .int (nI tt)])), (ia, aJ cJ 512 P), (ib, aI cI 512 F), (ic, aI cI 512 C), (id, aI cI 512 O), (hh, .inr (1, [.ref ma, .ref va, .ref ka, .int (nI sa)])), (ma, aI cI 1024 Ma), (va, aI cI 1024 Va), (ka, aI cI 512 Ka), (ht, .inr (1, [.ref mb, .ref vb, .ref kb, .int (nI sb)])), (mb, aI cI 1024 Mb), (vb, aI cI 1024 Vb), (kb, aI cI 512 Kb), (xm, .inr (5, [.int (nI th), .int (nI bn), .ref mh, .ref mi, .int (nI pl), .long (lN pt), .int (nI pn), .ref mz, .int (nI tt), .ref mp, .ref mo])), (mh, aI cI 65536 HH), (mi, aI cI 65536 IN), (mz, aI cI 62 ZZ), (mp, aJ cJ 4000 PO), (mo, aI cI 4000 SO), (ou, aJ cJ 1 ov)] H → va_D (fun q : Nat => s.heap.size ≤ q) [(xo, .inr (4, [.int (nI bn), .ref hp, .ref hi, .ref hh, .ref ht])), (hp, .inr (3, [.int (nI bn), .ref pz, .ref ps, .long (lN pt), .int (nI pn)])), (pz, aI cI 62 Z), (ps, aJ cJ 63 S), (hi, .inr (2, [.ref ia, .ref ib, .ref ic, .ref id, .int (nI gc), .int (nI tt)])), (ia, aJ cJ 512 P), (ib, aI cI 512 F), (ic, aI cI 512 C), (id, aI cI 512 O), (hh, .inr (1, [.ref ma, .ref va, .ref ka, .int (nI sa)])), (ma, aI cI 1024 Ma), (va, aI cI 1024 Va), (ka, aI cI 512 Ka), (ht, .inr (1, [.ref mb, .ref vb, .ref kb, .int (nI sb)])), (mb, aI cI 1024 Mb), (vb, aI cI 1024 Vb), (kb, aI cI 512 Kb), (xm, .inr (5, [.int (nI th), .int (nI bn), .ref mh, .ref mi, .int (nI pl), .long (lN pt), .int (nI pn), .ref mz, .int (nI tt), .ref mp, .ref mo])), (mh, aI cI 65536 HH), (mi, aI cI 65536 IN), (mz, aI cI 62 ZZ), (mp, aJ cJ 4000 PO), (mo, aI cI 4000 SO), (ou, aJ cJ 1 ov)] → va_S (fun q : Nat => s.heap.size ≤ q) s.heap H locs → lv_has ls 7 [(4, .int (nI (4 * n + 1))), (3, .ref ou), (2, .ref xm), (1, .ref xo), (0, .ref bs)] → W p l e room_1 s m #[Value.ref bs] below meth c H locs (24 + n) (146463 + 6 * n) (lw_Z below #[Value.ref bs] s) (F0 m 33 ls []) := by
  obtain ⟨hx, hb, hr, hml, hown, hts0, hX, hbl, hlocks, hgv⟩ := C0
  have hb : c.code = cL_law := hb
  have hown : s.vm.findClass RL = some m.cls := hown
  have hts : ∀ w ∈ wsL_law, w.before #[Value.ref bs] s = true := fun w h => hts0 w (wsL_law_in w h)
  have hA : ∀ q : Nat, s.heap.size ≤ q → (fun q : Nat => s.heap.size ≤ q) q := fun _ h => h
  have hbA : ¬ (fun q : Nat => s.heap.size ≤ q) bs := Nat.not_le.mpr hbl
  intro nf
  induction nf with
  | zero => intros; omega
  | succ nf ih =>
    intro n bn th pl pt pn gc tt sa sb Z S ZZ P F C O Ma Va Ka fa Mb Vb Kb fb HH IN PO SO ov hI hn5 hm9 H locs ls hP hD hS hl
    have K : ∀ (th pl pt pn gc tt sa sb : Nat) (Z S ZZ P F C O Ma Va Ka fa Mb Vb Kb fb HH IN PO SO ov : Nat → Nat), INV (n + 1) bn pt pn gc tt sa sb pl Z S ZZ P F C O Ma Va Ka fa Mb Vb Kb fb HH PO SO → 4 * n + 4 < L → ∀ (H : Heap) (locs : List Loc) (ls : Array Slot), va_P D vwCl [(xo, .inr (4, [.int (nI bn), .ref hp, .ref hi, .ref hh, .ref ht])), (hp, .inr (3, [.int (nI bn), .ref pz, .ref ps, .long (lN pt), .int (nI pn)])), (pz, aI cI 62 Z), (ps, aJ cJ 63 S), (hi, .inr (2, [.ref ia, .ref ib, .ref ic, .ref id, .int (nI gc), .int (nI tt)])), (ia, aJ cJ 512 P), (ib, aI cI 512 F), (ic, aI cI 512 C), (id, aI cI 512 O), (hh, .inr (1, [.ref ma, .ref va, .ref ka, .int (nI sa)])), (ma, aI cI 1024 Ma), (va, aI cI 1024 Va), (ka, aI cI 512 Ka), (ht, .inr (1, [.ref mb, .ref vb, .ref kb, .int (nI sb)])), (mb, aI cI 1024 Mb), (vb, aI cI 1024 Vb), (kb, aI cI 512 Kb), (xm, .inr (5, [.int (nI th), .int (nI bn), .ref mh, .ref mi, .int (nI pl), .long (lN pt), .int (nI pn), .ref mz, .int (nI tt), .ref mp, .ref mo])), (mh, aI cI 65536 HH), (mi, aI cI 65536 IN), (mz, aI cI 62 ZZ), (mp, aJ cJ 4000 PO), (mo, aI cI 4000 SO), (ou, aJ cJ 1 ov)] H → va_D (fun q : Nat => s.heap.size ≤ q) [(xo, .inr (4, [.int (nI bn), .ref hp, .ref hi, .ref hh, .ref ht])), (hp, .inr (3, [.int (nI bn), .ref pz, .ref ps, .long (lN pt), .int (nI pn)])), (pz, aI cI 62 Z), (ps, aJ cJ 63 S), (hi, .inr (2, [.ref ia, .ref ib, .ref ic, .ref id, .int (nI gc), .int (nI tt)])), (ia, aJ cJ 512 P), (ib, aI cI 512 F), (ic, aI cI 512 C), (id, aI cI 512 O), (hh, .inr (1, [.ref ma, .ref va, .ref ka, .int (nI sa)])), (ma, aI cI 1024 Ma), (va, aI cI 1024 Va), (ka, aI cI 512 Ka), (ht, .inr (1, [.ref mb, .ref vb, .ref kb, .int (nI sb)])), (mb, aI cI 1024 Mb), (vb, aI cI 1024 Vb), (kb, aI cI 512 Kb), (xm, .inr (5, [.int (nI th), .int (nI bn), .ref mh, .ref mi, .int (nI pl), .long (lN pt), .int (nI pn), .ref mz, .int (nI tt), .ref mp, .ref mo])), (mh, aI cI 65536 HH), (mi, aI cI 65536 IN), (mz, aI cI 62 ZZ), (mp, aJ cJ 4000 PO), (mo, aI cI 4000 SO), (ou, aJ cJ 1 ov)] → va_S (fun q : Nat => s.heap.size ≤ q) s.heap H locs → lv_has ls 7 [(4, .int (nI (4 * n + 1))), (3, .ref ou), (2, .ref xm), (1, .ref xo), (0, .ref bs)] → W p l e room_1 s m #[Value.ref bs] below meth c H locs (24 + n + 1) (146463 + 6 * n + 6) (lw_Z below #[Value.ref bs] s) (F0 m 636 ls []) := by
      intro th pl pt pn gc tt sa sb Z S ZZ P F C O Ma Va Ka fa Mb Vb Kb fb HH IN PO SO ov hI hLn H locs ls hP hD hS hl
      refine lv_iinc (v := nI (4 * (n + 1) + 1)) (lv' := [(4, .int (nI (4 * (n + 1) + 1))), (3, .ref ou), (2, .ref xm), (1, .ref xo), (0, .ref bs)]) hx hb dL_law_636 hl (k := 0) rfl (by rw [show Int32.ofInt 4 = nI 4 by decide, nI_add, show 4 * n + 1 + 4 = 4 * (n + 1) + 1 by omega]) (by decide) rfl (fun ls hl => ?_)
      refine lv_goto (tgt := 33) hx hb dL_law_639 (by decide) ?_
      refine W.widen (k := 24 + (n + 1)) (n := 146463 + 6 * (n + 1)) (by omega) (by omega) ?_
      exact ih (n + 1) bn _ _ _ _ _ _ _ _ _ _ _ _ _ _ _ _ _ _ _ _ _ _ _ _ _ _ _ _ hI (by omega) (by omega) _ _ _ hP hD hS (lv_sub hl [0, 1, 2, 3, 4] rfl)
    refine lv_iload hx hb dL_law_33 (lv_at hl 0 rfl) ?_
    refine lv_aload_n hx hb dL_law_35 rfl (lv_at hl 4 rfl) ?_
    refine va_slen hx hb hX hbl hbA hS dL_law_36 ?_
    refine W.eq (g2 := F0 m 37 ls [.int (nI L), .int (nI (4 * n + 1))]) rfl ?_
    refine lv_iconst (v := nI 4) hx hb dL_law_37 (by decide) ?_
    refine lv_isub hx hb dL_law_38 ?_
    refine zq_gt (tgt := 642) hx hb dL_law_39 (by decide) (fun c39 => ?_) (fun c39 => ?_)
    · refine lv_iconst (v := 1) hx hb dL_law_642 (by decide) ?_
      refine va_forget (fun q hq => hS.2.2 q hq) ?_
      refine W.widen (k := 601024) (n := 7293000) (by omega) (by omega) ?_
      exact lw_ret hx hb hr hlocks dL_law_643
    · rw [nI_toInt (by omega), pk_sub_toInt (by omega) (by decide)] at c39
      have hLn : 4 * n + 4 < L := by omega
      have K9 := fun th pl pt pn gc tt sa sb Z S ZZ P F C O Ma Va Ka fa Mb Vb Kb fb HH IN PO SO ov (h9 : INV (n + 1) bn pt pn gc tt sa sb pl Z S ZZ P F C O Ma Va Ka fa Mb Vb Kb fb HH PO SO) => K th pl pt pn gc tt sa sb Z S ZZ P F C O Ma Va Ka fa Mb Vb Kb fb HH IN PO SO ov h9 hLn
      refine lv_aload_n hx hb dL_law_42 rfl (lv_at hl 4 rfl) ?_
      refine lv_iload hx hb dL_law_43 (lv_at hl 0 rfl) ?_
      refine zs_ld hx hb hX hbl hbA hS (k := 4 * n + 1) (by omega) (by omega) dL_law_45 ?_
      refine lv_bipush (v := nI 15) hx hb dL_law_46 (by decide) ?_
      refine lv_iand hx hb dL_law_48 ?_
      obtain ⟨j9, hj9, ej9⟩ := pk_andE (xs (4 * n + 1)) (m := nI 15) 4 (by decide)
      rw [ej9]
      rcases (show j9 = 0 ∨ j9 = 1 ∨ j9 = 2 ∨ j9 = 3 ∨ j9 = 4 ∨ j9 = 5 ∨ j9 = 6 ∨ j9 = 7 ∨ j9 = 8 ∨ j9 = 9 ∨ 10 ≤ j9 by omega) with rfl | rfl | rfl | rfl | rfl | rfl | rfl | rfl | rfl | rfl | hj10
      · refine lv_tableIn (off := 55) (tgt := 104) hx hb dL_law_49 (by decide) (by decide) (by decide) (by decide) ?_
        exact law_c0 hx hb hml hown hts hX hbl hbA hA hK htr sa1 hpx1 hZ hI (by omega) rfl (by omega) hL (by omega) (by omega) hP hD hS (lv_sub hl [0, 1, 2, 3, 4] rfl) K9
      · refine lv_tableIn (off := 143) (tgt := 192) hx hb dL_law_49 (by decide) (by decide) (by decide) (by decide) ?_
        exact law_c1 hx hb hml hown hts hX hbl hbA hA hK hI (by omega) rfl (by omega) hL (by omega) (by omega) hP hD hS (lv_sub hl [0, 1, 2, 3, 4] rfl) K9
      · refine lv_tableIn (off := 212) (tgt := 261) hx hb dL_law_49 (by decide) (by decide) (by decide) (by decide) ?_
        exact law_c2 hx hb hml hown hts hX hbl hbA hA hK hI (by omega) rfl (by omega) hL (by omega) (by omega) hP hD hS (lv_sub hl [0, 1, 2, 3, 4] rfl) K9
      · refine lv_tableIn (off := 281) (tgt := 330) hx hb dL_law_49 (by decide) (by decide) (by decide) (by decide) ?_
        exact law_c3 hx hb hml hown hts hX hbl hbA hA hK hI (by omega) rfl (by omega) hL (by omega) (by omega) hP hD hS (lv_sub hl [0, 1, 2, 3, 4] rfl) K9
      · refine lv_tableIn (off := 350) (tgt := 399) hx hb dL_law_49 (by decide) (by decide) (by decide) (by decide) ?_
        exact law_c4 hx hb hml hown hts hX hbl hbA hA hK hI (by omega) rfl (by omega) hL (by omega) (by omega) hP hD hS (lv_sub hl [0, 1, 2, 3, 4] rfl) K9
      · refine lv_tableIn (off := 387) (tgt := 436) hx hb dL_law_49 (by decide) (by decide) (by decide) (by decide) ?_
        exact law_c5 hx hb hml hown hts hX hbl hbA hA hK hI (by omega) rfl (by omega) hL (by omega) (by omega) hP hD hS (lv_sub hl [0, 1, 2, 3, 4] rfl) K9
      · refine lv_tableIn (off := 400) (tgt := 449) hx hb dL_law_49 (by decide) (by decide) (by decide) (by decide) ?_
        exact law_c6 hx hb hml hown hts hX hbl hbA hA hK hI (by omega) rfl (by omega) hL (by omega) (by omega) hP hD hS (lv_sub hl [0, 1, 2, 3, 4] rfl) K9
      · refine lv_tableIn (off := 437) (tgt := 486) hx hb dL_law_49 (by decide) (by decide) (by decide) (by decide) ?_
        exact law_c7 hx hb hml hown hts hX hbl hbA hA hK hI (by omega) rfl (by omega) hL (by omega) (by omega) hP hD hS (lv_sub hl [0, 1, 2, 3, 4] rfl) K9
      · refine lv_tableIn (off := 462) (tgt := 511) hx hb dL_law_49 (by decide) (by decide) (by decide) (by decide) ?_
        exact law_c8 hx hb hml hown hts hX hbl hbA hA hK htr sa2 hpx2 hZ hts0 hI (by omega) rfl (by omega) hL (by omega) (by omega) hP hD hS (lv_sub hl [0, 1, 2, 3, 4] rfl) K9
      · refine lv_tableIn (off := 518) (tgt := 567) hx hb dL_law_49 (by decide) (by decide) (by decide) (by decide) ?_
        exact law_c9 hx hb hml hown hts hX hbl hbA hA hK hI (by omega) rfl (by omega) hL (by omega) (by omega) hP hD hS (lv_sub hl [0, 1, 2, 3, 4] rfl) K9
      · refine lv_tableOut (tgt := 636) hx hb dL_law_49 (Or.inr (by rw [nI_toInt (by omega)]; omega)) (by decide) ?_
        refine W.widen (k := 24 + n + 1) (n := 146463 + 6 * n + 6) (by omega) (by omega) ?_
        exact K9 _ _ _ _ _ _ _ _ _ _ _ _ _ _ _ _ _ _ _ _ _ _ _ _ _ _ _ _ hI.up _ _ _ hP hD hS hl
set_option maxHeartbeats 4000000 in
set_option maxRecDepth 100000 in
theorem whole_start {p : Program} {e : Env} {s : State} {m : MethodId} {below : List Frame} {meth : Method} {c : Code} (l : Launch) (htr : l.stackTraces = false) {bs L : Nat} {xs : Nat → Int32} (hL : L ≤ 2049) (C0 : lw_At p s m meth c bs L xs) : W p l e room_1 s m #[Value.ref bs] below meth c s.heap [] 0 0 (lw_Z below #[Value.ref bs] s) (entryFrame m ([Value.ref bs] : List Value).toArray 7) := by
  obtain ⟨⟨sa1, hs1⟩, ⟨sa2, hs2⟩, hw1, hw2, hnw, hZ, D, cI, cJ, hK⟩ := zl_facts C0
  obtain ⟨hx, hb, hr, hml, hown, hts0, hX, hbl, hlocks, hgv⟩ := id C0
  have hb : c.code = cL_law := hb
  have hown : s.vm.findClass RL = some m.cls := hown
  have hts : ∀ w ∈ wsL_law, w.before #[Value.ref bs] s = true := fun w h => hts0 w (wsL_law_in w h)
  obtain ⟨A, hAe⟩ : ∃ A : Nat → Prop, A = fun q : Nat => s.heap.size ≤ q := ⟨_, rfl⟩
  have hA : ∀ q : Nat, s.heap.size ≤ q → A q := fun q h => by rw [hAe]; exact h
  have hbA : ¬ A bs := by rw [hAe]; exact Nat.not_le.mpr hbl
  have hS : va_S A s.heap s.heap [] := va_S.rf
  have hP : va_P D vwCl [] s.heap := fun k q h => by simp at h
  have hD : va_D A [] := ⟨fun i j p q h => by simp at h, fun k q h => by simp at h⟩
  have hinX4 : ∀ w ∈ wsX40, w ∈ wsL_law := inlX4
  have hinX5 : ∀ w ∈ wsX50, w ∈ wsL_law := inlX5
  have hl := lv_entry ([.ref bs]) (n := 7) (Nat.le_of_ble_eq_true rfl)
  rw [lg_entry_eq]
  generalize (lg_sl ([.ref bs]) ++ List.replicate (7 - (lg_sl ([.ref bs])).length) Slot.unset).toArray = ls at hl ⊢
  have hl : lv_has ls 7 [(0, .ref bs)] := hl
  refine va_new (D := D) (ci := 4) (fs := [.int (nI 0), .null, .null, .null, .null]) (C := RX4) (T := TX4) (N := 5) hx hb hts hinX4 tyX4 tyX4_ok hown (hts (.classLink RL 8 RX4) (by decide +kernel)) (hts (.instantiable RX4 5) (by decide +kernel)) (hts (.initialized RX4) (by decide +kernel)) hK hP hD hS hA rfl (fun j hj => by rcases (show j = 0 ∨ j = 1 ∨ j = 2 ∨ j = 3 ∨ j = 4 by omega) with rfl | rfl | rfl | rfl | rfl <;> rfl) (Nat.le_of_ble_eq_true rfl) (Nat.le_of_ble_eq_true rfl) dL_law_0 (fun q0 H hP hD hS => ?_)
  have hP : va_P D vwCl [(q0, .inr (4, [.int (nI 0), .null, .null, .null, .null]))] H := hP
  have hD : va_D A [(q0, .inr (4, [.int (nI 0), .null, .null, .null, .null]))] := hD
  refine W.widen (k := 1) (n := 5) (Nat.le_of_ble_eq_true rfl) (Nat.le_of_ble_eq_true rfl) ?_
  refine lv_dup hx hb dL_law_3 rfl ?_
  refine lv_aload_n hx hb dL_law_4 rfl (lv_at hl 0 rfl) ?_
  refine lv_iconst (v := nI 0) hx hb dL_law_5 (by decide) ?_
  refine cell_call (rest := [.ref q0, .ref q0]) hL ⟨hx, hb, hml, hown, hts⟩ (va_cwS 2 hts gL_law_L_cell rfl rfl rfl (by decide +kernel) ⟨(Nat.le_of_ble_eq_true rfl), (Nat.le_of_ble_eq_true rfl)⟩) hX hbl hbA hP hS hA hl.1 (Nat.le_of_ble_eq_true rfl) dL_law_6 ⟨(Nat.le_of_ble_eq_true rfl), (Nat.le_of_ble_eq_true rfl)⟩ (fun H locs hP hS => ?_)
  refine WX_v.callI (rest := [.ref q0]) (wr := []) (c_X4_init l D cI cJ q0 (cell0 L xs)) ⟨hx, hb, hml, hown, hts⟩ (cwI 1 hts gL_law_X4_init rfl rfl rfl (hts (.initialized RX4) (by decide +kernel)) (hts (.methodLink RL 27 yX4_init) (by decide +kernel)) (hts (.instanceMethod yX4_init) (by decide +kernel)) rfl (by decide +kernel) ⟨(Nat.le_of_ble_eq_true rfl), (Nat.le_of_ble_eq_true rfl)⟩) (fun U V h9 h8 => ⟨va_Nw.same rfl h9 h8.1, va_Nw.same rfl h9 h8.2⟩) (fun U hW => ⟨va_Nw.warmM hW hnw.1, va_Nw.warmM hW hnw.2⟩) hK hP hD hS hA [0] [] [0, 1] rfl rfl (by decide) (by decide) (by decide) rfl rfl hl.1 rfl (Nat.le_of_ble_eq_true rfl) dL_law_9 ⟨(Nat.le_of_ble_eq_true rfl), (Nat.le_of_ble_eq_true rfl)⟩ (fun u1_ H locs e1_ hP hD hS => ?_)
  obtain ⟨hp, pz, ps, hi, ia, ib, ic, id, hh, ma, va, ka, ht, mb, vb, kb⟩ := u1_
  have hP : va_P D vwCl [(q0, .inr (4, [.int (nI (binsOf (cell0 L xs))), .ref hp, .ref hi, .ref hh, .ref ht])), (hp, .inr (3, [.int (nI (binsOf (cell0 L xs))), .ref pz, .ref ps, .long (lN 0), .int (nI 0)])), (pz, aI cI 62 (fun _ => 0)), (ps, aJ cJ 63 (fun _ => 0)), (hi, .inr (2, [.ref ia, .ref ib, .ref ic, .ref id, .int (nI 0), .int (nI 0)])), (ia, aJ cJ 512 (fun _ => 0)), (ib, aI cI 512 (fun _ => 0)), (ic, aI cI 512 (fun _ => 0)), (id, aI cI 512 (fun _ => 0)), (hh, .inr (1, [.ref ma, .ref va, .ref ka, .int (nI 0)])), (ma, aI cI 1024 (fun _ => 0)), (va, aI cI 1024 (fun _ => 0)), (ka, aI cI 512 (fun _ => 0)), (ht, .inr (1, [.ref mb, .ref vb, .ref kb, .int (nI 0)])), (mb, aI cI 1024 (fun _ => 0)), (vb, aI cI 1024 (fun _ => 0)), (kb, aI cI 512 (fun _ => 0))] H := hP
  have hD : va_D A [(q0, .inr (4, [.int (nI (binsOf (cell0 L xs))), .ref hp, .ref hi, .ref hh, .ref ht])), (hp, .inr (3, [.int (nI (binsOf (cell0 L xs))), .ref pz, .ref ps, .long (lN 0), .int (nI 0)])), (pz, aI cI 62 (fun _ => 0)), (ps, aJ cJ 63 (fun _ => 0)), (hi, .inr (2, [.ref ia, .ref ib, .ref ic, .ref id, .int (nI 0), .int (nI 0)])), (ia, aJ cJ 512 (fun _ => 0)), (ib, aI cI 512 (fun _ => 0)), (ic, aI cI 512 (fun _ => 0)), (id, aI cI 512 (fun _ => 0)), (hh, .inr (1, [.ref ma, .ref va, .ref ka, .int (nI 0)])), (ma, aI cI 1024 (fun _ => 0)), (va, aI cI 1024 (fun _ => 0)), (ka, aI cI 512 (fun _ => 0)), (ht, .inr (1, [.ref mb, .ref vb, .ref kb, .int (nI 0)])), (mb, aI cI 1024 (fun _ => 0)), (vb, aI cI 1024 (fun _ => 0)), (kb, aI cI 512 (fun _ => 0))] := hD
  refine W.widen (k := 17) (n := 7317) (Nat.le_of_ble_eq_true rfl) (Nat.le_of_ble_eq_true rfl) ?_
  refine lv_astore_n (lv' := [(1, .ref q0), (0, .ref bs)]) hx hb dL_law_12 rfl hl (by decide) rfl (fun ls hl => ?_)
  refine va_new (D := D) (ci := 5) (fs := [.int (nI 0), .int (nI 0), .null, .null, .int (nI 0), .long (lN 0), .int (nI 0), .null, .int (nI 0), .null, .null]) (C := RX5) (T := TX5) (N := 11) hx hb hts hinX5 tyX5 tyX5_ok hown (hts (.classLink RL 30 RX5) (by decide +kernel)) (hts (.instantiable RX5 11) (by decide +kernel)) (hts (.initialized RX5) (by decide +kernel)) hK hP hD hS hA rfl (fun j hj => by rcases (show j = 0 ∨ j = 1 ∨ j = 2 ∨ j = 3 ∨ j = 4 ∨ j = 5 ∨ j = 6 ∨ j = 7 ∨ j = 8 ∨ j = 9 ∨ j = 10 by omega) with rfl | rfl | rfl | rfl | rfl | rfl | rfl | rfl | rfl | rfl | rfl <;> rfl) (Nat.le_of_ble_eq_true rfl) (Nat.le_of_ble_eq_true rfl) dL_law_13 (fun q13 H hP hD hS => ?_)
  have hP : va_P D vwCl [(q0, .inr (4, [.int (nI (binsOf (cell0 L xs))), .ref hp, .ref hi, .ref hh, .ref ht])), (hp, .inr (3, [.int (nI (binsOf (cell0 L xs))), .ref pz, .ref ps, .long (lN 0), .int (nI 0)])), (pz, aI cI 62 (fun _ => 0)), (ps, aJ cJ 63 (fun _ => 0)), (hi, .inr (2, [.ref ia, .ref ib, .ref ic, .ref id, .int (nI 0), .int (nI 0)])), (ia, aJ cJ 512 (fun _ => 0)), (ib, aI cI 512 (fun _ => 0)), (ic, aI cI 512 (fun _ => 0)), (id, aI cI 512 (fun _ => 0)), (hh, .inr (1, [.ref ma, .ref va, .ref ka, .int (nI 0)])), (ma, aI cI 1024 (fun _ => 0)), (va, aI cI 1024 (fun _ => 0)), (ka, aI cI 512 (fun _ => 0)), (ht, .inr (1, [.ref mb, .ref vb, .ref kb, .int (nI 0)])), (mb, aI cI 1024 (fun _ => 0)), (vb, aI cI 1024 (fun _ => 0)), (kb, aI cI 512 (fun _ => 0)), (q13, .inr (5, [.int (nI 0), .int (nI 0), .null, .null, .int (nI 0), .long (lN 0), .int (nI 0), .null, .int (nI 0), .null, .null]))] H := hP
  have hD : va_D A [(q0, .inr (4, [.int (nI (binsOf (cell0 L xs))), .ref hp, .ref hi, .ref hh, .ref ht])), (hp, .inr (3, [.int (nI (binsOf (cell0 L xs))), .ref pz, .ref ps, .long (lN 0), .int (nI 0)])), (pz, aI cI 62 (fun _ => 0)), (ps, aJ cJ 63 (fun _ => 0)), (hi, .inr (2, [.ref ia, .ref ib, .ref ic, .ref id, .int (nI 0), .int (nI 0)])), (ia, aJ cJ 512 (fun _ => 0)), (ib, aI cI 512 (fun _ => 0)), (ic, aI cI 512 (fun _ => 0)), (id, aI cI 512 (fun _ => 0)), (hh, .inr (1, [.ref ma, .ref va, .ref ka, .int (nI 0)])), (ma, aI cI 1024 (fun _ => 0)), (va, aI cI 1024 (fun _ => 0)), (ka, aI cI 512 (fun _ => 0)), (ht, .inr (1, [.ref mb, .ref vb, .ref kb, .int (nI 0)])), (mb, aI cI 1024 (fun _ => 0)), (vb, aI cI 1024 (fun _ => 0)), (kb, aI cI 512 (fun _ => 0)), (q13, .inr (5, [.int (nI 0), .int (nI 0), .null, .null, .int (nI 0), .long (lN 0), .int (nI 0), .null, .int (nI 0), .null, .null]))] := hD
  refine W.widen (k := 18) (n := 7328) (Nat.le_of_ble_eq_true rfl) (Nat.le_of_ble_eq_true rfl) ?_
  refine lv_dup hx hb dL_law_16 rfl ?_
  refine lv_aload_n hx hb dL_law_17 rfl (lv_at hl 1 rfl) ?_
  refine lv_iconst (v := nI 0) hx hb dL_law_18 (by decide) ?_
  refine cell_call (rest := [.ref q13, .ref q13]) hL ⟨hx, hb, hml, hown, hts⟩ (va_cwS 2 hts gL_law_L_cell rfl rfl rfl (by decide +kernel) ⟨(Nat.le_of_ble_eq_true rfl), (Nat.le_of_ble_eq_true rfl)⟩) hX hbl hbA hP hS hA hl.1 (Nat.le_of_ble_eq_true rfl) dL_law_19 ⟨(Nat.le_of_ble_eq_true rfl), (Nat.le_of_ble_eq_true rfl)⟩ (fun H locs hP hS => ?_)
  refine WR_v.callI (rest := [.ref q13]) (wr := [(q0, .inr (4, [.int (nI (binsOf (cell0 L xs))), .ref hp, .ref hi, .ref hh, .ref ht])), (hp, .inr (3, [.int (nI (binsOf (cell0 L xs))), .ref pz, .ref ps, .long (lN 0), .int (nI 0)])), (pz, aI cI 62 (fun _ => 0)), (ps, aJ cJ 63 (fun _ => 0)), (hi, .inr (2, [.ref ia, .ref ib, .ref ic, .ref id, .int (nI 0), .int (nI 0)])), (ia, aJ cJ 512 (fun _ => 0)), (ib, aI cI 512 (fun _ => 0)), (ic, aI cI 512 (fun _ => 0)), (id, aI cI 512 (fun _ => 0)), (hh, .inr (1, [.ref ma, .ref va, .ref ka, .int (nI 0)])), (ma, aI cI 1024 (fun _ => 0)), (va, aI cI 1024 (fun _ => 0)), (ka, aI cI 512 (fun _ => 0)), (ht, .inr (1, [.ref mb, .ref vb, .ref kb, .int (nI 0)])), (mb, aI cI 1024 (fun _ => 0)), (vb, aI cI 1024 (fun _ => 0)), (kb, aI cI 512 (fun _ => 0))]) (c_X5_init l D cI cJ q13 (cell0 L xs)) ⟨hx, hb, hml, hown, hts⟩ (cwI 1 hts gL_law_X5_init rfl rfl rfl (hts (.initialized RX5) (by decide +kernel)) (hts (.methodLink RL 32 yX5_init) (by decide +kernel)) (hts (.instanceMethod yX5_init) (by decide +kernel)) rfl (by decide +kernel) ⟨(Nat.le_of_ble_eq_true rfl), (Nat.le_of_ble_eq_true rfl)⟩) hK hP hD hS hA [17] [0, 1, 2, 3, 4, 5, 6, 7, 8, 9, 10, 11, 12, 13, 14, 15, 16] [0, 1] rfl rfl (by decide) (by decide) (by decide) rfl rfl hl.1 rfl (Nat.le_of_ble_eq_true rfl) dL_law_22 ⟨(Nat.le_of_ble_eq_true rfl), (Nat.le_of_ble_eq_true rfl)⟩ (fun u2_ H locs e2_ hP hD hS => ?_)
  obtain ⟨mh, mi, mz, mp, mo, HH⟩ := u2_
  have hHH : ∀ b, b < 65536 → HH b = 1000 := e2_
  have hP : va_P D vwCl [(q0, .inr (4, [.int (nI (binsOf (cell0 L xs))), .ref hp, .ref hi, .ref hh, .ref ht])), (hp, .inr (3, [.int (nI (binsOf (cell0 L xs))), .ref pz, .ref ps, .long (lN 0), .int (nI 0)])), (pz, aI cI 62 (fun _ => 0)), (ps, aJ cJ 63 (fun _ => 0)), (hi, .inr (2, [.ref ia, .ref ib, .ref ic, .ref id, .int (nI 0), .int (nI 0)])), (ia, aJ cJ 512 (fun _ => 0)), (ib, aI cI 512 (fun _ => 0)), (ic, aI cI 512 (fun _ => 0)), (id, aI cI 512 (fun _ => 0)), (hh, .inr (1, [.ref ma, .ref va, .ref ka, .int (nI 0)])), (ma, aI cI 1024 (fun _ => 0)), (va, aI cI 1024 (fun _ => 0)), (ka, aI cI 512 (fun _ => 0)), (ht, .inr (1, [.ref mb, .ref vb, .ref kb, .int (nI 0)])), (mb, aI cI 1024 (fun _ => 0)), (vb, aI cI 1024 (fun _ => 0)), (kb, aI cI 512 (fun _ => 0)), (q13, .inr (5, [.int (nI 0), .int (nI (binsOf (cell0 L xs))), .ref mh, .ref mi, .int (nI 0), .long (lN 0), .int (nI 0), .ref mz, .int (nI 0), .ref mp, .ref mo])), (mh, aI cI 65536 HH), (mi, aI cI 65536 (fun _ => 0)), (mz, aI cI 62 (fun _ => 0)), (mp, aJ cJ 4000 (fun _ => 0)), (mo, aI cI 4000 (fun _ => 0))] H := hP
  have hD : va_D A [(q0, .inr (4, [.int (nI (binsOf (cell0 L xs))), .ref hp, .ref hi, .ref hh, .ref ht])), (hp, .inr (3, [.int (nI (binsOf (cell0 L xs))), .ref pz, .ref ps, .long (lN 0), .int (nI 0)])), (pz, aI cI 62 (fun _ => 0)), (ps, aJ cJ 63 (fun _ => 0)), (hi, .inr (2, [.ref ia, .ref ib, .ref ic, .ref id, .int (nI 0), .int (nI 0)])), (ia, aJ cJ 512 (fun _ => 0)), (ib, aI cI 512 (fun _ => 0)), (ic, aI cI 512 (fun _ => 0)), (id, aI cI 512 (fun _ => 0)), (hh, .inr (1, [.ref ma, .ref va, .ref ka, .int (nI 0)])), (ma, aI cI 1024 (fun _ => 0)), (va, aI cI 1024 (fun _ => 0)), (ka, aI cI 512 (fun _ => 0)), (ht, .inr (1, [.ref mb, .ref vb, .ref kb, .int (nI 0)])), (mb, aI cI 1024 (fun _ => 0)), (vb, aI cI 1024 (fun _ => 0)), (kb, aI cI 512 (fun _ => 0)), (q13, .inr (5, [.int (nI 0), .int (nI (binsOf (cell0 L xs))), .ref mh, .ref mi, .int (nI 0), .long (lN 0), .int (nI 0), .ref mz, .int (nI 0), .ref mp, .ref mo])), (mh, aI cI 65536 HH), (mi, aI cI 65536 (fun _ => 0)), (mz, aI cI 62 (fun _ => 0)), (mp, aJ cJ 4000 (fun _ => 0)), (mo, aI cI 4000 (fun _ => 0))] := hD
  refine W.widen (k := 23) (n := 146462) (Nat.le_of_ble_eq_true rfl) (Nat.le_of_ble_eq_true rfl) ?_
  refine lv_astore_n (lv' := [(2, .ref q13), (1, .ref q0), (0, .ref bs)]) hx hb dL_law_25 rfl hl (by decide) rfl (fun ls hl => ?_)
  refine lv_iconst (v := nI 1) hx hb dL_law_26 (by decide) ?_
  refine zl_newa hx hb (hts (.arrayClass .long) (by decide +kernel)) hK 1 rfl hP hD hS hA (N := 1) (by decide) (Nat.le_of_ble_eq_true rfl) (Nat.le_of_ble_eq_true rfl) dL_law_27 (fun q27 H hP hD hS => ?_)
  have hP : va_P D vwCl [(q0, .inr (4, [.int (nI (binsOf (cell0 L xs))), .ref hp, .ref hi, .ref hh, .ref ht])), (hp, .inr (3, [.int (nI (binsOf (cell0 L xs))), .ref pz, .ref ps, .long (lN 0), .int (nI 0)])), (pz, aI cI 62 (fun _ => 0)), (ps, aJ cJ 63 (fun _ => 0)), (hi, .inr (2, [.ref ia, .ref ib, .ref ic, .ref id, .int (nI 0), .int (nI 0)])), (ia, aJ cJ 512 (fun _ => 0)), (ib, aI cI 512 (fun _ => 0)), (ic, aI cI 512 (fun _ => 0)), (id, aI cI 512 (fun _ => 0)), (hh, .inr (1, [.ref ma, .ref va, .ref ka, .int (nI 0)])), (ma, aI cI 1024 (fun _ => 0)), (va, aI cI 1024 (fun _ => 0)), (ka, aI cI 512 (fun _ => 0)), (ht, .inr (1, [.ref mb, .ref vb, .ref kb, .int (nI 0)])), (mb, aI cI 1024 (fun _ => 0)), (vb, aI cI 1024 (fun _ => 0)), (kb, aI cI 512 (fun _ => 0)), (q13, .inr (5, [.int (nI 0), .int (nI (binsOf (cell0 L xs))), .ref mh, .ref mi, .int (nI 0), .long (lN 0), .int (nI 0), .ref mz, .int (nI 0), .ref mp, .ref mo])), (mh, aI cI 65536 HH), (mi, aI cI 65536 (fun _ => 0)), (mz, aI cI 62 (fun _ => 0)), (mp, aJ cJ 4000 (fun _ => 0)), (mo, aI cI 4000 (fun _ => 0)), (q27, aJ cJ 1 (fun _ => 0))] H := hP
  have hD : va_D A [(q0, .inr (4, [.int (nI (binsOf (cell0 L xs))), .ref hp, .ref hi, .ref hh, .ref ht])), (hp, .inr (3, [.int (nI (binsOf (cell0 L xs))), .ref pz, .ref ps, .long (lN 0), .int (nI 0)])), (pz, aI cI 62 (fun _ => 0)), (ps, aJ cJ 63 (fun _ => 0)), (hi, .inr (2, [.ref ia, .ref ib, .ref ic, .ref id, .int (nI 0), .int (nI 0)])), (ia, aJ cJ 512 (fun _ => 0)), (ib, aI cI 512 (fun _ => 0)), (ic, aI cI 512 (fun _ => 0)), (id, aI cI 512 (fun _ => 0)), (hh, .inr (1, [.ref ma, .ref va, .ref ka, .int (nI 0)])), (ma, aI cI 1024 (fun _ => 0)), (va, aI cI 1024 (fun _ => 0)), (ka, aI cI 512 (fun _ => 0)), (ht, .inr (1, [.ref mb, .ref vb, .ref kb, .int (nI 0)])), (mb, aI cI 1024 (fun _ => 0)), (vb, aI cI 1024 (fun _ => 0)), (kb, aI cI 512 (fun _ => 0)), (q13, .inr (5, [.int (nI 0), .int (nI (binsOf (cell0 L xs))), .ref mh, .ref mi, .int (nI 0), .long (lN 0), .int (nI 0), .ref mz, .int (nI 0), .ref mp, .ref mo])), (mh, aI cI 65536 HH), (mi, aI cI 65536 (fun _ => 0)), (mz, aI cI 62 (fun _ => 0)), (mp, aJ cJ 4000 (fun _ => 0)), (mo, aI cI 4000 (fun _ => 0)), (q27, aJ cJ 1 (fun _ => 0))] := hD
  refine W.widen (k := 24) (n := 146463) (Nat.le_of_ble_eq_true rfl) (Nat.le_of_ble_eq_true rfl) ?_
  refine lv_astore_n (lv' := [(3, .ref q27), (2, .ref q13), (1, .ref q0), (0, .ref bs)]) hx hb dL_law_29 rfl hl (by decide) rfl (fun ls hl => ?_)
  refine lv_iconst (v := nI 1) hx hb dL_law_30 (by decide) ?_
  refine lv_istore (lv' := [(4, .int (nI 1)), (3, .ref q27), (2, .ref q13), (1, .ref q0), (0, .ref bs)]) hx hb dL_law_31 hl (by decide) rfl (fun ls hl => ?_)
  subst hAe
  have hI0 : INV 0 (binsOf (cell0 L xs)) 0 0 0 0 0 0 0 (fun _ => 0) (fun _ => 0) (fun _ => 0) (fun _ => 0) (fun _ => 0) (fun _ => 0) (fun _ => 0) (fun _ => 0) (fun _ => 0) (fun _ => 0) (fun _ => 0) (fun _ => 0) (fun _ => 0) (fun _ => 0) (fun _ => 0) HH (fun _ => 0) (fun _ => 0) :=
    ⟨⟨binsOf_le _, ⟨by omega, by omega, binsOf_le _, fun _ => rfl, fun h => absurd h (Nat.lt_irrefl 0)⟩, fun k hk => absurd hk (Nat.not_lt_zero _), Or.inl ⟨rfl, rfl⟩⟩, ⟨⟨by omega, by omega, rfl, fun k hk => absurd hk (Nat.not_lt_zero _)⟩, ⟨fun k hk => absurd hk (Nat.not_lt_zero _), fun j k _ hk => absurd hk (Nat.not_lt_zero _), rfl⟩, fun k hk => absurd hk (Nat.not_lt_zero _), fun h => absurd h (by decide), lnk_0, Nat.le_refl _⟩, ⟨tab_empty (fun _ _ => rfl), fun _ => Nat.zero_le _, fun b hb9 => (hHH b hb9).trans (if_pos rfl).symm, Nat.le_refl _⟩, ⟨tab_empty (fun _ _ => rfl), Nat.zero_le _⟩⟩
  exact law_loop htr hL C0 hK sa1 sa2 ⟨hs1, hw1⟩ ⟨hs2, hw2⟩ hZ 514 0 _ _ _ _ _ _ _ _ _ _ _ _ _ _ _ _ _ _ _ _ _ _ _ _ _ _ _ _ _ hI0 (by omega) (by omega) _ _ _ hP hD hS (lv_sub hl [0, 1, 2, 3, 4] rfl)
