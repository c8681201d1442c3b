set_option maxHeartbeats 4000000 in
set_option maxRecDepth 100000 in
theorem law_c0 {p : Program} {l : Launch} {e : Env} {s : State} {m : MethodId} {args : Array Value} {below : List Frame} {meth : Method} {c : Code} {A : Nat → Prop} {Q : State → Prop} {bs L : Nat} {xs : Nat → Int32} {D : va_G} {cI cJ : ClassId} {xo hp hi hh ht pz ps ia ib ic id ma va ka mb vb kb xm mh mi mz mp mo ou : Nat} (hx : p.tables.exec = Jvm.exec) (hb : c.code = cL_law) (hml : c.maxLocals = 7) (hown : s.vm.findClass RL = some m.cls) (hts : ∀ w ∈ wsL_law, w.before args s = true) (hX : va_X bs L xs s s.heap) (hbl : bs < s.heap.size) (hbA : ¬ A bs) (hA : ∀ q, s.heap.size ≤ q → A q) (hK : va_K D vwCl [(cI, .int), (cJ, .long)] s) (htr : l.stackTraces = false) (sa9 : Nat) (hpx : vk_R RX4 51 "fewer than two bins" sa9 s ∧ ∀ w ∈ bdI, va_Nw w s) (hZ : zxZ A s s.heap) {n bn th pl pt pn gc tt sa sb : Nat} {Z S ZZ P F C O Ma Va Ka fa Mb Vb Kb fb HH IN PO SO ov : Nat → Nat} (hI : INV n bn pt pn gc tt sa sb pl Z S ZZ P F C O Ma Va Ka fa Mb Vb Kb fb HH PO SO) (hn : n < 512) {i : Nat} (hi9 : i = 4 * n + 1) (hiL : i + 3 < L) (hL : L ≤ 2049) {cells slots : Nat} (hc0 : cells + 1 ≤ 601024) (hs0 : slots + 6 ≤ 7293000) {H : Heap} {locs : List Loc} {ls : Array Slot} (hP : va_P D vwCl [(xo, .inr (4, [.int (nI bn), .ref hp, .ref hi, .ref hh, .ref ht])), (hp, .inr (3, [.int (nI bn), .ref pz, .ref ps, .long (lN pt), .int (nI pn)])), (pz, aI cI 62 Z), (ps, aJ cJ 63 S), (hi, .inr (2, [.ref ia, .ref ib, .ref ic, .ref id, .int (nI gc), .int (nI tt)])), (ia, aJ cJ 512 P), (ib, aI cI 512 F), (ic, aI cI 512 C), (id, aI cI 512 O), (hh, .inr (1, [.ref ma, .ref va, .ref ka, .int (nI sa)])), (ma, aI cI 1024 Ma), (va, aI cI 1024 Va), (ka, aI cI 512 Ka), (ht, .inr (1, [.ref mb, .ref vb, .ref kb, .int (nI sb)])), (mb, aI cI 1024 Mb), (vb, aI cI 1024 Vb), (kb, aI cI 512 Kb), (xm, .inr (5, [.int (nI th), .int (nI bn), .ref mh, .ref mi, .int (nI pl), .long (lN pt), .int (nI pn), .ref mz, .int (nI tt), .ref mp, .ref mo])), (mh, aI cI 65536 HH), (mi, aI cI 65536 IN), (mz, aI cI 62 ZZ), (mp, aJ cJ 4000 PO), (mo, aI cI 4000 SO), (ou, aJ cJ 1 ov)] H) (hD : va_D A [(xo, .inr (4, [.int (nI bn), .ref hp, .ref hi, .ref hh, .ref ht])), (hp, .inr (3, [.int (nI bn), .ref pz, .ref ps, .long (lN pt), .int (nI pn)])), (pz, aI cI 62 Z), (ps, aJ cJ 63 S), (hi, .inr (2, [.ref ia, .ref ib, .ref ic, .ref id, .int (nI gc), .int (nI tt)])), (ia, aJ cJ 512 P), (ib, aI cI 512 F), (ic, aI cI 512 C), (id, aI cI 512 O), (hh, .inr (1, [.ref ma, .ref va, .ref ka, .int (nI sa)])), (ma, aI cI 1024 Ma), (va, aI cI 1024 Va), (ka, aI cI 512 Ka), (ht, .inr (1, [.ref mb, .ref vb, .ref kb, .int (nI sb)])), (mb, aI cI 1024 Mb), (vb, aI cI 1024 Vb), (kb, aI cI 512 Kb), (xm, .inr (5, [.int (nI th), .int (nI bn), .ref mh, .ref mi, .int (nI pl), .long (lN pt), .int (nI pn), .ref mz, .int (nI tt), .ref mp, .ref mo])), (mh, aI cI 65536 HH), (mi, aI cI 65536 IN), (mz, aI cI 62 ZZ), (mp, aJ cJ 4000 PO), (mo, aI cI 4000 SO), (ou, aJ cJ 1 ov)]) (hS : va_S A s.heap H locs) (hl : lv_has ls 7 [(4, .int (nI i)), (3, .ref ou), (2, .ref xm), (1, .ref xo), (0, .ref bs)])
    (kk : ∀ (th pl pt pn gc tt sa sb : Nat) (Z S ZZ P F C O Ma Va Ka fa Mb Vb Kb fb HH IN PO SO ov : Nat → Nat), INV (n + 1) bn pt pn gc tt sa sb pl Z S ZZ P F C O Ma Va Ka fa Mb Vb Kb fb HH PO SO → ∀ (H : Heap) (locs : List Loc) (ls : Array Slot), va_P D vwCl [(xo, .inr (4, [.int (nI bn), .ref hp, .ref hi, .ref hh, .ref ht])), (hp, .inr (3, [.int (nI bn), .ref pz, .ref ps, .long (lN pt), .int (nI pn)])), (pz, aI cI 62 Z), (ps, aJ cJ 63 S), (hi, .inr (2, [.ref ia, .ref ib, .ref ic, .ref id, .int (nI gc), .int (nI tt)])), (ia, aJ cJ 512 P), (ib, aI cI 512 F), (ic, aI cI 512 C), (id, aI cI 512 O), (hh, .inr (1, [.ref ma, .ref va, .ref ka, .int (nI sa)])), (ma, aI cI 1024 Ma), (va, aI cI 1024 Va), (ka, aI cI 512 Ka), (ht, .inr (1, [.ref mb, .ref vb, .ref kb, .int (nI sb)])), (mb, aI cI 1024 Mb), (vb, aI cI 1024 Vb), (kb, aI cI 512 Kb), (xm, .inr (5, [.int (nI th), .int (nI bn), .ref mh, .ref mi, .int (nI pl), .long (lN pt), .int (nI pn), .ref mz, .int (nI tt), .ref mp, .ref mo])), (mh, aI cI 65536 HH), (mi, aI cI 65536 IN), (mz, aI cI 62 ZZ), (mp, aJ cJ 4000 PO), (mo, aI cI 4000 SO), (ou, aJ cJ 1 ov)] H → va_D A [(xo, .inr (4, [.int (nI bn), .ref hp, .ref hi, .ref hh, .ref ht])), (hp, .inr (3, [.int (nI bn), .ref pz, .ref ps, .long (lN pt), .int (nI pn)])), (pz, aI cI 62 Z), (ps, aJ cJ 63 S), (hi, .inr (2, [.ref ia, .ref ib, .ref ic, .ref id, .int (nI gc), .int (nI tt)])), (ia, aJ cJ 512 P), (ib, aI cI 512 F), (ic, aI cI 512 C), (id, aI cI 512 O), (hh, .inr (1, [.ref ma, .ref va, .ref ka, .int (nI sa)])), (ma, aI cI 1024 Ma), (va, aI cI 1024 Va), (ka, aI cI 512 Ka), (ht, .inr (1, [.ref mb, .ref vb, .ref kb, .int (nI sb)])), (mb, aI cI 1024 Mb), (vb, aI cI 1024 Vb), (kb, aI cI 512 Kb), (xm, .inr (5, [.int (nI th), .int (nI bn), .ref mh, .ref mi, .int (nI pl), .long (lN pt), .int (nI pn), .ref mz, .int (nI tt), .ref mp, .ref mo])), (mh, aI cI 65536 HH), (mi, aI cI 65536 IN), (mz, aI cI 62 ZZ), (mp, aJ cJ 4000 PO), (mo, aI cI 4000 SO), (ou, aJ cJ 1 ov)] → va_S A s.heap H locs → lv_has ls 7 [(4, .int (nI i)), (3, .ref ou), (2, .ref xm), (1, .ref xo), (0, .ref bs)] → W p l e room_1 s m args below meth c H locs (cells + 1) (slots + 6) Q (F0 m 636 ls [])) : W p l e room_1 s m args below meth c H locs cells slots Q (F0 m 104 ls []) := by
  have hcc : cells ≤ room_1.cells := by show cells ≤ 601024; omega
  have hss : slots ≤ room_1.slots := by show slots ≤ 7293000; omega
  have hpl := hI.1.2.1
  have hpq := hI.1.2.2.2
  have hbn := hI.1.1
  have hplM := xPlan_congr hpl hI.1.2.2.1
  have hit := hI.2.1.1
  have hord := hI.2.1.2.1
  have hgcn := hI.2.1.2.2.2.2.2
  have htab := hI.2.2.1.1
  have hfa := hI.2.2.1.2.1
  have hHH := hI.2.2.1.2.2.1
  have hsan := hI.2.2.1.2.2.2
  have htt := hit.2.1
  have hpt := hpl.1
  have hpn := hpl.2.1
  refine lv_aload_n hx hb dL_law_104 rfl (lv_at hl 3 rfl) ?_
  refine lv_aload_n hx hb dL_law_105 rfl (lv_at hl 4 rfl) ?_
  refine lv_iload hx hb dL_law_106 (lv_at hl 0 rfl) ?_
  refine lv_iconst (v := nI 1) hx hb dL_law_108 (by decide) ?_
  refine zi_add hx hb dL_law_109  ?_
  refine zs_ld hx hb hX hbl hbA hS (k := i + 1) (by omega) (by omega) dL_law_110 ?_
  refine lv_i2l hx hb dL_law_111 rfl ?_
  refine lv_bipush (v := nI 32) hx hb dL_law_112 (by decide) ?_
  refine lv_lshl hx hb dL_law_114 rfl ?_
  refine lv_aload_n hx hb dL_law_115 rfl (lv_at hl 4 rfl) ?_
  refine lv_iload hx hb dL_law_116 (lv_at hl 0 rfl) ?_
  refine lv_iconst (v := nI 2) hx hb dL_law_118 (by decide) ?_
  refine zi_add hx hb dL_law_119  ?_
  refine zs_ld hx hb hX hbl hbA hS (k := i + 2) (by omega) (by omega) dL_law_120 ?_
  refine lv_i2l hx hb dL_law_121 rfl ?_
  refine lv_ldc2 (v := 4294967295) hx hb hown (hts (.constantLong RL 33 (4294967295)) (by decide +kernel)) dL_law_122 ?_
  refine W.eq (g2 := F0 m 125 ls [.long (lN 4294967295), .long ((xs (i + 2)).toInt64), .long (((xs (i + 1)).toInt64) <<< ((nI 32).toInt64 &&& 63)), .ref xo]) rfl ?_
  refine lv_land hx hb dL_law_125 ?_
  refine lv_lor hx hb dL_law_126 ?_
  refine W.eq (g2 := F0 m 127 ls [.long (lgl (xs (i + 1)) (xs (i + 2))), .ref xo]) rfl ?_
  refine lv_aload_n hx hb dL_law_127 rfl (lv_at hl 1 rfl) ?_
  refine LW_i.callS (hh := [(0, 9, 12, 13)]) (rest := []) (wr := [(hh, .inr (1, [.ref ma, .ref va, .ref ka, .int (nI sa)])), (ma, aI cI 1024 Ma), (va, aI cI 1024 Va), (ka, aI cI 512 Ka), (ht, .inr (1, [.ref mb, .ref vb, .ref kb, .int (nI sb)])), (mb, aI cI 1024 Mb), (vb, aI cI 1024 Vb), (kb, aI cI 512 Kb), (xm, .inr (5, [.int (nI th), .int (nI bn), .ref mh, .ref mi, .int (nI pl), .long (lN pt), .int (nI pn), .ref mz, .int (nI tt), .ref mp, .ref mo])), (mh, aI cI 65536 HH), (mi, aI cI 65536 IN), (mz, aI cI 62 ZZ), (mp, aJ cJ 4000 PO), (mo, aI cI 4000 SO)]) (c_L_passes l D cI cJ htr xo hp hi hh ht bn pz ps pt pn Z S ia ib ic id gc tt P F C O ou ov sa9 (lgl (xs (i + 1)) (xs (i + 2))) hbn) ⟨hx, hb, hml, hown, hts⟩ (vx_cwSW 3 hts gL_law_L_passes rfl rfl rfl (by decide +kernel) ⟨(Nat.le_of_ble_eq_true rfl), (Nat.le_of_ble_eq_true rfl)⟩) (fun U V h9 h8 => ⟨vk_R.same h9.symm h8.1, zb_same h9 h8.2⟩) (fun U hW => ⟨vk_R.warm hW hpx.1, zb_warm hW hpx.2⟩) hZ hK hP hD hS hA [0, 1, 2, 3, 4, 5, 6, 7, 8, 23] [9, 10, 11, 12, 13, 14, 15, 16, 17, 18, 19, 20, 21, 22] [0, 1] rfl rfl (by decide) (by decide) (by decide) rfl rfl hl.1 rfl (Nat.le_of_ble_eq_true rfl) dL_law_128 ⟨hc0, hs0⟩ (fun v1_ u1_ H locs e1_ hP hD hS => ?_)
  have hP := hP.sub (ws' := [(xo, .inr (4, [.int (nI bn), .ref hp, .ref hi, .ref hh, .ref ht])), (hp, .inr (3, [.int (nI bn), .ref pz, .ref ps, .long (lN u1_.1), .int (nI u1_.2.1)])), (pz, aI cI 62 u1_.2.2.1), (ps, aJ cJ 63 u1_.2.2.2.1), (hi, .inr (2, [.ref ia, .ref ib, .ref ic, .ref id, .int (nI u1_.2.2.2.2.1), .int (nI u1_.2.2.2.2.2.1)])), (ia, aJ cJ 512 P), (ib, aI cI 512 F), (ic, aI cI 512 C), (id, aI cI 512 O), (hh, .inr (1, [.ref ma, .ref va, .ref ka, .int (nI sa)])), (ma, aI cI 1024 Ma), (va, aI cI 1024 Va), (ka, aI cI 512 Ka), (ht, .inr (1, [.ref mb, .ref vb, .ref kb, .int (nI sb)])), (mb, aI cI 1024 Mb), (vb, aI cI 1024 Vb), (kb, aI cI 512 Kb), (xm, .inr (5, [.int (nI th), .int (nI bn), .ref mh, .ref mi, .int (nI pl), .long (lN pt), .int (nI pn), .ref mz, .int (nI tt), .ref mp, .ref mo])), (mh, aI cI 65536 HH), (mi, aI cI 65536 IN), (mz, aI cI 62 ZZ), (mp, aJ cJ 4000 PO), (mo, aI cI 4000 SO), (ou, aJ cJ 1 u1_.2.2.2.2.2.2)]) [14, 15, 16, 17, 18, 19, 20, 21, 22, 0, 1, 2, 3, 4, 5, 6, 7, 8, 9, 10, 11, 12, 13, 23] rfl
  have hD := hD.sub (ws' := [(xo, .inr (4, [.int (nI bn), .ref hp, .ref hi, .ref hh, .ref ht])), (hp, .inr (3, [.int (nI bn), .ref pz, .ref ps, .long (lN u1_.1), .int (nI u1_.2.1)])), (pz, aI cI 62 u1_.2.2.1), (ps, aJ cJ 63 u1_.2.2.2.1), (hi, .inr (2, [.ref ia, .ref ib, .ref ic, .ref id, .int (nI u1_.2.2.2.2.1), .int (nI u1_.2.2.2.2.2.1)])), (ia, aJ cJ 512 P), (ib, aI cI 512 F), (ic, aI cI 512 C), (id, aI cI 512 O), (hh, .inr (1, [.ref ma, .ref va, .ref ka, .int (nI sa)])), (ma, aI cI 1024 Ma), (va, aI cI 1024 Va), (ka, aI cI 512 Ka), (ht, .inr (1, [.ref mb, .ref vb, .ref kb, .int (nI sb)])), (mb, aI cI 1024 Mb), (vb, aI cI 1024 Vb), (kb, aI cI 512 Kb), (xm, .inr (5, [.int (nI th), .int (nI bn), .ref mh, .ref mi, .int (nI pl), .long (lN pt), .int (nI pn), .ref mz, .int (nI tt), .ref mp, .ref mo])), (mh, aI cI 65536 HH), (mi, aI cI 65536 IN), (mz, aI cI 62 ZZ), (mp, aJ cJ 4000 PO), (mo, aI cI 4000 SO), (ou, aJ cJ 1 u1_.2.2.2.2.2.2)]) [14, 15, 16, 17, 18, 19, 20, 21, 22, 0, 1, 2, 3, 4, 5, 6, 7, 8, 9, 10, 11, 12, 13, 23] (by decide) rfl
  have hcc : cells + 1 ≤ room_1.cells := hc0
  have hss : slots + 6 ≤ room_1.slots := hs0
  refine lv_istore (lv' := [(5, .int v1_), (4, .int (nI i)), (3, .ref ou), (2, .ref xm), (1, .ref xo), (0, .ref bs)]) hx hb dL_law_131 hl (by decide) rfl (fun ls hl => ?_)
  refine lv_aload_n hx hb dL_law_133 rfl (lv_at hl 3 rfl) ?_
  refine lv_aload_n hx hb dL_law_134 rfl (lv_at hl 5 rfl) ?_
  refine lv_iload hx hb dL_law_135 (lv_at hl 1 rfl) ?_
  refine lv_iconst (v := nI 1) hx hb dL_law_137 (by decide) ?_
  refine zi_add hx hb dL_law_138  ?_
  refine zs_ld hx hb hX hbl hbA hS (k := i + 1) (by omega) (by omega) dL_law_139 ?_
  refine lv_i2l hx hb dL_law_140 rfl ?_
  refine lv_bipush (v := nI 32) hx hb dL_law_141 (by decide) ?_
  refine lv_lshl hx hb dL_law_143 rfl ?_
  refine lv_aload_n hx hb dL_law_144 rfl (lv_at hl 5 rfl) ?_
  refine lv_iload hx hb dL_law_145 (lv_at hl 1 rfl) ?_
  refine lv_iconst (v := nI 2) hx hb dL_law_147 (by decide) ?_
  refine zi_add hx hb dL_law_148  ?_
  refine zs_ld hx hb hX hbl hbA hS (k := i + 2) (by omega) (by omega) dL_law_149 ?_
  refine lv_i2l hx hb dL_law_150 rfl ?_
  refine lv_ldc2 (v := 4294967295) hx hb hown (hts (.constantLong RL 33 (4294967295)) (by decide +kernel)) dL_law_151 ?_
  refine W.eq (g2 := F0 m 154 ls [.long (lN 4294967295), .long ((xs (i + 2)).toInt64), .long (((xs (i + 1)).toInt64) <<< ((nI 32).toInt64 &&& 63)), .ref xm]) rfl ?_
  refine lv_land hx hb dL_law_154 ?_
  refine lv_lor hx hb dL_law_155 ?_
  refine W.eq (g2 := F0 m 156 ls [.long (lgl (xs (i + 1)) (xs (i + 2))), .ref xm]) rfl ?_
  refine WR_i.callV (rest := []) (wr := [(xo, .inr (4, [.int (nI bn), .ref hp, .ref hi, .ref hh, .ref ht])), (hp, .inr (3, [.int (nI bn), .ref pz, .ref ps, .long (lN u1_.1), .int (nI u1_.2.1)])), (pz, aI cI 62 u1_.2.2.1), (ps, aJ cJ 63 u1_.2.2.2.1), (hi, .inr (2, [.ref ia, .ref ib, .ref ic, .ref id, .int (nI u1_.2.2.2.2.1), .int (nI u1_.2.2.2.2.2.1)])), (ia, aJ cJ 512 P), (ib, aI cI 512 F), (ic, aI cI 512 C), (id, aI cI 512 O), (hh, .inr (1, [.ref ma, .ref va, .ref ka, .int (nI sa)])), (ma, aI cI 1024 Ma), (va, aI cI 1024 Va), (ka, aI cI 512 Ka), (ht, .inr (1, [.ref mb, .ref vb, .ref kb, .int (nI sb)])), (mb, aI cI 1024 Mb), (vb, aI cI 1024 Vb), (kb, aI cI 512 Kb), (ou, aJ cJ 1 u1_.2.2.2.2.2.2)]) (c_X5_passes l D cI cJ xm mh mi mz mp mo th bn pl pt pn tt HH IN ZZ PO SO (lgl (xs (i + 1)) (xs (i + 2))) hbn) ⟨hx, hb, hml, hown, hts⟩ (cwV 1 hts gL_law_X5_passes rfl rfl rfl (by decide +kernel) ⟨Nat.le_of_ble_eq_true rfl, Nat.le_of_ble_eq_true rfl⟩) hK hP hD hS hA [17, 18, 19, 20, 21, 22] [0, 1, 2, 3, 4, 5, 6, 7, 8, 9, 10, 11, 12, 13, 14, 15, 16, 23] [0, 1] rfl rfl (by decide) (by decide) (by decide) rfl 17 5 rfl rfl rfl rfl hl.1 rfl (Nat.le_of_ble_eq_true rfl) dL_law_156 ⟨hcc, hss⟩ (fun v2_ u2_ H locs e2_ hP hD hS => ?_)
  have hP := hP.sub (ws' := [(xo, .inr (4, [.int (nI bn), .ref hp, .ref hi, .ref hh, .ref ht])), (hp, .inr (3, [.int (nI bn), .ref pz, .ref ps, .long (lN u1_.1), .int (nI u1_.2.1)])), (pz, aI cI 62 u1_.2.2.1), (ps, aJ cJ 63 u1_.2.2.2.1), (hi, .inr (2, [.ref ia, .ref ib, .ref ic, .ref id, .int (nI u1_.2.2.2.2.1), .int (nI u1_.2.2.2.2.2.1)])), (ia, aJ cJ 512 P), (ib, aI cI 512 F), (ic, aI cI 512 C), (id, aI cI 512 O), (hh, .inr (1, [.ref ma, .ref va, .ref ka, .int (nI sa)])), (ma, aI cI 1024 Ma), (va, aI cI 1024 Va), (ka, aI cI 512 Ka), (ht, .inr (1, [.ref mb, .ref vb, .ref kb, .int (nI sb)])), (mb, aI cI 1024 Mb), (vb, aI cI 1024 Vb), (kb, aI cI 512 Kb), (xm, .inr (5, [.int (nI u2_.1), .int (nI bn), .ref mh, .ref mi, .int (nI u2_.2.1), .long (lN u2_.2.2.1), .int (nI u2_.2.2.2.1), .ref mz, .int (nI u2_.2.2.2.2.1), .ref mp, .ref mo])), (mh, aI cI 65536 HH), (mi, aI cI 65536 IN), (mz, aI cI 62 u2_.2.2.2.2.2), (mp, aJ cJ 4000 PO), (mo, aI cI 4000 SO), (ou, aJ cJ 1 u1_.2.2.2.2.2.2)]) [0, 1, 2, 3, 4, 5, 6, 7, 8, 9, 10, 11, 12, 13, 14, 15, 16, 18, 19, 20, 21, 22, 23, 17] rfl
  have hD := hD.sub (ws' := [(xo, .inr (4, [.int (nI bn), .ref hp, .ref hi, .ref hh, .ref ht])), (hp, .inr (3, [.int (nI bn), .ref pz, .ref ps, .long (lN u1_.1), .int (nI u1_.2.1)])), (pz, aI cI 62 u1_.2.2.1), (ps, aJ cJ 63 u1_.2.2.2.1), (hi, .inr (2, [.ref ia, .ref ib, .ref ic, .ref id, .int (nI u1_.2.2.2.2.1), .int (nI u1_.2.2.2.2.2.1)])), (ia, aJ cJ 512 P), (ib, aI cI 512 F), (ic, aI cI 512 C), (id, aI cI 512 O), (hh, .inr (1, [.ref ma, .ref va, .ref ka, .int (nI sa)])), (ma, aI cI 1024 Ma), (va, aI cI 1024 Va), (ka, aI cI 512 Ka), (ht, .inr (1, [.ref mb, .ref vb, .ref kb, .int (nI sb)])), (mb, aI cI 1024 Mb), (vb, aI cI 1024 Vb), (kb, aI cI 512 Kb), (xm, .inr (5, [.int (nI u2_.1), .int (nI bn), .ref mh, .ref mi, .int (nI u2_.2.1), .long (lN u2_.2.2.1), .int (nI u2_.2.2.2.1), .ref mz, .int (nI u2_.2.2.2.2.1), .ref mp, .ref mo])), (mh, aI cI 65536 HH), (mi, aI cI 65536 IN), (mz, aI cI 62 u2_.2.2.2.2.2), (mp, aJ cJ 4000 PO), (mo, aI cI 4000 SO), (ou, aJ cJ 1 u1_.2.2.2.2.2.2)]) [0, 1, 2, 3, 4, 5, 6, 7, 8, 9, 10, 11, 12, 13, 14, 15, 16, 18, 19, 20, 21, 22, 23, 17] (by decide) rfl
  refine lv_istore (lv' := [(6, .int v2_), (5, .int v1_), (4, .int (nI i)), (3, .ref ou), (2, .ref xm), (1, .ref xo), (0, .ref bs)]) hx hb dL_law_159 hl (by decide) rfl (fun ls hl => ?_)
  rcases (show bn < 2 ∨ (2 ≤ bn ∧ rnd (lgl (xs (i + 1)) (xs (i + 2)))) ∨ (2 ≤ bn ∧ ¬ rnd (lgl (xs (i + 1)) (xs (i + 2)))) from by
      rcases Nat.lt_or_ge bn 2 with h1 | h1
      · exact Or.inl h1
      · by_cases h2 : rnd (lgl (xs (i + 1)) (xs (i + 2)))
        · exact Or.inr (Or.inl ⟨h1, h2⟩)
        · exact Or.inr (Or.inr ⟨h1, h2⟩)) with hg | hg | hg
  · obtain ⟨hv1, hu1⟩ := e1_.1 hg
    subst hv1
    subst hu1
    obtain ⟨hv2, hu2⟩ := e2_.1 hg
    subst hv2
    subst hu2
    have hP : va_P D vwCl [(xo, .inr (4, [.int (nI bn), .ref hp, .ref hi, .ref hh, .ref ht])), (hp, .inr (3, [.int (nI bn), .ref pz, .ref ps, .long (lN pt), .int (nI pn)])), (pz, aI cI 62 Z), (ps, aJ cJ 63 S), (hi, .inr (2, [.ref ia, .ref ib, .ref ic, .ref id, .int (nI gc), .int (nI tt)])), (ia, aJ cJ 512 P), (ib, aI cI 512 F), (ic, aI cI 512 C), (id, aI cI 512 O), (hh, .inr (1, [.ref ma, .ref va, .ref ka, .int (nI sa)])), (ma, aI cI 1024 Ma), (va, aI cI 1024 Va), (ka, aI cI 512 Ka), (ht, .inr (1, [.ref mb, .ref vb, .ref kb, .int (nI sb)])), (mb, aI cI 1024 Mb), (vb, aI cI 1024 Vb), (kb, aI cI 512 Kb), (xm, .inr (5, [.int (nI 1), .int (nI bn), .ref mh, .ref mi, .int (nI pl), .long (lN pt), .int (nI pn), .ref mz, .int (nI tt), .ref mp, .ref mo])), (mh, aI cI 65536 HH), (mi, aI cI 65536 IN), (mz, aI cI 62 ZZ), (mp, aJ cJ 4000 PO), (mo, aI cI 4000 SO), (ou, aJ cJ 1 ov)] H := hP
    have hD : va_D A [(xo, .inr (4, [.int (nI bn), .ref hp, .ref hi, .ref hh, .ref ht])), (hp, .inr (3, [.int (nI bn), .ref pz, .ref ps, .long (lN pt), .int (nI pn)])), (pz, aI cI 62 Z), (ps, aJ cJ 63 S), (hi, .inr (2, [.ref ia, .ref ib, .ref ic, .ref id, .int (nI gc), .int (nI tt)])), (ia, aJ cJ 512 P), (ib, aI cI 512 F), (ic, aI cI 512 C), (id, aI cI 512 O), (hh, .inr (1, [.ref ma, .ref va, .ref ka, .int (nI sa)])), (ma, aI cI 1024 Ma), (va, aI cI 1024 Va), (ka, aI cI 512 Ka), (ht, .inr (1, [.ref mb, .ref vb, .ref kb, .int (nI sb)])), (mb, aI cI 1024 Mb), (vb, aI cI 1024 Vb), (kb, aI cI 512 Kb), (xm, .inr (5, [.int (nI 1), .int (nI bn), .ref mh, .ref mi, .int (nI pl), .long (lN pt), .int (nI pn), .ref mz, .int (nI tt), .ref mp, .ref mo])), (mh, aI cI 65536 HH), (mi, aI cI 65536 IN), (mz, aI cI 62 ZZ), (mp, aJ cJ 4000 PO), (mo, aI cI 4000 SO), (ou, aJ cJ 1 ov)] := hD
    refine lv_aload_n hx hb dL_law_161 rfl (lv_at hl 4 rfl) ?_
    refine RO_i.callV (rest := []) (c_X5_thrown l D cI cJ xm mh mi mz mp mo 1 bn pl pt pn tt HH IN ZZ PO SO) ⟨hx, hb, hml, hown, hts⟩ (cwV 0 hts gL_law_X5_thrown rfl rfl rfl (by decide +kernel) ⟨Nat.le_of_ble_eq_true rfl, Nat.le_of_ble_eq_true rfl⟩) hK hP hS hA [17, 18, 19, 20, 21, 22] [0, 1] rfl rfl 17 5 rfl rfl rfl rfl hl.1 rfl (Nat.le_of_ble_eq_true rfl) dL_law_162 ⟨hcc, hss⟩ (fun v3_ H locs e3_ hP hS => ?_)
    obtain rfl : v3_ = nI 1 := e3_
    refine lv_iload hx hb dL_law_165 (lv_at hl 1 rfl) ?_
    refine zi_eq (tgt := 172) hx hb dL_law_167 (by decide) (by omega) (by omega) (fun c167 => ?_) (fun c167 => ?_)
    · refine lv_iload hx hb dL_law_172 (lv_at hl 1 rfl) ?_
      refine zi_if_ne (tgt := 189) hx hb dL_law_174 (by decide) (by omega) (fun c174 => ?_) (fun c174 => ?_)
      · refine lv_goto (tgt := 636) hx hb dL_law_189 (by decide) ?_
        refine W.widen (k := cells + 1) (n := slots + 6) (by omega) (by omega) ?_
        exact kk _ _ _ _ _ _ _ _ _ _ _ _ _ _ _ _ _ _ _ _ _ _ _ _ _ _ _ _ (hI.up) _ _ _ hP hD hS (lv_sub hl [2, 3, 4, 5, 6] rfl)
      · exact False.elim (by omega)
    · exact False.elim (c167 rfl)
  · obtain ⟨hb2, hrn⟩ := hg
    obtain ⟨hv1, -, hu1⟩ := e1_.2 hb2
    obtain ⟨n1, Z1, S1, hp1, hu1⟩ := hu1 hrn
    subst hv1
    subst hu1
    obtain ⟨n2, Z3, S3, hp2, hv2, hu2⟩ := e2_.2.2 hb2 hrn
    obtain rfl : n1 = n2 := (isPlan_one hp1 hp2).1
    subst hv2
    subst hu2
    have hrn1 := hrn.1
    have hrn2 := hrn.2
    have hP : va_P D vwCl [(xo, .inr (4, [.int (nI bn), .ref hp, .ref hi, .ref hh, .ref ht])), (hp, .inr (3, [.int (nI bn), .ref pz, .ref ps, .long (lN ((lgl (xs (i + 1)) (xs (i + 2))).toInt.toNat)), .int (nI n1)])), (pz, aI cI 62 Z1), (ps, aJ cJ 63 S1), (hi, .inr (2, [.ref ia, .ref ib, .ref ic, .ref id, .int (nI 0), .int (nI 0)])), (ia, aJ cJ 512 P), (ib, aI cI 512 F), (ic, aI cI 512 C), (id, aI cI 512 O), (hh, .inr (1, [.ref ma, .ref va, .ref ka, .int (nI sa)])), (ma, aI cI 1024 Ma), (va, aI cI 1024 Va), (ka, aI cI 512 Ka), (ht, .inr (1, [.ref mb, .ref vb, .ref kb, .int (nI sb)])), (mb, aI cI 1024 Mb), (vb, aI cI 1024 Vb), (kb, aI cI 512 Kb), (xm, .inr (5, [.int (nI 0), .int (nI bn), .ref mh, .ref mi, .int (nI 1), .long (lN ((lgl (xs (i + 1)) (xs (i + 2))).toInt.toNat)), .int (nI n1), .ref mz, .int (nI 0), .ref mp, .ref mo])), (mh, aI cI 65536 HH), (mi, aI cI 65536 IN), (mz, aI cI 62 Z3), (mp, aJ cJ 4000 PO), (mo, aI cI 4000 SO), (ou, aJ cJ 1 (uF ov 0 (lnat (nI n1))))] H := hP
    have hD : va_D A [(xo, .inr (4, [.int (nI bn), .ref hp, .ref hi, .ref hh, .ref ht])), (hp, .inr (3, [.int (nI bn), .ref pz, .ref ps, .long (lN ((lgl (xs (i + 1)) (xs (i + 2))).toInt.toNat)), .int (nI n1)])), (pz, aI cI 62 Z1), (ps, aJ cJ 63 S1), (hi, .inr (2, [.ref ia, .ref ib, .ref ic, .ref id, .int (nI 0), .int (nI 0)])), (ia, aJ cJ 512 P), (ib, aI cI 512 F), (ic, aI cI 512 C), (id, aI cI 512 O), (hh, .inr (1, [.ref ma, .ref va, .ref ka, .int (nI sa)])), (ma, aI cI 1024 Ma), (va, aI cI 1024 Va), (ka, aI cI 512 Ka), (ht, .inr (1, [.ref mb, .ref vb, .ref kb, .int (nI sb)])), (mb, aI cI 1024 Mb), (vb, aI cI 1024 Vb), (kb, aI cI 512 Kb), (xm, .inr (5, [.int (nI 0), .int (nI bn), .ref mh, .ref mi, .int (nI 1), .long (lN ((lgl (xs (i + 1)) (xs (i + 2))).toInt.toNat)), .int (nI n1), .ref mz, .int (nI 0), .ref mp, .ref mo])), (mh, aI cI 65536 HH), (mi, aI cI 65536 IN), (mz, aI cI 62 Z3), (mp, aJ cJ 4000 PO), (mo, aI cI 4000 SO), (ou, aJ cJ 1 (uF ov 0 (lnat (nI n1))))] := hD
    refine lv_aload_n hx hb dL_law_161 rfl (lv_at hl 4 rfl) ?_
    refine RO_i.callV (rest := []) (c_X5_thrown l D cI cJ xm mh mi mz mp mo 0 bn 1 (((lgl (xs (i + 1)) (xs (i + 2))).toInt.toNat)) n1 0 HH IN Z3 PO SO) ⟨hx, hb, hml, hown, hts⟩ (cwV 0 hts gL_law_X5_thrown rfl rfl rfl (by decide +kernel) ⟨Nat.le_of_ble_eq_true rfl, Nat.le_of_ble_eq_true rfl⟩) hK hP hS hA [17, 18, 19, 20, 21, 22] [0, 1] rfl rfl 17 5 rfl rfl rfl rfl hl.1 rfl (Nat.le_of_ble_eq_true rfl) dL_law_162 ⟨hcc, hss⟩ (fun v4_ H locs e4_ hP hS => ?_)
    obtain rfl : v4_ = nI 0 := e4_
    refine lv_iload hx hb dL_law_165 (lv_at hl 1 rfl) ?_
    refine zi_eq (tgt := 172) hx hb dL_law_167 (by decide) (by omega) (by omega) (fun c167 => ?_) (fun c167 => ?_)
    · refine lv_iload hx hb dL_law_172 (lv_at hl 1 rfl) ?_
      refine zi_if_ne (tgt := 189) hx hb dL_law_174 (by decide) (by omega) (fun c174 => ?_) (fun c174 => ?_)
      · exact False.elim (by omega)
      · refine lv_aload_n hx hb dL_law_177 rfl (lv_at hl 3 rfl) ?_
        refine lv_iconst (v := nI 0) hx hb dL_law_178 (by decide) ?_
        refine zl_ald hx hb hK hP 23 1 rfl rfl (k := 0) (by omega) (by omega) dL_law_179 ?_
        refine lv_topl (fun v5_ e5_ => ?_)
        obtain rfl : v5_ = lN (lnat (nI n1)) := e5_.trans (congrArg lN (uF_s))
        refine lv_iload hx hb dL_law_180 (lv_at hl 0 rfl) ?_
        refine lv_i2l hx hb dL_law_182 (lnat_eq _) ?_
        refine zr_eq (tgt := 189) hx hb dL_law_183 dL_law_184 (by decide) (fun c183 => ?_) (fun c183 => ?_)
        · refine lv_goto (tgt := 636) hx hb dL_law_189 (by decide) ?_
          refine W.widen (k := cells + 1) (n := slots + 6) (by omega) (by omega) ?_
          exact kk _ _ _ _ _ _ _ _ _ _ _ _ _ _ _ _ _ _ _ _ _ _ _ _ _ _ _ _ (hI.pass hb2 ⟨by omega, by omega⟩ hp1 hp2) _ _ _ hP hD hS (lv_sub hl [2, 3, 4, 5, 6] rfl)
        · exact False.elim (c183 rfl)
    · exact False.elim (c167 rfl)
  · obtain ⟨hb2, hrn⟩ := hg
    obtain ⟨hv1, hu1, -⟩ := e1_.2 hb2
    have hu1 := hu1 hrn
    subst hv1
    subst hu1
    obtain ⟨hv2, hu2⟩ := e2_.2.1 hb2 hrn
    subst hv2
    subst hu2
    have hP : va_P D vwCl [(xo, .inr (4, [.int (nI bn), .ref hp, .ref hi, .ref hh, .ref ht])), (hp, .inr (3, [.int (nI bn), .ref pz, .ref ps, .long (lN pt), .int (nI pn)])), (pz, aI cI 62 Z), (ps, aJ cJ 63 S), (hi, .inr (2, [.ref ia, .ref ib, .ref ic, .ref id, .int (nI gc), .int (nI tt)])), (ia, aJ cJ 512 P), (ib, aI cI 512 F), (ic, aI cI 512 C), (id, aI cI 512 O), (hh, .inr (1, [.ref ma, .ref va, .ref ka, .int (nI sa)])), (ma, aI cI 1024 Ma), (va, aI cI 1024 Va), (ka, aI cI 512 Ka), (ht, .inr (1, [.ref mb, .ref vb, .ref kb, .int (nI sb)])), (mb, aI cI 1024 Mb), (vb, aI cI 1024 Vb), (kb, aI cI 512 Kb), (xm, .inr (5, [.int (nI 0), .int (nI bn), .ref mh, .ref mi, .int (nI pl), .long (lN pt), .int (nI pn), .ref mz, .int (nI tt), .ref mp, .ref mo])), (mh, aI cI 65536 HH), (mi, aI cI 65536 IN), (mz, aI cI 62 ZZ), (mp, aJ cJ 4000 PO), (mo, aI cI 4000 SO), (ou, aJ cJ 1 (uF ov 0 (lnat (-2))))] H := hP
    have hD : va_D A [(xo, .inr (4, [.int (nI bn), .ref hp, .ref hi, .ref hh, .ref ht])), (hp, .inr (3, [.int (nI bn), .ref pz, .ref ps, .long (lN pt), .int (nI pn)])), (pz, aI cI 62 Z), (ps, aJ cJ 63 S), (hi, .inr (2, [.ref ia, .ref ib, .ref ic, .ref id, .int (nI gc), .int (nI tt)])), (ia, aJ cJ 512 P), (ib, aI cI 512 F), (ic, aI cI 512 C), (id, aI cI 512 O), (hh, .inr (1, [.ref ma, .ref va, .ref ka, .int (nI sa)])), (ma, aI cI 1024 Ma), (va, aI cI 1024 Va), (ka, aI cI 512 Ka), (ht, .inr (1, [.ref mb, .ref vb, .ref kb, .int (nI sb)])), (mb, aI cI 1024 Mb), (vb, aI cI 1024 Vb), (kb, aI cI 512 Kb), (xm, .inr (5, [.int (nI 0), .int (nI bn), .ref mh, .ref mi, .int (nI pl), .long (lN pt), .int (nI pn), .ref mz, .int (nI tt), .ref mp, .ref mo])), (mh, aI cI 65536 HH), (mi, aI cI 65536 IN), (mz, aI cI 62 ZZ), (mp, aJ cJ 4000 PO), (mo, aI cI 4000 SO), (ou, aJ cJ 1 (uF ov 0 (lnat (-2))))] := hD
    refine lv_aload_n hx hb dL_law_161 rfl (lv_at hl 4 rfl) ?_
    refine RO_i.callV (rest := []) (c_X5_thrown l D cI cJ xm mh mi mz mp mo 0 bn pl pt pn tt HH IN ZZ PO SO) ⟨hx, hb, hml, hown, hts⟩ (cwV 0 hts gL_law_X5_thrown rfl rfl rfl (by decide +kernel) ⟨Nat.le_of_ble_eq_true rfl, Nat.le_of_ble_eq_true rfl⟩) hK hP hS hA [17, 18, 19, 20, 21, 22] [0, 1] rfl rfl 17 5 rfl rfl rfl rfl hl.1 rfl (Nat.le_of_ble_eq_true rfl) dL_law_162 ⟨hcc, hss⟩ (fun v6_ H locs e6_ hP hS => ?_)
    obtain rfl : v6_ = nI 0 := e6_
    refine lv_iload hx hb dL_law_165 (lv_at hl 1 rfl) ?_
    refine zi_eq (tgt := 172) hx hb dL_law_167 (by decide) (by omega) (by omega) (fun c167 => ?_) (fun c167 => ?_)
    · refine lv_iload hx hb dL_law_172 (lv_at hl 1 rfl) ?_
      refine zi_if_ne (tgt := 189) hx hb dL_law_174 (by decide) (by omega) (fun c174 => ?_) (fun c174 => ?_)
      · exact False.elim (by omega)
      · refine lv_aload_n hx hb dL_law_177 rfl (lv_at hl 3 rfl) ?_
        refine lv_iconst (v := nI 0) hx hb dL_law_178 (by decide) ?_
        refine zl_ald hx hb hK hP 23 1 rfl rfl (k := 0) (by omega) (by omega) dL_law_179 ?_
        refine lv_topl (fun v7_ e7_ => ?_)
        obtain rfl : v7_ = lN (lnat (-2)) := e7_.trans (congrArg lN (uF_s))
        refine lv_iload hx hb dL_law_180 (lv_at hl 0 rfl) ?_
        refine lv_i2l hx hb dL_law_182 (lnat_eq _) ?_
        refine zr_eq (tgt := 189) hx hb dL_law_183 dL_law_184 (by decide) (fun c183 => ?_) (fun c183 => ?_)
        · refine lv_goto (tgt := 636) hx hb dL_law_189 (by decide) ?_
          refine W.widen (k := cells + 1) (n := slots + 6) (by omega) (by omega) ?_
          exact kk _ _ _ _ _ _ _ _ _ _ _ _ _ _ _ _ _ _ _ _ _ _ _ _ _ _ _ _ (hI.up) _ _ _ hP hD hS (lv_sub hl [2, 3, 4, 5, 6] rfl)
        · exact False.elim (c183 rfl)
    · exact False.elim (c167 rfl)
set_option maxHeartbeats 4000000 in
set_option maxRecDepth 100000 in
theorem law_c8 {p : Program} {l : Launch} {e : Env} {s : State} {m : MethodId} {args : Array Value} {below : List Frame} {meth : Method} {c : Code} {A : Nat → Prop} {Q : State → Prop} {bs L : Nat} {xs : Nat → Int32} {D : va_G} {cI cJ : ClassId} {xo hp hi hh ht pz ps ia ib ic id ma va ka mb vb kb xm mh mi mz mp mo ou : Nat} (hx : p.tables.exec = Jvm.exec) (hb : c.code = cL_law) (hml : c.maxLocals = 7) (hown : s.vm.findClass RL = some m.cls) (hts : ∀ w ∈ wsL_law, w.before args s = true) (hX : va_X bs L xs s s.heap) (hbl : bs < s.heap.size) (hbA : ¬ A bs) (hA : ∀ q, s.heap.size ≤ q → A q) (hK : va_K D vwCl [(cI, .int), (cJ, .long)] s) (htr : l.stackTraces = false) (sa9 : Nat) (hpx : vk_R RX4 137 "no such pass" sa9 s ∧ ∀ w ∈ bdA, va_Nw w s) (hZ : zxZ A s s.heap) (hts0 : ∀ w ∈ lw_tbl, w.before args s = true) {n bn th pl pt pn gc tt sa sb : Nat} {Z S ZZ P F C O Ma Va Ka fa Mb Vb Kb fb HH IN PO SO ov : Nat → Nat} (hI : INV n bn pt pn gc tt sa sb pl Z S ZZ P F C O Ma Va Ka fa Mb Vb Kb fb HH PO SO) (hn : n < 512) {i : Nat} (hi9 : i = 4 * n + 1) (hiL : i + 3 < L) (hL : L ≤ 2049) {cells slots : Nat} (hc0 : cells + 1 ≤ 601024) (hs0 : slots + 6 ≤ 7293000) {H : Heap} {locs : List Loc} {ls : Array Slot} (hP : va_P D vwCl [(xo, .inr (4, [.int (nI bn), .ref hp, .ref hi, .ref hh, .ref ht])), (hp, .inr (3, [.int (nI bn), .ref pz, .ref ps, .long (lN pt), .int (nI pn)])), (pz, aI cI 62 Z), (ps, aJ cJ 63 S), (hi, .inr (2, [.ref ia, .ref ib, .ref ic, .ref id, .int (nI gc), .int (nI tt)])), (ia, aJ cJ 512 P), (ib, aI cI 512 F), (ic, aI cI 512 C), (id, aI cI 512 O), (hh, .inr (1, [.ref ma, .ref va, .ref ka, .int (nI sa)])), (ma, aI cI 1024 Ma), (va, aI cI 1024 Va), (ka, aI cI 512 Ka), (ht, .inr (1, [.ref mb, .ref vb, .ref kb, .int (nI sb)])), (mb, aI cI 1024 Mb), (vb, aI cI 1024 Vb), (kb, aI cI 512 Kb), (xm, .inr (5, [.int (nI th), .int (nI bn), .ref mh, .ref mi, .int (nI pl), .long (lN pt), .int (nI pn), .ref mz, .int (nI tt), .ref mp, .ref mo])), (mh, aI cI 65536 HH), (mi, aI cI 65536 IN), (mz, aI cI 62 ZZ), (mp, aJ cJ 4000 PO), (mo, aI cI 4000 SO), (ou, aJ cJ 1 ov)] H) (hD : va_D A [(xo, .inr (4, [.int (nI bn), .ref hp, .ref hi, .ref hh, .ref ht])), (hp, .inr (3, [.int (nI bn), .ref pz, .ref ps, .long (lN pt), .int (nI pn)])), (pz, aI cI 62 Z), (ps, aJ cJ 63 S), (hi, .inr (2, [.ref ia, .ref ib, .ref ic, .ref id, .int (nI gc), .int (nI tt)])), (ia, aJ cJ 512 P), (ib, aI cI 512 F), (ic, aI cI 512 C), (id, aI cI 512 O), (hh, .inr (1, [.ref ma, .ref va, .ref ka, .int (nI sa)])), (ma, aI cI 1024 Ma), (va, aI cI 1024 Va), (ka, aI cI 512 Ka), (ht, .inr (1, [.ref mb, .ref vb, .ref kb, .int (nI sb)])), (mb, aI cI 1024 Mb), (vb, aI cI 1024 Vb), (kb, aI cI 512 Kb), (xm, .inr (5, [.int (nI th), .int (nI bn), .ref mh, .ref mi, .int (nI pl), .long (lN pt), .int (nI pn), .ref mz, .int (nI tt), .ref mp, .ref mo])), (mh, aI cI 65536 HH), (mi, aI cI 65536 IN), (mz, aI cI 62 ZZ), (mp, aJ cJ 4000 PO), (mo, aI cI 4000 SO), (ou, aJ cJ 1 ov)]) (hS : va_S A s.heap H locs) (hl : lv_has ls 7 [(4, .int (nI i)), (3, .ref ou), (2, .ref xm), (1, .ref xo), (0, .ref bs)])
    (kk : ∀ (th pl pt pn gc tt sa sb : Nat) (Z S ZZ P F C O Ma Va Ka fa Mb Vb Kb fb HH IN PO SO ov : Nat → Nat), INV (n + 1) bn pt pn gc tt sa sb pl Z S ZZ P F C O Ma Va Ka fa Mb Vb Kb fb HH PO SO → ∀ (H : Heap) (locs : List Loc) (ls : Array Slot), va_P D vwCl [(xo, .inr (4, [.int (nI bn), .ref hp, .ref hi, .ref hh, .ref ht])), (hp, .inr (3, [.int (nI bn), .ref pz, .ref ps, .long (lN pt), .int (nI pn)])), (pz, aI cI 62 Z), (ps, aJ cJ 63 S), (hi, .inr (2, [.ref ia, .ref ib, .ref ic, .ref id, .int (nI gc), .int (nI tt)])), (ia, aJ cJ 512 P), (ib, aI cI 512 F), (ic, aI cI 512 C), (id, aI cI 512 O), (hh, .inr (1, [.ref ma, .ref va, .ref ka, .int (nI sa)])), (ma, aI cI 1024 Ma), (va, aI cI 1024 Va), (ka, aI cI 512 Ka), (ht, .inr (1, [.ref mb, .ref vb, .ref kb, .int (nI sb)])), (mb, aI cI 1024 Mb), (vb, aI cI 1024 Vb), (kb, aI cI 512 Kb), (xm, .inr (5, [.int (nI th), .int (nI bn), .ref mh, .ref mi, .int (nI pl), .long (lN pt), .int (nI pn), .ref mz, .int (nI tt), .ref mp, .ref mo])), (mh, aI cI 65536 HH), (mi, aI cI 65536 IN), (mz, aI cI 62 ZZ), (mp, aJ cJ 4000 PO), (mo, aI cI 4000 SO), (ou, aJ cJ 1 ov)] H → va_D A [(xo, .inr (4, [.int (nI bn), .ref hp, .ref hi, .ref hh, .ref ht])), (hp, .inr (3, [.int (nI bn), .ref pz, .ref ps, .long (lN pt), .int (nI pn)])), (pz, aI cI 62 Z), (ps, aJ cJ 63 S), (hi, .inr (2, [.ref ia, .ref ib, .ref ic, .ref id, .int (nI gc), .int (nI tt)])), (ia, aJ cJ 512 P), (ib, aI cI 512 F), (ic, aI cI 512 C), (id, aI cI 512 O), (hh, .inr (1, [.ref ma, .ref va, .ref ka, .int (nI sa)])), (ma, aI cI 1024 Ma), (va, aI cI 1024 Va), (ka, aI cI 512 Ka), (ht, .inr (1, [.ref mb, .ref vb, .ref kb, .int (nI sb)])), (mb, aI cI 1024 Mb), (vb, aI cI 1024 Vb), (kb, aI cI 512 Kb), (xm, .inr (5, [.int (nI th), .int (nI bn), .ref mh, .ref mi, .int (nI pl), .long (lN pt), .int (nI pn), .ref mz, .int (nI tt), .ref mp, .ref mo])), (mh, aI cI 65536 HH), (mi, aI cI 65536 IN), (mz, aI cI 62 ZZ), (mp, aJ cJ 4000 PO), (mo, aI cI 4000 SO), (ou, aJ cJ 1 ov)] → va_S A s.heap H locs → lv_has ls 7 [(4, .int (nI i)), (3, .ref ou), (2, .ref xm), (1, .ref xo), (0, .ref bs)] → W p l e room_1 s m args below meth c H locs (cells + 1) (slots + 6) Q (F0 m 636 ls [])) : W p l e room_1 s m args below meth c H locs cells slots Q (F0 m 511 ls []) := by
  have hcc : cells ≤ room_1.cells := by show cells ≤ 601024; omega
  have hss : slots ≤ room_1.slots := by show slots ≤ 7293000; omega
  have hpl := hI.1.2.1
  have hpq := hI.1.2.2.2
  have hbn := hI.1.1
  have hplM := xPlan_congr hpl hI.1.2.2.1
  have hit := hI.2.1.1
  have hord := hI.2.1.2.1
  have hgcn := hI.2.1.2.2.2.2.2
  have htab := hI.2.2.1.1
  have hfa := hI.2.2.1.2.1
  have hHH := hI.2.2.1.2.2.1
  have hsan := hI.2.2.1.2.2.2
  have htt := hit.2.1
  have hpt := hpl.1
  have hpn := hpl.2.1
  refine lv_aload_n hx hb dL_law_511 rfl (lv_at hl 3 rfl) ?_
  refine lv_aload_n hx hb dL_law_512 rfl (lv_at hl 4 rfl) ?_
  refine lv_iload hx hb dL_law_513 (lv_at hl 0 rfl) ?_
  refine lv_iconst (v := nI 1) hx hb dL_law_515 (by decide) ?_
  refine zi_add hx hb dL_law_516  ?_
  refine zs_ld hx hb hX hbl hbA hS (k := i + 1) (by omega) (by omega) dL_law_517 ?_
  refine lv_aload_n hx hb dL_law_518 rfl (lv_at hl 1 rfl) ?_
  refine LW_i.callS (hh := [(0, 9, 12, 19)]) (rest := []) (wr := [(hi, .inr (2, [.ref ia, .ref ib, .ref ic, .ref id, .int (nI gc), .int (nI tt)])), (ia, aJ cJ 512 P), (ib, aI cI 512 F), (ic, aI cI 512 C), (id, aI cI 512 O), (hh, .inr (1, [.ref ma, .ref va, .ref ka, .int (nI sa)])), (ma, aI cI 1024 Ma), (va, aI cI 1024 Va), (ka, aI cI 512 Ka), (ht, .inr (1, [.ref mb, .ref vb, .ref kb, .int (nI sb)])), (mb, aI cI 1024 Mb), (vb, aI cI 1024 Vb), (kb, aI cI 512 Kb), (xm, .inr (5, [.int (nI th), .int (nI bn), .ref mh, .ref mi, .int (nI pl), .long (lN pt), .int (nI pn), .ref mz, .int (nI tt), .ref mp, .ref mo])), (mh, aI cI 65536 HH), (mi, aI cI 65536 IN), (mz, aI cI 62 ZZ), (mp, aJ cJ 4000 PO), (mo, aI cI 4000 SO)]) (c_L_digits l D cI cJ htr xo hp hi hh ht bn pz ps pt pn Z S ou ov sa9 (xs (i + 1)) hpn) ⟨hx, hb, hml, hown, hts0⟩ (vx_cwSW 3 hts0 gB_L_digits rfl rfl rfl (by decide +kernel) ⟨(Nat.le_of_ble_eq_true rfl), (Nat.le_of_ble_eq_true rfl)⟩) (fun U V h9 h8 => ⟨vk_R.same h9.symm h8.1, zb_same h9 h8.2⟩) (fun U hW => ⟨vk_R.warm hW hpx.1, zb_warm hW hpx.2⟩) hZ hK hP hD hS hA [0, 1, 2, 3, 23] [4, 5, 6, 7, 8, 9, 10, 11, 12, 13, 14, 15, 16, 17, 18, 19, 20, 21, 22] [0, 1] rfl rfl (by decide) (by decide) (by decide) rfl rfl hl.1 rfl (Nat.le_of_ble_eq_true rfl) dL_law_519 ⟨hc0, hs0⟩ (fun v1_ u1_ H locs e1_ hP hD hS => ?_)
  have hP := hP.sub (ws' := [(xo, .inr (4, [.int (nI bn), .ref hp, .ref hi, .ref hh, .ref ht])), (hp, .inr (3, [.int (nI bn), .ref pz, .ref ps, .long (lN pt), .int (nI pn)])), (pz, aI cI 62 Z), (ps, aJ cJ 63 S), (hi, .inr (2, [.ref ia, .ref ib, .ref ic, .ref id, .int (nI gc), .int (nI tt)])), (ia, aJ cJ 512 P), (ib, aI cI 512 F), (ic, aI cI 512 C), (id, aI cI 512 O), (hh, .inr (1, [.ref ma, .ref va, .ref ka, .int (nI sa)])), (ma, aI cI 1024 Ma), (va, aI cI 1024 Va), (ka, aI cI 512 Ka), (ht, .inr (1, [.ref mb, .ref vb, .ref kb, .int (nI sb)])), (mb, aI cI 1024 Mb), (vb, aI cI 1024 Vb), (kb, aI cI 512 Kb), (xm, .inr (5, [.int (nI th), .int (nI bn), .ref mh, .ref mi, .int (nI pl), .long (lN pt), .int (nI pn), .ref mz, .int (nI tt), .ref mp, .ref mo])), (mh, aI cI 65536 HH), (mi, aI cI 65536 IN), (mz, aI cI 62 ZZ), (mp, aJ cJ 4000 PO), (mo, aI cI 4000 SO), (ou, aJ cJ 1 u1_)]) [19, 20, 21, 22, 0, 1, 2, 3, 4, 5, 6, 7, 8, 9, 10, 11, 12, 13, 14, 15, 16, 17, 18, 23] rfl
  have hD := hD.sub (ws' := [(xo, .inr (4, [.int (nI bn), .ref hp, .ref hi, .ref hh, .ref ht])), (hp, .inr (3, [.int (nI bn), .ref pz, .ref ps, .long (lN pt), .int (nI pn)])), (pz, aI cI 62 Z), (ps, aJ cJ 63 S), (hi, .inr (2, [.ref ia, .ref ib, .ref ic, .ref id, .int (nI gc), .int (nI tt)])), (ia, aJ cJ 512 P), (ib, aI cI 512 F), (ic, aI cI 512 C), (id, aI cI 512 O), (hh, .inr (1, [.ref ma, .ref va, .ref ka, .int (nI sa)])), (ma, aI cI 1024 Ma), (va, aI cI 1024 Va), (ka, aI cI 512 Ka), (ht, .inr (1, [.ref mb, .ref vb, .ref kb, .int (nI sb)])), (mb, aI cI 1024 Mb), (vb, aI cI 1024 Vb), (kb, aI cI 512 Kb), (xm, .inr (5, [.int (nI th), .int (nI bn), .ref mh, .ref mi, .int (nI pl), .long (lN pt), .int (nI pn), .ref mz, .int (nI tt), .ref mp, .ref mo])), (mh, aI cI 65536 HH), (mi, aI cI 65536 IN), (mz, aI cI 62 ZZ), (mp, aJ cJ 4000 PO), (mo, aI cI 4000 SO), (ou, aJ cJ 1 u1_)]) [19, 20, 21, 22, 0, 1, 2, 3, 4, 5, 6, 7, 8, 9, 10, 11, 12, 13, 14, 15, 16, 17, 18, 23] (by decide) rfl
  have hcc : cells + 1 ≤ room_1.cells := hc0
  have hss : slots + 6 ≤ room_1.slots := hs0
  refine lv_istore (lv' := [(5, .int v1_), (4, .int (nI i)), (3, .ref ou), (2, .ref xm), (1, .ref xo), (0, .ref bs)]) hx hb dL_law_522 hl (by decide) rfl (fun ls hl => ?_)
  refine lv_aload_n hx hb dL_law_524 rfl (lv_at hl 3 rfl) ?_
  refine lv_aload_n hx hb dL_law_525 rfl (lv_at hl 5 rfl) ?_
  refine lv_iload hx hb dL_law_526 (lv_at hl 1 rfl) ?_
  refine lv_iconst (v := nI 1) hx hb dL_law_528 (by decide) ?_
  refine zi_add hx hb dL_law_529  ?_
  refine zs_ld hx hb hX hbl hbA hS (k := i + 1) (by omega) (by omega) dL_law_530 ?_
  refine WR_i.callV (rest := []) (wr := [(xo, .inr (4, [.int (nI bn), .ref hp, .ref hi, .ref hh, .ref ht])), (hp, .inr (3, [.int (nI bn), .ref pz, .ref ps, .long (lN pt), .int (nI pn)])), (pz, aI cI 62 Z), (ps, aJ cJ 63 S), (hi, .inr (2, [.ref ia, .ref ib, .ref ic, .ref id, .int (nI gc), .int (nI tt)])), (ia, aJ cJ 512 P), (ib, aI cI 512 F), (ic, aI cI 512 C), (id, aI cI 512 O), (hh, .inr (1, [.ref ma, .ref va, .ref ka, .int (nI sa)])), (ma, aI cI 1024 Ma), (va, aI cI 1024 Va), (ka, aI cI 512 Ka), (ht, .inr (1, [.ref mb, .ref vb, .ref kb, .int (nI sb)])), (mb, aI cI 1024 Mb), (vb, aI cI 1024 Vb), (kb, aI cI 512 Kb), (ou, aJ cJ 1 u1_)]) (c_X5_digits l D cI cJ xm mh mi mz mp mo th bn pl pt pn tt HH IN ZZ PO SO (xs (i + 1)) hpq hpn) ⟨hx, hb, hml, hown, hts⟩ (cwV 1 hts gL_law_X5_digits rfl rfl rfl (by decide +kernel) ⟨Nat.le_of_ble_eq_true rfl, Nat.le_of_ble_eq_true rfl⟩) hK hP hD hS hA [17, 18, 19, 20, 21, 22] [0, 1, 2, 3, 4, 5, 6, 7, 8, 9, 10, 11, 12, 13, 14, 15, 16, 23] [0, 1] rfl rfl (by decide) (by decide) (by decide) rfl 17 5 rfl rfl rfl rfl hl.1 rfl (Nat.le_of_ble_eq_true rfl) dL_law_531 ⟨hcc, hss⟩ (fun v2_ u2_ H locs e2_ hP hD hS => ?_)
  have hP := hP.sub (ws' := [(xo, .inr (4, [.int (nI bn), .ref hp, .ref hi, .ref hh, .ref ht])), (hp, .inr (3, [.int (nI bn), .ref pz, .ref ps, .long (lN pt), .int (nI pn)])), (pz, aI cI 62 Z), (ps, aJ cJ 63 S), (hi, .inr (2, [.ref ia, .ref ib, .ref ic, .ref id, .int (nI gc), .int (nI tt)])), (ia, aJ cJ 512 P), (ib, aI cI 512 F), (ic, aI cI 512 C), (id, aI cI 512 O), (hh, .inr (1, [.ref ma, .ref va, .ref ka, .int (nI sa)])), (ma, aI cI 1024 Ma), (va, aI cI 1024 Va), (ka, aI cI 512 Ka), (ht, .inr (1, [.ref mb, .ref vb, .ref kb, .int (nI sb)])), (mb, aI cI 1024 Mb), (vb, aI cI 1024 Vb), (kb, aI cI 512 Kb), (xm, .inr (5, [.int (nI u2_), .int (nI bn), .ref mh, .ref mi, .int (nI pl), .long (lN pt), .int (nI pn), .ref mz, .int (nI tt), .ref mp, .ref mo])), (mh, aI cI 65536 HH), (mi, aI cI 65536 IN), (mz, aI cI 62 ZZ), (mp, aJ cJ 4000 PO), (mo, aI cI 4000 SO), (ou, aJ cJ 1 u1_)]) [0, 1, 2, 3, 4, 5, 6, 7, 8, 9, 10, 11, 12, 13, 14, 15, 16, 18, 19, 20, 21, 22, 23, 17] rfl
  have hD := hD.sub (ws' := [(xo, .inr (4, [.int (nI bn), .ref hp, .ref hi, .ref hh, .ref ht])), (hp, .inr (3, [.int (nI bn), .ref pz, .ref ps, .long (lN pt), .int (nI pn)])), (pz, aI cI 62 Z), (ps, aJ cJ 63 S), (hi, .inr (2, [.ref ia, .ref ib, .ref ic, .ref id, .int (nI gc), .int (nI tt)])), (ia, aJ cJ 512 P), (ib, aI cI 512 F), (ic, aI cI 512 C), (id, aI cI 512 O), (hh, .inr (1, [.ref ma, .ref va, .ref ka, .int (nI sa)])), (ma, aI cI 1024 Ma), (va, aI cI 1024 Va), (ka, aI cI 512 Ka), (ht, .inr (1, [.ref mb, .ref vb, .ref kb, .int (nI sb)])), (mb, aI cI 1024 Mb), (vb, aI cI 1024 Vb), (kb, aI cI 512 Kb), (xm, .inr (5, [.int (nI u2_), .int (nI bn), .ref mh, .ref mi, .int (nI pl), .long (lN pt), .int (nI pn), .ref mz, .int (nI tt), .ref mp, .ref mo])), (mh, aI cI 65536 HH), (mi, aI cI 65536 IN), (mz, aI cI 62 ZZ), (mp, aJ cJ 4000 PO), (mo, aI cI 4000 SO), (ou, aJ cJ 1 u1_)]) [0, 1, 2, 3, 4, 5, 6, 7, 8, 9, 10, 11, 12, 13, 14, 15, 16, 18, 19, 20, 21, 22, 23, 17] (by decide) rfl
  refine lv_istore (lv' := [(6, .int v2_), (5, .int v1_), (4, .int (nI i)), (3, .ref ou), (2, .ref xm), (1, .ref xo), (0, .ref bs)]) hx hb dL_law_534 hl (by decide) rfl (fun ls hl => ?_)
  rcases (show ¬ (0 ≤ (xs (i + 1)).toInt ∧ (xs (i + 1)).toInt < (pn : Int)) ∨ (0 ≤ (xs (i + 1)).toInt ∧ (xs (i + 1)).toInt < (pn : Int)) from Classical.em _ |>.symm) with hg | hg
  · obtain ⟨hv1, hu1⟩ := e1_.1 hg
    subst hv1
    obtain rfl : ov = u1_ := hu1.symm
    obtain ⟨hv2, hu2⟩ := e2_.1 (fun q => hg q.2)
    subst hv2
    subst hu2
    have hP : va_P D vwCl [(xo, .inr (4, [.int (nI bn), .ref hp, .ref hi, .ref hh, .ref ht])), (hp, .inr (3, [.int (nI bn), .ref pz, .ref ps, .long (lN pt), .int (nI pn)])), (pz, aI cI 62 Z), (ps, aJ cJ 63 S), (hi, .inr (2, [.ref ia, .ref ib, .ref ic, .ref id, .int (nI gc), .int (nI tt)])), (ia, aJ cJ 512 P), (ib, aI cI 512 F), (ic, aI cI 512 C), (id, aI cI 512 O), (hh, .inr (1, [.ref ma, .ref va, .ref ka, .int (nI sa)])), (ma, aI cI 1024 Ma), (va, aI cI 1024 Va), (ka, aI cI 512 Ka), (ht, .inr (1, [.ref mb, .ref vb, .ref kb, .int (nI sb)])), (mb, aI cI 1024 Mb), (vb, aI cI 1024 Vb), (kb, aI cI 512 Kb), (xm, .inr (5, [.int (nI 1), .int (nI bn), .ref mh, .ref mi, .int (nI pl), .long (lN pt), .int (nI pn), .ref mz, .int (nI tt), .ref mp, .ref mo])), (mh, aI cI 65536 HH), (mi, aI cI 65536 IN), (mz, aI cI 62 ZZ), (mp, aJ cJ 4000 PO), (mo, aI cI 4000 SO), (ou, aJ cJ 1 ov)] H := hP
    have hD : va_D A [(xo, .inr (4, [.int (nI bn), .ref hp, .ref hi, .ref hh, .ref ht])), (hp, .inr (3, [.int (nI bn), .ref pz, .ref ps, .long (lN pt), .int (nI pn)])), (pz, aI cI 62 Z), (ps, aJ cJ 63 S), (hi, .inr (2, [.ref ia, .ref ib, .ref ic, .ref id, .int (nI gc), .int (nI tt)])), (ia, aJ cJ 512 P), (ib, aI cI 512 F), (ic, aI cI 512 C), (id, aI cI 512 O), (hh, .inr (1, [.ref ma, .ref va, .ref ka, .int (nI sa)])), (ma, aI cI 1024 Ma), (va, aI cI 1024 Va), (ka, aI cI 512 Ka), (ht, .inr (1, [.ref mb, .ref vb, .ref kb, .int (nI sb)])), (mb, aI cI 1024 Mb), (vb, aI cI 1024 Vb), (kb, aI cI 512 Kb), (xm, .inr (5, [.int (nI 1), .int (nI bn), .ref mh, .ref mi, .int (nI pl), .long (lN pt), .int (nI pn), .ref mz, .int (nI tt), .ref mp, .ref mo])), (mh, aI cI 65536 HH), (mi, aI cI 65536 IN), (mz, aI cI 62 ZZ), (mp, aJ cJ 4000 PO), (mo, aI cI 4000 SO), (ou, aJ cJ 1 ov)] := hD
    refine lv_aload_n hx hb dL_law_536 rfl (lv_at hl 4 rfl) ?_
    refine RO_i.callV (rest := []) (c_X5_thrown l D cI cJ xm mh mi mz mp mo 1 bn pl pt pn tt HH IN ZZ PO SO) ⟨hx, hb, hml, hown, hts⟩ (cwV 0 hts gL_law_X5_thrown rfl rfl rfl (by decide +kernel) ⟨Nat.le_of_ble_eq_true rfl, Nat.le_of_ble_eq_true rfl⟩) hK hP hS hA [17, 18, 19, 20, 21, 22] [0, 1] rfl rfl 17 5 rfl rfl rfl rfl hl.1 rfl (Nat.le_of_ble_eq_true rfl) dL_law_537 ⟨hcc, hss⟩ (fun v3_ H locs e3_ hP hS => ?_)
    obtain rfl : v3_ = nI 1 := e3_
    refine lv_iload hx hb dL_law_540 (lv_at hl 1 rfl) ?_
    refine zi_eq (tgt := 547) hx hb dL_law_542 (by decide) (by omega) (by omega) (fun c542 => ?_) (fun c542 => ?_)
    · refine lv_iload hx hb dL_law_547 (lv_at hl 1 rfl) ?_
      refine zi_if_ne (tgt := 564) hx hb dL_law_549 (by decide) (by omega) (fun c549 => ?_) (fun c549 => ?_)
      · refine lv_goto (tgt := 636) hx hb dL_law_564 (by decide) ?_
        refine W.widen (k := cells + 1) (n := slots + 6) (by omega) (by omega) ?_
        exact kk _ _ _ _ _ _ _ _ _ _ _ _ _ _ _ _ _ _ _ _ _ _ _ _ _ _ _ _ (hI.up) _ _ _ hP hD hS (lv_sub hl [2, 3, 4, 5, 6] rfl)
      · exact False.elim (by omega)
    · exact False.elim (c542 rfl)
  · obtain ⟨hv1, hu1⟩ := e1_.2 hg
    subst hv1
    subst hu1
    have hp0 : 0 < pt := by
      rcases Nat.eq_zero_or_pos pt with g9 | g9
      · have := hpl.2.2.2.1 g9; omega
      · exact g9
    obtain ⟨hv2, hu2⟩ := e2_.2 ⟨hp0, hg⟩
    rw [hI.1.2.2.1 _ (by omega)] at hv2
    subst hv2
    subst hu2
    have hP : va_P D vwCl [(xo, .inr (4, [.int (nI bn), .ref hp, .ref hi, .ref hh, .ref ht])), (hp, .inr (3, [.int (nI bn), .ref pz, .ref ps, .long (lN pt), .int (nI pn)])), (pz, aI cI 62 Z), (ps, aJ cJ 63 S), (hi, .inr (2, [.ref ia, .ref ib, .ref ic, .ref id, .int (nI gc), .int (nI tt)])), (ia, aJ cJ 512 P), (ib, aI cI 512 F), (ic, aI cI 512 C), (id, aI cI 512 O), (hh, .inr (1, [.ref ma, .ref va, .ref ka, .int (nI sa)])), (ma, aI cI 1024 Ma), (va, aI cI 1024 Va), (ka, aI cI 512 Ka), (ht, .inr (1, [.ref mb, .ref vb, .ref kb, .int (nI sb)])), (mb, aI cI 1024 Mb), (vb, aI cI 1024 Vb), (kb, aI cI 512 Kb), (xm, .inr (5, [.int (nI 0), .int (nI bn), .ref mh, .ref mi, .int (nI pl), .long (lN pt), .int (nI pn), .ref mz, .int (nI tt), .ref mp, .ref mo])), (mh, aI cI 65536 HH), (mi, aI cI 65536 IN), (mz, aI cI 62 ZZ), (mp, aJ cJ 4000 PO), (mo, aI cI 4000 SO), (ou, aJ cJ 1 (uF ov 0 (lnat (nI (Z (xs (i + 1)).toInt.toNat)))))] H := hP
    have hD : va_D A [(xo, .inr (4, [.int (nI bn), .ref hp, .ref hi, .ref hh, .ref ht])), (hp, .inr (3, [.int (nI bn), .ref pz, .ref ps, .long (lN pt), .int (nI pn)])), (pz, aI cI 62 Z), (ps, aJ cJ 63 S), (hi, .inr (2, [.ref ia, .ref ib, .ref ic, .ref id, .int (nI gc), .int (nI tt)])), (ia, aJ cJ 512 P), (ib, aI cI 512 F), (ic, aI cI 512 C), (id, aI cI 512 O), (hh, .inr (1, [.ref ma, .ref va, .ref ka, .int (nI sa)])), (ma, aI cI 1024 Ma), (va, aI cI 1024 Va), (ka, aI cI 512 Ka), (ht, .inr (1, [.ref mb, .ref vb, .ref kb, .int (nI sb)])), (mb, aI cI 1024 Mb), (vb, aI cI 1024 Vb), (kb, aI cI 512 Kb), (xm, .inr (5, [.int (nI 0), .int (nI bn), .ref mh, .ref mi, .int (nI pl), .long (lN pt), .int (nI pn), .ref mz, .int (nI tt), .ref mp, .ref mo])), (mh, aI cI 65536 HH), (mi, aI cI 65536 IN), (mz, aI cI 62 ZZ), (mp, aJ cJ 4000 PO), (mo, aI cI 4000 SO), (ou, aJ cJ 1 (uF ov 0 (lnat (nI (Z (xs (i + 1)).toInt.toNat)))))] := hD
    refine lv_aload_n hx hb dL_law_536 rfl (lv_at hl 4 rfl) ?_
    refine RO_i.callV (rest := []) (c_X5_thrown l D cI cJ xm mh mi mz mp mo 0 bn pl pt pn tt HH IN ZZ PO SO) ⟨hx, hb, hml, hown, hts⟩ (cwV 0 hts gL_law_X5_thrown rfl rfl rfl (by decide +kernel) ⟨Nat.le_of_ble_eq_true rfl, Nat.le_of_ble_eq_true rfl⟩) hK hP hS hA [17, 18, 19, 20, 21, 22] [0, 1] rfl rfl 17 5 rfl rfl rfl rfl hl.1 rfl (Nat.le_of_ble_eq_true rfl) dL_law_537 ⟨hcc, hss⟩ (fun v4_ H locs e4_ hP hS => ?_)
    obtain rfl : v4_ = nI 0 := e4_
    refine lv_iload hx hb dL_law_540 (lv_at hl 1 rfl) ?_
    refine zi_eq (tgt := 547) hx hb dL_law_542 (by decide) (by omega) (by omega) (fun c542 => ?_) (fun c542 => ?_)
    · refine lv_iload hx hb dL_law_547 (lv_at hl 1 rfl) ?_
      refine zi_if_ne (tgt := 564) hx hb dL_law_549 (by decide) (by omega) (fun c549 => ?_) (fun c549 => ?_)
      · exact False.elim (by omega)
      · refine lv_aload_n hx hb dL_law_552 rfl (lv_at hl 3 rfl) ?_
        refine lv_iconst (v := nI 0) hx hb dL_law_553 (by decide) ?_
        refine zl_ald hx hb hK hP 23 1 rfl rfl (k := 0) (by omega) (by omega) dL_law_554 ?_
        refine lv_topl (fun v5_ e5_ => ?_)
        obtain rfl : v5_ = lN (lnat (nI (Z (xs (i + 1)).toInt.toNat))) := e5_.trans (congrArg lN (uF_s))
        refine lv_iload hx hb dL_law_555 (lv_at hl 0 rfl) ?_
        refine lv_i2l hx hb dL_law_557 (lnat_eq _) ?_
        refine zr_eq (tgt := 564) hx hb dL_law_558 dL_law_559 (by decide) (fun c558 => ?_) (fun c558 => ?_)
        · refine lv_goto (tgt := 636) hx hb dL_law_564 (by decide) ?_
          refine W.widen (k := cells + 1) (n := slots + 6) (by omega) (by omega) ?_
          exact kk _ _ _ _ _ _ _ _ _ _ _ _ _ _ _ _ _ _ _ _ _ _ _ _ _ _ _ _ (hI.up) _ _ _ hP hD hS (lv_sub hl [2, 3, 4, 5, 6] rfl)
        · exact False.elim (c558 rfl)
    · exact False.elim (c542 rfl)
