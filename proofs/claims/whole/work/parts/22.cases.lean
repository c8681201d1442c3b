set_option maxHeartbeats 4000000 in
set_option maxRecDepth 100000 in
theorem law_c1 {p : Program} {l : Launch} {e : Env} {s : State} {m : MethodId} {args : Array Value} {below : List Frame} {meth : Method} {c : Code} {A : Nat → Prop} {Q : State → Prop} {bs L : Nat} {xs : Nat → Int32} {D : va_G} {cI cJ : ClassId} {xo hp hi hh ht pz ps ia ib ic id ma va ka mb vb kb xm mh mi mz mp mo ou : Nat} (hx : p.tables.exec = Jvm.exec) (hb : c.code = cL_law) (hml : c.maxLocals = 7) (hown : s.vm.findClass RL = some m.cls) (hts : ∀ w ∈ wsL_law, w.before args s = true) (hX : va_X bs L xs s s.heap) (hbl : bs < s.heap.size) (hbA : ¬ A bs) (hA : ∀ q, s.heap.size ≤ q → A q) (hK : va_K D vwCl [(cI, .int), (cJ, .long)] s)  {n bn th pl pt pn gc tt sa sb : Nat} {Z S ZZ P F C O Ma Va Ka fa Mb Vb Kb fb HH IN PO SO ov : Nat → Nat} (hI : INV n bn pt pn gc tt sa sb pl Z S ZZ P F C O Ma Va Ka fa Mb Vb Kb fb HH PO SO) (hn : n < 512) {i : Nat} (hi9 : i = 4 * n + 1) (hiL : i + 3 < L) (hL : L ≤ 2049) {cells slots : Nat} (hc0 : cells + 1 ≤ 601024) (hs0 : slots + 6 ≤ 7293000) {H : Heap} {locs : List Loc} {ls : Array Slot} (hP : va_P D vwCl [(xo, .inr (4, [.int (nI bn), .ref hp, .ref hi, .ref hh, .ref ht])), (hp, .inr (3, [.int (nI bn), .ref pz, .ref ps, .long (lN pt), .int (nI pn)])), (pz, aI cI 62 Z), (ps, aJ cJ 63 S), (hi, .inr (2, [.ref ia, .ref ib, .ref ic, .ref id, .int (nI gc), .int (nI tt)])), (ia, aJ cJ 512 P), (ib, aI cI 512 F), (ic, aI cI 512 C), (id, aI cI 512 O), (hh, .inr (1, [.ref ma, .ref va, .ref ka, .int (nI sa)])), (ma, aI cI 1024 Ma), (va, aI cI 1024 Va), (ka, aI cI 512 Ka), (ht, .inr (1, [.ref mb, .ref vb, .ref kb, .int (nI sb)])), (mb, aI cI 1024 Mb), (vb, aI cI 1024 Vb), (kb, aI cI 512 Kb), (xm, .inr (5, [.int (nI th), .int (nI bn), .ref mh, .ref mi, .int (nI pl), .long (lN pt), .int (nI pn), .ref mz, .int (nI tt), .ref mp, .ref mo])), (mh, aI cI 65536 HH), (mi, aI cI 65536 IN), (mz, aI cI 62 ZZ), (mp, aJ cJ 4000 PO), (mo, aI cI 4000 SO), (ou, aJ cJ 1 ov)] H) (hD : va_D A [(xo, .inr (4, [.int (nI bn), .ref hp, .ref hi, .ref hh, .ref ht])), (hp, .inr (3, [.int (nI bn), .ref pz, .ref ps, .long (lN pt), .int (nI pn)])), (pz, aI cI 62 Z), (ps, aJ cJ 63 S), (hi, .inr (2, [.ref ia, .ref ib, .ref ic, .ref id, .int (nI gc), .int (nI tt)])), (ia, aJ cJ 512 P), (ib, aI cI 512 F), (ic, aI cI 512 C), (id, aI cI 512 O), (hh, .inr (1, [.ref ma, .ref va, .ref ka, .int (nI sa)])), (ma, aI cI 1024 Ma), (va, aI cI 1024 Va), (ka, aI cI 512 Ka), (ht, .inr (1, [.ref mb, .ref vb, .ref kb, .int (nI sb)])), (mb, aI cI 1024 Mb), (vb, aI cI 1024 Vb), (kb, aI cI 512 Kb), (xm, .inr (5, [.int (nI th), .int (nI bn), .ref mh, .ref mi, .int (nI pl), .long (lN pt), .int (nI pn), .ref mz, .int (nI tt), .ref mp, .ref mo])), (mh, aI cI 65536 HH), (mi, aI cI 65536 IN), (mz, aI cI 62 ZZ), (mp, aJ cJ 4000 PO), (mo, aI cI 4000 SO), (ou, aJ cJ 1 ov)]) (hS : va_S A s.heap H locs) (hl : lv_has ls 7 [(4, .int (nI i)), (3, .ref ou), (2, .ref xm), (1, .ref xo), (0, .ref bs)])
    (kk : ∀ (th pl pt pn gc tt sa sb : Nat) (Z S ZZ P F C O Ma Va Ka fa Mb Vb Kb fb HH IN PO SO ov : Nat → Nat), INV (n + 1) bn pt pn gc tt sa sb pl Z S ZZ P F C O Ma Va Ka fa Mb Vb Kb fb HH PO SO → ∀ (H : Heap) (locs : List Loc) (ls : Array Slot), va_P D vwCl [(xo, .inr (4, [.int (nI bn), .ref hp, .ref hi, .ref hh, .ref ht])), (hp, .inr (3, [.int (nI bn), .ref pz, .ref ps, .long (lN pt), .int (nI pn)])), (pz, aI cI 62 Z), (ps, aJ cJ 63 S), (hi, .inr (2, [.ref ia, .ref ib, .ref ic, .ref id, .int (nI gc), .int (nI tt)])), (ia, aJ cJ 512 P), (ib, aI cI 512 F), (ic, aI cI 512 C), (id, aI cI 512 O), (hh, .inr (1, [.ref ma, .ref va, .ref ka, .int (nI sa)])), (ma, aI cI 1024 Ma), (va, aI cI 1024 Va), (ka, aI cI 512 Ka), (ht, .inr (1, [.ref mb, .ref vb, .ref kb, .int (nI sb)])), (mb, aI cI 1024 Mb), (vb, aI cI 1024 Vb), (kb, aI cI 512 Kb), (xm, .inr (5, [.int (nI th), .int (nI bn), .ref mh, .ref mi, .int (nI pl), .long (lN pt), .int (nI pn), .ref mz, .int (nI tt), .ref mp, .ref mo])), (mh, aI cI 65536 HH), (mi, aI cI 65536 IN), (mz, aI cI 62 ZZ), (mp, aJ cJ 4000 PO), (mo, aI cI 4000 SO), (ou, aJ cJ 1 ov)] H → va_D A [(xo, .inr (4, [.int (nI bn), .ref hp, .ref hi, .ref hh, .ref ht])), (hp, .inr (3, [.int (nI bn), .ref pz, .ref ps, .long (lN pt), .int (nI pn)])), (pz, aI cI 62 Z), (ps, aJ cJ 63 S), (hi, .inr (2, [.ref ia, .ref ib, .ref ic, .ref id, .int (nI gc), .int (nI tt)])), (ia, aJ cJ 512 P), (ib, aI cI 512 F), (ic, aI cI 512 C), (id, aI cI 512 O), (hh, .inr (1, [.ref ma, .ref va, .ref ka, .int (nI sa)])), (ma, aI cI 1024 Ma), (va, aI cI 1024 Va), (ka, aI cI 512 Ka), (ht, .inr (1, [.ref mb, .ref vb, .ref kb, .int (nI sb)])), (mb, aI cI 1024 Mb), (vb, aI cI 1024 Vb), (kb, aI cI 512 Kb), (xm, .inr (5, [.int (nI th), .int (nI bn), .ref mh, .ref mi, .int (nI pl), .long (lN pt), .int (nI pn), .ref mz, .int (nI tt), .ref mp, .ref mo])), (mh, aI cI 65536 HH), (mi, aI cI 65536 IN), (mz, aI cI 62 ZZ), (mp, aJ cJ 4000 PO), (mo, aI cI 4000 SO), (ou, aJ cJ 1 ov)] → va_S A s.heap H locs → lv_has ls 7 [(4, .int (nI i)), (3, .ref ou), (2, .ref xm), (1, .ref xo), (0, .ref bs)] → W p l e room_1 s m args below meth c H locs (cells + 1) (slots + 6) Q (F0 m 636 ls [])) : W p l e room_1 s m args below meth c H locs cells slots Q (F0 m 192 ls []) := by
  have hcc : cells ≤ room_1.cells := by show cells ≤ 601024; omega
  have hss : slots ≤ room_1.slots := by show slots ≤ 7293000; omega
  have hpl := hI.1.2.1
  have hpq := hI.1.2.2.2
  have hbn := hI.1.1
  have hplM := xPlan_congr hpl hI.1.2.2.1
  have hit := hI.2.1.1
  have hord := hI.2.1.2.1
  have hgcn := hI.2.1.2.2.2.2.2
  have htab := hI.2.2.1.1
  have hfa := hI.2.2.1.2.1
  have hHH := hI.2.2.1.2.2.1
  have hsan := hI.2.2.1.2.2.2
  have htt := hit.2.1
  have hpt := hpl.1
  have hpn := hpl.2.1
  refine lv_aload_n hx hb dL_law_192 rfl (lv_at hl 3 rfl) ?_
  refine lv_aload_n hx hb dL_law_193 rfl (lv_at hl 4 rfl) ?_
  refine lv_iload hx hb dL_law_194 (lv_at hl 0 rfl) ?_
  refine lv_iconst (v := nI 1) hx hb dL_law_196 (by decide) ?_
  refine zi_add hx hb dL_law_197  ?_
  refine zs_ld hx hb hX hbl hbA hS (k := i + 1) (by omega) (by omega) dL_law_198 ?_
  refine lv_i2l hx hb dL_law_199 rfl ?_
  refine lv_bipush (v := nI 32) hx hb dL_law_200 (by decide) ?_
  refine lv_lshl hx hb dL_law_202 rfl ?_
  refine lv_aload_n hx hb dL_law_203 rfl (lv_at hl 4 rfl) ?_
  refine lv_iload hx hb dL_law_204 (lv_at hl 0 rfl) ?_
  refine lv_iconst (v := nI 2) hx hb dL_law_206 (by decide) ?_
  refine zi_add hx hb dL_law_207  ?_
  refine zs_ld hx hb hX hbl hbA hS (k := i + 2) (by omega) (by omega) dL_law_208 ?_
  refine lv_i2l hx hb dL_law_209 rfl ?_
  refine lv_ldc2 (v := 4294967295) hx hb hown (hts (.constantLong RL 33 (4294967295)) (by decide +kernel)) dL_law_210 ?_
  refine W.eq (g2 := F0 m 213 ls [.long (lN 4294967295), .long ((xs (i + 2)).toInt64), .long (((xs (i + 1)).toInt64) <<< ((nI 32).toInt64 &&& 63)), .ref xo]) rfl ?_
  refine lv_land hx hb dL_law_213 ?_
  refine lv_lor hx hb dL_law_214 ?_
  refine W.eq (g2 := F0 m 215 ls [.long (lgl (xs (i + 1)) (xs (i + 2))), .ref xo]) rfl ?_
  refine lv_aload_n hx hb dL_law_215 rfl (lv_at hl 4 rfl) ?_
  refine lv_iload hx hb dL_law_216 (lv_at hl 0 rfl) ?_
  refine lv_iconst (v := nI 3) hx hb dL_law_218 (by decide) ?_
  refine zi_add hx hb dL_law_219  ?_
  refine zs_ld hx hb hX hbl hbA hS (k := i + 3) (by omega) (by omega) dL_law_220 ?_
  refine RO_i.callV (rest := []) (c_X4_digit l D cI cJ xo hp hi hh ht bn pz ps pt pn Z S (lgl (xs (i + 1)) (xs (i + 2))) (xs (i + 3)) hpl) ⟨hx, hb, hml, hown, hts⟩ (cwV 2 hts gL_law_X4_digit rfl rfl rfl (by decide +kernel) ⟨Nat.le_of_ble_eq_true rfl, Nat.le_of_ble_eq_true rfl⟩) hK hP hS hA [0, 1, 2, 3] [0, 1] rfl rfl 0 4 rfl rfl rfl rfl hl.1 rfl (Nat.le_of_ble_eq_true rfl) dL_law_221 ⟨hcc, hss⟩ (fun v1_ H locs e1_ hP hS => ?_)
  obtain rfl : v1_ = (sDigit pt pn Z S (lgl (xs (i + 1)) (xs (i + 2))) (xs (i + 3))) := e1_
  refine lv_aload_n hx hb dL_law_224 rfl (lv_at hl 2 rfl) ?_
  refine lv_aload_n hx hb dL_law_225 rfl (lv_at hl 4 rfl) ?_
  refine lv_iload hx hb dL_law_226 (lv_at hl 0 rfl) ?_
  refine lv_iconst (v := nI 1) hx hb dL_law_228 (by decide) ?_
  refine zi_add hx hb dL_law_229  ?_
  refine zs_ld hx hb hX hbl hbA hS (k := i + 1) (by omega) (by omega) dL_law_230 ?_
  refine lv_i2l hx hb dL_law_231 rfl ?_
  refine lv_bipush (v := nI 32) hx hb dL_law_232 (by decide) ?_
  refine lv_lshl hx hb dL_law_234 rfl ?_
  refine lv_aload_n hx hb dL_law_235 rfl (lv_at hl 4 rfl) ?_
  refine lv_iload hx hb dL_law_236 (lv_at hl 0 rfl) ?_
  refine lv_iconst (v := nI 2) hx hb dL_law_238 (by decide) ?_
  refine zi_add hx hb dL_law_239  ?_
  refine zs_ld hx hb hX hbl hbA hS (k := i + 2) (by omega) (by omega) dL_law_240 ?_
  refine lv_i2l hx hb dL_law_241 rfl ?_
  refine lv_ldc2 (v := 4294967295) hx hb hown (hts (.constantLong RL 33 (4294967295)) (by decide +kernel)) dL_law_242 ?_
  refine W.eq (g2 := F0 m 245 ls [.long (lN 4294967295), .long ((xs (i + 2)).toInt64), .long (((xs (i + 1)).toInt64) <<< ((nI 32).toInt64 &&& 63)), .ref xm, .int (sDigit pt pn Z S (lgl (xs (i + 1)) (xs (i + 2))) (xs (i + 3)))]) rfl ?_
  refine lv_land hx hb dL_law_245 ?_
  refine lv_lor hx hb dL_law_246 ?_
  refine W.eq (g2 := F0 m 247 ls [.long (lgl (xs (i + 1)) (xs (i + 2))), .ref xm, .int (sDigit pt pn Z S (lgl (xs (i + 1)) (xs (i + 2))) (xs (i + 3)))]) rfl ?_
  refine lv_aload_n hx hb dL_law_247 rfl (lv_at hl 4 rfl) ?_
  refine lv_iload hx hb dL_law_248 (lv_at hl 0 rfl) ?_
  refine lv_iconst (v := nI 3) hx hb dL_law_250 (by decide) ?_
  refine zi_add hx hb dL_law_251  ?_
  refine zs_ld hx hb hX hbl hbA hS (k := i + 3) (by omega) (by omega) dL_law_252 ?_
  refine WR_i.callV (rest := [.int (sDigit pt pn Z S (lgl (xs (i + 1)) (xs (i + 2))) (xs (i + 3)))]) (wr := [(xo, .inr (4, [.int (nI bn), .ref hp, .ref hi, .ref hh, .ref ht])), (hp, .inr (3, [.int (nI bn), .ref pz, .ref ps, .long (lN pt), .int (nI pn)])), (pz, aI cI 62 Z), (ps, aJ cJ 63 S), (hi, .inr (2, [.ref ia, .ref ib, .ref ic, .ref id, .int (nI gc), .int (nI tt)])), (ia, aJ cJ 512 P), (ib, aI cI 512 F), (ic, aI cI 512 C), (id, aI cI 512 O), (hh, .inr (1, [.ref ma, .ref va, .ref ka, .int (nI sa)])), (ma, aI cI 1024 Ma), (va, aI cI 1024 Va), (ka, aI cI 512 Ka), (ht, .inr (1, [.ref mb, .ref vb, .ref kb, .int (nI sb)])), (mb, aI cI 1024 Mb), (vb, aI cI 1024 Vb), (kb, aI cI 512 Kb), (ou, aJ cJ 1 ov)]) (c_X5_digit l D cI cJ xm mh mi mz mp mo th bn pl pt pn tt HH IN ZZ PO SO S (lgl (xs (i + 1)) (xs (i + 2))) (xs (i + 3)) hpq hplM) ⟨hx, hb, hml, hown, hts⟩ (cwV 2 hts gL_law_X5_digit rfl rfl rfl (by decide +kernel) ⟨Nat.le_of_ble_eq_true rfl, Nat.le_of_ble_eq_true rfl⟩) hK hP hD hS hA [17, 18, 19, 20, 21, 22] [0, 1, 2, 3, 4, 5, 6, 7, 8, 9, 10, 11, 12, 13, 14, 15, 16, 23] [0, 1] rfl rfl (by decide) (by decide) (by decide) rfl 17 5 rfl rfl rfl rfl hl.1 rfl (Nat.le_of_ble_eq_true rfl) dL_law_253 ⟨hcc, hss⟩ (fun v2_ u2_ H locs e2_ hP hD hS => ?_)
  obtain rfl : v2_ = sDigit pt pn Z S (lgl (xs (i + 1)) (xs (i + 2))) (xs (i + 3)) := e2_.trans (sDigit_congr hI.1.2.2.1 _ _)
  have hP := hP.sub (ws' := [(xo, .inr (4, [.int (nI bn), .ref hp, .ref hi, .ref hh, .ref ht])), (hp, .inr (3, [.int (nI bn), .ref pz, .ref ps, .long (lN pt), .int (nI pn)])), (pz, aI cI 62 Z), (ps, aJ cJ 63 S), (hi, .inr (2, [.ref ia, .ref ib, .ref ic, .ref id, .int (nI gc), .int (nI tt)])), (ia, aJ cJ 512 P), (ib, aI cI 512 F), (ic, aI cI 512 C), (id, aI cI 512 O), (hh, .inr (1, [.ref ma, .ref va, .ref ka, .int (nI sa)])), (ma, aI cI 1024 Ma), (va, aI cI 1024 Va), (ka, aI cI 512 Ka), (ht, .inr (1, [.ref mb, .ref vb, .ref kb, .int (nI sb)])), (mb, aI cI 1024 Mb), (vb, aI cI 1024 Vb), (kb, aI cI 512 Kb), (xm, .inr (5, [.int (nI 0), .int (nI bn), .ref mh, .ref mi, .int (nI pl), .long (lN pt), .int (nI pn), .ref mz, .int (nI tt), .ref mp, .ref mo])), (mh, aI cI 65536 HH), (mi, aI cI 65536 IN), (mz, aI cI 62 ZZ), (mp, aJ cJ 4000 PO), (mo, aI cI 4000 SO), (ou, aJ cJ 1 ov)]) [0, 1, 2, 3, 4, 5, 6, 7, 8, 9, 10, 11, 12, 13, 14, 15, 16, 18, 19, 20, 21, 22, 23, 17] rfl
  have hD := hD.sub (ws' := [(xo, .inr (4, [.int (nI bn), .ref hp, .ref hi, .ref hh, .ref ht])), (hp, .inr (3, [.int (nI bn), .ref pz, .ref ps, .long (lN pt), .int (nI pn)])), (pz, aI cI 62 Z), (ps, aJ cJ 63 S), (hi, .inr (2, [.ref ia, .ref ib, .ref ic, .ref id, .int (nI gc), .int (nI tt)])), (ia, aJ cJ 512 P), (ib, aI cI 512 F), (ic, aI cI 512 C), (id, aI cI 512 O), (hh, .inr (1, [.ref ma, .ref va, .ref ka, .int (nI sa)])), (ma, aI cI 1024 Ma), (va, aI cI 1024 Va), (ka, aI cI 512 Ka), (ht, .inr (1, [.ref mb, .ref vb, .ref kb, .int (nI sb)])), (mb, aI cI 1024 Mb), (vb, aI cI 1024 Vb), (kb, aI cI 512 Kb), (xm, .inr (5, [.int (nI 0), .int (nI bn), .ref mh, .ref mi, .int (nI pl), .long (lN pt), .int (nI pn), .ref mz, .int (nI tt), .ref mp, .ref mo])), (mh, aI cI 65536 HH), (mi, aI cI 65536 IN), (mz, aI cI 62 ZZ), (mp, aJ cJ 4000 PO), (mo, aI cI 4000 SO), (ou, aJ cJ 1 ov)]) [0, 1, 2, 3, 4, 5, 6, 7, 8, 9, 10, 11, 12, 13, 14, 15, 16, 18, 19, 20, 21, 22, 23, 17] (by decide) rfl
  refine zq_eq (tgt := 636) hx hb dL_law_256 (by decide) (fun c256 => ?_) (fun c256 => ?_)
  · refine W.widen (k := cells + 1) (n := slots + 6) (by omega) (by omega) ?_
    exact kk _ _ _ _ _ _ _ _ _ _ _ _ _ _ _ _ _ _ _ _ _ _ _ _ _ _ _ _ (hI.up) _ _ _ hP hD hS (lv_sub hl [0, 1, 2, 3, 4] rfl)
  · exact False.elim (c256 rfl)
set_option maxHeartbeats 4000000 in
set_option maxRecDepth 100000 in
theorem law_c2 {p : Program} {l : Launch} {e : Env} {s : State} {m : MethodId} {args : Array Value} {below : List Frame} {meth : Method} {c : Code} {A : Nat → Prop} {Q : State → Prop} {bs L : Nat} {xs : Nat → Int32} {D : va_G} {cI cJ : ClassId} {xo hp hi hh ht pz ps ia ib ic id ma va ka mb vb kb xm mh mi mz mp mo ou : Nat} (hx : p.tables.exec = Jvm.exec) (hb : c.code = cL_law) (hml : c.maxLocals = 7) (hown : s.vm.findClass RL = some m.cls) (hts : ∀ w ∈ wsL_law, w.before args s = true) (hX : va_X bs L xs s s.heap) (hbl : bs < s.heap.size) (hbA : ¬ A bs) (hA : ∀ q, s.heap.size ≤ q → A q) (hK : va_K D vwCl [(cI, .int), (cJ, .long)] s)  {n bn th pl pt pn gc tt sa sb : Nat} {Z S ZZ P F C O Ma Va Ka fa Mb Vb Kb fb HH IN PO SO ov : Nat → Nat} (hI : INV n bn pt pn gc tt sa sb pl Z S ZZ P F C O Ma Va Ka fa Mb Vb Kb fb HH PO SO) (hn : n < 512) {i : Nat} (hi9 : i = 4 * n + 1) (hiL : i + 3 < L) (hL : L ≤ 2049) {cells slots : Nat} (hc0 : cells + 1 ≤ 601024) (hs0 : slots + 6 ≤ 7293000) {H : Heap} {locs : List Loc} {ls : Array Slot} (hP : va_P D vwCl [(xo, .inr (4, [.int (nI bn), .ref hp, .ref hi, .ref hh, .ref ht])), (hp, .inr (3, [.int (nI bn), .ref pz, .ref ps, .long (lN pt), .int (nI pn)])), (pz, aI cI 62 Z), (ps, aJ cJ 63 S), (hi, .inr (2, [.ref ia, .ref ib, .ref ic, .ref id, .int (nI gc), .int (nI tt)])), (ia, aJ cJ 512 P), (ib, aI cI 512 F), (ic, aI cI 512 C), (id, aI cI 512 O), (hh, .inr (1, [.ref ma, .ref va, .ref ka, .int (nI sa)])), (ma, aI cI 1024 Ma), (va, aI cI 1024 Va), (ka, aI cI 512 Ka), (ht, .inr (1, [.ref mb, .ref vb, .ref kb, .int (nI sb)])), (mb, aI cI 1024 Mb), (vb, aI cI 1024 Vb), (kb, aI cI 512 Kb), (xm, .inr (5, [.int (nI th), .int (nI bn), .ref mh, .ref mi, .int (nI pl), .long (lN pt), .int (nI pn), .ref mz, .int (nI tt), .ref mp, .ref mo])), (mh, aI cI 65536 HH), (mi, aI cI 65536 IN), (mz, aI cI 62 ZZ), (mp, aJ cJ 4000 PO), (mo, aI cI 4000 SO), (ou, aJ cJ 1 ov)] H) (hD : va_D A [(xo, .inr (4, [.int (nI bn), .ref hp, .ref hi, .ref hh, .ref ht])), (hp, .inr (3, [.int (nI bn), .ref pz, .ref ps, .long (lN pt), .int (nI pn)])), (pz, aI cI 62 Z), (ps, aJ cJ 63 S), (hi, .inr (2, [.ref ia, .ref ib, .ref ic, .ref id, .int (nI gc), .int (nI tt)])), (ia, aJ cJ 512 P), (ib, aI cI 512 F), (ic, aI cI 512 C), (id, aI cI 512 O), (hh, .inr (1, [.ref ma, .ref va, .ref ka, .int (nI sa)])), (ma, aI cI 1024 Ma), (va, aI cI 1024 Va), (ka, aI cI 512 Ka), (ht, .inr (1, [.ref mb, .ref vb, .ref kb, .int (nI sb)])), (mb, aI cI 1024 Mb), (vb, aI cI 1024 Vb), (kb, aI cI 512 Kb), (xm, .inr (5, [.int (nI th), .int (nI bn), .ref mh, .ref mi, .int (nI pl), .long (lN pt), .int (nI pn), .ref mz, .int (nI tt), .ref mp, .ref mo])), (mh, aI cI 65536 HH), (mi, aI cI 65536 IN), (mz, aI cI 62 ZZ), (mp, aJ cJ 4000 PO), (mo, aI cI 4000 SO), (ou, aJ cJ 1 ov)]) (hS : va_S A s.heap H locs) (hl : lv_has ls 7 [(4, .int (nI i)), (3, .ref ou), (2, .ref xm), (1, .ref xo), (0, .ref bs)])
    (kk : ∀ (th pl pt pn gc tt sa sb : Nat) (Z S ZZ P F C O Ma Va Ka fa Mb Vb Kb fb HH IN PO SO ov : Nat → Nat), INV (n + 1) bn pt pn gc tt sa sb pl Z S ZZ P F C O Ma Va Ka fa Mb Vb Kb fb HH PO SO → ∀ (H : Heap) (locs : List Loc) (ls : Array Slot), va_P D vwCl [(xo, .inr (4, [.int (nI bn), .ref hp, .ref hi, .ref hh, .ref ht])), (hp, .inr (3, [.int (nI bn), .ref pz, .ref ps, .long (lN pt), .int (nI pn)])), (pz, aI cI 62 Z), (ps, aJ cJ 63 S), (hi, .inr (2, [.ref ia, .ref ib, .ref ic, .ref id, .int (nI gc), .int (nI tt)])), (ia, aJ cJ 512 P), (ib, aI cI 512 F), (ic, aI cI 512 C), (id, aI cI 512 O), (hh, .inr (1, [.ref ma, .ref va, .ref ka, .int (nI sa)])), (ma, aI cI 1024 Ma), (va, aI cI 1024 Va), (ka, aI cI 512 Ka), (ht, .inr (1, [.ref mb, .ref vb, .ref kb, .int (nI sb)])), (mb, aI cI 1024 Mb), (vb, aI cI 1024 Vb), (kb, aI cI 512 Kb), (xm, .inr (5, [.int (nI th), .int (nI bn), .ref mh, .ref mi, .int (nI pl), .long (lN pt), .int (nI pn), .ref mz, .int (nI tt), .ref mp, .ref mo])), (mh, aI cI 65536 HH), (mi, aI cI 65536 IN), (mz, aI cI 62 ZZ), (mp, aJ cJ 4000 PO), (mo, aI cI 4000 SO), (ou, aJ cJ 1 ov)] H → va_D A [(xo, .inr (4, [.int (nI bn), .ref hp, .ref hi, .ref hh, .ref ht])), (hp, .inr (3, [.int (nI bn), .ref pz, .ref ps, .long (lN pt), .int (nI pn)])), (pz, aI cI 62 Z), (ps, aJ cJ 63 S), (hi, .inr (2, [.ref ia, .ref ib, .ref ic, .ref id, .int (nI gc), .int (nI tt)])), (ia, aJ cJ 512 P), (ib, aI cI 512 F), (ic, aI cI 512 C), (id, aI cI 512 O), (hh, .inr (1, [.ref ma, .ref va, .ref ka, .int (nI sa)])), (ma, aI cI 1024 Ma), (va, aI cI 1024 Va), (ka, aI cI 512 Ka), (ht, .inr (1, [.ref mb, .ref vb, .ref kb, .int (nI sb)])), (mb, aI cI 1024 Mb), (vb, aI cI 1024 Vb), (kb, aI cI 512 Kb), (xm, .inr (5, [.int (nI th), .int (nI bn), .ref mh, .ref mi, .int (nI pl), .long (lN pt), .int (nI pn), .ref mz, .int (nI tt), .ref mp, .ref mo])), (mh, aI cI 65536 HH), (mi, aI cI 65536 IN), (mz, aI cI 62 ZZ), (mp, aJ cJ 4000 PO), (mo, aI cI 4000 SO), (ou, aJ cJ 1 ov)] → va_S A s.heap H locs → lv_has ls 7 [(4, .int (nI i)), (3, .ref ou), (2, .ref xm), (1, .ref xo), (0, .ref bs)] → W p l e room_1 s m args below meth c H locs (cells + 1) (slots + 6) Q (F0 m 636 ls [])) : W p l e room_1 s m args below meth c H locs cells slots Q (F0 m 261 ls []) := by
  have hcc : cells ≤ room_1.cells := by show cells ≤ 601024; omega
  have hss : slots ≤ room_1.slots := by show slots ≤ 7293000; omega
  have hpl := hI.1.2.1
  have hpq := hI.1.2.2.2
  have hbn := hI.1.1
  have hplM := xPlan_congr hpl hI.1.2.2.1
  have hit := hI.2.1.1
  have hord := hI.2.1.2.1
  have hgcn := hI.2.1.2.2.2.2.2
  have htab := hI.2.2.1.1
  have hfa := hI.2.2.1.2.1
  have hHH := hI.2.2.1.2.2.1
  have hsan := hI.2.2.1.2.2.2
  have htt := hit.2.1
  have hpt := hpl.1
  have hpn := hpl.2.1
  refine lv_aload_n hx hb dL_law_261 rfl (lv_at hl 3 rfl) ?_
  refine lv_aload_n hx hb dL_law_262 rfl (lv_at hl 4 rfl) ?_
  refine lv_iload hx hb dL_law_263 (lv_at hl 0 rfl) ?_
  refine lv_iconst (v := nI 1) hx hb dL_law_265 (by decide) ?_
  refine zi_add hx hb dL_law_266  ?_
  refine zs_ld hx hb hX hbl hbA hS (k := i + 1) (by omega) (by omega) dL_law_267 ?_
  refine lv_i2l hx hb dL_law_268 rfl ?_
  refine lv_bipush (v := nI 32) hx hb dL_law_269 (by decide) ?_
  refine lv_lshl hx hb dL_law_271 rfl ?_
  refine lv_aload_n hx hb dL_law_272 rfl (lv_at hl 4 rfl) ?_
  refine lv_iload hx hb dL_law_273 (lv_at hl 0 rfl) ?_
  refine lv_iconst (v := nI 2) hx hb dL_law_275 (by decide) ?_
  refine zi_add hx hb dL_law_276  ?_
  refine zs_ld hx hb hX hbl hbA hS (k := i + 2) (by omega) (by omega) dL_law_277 ?_
  refine lv_i2l hx hb dL_law_278 rfl ?_
  refine lv_ldc2 (v := 4294967295) hx hb hown (hts (.constantLong RL 33 (4294967295)) (by decide +kernel)) dL_law_279 ?_
  refine W.eq (g2 := F0 m 282 ls [.long (lN 4294967295), .long ((xs (i + 2)).toInt64), .long (((xs (i + 1)).toInt64) <<< ((nI 32).toInt64 &&& 63)), .ref xo]) rfl ?_
  refine lv_land hx hb dL_law_282 ?_
  refine lv_lor hx hb dL_law_283 ?_
  refine W.eq (g2 := F0 m 284 ls [.long (lgl (xs (i + 1)) (xs (i + 2))), .ref xo]) rfl ?_
  refine lv_aload_n hx hb dL_law_284 rfl (lv_at hl 4 rfl) ?_
  refine lv_iload hx hb dL_law_285 (lv_at hl 0 rfl) ?_
  refine lv_iconst (v := nI 3) hx hb dL_law_287 (by decide) ?_
  refine zi_add hx hb dL_law_288  ?_
  refine zs_ld hx hb hX hbl hbA hS (k := i + 3) (by omega) (by omega) dL_law_289 ?_
  refine RO_i.callV (rest := []) (c_X4_best l D cI cJ xo hp hi hh ht bn (lgl (xs (i + 1)) (xs (i + 2))) (xs (i + 3))) ⟨hx, hb, hml, hown, hts⟩ (cwV 2 hts gL_law_X4_best rfl rfl rfl (by decide +kernel) ⟨Nat.le_of_ble_eq_true rfl, Nat.le_of_ble_eq_true rfl⟩) hK hP hS hA [0] [0, 1] rfl rfl 0 4 rfl rfl rfl rfl hl.1 rfl (Nat.le_of_ble_eq_true rfl) dL_law_290 ⟨hcc, hss⟩ (fun v1_ H locs e1_ hP hS => ?_)
  have hq1 := e1_
  refine lv_aload_n hx hb dL_law_293 rfl (lv_at hl 2 rfl) ?_
  refine lv_aload_n hx hb dL_law_294 rfl (lv_at hl 4 rfl) ?_
  refine lv_iload hx hb dL_law_295 (lv_at hl 0 rfl) ?_
  refine lv_iconst (v := nI 1) hx hb dL_law_297 (by decide) ?_
  refine zi_add hx hb dL_law_298  ?_
  refine zs_ld hx hb hX hbl hbA hS (k := i + 1) (by omega) (by omega) dL_law_299 ?_
  refine lv_i2l hx hb dL_law_300 rfl ?_
  refine lv_bipush (v := nI 32) hx hb dL_law_301 (by decide) ?_
  refine lv_lshl hx hb dL_law_303 rfl ?_
  refine lv_aload_n hx hb dL_law_304 rfl (lv_at hl 4 rfl) ?_
  refine lv_iload hx hb dL_law_305 (lv_at hl 0 rfl) ?_
  refine lv_iconst (v := nI 2) hx hb dL_law_307 (by decide) ?_
  refine zi_add hx hb dL_law_308  ?_
  refine zs_ld hx hb hX hbl hbA hS (k := i + 2) (by omega) (by omega) dL_law_309 ?_
  refine lv_i2l hx hb dL_law_310 rfl ?_
  refine lv_ldc2 (v := 4294967295) hx hb hown (hts (.constantLong RL 33 (4294967295)) (by decide +kernel)) dL_law_311 ?_
  refine W.eq (g2 := F0 m 314 ls [.long (lN 4294967295), .long ((xs (i + 2)).toInt64), .long (((xs (i + 1)).toInt64) <<< ((nI 32).toInt64 &&& 63)), .ref xm, .int v1_]) rfl ?_
  refine lv_land hx hb dL_law_314 ?_
  refine lv_lor hx hb dL_law_315 ?_
  refine W.eq (g2 := F0 m 316 ls [.long (lgl (xs (i + 1)) (xs (i + 2))), .ref xm, .int v1_]) rfl ?_
  refine lv_aload_n hx hb dL_law_316 rfl (lv_at hl 4 rfl) ?_
  refine lv_iload hx hb dL_law_317 (lv_at hl 0 rfl) ?_
  refine lv_iconst (v := nI 3) hx hb dL_law_319 (by decide) ?_
  refine zi_add hx hb dL_law_320  ?_
  refine zs_ld hx hb hX hbl hbA hS (k := i + 3) (by omega) (by omega) dL_law_321 ?_
  refine WR_i.callV (rest := [.int v1_]) (wr := [(xo, .inr (4, [.int (nI bn), .ref hp, .ref hi, .ref hh, .ref ht])), (hp, .inr (3, [.int (nI bn), .ref pz, .ref ps, .long (lN pt), .int (nI pn)])), (pz, aI cI 62 Z), (ps, aJ cJ 63 S), (hi, .inr (2, [.ref ia, .ref ib, .ref ic, .ref id, .int (nI gc), .int (nI tt)])), (ia, aJ cJ 512 P), (ib, aI cI 512 F), (ic, aI cI 512 C), (id, aI cI 512 O), (hh, .inr (1, [.ref ma, .ref va, .ref ka, .int (nI sa)])), (ma, aI cI 1024 Ma), (va, aI cI 1024 Va), (ka, aI cI 512 Ka), (ht, .inr (1, [.ref mb, .ref vb, .ref kb, .int (nI sb)])), (mb, aI cI 1024 Mb), (vb, aI cI 1024 Vb), (kb, aI cI 512 Kb), (ou, aJ cJ 1 ov)]) (c_X5_best l D cI cJ xm mh mi mz mp mo th bn pl pt pn tt HH IN ZZ PO SO (lgl (xs (i + 1)) (xs (i + 2))) (xs (i + 3))) ⟨hx, hb, hml, hown, hts⟩ (cwV 2 hts gL_law_X5_best rfl rfl rfl (by decide +kernel) ⟨Nat.le_of_ble_eq_true rfl, Nat.le_of_ble_eq_true rfl⟩) hK hP hD hS hA [17, 18, 19, 20, 21, 22] [0, 1, 2, 3, 4, 5, 6, 7, 8, 9, 10, 11, 12, 13, 14, 15, 16, 23] [0, 1] rfl rfl (by decide) (by decide) (by decide) rfl 17 5 rfl rfl rfl rfl hl.1 rfl (Nat.le_of_ble_eq_true rfl) dL_law_322 ⟨hcc, hss⟩ (fun v2_ u2_ H locs e2_ hP hD hS => ?_)
  obtain rfl : v1_ = v2_ := best_same hq1 e2_
  have hP := hP.sub (ws' := [(xo, .inr (4, [.int (nI bn), .ref hp, .ref hi, .ref hh, .ref ht])), (hp, .inr (3, [.int (nI bn), .ref pz, .ref ps, .long (lN pt), .int (nI pn)])), (pz, aI cI 62 Z), (ps, aJ cJ 63 S), (hi, .inr (2, [.ref ia, .ref ib, .ref ic, .ref id, .int (nI gc), .int (nI tt)])), (ia, aJ cJ 512 P), (ib, aI cI 512 F), (ic, aI cI 512 C), (id, aI cI 512 O), (hh, .inr (1, [.ref ma, .ref va, .ref ka, .int (nI sa)])), (ma, aI cI 1024 Ma), (va, aI cI 1024 Va), (ka, aI cI 512 Ka), (ht, .inr (1, [.ref mb, .ref vb, .ref kb, .int (nI sb)])), (mb, aI cI 1024 Mb), (vb, aI cI 1024 Vb), (kb, aI cI 512 Kb), (xm, .inr (5, [.int (nI 0), .int (nI bn), .ref mh, .ref mi, .int (nI pl), .long (lN pt), .int (nI pn), .ref mz, .int (nI tt), .ref mp, .ref mo])), (mh, aI cI 65536 HH), (mi, aI cI 65536 IN), (mz, aI cI 62 ZZ), (mp, aJ cJ 4000 PO), (mo, aI cI 4000 SO), (ou, aJ cJ 1 ov)]) [0, 1, 2, 3, 4, 5, 6, 7, 8, 9, 10, 11, 12, 13, 14, 15, 16, 18, 19, 20, 21, 22, 23, 17] rfl
  have hD := hD.sub (ws' := [(xo, .inr (4, [.int (nI bn), .ref hp, .ref hi, .ref hh, .ref ht])), (hp, .inr (3, [.int (nI bn), .ref pz, .ref ps, .long (lN pt), .int (nI pn)])), (pz, aI cI 62 Z), (ps, aJ cJ 63 S), (hi, .inr (2, [.ref ia, .ref ib, .ref ic, .ref id, .int (nI gc), .int (nI tt)])), (ia, aJ cJ 512 P), (ib, aI cI 512 F), (ic, aI cI 512 C), (id, aI cI 512 O), (hh, .inr (1, [.ref ma, .ref va, .ref ka, .int (nI sa)])), (ma, aI cI 1024 Ma), (va, aI cI 1024 Va), (ka, aI cI 512 Ka), (ht, .inr (1, [.ref mb, .ref vb, .ref kb, .int (nI sb)])), (mb, aI cI 1024 Mb), (vb, aI cI 1024 Vb), (kb, aI cI 512 Kb), (xm, .inr (5, [.int (nI 0), .int (nI bn), .ref mh, .ref mi, .int (nI pl), .long (lN pt), .int (nI pn), .ref mz, .int (nI tt), .ref mp, .ref mo])), (mh, aI cI 65536 HH), (mi, aI cI 65536 IN), (mz, aI cI 62 ZZ), (mp, aJ cJ 4000 PO), (mo, aI cI 4000 SO), (ou, aJ cJ 1 ov)]) [0, 1, 2, 3, 4, 5, 6, 7, 8, 9, 10, 11, 12, 13, 14, 15, 16, 18, 19, 20, 21, 22, 23, 17] (by decide) rfl
  refine zq_eq (tgt := 636) hx hb dL_law_325 (by decide) (fun c325 => ?_) (fun c325 => ?_)
  · refine W.widen (k := cells + 1) (n := slots + 6) (by omega) (by omega) ?_
    exact kk _ _ _ _ _ _ _ _ _ _ _ _ _ _ _ _ _ _ _ _ _ _ _ _ _ _ _ _ (hI.up) _ _ _ hP hD hS (lv_sub hl [0, 1, 2, 3, 4] rfl)
  · exact False.elim (c325 rfl)
set_option maxHeartbeats 4000000 in
set_option maxRecDepth 100000 in
theorem law_c3 {p : Program} {l : Launch} {e : Env} {s : State} {m : MethodId} {args : Array Value} {below : List Frame} {meth : Method} {c : Code} {A : Nat → Prop} {Q : State → Prop} {bs L : Nat} {xs : Nat → Int32} {D : va_G} {cI cJ : ClassId} {xo hp hi hh ht pz ps ia ib ic id ma va ka mb vb kb xm mh mi mz mp mo ou : Nat} (hx : p.tables.exec = Jvm.exec) (hb : c.code = cL_law) (hml : c.maxLocals = 7) (hown : s.vm.findClass RL = some m.cls) (hts : ∀ w ∈ wsL_law, w.before args s = true) (hX : va_X bs L xs s s.heap) (hbl : bs < s.heap.size) (hbA : ¬ A bs) (hA : ∀ q, s.heap.size ≤ q → A q) (hK : va_K D vwCl [(cI, .int), (cJ, .long)] s)  {n bn th pl pt pn gc tt sa sb : Nat} {Z S ZZ P F C O Ma Va Ka fa Mb Vb Kb fb HH IN PO SO ov : Nat → Nat} (hI : INV n bn pt pn gc tt sa sb pl Z S ZZ P F C O Ma Va Ka fa Mb Vb Kb fb HH PO SO) (hn : n < 512) {i : Nat} (hi9 : i = 4 * n + 1) (hiL : i + 3 < L) (hL : L ≤ 2049) {cells slots : Nat} (hc0 : cells + 1 ≤ 601024) (hs0 : slots + 6 ≤ 7293000) {H : Heap} {locs : List Loc} {ls : Array Slot} (hP : va_P D vwCl [(xo, .inr (4, [.int (nI bn), .ref hp, .ref hi, .ref hh, .ref ht])), (hp, .inr (3, [.int (nI bn), .ref pz, .ref ps, .long (lN pt), .int (nI pn)])), (pz, aI cI 62 Z), (ps, aJ cJ 63 S), (hi, .inr (2, [.ref ia, .ref ib, .ref ic, .ref id, .int (nI gc), .int (nI tt)])), (ia, aJ cJ 512 P), (ib, aI cI 512 F), (ic, aI cI 512 C), (id, aI cI 512 O), (hh, .inr (1, [.ref ma, .ref va, .ref ka, .int (nI sa)])), (ma, aI cI 1024 Ma), (va, aI cI 1024 Va), (ka, aI cI 512 Ka), (ht, .inr (1, [.ref mb, .ref vb, .ref kb, .int (nI sb)])), (mb, aI cI 1024 Mb), (vb, aI cI 1024 Vb), (kb, aI cI 512 Kb), (xm, .inr (5, [.int (nI th), .int (nI bn), .ref mh, .ref mi, .int (nI pl), .long (lN pt), .int (nI pn), .ref mz, .int (nI tt), .ref mp, .ref mo])), (mh, aI cI 65536 HH), (mi, aI cI 65536 IN), (mz, aI cI 62 ZZ), (mp, aJ cJ 4000 PO), (mo, aI cI 4000 SO), (ou, aJ cJ 1 ov)] H) (hD : va_D A [(xo, .inr (4, [.int (nI bn), .ref hp, .ref hi, .ref hh, .ref ht])), (hp, .inr (3, [.int (nI bn), .ref pz, .ref ps, .long (lN pt), .int (nI pn)])), (pz, aI cI 62 Z), (ps, aJ cJ 63 S), (hi, .inr (2, [.ref ia, .ref ib, .ref ic, .ref id, .int (nI gc), .int (nI tt)])), (ia, aJ cJ 512 P), (ib, aI cI 512 F), (ic, aI cI 512 C), (id, aI cI 512 O), (hh, .inr (1, [.ref ma, .ref va, .ref ka, .int (nI sa)])), (ma, aI cI 1024 Ma), (va, aI cI 1024 Va), (ka, aI cI 512 Ka), (ht, .inr (1, [.ref mb, .ref vb, .ref kb, .int (nI sb)])), (mb, aI cI 1024 Mb), (vb, aI cI 1024 Vb), (kb, aI cI 512 Kb), (xm, .inr (5, [.int (nI th), .int (nI bn), .ref mh, .ref mi, .int (nI pl), .long (lN pt), .int (nI pn), .ref mz, .int (nI tt), .ref mp, .ref mo])), (mh, aI cI 65536 HH), (mi, aI cI 65536 IN), (mz, aI cI 62 ZZ), (mp, aJ cJ 4000 PO), (mo, aI cI 4000 SO), (ou, aJ cJ 1 ov)]) (hS : va_S A s.heap H locs) (hl : lv_has ls 7 [(4, .int (nI i)), (3, .ref ou), (2, .ref xm), (1, .ref xo), (0, .ref bs)])
    (kk : ∀ (th pl pt pn gc tt sa sb : Nat) (Z S ZZ P F C O Ma Va Ka fa Mb Vb Kb fb HH IN PO SO ov : Nat → Nat), INV (n + 1) bn pt pn gc tt sa sb pl Z S ZZ P F C O Ma Va Ka fa Mb Vb Kb fb HH PO SO → ∀ (H : Heap) (locs : List Loc) (ls : Array Slot), va_P D vwCl [(xo, .inr (4, [.int (nI bn), .ref hp, .ref hi, .ref hh, .ref ht])), (hp, .inr (3, [.int (nI bn), .ref pz, .ref ps, .long (lN pt), .int (nI pn)])), (pz, aI cI 62 Z), (ps, aJ cJ 63 S), (hi, .inr (2, [.ref ia, .ref ib, .ref ic, .ref id, .int (nI gc), .int (nI tt)])), (ia, aJ cJ 512 P), (ib, aI cI 512 F), (ic, aI cI 512 C), (id, aI cI 512 O), (hh, .inr (1, [.ref ma, .ref va, .ref ka, .int (nI sa)])), (ma, aI cI 1024 Ma), (va, aI cI 1024 Va), (ka, aI cI 512 Ka), (ht, .inr (1, [.ref mb, .ref vb, .ref kb, .int (nI sb)])), (mb, aI cI 1024 Mb), (vb, aI cI 1024 Vb), (kb, aI cI 512 Kb), (xm, .inr (5, [.int (nI th), .int (nI bn), .ref mh, .ref mi, .int (nI pl), .long (lN pt), .int (nI pn), .ref mz, .int (nI tt), .ref mp, .ref mo])), (mh, aI cI 65536 HH), (mi, aI cI 65536 IN), (mz, aI cI 62 ZZ), (mp, aJ cJ 4000 PO), (mo, aI cI 4000 SO), (ou, aJ cJ 1 ov)] H → va_D A [(xo, .inr (4, [.int (nI bn), .ref hp, .ref hi, .ref hh, .ref ht])), (hp, .inr (3, [.int (nI bn), .ref pz, .ref ps, .long (lN pt), .int (nI pn)])), (pz, aI cI 62 Z), (ps, aJ cJ 63 S), (hi, .inr (2, [.ref ia, .ref ib, .ref ic, .ref id, .int (nI gc), .int (nI tt)])), (ia, aJ cJ 512 P), (ib, aI cI 512 F), (ic, aI cI 512 C), (id, aI cI 512 O), (hh, .inr (1, [.ref ma, .ref va, .ref ka, .int (nI sa)])), (ma, aI cI 1024 Ma), (va, aI cI 1024 Va), (ka, aI cI 512 Ka), (ht, .inr (1, [.ref mb, .ref vb, .ref kb, .int (nI sb)])), (mb, aI cI 1024 Mb), (vb, aI cI 1024 Vb), (kb, aI cI 512 Kb), (xm, .inr (5, [.int (nI th), .int (nI bn), .ref mh, .ref mi, .int (nI pl), .long (lN pt), .int (nI pn), .ref mz, .int (nI tt), .ref mp, .ref mo])), (mh, aI cI 65536 HH), (mi, aI cI 65536 IN), (mz, aI cI 62 ZZ), (mp, aJ cJ 4000 PO), (mo, aI cI 4000 SO), (ou, aJ cJ 1 ov)] → va_S A s.heap H locs → lv_has ls 7 [(4, .int (nI i)), (3, .ref ou), (2, .ref xm), (1, .ref xo), (0, .ref bs)] → W p l e room_1 s m args below meth c H locs (cells + 1) (slots + 6) Q (F0 m 636 ls [])) : W p l e room_1 s m args below meth c H locs cells slots Q (F0 m 330 ls []) := by
  have hcc : cells ≤ room_1.cells := by show cells ≤ 601024; omega
  have hss : slots ≤ room_1.slots := by show slots ≤ 7293000; omega
  have hpl := hI.1.2.1
  have hpq := hI.1.2.2.2
  have hbn := hI.1.1
  have hplM := xPlan_congr hpl hI.1.2.2.1
  have hit := hI.2.1.1
  have hord := hI.2.1.2.1
  have hgcn := hI.2.1.2.2.2.2.2
  have htab := hI.2.2.1.1
  have hfa := hI.2.2.1.2.1
  have hHH := hI.2.2.1.2.2.1
  have hsan := hI.2.2.1.2.2.2
  have htt := hit.2.1
  have hpt := hpl.1
  have hpn := hpl.2.1
  refine lv_aload_n hx hb dL_law_330 rfl (lv_at hl 3 rfl) ?_
  refine lv_aload_n hx hb dL_law_331 rfl (lv_at hl 4 rfl) ?_
  refine lv_iload hx hb dL_law_332 (lv_at hl 0 rfl) ?_
  refine lv_iconst (v := nI 1) hx hb dL_law_334 (by decide) ?_
  refine zi_add hx hb dL_law_335  ?_
  refine zs_ld hx hb hX hbl hbA hS (k := i + 1) (by omega) (by omega) dL_law_336 ?_
  refine lv_i2l hx hb dL_law_337 rfl ?_
  refine lv_bipush (v := nI 32) hx hb dL_law_338 (by decide) ?_
  refine lv_lshl hx hb dL_law_340 rfl ?_
  refine lv_aload_n hx hb dL_law_341 rfl (lv_at hl 4 rfl) ?_
  refine lv_iload hx hb dL_law_342 (lv_at hl 0 rfl) ?_
  refine lv_iconst (v := nI 2) hx hb dL_law_344 (by decide) ?_
  refine zi_add hx hb dL_law_345  ?_
  refine zs_ld hx hb hX hbl hbA hS (k := i + 2) (by omega) (by omega) dL_law_346 ?_
  refine lv_i2l hx hb dL_law_347 rfl ?_
  refine lv_ldc2 (v := 4294967295) hx hb hown (hts (.constantLong RL 33 (4294967295)) (by decide +kernel)) dL_law_348 ?_
  refine W.eq (g2 := F0 m 351 ls [.long (lN 4294967295), .long ((xs (i + 2)).toInt64), .long (((xs (i + 1)).toInt64) <<< ((nI 32).toInt64 &&& 63)), .ref xo]) rfl ?_
  refine lv_land hx hb dL_law_351 ?_
  refine lv_lor hx hb dL_law_352 ?_
  refine W.eq (g2 := F0 m 353 ls [.long (lgl (xs (i + 1)) (xs (i + 2))), .ref xo]) rfl ?_
  refine lv_aload_n hx hb dL_law_353 rfl (lv_at hl 4 rfl) ?_
  refine lv_iload hx hb dL_law_354 (lv_at hl 0 rfl) ?_
  refine lv_iconst (v := nI 3) hx hb dL_law_356 (by decide) ?_
  refine zi_add hx hb dL_law_357  ?_
  refine zs_ld hx hb hX hbl hbA hS (k := i + 3) (by omega) (by omega) dL_law_358 ?_
  refine WR_i.callV (rest := []) (wr := [(hh, .inr (1, [.ref ma, .ref va, .ref ka, .int (nI sa)])), (ma, aI cI 1024 Ma), (va, aI cI 1024 Va), (ka, aI cI 512 Ka), (ht, .inr (1, [.ref mb, .ref vb, .ref kb, .int (nI sb)])), (mb, aI cI 1024 Mb), (vb, aI cI 1024 Vb), (kb, aI cI 512 Kb), (xm, .inr (5, [.int (nI th), .int (nI bn), .ref mh, .ref mi, .int (nI pl), .long (lN pt), .int (nI pn), .ref mz, .int (nI tt), .ref mp, .ref mo])), (mh, aI cI 65536 HH), (mi, aI cI 65536 IN), (mz, aI cI 62 ZZ), (mp, aJ cJ 4000 PO), (mo, aI cI 4000 SO), (ou, aJ cJ 1 ov)]) (c_X4_volume l D cI cJ xo hp hi hh ht bn pz ps pt pn Z S ia ib ic id gc tt P F C O (lgl (xs (i + 1)) (xs (i + 2))) (xs (i + 3)) hpt hit hord (by omega)) ⟨hx, hb, hml, hown, hts⟩ (cwV 2 hts gL_law_X4_volume rfl rfl rfl (by decide +kernel) ⟨Nat.le_of_ble_eq_true rfl, Nat.le_of_ble_eq_true rfl⟩) hK hP hD hS hA [0, 1, 2, 3, 4, 5, 6, 7, 8] [9, 10, 11, 12, 13, 14, 15, 16, 17, 18, 19, 20, 21, 22, 23] [0, 1] rfl rfl (by decide) (by decide) (by decide) rfl 0 4 rfl rfl rfl rfl hl.1 rfl (Nat.le_of_ble_eq_true rfl) dL_law_359 ⟨hcc, hss⟩ (fun v1_ u1_ H locs e1_ hP hD hS => ?_)
  obtain ⟨rfl, hk1, hk2⟩ := e1_
  have hP := hP.sub (ws' := [(xo, .inr (4, [.int (nI bn), .ref hp, .ref hi, .ref hh, .ref ht])), (hp, .inr (3, [.int (nI bn), .ref pz, .ref ps, .long (lN pt), .int (nI pn)])), (pz, aI cI 62 Z), (ps, aJ cJ 63 S), (hi, .inr (2, [.ref ia, .ref ib, .ref ic, .ref id, .int (nI u1_.1), .int (nI u1_.2.1)])), (ia, aJ cJ 512 u1_.2.2.1), (ib, aI cI 512 u1_.2.2.2.1), (ic, aI cI 512 u1_.2.2.2.2.1), (id, aI cI 512 u1_.2.2.2.2.2), (hh, .inr (1, [.ref ma, .ref va, .ref ka, .int (nI sa)])), (ma, aI cI 1024 Ma), (va, aI cI 1024 Va), (ka, aI cI 512 Ka), (ht, .inr (1, [.ref mb, .ref vb, .ref kb, .int (nI sb)])), (mb, aI cI 1024 Mb), (vb, aI cI 1024 Vb), (kb, aI cI 512 Kb), (xm, .inr (5, [.int (nI th), .int (nI bn), .ref mh, .ref mi, .int (nI pl), .long (lN pt), .int (nI pn), .ref mz, .int (nI tt), .ref mp, .ref mo])), (mh, aI cI 65536 HH), (mi, aI cI 65536 IN), (mz, aI cI 62 ZZ), (mp, aJ cJ 4000 PO), (mo, aI cI 4000 SO), (ou, aJ cJ 1 ov)]) [15, 16, 17, 18, 19, 20, 21, 22, 23, 0, 1, 2, 3, 4, 5, 6, 7, 8, 9, 10, 11, 12, 13, 14] rfl
  have hD := hD.sub (ws' := [(xo, .inr (4, [.int (nI bn), .ref hp, .ref hi, .ref hh, .ref ht])), (hp, .inr (3, [.int (nI bn), .ref pz, .ref ps, .long (lN pt), .int (nI pn)])), (pz, aI cI 62 Z), (ps, aJ cJ 63 S), (hi, .inr (2, [.ref ia, .ref ib, .ref ic, .ref id, .int (nI u1_.1), .int (nI u1_.2.1)])), (ia, aJ cJ 512 u1_.2.2.1), (ib, aI cI 512 u1_.2.2.2.1), (ic, aI cI 512 u1_.2.2.2.2.1), (id, aI cI 512 u1_.2.2.2.2.2), (hh, .inr (1, [.ref ma, .ref va, .ref ka, .int (nI sa)])), (ma, aI cI 1024 Ma), (va, aI cI 1024 Va), (ka, aI cI 512 Ka), (ht, .inr (1, [.ref mb, .ref vb, .ref kb, .int (nI sb)])), (mb, aI cI 1024 Mb), (vb, aI cI 1024 Vb), (kb, aI cI 512 Kb), (xm, .inr (5, [.int (nI th), .int (nI bn), .ref mh, .ref mi, .int (nI pl), .long (lN pt), .int (nI pn), .ref mz, .int (nI tt), .ref mp, .ref mo])), (mh, aI cI 65536 HH), (mi, aI cI 65536 IN), (mz, aI cI 62 ZZ), (mp, aJ cJ 4000 PO), (mo, aI cI 4000 SO), (ou, aJ cJ 1 ov)]) [15, 16, 17, 18, 19, 20, 21, 22, 23, 0, 1, 2, 3, 4, 5, 6, 7, 8, 9, 10, 11, 12, 13, 14] (by decide) rfl
  refine lv_aload_n hx hb dL_law_362 rfl (lv_at hl 2 rfl) ?_
  refine lv_aload_n hx hb dL_law_363 rfl (lv_at hl 4 rfl) ?_
  refine lv_iload hx hb dL_law_364 (lv_at hl 0 rfl) ?_
  refine lv_iconst (v := nI 1) hx hb dL_law_366 (by decide) ?_
  refine zi_add hx hb dL_law_367  ?_
  refine zs_ld hx hb hX hbl hbA hS (k := i + 1) (by omega) (by omega) dL_law_368 ?_
  refine lv_i2l hx hb dL_law_369 rfl ?_
  refine lv_bipush (v := nI 32) hx hb dL_law_370 (by decide) ?_
  refine lv_lshl hx hb dL_law_372 rfl ?_
  refine lv_aload_n hx hb dL_law_373 rfl (lv_at hl 4 rfl) ?_
  refine lv_iload hx hb dL_law_374 (lv_at hl 0 rfl) ?_
  refine lv_iconst (v := nI 2) hx hb dL_law_376 (by decide) ?_
  refine zi_add hx hb dL_law_377  ?_
  refine zs_ld hx hb hX hbl hbA hS (k := i + 2) (by omega) (by omega) dL_law_378 ?_
  refine lv_i2l hx hb dL_law_379 rfl ?_
  refine lv_ldc2 (v := 4294967295) hx hb hown (hts (.constantLong RL 33 (4294967295)) (by decide +kernel)) dL_law_380 ?_
  refine W.eq (g2 := F0 m 383 ls [.long (lN 4294967295), .long ((xs (i + 2)).toInt64), .long (((xs (i + 1)).toInt64) <<< ((nI 32).toInt64 &&& 63)), .ref xm, .int (volC pt tt (lgl (xs (i + 1)) (xs (i + 2))) (xs (i + 3)))]) rfl ?_
  refine lv_land hx hb dL_law_383 ?_
  refine lv_lor hx hb dL_law_384 ?_
  refine W.eq (g2 := F0 m 385 ls [.long (lgl (xs (i + 1)) (xs (i + 2))), .ref xm, .int (volC pt tt (lgl (xs (i + 1)) (xs (i + 2))) (xs (i + 3)))]) rfl ?_
  refine lv_aload_n hx hb dL_law_385 rfl (lv_at hl 4 rfl) ?_
  refine lv_iload hx hb dL_law_386 (lv_at hl 0 rfl) ?_
  refine lv_iconst (v := nI 3) hx hb dL_law_388 (by decide) ?_
  refine zi_add hx hb dL_law_389  ?_
  refine zs_ld hx hb hX hbl hbA hS (k := i + 3) (by omega) (by omega) dL_law_390 ?_
  refine WR_i.callV (rest := [.int (volC pt tt (lgl (xs (i + 1)) (xs (i + 2))) (xs (i + 3)))]) (wr := [(xo, .inr (4, [.int (nI bn), .ref hp, .ref hi, .ref hh, .ref ht])), (hp, .inr (3, [.int (nI bn), .ref pz, .ref ps, .long (lN pt), .int (nI pn)])), (pz, aI cI 62 Z), (ps, aJ cJ 63 S), (hi, .inr (2, [.ref ia, .ref ib, .ref ic, .ref id, .int (nI u1_.1), .int (nI u1_.2.1)])), (ia, aJ cJ 512 u1_.2.2.1), (ib, aI cI 512 u1_.2.2.2.1), (ic, aI cI 512 u1_.2.2.2.2.1), (id, aI cI 512 u1_.2.2.2.2.2), (hh, .inr (1, [.ref ma, .ref va, .ref ka, .int (nI sa)])), (ma, aI cI 1024 Ma), (va, aI cI 1024 Va), (ka, aI cI 512 Ka), (ht, .inr (1, [.ref mb, .ref vb, .ref kb, .int (nI sb)])), (mb, aI cI 1024 Mb), (vb, aI cI 1024 Vb), (kb, aI cI 512 Kb), (ou, aJ cJ 1 ov)]) (c_X5_volume l D cI cJ xm mh mi mz mp mo th bn pl pt pn tt HH IN ZZ PO SO (lgl (xs (i + 1)) (xs (i + 2))) (xs (i + 3)) hpq hpt htt hI.hSO (fun i hi8 => by have := hI.hPO i hi8; omega)) ⟨hx, hb, hml, hown, hts⟩ (cwV 2 hts gL_law_X5_volume rfl rfl rfl (by decide +kernel) ⟨Nat.le_of_ble_eq_true rfl, Nat.le_of_ble_eq_true rfl⟩) hK hP hD hS hA [17, 18, 19, 20, 21, 22] [0, 1, 2, 3, 4, 5, 6, 7, 8, 9, 10, 11, 12, 13, 14, 15, 16, 23] [0, 1] rfl rfl (by decide) (by decide) (by decide) rfl 17 5 rfl rfl rfl rfl hl.1 rfl (Nat.le_of_ble_eq_true rfl) dL_law_391 ⟨hcc, hss⟩ (fun v2_ u2_ H locs e2_ hP hD hS => ?_)
  obtain ⟨rfl, hk3, hk4⟩ := e2_
  have hP := hP.sub (ws' := [(xo, .inr (4, [.int (nI bn), .ref hp, .ref hi, .ref hh, .ref ht])), (hp, .inr (3, [.int (nI bn), .ref pz, .ref ps, .long (lN pt), .int (nI pn)])), (pz, aI cI 62 Z), (ps, aJ cJ 63 S), (hi, .inr (2, [.ref ia, .ref ib, .ref ic, .ref id, .int (nI u1_.1), .int (nI u1_.2.1)])), (ia, aJ cJ 512 u1_.2.2.1), (ib, aI cI 512 u1_.2.2.2.1), (ic, aI cI 512 u1_.2.2.2.2.1), (id, aI cI 512 u1_.2.2.2.2.2), (hh, .inr (1, [.ref ma, .ref va, .ref ka, .int (nI sa)])), (ma, aI cI 1024 Ma), (va, aI cI 1024 Va), (ka, aI cI 512 Ka), (ht, .inr (1, [.ref mb, .ref vb, .ref kb, .int (nI sb)])), (mb, aI cI 1024 Mb), (vb, aI cI 1024 Vb), (kb, aI cI 512 Kb), (xm, .inr (5, [.int (nI 0), .int (nI bn), .ref mh, .ref mi, .int (nI pl), .long (lN pt), .int (nI pn), .ref mz, .int (nI u2_.1), .ref mp, .ref mo])), (mh, aI cI 65536 HH), (mi, aI cI 65536 IN), (mz, aI cI 62 ZZ), (mp, aJ cJ 4000 u2_.2.1), (mo, aI cI 4000 u2_.2.2), (ou, aJ cJ 1 ov)]) [0, 1, 2, 3, 4, 5, 6, 7, 8, 9, 10, 11, 12, 13, 14, 15, 16, 18, 19, 20, 21, 22, 23, 17] rfl
  have hD := hD.sub (ws' := [(xo, .inr (4, [.int (nI bn), .ref hp, .ref hi, .ref hh, .ref ht])), (hp, .inr (3, [.int (nI bn), .ref pz, .ref ps, .long (lN pt), .int (nI pn)])), (pz, aI cI 62 Z), (ps, aJ cJ 63 S), (hi, .inr (2, [.ref ia, .ref ib, .ref ic, .ref id, .int (nI u1_.1), .int (nI u1_.2.1)])), (ia, aJ cJ 512 u1_.2.2.1), (ib, aI cI 512 u1_.2.2.2.1), (ic, aI cI 512 u1_.2.2.2.2.1), (id, aI cI 512 u1_.2.2.2.2.2), (hh, .inr (1, [.ref ma, .ref va, .ref ka, .int (nI sa)])), (ma, aI cI 1024 Ma), (va, aI cI 1024 Va), (ka, aI cI 512 Ka), (ht, .inr (1, [.ref mb, .ref vb, .ref kb, .int (nI sb)])), (mb, aI cI 1024 Mb), (vb, aI cI 1024 Vb), (kb, aI cI 512 Kb), (xm, .inr (5, [.int (nI 0), .int (nI bn), .ref mh, .ref mi, .int (nI pl), .long (lN pt), .int (nI pn), .ref mz, .int (nI u2_.1), .ref mp, .ref mo])), (mh, aI cI 65536 HH), (mi, aI cI 65536 IN), (mz, aI cI 62 ZZ), (mp, aJ cJ 4000 u2_.2.1), (mo, aI cI 4000 u2_.2.2), (ou, aJ cJ 1 ov)]) [0, 1, 2, 3, 4, 5, 6, 7, 8, 9, 10, 11, 12, 13, 14, 15, 16, 18, 19, 20, 21, 22, 23, 17] (by decide) rfl
  rcases (show ¬ volG pt tt (lgl (xs (i + 1)) (xs (i + 2))) (xs (i + 3)) ∨ (volG pt tt (lgl (xs (i + 1)) (xs (i + 2))) (xs (i + 3)) ∧ ¬ 1 ≤ (xs (i + 3)).toInt) ∨ (volG pt tt (lgl (xs (i + 1)) (xs (i + 2))) (xs (i + 3)) ∧ 1 ≤ (xs (i + 3)).toInt) from by
      by_cases h1 : volG pt tt (lgl (xs (i + 1)) (xs (i + 2))) (xs (i + 3))
      · by_cases h2 : 1 ≤ (xs (i + 3)).toInt
        · exact Or.inr (Or.inr ⟨h1, h2⟩)
        · exact Or.inr (Or.inl ⟨h1, h2⟩)
      · exact Or.inl h1) with hg | hg | hg
  · have hu1 := hk1 (fun q => hg q.1)
    subst hu1
    have hu2 := hk3 hg
    subst hu2
    have hP : va_P D vwCl [(xo, .inr (4, [.int (nI bn), .ref hp, .ref hi, .ref hh, .ref ht])), (hp, .inr (3, [.int (nI bn), .ref pz, .ref ps, .long (lN pt), .int (nI pn)])), (pz, aI cI 62 Z), (ps, aJ cJ 63 S), (hi, .inr (2, [.ref ia, .ref ib, .ref ic, .ref id, .int (nI gc), .int (nI tt)])), (ia, aJ cJ 512 P), (ib, aI cI 512 F), (ic, aI cI 512 C), (id, aI cI 512 O), (hh, .inr (1, [.ref ma, .ref va, .ref ka, .int (nI sa)])), (ma, aI cI 1024 Ma), (va, aI cI 1024 Va), (ka, aI cI 512 Ka), (ht, .inr (1, [.ref mb, .ref vb, .ref kb, .int (nI sb)])), (mb, aI cI 1024 Mb), (vb, aI cI 1024 Vb), (kb, aI cI 512 Kb), (xm, .inr (5, [.int (nI 0), .int (nI bn), .ref mh, .ref mi, .int (nI pl), .long (lN pt), .int (nI pn), .ref mz, .int (nI tt), .ref mp, .ref mo])), (mh, aI cI 65536 HH), (mi, aI cI 65536 IN), (mz, aI cI 62 ZZ), (mp, aJ cJ 4000 PO), (mo, aI cI 4000 SO), (ou, aJ cJ 1 ov)] H := hP
    have hD : va_D A [(xo, .inr (4, [.int (nI bn), .ref hp, .ref hi, .ref hh, .ref ht])), (hp, .inr (3, [.int (nI bn), .ref pz, .ref ps, .long (lN pt), .int (nI pn)])), (pz, aI cI 62 Z), (ps, aJ cJ 63 S), (hi, .inr (2, [.ref ia, .ref ib, .ref ic, .ref id, .int (nI gc), .int (nI tt)])), (ia, aJ cJ 512 P), (ib, aI cI 512 F), (ic, aI cI 512 C), (id, aI cI 512 O), (hh, .inr (1, [.ref ma, .ref va, .ref ka, .int (nI sa)])), (ma, aI cI 1024 Ma), (va, aI cI 1024 Va), (ka, aI cI 512 Ka), (ht, .inr (1, [.ref mb, .ref vb, .ref kb, .int (nI sb)])), (mb, aI cI 1024 Mb), (vb, aI cI 1024 Vb), (kb, aI cI 512 Kb), (xm, .inr (5, [.int (nI 0), .int (nI bn), .ref mh, .ref mi, .int (nI pl), .long (lN pt), .int (nI pn), .ref mz, .int (nI tt), .ref mp, .ref mo])), (mh, aI cI 65536 HH), (mi, aI cI 65536 IN), (mz, aI cI 62 ZZ), (mp, aJ cJ 4000 PO), (mo, aI cI 4000 SO), (ou, aJ cJ 1 ov)] := hD
    refine zq_eq (tgt := 636) hx hb dL_law_394 (by decide) (fun c394 => ?_) (fun c394 => ?_)
    · refine W.widen (k := cells + 1) (n := slots + 6) (by omega) (by omega) ?_
      exact kk _ _ _ _ _ _ _ _ _ _ _ _ _ _ _ _ _ _ _ _ _ _ _ _ _ _ _ _ (hI.up) _ _ _ hP hD hS (lv_sub hl [0, 1, 2, 3, 4] rfl)
    · exact False.elim (c394 rfl)
  · have hu1 := hk1 (fun q => hg.2 q.2)
    subst hu1
    obtain ⟨it2, PO2, SO2⟩ := u2_
    have hv8 := hk4 hg.1
    have hy0 : (xs (i + 3)).toInt.toNat = 0 := by have := hg.2; omega
    rw [hy0] at hv8
    have hv9 : isVol tt _ 0 PO SO PO2 SO2 := hv8.2
    have hi2 : it2 = tt := hv8.1
    rw [hi2] at hP hD
    have hP : va_P D vwCl [(xo, .inr (4, [.int (nI bn), .ref hp, .ref hi, .ref hh, .ref ht])), (hp, .inr (3, [.int (nI bn), .ref pz, .ref ps, .long (lN pt), .int (nI pn)])), (pz, aI cI 62 Z), (ps, aJ cJ 63 S), (hi, .inr (2, [.ref ia, .ref ib, .ref ic, .ref id, .int (nI gc), .int (nI tt)])), (ia, aJ cJ 512 P), (ib, aI cI 512 F), (ic, aI cI 512 C), (id, aI cI 512 O), (hh, .inr (1, [.ref ma, .ref va, .ref ka, .int (nI sa)])), (ma, aI cI 1024 Ma), (va, aI cI 1024 Va), (ka, aI cI 512 Ka), (ht, .inr (1, [.ref mb, .ref vb, .ref kb, .int (nI sb)])), (mb, aI cI 1024 Mb), (vb, aI cI 1024 Vb), (kb, aI cI 512 Kb), (xm, .inr (5, [.int (nI 0), .int (nI bn), .ref mh, .ref mi, .int (nI pl), .long (lN pt), .int (nI pn), .ref mz, .int (nI tt), .ref mp, .ref mo])), (mh, aI cI 65536 HH), (mi, aI cI 65536 IN), (mz, aI cI 62 ZZ), (mp, aJ cJ 4000 PO2), (mo, aI cI 4000 SO2), (ou, aJ cJ 1 ov)] H := hP
    have hD : va_D A [(xo, .inr (4, [.int (nI bn), .ref hp, .ref hi, .ref hh, .ref ht])), (hp, .inr (3, [.int (nI bn), .ref pz, .ref ps, .long (lN pt), .int (nI pn)])), (pz, aI cI 62 Z), (ps, aJ cJ 63 S), (hi, .inr (2, [.ref ia, .ref ib, .ref ic, .ref id, .int (nI gc), .int (nI tt)])), (ia, aJ cJ 512 P), (ib, aI cI 512 F), (ic, aI cI 512 C), (id, aI cI 512 O), (hh, .inr (1, [.ref ma, .ref va, .ref ka, .int (nI sa)])), (ma, aI cI 1024 Ma), (va, aI cI 1024 Va), (ka, aI cI 512 Ka), (ht, .inr (1, [.ref mb, .ref vb, .ref kb, .int (nI sb)])), (mb, aI cI 1024 Mb), (vb, aI cI 1024 Vb), (kb, aI cI 512 Kb), (xm, .inr (5, [.int (nI 0), .int (nI bn), .ref mh, .ref mi, .int (nI pl), .long (lN pt), .int (nI pn), .ref mz, .int (nI tt), .ref mp, .ref mo])), (mh, aI cI 65536 HH), (mi, aI cI 65536 IN), (mz, aI cI 62 ZZ), (mp, aJ cJ 4000 PO2), (mo, aI cI 4000 SO2), (ou, aJ cJ 1 ov)] := hD
    refine zq_eq (tgt := 636) hx hb dL_law_394 (by decide) (fun c394 => ?_) (fun c394 => ?_)
    · refine W.widen (k := cells + 1) (n := slots + 6) (by omega) (by omega) ?_
      exact kk _ _ _ _ _ _ _ _ _ _ _ _ _ _ _ _ _ _ _ _ _ _ _ _ _ _ _ _ (hI.vol0 hv9) _ _ _ hP hD hS (lv_sub hl [0, 1, 2, 3, 4] rfl)
    · exact False.elim (c394 rfl)
  · obtain ⟨kp, O2, hi5, hu1⟩ := hk2 hg
    subst hu1
    obtain ⟨it2, PO2, SO2⟩ := u2_
    have hv8 := hk4 hg.1
    have hv9 : isVol tt _ (xs (i + 3)).toInt.toNat PO SO PO2 SO2 := hv8.2
    have hi2 : it2 = tt + (xs (i + 3)).toInt.toNat := hv8.1
    rw [hi2] at hP hD
    have hvg := hg.1
    unfold volG at hvg
    have hy1 := hg.2
    have hP : va_P D vwCl [(xo, .inr (4, [.int (nI bn), .ref hp, .ref hi, .ref hh, .ref ht])), (hp, .inr (3, [.int (nI bn), .ref pz, .ref ps, .long (lN pt), .int (nI pn)])), (pz, aI cI 62 Z), (ps, aJ cJ 63 S), (hi, .inr (2, [.ref ia, .ref ib, .ref ic, .ref id, .int (nI (gc + 1)), .int (nI (tt + (xs (i + 3)).toInt.toNat))])), (ia, aJ cJ 512 (uF P gc (lgl (xs (i + 1)) (xs (i + 2))).toInt.toNat)), (ib, aI cI 512 (uF F gc tt)), (ic, aI cI 512 (uF C gc (xs (i + 3)).toInt.toNat)), (id, aI cI 512 O2), (hh, .inr (1, [.ref ma, .ref va, .ref ka, .int (nI sa)])), (ma, aI cI 1024 Ma), (va, aI cI 1024 Va), (ka, aI cI 512 Ka), (ht, .inr (1, [.ref mb, .ref vb, .ref kb, .int (nI sb)])), (mb, aI cI 1024 Mb), (vb, aI cI 1024 Vb), (kb, aI cI 512 Kb), (xm, .inr (5, [.int (nI 0), .int (nI bn), .ref mh, .ref mi, .int (nI pl), .long (lN pt), .int (nI pn), .ref mz, .int (nI (tt + (xs (i + 3)).toInt.toNat)), .ref mp, .ref mo])), (mh, aI cI 65536 HH), (mi, aI cI 65536 IN), (mz, aI cI 62 ZZ), (mp, aJ cJ 4000 PO2), (mo, aI cI 4000 SO2), (ou, aJ cJ 1 ov)] H := hP
    have hD : va_D A [(xo, .inr (4, [.int (nI bn), .ref hp, .ref hi, .ref hh, .ref ht])), (hp, .inr (3, [.int (nI bn), .ref pz, .ref ps, .long (lN pt), .int (nI pn)])), (pz, aI cI 62 Z), (ps, aJ cJ 63 S), (hi, .inr (2, [.ref ia, .ref ib, .ref ic, .ref id, .int (nI (gc + 1)), .int (nI (tt + (xs (i + 3)).toInt.toNat))])), (ia, aJ cJ 512 (uF P gc (lgl (xs (i + 1)) (xs (i + 2))).toInt.toNat)), (ib, aI cI 512 (uF F gc tt)), (ic, aI cI 512 (uF C gc (xs (i + 3)).toInt.toNat)), (id, aI cI 512 O2), (hh, .inr (1, [.ref ma, .ref va, .ref ka, .int (nI sa)])), (ma, aI cI 1024 Ma), (va, aI cI 1024 Va), (ka, aI cI 512 Ka), (ht, .inr (1, [.ref mb, .ref vb, .ref kb, .int (nI sb)])), (mb, aI cI 1024 Mb), (vb, aI cI 1024 Vb), (kb, aI cI 512 Kb), (xm, .inr (5, [.int (nI 0), .int (nI bn), .ref mh, .ref mi, .int (nI pl), .long (lN pt), .int (nI pn), .ref mz, .int (nI (tt + (xs (i + 3)).toInt.toNat)), .ref mp, .ref mo])), (mh, aI cI 65536 HH), (mi, aI cI 65536 IN), (mz, aI cI 62 ZZ), (mp, aJ cJ 4000 PO2), (mo, aI cI 4000 SO2), (ou, aJ cJ 1 ov)] := hD
    refine zq_eq (tgt := 636) hx hb dL_law_394 (by decide) (fun c394 => ?_) (fun c394 => ?_)
    · refine W.widen (k := cells + 1) (n := slots + 6) (by omega) (by omega) ?_
      exact kk _ _ _ _ _ _ _ _ _ _ _ _ _ _ _ _ _ _ _ _ _ _ _ _ _ _ _ _ (hI.vol hn (by omega) (by omega) (by omega) hi5 hv9) _ _ _ hP hD hS (lv_sub hl [0, 1, 2, 3, 4] rfl)
    · exact False.elim (c394 rfl)
set_option maxHeartbeats 4000000 in
set_option maxRecDepth 100000 in
theorem law_c4 {p : Program} {l : Launch} {e : Env} {s : State} {m : MethodId} {args : Array Value} {below : List Frame} {meth : Method} {c : Code} {A : Nat → Prop} {Q : State → Prop} {bs L : Nat} {xs : Nat → Int32} {D : va_G} {cI cJ : ClassId} {xo hp hi hh ht pz ps ia ib ic id ma va ka mb vb kb xm mh mi mz mp mo ou : Nat} (hx : p.tables.exec = Jvm.exec) (hb : c.code = cL_law) (hml : c.maxLocals = 7) (hown : s.vm.findClass RL = some m.cls) (hts : ∀ w ∈ wsL_law, w.before args s = true) (hX : va_X bs L xs s s.heap) (hbl : bs < s.heap.size) (hbA : ¬ A bs) (hA : ∀ q, s.heap.size ≤ q → A q) (hK : va_K D vwCl [(cI, .int), (cJ, .long)] s)  {n bn th pl pt pn gc tt sa sb : Nat} {Z S ZZ P F C O Ma Va Ka fa Mb Vb Kb fb HH IN PO SO ov : Nat → Nat} (hI : INV n bn pt pn gc tt sa sb pl Z S ZZ P F C O Ma Va Ka fa Mb Vb Kb fb HH PO SO) (hn : n < 512) {i : Nat} (hi9 : i = 4 * n + 1) (hiL : i + 3 < L) (hL : L ≤ 2049) {cells slots : Nat} (hc0 : cells + 1 ≤ 601024) (hs0 : slots + 6 ≤ 7293000) {H : Heap} {locs : List Loc} {ls : Array Slot} (hP : va_P D vwCl [(xo, .inr (4, [.int (nI bn), .ref hp, .ref hi, .ref hh, .ref ht])), (hp, .inr (3, [.int (nI bn), .ref pz, .ref ps, .long (lN pt), .int (nI pn)])), (pz, aI cI 62 Z), (ps, aJ cJ 63 S), (hi, .inr (2, [.ref ia, .ref ib, .ref ic, .ref id, .int (nI gc), .int (nI tt)])), (ia, aJ cJ 512 P), (ib, aI cI 512 F), (ic, aI cI 512 C), (id, aI cI 512 O), (hh, .inr (1, [.ref ma, .ref va, .ref ka, .int (nI sa)])), (ma, aI cI 1024 Ma), (va, aI cI 1024 Va), (ka, aI cI 512 Ka), (ht, .inr (1, [.ref mb, .ref vb, .ref kb, .int (nI sb)])), (mb, aI cI 1024 Mb), (vb, aI cI 1024 Vb), (kb, aI cI 512 Kb), (xm, .inr (5, [.int (nI th), .int (nI bn), .ref mh, .ref mi, .int (nI pl), .long (lN pt), .int (nI pn), .ref mz, .int (nI tt), .ref mp, .ref mo])), (mh, aI cI 65536 HH), (mi, aI cI 65536 IN), (mz, aI cI 62 ZZ), (mp, aJ cJ 4000 PO), (mo, aI cI 4000 SO), (ou, aJ cJ 1 ov)] H) (hD : va_D A [(xo, .inr (4, [.int (nI bn), .ref hp, .ref hi, .ref hh, .ref ht])), (hp, .inr (3, [.int (nI bn), .ref pz, .ref ps, .long (lN pt), .int (nI pn)])), (pz, aI cI 62 Z), (ps, aJ cJ 63 S), (hi, .inr (2, [.ref ia, .ref ib, .ref ic, .ref id, .int (nI gc), .int (nI tt)])), (ia, aJ cJ 512 P), (ib, aI cI 512 F), (ic, aI cI 512 C), (id, aI cI 512 O), (hh, .inr (1, [.ref ma, .ref va, .ref ka, .int (nI sa)])), (ma, aI cI 1024 Ma), (va, aI cI 1024 Va), (ka, aI cI 512 Ka), (ht, .inr (1, [.ref mb, .ref vb, .ref kb, .int (nI sb)])), (mb, aI cI 1024 Mb), (vb, aI cI 1024 Vb), (kb, aI cI 512 Kb), (xm, .inr (5, [.int (nI th), .int (nI bn), .ref mh, .ref mi, .int (nI pl), .long (lN pt), .int (nI pn), .ref mz, .int (nI tt), .ref mp, .ref mo])), (mh, aI cI 65536 HH), (mi, aI cI 65536 IN), (mz, aI cI 62 ZZ), (mp, aJ cJ 4000 PO), (mo, aI cI 4000 SO), (ou, aJ cJ 1 ov)]) (hS : va_S A s.heap H locs) (hl : lv_has ls 7 [(4, .int (nI i)), (3, .ref ou), (2, .ref xm), (1, .ref xo), (0, .ref bs)])
    (kk : ∀ (th pl pt pn gc tt sa sb : Nat) (Z S ZZ P F C O Ma Va Ka fa Mb Vb Kb fb HH IN PO SO ov : Nat → Nat), INV (n + 1) bn pt pn gc tt sa sb pl Z S ZZ P F C O Ma Va Ka fa Mb Vb Kb fb HH PO SO → ∀ (H : Heap) (locs : List Loc) (ls : Array Slot), va_P D vwCl [(xo, .inr (4, [.int (nI bn), .ref hp, .ref hi, .ref hh, .ref ht])), (hp, .inr (3, [.int (nI bn), .ref pz, .ref ps, .long (lN pt), .int (nI pn)])), (pz, aI cI 62 Z), (ps, aJ cJ 63 S), (hi, .inr (2, [.ref ia, .ref ib, .ref ic, .ref id, .int (nI gc), .int (nI tt)])), (ia, aJ cJ 512 P), (ib, aI cI 512 F), (ic, aI cI 512 C), (id, aI cI 512 O), (hh, .inr (1, [.ref ma, .ref va, .ref ka, .int (nI sa)])), (ma, aI cI 1024 Ma), (va, aI cI 1024 Va), (ka, aI cI 512 Ka), (ht, .inr (1, [.ref mb, .ref vb, .ref kb, .int (nI sb)])), (mb, aI cI 1024 Mb), (vb, aI cI 1024 Vb), (kb, aI cI 512 Kb), (xm, .inr (5, [.int (nI th), .int (nI bn), .ref mh, .ref mi, .int (nI pl), .long (lN pt), .int (nI pn), .ref mz, .int (nI tt), .ref mp, .ref mo])), (mh, aI cI 65536 HH), (mi, aI cI 65536 IN), (mz, aI cI 62 ZZ), (mp, aJ cJ 4000 PO), (mo, aI cI 4000 SO), (ou, aJ cJ 1 ov)] H → va_D A [(xo, .inr (4, [.int (nI bn), .ref hp, .ref hi, .ref hh, .ref ht])), (hp, .inr (3, [.int (nI bn), .ref pz, .ref ps, .long (lN pt), .int (nI pn)])), (pz, aI cI 62 Z), (ps, aJ cJ 63 S), (hi, .inr (2, [.ref ia, .ref ib, .ref ic, .ref id, .int (nI gc), .int (nI tt)])), (ia, aJ cJ 512 P), (ib, aI cI 512 F), (ic, aI cI 512 C), (id, aI cI 512 O), (hh, .inr (1, [.ref ma, .ref va, .ref ka, .int (nI sa)])), (ma, aI cI 1024 Ma), (va, aI cI 1024 Va), (ka, aI cI 512 Ka), (ht, .inr (1, [.ref mb, .ref vb, .ref kb, .int (nI sb)])), (mb, aI cI 1024 Mb), (vb, aI cI 1024 Vb), (kb, aI cI 512 Kb), (xm, .inr (5, [.int (nI th), .int (nI bn), .ref mh, .ref mi, .int (nI pl), .long (lN pt), .int (nI pn), .ref mz, .int (nI tt), .ref mp, .ref mo])), (mh, aI cI 65536 HH), (mi, aI cI 65536 IN), (mz, aI cI 62 ZZ), (mp, aJ cJ 4000 PO), (mo, aI cI 4000 SO), (ou, aJ cJ 1 ov)] → va_S A s.heap H locs → lv_has ls 7 [(4, .int (nI i)), (3, .ref ou), (2, .ref xm), (1, .ref xo), (0, .ref bs)] → W p l e room_1 s m args below meth c H locs (cells + 1) (slots + 6) Q (F0 m 636 ls [])) : W p l e room_1 s m args below meth c H locs cells slots Q (F0 m 399 ls []) := by
  have hcc : cells ≤ room_1.cells := by show cells ≤ 601024; omega
  have hss : slots ≤ room_1.slots := by show slots ≤ 7293000; omega
  have hpl := hI.1.2.1
  have hpq := hI.1.2.2.2
  have hbn := hI.1.1
  have hplM := xPlan_congr hpl hI.1.2.2.1
  have hit := hI.2.1.1
  have hord := hI.2.1.2.1
  have hgcn := hI.2.1.2.2.2.2.2
  have htab := hI.2.2.1.1
  have hfa := hI.2.2.1.2.1
  have hHH := hI.2.2.1.2.2.1
  have hsan := hI.2.2.1.2.2.2
  have htt := hit.2.1
  have hpt := hpl.1
  have hpn := hpl.2.1
  refine lv_aload_n hx hb dL_law_399 rfl (lv_at hl 3 rfl) ?_
  refine lv_aload_n hx hb dL_law_400 rfl (lv_at hl 4 rfl) ?_
  refine lv_iload hx hb dL_law_401 (lv_at hl 0 rfl) ?_
  refine lv_iconst (v := nI 1) hx hb dL_law_403 (by decide) ?_
  refine zi_add hx hb dL_law_404  ?_
  refine zs_ld hx hb hX hbl hbA hS (k := i + 1) (by omega) (by omega) dL_law_405 ?_
  refine lv_aload_n hx hb dL_law_406 rfl (lv_at hl 4 rfl) ?_
  refine lv_iload hx hb dL_law_407 (lv_at hl 0 rfl) ?_
  refine lv_iconst (v := nI 2) hx hb dL_law_409 (by decide) ?_
  refine zi_add hx hb dL_law_410  ?_
  refine zs_ld hx hb hX hbl hbA hS (k := i + 2) (by omega) (by omega) dL_law_411 ?_
  refine WR_i.callV (rest := []) (wr := [(hp, .inr (3, [.int (nI bn), .ref pz, .ref ps, .long (lN pt), .int (nI pn)])), (pz, aI cI 62 Z), (ps, aJ cJ 63 S), (hi, .inr (2, [.ref ia, .ref ib, .ref ic, .ref id, .int (nI gc), .int (nI tt)])), (ia, aJ cJ 512 P), (ib, aI cI 512 F), (ic, aI cI 512 C), (id, aI cI 512 O), (ht, .inr (1, [.ref mb, .ref vb, .ref kb, .int (nI sb)])), (mb, aI cI 1024 Mb), (vb, aI cI 1024 Vb), (kb, aI cI 512 Kb), (xm, .inr (5, [.int (nI th), .int (nI bn), .ref mh, .ref mi, .int (nI pl), .long (lN pt), .int (nI pn), .ref mz, .int (nI tt), .ref mp, .ref mo])), (mh, aI cI 65536 HH), (mi, aI cI 65536 IN), (mz, aI cI 62 ZZ), (mp, aJ cJ 4000 PO), (mo, aI cI 4000 SO), (ou, aJ cJ 1 ov)]) (c_X4_height l D cI cJ xo hp hi hh ht bn ma va ka sa Ma Va Ka fa (xs (i + 1)) (xs (i + 2)) htab (by omega) hfa hbn) ⟨hx, hb, hml, hown, hts⟩ (cwV 2 hts gL_law_X4_height rfl rfl rfl (by decide +kernel) ⟨Nat.le_of_ble_eq_true rfl, Nat.le_of_ble_eq_true rfl⟩) hK hP hD hS hA [0, 9, 10, 11, 12] [1, 2, 3, 4, 5, 6, 7, 8, 13, 14, 15, 16, 17, 18, 19, 20, 21, 22, 23] [0, 1] rfl rfl (by decide) (by decide) (by decide) rfl 0 4 rfl rfl rfl rfl hl.1 rfl (Nat.le_of_ble_eq_true rfl) dL_law_412 ⟨hcc, hss⟩ (fun v1_ u1_ H locs e1_ hP hD hS => ?_)
  obtain ⟨sa2, Ma2, Va2, Ka2⟩ := u1_
  obtain ⟨rfl, hu2, hu3⟩ := e1_
  have hP := hP.sub (ws' := [(xo, .inr (4, [.int (nI bn), .ref hp, .ref hi, .ref hh, .ref ht])), (hp, .inr (3, [.int (nI bn), .ref pz, .ref ps, .long (lN pt), .int (nI pn)])), (pz, aI cI 62 Z), (ps, aJ cJ 63 S), (hi, .inr (2, [.ref ia, .ref ib, .ref ic, .ref id, .int (nI gc), .int (nI tt)])), (ia, aJ cJ 512 P), (ib, aI cI 512 F), (ic, aI cI 512 C), (id, aI cI 512 O), (hh, .inr (1, [.ref ma, .ref va, .ref ka, .int (nI sa2)])), (ma, aI cI 1024 Ma2), (va, aI cI 1024 Va2), (ka, aI cI 512 Ka2), (ht, .inr (1, [.ref mb, .ref vb, .ref kb, .int (nI sb)])), (mb, aI cI 1024 Mb), (vb, aI cI 1024 Vb), (kb, aI cI 512 Kb), (xm, .inr (5, [.int (nI th), .int (nI bn), .ref mh, .ref mi, .int (nI pl), .long (lN pt), .int (nI pn), .ref mz, .int (nI tt), .ref mp, .ref mo])), (mh, aI cI 65536 HH), (mi, aI cI 65536 IN), (mz, aI cI 62 ZZ), (mp, aJ cJ 4000 PO), (mo, aI cI 4000 SO), (ou, aJ cJ 1 ov)]) [19, 0, 1, 2, 3, 4, 5, 6, 7, 20, 21, 22, 23, 8, 9, 10, 11, 12, 13, 14, 15, 16, 17, 18] rfl
  have hD := hD.sub (ws' := [(xo, .inr (4, [.int (nI bn), .ref hp, .ref hi, .ref hh, .ref ht])), (hp, .inr (3, [.int (nI bn), .ref pz, .ref ps, .long (lN pt), .int (nI pn)])), (pz, aI cI 62 Z), (ps, aJ cJ 63 S), (hi, .inr (2, [.ref ia, .ref ib, .ref ic, .ref id, .int (nI gc), .int (nI tt)])), (ia, aJ cJ 512 P), (ib, aI cI 512 F), (ic, aI cI 512 C), (id, aI cI 512 O), (hh, .inr (1, [.ref ma, .ref va, .ref ka, .int (nI sa2)])), (ma, aI cI 1024 Ma2), (va, aI cI 1024 Va2), (ka, aI cI 512 Ka2), (ht, .inr (1, [.ref mb, .ref vb, .ref kb, .int (nI sb)])), (mb, aI cI 1024 Mb), (vb, aI cI 1024 Vb), (kb, aI cI 512 Kb), (xm, .inr (5, [.int (nI th), .int (nI bn), .ref mh, .ref mi, .int (nI pl), .long (lN pt), .int (nI pn), .ref mz, .int (nI tt), .ref mp, .ref mo])), (mh, aI cI 65536 HH), (mi, aI cI 65536 IN), (mz, aI cI 62 ZZ), (mp, aJ cJ 4000 PO), (mo, aI cI 4000 SO), (ou, aJ cJ 1 ov)]) [19, 0, 1, 2, 3, 4, 5, 6, 7, 20, 21, 22, 23, 8, 9, 10, 11, 12, 13, 14, 15, 16, 17, 18] (by decide) rfl
  refine lv_aload_n hx hb dL_law_415 rfl (lv_at hl 2 rfl) ?_
  refine lv_aload_n hx hb dL_law_416 rfl (lv_at hl 4 rfl) ?_
  refine lv_iload hx hb dL_law_417 (lv_at hl 0 rfl) ?_
  refine lv_iconst (v := nI 1) hx hb dL_law_419 (by decide) ?_
  refine zi_add hx hb dL_law_420  ?_
  refine zs_ld hx hb hX hbl hbA hS (k := i + 1) (by omega) (by omega) dL_law_421 ?_
  refine lv_aload_n hx hb dL_law_422 rfl (lv_at hl 4 rfl) ?_
  refine lv_iload hx hb dL_law_423 (lv_at hl 0 rfl) ?_
  refine lv_iconst (v := nI 2) hx hb dL_law_425 (by decide) ?_
  refine zi_add hx hb dL_law_426  ?_
  refine zs_ld hx hb hX hbl hbA hS (k := i + 2) (by omega) (by omega) dL_law_427 ?_
  refine WR_i.callV (rest := [.int (heiC bn fa (xs (i + 1)) (xs (i + 2)))]) (wr := [(xo, .inr (4, [.int (nI bn), .ref hp, .ref hi, .ref hh, .ref ht])), (hp, .inr (3, [.int (nI bn), .ref pz, .ref ps, .long (lN pt), .int (nI pn)])), (pz, aI cI 62 Z), (ps, aJ cJ 63 S), (hi, .inr (2, [.ref ia, .ref ib, .ref ic, .ref id, .int (nI gc), .int (nI tt)])), (ia, aJ cJ 512 P), (ib, aI cI 512 F), (ic, aI cI 512 C), (id, aI cI 512 O), (hh, .inr (1, [.ref ma, .ref va, .ref ka, .int (nI sa2)])), (ma, aI cI 1024 Ma2), (va, aI cI 1024 Va2), (ka, aI cI 512 Ka2), (ht, .inr (1, [.ref mb, .ref vb, .ref kb, .int (nI sb)])), (mb, aI cI 1024 Mb), (vb, aI cI 1024 Vb), (kb, aI cI 512 Kb), (ou, aJ cJ 1 ov)]) (c_X5_height l D cI cJ xm mh mi mz mp mo th bn pl pt pn tt HH IN ZZ PO SO fa (xs (i + 1)) (xs (i + 2)) hbn hHH) ⟨hx, hb, hml, hown, hts⟩ (cwV 2 hts gL_law_X5_height rfl rfl rfl (by decide +kernel) ⟨Nat.le_of_ble_eq_true rfl, Nat.le_of_ble_eq_true rfl⟩) hK hP hD hS hA [17, 18, 19, 20, 21, 22] [0, 1, 2, 3, 4, 5, 6, 7, 8, 9, 10, 11, 12, 13, 14, 15, 16, 23] [0, 1] rfl rfl (by decide) (by decide) (by decide) rfl 17 5 rfl rfl rfl rfl hl.1 rfl (Nat.le_of_ble_eq_true rfl) dL_law_428 ⟨hcc, hss⟩ (fun v2_ u2_ H locs e2_ hP hD hS => ?_)
  obtain ⟨HH2, rfl⟩ : ∃ z, z = u2_ := ⟨_, rfl⟩
  obtain ⟨rfl, hu4⟩ := e2_
  have hP := hP.sub (ws' := [(xo, .inr (4, [.int (nI bn), .ref hp, .ref hi, .ref hh, .ref ht])), (hp, .inr (3, [.int (nI bn), .ref pz, .ref ps, .long (lN pt), .int (nI pn)])), (pz, aI cI 62 Z), (ps, aJ cJ 63 S), (hi, .inr (2, [.ref ia, .ref ib, .ref ic, .ref id, .int (nI gc), .int (nI tt)])), (ia, aJ cJ 512 P), (ib, aI cI 512 F), (ic, aI cI 512 C), (id, aI cI 512 O), (hh, .inr (1, [.ref ma, .ref va, .ref ka, .int (nI sa2)])), (ma, aI cI 1024 Ma2), (va, aI cI 1024 Va2), (ka, aI cI 512 Ka2), (ht, .inr (1, [.ref mb, .ref vb, .ref kb, .int (nI sb)])), (mb, aI cI 1024 Mb), (vb, aI cI 1024 Vb), (kb, aI cI 512 Kb), (xm, .inr (5, [.int (nI 0), .int (nI bn), .ref mh, .ref mi, .int (nI pl), .long (lN pt), .int (nI pn), .ref mz, .int (nI tt), .ref mp, .ref mo])), (mh, aI cI 65536 HH2), (mi, aI cI 65536 IN), (mz, aI cI 62 ZZ), (mp, aJ cJ 4000 PO), (mo, aI cI 4000 SO), (ou, aJ cJ 1 ov)]) [0, 1, 2, 3, 4, 5, 6, 7, 8, 9, 10, 11, 12, 13, 14, 15, 16, 18, 19, 20, 21, 22, 23, 17] rfl
  have hD := hD.sub (ws' := [(xo, .inr (4, [.int (nI bn), .ref hp, .ref hi, .ref hh, .ref ht])), (hp, .inr (3, [.int (nI bn), .ref pz, .ref ps, .long (lN pt), .int (nI pn)])), (pz, aI cI 62 Z), (ps, aJ cJ 63 S), (hi, .inr (2, [.ref ia, .ref ib, .ref ic, .ref id, .int (nI gc), .int (nI tt)])), (ia, aJ cJ 512 P), (ib, aI cI 512 F), (ic, aI cI 512 C), (id, aI cI 512 O), (hh, .inr (1, [.ref ma, .ref va, .ref ka, .int (nI sa2)])), (ma, aI cI 1024 Ma2), (va, aI cI 1024 Va2), (ka, aI cI 512 Ka2), (ht, .inr (1, [.ref mb, .ref vb, .ref kb, .int (nI sb)])), (mb, aI cI 1024 Mb), (vb, aI cI 1024 Vb), (kb, aI cI 512 Kb), (xm, .inr (5, [.int (nI 0), .int (nI bn), .ref mh, .ref mi, .int (nI pl), .long (lN pt), .int (nI pn), .ref mz, .int (nI tt), .ref mp, .ref mo])), (mh, aI cI 65536 HH2), (mi, aI cI 65536 IN), (mz, aI cI 62 ZZ), (mp, aJ cJ 4000 PO), (mo, aI cI 4000 SO), (ou, aJ cJ 1 ov)]) [0, 1, 2, 3, 4, 5, 6, 7, 8, 9, 10, 11, 12, 13, 14, 15, 16, 18, 19, 20, 21, 22, 23, 17] (by decide) rfl
  refine zq_eq (tgt := 636) hx hb dL_law_431 (by decide) (fun c431 => ?_) (fun c431 => ?_)
  · refine W.widen (k := cells + 1) (n := slots + 6) (by omega) (by omega) ?_
    exact kk _ _ _ _ _ _ _ _ _ _ _ _ _ _ _ _ _ _ _ _ _ _ _ _ _ _ _ _ (hI.hei (fa2 := heiF bn fa (xs (i + 1)) (xs (i + 2))) hu2 hu3 (heiF_le hfa) hu4) _ _ _ hP hD hS (lv_sub hl [0, 1, 2, 3, 4] rfl)
  · exact False.elim (c431 rfl)
set_option maxHeartbeats 4000000 in
set_option maxRecDepth 100000 in
theorem law_c5 {p : Program} {l : Launch} {e : Env} {s : State} {m : MethodId} {args : Array Value} {below : List Frame} {meth : Method} {c : Code} {A : Nat → Prop} {Q : State → Prop} {bs L : Nat} {xs : Nat → Int32} {D : va_G} {cI cJ : ClassId} {xo hp hi hh ht pz ps ia ib ic id ma va ka mb vb kb xm mh mi mz mp mo ou : Nat} (hx : p.tables.exec = Jvm.exec) (hb : c.code = cL_law) (hml : c.maxLocals = 7) (hown : s.vm.findClass RL = some m.cls) (hts : ∀ w ∈ wsL_law, w.before args s = true) (hX : va_X bs L xs s s.heap) (hbl : bs < s.heap.size) (hbA : ¬ A bs) (hA : ∀ q, s.heap.size ≤ q → A q) (hK : va_K D vwCl [(cI, .int), (cJ, .long)] s)  {n bn th pl pt pn gc tt sa sb : Nat} {Z S ZZ P F C O Ma Va Ka fa Mb Vb Kb fb HH IN PO SO ov : Nat → Nat} (hI : INV n bn pt pn gc tt sa sb pl Z S ZZ P F C O Ma Va Ka fa Mb Vb Kb fb HH PO SO) (hn : n < 512) {i : Nat} (hi9 : i = 4 * n + 1) (hiL : i + 3 < L) (hL : L ≤ 2049) {cells slots : Nat} (hc0 : cells + 1 ≤ 601024) (hs0 : slots + 6 ≤ 7293000) {H : Heap} {locs : List Loc} {ls : Array Slot} (hP : va_P D vwCl [(xo, .inr (4, [.int (nI bn), .ref hp, .ref hi, .ref hh, .ref ht])), (hp, .inr (3, [.int (nI bn), .ref pz, .ref ps, .long (lN pt), .int (nI pn)])), (pz, aI cI 62 Z), (ps, aJ cJ 63 S), (hi, .inr (2, [.ref ia, .ref ib, .ref ic, .ref id, .int (nI gc), .int (nI tt)])), (ia, aJ cJ 512 P), (ib, aI cI 512 F), (ic, aI cI 512 C), (id, aI cI 512 O), (hh, .inr (1, [.ref ma, .ref va, .ref ka, .int (nI sa)])), (ma, aI cI 1024 Ma), (va, aI cI 1024 Va), (ka, aI cI 512 Ka), (ht, .inr (1, [.ref mb, .ref vb, .ref kb, .int (nI sb)])), (mb, aI cI 1024 Mb), (vb, aI cI 1024 Vb), (kb, aI cI 512 Kb), (xm, .inr (5, [.int (nI th), .int (nI bn), .ref mh, .ref mi, .int (nI pl), .long (lN pt), .int (nI pn), .ref mz, .int (nI tt), .ref mp, .ref mo])), (mh, aI cI 65536 HH), (mi, aI cI 65536 IN), (mz, aI cI 62 ZZ), (mp, aJ cJ 4000 PO), (mo, aI cI 4000 SO), (ou, aJ cJ 1 ov)] H) (hD : va_D A [(xo, .inr (4, [.int (nI bn), .ref hp, .ref hi, .ref hh, .ref ht])), (hp, .inr (3, [.int (nI bn), .ref pz, .ref ps, .long (lN pt), .int (nI pn)])), (pz, aI cI 62 Z), (ps, aJ cJ 63 S), (hi, .inr (2, [.ref ia, .ref ib, .ref ic, .ref id, .int (nI gc), .int (nI tt)])), (ia, aJ cJ 512 P), (ib, aI cI 512 F), (ic, aI cI 512 C), (id, aI cI 512 O), (hh, .inr (1, [.ref ma, .ref va, .ref ka, .int (nI sa)])), (ma, aI cI 1024 Ma), (va, aI cI 1024 Va), (ka, aI cI 512 Ka), (ht, .inr (1, [.ref mb, .ref vb, .ref kb, .int (nI sb)])), (mb, aI cI 1024 Mb), (vb, aI cI 1024 Vb), (kb, aI cI 512 Kb), (xm, .inr (5, [.int (nI th), .int (nI bn), .ref mh, .ref mi, .int (nI pl), .long (lN pt), .int (nI pn), .ref mz, .int (nI tt), .ref mp, .ref mo])), (mh, aI cI 65536 HH), (mi, aI cI 65536 IN), (mz, aI cI 62 ZZ), (mp, aJ cJ 4000 PO), (mo, aI cI 4000 SO), (ou, aJ cJ 1 ov)]) (hS : va_S A s.heap H locs) (hl : lv_has ls 7 [(4, .int (nI i)), (3, .ref ou), (2, .ref xm), (1, .ref xo), (0, .ref bs)])
    (kk : ∀ (th pl pt pn gc tt sa sb : Nat) (Z S ZZ P F C O Ma Va Ka fa Mb Vb Kb fb HH IN PO SO ov : Nat → Nat), INV (n + 1) bn pt pn gc tt sa sb pl Z S ZZ P F C O Ma Va Ka fa Mb Vb Kb fb HH PO SO → ∀ (H : Heap) (locs : List Loc) (ls : Array Slot), va_P D vwCl [(xo, .inr (4, [.int (nI bn), .ref hp, .ref hi, .ref hh, .ref ht])), (hp, .inr (3, [.int (nI bn), .ref pz, .ref ps, .long (lN pt), .int (nI pn)])), (pz, aI cI 62 Z), (ps, aJ cJ 63 S), (hi, .inr (2, [.ref ia, .ref ib, .ref ic, .ref id, .int (nI gc), .int (nI tt)])), (ia, aJ cJ 512 P), (ib, aI cI 512 F), (ic, aI cI 512 C), (id, aI cI 512 O), (hh, .inr (1, [.ref ma, .ref va, .ref ka, .int (nI sa)])), (ma, aI cI 1024 Ma), (va, aI cI 1024 Va), (ka, aI cI 512 Ka), (ht, .inr (1, [.ref mb, .ref vb, .ref kb, .int (nI sb)])), (mb, aI cI 1024 Mb), (vb, aI cI 1024 Vb), (kb, aI cI 512 Kb), (xm, .inr (5, [.int (nI th), .int (nI bn), .ref mh, .ref mi, .int (nI pl), .long (lN pt), .int (nI pn), .ref mz, .int (nI tt), .ref mp, .ref mo])), (mh, aI cI 65536 HH), (mi, aI cI 65536 IN), (mz, aI cI 62 ZZ), (mp, aJ cJ 4000 PO), (mo, aI cI 4000 SO), (ou, aJ cJ 1 ov)] H → va_D A [(xo, .inr (4, [.int (nI bn), .ref hp, .ref hi, .ref hh, .ref ht])), (hp, .inr (3, [.int (nI bn), .ref pz, .ref ps, .long (lN pt), .int (nI pn)])), (pz, aI cI 62 Z), (ps, aJ cJ 63 S), (hi, .inr (2, [.ref ia, .ref ib, .ref ic, .ref id, .int (nI gc), .int (nI tt)])), (ia, aJ cJ 512 P), (ib, aI cI 512 F), (ic, aI cI 512 C), (id, aI cI 512 O), (hh, .inr (1, [.ref ma, .ref va, .ref ka, .int (nI sa)])), (ma, aI cI 1024 Ma), (va, aI cI 1024 Va), (ka, aI cI 512 Ka), (ht, .inr (1, [.ref mb, .ref vb, .ref kb, .int (nI sb)])), (mb, aI cI 1024 Mb), (vb, aI cI 1024 Vb), (kb, aI cI 512 Kb), (xm, .inr (5, [.int (nI th), .int (nI bn), .ref mh, .ref mi, .int (nI pl), .long (lN pt), .int (nI pn), .ref mz, .int (nI tt), .ref mp, .ref mo])), (mh, aI cI 65536 HH), (mi, aI cI 65536 IN), (mz, aI cI 62 ZZ), (mp, aJ cJ 4000 PO), (mo, aI cI 4000 SO), (ou, aJ cJ 1 ov)] → va_S A s.heap H locs → lv_has ls 7 [(4, .int (nI i)), (3, .ref ou), (2, .ref xm), (1, .ref xo), (0, .ref bs)] → W p l e room_1 s m args below meth c H locs (cells + 1) (slots + 6) Q (F0 m 636 ls [])) : W p l e room_1 s m args below meth c H locs cells slots Q (F0 m 436 ls []) := by
  have hcc : cells ≤ room_1.cells := by show cells ≤ 601024; omega
  have hss : slots ≤ room_1.slots := by show slots ≤ 7293000; omega
  have hpl := hI.1.2.1
  have hpq := hI.1.2.2.2
  have hbn := hI.1.1
  have hplM := xPlan_congr hpl hI.1.2.2.1
  have hit := hI.2.1.1
  have hord := hI.2.1.2.1
  have hgcn := hI.2.1.2.2.2.2.2
  have htab := hI.2.2.1.1
  have hfa := hI.2.2.1.2.1
  have hHH := hI.2.2.1.2.2.1
  have hsan := hI.2.2.1.2.2.2
  have htt := hit.2.1
  have hpt := hpl.1
  have hpn := hpl.2.1
  refine lv_aload_n hx hb dL_law_436 rfl (lv_at hl 3 rfl) ?_
  refine WR_i.callV (rest := []) (wr := [(xm, .inr (5, [.int (nI th), .int (nI bn), .ref mh, .ref mi, .int (nI pl), .long (lN pt), .int (nI pn), .ref mz, .int (nI tt), .ref mp, .ref mo])), (mh, aI cI 65536 HH), (mi, aI cI 65536 IN), (mz, aI cI 62 ZZ), (mp, aJ cJ 4000 PO), (mo, aI cI 4000 SO), (ou, aJ cJ 1 ov)]) (c_X4_trays l D cI cJ xo hp hi hh ht bn pz ps pt pn Z S ia ib ic id gc tt P F C O ma va ka sa Ma Va Ka fa mb vb kb sb Mb Vb Kb fb hpl hit hI.2.1.2.2.1 htab (by omega) hfa hI.2.2.2.1 hI.2.2.2.2) ⟨hx, hb, hml, hown, hts⟩ (cwV 0 hts gL_law_X4_trays rfl rfl rfl (by decide +kernel) ⟨Nat.le_of_ble_eq_true rfl, Nat.le_of_ble_eq_true rfl⟩) hK hP hD hS hA [0, 1, 2, 3, 4, 5, 6, 7, 8, 9, 10, 11, 12, 13, 14, 15, 16] [17, 18, 19, 20, 21, 22, 23] [0, 1] rfl rfl (by decide) (by decide) (by decide) rfl 0 4 rfl rfl rfl rfl hl.1 rfl (Nat.le_of_ble_eq_true rfl) dL_law_437 ⟨hcc, hss⟩ (fun v1_ u1_ H locs e1_ hP hD hS => ?_)
  obtain ⟨sb2, Mb2, Vb2, Kb2⟩ := u1_
  obtain ⟨hq1, ⟨fb2, hu4⟩, hu3⟩ := e1_
  have hu2 : True ∧ tab Mb2 Vb2 Kb2 sb2 fb2 := ⟨trivial, hu4⟩
  have hP := hP.sub (ws' := [(xo, .inr (4, [.int (nI bn), .ref hp, .ref hi, .ref hh, .ref ht])), (hp, .inr (3, [.int (nI bn), .ref pz, .ref ps, .long (lN pt), .int (nI pn)])), (pz, aI cI 62 Z), (ps, aJ cJ 63 S), (hi, .inr (2, [.ref ia, .ref ib, .ref ic, .ref id, .int (nI gc), .int (nI tt)])), (ia, aJ cJ 512 P), (ib, aI cI 512 F), (ic, aI cI 512 C), (id, aI cI 512 O), (hh, .inr (1, [.ref ma, .ref va, .ref ka, .int (nI sa)])), (ma, aI cI 1024 Ma), (va, aI cI 1024 Va), (ka, aI cI 512 Ka), (ht, .inr (1, [.ref mb, .ref vb, .ref kb, .int (nI sb2)])), (mb, aI cI 1024 Mb2), (vb, aI cI 1024 Vb2), (kb, aI cI 512 Kb2), (xm, .inr (5, [.int (nI th), .int (nI bn), .ref mh, .ref mi, .int (nI pl), .long (lN pt), .int (nI pn), .ref mz, .int (nI tt), .ref mp, .ref mo])), (mh, aI cI 65536 HH), (mi, aI cI 65536 IN), (mz, aI cI 62 ZZ), (mp, aJ cJ 4000 PO), (mo, aI cI 4000 SO), (ou, aJ cJ 1 ov)]) [7, 8, 9, 10, 11, 12, 13, 14, 15, 16, 17, 18, 19, 20, 21, 22, 23, 0, 1, 2, 3, 4, 5, 6] rfl
  have hD := hD.sub (ws' := [(xo, .inr (4, [.int (nI bn), .ref hp, .ref hi, .ref hh, .ref ht])), (hp, .inr (3, [.int (nI bn), .ref pz, .ref ps, .long (lN pt), .int (nI pn)])), (pz, aI cI 62 Z), (ps, aJ cJ 63 S), (hi, .inr (2, [.ref ia, .ref ib, .ref ic, .ref id, .int (nI gc), .int (nI tt)])), (ia, aJ cJ 512 P), (ib, aI cI 512 F), (ic, aI cI 512 C), (id, aI cI 512 O), (hh, .inr (1, [.ref ma, .ref va, .ref ka, .int (nI sa)])), (ma, aI cI 1024 Ma), (va, aI cI 1024 Va), (ka, aI cI 512 Ka), (ht, .inr (1, [.ref mb, .ref vb, .ref kb, .int (nI sb2)])), (mb, aI cI 1024 Mb2), (vb, aI cI 1024 Vb2), (kb, aI cI 512 Kb2), (xm, .inr (5, [.int (nI th), .int (nI bn), .ref mh, .ref mi, .int (nI pl), .long (lN pt), .int (nI pn), .ref mz, .int (nI tt), .ref mp, .ref mo])), (mh, aI cI 65536 HH), (mi, aI cI 65536 IN), (mz, aI cI 62 ZZ), (mp, aJ cJ 4000 PO), (mo, aI cI 4000 SO), (ou, aJ cJ 1 ov)]) [7, 8, 9, 10, 11, 12, 13, 14, 15, 16, 17, 18, 19, 20, 21, 22, 23, 0, 1, 2, 3, 4, 5, 6] (by decide) rfl
  refine lv_aload_n hx hb dL_law_440 rfl (lv_at hl 2 rfl) ?_
  refine WR_i.callV (rest := [.int v1_]) (wr := [(xo, .inr (4, [.int (nI bn), .ref hp, .ref hi, .ref hh, .ref ht])), (hp, .inr (3, [.int (nI bn), .ref pz, .ref ps, .long (lN pt), .int (nI pn)])), (pz, aI cI 62 Z), (ps, aJ cJ 63 S), (hi, .inr (2, [.ref ia, .ref ib, .ref ic, .ref id, .int (nI gc), .int (nI tt)])), (ia, aJ cJ 512 P), (ib, aI cI 512 F), (ic, aI cI 512 C), (id, aI cI 512 O), (hh, .inr (1, [.ref ma, .ref va, .ref ka, .int (nI sa)])), (ma, aI cI 1024 Ma), (va, aI cI 1024 Va), (ka, aI cI 512 Ka), (ht, .inr (1, [.ref mb, .ref vb, .ref kb, .int (nI sb2)])), (mb, aI cI 1024 Mb2), (vb, aI cI 1024 Vb2), (kb, aI cI 512 Kb2), (ou, aJ cJ 1 ov)]) (c_X5_trays l D cI cJ xm mh mi mz mp mo th bn pl pt pn tt HH IN ZZ PO SO S hpq hplM htt hI.hPO (fun b hb9 => by rw [hHH b hb9]; exact hOf_le hfa b)) ⟨hx, hb, hml, hown, hts⟩ (cwV 0 hts gL_law_X5_trays rfl rfl rfl (by decide +kernel) ⟨Nat.le_of_ble_eq_true rfl, Nat.le_of_ble_eq_true rfl⟩) hK hP hD hS hA [17, 18, 19, 20, 21, 22] [0, 1, 2, 3, 4, 5, 6, 7, 8, 9, 10, 11, 12, 13, 14, 15, 16, 23] [0, 1] rfl rfl (by decide) (by decide) (by decide) rfl 17 5 rfl rfl rfl rfl hl.1 rfl (Nat.le_of_ble_eq_true rfl) dL_law_441 ⟨hcc, hss⟩ (fun v2_ u2_ H locs e2_ hP hD hS => ?_)
  obtain ⟨IN2, rfl⟩ : ∃ z, z = u2_ := ⟨_, rfl⟩
  obtain rfl : v1_ = v2_ := by
      rw [hq1, show v2_ = _ from e2_]
      by_cases h0 : pt = 0
      · rw [if_pos h0, if_pos h0]
      · rw [if_neg h0, if_neg h0, hI.trays (by omega)]
  have hP := hP.sub (ws' := [(xo, .inr (4, [.int (nI bn), .ref hp, .ref hi, .ref hh, .ref ht])), (hp, .inr (3, [.int (nI bn), .ref pz, .ref ps, .long (lN pt), .int (nI pn)])), (pz, aI cI 62 Z), (ps, aJ cJ 63 S), (hi, .inr (2, [.ref ia, .ref ib, .ref ic, .ref id, .int (nI gc), .int (nI tt)])), (ia, aJ cJ 512 P), (ib, aI cI 512 F), (ic, aI cI 512 C), (id, aI cI 512 O), (hh, .inr (1, [.ref ma, .ref va, .ref ka, .int (nI sa)])), (ma, aI cI 1024 Ma), (va, aI cI 1024 Va), (ka, aI cI 512 Ka), (ht, .inr (1, [.ref mb, .ref vb, .ref kb, .int (nI sb2)])), (mb, aI cI 1024 Mb2), (vb, aI cI 1024 Vb2), (kb, aI cI 512 Kb2), (xm, .inr (5, [.int (nI 0), .int (nI bn), .ref mh, .ref mi, .int (nI pl), .long (lN pt), .int (nI pn), .ref mz, .int (nI tt), .ref mp, .ref mo])), (mh, aI cI 65536 HH), (mi, aI cI 65536 IN2), (mz, aI cI 62 ZZ), (mp, aJ cJ 4000 PO), (mo, aI cI 4000 SO), (ou, aJ cJ 1 ov)]) [0, 1, 2, 3, 4, 5, 6, 7, 8, 9, 10, 11, 12, 13, 14, 15, 16, 18, 19, 20, 21, 22, 23, 17] rfl
  have hD := hD.sub (ws' := [(xo, .inr (4, [.int (nI bn), .ref hp, .ref hi, .ref hh, .ref ht])), (hp, .inr (3, [.int (nI bn), .ref pz, .ref ps, .long (lN pt), .int (nI pn)])), (pz, aI cI 62 Z), (ps, aJ cJ 63 S), (hi, .inr (2, [.ref ia, .ref ib, .ref ic, .ref id, .int (nI gc), .int (nI tt)])), (ia, aJ cJ 512 P), (ib, aI cI 512 F), (ic, aI cI 512 C), (id, aI cI 512 O), (hh, .inr (1, [.ref ma, .ref va, .ref ka, .int (nI sa)])), (ma, aI cI 1024 Ma), (va, aI cI 1024 Va), (ka, aI cI 512 Ka), (ht, .inr (1, [.ref mb, .ref vb, .ref kb, .int (nI sb2)])), (mb, aI cI 1024 Mb2), (vb, aI cI 1024 Vb2), (kb, aI cI 512 Kb2), (xm, .inr (5, [.int (nI 0), .int (nI bn), .ref mh, .ref mi, .int (nI pl), .long (lN pt), .int (nI pn), .ref mz, .int (nI tt), .ref mp, .ref mo])), (mh, aI cI 65536 HH), (mi, aI cI 65536 IN2), (mz, aI cI 62 ZZ), (mp, aJ cJ 4000 PO), (mo, aI cI 4000 SO), (ou, aJ cJ 1 ov)]) [0, 1, 2, 3, 4, 5, 6, 7, 8, 9, 10, 11, 12, 13, 14, 15, 16, 18, 19, 20, 21, 22, 23, 17] (by decide) rfl
  refine zq_eq (tgt := 636) hx hb dL_law_444 (by decide) (fun c444 => ?_) (fun c444 => ?_)
  · refine W.widen (k := cells + 1) (n := slots + 6) (by omega) (by omega) ?_
    exact kk _ _ _ _ _ _ _ _ _ _ _ _ _ _ _ _ _ _ _ _ _ _ _ _ _ _ _ _ (hI.tray hu2.2 hu3) _ _ _ hP hD hS (lv_sub hl [0, 1, 2, 3, 4] rfl)
  · exact False.elim (c444 rfl)
set_option maxHeartbeats 4000000 in
set_option maxRecDepth 100000 in
theorem law_c6 {p : Program} {l : Launch} {e : Env} {s : State} {m : MethodId} {args : Array Value} {below : List Frame} {meth : Method} {c : Code} {A : Nat → Prop} {Q : State → Prop} {bs L : Nat} {xs : Nat → Int32} {D : va_G} {cI cJ : ClassId} {xo hp hi hh ht pz ps ia ib ic id ma va ka mb vb kb xm mh mi mz mp mo ou : Nat} (hx : p.tables.exec = Jvm.exec) (hb : c.code = cL_law) (hml : c.maxLocals = 7) (hown : s.vm.findClass RL = some m.cls) (hts : ∀ w ∈ wsL_law, w.before args s = true) (hX : va_X bs L xs s s.heap) (hbl : bs < s.heap.size) (hbA : ¬ A bs) (hA : ∀ q, s.heap.size ≤ q → A q) (hK : va_K D vwCl [(cI, .int), (cJ, .long)] s)  {n bn th pl pt pn gc tt sa sb : Nat} {Z S ZZ P F C O Ma Va Ka fa Mb Vb Kb fb HH IN PO SO ov : Nat → Nat} (hI : INV n bn pt pn gc tt sa sb pl Z S ZZ P F C O Ma Va Ka fa Mb Vb Kb fb HH PO SO) (hn : n < 512) {i : Nat} (hi9 : i = 4 * n + 1) (hiL : i + 3 < L) (hL : L ≤ 2049) {cells slots : Nat} (hc0 : cells + 1 ≤ 601024) (hs0 : slots + 6 ≤ 7293000) {H : Heap} {locs : List Loc} {ls : Array Slot} (hP : va_P D vwCl [(xo, .inr (4, [.int (nI bn), .ref hp, .ref hi, .ref hh, .ref ht])), (hp, .inr (3, [.int (nI bn), .ref pz, .ref ps, .long (lN pt), .int (nI pn)])), (pz, aI cI 62 Z), (ps, aJ cJ 63 S), (hi, .inr (2, [.ref ia, .ref ib, .ref ic, .ref id, .int (nI gc), .int (nI tt)])), (ia, aJ cJ 512 P), (ib, aI cI 512 F), (ic, aI cI 512 C), (id, aI cI 512 O), (hh, .inr (1, [.ref ma, .ref va, .ref ka, .int (nI sa)])), (ma, aI cI 1024 Ma), (va, aI cI 1024 Va), (ka, aI cI 512 Ka), (ht, .inr (1, [.ref mb, .ref vb, .ref kb, .int (nI sb)])), (mb, aI cI 1024 Mb), (vb, aI cI 1024 Vb), (kb, aI cI 512 Kb), (xm, .inr (5, [.int (nI th), .int (nI bn), .ref mh, .ref mi, .int (nI pl), .long (lN pt), .int (nI pn), .ref mz, .int (nI tt), .ref mp, .ref mo])), (mh, aI cI 65536 HH), (mi, aI cI 65536 IN), (mz, aI cI 62 ZZ), (mp, aJ cJ 4000 PO), (mo, aI cI 4000 SO), (ou, aJ cJ 1 ov)] H) (hD : va_D A [(xo, .inr (4, [.int (nI bn), .ref hp, .ref hi, .ref hh, .ref ht])), (hp, .inr (3, [.int (nI bn), .ref pz, .ref ps, .long (lN pt), .int (nI pn)])), (pz, aI cI 62 Z), (ps, aJ cJ 63 S), (hi, .inr (2, [.ref ia, .ref ib, .ref ic, .ref id, .int (nI gc), .int (nI tt)])), (ia, aJ cJ 512 P), (ib, aI cI 512 F), (ic, aI cI 512 C), (id, aI cI 512 O), (hh, .inr (1, [.ref ma, .ref va, .ref ka, .int (nI sa)])), (ma, aI cI 1024 Ma), (va, aI cI 1024 Va), (ka, aI cI 512 Ka), (ht, .inr (1, [.ref mb, .ref vb, .ref kb, .int (nI sb)])), (mb, aI cI 1024 Mb), (vb, aI cI 1024 Vb), (kb, aI cI 512 Kb), (xm, .inr (5, [.int (nI th), .int (nI bn), .ref mh, .ref mi, .int (nI pl), .long (lN pt), .int (nI pn), .ref mz, .int (nI tt), .ref mp, .ref mo])), (mh, aI cI 65536 HH), (mi, aI cI 65536 IN), (mz, aI cI 62 ZZ), (mp, aJ cJ 4000 PO), (mo, aI cI 4000 SO), (ou, aJ cJ 1 ov)]) (hS : va_S A s.heap H locs) (hl : lv_has ls 7 [(4, .int (nI i)), (3, .ref ou), (2, .ref xm), (1, .ref xo), (0, .ref bs)])
    (kk : ∀ (th pl pt pn gc tt sa sb : Nat) (Z S ZZ P F C O Ma Va Ka fa Mb Vb Kb fb HH IN PO SO ov : Nat → Nat), INV (n + 1) bn pt pn gc tt sa sb pl Z S ZZ P F C O Ma Va Ka fa Mb Vb Kb fb HH PO SO → ∀ (H : Heap) (locs : List Loc) (ls : Array Slot), va_P D vwCl [(xo, .inr (4, [.int (nI bn), .ref hp, .ref hi, .ref hh, .ref ht])), (hp, .inr (3, [.int (nI bn), .ref pz, .ref ps, .long (lN pt), .int (nI pn)])), (pz, aI cI 62 Z), (ps, aJ cJ 63 S), (hi, .inr (2, [.ref ia, .ref ib, .ref ic, .ref id, .int (nI gc), .int (nI tt)])), (ia, aJ cJ 512 P), (ib, aI cI 512 F), (ic, aI cI 512 C), (id, aI cI 512 O), (hh, .inr (1, [.ref ma, .ref va, .ref ka, .int (nI sa)])), (ma, aI cI 1024 Ma), (va, aI cI 1024 Va), (ka, aI cI 512 Ka), (ht, .inr (1, [.ref mb, .ref vb, .ref kb, .int (nI sb)])), (mb, aI cI 1024 Mb), (vb, aI cI 1024 Vb), (kb, aI cI 512 Kb), (xm, .inr (5, [.int (nI th), .int (nI bn), .ref mh, .ref mi, .int (nI pl), .long (lN pt), .int (nI pn), .ref mz, .int (nI tt), .ref mp, .ref mo])), (mh, aI cI 65536 HH), (mi, aI cI 65536 IN), (mz, aI cI 62 ZZ), (mp, aJ cJ 4000 PO), (mo, aI cI 4000 SO), (ou, aJ cJ 1 ov)] H → va_D A [(xo, .inr (4, [.int (nI bn), .ref hp, .ref hi, .ref hh, .ref ht])), (hp, .inr (3, [.int (nI bn), .ref pz, .ref ps, .long (lN pt), .int (nI pn)])), (pz, aI cI 62 Z), (ps, aJ cJ 63 S), (hi, .inr (2, [.ref ia, .ref ib, .ref ic, .ref id, .int (nI gc), .int (nI tt)])), (ia, aJ cJ 512 P), (ib, aI cI 512 F), (ic, aI cI 512 C), (id, aI cI 512 O), (hh, .inr (1, [.ref ma, .ref va, .ref ka, .int (nI sa)])), (ma, aI cI 1024 Ma), (va, aI cI 1024 Va), (ka, aI cI 512 Ka), (ht, .inr (1, [.ref mb, .ref vb, .ref kb, .int (nI sb)])), (mb, aI cI 1024 Mb), (vb, aI cI 1024 Vb), (kb, aI cI 512 Kb), (xm, .inr (5, [.int (nI th), .int (nI bn), .ref mh, .ref mi, .int (nI pl), .long (lN pt), .int (nI pn), .ref mz, .int (nI tt), .ref mp, .ref mo])), (mh, aI cI 65536 HH), (mi, aI cI 65536 IN), (mz, aI cI 62 ZZ), (mp, aJ cJ 4000 PO), (mo, aI cI 4000 SO), (ou, aJ cJ 1 ov)] → va_S A s.heap H locs → lv_has ls 7 [(4, .int (nI i)), (3, .ref ou), (2, .ref xm), (1, .ref xo), (0, .ref bs)] → W p l e room_1 s m args below meth c H locs (cells + 1) (slots + 6) Q (F0 m 636 ls [])) : W p l e room_1 s m args below meth c H locs cells slots Q (F0 m 449 ls []) := by
  have hcc : cells ≤ room_1.cells := by show cells ≤ 601024; omega
  have hss : slots ≤ room_1.slots := by show slots ≤ 7293000; omega
  have hpl := hI.1.2.1
  have hpq := hI.1.2.2.2
  have hbn := hI.1.1
  have hplM := xPlan_congr hpl hI.1.2.2.1
  have hit := hI.2.1.1
  have hord := hI.2.1.2.1
  have hgcn := hI.2.1.2.2.2.2.2
  have htab := hI.2.2.1.1
  have hfa := hI.2.2.1.2.1
  have hHH := hI.2.2.1.2.2.1
  have hsan := hI.2.2.1.2.2.2
  have htt := hit.2.1
  have hpt := hpl.1
  have hpn := hpl.2.1
  refine lv_aload_n hx hb dL_law_449 rfl (lv_at hl 3 rfl) ?_
  refine lv_aload_n hx hb dL_law_450 rfl (lv_at hl 4 rfl) ?_
  refine lv_iload hx hb dL_law_451 (lv_at hl 0 rfl) ?_
  refine lv_iconst (v := nI 1) hx hb dL_law_453 (by decide) ?_
  refine zi_add hx hb dL_law_454  ?_
  refine zs_ld hx hb hX hbl hbA hS (k := i + 1) (by omega) (by omega) dL_law_455 ?_
  refine lv_aload_n hx hb dL_law_456 rfl (lv_at hl 4 rfl) ?_
  refine lv_iload hx hb dL_law_457 (lv_at hl 0 rfl) ?_
  refine lv_iconst (v := nI 2) hx hb dL_law_459 (by decide) ?_
  refine zi_add hx hb dL_law_460  ?_
  refine zs_ld hx hb hX hbl hbA hS (k := i + 2) (by omega) (by omega) dL_law_461 ?_
  refine RO_i.callV (rest := []) (c_X4_sort l D cI cJ xo hp hi hh ht bn pz ps pt pn Z S ia ib ic id gc tt P F C O (xs (i + 1)) (xs (i + 2)) hpl hit) ⟨hx, hb, hml, hown, hts⟩ (cwV 2 hts gL_law_X4_sort rfl rfl rfl (by decide +kernel) ⟨Nat.le_of_ble_eq_true rfl, Nat.le_of_ble_eq_true rfl⟩) hK hP hS hA [0, 1, 2, 3, 4, 5, 6, 7, 8] [0, 1] rfl rfl 0 4 rfl rfl rfl rfl hl.1 rfl (Nat.le_of_ble_eq_true rfl) dL_law_462 ⟨hcc, hss⟩ (fun v1_ H locs e1_ hP hS => ?_)
  have hq1 := e1_
  refine lv_aload_n hx hb dL_law_465 rfl (lv_at hl 2 rfl) ?_
  refine lv_aload_n hx hb dL_law_466 rfl (lv_at hl 4 rfl) ?_
  refine lv_iload hx hb dL_law_467 (lv_at hl 0 rfl) ?_
  refine lv_iconst (v := nI 1) hx hb dL_law_469 (by decide) ?_
  refine zi_add hx hb dL_law_470  ?_
  refine zs_ld hx hb hX hbl hbA hS (k := i + 1) (by omega) (by omega) dL_law_471 ?_
  refine lv_aload_n hx hb dL_law_472 rfl (lv_at hl 4 rfl) ?_
  refine lv_iload hx hb dL_law_473 (lv_at hl 0 rfl) ?_
  refine lv_iconst (v := nI 2) hx hb dL_law_475 (by decide) ?_
  refine zi_add hx hb dL_law_476  ?_
  refine zs_ld hx hb hX hbl hbA hS (k := i + 2) (by omega) (by omega) dL_law_477 ?_
  refine WR_i.callV (rest := [.int v1_]) (wr := [(xo, .inr (4, [.int (nI bn), .ref hp, .ref hi, .ref hh, .ref ht])), (hp, .inr (3, [.int (nI bn), .ref pz, .ref ps, .long (lN pt), .int (nI pn)])), (pz, aI cI 62 Z), (ps, aJ cJ 63 S), (hi, .inr (2, [.ref ia, .ref ib, .ref ic, .ref id, .int (nI gc), .int (nI tt)])), (ia, aJ cJ 512 P), (ib, aI cI 512 F), (ic, aI cI 512 C), (id, aI cI 512 O), (hh, .inr (1, [.ref ma, .ref va, .ref ka, .int (nI sa)])), (ma, aI cI 1024 Ma), (va, aI cI 1024 Va), (ka, aI cI 512 Ka), (ht, .inr (1, [.ref mb, .ref vb, .ref kb, .int (nI sb)])), (mb, aI cI 1024 Mb), (vb, aI cI 1024 Vb), (kb, aI cI 512 Kb), (ou, aJ cJ 1 ov)]) (c_X5_sort l D cI cJ xm mh mi mz mp mo th bn pl pt pn tt HH IN ZZ PO SO S (xs (i + 1)) (xs (i + 2)) hpq hplM htt (fun i hi8 => by have := hI.hPO i hi8; omega)) ⟨hx, hb, hml, hown, hts⟩ (cwV 2 hts gL_law_X5_sort rfl rfl rfl (by decide +kernel) ⟨Nat.le_of_ble_eq_true rfl, Nat.le_of_ble_eq_true rfl⟩) hK hP hD hS hA [17, 18, 19, 20, 21, 22] [0, 1, 2, 3, 4, 5, 6, 7, 8, 9, 10, 11, 12, 13, 14, 15, 16, 23] [0, 1] rfl rfl (by decide) (by decide) (by decide) rfl 17 5 rfl rfl rfl rfl hl.1 rfl (Nat.le_of_ble_eq_true rfl) dL_law_478 ⟨hcc, hss⟩ (fun v2_ u2_ H locs e2_ hP hD hS => ?_)
  obtain rfl : v1_ = v2_ := by
      by_cases h1 : knI pt tt (xs (i + 1)) ∧ knI pt pn (xs (i + 2))
      · by_cases h2 : pt = 0
        · rw [hq1.2.1 h1 h2, e2_.2.1 h1 h2]
        · obtain ⟨ow, o1, o2, o3, o4⟩ := hq1.2.2 h1 (by omega)
          rw [o4, e2_.2.2 h1 (by omega), place_link hit hI.2.1.2.2.2.2.1 o1 o2 o3]
      · rw [hq1.1 h1, e2_.1 h1]
  have hP := hP.sub (ws' := [(xo, .inr (4, [.int (nI bn), .ref hp, .ref hi, .ref hh, .ref ht])), (hp, .inr (3, [.int (nI bn), .ref pz, .ref ps, .long (lN pt), .int (nI pn)])), (pz, aI cI 62 Z), (ps, aJ cJ 63 S), (hi, .inr (2, [.ref ia, .ref ib, .ref ic, .ref id, .int (nI gc), .int (nI tt)])), (ia, aJ cJ 512 P), (ib, aI cI 512 F), (ic, aI cI 512 C), (id, aI cI 512 O), (hh, .inr (1, [.ref ma, .ref va, .ref ka, .int (nI sa)])), (ma, aI cI 1024 Ma), (va, aI cI 1024 Va), (ka, aI cI 512 Ka), (ht, .inr (1, [.ref mb, .ref vb, .ref kb, .int (nI sb)])), (mb, aI cI 1024 Mb), (vb, aI cI 1024 Vb), (kb, aI cI 512 Kb), (xm, .inr (5, [.int (nI 0), .int (nI bn), .ref mh, .ref mi, .int (nI pl), .long (lN pt), .int (nI pn), .ref mz, .int (nI tt), .ref mp, .ref mo])), (mh, aI cI 65536 HH), (mi, aI cI 65536 IN), (mz, aI cI 62 ZZ), (mp, aJ cJ 4000 PO), (mo, aI cI 4000 SO), (ou, aJ cJ 1 ov)]) [0, 1, 2, 3, 4, 5, 6, 7, 8, 9, 10, 11, 12, 13, 14, 15, 16, 18, 19, 20, 21, 22, 23, 17] rfl
  have hD := hD.sub (ws' := [(xo, .inr (4, [.int (nI bn), .ref hp, .ref hi, .ref hh, .ref ht])), (hp, .inr (3, [.int (nI bn), .ref pz, .ref ps, .long (lN pt), .int (nI pn)])), (pz, aI cI 62 Z), (ps, aJ cJ 63 S), (hi, .inr (2, [.ref ia, .ref ib, .ref ic, .ref id, .int (nI gc), .int (nI tt)])), (ia, aJ cJ 512 P), (ib, aI cI 512 F), (ic, aI cI 512 C), (id, aI cI 512 O), (hh, .inr (1, [.ref ma, .ref va, .ref ka, .int (nI sa)])), (ma, aI cI 1024 Ma), (va, aI cI 1024 Va), (ka, aI cI 512 Ka), (ht, .inr (1, [.ref mb, .ref vb, .ref kb, .int (nI sb)])), (mb, aI cI 1024 Mb), (vb, aI cI 1024 Vb), (kb, aI cI 512 Kb), (xm, .inr (5, [.int (nI 0), .int (nI bn), .ref mh, .ref mi, .int (nI pl), .long (lN pt), .int (nI pn), .ref mz, .int (nI tt), .ref mp, .ref mo])), (mh, aI cI 65536 HH), (mi, aI cI 65536 IN), (mz, aI cI 62 ZZ), (mp, aJ cJ 4000 PO), (mo, aI cI 4000 SO), (ou, aJ cJ 1 ov)]) [0, 1, 2, 3, 4, 5, 6, 7, 8, 9, 10, 11, 12, 13, 14, 15, 16, 18, 19, 20, 21, 22, 23, 17] (by decide) rfl
  refine zq_eq (tgt := 636) hx hb dL_law_481 (by decide) (fun c481 => ?_) (fun c481 => ?_)
  · refine W.widen (k := cells + 1) (n := slots + 6) (by omega) (by omega) ?_
    exact kk _ _ _ _ _ _ _ _ _ _ _ _ _ _ _ _ _ _ _ _ _ _ _ _ _ _ _ _ (hI.up) _ _ _ hP hD hS (lv_sub hl [0, 1, 2, 3, 4] rfl)
  · exact False.elim (c481 rfl)
set_option maxHeartbeats 4000000 in
set_option maxRecDepth 100000 in
theorem law_c7 {p : Program} {l : Launch} {e : Env} {s : State} {m : MethodId} {args : Array Value} {below : List Frame} {meth : Method} {c : Code} {A : Nat → Prop} {Q : State → Prop} {bs L : Nat} {xs : Nat → Int32} {D : va_G} {cI cJ : ClassId} {xo hp hi hh ht pz ps ia ib ic id ma va ka mb vb kb xm mh mi mz mp mo ou : Nat} (hx : p.tables.exec = Jvm.exec) (hb : c.code = cL_law) (hml : c.maxLocals = 7) (hown : s.vm.findClass RL = some m.cls) (hts : ∀ w ∈ wsL_law, w.before args s = true) (hX : va_X bs L xs s s.heap) (hbl : bs < s.heap.size) (hbA : ¬ A bs) (hA : ∀ q, s.heap.size ≤ q → A q) (hK : va_K D vwCl [(cI, .int), (cJ, .long)] s)  {n bn th pl pt pn gc tt sa sb : Nat} {Z S ZZ P F C O Ma Va Ka fa Mb Vb Kb fb HH IN PO SO ov : Nat → Nat} (hI : INV n bn pt pn gc tt sa sb pl Z S ZZ P F C O Ma Va Ka fa Mb Vb Kb fb HH PO SO) (hn : n < 512) {i : Nat} (hi9 : i = 4 * n + 1) (hiL : i + 3 < L) (hL : L ≤ 2049) {cells slots : Nat} (hc0 : cells + 1 ≤ 601024) (hs0 : slots + 6 ≤ 7293000) {H : Heap} {locs : List Loc} {ls : Array Slot} (hP : va_P D vwCl [(xo, .inr (4, [.int (nI bn), .ref hp, .ref hi, .ref hh, .ref ht])), (hp, .inr (3, [.int (nI bn), .ref pz, .ref ps, .long (lN pt), .int (nI pn)])), (pz, aI cI 62 Z), (ps, aJ cJ 63 S), (hi, .inr (2, [.ref ia, .ref ib, .ref ic, .ref id, .int (nI gc), .int (nI tt)])), (ia, aJ cJ 512 P), (ib, aI cI 512 F), (ic, aI cI 512 C), (id, aI cI 512 O), (hh, .inr (1, [.ref ma, .ref va, .ref ka, .int (nI sa)])), (ma, aI cI 1024 Ma), (va, aI cI 1024 Va), (ka, aI cI 512 Ka), (ht, .inr (1, [.ref mb, .ref vb, .ref kb, .int (nI sb)])), (mb, aI cI 1024 Mb), (vb, aI cI 1024 Vb), (kb, aI cI 512 Kb), (xm, .inr (5, [.int (nI th), .int (nI bn), .ref mh, .ref mi, .int (nI pl), .long (lN pt), .int (nI pn), .ref mz, .int (nI tt), .ref mp, .ref mo])), (mh, aI cI 65536 HH), (mi, aI cI 65536 IN), (mz, aI cI 62 ZZ), (mp, aJ cJ 4000 PO), (mo, aI cI 4000 SO), (ou, aJ cJ 1 ov)] H) (hD : va_D A [(xo, .inr (4, [.int (nI bn), .ref hp, .ref hi, .ref hh, .ref ht])), (hp, .inr (3, [.int (nI bn), .ref pz, .ref ps, .long (lN pt), .int (nI pn)])), (pz, aI cI 62 Z), (ps, aJ cJ 63 S), (hi, .inr (2, [.ref ia, .ref ib, .ref ic, .ref id, .int (nI gc), .int (nI tt)])), (ia, aJ cJ 512 P), (ib, aI cI 512 F), (ic, aI cI 512 C), (id, aI cI 512 O), (hh, .inr (1, [.ref ma, .ref va, .ref ka, .int (nI sa)])), (ma, aI cI 1024 Ma), (va, aI cI 1024 Va), (ka, aI cI 512 Ka), (ht, .inr (1, [.ref mb, .ref vb, .ref kb, .int (nI sb)])), (mb, aI cI 1024 Mb), (vb, aI cI 1024 Vb), (kb, aI cI 512 Kb), (xm, .inr (5, [.int (nI th), .int (nI bn), .ref mh, .ref mi, .int (nI pl), .long (lN pt), .int (nI pn), .ref mz, .int (nI tt), .ref mp, .ref mo])), (mh, aI cI 65536 HH), (mi, aI cI 65536 IN), (mz, aI cI 62 ZZ), (mp, aJ cJ 4000 PO), (mo, aI cI 4000 SO), (ou, aJ cJ 1 ov)]) (hS : va_S A s.heap H locs) (hl : lv_has ls 7 [(4, .int (nI i)), (3, .ref ou), (2, .ref xm), (1, .ref xo), (0, .ref bs)])
    (kk : ∀ (th pl pt pn gc tt sa sb : Nat) (Z S ZZ P F C O Ma Va Ka fa Mb Vb Kb fb HH IN PO SO ov : Nat → Nat), INV (n + 1) bn pt pn gc tt sa sb pl Z S ZZ P F C O Ma Va Ka fa Mb Vb Kb fb HH PO SO → ∀ (H : Heap) (locs : List Loc) (ls : Array Slot), va_P D vwCl [(xo, .inr (4, [.int (nI bn), .ref hp, .ref hi, .ref hh, .ref ht])), (hp, .inr (3, [.int (nI bn), .ref pz, .ref ps, .long (lN pt), .int (nI pn)])), (pz, aI cI 62 Z), (ps, aJ cJ 63 S), (hi, .inr (2, [.ref ia, .ref ib, .ref ic, .ref id, .int (nI gc), .int (nI tt)])), (ia, aJ cJ 512 P), (ib, aI cI 512 F), (ic, aI cI 512 C), (id, aI cI 512 O), (hh, .inr (1, [.ref ma, .ref va, .ref ka, .int (nI sa)])), (ma, aI cI 1024 Ma), (va, aI cI 1024 Va), (ka, aI cI 512 Ka), (ht, .inr (1, [.ref mb, .ref vb, .ref kb, .int (nI sb)])), (mb, aI cI 1024 Mb), (vb, aI cI 1024 Vb), (kb, aI cI 512 Kb), (xm, .inr (5, [.int (nI th), .int (nI bn), .ref mh, .ref mi, .int (nI pl), .long (lN pt), .int (nI pn), .ref mz, .int (nI tt), .ref mp, .ref mo])), (mh, aI cI 65536 HH), (mi, aI cI 65536 IN), (mz, aI cI 62 ZZ), (mp, aJ cJ 4000 PO), (mo, aI cI 4000 SO), (ou, aJ cJ 1 ov)] H → va_D A [(xo, .inr (4, [.int (nI bn), .ref hp, .ref hi, .ref hh, .ref ht])), (hp, .inr (3, [.int (nI bn), .ref pz, .ref ps, .long (lN pt), .int (nI pn)])), (pz, aI cI 62 Z), (ps, aJ cJ 63 S), (hi, .inr (2, [.ref ia, .ref ib, .ref ic, .ref id, .int (nI gc), .int (nI tt)])), (ia, aJ cJ 512 P), (ib, aI cI 512 F), (ic, aI cI 512 C), (id, aI cI 512 O), (hh, .inr (1, [.ref ma, .ref va, .ref ka, .int (nI sa)])), (ma, aI cI 1024 Ma), (va, aI cI 1024 Va), (ka, aI cI 512 Ka), (ht, .inr (1, [.ref mb, .ref vb, .ref kb, .int (nI sb)])), (mb, aI cI 1024 Mb), (vb, aI cI 1024 Vb), (kb, aI cI 512 Kb), (xm, .inr (5, [.int (nI th), .int (nI bn), .ref mh, .ref mi, .int (nI pl), .long (lN pt), .int (nI pn), .ref mz, .int (nI tt), .ref mp, .ref mo])), (mh, aI cI 65536 HH), (mi, aI cI 65536 IN), (mz, aI cI 62 ZZ), (mp, aJ cJ 4000 PO), (mo, aI cI 4000 SO), (ou, aJ cJ 1 ov)] → va_S A s.heap H locs → lv_has ls 7 [(4, .int (nI i)), (3, .ref ou), (2, .ref xm), (1, .ref xo), (0, .ref bs)] → W p l e room_1 s m args below meth c H locs (cells + 1) (slots + 6) Q (F0 m 636 ls [])) : W p l e room_1 s m args below meth c H locs cells slots Q (F0 m 486 ls []) := by
  have hcc : cells ≤ room_1.cells := by show cells ≤ 601024; omega
  have hss : slots ≤ room_1.slots := by show slots ≤ 7293000; omega
  have hpl := hI.1.2.1
  have hpq := hI.1.2.2.2
  have hbn := hI.1.1
  have hplM := xPlan_congr hpl hI.1.2.2.1
  have hit := hI.2.1.1
  have hord := hI.2.1.2.1
  have hgcn := hI.2.1.2.2.2.2.2
  have htab := hI.2.2.1.1
  have hfa := hI.2.2.1.2.1
  have hHH := hI.2.2.1.2.2.1
  have hsan := hI.2.2.1.2.2.2
  have htt := hit.2.1
  have hpt := hpl.1
  have hpn := hpl.2.1
  refine lv_aload_n hx hb dL_law_486 rfl (lv_at hl 3 rfl) ?_
  refine lv_aload_n hx hb dL_law_487 rfl (lv_at hl 4 rfl) ?_
  refine lv_iload hx hb dL_law_488 (lv_at hl 0 rfl) ?_
  refine lv_iconst (v := nI 1) hx hb dL_law_490 (by decide) ?_
  refine zi_add hx hb dL_law_491  ?_
  refine zs_ld hx hb hX hbl hbA hS (k := i + 1) (by omega) (by omega) dL_law_492 ?_
  refine RO_i.callV (rest := []) (c_X4_order l D cI cJ xo hp hi hh ht bn pz ps pt pn Z S ia ib ic id gc tt P F C O (xs (i + 1)) hpl hit hord) ⟨hx, hb, hml, hown, hts⟩ (cwV 1 hts gL_law_X4_order rfl rfl rfl (by decide +kernel) ⟨Nat.le_of_ble_eq_true rfl, Nat.le_of_ble_eq_true rfl⟩) hK hP hS hA [0, 1, 2, 3, 4, 5, 6, 7, 8] [0, 1] rfl rfl 0 4 rfl rfl rfl rfl hl.1 rfl (Nat.le_of_ble_eq_true rfl) dL_law_493 ⟨hcc, hss⟩ (fun v1_ H locs e1_ hP hS => ?_)
  have hq1 := e1_
  refine lv_aload_n hx hb dL_law_496 rfl (lv_at hl 2 rfl) ?_
  refine lv_aload_n hx hb dL_law_497 rfl (lv_at hl 4 rfl) ?_
  refine lv_iload hx hb dL_law_498 (lv_at hl 0 rfl) ?_
  refine lv_iconst (v := nI 1) hx hb dL_law_500 (by decide) ?_
  refine zi_add hx hb dL_law_501  ?_
  refine zs_ld hx hb hX hbl hbA hS (k := i + 1) (by omega) (by omega) dL_law_502 ?_
  refine WR_i.callV (rest := [.int v1_]) (wr := [(xo, .inr (4, [.int (nI bn), .ref hp, .ref hi, .ref hh, .ref ht])), (hp, .inr (3, [.int (nI bn), .ref pz, .ref ps, .long (lN pt), .int (nI pn)])), (pz, aI cI 62 Z), (ps, aJ cJ 63 S), (hi, .inr (2, [.ref ia, .ref ib, .ref ic, .ref id, .int (nI gc), .int (nI tt)])), (ia, aJ cJ 512 P), (ib, aI cI 512 F), (ic, aI cI 512 C), (id, aI cI 512 O), (hh, .inr (1, [.ref ma, .ref va, .ref ka, .int (nI sa)])), (ma, aI cI 1024 Ma), (va, aI cI 1024 Va), (ka, aI cI 512 Ka), (ht, .inr (1, [.ref mb, .ref vb, .ref kb, .int (nI sb)])), (mb, aI cI 1024 Mb), (vb, aI cI 1024 Vb), (kb, aI cI 512 Kb), (ou, aJ cJ 1 ov)]) (c_X5_order l D cI cJ xm mh mi mz mp mo th bn pl pt pn tt HH IN ZZ PO SO (xs (i + 1)) hpq htt hpn) ⟨hx, hb, hml, hown, hts⟩ (cwV 1 hts gL_law_X5_order rfl rfl rfl (by decide +kernel) ⟨Nat.le_of_ble_eq_true rfl, Nat.le_of_ble_eq_true rfl⟩) hK hP hD hS hA [17, 18, 19, 20, 21, 22] [0, 1, 2, 3, 4, 5, 6, 7, 8, 9, 10, 11, 12, 13, 14, 15, 16, 23] [0, 1] rfl rfl (by decide) (by decide) (by decide) rfl 17 5 rfl rfl rfl rfl hl.1 rfl (Nat.le_of_ble_eq_true rfl) dL_law_503 ⟨hcc, hss⟩ (fun v2_ u2_ H locs e2_ hP hD hS => ?_)
  obtain rfl : v1_ = v2_ := by
      by_cases h1 : knI pt tt (xs (i + 1))
      · by_cases h2 : pt = 0
        · rw [hq1.2.1 h1 h2, e2_.2.1 h1 h2]
        · obtain ⟨k9, j9, o1, o2, o3, o4⟩ := hq1.2.2 h1 (by omega)
          rw [o4, e2_.2.2 h1 (by omega), hI.ord (by omega) o1 o2 o3]
      · rw [hq1.1 h1, e2_.1 h1]
  have hP := hP.sub (ws' := [(xo, .inr (4, [.int (nI bn), .ref hp, .ref hi, .ref hh, .ref ht])), (hp, .inr (3, [.int (nI bn), .ref pz, .ref ps, .long (lN pt), .int (nI pn)])), (pz, aI cI 62 Z), (ps, aJ cJ 63 S), (hi, .inr (2, [.ref ia, .ref ib, .ref ic, .ref id, .int (nI gc), .int (nI tt)])), (ia, aJ cJ 512 P), (ib, aI cI 512 F), (ic, aI cI 512 C), (id, aI cI 512 O), (hh, .inr (1, [.ref ma, .ref va, .ref ka, .int (nI sa)])), (ma, aI cI 1024 Ma), (va, aI cI 1024 Va), (ka, aI cI 512 Ka), (ht, .inr (1, [.ref mb, .ref vb, .ref kb, .int (nI sb)])), (mb, aI cI 1024 Mb), (vb, aI cI 1024 Vb), (kb, aI cI 512 Kb), (xm, .inr (5, [.int (nI 0), .int (nI bn), .ref mh, .ref mi, .int (nI pl), .long (lN pt), .int (nI pn), .ref mz, .int (nI tt), .ref mp, .ref mo])), (mh, aI cI 65536 HH), (mi, aI cI 65536 IN), (mz, aI cI 62 ZZ), (mp, aJ cJ 4000 PO), (mo, aI cI 4000 SO), (ou, aJ cJ 1 ov)]) [0, 1, 2, 3, 4, 5, 6, 7, 8, 9, 10, 11, 12, 13, 14, 15, 16, 18, 19, 20, 21, 22, 23, 17] rfl
  have hD := hD.sub (ws' := [(xo, .inr (4, [.int (nI bn), .ref hp, .ref hi, .ref hh, .ref ht])), (hp, .inr (3, [.int (nI bn), .ref pz, .ref ps, .long (lN pt), .int (nI pn)])), (pz, aI cI 62 Z), (ps, aJ cJ 63 S), (hi, .inr (2, [.ref ia, .ref ib, .ref ic, .ref id, .int (nI gc), .int (nI tt)])), (ia, aJ cJ 512 P), (ib, aI cI 512 F), (ic, aI cI 512 C), (id, aI cI 512 O), (hh, .inr (1, [.ref ma, .ref va, .ref ka, .int (nI sa)])), (ma, aI cI 1024 Ma), (va, aI cI 1024 Va), (ka, aI cI 512 Ka), (ht, .inr (1, [.ref mb, .ref vb, .ref kb, .int (nI sb)])), (mb, aI cI 1024 Mb), (vb, aI cI 1024 Vb), (kb, aI cI 512 Kb), (xm, .inr (5, [.int (nI 0), .int (nI bn), .ref mh, .ref mi, .int (nI pl), .long (lN pt), .int (nI pn), .ref mz, .int (nI tt), .ref mp, .ref mo])), (mh, aI cI 65536 HH), (mi, aI cI 65536 IN), (mz, aI cI 62 ZZ), (mp, aJ cJ 4000 PO), (mo, aI cI 4000 SO), (ou, aJ cJ 1 ov)]) [0, 1, 2, 3, 4, 5, 6, 7, 8, 9, 10, 11, 12, 13, 14, 15, 16, 18, 19, 20, 21, 22, 23, 17] (by decide) rfl
  refine zq_eq (tgt := 636) hx hb dL_law_506 (by decide) (fun c506 => ?_) (fun c506 => ?_)
  · refine W.widen (k := cells + 1) (n := slots + 6) (by omega) (by omega) ?_
    exact kk _ _ _ _ _ _ _ _ _ _ _ _ _ _ _ _ _ _ _ _ _ _ _ _ _ _ _ _ (hI.up) _ _ _ hP hD hS (lv_sub hl [0, 1, 2, 3, 4] rfl)
  · exact False.elim (c506 rfl)
set_option maxHeartbeats 4000000 in
set_option maxRecDepth 100000 in
theorem law_c9 {p : Program} {l : Launch} {e : Env} {s : State} {m : MethodId} {args : Array Value} {below : List Frame} {meth : Method} {c : Code} {A : Nat → Prop} {Q : State → Prop} {bs L : Nat} {xs : Nat → Int32} {D : va_G} {cI cJ : ClassId} {xo hp hi hh ht pz ps ia ib ic id ma va ka mb vb kb xm mh mi mz mp mo ou : Nat} (hx : p.tables.exec = Jvm.exec) (hb : c.code = cL_law) (hml : c.maxLocals = 7) (hown : s.vm.findClass RL = some m.cls) (hts : ∀ w ∈ wsL_law, w.before args s = true) (hX : va_X bs L xs s s.heap) (hbl : bs < s.heap.size) (hbA : ¬ A bs) (hA : ∀ q, s.heap.size ≤ q → A q) (hK : va_K D vwCl [(cI, .int), (cJ, .long)] s)  {n bn th pl pt pn gc tt sa sb : Nat} {Z S ZZ P F C O Ma Va Ka fa Mb Vb Kb fb HH IN PO SO ov : Nat → Nat} (hI : INV n bn pt pn gc tt sa sb pl Z S ZZ P F C O Ma Va Ka fa Mb Vb Kb fb HH PO SO) (hn : n < 512) {i : Nat} (hi9 : i = 4 * n + 1) (hiL : i + 3 < L) (hL : L ≤ 2049) {cells slots : Nat} (hc0 : cells + 1 ≤ 601024) (hs0 : slots + 6 ≤ 7293000) {H : Heap} {locs : List Loc} {ls : Array Slot} (hP : va_P D vwCl [(xo, .inr (4, [.int (nI bn), .ref hp, .ref hi, .ref hh, .ref ht])), (hp, .inr (3, [.int (nI bn), .ref pz, .ref ps, .long (lN pt), .int (nI pn)])), (pz, aI cI 62 Z), (ps, aJ cJ 63 S), (hi, .inr (2, [.ref ia, .ref ib, .ref ic, .ref id, .int (nI gc), .int (nI tt)])), (ia, aJ cJ 512 P), (ib, aI cI 512 F), (ic, aI cI 512 C), (id, aI cI 512 O), (hh, .inr (1, [.ref ma, .ref va, .ref ka, .int (nI sa)])), (ma, aI cI 1024 Ma), (va, aI cI 1024 Va), (ka, aI cI 512 Ka), (ht, .inr (1, [.ref mb, .ref vb, .ref kb, .int (nI sb)])), (mb, aI cI 1024 Mb), (vb, aI cI 1024 Vb), (kb, aI cI 512 Kb), (xm, .inr (5, [.int (nI th), .int (nI bn), .ref mh, .ref mi, .int (nI pl), .long (lN pt), .int (nI pn), .ref mz, .int (nI tt), .ref mp, .ref mo])), (mh, aI cI 65536 HH), (mi, aI cI 65536 IN), (mz, aI cI 62 ZZ), (mp, aJ cJ 4000 PO), (mo, aI cI 4000 SO), (ou, aJ cJ 1 ov)] H) (hD : va_D A [(xo, .inr (4, [.int (nI bn), .ref hp, .ref hi, .ref hh, .ref ht])), (hp, .inr (3, [.int (nI bn), .ref pz, .ref ps, .long (lN pt), .int (nI pn)])), (pz, aI cI 62 Z), (ps, aJ cJ 63 S), (hi, .inr (2, [.ref ia, .ref ib, .ref ic, .ref id, .int (nI gc), .int (nI tt)])), (ia, aJ cJ 512 P), (ib, aI cI 512 F), (ic, aI cI 512 C), (id, aI cI 512 O), (hh, .inr (1, [.ref ma, .ref va, .ref ka, .int (nI sa)])), (ma, aI cI 1024 Ma), (va, aI cI 1024 Va), (ka, aI cI 512 Ka), (ht, .inr (1, [.ref mb, .ref vb, .ref kb, .int (nI sb)])), (mb, aI cI 1024 Mb), (vb, aI cI 1024 Vb), (kb, aI cI 512 Kb), (xm, .inr (5, [.int (nI th), .int (nI bn), .ref mh, .ref mi, .int (nI pl), .long (lN pt), .int (nI pn), .ref mz, .int (nI tt), .ref mp, .ref mo])), (mh, aI cI 65536 HH), (mi, aI cI 65536 IN), (mz, aI cI 62 ZZ), (mp, aJ cJ 4000 PO), (mo, aI cI 4000 SO), (ou, aJ cJ 1 ov)]) (hS : va_S A s.heap H locs) (hl : lv_has ls 7 [(4, .int (nI i)), (3, .ref ou), (2, .ref xm), (1, .ref xo), (0, .ref bs)])
    (kk : ∀ (th pl pt pn gc tt sa sb : Nat) (Z S ZZ P F C O Ma Va Ka fa Mb Vb Kb fb HH IN PO SO ov : Nat → Nat), INV (n + 1) bn pt pn gc tt sa sb pl Z S ZZ P F C O Ma Va Ka fa Mb Vb Kb fb HH PO SO → ∀ (H : Heap) (locs : List Loc) (ls : Array Slot), va_P D vwCl [(xo, .inr (4, [.int (nI bn), .ref hp, .ref hi, .ref hh, .ref ht])), (hp, .inr (3, [.int (nI bn), .ref pz, .ref ps, .long (lN pt), .int (nI pn)])), (pz, aI cI 62 Z), (ps, aJ cJ 63 S), (hi, .inr (2, [.ref ia, .ref ib, .ref ic, .ref id, .int (nI gc), .int (nI tt)])), (ia, aJ cJ 512 P), (ib, aI cI 512 F), (ic, aI cI 512 C), (id, aI cI 512 O), (hh, .inr (1, [.ref ma, .ref va, .ref ka, .int (nI sa)])), (ma, aI cI 1024 Ma), (va, aI cI 1024 Va), (ka, aI cI 512 Ka), (ht, .inr (1, [.ref mb, .ref vb, .ref kb, .int (nI sb)])), (mb, aI cI 1024 Mb), (vb, aI cI 1024 Vb), (kb, aI cI 512 Kb), (xm, .inr (5, [.int (nI th), .int (nI bn), .ref mh, .ref mi, .int (nI pl), .long (lN pt), .int (nI pn), .ref mz, .int (nI tt), .ref mp, .ref mo])), (mh, aI cI 65536 HH), (mi, aI cI 65536 IN), (mz, aI cI 62 ZZ), (mp, aJ cJ 4000 PO), (mo, aI cI 4000 SO), (ou, aJ cJ 1 ov)] H → va_D A [(xo, .inr (4, [.int (nI bn), .ref hp, .ref hi, .ref hh, .ref ht])), (hp, .inr (3, [.int (nI bn), .ref pz, .ref ps, .long (lN pt), .int (nI pn)])), (pz, aI cI 62 Z), (ps, aJ cJ 63 S), (hi, .inr (2, [.ref ia, .ref ib, .ref ic, .ref id, .int (nI gc), .int (nI tt)])), (ia, aJ cJ 512 P), (ib, aI cI 512 F), (ic, aI cI 512 C), (id, aI cI 512 O), (hh, .inr (1, [.ref ma, .ref va, .ref ka, .int (nI sa)])), (ma, aI cI 1024 Ma), (va, aI cI 1024 Va), (ka, aI cI 512 Ka), (ht, .inr (1, [.ref mb, .ref vb, .ref kb, .int (nI sb)])), (mb, aI cI 1024 Mb), (vb, aI cI 1024 Vb), (kb, aI cI 512 Kb), (xm, .inr (5, [.int (nI th), .int (nI bn), .ref mh, .ref mi, .int (nI pl), .long (lN pt), .int (nI pn), .ref mz, .int (nI tt), .ref mp, .ref mo])), (mh, aI cI 65536 HH), (mi, aI cI 65536 IN), (mz, aI cI 62 ZZ), (mp, aJ cJ 4000 PO), (mo, aI cI 4000 SO), (ou, aJ cJ 1 ov)] → va_S A s.heap H locs → lv_has ls 7 [(4, .int (nI i)), (3, .ref ou), (2, .ref xm), (1, .ref xo), (0, .ref bs)] → W p l e room_1 s m args below meth c H locs (cells + 1) (slots + 6) Q (F0 m 636 ls [])) : W p l e room_1 s m args below meth c H locs cells slots Q (F0 m 567 ls []) := by
  have hcc : cells ≤ room_1.cells := by show cells ≤ 601024; omega
  have hss : slots ≤ room_1.slots := by show slots ≤ 7293000; omega
  have hpl := hI.1.2.1
  have hpq := hI.1.2.2.2
  have hbn := hI.1.1
  have hplM := xPlan_congr hpl hI.1.2.2.1
  have hit := hI.2.1.1
  have hord := hI.2.1.2.1
  have hgcn := hI.2.1.2.2.2.2.2
  have htab := hI.2.2.1.1
  have hfa := hI.2.2.1.2.1
  have hHH := hI.2.2.1.2.2.1
  have hsan := hI.2.2.1.2.2.2
  have htt := hit.2.1
  have hpt := hpl.1
  have hpn := hpl.2.1
  refine lv_aload_n hx hb dL_law_567 rfl (lv_at hl 3 rfl) ?_
  refine lv_aload_n hx hb dL_law_568 rfl (lv_at hl 4 rfl) ?_
  refine lv_iload hx hb dL_law_569 (lv_at hl 0 rfl) ?_
  refine lv_iconst (v := nI 1) hx hb dL_law_571 (by decide) ?_
  refine zi_add hx hb dL_law_572  ?_
  refine zs_ld hx hb hX hbl hbA hS (k := i + 1) (by omega) (by omega) dL_law_573 ?_
  refine lv_i2l hx hb dL_law_574 rfl ?_
  refine lv_bipush (v := nI 32) hx hb dL_law_575 (by decide) ?_
  refine lv_lshl hx hb dL_law_577 rfl ?_
  refine lv_aload_n hx hb dL_law_578 rfl (lv_at hl 4 rfl) ?_
  refine lv_iload hx hb dL_law_579 (lv_at hl 0 rfl) ?_
  refine lv_iconst (v := nI 2) hx hb dL_law_581 (by decide) ?_
  refine zi_add hx hb dL_law_582  ?_
  refine zs_ld hx hb hX hbl hbA hS (k := i + 2) (by omega) (by omega) dL_law_583 ?_
  refine lv_i2l hx hb dL_law_584 rfl ?_
  refine lv_ldc2 (v := 4294967295) hx hb hown (hts (.constantLong RL 33 (4294967295)) (by decide +kernel)) dL_law_585 ?_
  refine W.eq (g2 := F0 m 588 ls [.long (lN 4294967295), .long ((xs (i + 2)).toInt64), .long (((xs (i + 1)).toInt64) <<< ((nI 32).toInt64 &&& 63)), .ref xo]) rfl ?_
  refine lv_land hx hb dL_law_588 ?_
  refine lv_lor hx hb dL_law_589 ?_
  refine W.eq (g2 := F0 m 590 ls [.long (lgl (xs (i + 1)) (xs (i + 2))), .ref xo]) rfl ?_
  refine lv_aload_n hx hb dL_law_590 rfl (lv_at hl 4 rfl) ?_
  refine lv_iload hx hb dL_law_591 (lv_at hl 0 rfl) ?_
  refine lv_iconst (v := nI 3) hx hb dL_law_593 (by decide) ?_
  refine zi_add hx hb dL_law_594  ?_
  refine zs_ld hx hb hX hbl hbA hS (k := i + 3) (by omega) (by omega) dL_law_595 ?_
  refine RO_i.callV (rest := []) (c_X4_least l D cI cJ xo hp hi hh ht bn (lgl (xs (i + 1)) (xs (i + 2))) (xs (i + 3)) hbn) ⟨hx, hb, hml, hown, hts⟩ (cwV 2 hts gL_law_X4_least rfl rfl rfl (by decide +kernel) ⟨Nat.le_of_ble_eq_true rfl, Nat.le_of_ble_eq_true rfl⟩) hK hP hS hA [0] [0, 1] rfl rfl 0 4 rfl rfl rfl rfl hl.1 rfl (Nat.le_of_ble_eq_true rfl) dL_law_596 ⟨hcc, hss⟩ (fun v1_ H locs e1_ hP hS => ?_)
  have hq1 := e1_
  refine lv_aload_n hx hb dL_law_599 rfl (lv_at hl 2 rfl) ?_
  refine lv_aload_n hx hb dL_law_600 rfl (lv_at hl 4 rfl) ?_
  refine lv_iload hx hb dL_law_601 (lv_at hl 0 rfl) ?_
  refine lv_iconst (v := nI 1) hx hb dL_law_603 (by decide) ?_
  refine zi_add hx hb dL_law_604  ?_
  refine zs_ld hx hb hX hbl hbA hS (k := i + 1) (by omega) (by omega) dL_law_605 ?_
  refine lv_i2l hx hb dL_law_606 rfl ?_
  refine lv_bipush (v := nI 32) hx hb dL_law_607 (by decide) ?_
  refine lv_lshl hx hb dL_law_609 rfl ?_
  refine lv_aload_n hx hb dL_law_610 rfl (lv_at hl 4 rfl) ?_
  refine lv_iload hx hb dL_law_611 (lv_at hl 0 rfl) ?_
  refine lv_iconst (v := nI 2) hx hb dL_law_613 (by decide) ?_
  refine zi_add hx hb dL_law_614  ?_
  refine zs_ld hx hb hX hbl hbA hS (k := i + 2) (by omega) (by omega) dL_law_615 ?_
  refine lv_i2l hx hb dL_law_616 rfl ?_
  refine lv_ldc2 (v := 4294967295) hx hb hown (hts (.constantLong RL 33 (4294967295)) (by decide +kernel)) dL_law_617 ?_
  refine W.eq (g2 := F0 m 620 ls [.long (lN 4294967295), .long ((xs (i + 2)).toInt64), .long (((xs (i + 1)).toInt64) <<< ((nI 32).toInt64 &&& 63)), .ref xm, .int v1_]) rfl ?_
  refine lv_land hx hb dL_law_620 ?_
  refine lv_lor hx hb dL_law_621 ?_
  refine W.eq (g2 := F0 m 622 ls [.long (lgl (xs (i + 1)) (xs (i + 2))), .ref xm, .int v1_]) rfl ?_
  refine lv_aload_n hx hb dL_law_622 rfl (lv_at hl 4 rfl) ?_
  refine lv_iload hx hb dL_law_623 (lv_at hl 0 rfl) ?_
  refine lv_iconst (v := nI 3) hx hb dL_law_625 (by decide) ?_
  refine zi_add hx hb dL_law_626  ?_
  refine zs_ld hx hb hX hbl hbA hS (k := i + 3) (by omega) (by omega) dL_law_627 ?_
  refine WR_i.callV (rest := [.int v1_]) (wr := [(xo, .inr (4, [.int (nI bn), .ref hp, .ref hi, .ref hh, .ref ht])), (hp, .inr (3, [.int (nI bn), .ref pz, .ref ps, .long (lN pt), .int (nI pn)])), (pz, aI cI 62 Z), (ps, aJ cJ 63 S), (hi, .inr (2, [.ref ia, .ref ib, .ref ic, .ref id, .int (nI gc), .int (nI tt)])), (ia, aJ cJ 512 P), (ib, aI cI 512 F), (ic, aI cI 512 C), (id, aI cI 512 O), (hh, .inr (1, [.ref ma, .ref va, .ref ka, .int (nI sa)])), (ma, aI cI 1024 Ma), (va, aI cI 1024 Va), (ka, aI cI 512 Ka), (ht, .inr (1, [.ref mb, .ref vb, .ref kb, .int (nI sb)])), (mb, aI cI 1024 Mb), (vb, aI cI 1024 Vb), (kb, aI cI 512 Kb), (ou, aJ cJ 1 ov)]) (c_X5_least l D cI cJ xm mh mi mz mp mo th bn pl pt pn tt HH IN ZZ PO SO (lgl (xs (i + 1)) (xs (i + 2))) (xs (i + 3)) hbn) ⟨hx, hb, hml, hown, hts⟩ (cwV 2 hts gL_law_X5_least rfl rfl rfl (by decide +kernel) ⟨Nat.le_of_ble_eq_true rfl, Nat.le_of_ble_eq_true rfl⟩) hK hP hD hS hA [17, 18, 19, 20, 21, 22] [0, 1, 2, 3, 4, 5, 6, 7, 8, 9, 10, 11, 12, 13, 14, 15, 16, 23] [0, 1] rfl rfl (by decide) (by decide) (by decide) rfl 17 5 rfl rfl rfl rfl hl.1 rfl (Nat.le_of_ble_eq_true rfl) dL_law_628 ⟨hcc, hss⟩ (fun v2_ u2_ H locs e2_ hP hD hS => ?_)
  obtain rfl : v1_ = v2_ := least_same hq1 e2_
  have hP := hP.sub (ws' := [(xo, .inr (4, [.int (nI bn), .ref hp, .ref hi, .ref hh, .ref ht])), (hp, .inr (3, [.int (nI bn), .ref pz, .ref ps, .long (lN pt), .int (nI pn)])), (pz, aI cI 62 Z), (ps, aJ cJ 63 S), (hi, .inr (2, [.ref ia, .ref ib, .ref ic, .ref id, .int (nI gc), .int (nI tt)])), (ia, aJ cJ 512 P), (ib, aI cI 512 F), (ic, aI cI 512 C), (id, aI cI 512 O), (hh, .inr (1, [.ref ma, .ref va, .ref ka, .int (nI sa)])), (ma, aI cI 1024 Ma), (va, aI cI 1024 Va), (ka, aI cI 512 Ka), (ht, .inr (1, [.ref mb, .ref vb, .ref kb, .int (nI sb)])), (mb, aI cI 1024 Mb), (vb, aI cI 1024 Vb), (kb, aI cI 512 Kb), (xm, .inr (5, [.int (nI 0), .int (nI bn), .ref mh, .ref mi, .int (nI pl), .long (lN pt), .int (nI pn), .ref mz, .int (nI tt), .ref mp, .ref mo])), (mh, aI cI 65536 HH), (mi, aI cI 65536 IN), (mz, aI cI 62 ZZ), (mp, aJ cJ 4000 PO), (mo, aI cI 4000 SO), (ou, aJ cJ 1 ov)]) [0, 1, 2, 3, 4, 5, 6, 7, 8, 9, 10, 11, 12, 13, 14, 15, 16, 18, 19, 20, 21, 22, 23, 17] rfl
  have hD := hD.sub (ws' := [(xo, .inr (4, [.int (nI bn), .ref hp, .ref hi, .ref hh, .ref ht])), (hp, .inr (3, [.int (nI bn), .ref pz, .ref ps, .long (lN pt), .int (nI pn)])), (pz, aI cI 62 Z), (ps, aJ cJ 63 S), (hi, .inr (2, [.ref ia, .ref ib, .ref ic, .ref id, .int (nI gc), .int (nI tt)])), (ia, aJ cJ 512 P), (ib, aI cI 512 F), (ic, aI cI 512 C), (id, aI cI 512 O), (hh, .inr (1, [.ref ma, .ref va, .ref ka, .int (nI sa)])), (ma, aI cI 1024 Ma), (va, aI cI 1024 Va), (ka, aI cI 512 Ka), (ht, .inr (1, [.ref mb, .ref vb, .ref kb, .int (nI sb)])), (mb, aI cI 1024 Mb), (vb, aI cI 1024 Vb), (kb, aI cI 512 Kb), (xm, .inr (5, [.int (nI 0), .int (nI bn), .ref mh, .ref mi, .int (nI pl), .long (lN pt), .int (nI pn), .ref mz, .int (nI tt), .ref mp, .ref mo])), (mh, aI cI 65536 HH), (mi, aI cI 65536 IN), (mz, aI cI 62 ZZ), (mp, aJ cJ 4000 PO), (mo, aI cI 4000 SO), (ou, aJ cJ 1 ov)]) [0, 1, 2, 3, 4, 5, 6, 7, 8, 9, 10, 11, 12, 13, 14, 15, 16, 18, 19, 20, 21, 22, 23, 17] (by decide) rfl
  refine zq_eq (tgt := 636) hx hb dL_law_631 (by decide) (fun c631 => ?_) (fun c631 => ?_)
  · refine W.widen (k := cells + 1) (n := slots + 6) (by omega) (by omega) ?_
    exact kk _ _ _ _ _ _ _ _ _ _ _ _ _ _ _ _ _ _ _ _ _ _ _ _ _ _ _ _ (hI.up) _ _ _ hP hD hS (lv_sub hl [0, 1, 2, 3, 4] rfl)
  · exact False.elim (c631 rfl)
