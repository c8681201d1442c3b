set_option maxHeartbeats 4000000 in
set_option maxRecDepth 100000 in
/-- a new table -/
theorem c_X0_init (l : Launch) (D : va_G) (cI cJ : ClassId) (h : Nat) : WR_v l yX0_init wsX0_init ({ frames := 1, cells := 3, slots := 2560, locals := 24 } : Room) D [(h, .inr (1, [.null, .null, .null, .int (nI 0)]))] [(cI, .int), (cJ, .long)] [.ref h] (fun (u : Nat × Nat × Nat) => [(h, .inr (1, [.ref u.1, .ref u.2.1, .ref u.2.2, .int (nI 0)])), (u.1, aI cI 1024 (fun _ => 0)), (u.2.1, aI cI 1024 (fun _ => 0)), (u.2.2, aI cI 512 (fun _ => 0))]) (fun _ => True) 3 2560 := by
  refine WR_v.of (cc := cX0_init) (maxL := 1) (by decide) rfl (Nat.le_of_ble_eq_true rfl) ?_
  intro p e s m args below meth c ls A Q hx hb hml hts hown hA hP hD hK hl hin hret
  have hown : s.vm.findClass RX0 = some m.cls := hown
  have hl : lv_has ls 1 [(0, .ref h)] := hl
  have hS : va_S A s.heap s.heap [] := va_S.rf
  have hinX0 : ∀ w ∈ wsX00, w ∈ wsX0_init := by decide +kernel
  refine lv_aload_n hx hb dX0_init_0 rfl (lv_at hl 0 rfl) ?_
  refine W.objInit hx hb hown (hts (.methodLink RX0 5 objectInit) (by decide +kernel)) (hts (.instanceMethod objectInit) (by decide +kernel)) (hts _ (List.mem_of_getElem? (i := 3) rfl)) rfl (by rw [hml]; exact hl.1) rfl dX0_init_1 (Nat.le_of_ble_eq_true rfl) (Nat.le_of_ble_eq_true rfl) ?_
  refine W.eq (g2 := F0 m 4 ls []) rfl ?_
  refine lv_aload_n hx hb dX0_init_4 rfl (lv_at hl 0 rfl) ?_
  refine lv_sipush (v := nI 1024) hx hb dX0_init_5 (by decide) ?_
  refine zi_newa hx hb (hts (.arrayClass .int) (by decide +kernel)) hK 0 rfl hP hD hS hA (N := 1024) (by decide) (Nat.le_of_ble_eq_true rfl) (Nat.le_of_ble_eq_true rfl) dX0_init_8 (fun q8 H hP hD hS => ?_)
  have hP : va_P D vwCl [(h, .inr (1, [.null, .null, .null, .int (nI 0)])), (q8, aI cI 1024 (fun _ => 0))] H := hP
  have hD : va_D A [(h, .inr (1, [.null, .null, .null, .int (nI 0)])), (q8, aI cI 1024 (fun _ => 0))] := hD
  refine W.widen (k := 1) (n := 1024) (Nat.le_of_ble_eq_true rfl) (Nat.le_of_ble_eq_true rfl) ?_
  refine va_putF (D := D) (ci := 1) (v := .ref q8) (ty := .array .int) (C := RX0) (T := TX0) (N := 4) hx hb hts hinX0 tyX0 tyX0_ok nmX0 hown hK hP hD hS 0 rfl rfl 0 (by decide) (hts (.fieldLink RX0 11 "PassSearch$BinTable" "marks" "[I") (by decide +kernel)) (fun _ h9 => h9) rfl hin rfl (by decide +kernel) rfl rfl (Nat.le_of_ble_eq_true rfl) dX0_init_10 (fun H locs hP hD hS => ?_)
  have hP : va_P D vwCl [(h, .inr (1, [.ref q8, .null, .null, .int (nI 0)])), (q8, aI cI 1024 (fun _ => 0))] H := hP
  have hD : va_D A [(h, .inr (1, [.ref q8, .null, .null, .int (nI 0)])), (q8, aI cI 1024 (fun _ => 0))] := hD
  refine lv_aload_n hx hb dX0_init_13 rfl (lv_at hl 0 rfl) ?_
  refine lv_sipush (v := nI 1024) hx hb dX0_init_14 (by decide) ?_
  refine zi_newa hx hb (hts (.arrayClass .int) (by decide +kernel)) hK 0 rfl hP hD hS hA (N := 1024) (by decide) (Nat.le_of_ble_eq_true rfl) (Nat.le_of_ble_eq_true rfl) dX0_init_17 (fun q17 H hP hD hS => ?_)
  have hP : va_P D vwCl [(h, .inr (1, [.ref q8, .null, .null, .int (nI 0)])), (q8, aI cI 1024 (fun _ => 0)), (q17, aI cI 1024 (fun _ => 0))] H := hP
  have hD : va_D A [(h, .inr (1, [.ref q8, .null, .null, .int (nI 0)])), (q8, aI cI 1024 (fun _ => 0)), (q17, aI cI 1024 (fun _ => 0))] := hD
  refine W.widen (k := 2) (n := 2048) (Nat.le_of_ble_eq_true rfl) (Nat.le_of_ble_eq_true rfl) ?_
  refine va_putF (D := D) (ci := 1) (v := .ref q17) (ty := .array .int) (C := RX0) (T := TX0) (N := 4) hx hb hts hinX0 tyX0 tyX0_ok nmX0 hown hK hP hD hS 0 rfl rfl 1 (by decide) (hts (.fieldLink RX0 15 "PassSearch$BinTable" "values" "[I") (by decide +kernel)) (fun _ h9 => h9) rfl hin rfl (by decide +kernel) rfl rfl (Nat.le_of_ble_eq_true rfl) dX0_init_19 (fun H locs hP hD hS => ?_)
  have hP : va_P D vwCl [(h, .inr (1, [.ref q8, .ref q17, .null, .int (nI 0)])), (q8, aI cI 1024 (fun _ => 0)), (q17, aI cI 1024 (fun _ => 0))] H := hP
  have hD : va_D A [(h, .inr (1, [.ref q8, .ref q17, .null, .int (nI 0)])), (q8, aI cI 1024 (fun _ => 0)), (q17, aI cI 1024 (fun _ => 0))] := hD
  refine lv_aload_n hx hb dX0_init_22 rfl (lv_at hl 0 rfl) ?_
  refine lv_sipush (v := nI 512) hx hb dX0_init_23 (by decide) ?_
  refine zi_newa hx hb (hts (.arrayClass .int) (by decide +kernel)) hK 0 rfl hP hD hS hA (N := 512) (by decide) (Nat.le_of_ble_eq_true rfl) (Nat.le_of_ble_eq_true rfl) dX0_init_26 (fun q26 H hP hD hS => ?_)
  have hP : va_P D vwCl [(h, .inr (1, [.ref q8, .ref q17, .null, .int (nI 0)])), (q8, aI cI 1024 (fun _ => 0)), (q17, aI cI 1024 (fun _ => 0)), (q26, aI cI 512 (fun _ => 0))] H := hP
  have hD : va_D A [(h, .inr (1, [.ref q8, .ref q17, .null, .int (nI 0)])), (q8, aI cI 1024 (fun _ => 0)), (q17, aI cI 1024 (fun _ => 0)), (q26, aI cI 512 (fun _ => 0))] := hD
  refine W.widen (k := 3) (n := 2560) (Nat.le_of_ble_eq_true rfl) (Nat.le_of_ble_eq_true rfl) ?_
  refine va_putF (D := D) (ci := 1) (v := .ref q26) (ty := .array .int) (C := RX0) (T := TX0) (N := 4) hx hb hts hinX0 tyX0 tyX0_ok nmX0 hown hK hP hD hS 0 rfl rfl 2 (by decide) (hts (.fieldLink RX0 18 "PassSearch$BinTable" "taken" "[I") (by decide +kernel)) (fun _ h9 => h9) rfl hin rfl (by decide +kernel) rfl rfl (Nat.le_of_ble_eq_true rfl) dX0_init_28 (fun H locs hP hD hS => ?_)
  have hP : va_P D vwCl [(h, .inr (1, [.ref q8, .ref q17, .ref q26, .int (nI 0)])), (q8, aI cI 1024 (fun _ => 0)), (q17, aI cI 1024 (fun _ => 0)), (q26, aI cI 512 (fun _ => 0))] H := hP
  have hD : va_D A [(h, .inr (1, [.ref q8, .ref q17, .ref q26, .int (nI 0)])), (q8, aI cI 1024 (fun _ => 0)), (q17, aI cI 1024 (fun _ => 0)), (q26, aI cI 512 (fun _ => 0))] := hD
  exact hret ((q8, q17, q26)) _ _ _ _ hP hD hS (trivial) dX0_init_31
set_option maxHeartbeats 4000000 in
set_option maxRecDepth 100000 in
/-- no items -/
theorem c_X1_init (l : Launch) (D : va_G) (cI cJ : ClassId) (h : Nat) : WR_v l yX1_init wsX1_init ({ frames := 1, cells := 4, slots := 2048, locals := 24 } : Room) D [(h, .inr (2, [.null, .null, .null, .null, .int (nI 0), .int (nI 0)]))] [(cI, .int), (cJ, .long)] [.ref h] (fun (u : Nat × Nat × Nat × Nat) => [(h, .inr (2, [.ref u.1, .ref u.2.1, .ref u.2.2.1, .ref u.2.2.2, .int (nI 0), .int (nI 0)])), (u.1, aJ cJ 512 (fun _ => 0)), (u.2.1, aI cI 512 (fun _ => 0)), (u.2.2.1, aI cI 512 (fun _ => 0)), (u.2.2.2, aI cI 512 (fun _ => 0))]) (fun _ => True) 4 2048 := by
  refine WR_v.of (cc := cX1_init) (maxL := 1) (by decide) rfl (Nat.le_of_ble_eq_true rfl) ?_
  intro p e s m args below meth c ls A Q hx hb hml hts hown hA hP hD hK hl hin hret
  have hown : s.vm.findClass RX1 = some m.cls := hown
  have hl : lv_has ls 1 [(0, .ref h)] := hl
  have hS : va_S A s.heap s.heap [] := va_S.rf
  have hinX1 : ∀ w ∈ wsX10, w ∈ wsX1_init := by decide +kernel
  refine lv_aload_n hx hb dX1_init_0 rfl (lv_at hl 0 rfl) ?_
  refine W.objInit hx hb hown (hts (.methodLink RX1 3 objectInit) (by decide +kernel)) (hts (.instanceMethod objectInit) (by decide +kernel)) (hts _ (List.mem_of_getElem? (i := 3) rfl)) rfl (by rw [hml]; exact hl.1) rfl dX1_init_1 (Nat.le_of_ble_eq_true rfl) (Nat.le_of_ble_eq_true rfl) ?_
  refine W.eq (g2 := F0 m 4 ls []) rfl ?_
  refine lv_aload_n hx hb dX1_init_4 rfl (lv_at hl 0 rfl) ?_
  refine lv_sipush (v := nI 512) hx hb dX1_init_5 (by decide) ?_
  refine zl_newa hx hb (hts (.arrayClass .long) (by decide +kernel)) hK 1 rfl hP hD hS hA (N := 512) (by decide) (Nat.le_of_ble_eq_true rfl) (Nat.le_of_ble_eq_true rfl) dX1_init_8 (fun q8 H hP hD hS => ?_)
  have hP : va_P D vwCl [(h, .inr (2, [.null, .null, .null, .null, .int (nI 0), .int (nI 0)])), (q8, aJ cJ 512 (fun _ => 0))] H := hP
  have hD : va_D A [(h, .inr (2, [.null, .null, .null, .null, .int (nI 0), .int (nI 0)])), (q8, aJ cJ 512 (fun _ => 0))] := hD
  refine W.widen (k := 1) (n := 512) (Nat.le_of_ble_eq_true rfl) (Nat.le_of_ble_eq_true rfl) ?_
  refine va_putF (D := D) (ci := 2) (v := .ref q8) (ty := .array .long) (C := RX1) (T := TX1) (N := 6) hx hb hts hinX1 tyX1 tyX1_ok nmX1 hown hK hP hD hS 0 rfl rfl 0 (by decide) (hts (.fieldLink RX1 9 "PassSearch$Items" "points" "[J") (by decide +kernel)) (fun _ h9 => h9) rfl hin rfl (by decide +kernel) rfl rfl (Nat.le_of_ble_eq_true rfl) dX1_init_10 (fun H locs hP hD hS => ?_)
  have hP : va_P D vwCl [(h, .inr (2, [.ref q8, .null, .null, .null, .int (nI 0), .int (nI 0)])), (q8, aJ cJ 512 (fun _ => 0))] H := hP
  have hD : va_D A [(h, .inr (2, [.ref q8, .null, .null, .null, .int (nI 0), .int (nI 0)])), (q8, aJ cJ 512 (fun _ => 0))] := hD
  refine lv_aload_n hx hb dX1_init_13 rfl (lv_at hl 0 rfl) ?_
  refine lv_sipush (v := nI 512) hx hb dX1_init_14 (by decide) ?_
  refine zi_newa hx hb (hts (.arrayClass .int) (by decide +kernel)) hK 0 rfl hP hD hS hA (N := 512) (by decide) (Nat.le_of_ble_eq_true rfl) (Nat.le_of_ble_eq_true rfl) dX1_init_17 (fun q17 H hP hD hS => ?_)
  have hP : va_P D vwCl [(h, .inr (2, [.ref q8, .null, .null, .null, .int (nI 0), .int (nI 0)])), (q8, aJ cJ 512 (fun _ => 0)), (q17, aI cI 512 (fun _ => 0))] H := hP
  have hD : va_D A [(h, .inr (2, [.ref q8, .null, .null, .null, .int (nI 0), .int (nI 0)])), (q8, aJ cJ 512 (fun _ => 0)), (q17, aI cI 512 (fun _ => 0))] := hD
  refine W.widen (k := 2) (n := 1024) (Nat.le_of_ble_eq_true rfl) (Nat.le_of_ble_eq_true rfl) ?_
  refine va_putF (D := D) (ci := 2) (v := .ref q17) (ty := .array .int) (C := RX1) (T := TX1) (N := 6) hx hb hts hinX1 tyX1 tyX1_ok nmX1 hown hK hP hD hS 0 rfl rfl 1 (by decide) (hts (.fieldLink RX1 15 "PassSearch$Items" "firsts" "[I") (by decide +kernel)) (fun _ h9 => h9) rfl hin rfl (by decide +kernel) rfl rfl (Nat.le_of_ble_eq_true rfl) dX1_init_19 (fun H locs hP hD hS => ?_)
  have hP : va_P D vwCl [(h, .inr (2, [.ref q8, .ref q17, .null, .null, .int (nI 0), .int (nI 0)])), (q8, aJ cJ 512 (fun _ => 0)), (q17, aI cI 512 (fun _ => 0))] H := hP
  have hD : va_D A [(h, .inr (2, [.ref q8, .ref q17, .null, .null, .int (nI 0), .int (nI 0)])), (q8, aJ cJ 512 (fun _ => 0)), (q17, aI cI 512 (fun _ => 0))] := hD
  refine lv_aload_n hx hb dX1_init_22 rfl (lv_at hl 0 rfl) ?_
  refine lv_sipush (v := nI 512) hx hb dX1_init_23 (by decide) ?_
  refine zi_newa hx hb (hts (.arrayClass .int) (by decide +kernel)) hK 0 rfl hP hD hS hA (N := 512) (by decide) (Nat.le_of_ble_eq_true rfl) (Nat.le_of_ble_eq_true rfl) dX1_init_26 (fun q26 H hP hD hS => ?_)
  have hP : va_P D vwCl [(h, .inr (2, [.ref q8, .ref q17, .null, .null, .int (nI 0), .int (nI 0)])), (q8, aJ cJ 512 (fun _ => 0)), (q17, aI cI 512 (fun _ => 0)), (q26, aI cI 512 (fun _ => 0))] H := hP
  have hD : va_D A [(h, .inr (2, [.ref q8, .ref q17, .null, .null, .int (nI 0), .int (nI 0)])), (q8, aJ cJ 512 (fun _ => 0)), (q17, aI cI 512 (fun _ => 0)), (q26, aI cI 512 (fun _ => 0))] := hD
  refine W.widen (k := 3) (n := 1536) (Nat.le_of_ble_eq_true rfl) (Nat.le_of_ble_eq_true rfl) ?_
  refine va_putF (D := D) (ci := 2) (v := .ref q26) (ty := .array .int) (C := RX1) (T := TX1) (N := 6) hx hb hts hinX1 tyX1 tyX1_ok nmX1 hown hK hP hD hS 0 rfl rfl 2 (by decide) (hts (.fieldLink RX1 19 "PassSearch$Items" "counts" "[I") (by decide +kernel)) (fun _ h9 => h9) rfl hin rfl (by decide +kernel) rfl rfl (Nat.le_of_ble_eq_true rfl) dX1_init_28 (fun H locs hP hD hS => ?_)
  have hP : va_P D vwCl [(h, .inr (2, [.ref q8, .ref q17, .ref q26, .null, .int (nI 0), .int (nI 0)])), (q8, aJ cJ 512 (fun _ => 0)), (q17, aI cI 512 (fun _ => 0)), (q26, aI cI 512 (fun _ => 0))] H := hP
  have hD : va_D A [(h, .inr (2, [.ref q8, .ref q17, .ref q26, .null, .int (nI 0), .int (nI 0)])), (q8, aJ cJ 512 (fun _ => 0)), (q17, aI cI 512 (fun _ => 0)), (q26, aI cI 512 (fun _ => 0))] := hD
  refine lv_aload_n hx hb dX1_init_31 rfl (lv_at hl 0 rfl) ?_
  refine lv_sipush (v := nI 512) hx hb dX1_init_32 (by decide) ?_
  refine zi_newa hx hb (hts (.arrayClass .int) (by decide +kernel)) hK 0 rfl hP hD hS hA (N := 512) (by decide) (Nat.le_of_ble_eq_true rfl) (Nat.le_of_ble_eq_true rfl) dX1_init_35 (fun q35 H hP hD hS => ?_)
  have hP : va_P D vwCl [(h, .inr (2, [.ref q8, .ref q17, .ref q26, .null, .int (nI 0), .int (nI 0)])), (q8, aJ cJ 512 (fun _ => 0)), (q17, aI cI 512 (fun _ => 0)), (q26, aI cI 512 (fun _ => 0)), (q35, aI cI 512 (fun _ => 0))] H := hP
  have hD : va_D A [(h, .inr (2, [.ref q8, .ref q17, .ref q26, .null, .int (nI 0), .int (nI 0)])), (q8, aJ cJ 512 (fun _ => 0)), (q17, aI cI 512 (fun _ => 0)), (q26, aI cI 512 (fun _ => 0)), (q35, aI cI 512 (fun _ => 0))] := hD
  refine W.widen (k := 4) (n := 2048) (Nat.le_of_ble_eq_true rfl) (Nat.le_of_ble_eq_true rfl) ?_
  refine va_putF (D := D) (ci := 2) (v := .ref q35) (ty := .array .int) (C := RX1) (T := TX1) (N := 6) hx hb hts hinX1 tyX1 tyX1_ok nmX1 hown hK hP hD hS 0 rfl rfl 3 (by decide) (hts (.fieldLink RX1 22 "PassSearch$Items" "sorted" "[I") (by decide +kernel)) (fun _ h9 => h9) rfl hin rfl (by decide +kernel) rfl rfl (Nat.le_of_ble_eq_true rfl) dX1_init_37 (fun H locs hP hD hS => ?_)
  have hP : va_P D vwCl [(h, .inr (2, [.ref q8, .ref q17, .ref q26, .ref q35, .int (nI 0), .int (nI 0)])), (q8, aJ cJ 512 (fun _ => 0)), (q17, aI cI 512 (fun _ => 0)), (q26, aI cI 512 (fun _ => 0)), (q35, aI cI 512 (fun _ => 0))] H := hP
  have hD : va_D A [(h, .inr (2, [.ref q8, .ref q17, .ref q26, .ref q35, .int (nI 0), .int (nI 0)])), (q8, aJ cJ 512 (fun _ => 0)), (q17, aI cI 512 (fun _ => 0)), (q26, aI cI 512 (fun _ => 0)), (q35, aI cI 512 (fun _ => 0))] := hD
  exact hret ((q8, q17, q26, q35)) _ _ _ _ hP hD hS (trivial) dX1_init_40
set_option maxHeartbeats 4000000 in
set_option maxRecDepth 100000 in
/-- no plan -/
theorem c_X2_init (l : Launch) (D : va_G) (cI cJ : ClassId) (h bn : Nat) : WR_v l yX2_init wsX2_init ({ frames := 1, cells := 2, slots := 125, locals := 24 } : Room) D [(h, .inr (3, [.int (nI 0), .null, .null, .long (lN 0), .int (nI 0)]))] [(cI, .int), (cJ, .long)] [.ref h, .int (nI bn)] (fun (u : Nat × Nat) => [(h, .inr (3, [.int (nI bn), .ref u.1, .ref u.2, .long (lN 0), .int (nI 0)])), (u.1, aI cI 62 (fun _ => 0)), (u.2, aJ cJ 63 (fun _ => 0))]) (fun _ => True) 2 125 := by
  refine WR_v.of (cc := cX2_init) (maxL := 2) (by decide) rfl (Nat.le_of_ble_eq_true rfl) ?_
  intro p e s m args below meth c ls A Q hx hb hml hts hown hA hP hD hK hl hin hret
  have hown : s.vm.findClass RX2 = some m.cls := hown
  have hl : lv_has ls 2 [(0, .ref h), (1, .int (nI bn))] := hl
  have hS : va_S A s.heap s.heap [] := va_S.rf
  have hinX2 : ∀ w ∈ wsX20, w ∈ wsX2_init := by decide +kernel
  refine lv_aload_n hx hb dX2_init_0 rfl (lv_at hl 0 rfl) ?_
  refine W.objInit hx hb hown (hts (.methodLink RX2 3 objectInit) (by decide +kernel)) (hts (.instanceMethod objectInit) (by decide +kernel)) (hts _ (List.mem_of_getElem? (i := 3) rfl)) rfl (by rw [hml]; exact hl.1) rfl dX2_init_1 (Nat.le_of_ble_eq_true rfl) (Nat.le_of_ble_eq_true rfl) ?_
  refine W.eq (g2 := F0 m 4 ls []) rfl ?_
  refine lv_aload_n hx hb dX2_init_4 rfl (lv_at hl 0 rfl) ?_
  refine lv_bipush (v := nI 62) hx hb dX2_init_5 (by decide) ?_
  refine zi_newa hx hb (hts (.arrayClass .int) (by decide +kernel)) hK 0 rfl hP hD hS hA (N := 62) (by decide) (Nat.le_of_ble_eq_true rfl) (Nat.le_of_ble_eq_true rfl) dX2_init_7 (fun q7 H hP hD hS => ?_)
  have hP : va_P D vwCl [(h, .inr (3, [.int (nI 0), .null, .null, .long (lN 0), .int (nI 0)])), (q7, aI cI 62 (fun _ => 0))] H := hP
  have hD : va_D A [(h, .inr (3, [.int (nI 0), .null, .null, .long (lN 0), .int (nI 0)])), (q7, aI cI 62 (fun _ => 0))] := hD
  refine W.widen (k := 1) (n := 62) (Nat.le_of_ble_eq_true rfl) (Nat.le_of_ble_eq_true rfl) ?_
  refine va_putF (D := D) (ci := 3) (v := .ref q7) (ty := .array .int) (C := RX2) (T := TX2) (N := 5) hx hb hts hinX2 tyX2 tyX2_ok nmX2 hown hK hP hD hS 0 rfl rfl 1 (by decide) (hts (.fieldLink RX2 9 "PassSearch$Plan" "sizes" "[I") (by decide +kernel)) (fun _ h9 => h9) rfl hin rfl (by decide +kernel) rfl rfl (Nat.le_of_ble_eq_true rfl) dX2_init_9 (fun H locs hP hD hS => ?_)
  have hP : va_P D vwCl [(h, .inr (3, [.int (nI 0), .ref q7, .null, .long (lN 0), .int (nI 0)])), (q7, aI cI 62 (fun _ => 0))] H := hP
  have hD : va_D A [(h, .inr (3, [.int (nI 0), .ref q7, .null, .long (lN 0), .int (nI 0)])), (q7, aI cI 62 (fun _ => 0))] := hD
  refine lv_aload_n hx hb dX2_init_12 rfl (lv_at hl 0 rfl) ?_
  refine lv_bipush (v := nI 63) hx hb dX2_init_13 (by decide) ?_
  refine zl_newa hx hb (hts (.arrayClass .long) (by decide +kernel)) hK 1 rfl hP hD hS hA (N := 63) (by decide) (Nat.le_of_ble_eq_true rfl) (Nat.le_of_ble_eq_true rfl) dX2_init_15 (fun q15 H hP hD hS => ?_)
  have hP : va_P D vwCl [(h, .inr (3, [.int (nI 0), .ref q7, .null, .long (lN 0), .int (nI 0)])), (q7, aI cI 62 (fun _ => 0)), (q15, aJ cJ 63 (fun _ => 0))] H := hP
  have hD : va_D A [(h, .inr (3, [.int (nI 0), .ref q7, .null, .long (lN 0), .int (nI 0)])), (q7, aI cI 62 (fun _ => 0)), (q15, aJ cJ 63 (fun _ => 0))] := hD
  refine W.widen (k := 2) (n := 125) (Nat.le_of_ble_eq_true rfl) (Nat.le_of_ble_eq_true rfl) ?_
  refine va_putF (D := D) (ci := 3) (v := .ref q15) (ty := .array .long) (C := RX2) (T := TX2) (N := 5) hx hb hts hinX2 tyX2 tyX2_ok nmX2 hown hK hP hD hS 0 rfl rfl 2 (by decide) (hts (.fieldLink RX2 15 "PassSearch$Plan" "spans" "[J") (by decide +kernel)) (fun _ h9 => h9) rfl hin rfl (by decide +kernel) rfl rfl (Nat.le_of_ble_eq_true rfl) dX2_init_17 (fun H locs hP hD hS => ?_)
  have hP : va_P D vwCl [(h, .inr (3, [.int (nI 0), .ref q7, .ref q15, .long (lN 0), .int (nI 0)])), (q7, aI cI 62 (fun _ => 0)), (q15, aJ cJ 63 (fun _ => 0))] H := hP
  have hD : va_D A [(h, .inr (3, [.int (nI 0), .ref q7, .ref q15, .long (lN 0), .int (nI 0)])), (q7, aI cI 62 (fun _ => 0)), (q15, aJ cJ 63 (fun _ => 0))] := hD
  refine lv_aload_n hx hb dX2_init_20 rfl (lv_at hl 0 rfl) ?_
  refine lv_iload_n hx hb dX2_init_21 rfl (lv_at hl 1 rfl) ?_
  refine va_putF (D := D) (ci := 3) (v := .int (nI bn)) (ty := .int) (C := RX2) (T := TX2) (N := 5) hx hb hts hinX2 tyX2 tyX2_ok nmX2 hown hK hP hD hS 0 rfl rfl 0 (by decide) (hts (.fieldLink RX2 19 "PassSearch$Plan" "bins" "I") (by decide +kernel)) (fun _ h9 => h9) rfl hin rfl (by decide +kernel) rfl rfl (Nat.le_of_ble_eq_true rfl) dX2_init_22 (fun H locs hP hD hS => ?_)
  have hP : va_P D vwCl [(h, .inr (3, [.int (nI bn), .ref q7, .ref q15, .long (lN 0), .int (nI 0)])), (q7, aI cI 62 (fun _ => 0)), (q15, aJ cJ 63 (fun _ => 0))] H := hP
  have hD : va_D A [(h, .inr (3, [.int (nI bn), .ref q7, .ref q15, .long (lN 0), .int (nI 0)])), (q7, aI cI 62 (fun _ => 0)), (q15, aJ cJ 63 (fun _ => 0))] := hD
  exact hret ((q7, q15)) _ _ _ _ hP hD hS (trivial) dX2_init_25
set_option maxHeartbeats 4000000 in
set_option maxRecDepth 100000 in
/-- a new object -/
theorem c_X4_init (l : Launch) (D : va_G) (cI cJ : ClassId) (xo : Nat) (x : Int32) : WX_v (fun U => va_Nw (Cond.methodLinkNest RX4 34 yX1_init "PassSearch") U ∧ va_Nw (Cond.methodLinkNest RX4 41 yX0_init "PassSearch") U) l yX4_init wsX4_init ({ frames := 2, cells := 16, slots := 7312, locals := 45 } : Room) D [(xo, .inr (4, [.int (nI 0), .null, .null, .null, .null]))] [(cI, .int), (cJ, .long)] [.ref xo, .int x] (fun (u : Nat × Nat × Nat × Nat × Nat × Nat × Nat × Nat × Nat × Nat × Nat × Nat × Nat × Nat × Nat × Nat) => [(xo, .inr (4, [.int (nI (binsOf x)), .ref u.1, .ref u.2.2.2.1, .ref u.2.2.2.2.2.2.2.2.1, .ref u.2.2.2.2.2.2.2.2.2.2.2.2.1])), (u.1, .inr (3, [.int (nI (binsOf x)), .ref u.2.1, .ref u.2.2.1, .long (lN 0), .int (nI 0)])), (u.2.1, aI cI 62 (fun _ => 0)), (u.2.2.1, aJ cJ 63 (fun _ => 0)), (u.2.2.2.1, .inr (2, [.ref u.2.2.2.2.1, .ref u.2.2.2.2.2.1, .ref u.2.2.2.2.2.2.1, .ref u.2.2.2.2.2.2.2.1, .int (nI 0), .int (nI 0)])), (u.2.2.2.2.1, aJ cJ 512 (fun _ => 0)), (u.2.2.2.2.2.1, aI cI 512 (fun _ => 0)), (u.2.2.2.2.2.2.1, aI cI 512 (fun _ => 0)), (u.2.2.2.2.2.2.2.1, aI cI 512 (fun _ => 0)), (u.2.2.2.2.2.2.2.2.1, .inr (1, [.ref u.2.2.2.2.2.2.2.2.2.1, .ref u.2.2.2.2.2.2.2.2.2.2.1, .ref u.2.2.2.2.2.2.2.2.2.2.2.1, .int (nI 0)])), (u.2.2.2.2.2.2.2.2.2.1, aI cI 1024 (fun _ => 0)), (u.2.2.2.2.2.2.2.2.2.2.1, aI cI 1024 (fun _ => 0)), (u.2.2.2.2.2.2.2.2.2.2.2.1, aI cI 512 (fun _ => 0)), (u.2.2.2.2.2.2.2.2.2.2.2.2.1, .inr (1, [.ref u.2.2.2.2.2.2.2.2.2.2.2.2.2.1, .ref u.2.2.2.2.2.2.2.2.2.2.2.2.2.2.1, .ref u.2.2.2.2.2.2.2.2.2.2.2.2.2.2.2, .int (nI 0)])), (u.2.2.2.2.2.2.2.2.2.2.2.2.2.1, aI cI 1024 (fun _ => 0)), (u.2.2.2.2.2.2.2.2.2.2.2.2.2.2.1, aI cI 1024 (fun _ => 0)), (u.2.2.2.2.2.2.2.2.2.2.2.2.2.2.2, aI cI 512 (fun _ => 0))]) (fun _ => True) 16 7312 := by
  refine WX_v.of (cc := cX4_init) (maxL := 2) (by decide) rfl (Nat.le_of_ble_eq_true rfl) ?_
  intro p e s m args below meth c ls A Q hx hb hml hts hown hA hP hD hK hl hin hpx hret
  have hown : s.vm.findClass RX4 = some m.cls := hown
  have hl : lv_has ls 2 [(0, .ref xo), (1, .int x)] := hl
  have hS : va_S A s.heap s.heap [] := va_S.rf
  have hinX0 : ∀ w ∈ wsX00, w ∈ wsX4_init := by decide +kernel
  have hinX1 : ∀ w ∈ wsX10, w ∈ wsX4_init := by decide +kernel
  have hinX2 : ∀ w ∈ wsX20, w ∈ wsX4_init := by decide +kernel
  have hinX4 : ∀ w ∈ wsX40, w ∈ wsX4_init := by decide +kernel
  refine lv_aload_n hx hb dX4_init_0 rfl (lv_at hl 0 rfl) ?_
  refine W.objInit hx hb hown (hts (.methodLink RX4 1 objectInit) (by decide +kernel)) (hts (.instanceMethod objectInit) (by decide +kernel)) (hts _ (List.mem_of_getElem? (i := 3) rfl)) rfl (by rw [hml]; exact hl.1) rfl dX4_init_1 (Nat.le_of_ble_eq_true rfl) (Nat.le_of_ble_eq_true rfl) ?_
  refine W.eq (g2 := F0 m 4 ls []) rfl ?_
  refine lv_aload_n hx hb dX4_init_4 rfl (lv_at hl 0 rfl) ?_
  refine lv_iconst (v := nI 0) hx hb dX4_init_5 (by decide) ?_
  refine lv_iload_n hx hb dX4_init_6 rfl (lv_at hl 1 rfl) ?_
  refine lv_ldc (v := 65536) hx hb hown (hts (.constant RX4 9 (65536)) (by decide +kernel)) dX4_init_7 ?_
  refine W.eq (g2 := F0 m 9 ls [.int (nI 65536), .int x, .int (nI 0), .ref xo]) rfl ?_
  refine va_mmin hx hb (hml.trans hl.1.symm) hown (hts (.methodLink RX4 10 Lib.Math.min.name) (by decide +kernel)) (hts (.static Lib.Math.min.name) (by decide +kernel)) (hts (.initialized "java/lang/Math") (by decide +kernel)) (hts _ (List.mem_of_getElem? (i := 8) rfl)) (Nat.le_of_ble_eq_true rfl) (Nat.le_of_ble_eq_true rfl) (Nat.zero_le _) (Nat.zero_le _) dX4_init_9 ?_
  refine va_mmax hx hb (hml.trans hl.1.symm) hown (hts (.methodLink RX4 16 Lib.Math.max.name) (by decide +kernel)) (hts (.static Lib.Math.max.name) (by decide +kernel)) (hts (.initialized "java/lang/Math") (by decide +kernel)) (hts _ (List.mem_of_getElem? (i := 11) rfl)) (Nat.le_of_ble_eq_true rfl) (Nat.le_of_ble_eq_true rfl) (Nat.zero_le _) (Nat.zero_le _) dX4_init_12 ?_
  refine lv_topi (fun vm_ em_ => ?_)
  obtain rfl : vm_ = nI (binsOf x) := em_.trans (z_clamp x)
  refine va_putF (D := D) (ci := 4) (v := .int (nI (binsOf x))) (ty := .int) (C := RX4) (T := TX4) (N := 5) hx hb hts hinX4 tyX4 tyX4_ok nmX4 hown hK hP hD hS 0 rfl rfl 0 (by decide) (hts (.fieldLink RX4 19 "PassSearch" "bins" "I") (by decide +kernel)) (fun _ h9 => h9) rfl hin rfl (by decide +kernel) rfl rfl (Nat.le_of_ble_eq_true rfl) dX4_init_15 (fun H locs hP hD hS => ?_)
  have hP : va_P D vwCl [(xo, .inr (4, [.int (nI (binsOf x)), .null, .null, .null, .null]))] H := hP
  have hD : va_D A [(xo, .inr (4, [.int (nI (binsOf x)), .null, .null, .null, .null]))] := hD
  refine lv_aload_n hx hb dX4_init_18 rfl (lv_at hl 0 rfl) ?_
  refine va_new (D := D) (ci := 3) (fs := [.int (nI 0), .null, .null, .long (lN 0), .int (nI 0)]) (C := RX2) (T := TX2) (N := 5) hx hb hts hinX2 tyX2 tyX2_ok hown (hts (.classLink RX4 23 RX2) (by decide +kernel)) (hts (.instantiable RX2 5) (by decide +kernel)) (hts (.initialized RX2) (by decide +kernel)) hK hP hD hS hA rfl (fun j hj => by rcases (show j = 0 ∨ j = 1 ∨ j = 2 ∨ j = 3 ∨ j = 4 by omega) with rfl | rfl | rfl | rfl | rfl <;> rfl) (Nat.le_of_ble_eq_true rfl) (Nat.le_of_ble_eq_true rfl) dX4_init_19 (fun q19 H hP hD hS => ?_)
  have hP : va_P D vwCl [(xo, .inr (4, [.int (nI (binsOf x)), .null, .null, .null, .null])), (q19, .inr (3, [.int (nI 0), .null, .null, .long (lN 0), .int (nI 0)]))] H := hP
  have hD : va_D A [(xo, .inr (4, [.int (nI (binsOf x)), .null, .null, .null, .null])), (q19, .inr (3, [.int (nI 0), .null, .null, .long (lN 0), .int (nI 0)]))] := hD
  refine W.widen (k := 1) (n := 5) (Nat.le_of_ble_eq_true rfl) (Nat.le_of_ble_eq_true rfl) ?_
  refine lv_dup hx hb dX4_init_22 rfl ?_
  refine lv_aload_n hx hb dX4_init_23 rfl (lv_at hl 0 rfl) ?_
  refine va_get (D := D) (ci := 4) (v := .int (nI (binsOf x))) (C := RX4) (T := TX4) (N := 5) hx hb hts hinX4 hown hK hP 0 rfl rfl 0 (by decide) (hts (.fieldLink RX4 19 "PassSearch" "bins" "I") (by decide +kernel)) (fun _ h9 => h9) rfl dX4_init_24 ?_
  refine WR_v.callI (rest := [.ref q19, .ref xo]) (wr := [(xo, .inr (4, [.int (nI (binsOf x)), .null, .null, .null, .null]))]) (c_X2_init l D cI cJ q19 (binsOf x)) ⟨hx, hb, hml, hown, hts⟩ (cwI 1 hts gX4_init_X2_init rfl rfl rfl (hts (.initialized RX2) (by decide +kernel)) (hts (.methodLink RX4 25 yX2_init) (by decide +kernel)) (hts (.instanceMethod yX2_init) (by decide +kernel)) rfl (by decide +kernel) ⟨(Nat.le_of_ble_eq_true rfl), (Nat.le_of_ble_eq_true rfl)⟩) hK hP hD hS hA [1] [0] [0, 1] rfl rfl (by decide) (by decide) (by decide) rfl rfl hl.1 rfl (Nat.le_of_ble_eq_true rfl) dX4_init_27 ⟨(Nat.le_of_ble_eq_true rfl), (Nat.le_of_ble_eq_true rfl)⟩ (fun u1_ H locs e1_ hP hD hS => ?_)
  obtain ⟨pz, ps⟩ := u1_
  have hP : va_P D vwCl [(xo, .inr (4, [.int (nI (binsOf x)), .null, .null, .null, .null])), (q19, .inr (3, [.int (nI (binsOf x)), .ref pz, .ref ps, .long (lN 0), .int (nI 0)])), (pz, aI cI 62 (fun _ => 0)), (ps, aJ cJ 63 (fun _ => 0))] H := hP
  have hD : va_D A [(xo, .inr (4, [.int (nI (binsOf x)), .null, .null, .null, .null])), (q19, .inr (3, [.int (nI (binsOf x)), .ref pz, .ref ps, .long (lN 0), .int (nI 0)])), (pz, aI cI 62 (fun _ => 0)), (ps, aJ cJ 63 (fun _ => 0))] := hD
  refine W.widen (k := 3) (n := 130) (Nat.le_of_ble_eq_true rfl) (Nat.le_of_ble_eq_true rfl) ?_
  refine va_putF (D := D) (ci := 4) (v := .ref q19) (ty := .object "PassSearch$Plan") (C := RX4) (T := TX4) (N := 5) hx hb hts hinX4 tyX4 tyX4_ok nmX4 hown hK hP hD hS 0 rfl rfl 1 (by decide) (hts (.fieldLink RX4 28 "PassSearch" "plan" "LPassSearch$Plan;") (by decide +kernel)) (fun _ h9 => h9) rfl hin rfl (by decide +kernel) rfl rfl (Nat.le_of_ble_eq_true rfl) dX4_init_30 (fun H locs hP hD hS => ?_)
  have hP : va_P D vwCl [(xo, .inr (4, [.int (nI (binsOf x)), .ref q19, .null, .null, .null])), (q19, .inr (3, [.int (nI (binsOf x)), .ref pz, .ref ps, .long (lN 0), .int (nI 0)])), (pz, aI cI 62 (fun _ => 0)), (ps, aJ cJ 63 (fun _ => 0))] H := hP
  have hD : va_D A [(xo, .inr (4, [.int (nI (binsOf x)), .ref q19, .null, .null, .null])), (q19, .inr (3, [.int (nI (binsOf x)), .ref pz, .ref ps, .long (lN 0), .int (nI 0)])), (pz, aI cI 62 (fun _ => 0)), (ps, aJ cJ 63 (fun _ => 0))] := hD
  refine lv_aload_n hx hb dX4_init_33 rfl (lv_at hl 0 rfl) ?_
  refine va_new (D := D) (ci := 2) (fs := [.null, .null, .null, .null, .int (nI 0), .int (nI 0)]) (C := RX1) (T := TX1) (N := 6) hx hb hts hinX1 tyX1 tyX1_ok hown (hts (.classLink RX4 32 RX1) (by decide +kernel)) (hts (.instantiable RX1 6) (by decide +kernel)) (hts (.initialized RX1) (by decide +kernel)) hK hP hD hS hA rfl (fun j hj => by rcases (show j = 0 ∨ j = 1 ∨ j = 2 ∨ j = 3 ∨ j = 4 ∨ j = 5 by omega) with rfl | rfl | rfl | rfl | rfl | rfl <;> rfl) (Nat.le_of_ble_eq_true rfl) (Nat.le_of_ble_eq_true rfl) dX4_init_34 (fun q34 H hP hD hS => ?_)
  have hP : va_P D vwCl [(xo, .inr (4, [.int (nI (binsOf x)), .ref q19, .null, .null, .null])), (q19, .inr (3, [.int (nI (binsOf x)), .ref pz, .ref ps, .long (lN 0), .int (nI 0)])), (pz, aI cI 62 (fun _ => 0)), (ps, aJ cJ 63 (fun _ => 0)), (q34, .inr (2, [.null, .null, .null, .null, .int (nI 0), .int (nI 0)]))] H := hP
  have hD : va_D A [(xo, .inr (4, [.int (nI (binsOf x)), .ref q19, .null, .null, .null])), (q19, .inr (3, [.int (nI (binsOf x)), .ref pz, .ref ps, .long (lN 0), .int (nI 0)])), (pz, aI cI 62 (fun _ => 0)), (ps, aJ cJ 63 (fun _ => 0)), (q34, .inr (2, [.null, .null, .null, .null, .int (nI 0), .int (nI 0)]))] := hD
  refine W.widen (k := 4) (n := 136) (Nat.le_of_ble_eq_true rfl) (Nat.le_of_ble_eq_true rfl) ?_
  refine lv_dup hx hb dX4_init_37 rfl ?_
  refine WR_v.callN (rest := [.ref q34, .ref xo]) (wr := [(xo, .inr (4, [.int (nI (binsOf x)), .ref q19, .null, .null, .null])), (q19, .inr (3, [.int (nI (binsOf x)), .ref pz, .ref ps, .long (lN 0), .int (nI 0)])), (pz, aI cI 62 (fun _ => 0)), (ps, aJ cJ 63 (fun _ => 0))]) (c_X1_init l D cI cJ q34) ⟨hx, hb, hml, hown, hts⟩ (⟨va_cnB 0 hts gX4_init_X1_init_n34 rfl rfl rfl hpx.1 (hts (.initialized RX1) (by decide +kernel)) (by decide +kernel) ⟨(Nat.le_of_ble_eq_true rfl), (Nat.le_of_ble_eq_true rfl)⟩, rfl, hts (.instanceMethod yX1_init) (by decide +kernel)⟩) hK hP hD hS hA [4] [0, 1, 2, 3] [0, 1] rfl rfl (by decide) (by decide) (by decide) rfl rfl hl.1 rfl (Nat.le_of_ble_eq_true rfl) dX4_init_38 ⟨(Nat.le_of_ble_eq_true rfl), (Nat.le_of_ble_eq_true rfl)⟩ (fun u2_ H locs e2_ hP hD hS => ?_)
  obtain ⟨ia, ib, ic, id⟩ := u2_
  have hP : va_P D vwCl [(xo, .inr (4, [.int (nI (binsOf x)), .ref q19, .null, .null, .null])), (q19, .inr (3, [.int (nI (binsOf x)), .ref pz, .ref ps, .long (lN 0), .int (nI 0)])), (pz, aI cI 62 (fun _ => 0)), (ps, aJ cJ 63 (fun _ => 0)), (q34, .inr (2, [.ref ia, .ref ib, .ref ic, .ref id, .int (nI 0), .int (nI 0)])), (ia, aJ cJ 512 (fun _ => 0)), (ib, aI cI 512 (fun _ => 0)), (ic, aI cI 512 (fun _ => 0)), (id, aI cI 512 (fun _ => 0))] H := hP
  have hD : va_D A [(xo, .inr (4, [.int (nI (binsOf x)), .ref q19, .null, .null, .null])), (q19, .inr (3, [.int (nI (binsOf x)), .ref pz, .ref ps, .long (lN 0), .int (nI 0)])), (pz, aI cI 62 (fun _ => 0)), (ps, aJ cJ 63 (fun _ => 0)), (q34, .inr (2, [.ref ia, .ref ib, .ref ic, .ref id, .int (nI 0), .int (nI 0)])), (ia, aJ cJ 512 (fun _ => 0)), (ib, aI cI 512 (fun _ => 0)), (ic, aI cI 512 (fun _ => 0)), (id, aI cI 512 (fun _ => 0))] := hD
  refine W.widen (k := 8) (n := 2184) (Nat.le_of_ble_eq_true rfl) (Nat.le_of_ble_eq_true rfl) ?_
  refine va_putF (D := D) (ci := 4) (v := .ref q34) (ty := .object "PassSearch$Items") (C := RX4) (T := TX4) (N := 5) hx hb hts hinX4 tyX4 tyX4_ok nmX4 hown hK hP hD hS 0 rfl rfl 2 (by decide) (hts (.fieldLink RX4 35 "PassSearch" "items" "LPassSearch$Items;") (by decide +kernel)) (fun _ h9 => h9) rfl hin rfl (by decide +kernel) rfl rfl (Nat.le_of_ble_eq_true rfl) dX4_init_41 (fun H locs hP hD hS => ?_)
  have hP : va_P D vwCl [(xo, .inr (4, [.int (nI (binsOf x)), .ref q19, .ref q34, .null, .null])), (q19, .inr (3, [.int (nI (binsOf x)), .ref pz, .ref ps, .long (lN 0), .int (nI 0)])), (pz, aI cI 62 (fun _ => 0)), (ps, aJ cJ 63 (fun _ => 0)), (q34, .inr (2, [.ref ia, .ref ib, .ref ic, .ref id, .int (nI 0), .int (nI 0)])), (ia, aJ cJ 512 (fun _ => 0)), (ib, aI cI 512 (fun _ => 0)), (ic, aI cI 512 (fun _ => 0)), (id, aI cI 512 (fun _ => 0))] H := hP
  have hD : va_D A [(xo, .inr (4, [.int (nI (binsOf x)), .ref q19, .ref q34, .null, .null])), (q19, .inr (3, [.int (nI (binsOf x)), .ref pz, .ref ps, .long (lN 0), .int (nI 0)])), (pz, aI cI 62 (fun _ => 0)), (ps, aJ cJ 63 (fun _ => 0)), (q34, .inr (2, [.ref ia, .ref ib, .ref ic, .ref id, .int (nI 0), .int (nI 0)])), (ia, aJ cJ 512 (fun _ => 0)), (ib, aI cI 512 (fun _ => 0)), (ic, aI cI 512 (fun _ => 0)), (id, aI cI 512 (fun _ => 0))] := hD
  refine lv_aload_n hx hb dX4_init_44 rfl (lv_at hl 0 rfl) ?_
  refine va_new (D := D) (ci := 1) (fs := [.null, .null, .null, .int (nI 0)]) (C := RX0) (T := TX0) (N := 4) hx hb hts hinX0 tyX0 tyX0_ok hown (hts (.classLink RX4 39 RX0) (by decide +kernel)) (hts (.instantiable RX0 4) (by decide +kernel)) (hts (.initialized RX0) (by decide +kernel)) hK hP hD hS hA rfl (fun j hj => by rcases (show j = 0 ∨ j = 1 ∨ j = 2 ∨ j = 3 by omega) with rfl | rfl | rfl | rfl <;> rfl) (Nat.le_of_ble_eq_true rfl) (Nat.le_of_ble_eq_true rfl) dX4_init_45 (fun q45 H hP hD hS => ?_)
  have hP : va_P D vwCl [(xo, .inr (4, [.int (nI (binsOf x)), .ref q19, .ref q34, .null, .null])), (q19, .inr (3, [.int (nI (binsOf x)), .ref pz, .ref ps, .long (lN 0), .int (nI 0)])), (pz, aI cI 62 (fun _ => 0)), (ps, aJ cJ 63 (fun _ => 0)), (q34, .inr (2, [.ref ia, .ref ib, .ref ic, .ref id, .int (nI 0), .int (nI 0)])), (ia, aJ cJ 512 (fun _ => 0)), (ib, aI cI 512 (fun _ => 0)), (ic, aI cI 512 (fun _ => 0)), (id, aI cI 512 (fun _ => 0)), (q45, .inr (1, [.null, .null, .null, .int (nI 0)]))] H := hP
  have hD : va_D A [(xo, .inr (4, [.int (nI (binsOf x)), .ref q19, .ref q34, .null, .null])), (q19, .inr (3, [.int (nI (binsOf x)), .ref pz, .ref ps, .long (lN 0), .int (nI 0)])), (pz, aI cI 62 (fun _ => 0)), (ps, aJ cJ 63 (fun _ => 0)), (q34, .inr (2, [.ref ia, .ref ib, .ref ic, .ref id, .int (nI 0), .int (nI 0)])), (ia, aJ cJ 512 (fun _ => 0)), (ib, aI cI 512 (fun _ => 0)), (ic, aI cI 512 (fun _ => 0)), (id, aI cI 512 (fun _ => 0)), (q45, .inr (1, [.null, .null, .null, .int (nI 0)]))] := hD
  refine W.widen (k := 9) (n := 2188) (Nat.le_of_ble_eq_true rfl) (Nat.le_of_ble_eq_true rfl) ?_
  refine lv_dup hx hb dX4_init_48 rfl ?_
  refine WR_v.callN (rest := [.ref q45, .ref xo]) (wr := [(xo, .inr (4, [.int (nI (binsOf x)), .ref q19, .ref q34, .null, .null])), (q19, .inr (3, [.int (nI (binsOf x)), .ref pz, .ref ps, .long (lN 0), .int (nI 0)])), (pz, aI cI 62 (fun _ => 0)), (ps, aJ cJ 63 (fun _ => 0)), (q34, .inr (2, [.ref ia, .ref ib, .ref ic, .ref id, .int (nI 0), .int (nI 0)])), (ia, aJ cJ 512 (fun _ => 0)), (ib, aI cI 512 (fun _ => 0)), (ic, aI cI 512 (fun _ => 0)), (id, aI cI 512 (fun _ => 0))]) (c_X0_init l D cI cJ q45) ⟨hx, hb, hml, hown, hts⟩ (⟨va_cnB 0 hts gX4_init_X0_init_n41 rfl rfl rfl hpx.2 (hts (.initialized RX0) (by decide +kernel)) (by decide +kernel) ⟨(Nat.le_of_ble_eq_true rfl), (Nat.le_of_ble_eq_true rfl)⟩, rfl, hts (.instanceMethod yX0_init) (by decide +kernel)⟩) hK hP hD hS hA [9] [0, 1, 2, 3, 4, 5, 6, 7, 8] [0, 1] rfl rfl (by decide) (by decide) (by decide) rfl rfl hl.1 rfl (Nat.le_of_ble_eq_true rfl) dX4_init_49 ⟨(Nat.le_of_ble_eq_true rfl), (Nat.le_of_ble_eq_true rfl)⟩ (fun u3_ H locs e3_ hP hD hS => ?_)
  obtain ⟨ma, va, ka⟩ := u3_
  have hP : va_P D vwCl [(xo, .inr (4, [.int (nI (binsOf x)), .ref q19, .ref q34, .null, .null])), (q19, .inr (3, [.int (nI (binsOf x)), .ref pz, .ref ps, .long (lN 0), .int (nI 0)])), (pz, aI cI 62 (fun _ => 0)), (ps, aJ cJ 63 (fun _ => 0)), (q34, .inr (2, [.ref ia, .ref ib, .ref ic, .ref id, .int (nI 0), .int (nI 0)])), (ia, aJ cJ 512 (fun _ => 0)), (ib, aI cI 512 (fun _ => 0)), (ic, aI cI 512 (fun _ => 0)), (id, aI cI 512 (fun _ => 0)), (q45, .inr (1, [.ref ma, .ref va, .ref ka, .int (nI 0)])), (ma, aI cI 1024 (fun _ => 0)), (va, aI cI 1024 (fun _ => 0)), (ka, aI cI 512 (fun _ => 0))] H := hP
  have hD : va_D A [(xo, .inr (4, [.int (nI (binsOf x)), .ref q19, .ref q34, .null, .null])), (q19, .inr (3, [.int (nI (binsOf x)), .ref pz, .ref ps, .long (lN 0), .int (nI 0)])), (pz, aI cI 62 (fun _ => 0)), (ps, aJ cJ 63 (fun _ => 0)), (q34, .inr (2, [.ref ia, .ref ib, .ref ic, .ref id, .int (nI 0), .int (nI 0)])), (ia, aJ cJ 512 (fun _ => 0)), (ib, aI cI 512 (fun _ => 0)), (ic, aI cI 512 (fun _ => 0)), (id, aI cI 512 (fun _ => 0)), (q45, .inr (1, [.ref ma, .ref va, .ref ka, .int (nI 0)])), (ma, aI cI 1024 (fun _ => 0)), (va, aI cI 1024 (fun _ => 0)), (ka, aI cI 512 (fun _ => 0))] := hD
  refine W.widen (k := 12) (n := 4748) (Nat.le_of_ble_eq_true rfl) (Nat.le_of_ble_eq_true rfl) ?_
  refine va_putF (D := D) (ci := 4) (v := .ref q45) (ty := .object "PassSearch$BinTable") (C := RX4) (T := TX4) (N := 5) hx hb hts hinX4 tyX4 tyX4_ok nmX4 hown hK hP hD hS 0 rfl rfl 3 (by decide) (hts (.fieldLink RX4 42 "PassSearch" "heights" "LPassSearch$BinTable;") (by decide +kernel)) (fun _ h9 => h9) rfl hin rfl (by decide +kernel) rfl rfl (Nat.le_of_ble_eq_true rfl) dX4_init_52 (fun H locs hP hD hS => ?_)
  have hP : va_P D vwCl [(xo, .inr (4, [.int (nI (binsOf x)), .ref q19, .ref q34, .ref q45, .null])), (q19, .inr (3, [.int (nI (binsOf x)), .ref pz, .ref ps, .long (lN 0), .int (nI 0)])), (pz, aI cI 62 (fun _ => 0)), (ps, aJ cJ 63 (fun _ => 0)), (q34, .inr (2, [.ref ia, .ref ib, .ref ic, .ref id, .int (nI 0), .int (nI 0)])), (ia, aJ cJ 512 (fun _ => 0)), (ib, aI cI 512 (fun _ => 0)), (ic, aI cI 512 (fun _ => 0)), (id, aI cI 512 (fun _ => 0)), (q45, .inr (1, [.ref ma, .ref va, .ref ka, .int (nI 0)])), (ma, aI cI 1024 (fun _ => 0)), (va, aI cI 1024 (fun _ => 0)), (ka, aI cI 512 (fun _ => 0))] H := hP
  have hD : va_D A [(xo, .inr (4, [.int (nI (binsOf x)), .ref q19, .ref q34, .ref q45, .null])), (q19, .inr (3, [.int (nI (binsOf x)), .ref pz, .ref ps, .long (lN 0), .int (nI 0)])), (pz, aI cI 62 (fun _ => 0)), (ps, aJ cJ 63 (fun _ => 0)), (q34, .inr (2, [.ref ia, .ref ib, .ref ic, .ref id, .int (nI 0), .int (nI 0)])), (ia, aJ cJ 512 (fun _ => 0)), (ib, aI cI 512 (fun _ => 0)), (ic, aI cI 512 (fun _ => 0)), (id, aI cI 512 (fun _ => 0)), (q45, .inr (1, [.ref ma, .ref va, .ref ka, .int (nI 0)])), (ma, aI cI 1024 (fun _ => 0)), (va, aI cI 1024 (fun _ => 0)), (ka, aI cI 512 (fun _ => 0))] := hD
  refine lv_aload_n hx hb dX4_init_55 rfl (lv_at hl 0 rfl) ?_
  refine va_new (D := D) (ci := 1) (fs := [.null, .null, .null, .int (nI 0)]) (C := RX0) (T := TX0) (N := 4) hx hb hts hinX0 tyX0 tyX0_ok hown (hts (.classLink RX4 39 RX0) (by decide +kernel)) (hts (.instantiable RX0 4) (by decide +kernel)) (hts (.initialized RX0) (by decide +kernel)) hK hP hD hS hA rfl (fun j hj => by rcases (show j = 0 ∨ j = 1 ∨ j = 2 ∨ j = 3 by omega) with rfl | rfl | rfl | rfl <;> rfl) (Nat.le_of_ble_eq_true rfl) (Nat.le_of_ble_eq_true rfl) dX4_init_56 (fun q56 H hP hD hS => ?_)
  have hP : va_P D vwCl [(xo, .inr (4, [.int (nI (binsOf x)), .ref q19, .ref q34, .ref q45, .null])), (q19, .inr (3, [.int (nI (binsOf x)), .ref pz, .ref ps, .long (lN 0), .int (nI 0)])), (pz, aI cI 62 (fun _ => 0)), (ps, aJ cJ 63 (fun _ => 0)), (q34, .inr (2, [.ref ia, .ref ib, .ref ic, .ref id, .int (nI 0), .int (nI 0)])), (ia, aJ cJ 512 (fun _ => 0)), (ib, aI cI 512 (fun _ => 0)), (ic, aI cI 512 (fun _ => 0)), (id, aI cI 512 (fun _ => 0)), (q45, .inr (1, [.ref ma, .ref va, .ref ka, .int (nI 0)])), (ma, aI cI 1024 (fun _ => 0)), (va, aI cI 1024 (fun _ => 0)), (ka, aI cI 512 (fun _ => 0)), (q56, .inr (1, [.null, .null, .null, .int (nI 0)]))] H := hP
  have hD : va_D A [(xo, .inr (4, [.int (nI (binsOf x)), .ref q19, .ref q34, .ref q45, .null])), (q19, .inr (3, [.int (nI (binsOf x)), .ref pz, .ref ps, .long (lN 0), .int (nI 0)])), (pz, aI cI 62 (fun _ => 0)), (ps, aJ cJ 63 (fun _ => 0)), (q34, .inr (2, [.ref ia, .ref ib, .ref ic, .ref id, .int (nI 0), .int (nI 0)])), (ia, aJ cJ 512 (fun _ => 0)), (ib, aI cI 512 (fun _ => 0)), (ic, aI cI 512 (fun _ => 0)), (id, aI cI 512 (fun _ => 0)), (q45, .inr (1, [.ref ma, .ref va, .ref ka, .int (nI 0)])), (ma, aI cI 1024 (fun _ => 0)), (va, aI cI 1024 (fun _ => 0)), (ka, aI cI 512 (fun _ => 0)), (q56, .inr (1, [.null, .null, .null, .int (nI 0)]))] := hD
  refine W.widen (k := 13) (n := 4752) (Nat.le_of_ble_eq_true rfl) (Nat.le_of_ble_eq_true rfl) ?_
  refine lv_dup hx hb dX4_init_59 rfl ?_
  refine WR_v.callN (rest := [.ref q56, .ref xo]) (wr := [(xo, .inr (4, [.int (nI (binsOf x)), .ref q19, .ref q34, .ref q45, .null])), (q19, .inr (3, [.int (nI (binsOf x)), .ref pz, .ref ps, .long (lN 0), .int (nI 0)])), (pz, aI cI 62 (fun _ => 0)), (ps, aJ cJ 63 (fun _ => 0)), (q34, .inr (2, [.ref ia, .ref ib, .ref ic, .ref id, .int (nI 0), .int (nI 0)])), (ia, aJ cJ 512 (fun _ => 0)), (ib, aI cI 512 (fun _ => 0)), (ic, aI cI 512 (fun _ => 0)), (id, aI cI 512 (fun _ => 0)), (q45, .inr (1, [.ref ma, .ref va, .ref ka, .int (nI 0)])), (ma, aI cI 1024 (fun _ => 0)), (va, aI cI 1024 (fun _ => 0)), (ka, aI cI 512 (fun _ => 0))]) (c_X0_init l D cI cJ q56) ⟨hx, hb, hml, hown, hts⟩ (⟨va_cnB 0 hts gX4_init_X0_init_n41 rfl rfl rfl hpx.2 (hts (.initialized RX0) (by decide +kernel)) (by decide +kernel) ⟨(Nat.le_of_ble_eq_true rfl), (Nat.le_of_ble_eq_true rfl)⟩, rfl, hts (.instanceMethod yX0_init) (by decide +kernel)⟩) hK hP hD hS hA [13] [0, 1, 2, 3, 4, 5, 6, 7, 8, 9, 10, 11, 12] [0, 1] rfl rfl (by decide) (by decide) (by decide) rfl rfl hl.1 rfl (Nat.le_of_ble_eq_true rfl) dX4_init_60 ⟨(Nat.le_of_ble_eq_true rfl), (Nat.le_of_ble_eq_true rfl)⟩ (fun u4_ H locs e4_ hP hD hS => ?_)
  obtain ⟨mb, vb, kb⟩ := u4_
  have hP : va_P D vwCl [(xo, .inr (4, [.int (nI (binsOf x)), .ref q19, .ref q34, .ref q45, .null])), (q19, .inr (3, [.int (nI (binsOf x)), .ref pz, .ref ps, .long (lN 0), .int (nI 0)])), (pz, aI cI 62 (fun _ => 0)), (ps, aJ cJ 63 (fun _ => 0)), (q34, .inr (2, [.ref ia, .ref ib, .ref ic, .ref id, .int (nI 0), .int (nI 0)])), (ia, aJ cJ 512 (fun _ => 0)), (ib, aI cI 512 (fun _ => 0)), (ic, aI cI 512 (fun _ => 0)), (id, aI cI 512 (fun _ => 0)), (q45, .inr (1, [.ref ma, .ref va, .ref ka, .int (nI 0)])), (ma, aI cI 1024 (fun _ => 0)), (va, aI cI 1024 (fun _ => 0)), (ka, aI cI 512 (fun _ => 0)), (q56, .inr (1, [.ref mb, .ref vb, .ref kb, .int (nI 0)])), (mb, aI cI 1024 (fun _ => 0)), (vb, aI cI 1024 (fun _ => 0)), (kb, aI cI 512 (fun _ => 0))] H := hP
  have hD : va_D A [(xo, .inr (4, [.int (nI (binsOf x)), .ref q19, .ref q34, .ref q45, .null])), (q19, .inr (3, [.int (nI (binsOf x)), .ref pz, .ref ps, .long (lN 0), .int (nI 0)])), (pz, aI cI 62 (fun _ => 0)), (ps, aJ cJ 63 (fun _ => 0)), (q34, .inr (2, [.ref ia, .ref ib, .ref ic, .ref id, .int (nI 0), .int (nI 0)])), (ia, aJ cJ 512 (fun _ => 0)), (ib, aI cI 512 (fun _ => 0)), (ic, aI cI 512 (fun _ => 0)), (id, aI cI 512 (fun _ => 0)), (q45, .inr (1, [.ref ma, .ref va, .ref ka, .int (nI 0)])), (ma, aI cI 1024 (fun _ => 0)), (va, aI cI 1024 (fun _ => 0)), (ka, aI cI 512 (fun _ => 0)), (q56, .inr (1, [.ref mb, .ref vb, .ref kb, .int (nI 0)])), (mb, aI cI 1024 (fun _ => 0)), (vb, aI cI 1024 (fun _ => 0)), (kb, aI cI 512 (fun _ => 0))] := hD
  refine W.widen (k := 16) (n := 7312) (Nat.le_of_ble_eq_true rfl) (Nat.le_of_ble_eq_true rfl) ?_
  refine va_putF (D := D) (ci := 4) (v := .ref q56) (ty := .object "PassSearch$BinTable") (C := RX4) (T := TX4) (N := 5) hx hb hts hinX4 tyX4 tyX4_ok nmX4 hown hK hP hD hS 0 rfl rfl 4 (by decide) (hts (.fieldLink RX4 46 "PassSearch" "tally" "LPassSearch$BinTable;") (by decide +kernel)) (fun _ h9 => h9) rfl hin rfl (by decide +kernel) rfl rfl (Nat.le_of_ble_eq_true rfl) dX4_init_63 (fun H locs hP hD hS => ?_)
  have hP : va_P D vwCl [(xo, .inr (4, [.int (nI (binsOf x)), .ref q19, .ref q34, .ref q45, .ref q56])), (q19, .inr (3, [.int (nI (binsOf x)), .ref pz, .ref ps, .long (lN 0), .int (nI 0)])), (pz, aI cI 62 (fun _ => 0)), (ps, aJ cJ 63 (fun _ => 0)), (q34, .inr (2, [.ref ia, .ref ib, .ref ic, .ref id, .int (nI 0), .int (nI 0)])), (ia, aJ cJ 512 (fun _ => 0)), (ib, aI cI 512 (fun _ => 0)), (ic, aI cI 512 (fun _ => 0)), (id, aI cI 512 (fun _ => 0)), (q45, .inr (1, [.ref ma, .ref va, .ref ka, .int (nI 0)])), (ma, aI cI 1024 (fun _ => 0)), (va, aI cI 1024 (fun _ => 0)), (ka, aI cI 512 (fun _ => 0)), (q56, .inr (1, [.ref mb, .ref vb, .ref kb, .int (nI 0)])), (mb, aI cI 1024 (fun _ => 0)), (vb, aI cI 1024 (fun _ => 0)), (kb, aI cI 512 (fun _ => 0))] H := hP
  have hD : va_D A [(xo, .inr (4, [.int (nI (binsOf x)), .ref q19, .ref q34, .ref q45, .ref q56])), (q19, .inr (3, [.int (nI (binsOf x)), .ref pz, .ref ps, .long (lN 0), .int (nI 0)])), (pz, aI cI 62 (fun _ => 0)), (ps, aJ cJ 63 (fun _ => 0)), (q34, .inr (2, [.ref ia, .ref ib, .ref ic, .ref id, .int (nI 0), .int (nI 0)])), (ia, aJ cJ 512 (fun _ => 0)), (ib, aI cI 512 (fun _ => 0)), (ic, aI cI 512 (fun _ => 0)), (id, aI cI 512 (fun _ => 0)), (q45, .inr (1, [.ref ma, .ref va, .ref ka, .int (nI 0)])), (ma, aI cI 1024 (fun _ => 0)), (va, aI cI 1024 (fun _ => 0)), (ka, aI cI 512 (fun _ => 0)), (q56, .inr (1, [.ref mb, .ref vb, .ref kb, .int (nI 0)])), (mb, aI cI 1024 (fun _ => 0)), (vb, aI cI 1024 (fun _ => 0)), (kb, aI cI 512 (fun _ => 0))] := hD
  exact hret ((q19, pz, ps, q34, ia, ib, ic, id, q45, ma, va, ka, q56, mb, vb, kb)) _ _ _ _ hP hD hS (trivial) dX4_init_66
set_option maxHeartbeats 4000000 in
set_option maxRecDepth 100000 in
/-- a new reference -/
theorem c_X5_init (l : Launch) (D : va_G) (cI cJ : ClassId) (xm : Nat) (x : Int32) : WR_v l yX5_init wsX5_init ({ frames := 1, cells := 5, slots := 139134, locals := 24 } : Room) D [(xm, .inr (5, [.int (nI 0), .int (nI 0), .null, .null, .int (nI 0), .long (lN 0), .int (nI 0), .null, .int (nI 0), .null, .null]))] [(cI, .int), (cJ, .long)] [.ref xm, .int x] (fun (u : Nat × Nat × Nat × Nat × Nat × (Nat → Nat)) => [(xm, .inr (5, [.int (nI 0), .int (nI (binsOf x)), .ref u.1, .ref u.2.1, .int (nI 0), .long (lN 0), .int (nI 0), .ref u.2.2.1, .int (nI 0), .ref u.2.2.2.1, .ref u.2.2.2.2.1])), (u.1, aI cI 65536 u.2.2.2.2.2), (u.2.1, aI cI 65536 (fun _ => 0)), (u.2.2.1, aI cI 62 (fun _ => 0)), (u.2.2.2.1, aJ cJ 4000 (fun _ => 0)), (u.2.2.2.2.1, aI cI 4000 (fun _ => 0))]) (fun u => ∀ b, b < 65536 → u.2.2.2.2.2 b = 1000) 5 139134 := by
  refine WR_v.of (cc := cX5_init) (maxL := 3) (by decide) rfl (Nat.le_of_ble_eq_true rfl) ?_
  intro p e s m args below meth c ls A Q hx hb hml hts hown hA hP hD hK hl hin hret
  have hown : s.vm.findClass RX5 = some m.cls := hown
  have hl : lv_has ls 3 [(0, .ref xm), (1, .int x)] := hl
  have hS : va_S A s.heap s.heap [] := va_S.rf
  have hinX5 : ∀ w ∈ wsX50, w ∈ wsX5_init := by decide +kernel
  refine lv_aload_n hx hb dX5_init_0 rfl (lv_at hl 0 rfl) ?_
  refine W.objInit hx hb hown (hts (.methodLink RX5 1 objectInit) (by decide +kernel)) (hts (.instanceMethod objectInit) (by decide +kernel)) (hts _ (List.mem_of_getElem? (i := 3) rfl)) rfl (by rw [hml]; exact hl.1) rfl dX5_init_1 (Nat.le_of_ble_eq_true rfl) (Nat.le_of_ble_eq_true rfl) ?_
  refine W.eq (g2 := F0 m 4 ls []) rfl ?_
  refine lv_aload_n hx hb dX5_init_4 rfl (lv_at hl 0 rfl) ?_
  refine lv_ldc (v := 65536) hx hb hown (hts (.constant RX5 7 (65536)) (by decide +kernel)) dX5_init_5 ?_
  refine W.eq (g2 := F0 m 7 ls [.int (nI 65536), .ref xm]) rfl ?_
  refine zi_newa hx hb (hts (.arrayClass .int) (by decide +kernel)) hK 0 rfl hP hD hS hA (N := 65536) (by decide) (Nat.le_of_ble_eq_true rfl) (Nat.le_of_ble_eq_true rfl) dX5_init_7 (fun q7 H hP hD hS => ?_)
  have hP : va_P D vwCl [(xm, .inr (5, [.int (nI 0), .int (nI 0), .null, .null, .int (nI 0), .long (lN 0), .int (nI 0), .null, .int (nI 0), .null, .null])), (q7, aI cI 65536 (fun _ => 0))] H := hP
  have hD : va_D A [(xm, .inr (5, [.int (nI 0), .int (nI 0), .null, .null, .int (nI 0), .long (lN 0), .int (nI 0), .null, .int (nI 0), .null, .null])), (q7, aI cI 65536 (fun _ => 0))] := hD
  refine W.widen (k := 1) (n := 65536) (Nat.le_of_ble_eq_true rfl) (Nat.le_of_ble_eq_true rfl) ?_
  refine va_putF (D := D) (ci := 5) (v := .ref q7) (ty := .array .int) (C := RX5) (T := TX5) (N := 11) hx hb hts hinX5 tyX5 tyX5_ok nmX5 hown hK hP hD hS 0 rfl rfl 2 (by decide) (hts (.fieldLink RX5 8 "PassSearchModel" "heights" "[I") (by decide +kernel)) (fun _ h9 => h9) rfl hin rfl (by decide +kernel) rfl rfl (Nat.le_of_ble_eq_true rfl) dX5_init_9 (fun H locs hP hD hS => ?_)
  have hP : va_P D vwCl [(xm, .inr (5, [.int (nI 0), .int (nI 0), .ref q7, .null, .int (nI 0), .long (lN 0), .int (nI 0), .null, .int (nI 0), .null, .null])), (q7, aI cI 65536 (fun _ => 0))] H := hP
  have hD : va_D A [(xm, .inr (5, [.int (nI 0), .int (nI 0), .ref q7, .null, .int (nI 0), .long (lN 0), .int (nI 0), .null, .int (nI 0), .null, .null])), (q7, aI cI 65536 (fun _ => 0))] := hD
  refine lv_aload_n hx hb dX5_init_12 rfl (lv_at hl 0 rfl) ?_
  refine lv_ldc (v := 65536) hx hb hown (hts (.constant RX5 7 (65536)) (by decide +kernel)) dX5_init_13 ?_
  refine W.eq (g2 := F0 m 15 ls [.int (nI 65536), .ref xm]) rfl ?_
  refine zi_newa hx hb (hts (.arrayClass .int) (by decide +kernel)) hK 0 rfl hP hD hS hA (N := 65536) (by decide) (Nat.le_of_ble_eq_true rfl) (Nat.le_of_ble_eq_true rfl) dX5_init_15 (fun q15 H hP hD hS => ?_)
  have hP : va_P D vwCl [(xm, .inr (5, [.int (nI 0), .int (nI 0), .ref q7, .null, .int (nI 0), .long (lN 0), .int (nI 0), .null, .int (nI 0), .null, .null])), (q7, aI cI 65536 (fun _ => 0)), (q15, aI cI 65536 (fun _ => 0))] H := hP
  have hD : va_D A [(xm, .inr (5, [.int (nI 0), .int (nI 0), .ref q7, .null, .int (nI 0), .long (lN 0), .int (nI 0), .null, .int (nI 0), .null, .null])), (q7, aI cI 65536 (fun _ => 0)), (q15, aI cI 65536 (fun _ => 0))] := hD
  refine W.widen (k := 2) (n := 131072) (Nat.le_of_ble_eq_true rfl) (Nat.le_of_ble_eq_true rfl) ?_
  refine va_putF (D := D) (ci := 5) (v := .ref q15) (ty := .array .int) (C := RX5) (T := TX5) (N := 11) hx hb hts hinX5 tyX5 tyX5_ok nmX5 hown hK hP hD hS 0 rfl rfl 3 (by decide) (hts (.fieldLink RX5 14 "PassSearchModel" "in" "[I") (by decide +kernel)) (fun _ h9 => h9) rfl hin rfl (by decide +kernel) rfl rfl (Nat.le_of_ble_eq_true rfl) dX5_init_17 (fun H locs hP hD hS => ?_)
  have hP : va_P D vwCl [(xm, .inr (5, [.int (nI 0), .int (nI 0), .ref q7, .ref q15, .int (nI 0), .long (lN 0), .int (nI 0), .null, .int (nI 0), .null, .null])), (q7, aI cI 65536 (fun _ => 0)), (q15, aI cI 65536 (fun _ => 0))] H := hP
  have hD : va_D A [(xm, .inr (5, [.int (nI 0), .int (nI 0), .ref q7, .ref q15, .int (nI 0), .long (lN 0), .int (nI 0), .null, .int (nI 0), .null, .null])), (q7, aI cI 65536 (fun _ => 0)), (q15, aI cI 65536 (fun _ => 0))] := hD
  refine lv_aload_n hx hb dX5_init_20 rfl (lv_at hl 0 rfl) ?_
  refine lv_bipush (v := nI 62) hx hb dX5_init_21 (by decide) ?_
  refine zi_newa hx hb (hts (.arrayClass .int) (by decide +kernel)) hK 0 rfl hP hD hS hA (N := 62) (by decide) (Nat.le_of_ble_eq_true rfl) (Nat.le_of_ble_eq_true rfl) dX5_init_23 (fun q23 H hP hD hS => ?_)
  have hP : va_P D vwCl [(xm, .inr (5, [.int (nI 0), .int (nI 0), .ref q7, .ref q15, .int (nI 0), .long (lN 0), .int (nI 0), .null, .int (nI 0), .null, .null])), (q7, aI cI 65536 (fun _ => 0)), (q15, aI cI 65536 (fun _ => 0)), (q23, aI cI 62 (fun _ => 0))] H := hP
  have hD : va_D A [(xm, .inr (5, [.int (nI 0), .int (nI 0), .ref q7, .ref q15, .int (nI 0), .long (lN 0), .int (nI 0), .null, .int (nI 0), .null, .null])), (q7, aI cI 65536 (fun _ => 0)), (q15, aI cI 65536 (fun _ => 0)), (q23, aI cI 62 (fun _ => 0))] := hD
  refine W.widen (k := 3) (n := 131134) (Nat.le_of_ble_eq_true rfl) (Nat.le_of_ble_eq_true rfl) ?_
  refine va_putF (D := D) (ci := 5) (v := .ref q23) (ty := .array .int) (C := RX5) (T := TX5) (N := 11) hx hb hts hinX5 tyX5 tyX5_ok nmX5 hown hK hP hD hS 0 rfl rfl 7 (by decide) (hts (.fieldLink RX5 17 "PassSearchModel" "sizes" "[I") (by decide +kernel)) (fun _ h9 => h9) rfl hin rfl (by decide +kernel) rfl rfl (Nat.le_of_ble_eq_true rfl) dX5_init_25 (fun H locs hP hD hS => ?_)
  have hP : va_P D vwCl [(xm, .inr (5, [.int (nI 0), .int (nI 0), .ref q7, .ref q15, .int (nI 0), .long (lN 0), .int (nI 0), .ref q23, .int (nI 0), .null, .null])), (q7, aI cI 65536 (fun _ => 0)), (q15, aI cI 65536 (fun _ => 0)), (q23, aI cI 62 (fun _ => 0))] H := hP
  have hD : va_D A [(xm, .inr (5, [.int (nI 0), .int (nI 0), .ref q7, .ref q15, .int (nI 0), .long (lN 0), .int (nI 0), .ref q23, .int (nI 0), .null, .null])), (q7, aI cI 65536 (fun _ => 0)), (q15, aI cI 65536 (fun _ => 0)), (q23, aI cI 62 (fun _ => 0))] := hD
  refine lv_aload_n hx hb dX5_init_28 rfl (lv_at hl 0 rfl) ?_
  refine lv_sipush (v := nI 4000) hx hb dX5_init_29 (by decide) ?_
  refine zl_newa hx hb (hts (.arrayClass .long) (by decide +kernel)) hK 1 rfl hP hD hS hA (N := 4000) (by decide) (Nat.le_of_ble_eq_true rfl) (Nat.le_of_ble_eq_true rfl) dX5_init_32 (fun q32 H hP hD hS => ?_)
  have hP : va_P D vwCl [(xm, .inr (5, [.int (nI 0), .int (nI 0), .ref q7, .ref q15, .int (nI 0), .long (lN 0), .int (nI 0), .ref q23, .int (nI 0), .null, .null])), (q7, aI cI 65536 (fun _ => 0)), (q15, aI cI 65536 (fun _ => 0)), (q23, aI cI 62 (fun _ => 0)), (q32, aJ cJ 4000 (fun _ => 0))] H := hP
  have hD : va_D A [(xm, .inr (5, [.int (nI 0), .int (nI 0), .ref q7, .ref q15, .int (nI 0), .long (lN 0), .int (nI 0), .ref q23, .int (nI 0), .null, .null])), (q7, aI cI 65536 (fun _ => 0)), (q15, aI cI 65536 (fun _ => 0)), (q23, aI cI 62 (fun _ => 0)), (q32, aJ cJ 4000 (fun _ => 0))] := hD
  refine W.widen (k := 4) (n := 135134) (Nat.le_of_ble_eq_true rfl) (Nat.le_of_ble_eq_true rfl) ?_
  refine va_putF (D := D) (ci := 5) (v := .ref q32) (ty := .array .long) (C := RX5) (T := TX5) (N := 11) hx hb hts hinX5 tyX5 tyX5_ok nmX5 hown hK hP hD hS 0 rfl rfl 9 (by decide) (hts (.fieldLink RX5 20 "PassSearchModel" "pointOf" "[J") (by decide +kernel)) (fun _ h9 => h9) rfl hin rfl (by decide +kernel) rfl rfl (Nat.le_of_ble_eq_true rfl) dX5_init_34 (fun H locs hP hD hS => ?_)
  have hP : va_P D vwCl [(xm, .inr (5, [.int (nI 0), .int (nI 0), .ref q7, .ref q15, .int (nI 0), .long (lN 0), .int (nI 0), .ref q23, .int (nI 0), .ref q32, .null])), (q7, aI cI 65536 (fun _ => 0)), (q15, aI cI 65536 (fun _ => 0)), (q23, aI cI 62 (fun _ => 0)), (q32, aJ cJ 4000 (fun _ => 0))] H := hP
  have hD : va_D A [(xm, .inr (5, [.int (nI 0), .int (nI 0), .ref q7, .ref q15, .int (nI 0), .long (lN 0), .int (nI 0), .ref q23, .int (nI 0), .ref q32, .null])), (q7, aI cI 65536 (fun _ => 0)), (q15, aI cI 65536 (fun _ => 0)), (q23, aI cI 62 (fun _ => 0)), (q32, aJ cJ 4000 (fun _ => 0))] := hD
  refine lv_aload_n hx hb dX5_init_37 rfl (lv_at hl 0 rfl) ?_
  refine lv_sipush (v := nI 4000) hx hb dX5_init_38 (by decide) ?_
  refine zi_newa hx hb (hts (.arrayClass .int) (by decide +kernel)) hK 0 rfl hP hD hS hA (N := 4000) (by decide) (Nat.le_of_ble_eq_true rfl) (Nat.le_of_ble_eq_true rfl) dX5_init_41 (fun q41 H hP hD hS => ?_)
  have hP : va_P D vwCl [(xm, .inr (5, [.int (nI 0), .int (nI 0), .ref q7, .ref q15, .int (nI 0), .long (lN 0), .int (nI 0), .ref q23, .int (nI 0), .ref q32, .null])), (q7, aI cI 65536 (fun _ => 0)), (q15, aI cI 65536 (fun _ => 0)), (q23, aI cI 62 (fun _ => 0)), (q32, aJ cJ 4000 (fun _ => 0)), (q41, aI cI 4000 (fun _ => 0))] H := hP
  have hD : va_D A [(xm, .inr (5, [.int (nI 0), .int (nI 0), .ref q7, .ref q15, .int (nI 0), .long (lN 0), .int (nI 0), .ref q23, .int (nI 0), .ref q32, .null])), (q7, aI cI 65536 (fun _ => 0)), (q15, aI cI 65536 (fun _ => 0)), (q23, aI cI 62 (fun _ => 0)), (q32, aJ cJ 4000 (fun _ => 0)), (q41, aI cI 4000 (fun _ => 0))] := hD
  refine W.widen (k := 5) (n := 139134) (Nat.le_of_ble_eq_true rfl) (Nat.le_of_ble_eq_true rfl) ?_
  refine va_putF (D := D) (ci := 5) (v := .ref q41) (ty := .array .int) (C := RX5) (T := TX5) (N := 11) hx hb hts hinX5 tyX5 tyX5_ok nmX5 hown hK hP hD hS 0 rfl rfl 10 (by decide) (hts (.fieldLink RX5 24 "PassSearchModel" "sorted" "[I") (by decide +kernel)) (fun _ h9 => h9) rfl hin rfl (by decide +kernel) rfl rfl (Nat.le_of_ble_eq_true rfl) dX5_init_43 (fun H locs hP hD hS => ?_)
  have hP : va_P D vwCl [(xm, .inr (5, [.int (nI 0), .int (nI 0), .ref q7, .ref q15, .int (nI 0), .long (lN 0), .int (nI 0), .ref q23, .int (nI 0), .ref q32, .ref q41])), (q7, aI cI 65536 (fun _ => 0)), (q15, aI cI 65536 (fun _ => 0)), (q23, aI cI 62 (fun _ => 0)), (q32, aJ cJ 4000 (fun _ => 0)), (q41, aI cI 4000 (fun _ => 0))] H := hP
  have hD : va_D A [(xm, .inr (5, [.int (nI 0), .int (nI 0), .ref q7, .ref q15, .int (nI 0), .long (lN 0), .int (nI 0), .ref q23, .int (nI 0), .ref q32, .ref q41])), (q7, aI cI 65536 (fun _ => 0)), (q15, aI cI 65536 (fun _ => 0)), (q23, aI cI 62 (fun _ => 0)), (q32, aJ cJ 4000 (fun _ => 0)), (q41, aI cI 4000 (fun _ => 0))] := hD
  have L67 : ∀ (bq : Nat), (bq = binsOf x) → ∀ (H : Heap) (locs : List Loc) (ls : Array Slot), va_P D vwCl [(xm, .inr (5, [.int (nI 0), .int (nI 0), .ref q7, .ref q15, .int (nI 0), .long (lN 0), .int (nI 0), .ref q23, .int (nI 0), .ref q32, .ref q41])), (q7, aI cI 65536 (fun _ => 0)), (q15, aI cI 65536 (fun _ => 0)), (q23, aI cI 62 (fun _ => 0)), (q32, aJ cJ 4000 (fun _ => 0)), (q41, aI cI 4000 (fun _ => 0))] H → va_D A [(xm, .inr (5, [.int (nI 0), .int (nI 0), .ref q7, .ref q15, .int (nI 0), .long (lN 0), .int (nI 0), .ref q23, .int (nI 0), .ref q32, .ref q41])), (q7, aI cI 65536 (fun _ => 0)), (q15, aI cI 65536 (fun _ => 0)), (q23, aI cI 62 (fun _ => 0)), (q32, aJ cJ 4000 (fun _ => 0)), (q41, aI cI 4000 (fun _ => 0))] → va_S A s.heap H locs → lv_has ls 3 [(0, .ref xm)] → W p l e ({ frames := 1, cells := 5, slots := 139134, locals := 24 } : Room) s m args below meth c H locs 5 139134 Q (F0 m 67 ls [.int (nI bq), .ref xm]) := by
    intro bq k0 H locs ls hP hD hS hl
    refine va_putF (D := D) (ci := 5) (v := .int (nI bq)) (ty := .int) (C := RX5) (T := TX5) (N := 11) hx hb hts hinX5 tyX5 tyX5_ok nmX5 hown hK hP hD hS 0 rfl rfl 1 (by decide) (hts (.fieldLink RX5 27 "PassSearchModel" "bins" "I") (by decide +kernel)) (fun _ h9 => h9) rfl hin rfl (by decide +kernel) rfl rfl (Nat.le_of_ble_eq_true rfl) dX5_init_67 (fun H locs hP hD hS => ?_)
    have hP : va_P D vwCl [(xm, .inr (5, [.int (nI 0), .int (nI bq), .ref q7, .ref q15, .int (nI 0), .long (lN 0), .int (nI 0), .ref q23, .int (nI 0), .ref q32, .ref q41])), (q7, aI cI 65536 (fun _ => 0)), (q15, aI cI 65536 (fun _ => 0)), (q23, aI cI 62 (fun _ => 0)), (q32, aJ cJ 4000 (fun _ => 0)), (q41, aI cI 4000 (fun _ => 0))] H := hP
    have hD : va_D A [(xm, .inr (5, [.int (nI 0), .int (nI bq), .ref q7, .ref q15, .int (nI 0), .long (lN 0), .int (nI 0), .ref q23, .int (nI 0), .ref q32, .ref q41])), (q7, aI cI 65536 (fun _ => 0)), (q15, aI cI 65536 (fun _ => 0)), (q23, aI cI 62 (fun _ => 0)), (q32, aJ cJ 4000 (fun _ => 0)), (q41, aI cI 4000 (fun _ => 0))] := hD
    subst k0
    refine lv_iconst (v := nI 0) hx hb dX5_init_70 (by decide) ?_
    refine lv_istore_n (lv' := [(2, .int (nI 0)), (0, .ref xm)]) hx hb dX5_init_71 rfl hl (by decide) rfl (fun ls hl => ?_)
    have L72 : ∀ (nf : Nat) (b : Nat) (H2 : Nat → Nat), (b ≤ 65536) → (∀ t, t < b → H2 t = 1000) → 65536 - b < nf → ∀ (H : Heap) (locs : List Loc) (ls : Array Slot), va_P D vwCl [(xm, .inr (5, [.int (nI 0), .int (nI (binsOf x)), .ref q7, .ref q15, .int (nI 0), .long (lN 0), .int (nI 0), .ref q23, .int (nI 0), .ref q32, .ref q41])), (q7, aI cI 65536 H2), (q15, aI cI 65536 (fun _ => 0)), (q23, aI cI 62 (fun _ => 0)), (q32, aJ cJ 4000 (fun _ => 0)), (q41, aI cI 4000 (fun _ => 0))] H → va_D A [(xm, .inr (5, [.int (nI 0), .int (nI (binsOf x)), .ref q7, .ref q15, .int (nI 0), .long (lN 0), .int (nI 0), .ref q23, .int (nI 0), .ref q32, .ref q41])), (q7, aI cI 65536 H2), (q15, aI cI 65536 (fun _ => 0)), (q23, aI cI 62 (fun _ => 0)), (q32, aJ cJ 4000 (fun _ => 0)), (q41, aI cI 4000 (fun _ => 0))] → va_S A s.heap H locs → lv_has ls 3 [(2, .int (nI b)), (0, .ref xm)] → W p l e ({ frames := 1, cells := 5, slots := 139134, locals := 24 } : Room) s m args below meth c H locs 5 139134 Q (F0 m 72 ls []) := by
      intro nf
      induction nf with
      | zero => intro b H2 i1 i2 hm; exact absurd hm (Nat.not_lt_zero _)
      | succ nf ih72 =>
        intro b H2 i1 i2 hm72 H locs ls hP hD hS hl
        refine lv_iload_n hx hb dX5_init_72 rfl (lv_at hl 0 rfl) ?_
        refine lv_ldc (v := 65536) hx hb hown (hts (.constant RX5 7 (65536)) (by decide +kernel)) dX5_init_73 ?_
        refine W.eq (g2 := F0 m 75 ls [.int (nI 65536), .int (nI b)]) rfl ?_
        refine zi_ge (tgt := 93) hx hb dX5_init_75 (by decide) (by omega) (by omega) (fun c75 => ?_) (fun c75 => ?_)
        · exact hret ((q7, q15, q23, q32, q41, H2)) _ _ _ _ hP hD hS (fun t ht => i2 t (by omega)) dX5_init_93
        · refine lv_aload_n hx hb dX5_init_78 rfl (lv_at hl 1 rfl) ?_
          refine va_get (D := D) (ci := 5) (v := .ref q7) (C := RX5) (T := TX5) (N := 11) hx hb hts hinX5 hown hK hP 0 rfl rfl 2 (by decide) (hts (.fieldLink RX5 8 "PassSearchModel" "heights" "[I") (by decide +kernel)) (fun _ h9 => h9) rfl dX5_init_79 ?_
          refine lv_iload_n hx hb dX5_init_82 rfl (lv_at hl 0 rfl) ?_
          refine lv_sipush (v := nI 1000) hx hb dX5_init_83 (by decide) ?_
          refine zi_ast hx hb hK hP hD hS 1 0 rfl rfl (k := b) (x := 1000) (by omega) (by omega) dX5_init_86 (fun H locs hP hD hS => ?_)
          have hP : va_P D vwCl [(xm, .inr (5, [.int (nI 0), .int (nI (binsOf x)), .ref q7, .ref q15, .int (nI 0), .long (lN 0), .int (nI 0), .ref q23, .int (nI 0), .ref q32, .ref q41])), (q7, aI cI 65536 (uF H2 b 1000)), (q15, aI cI 65536 (fun _ => 0)), (q23, aI cI 62 (fun _ => 0)), (q32, aJ cJ 4000 (fun _ => 0)), (q41, aI cI 4000 (fun _ => 0))] H := hP
          have hD : va_D A [(xm, .inr (5, [.int (nI 0), .int (nI (binsOf x)), .ref q7, .ref q15, .int (nI 0), .long (lN 0), .int (nI 0), .ref q23, .int (nI 0), .ref q32, .ref q41])), (q7, aI cI 65536 (uF H2 b 1000)), (q15, aI cI 65536 (fun _ => 0)), (q23, aI cI 62 (fun _ => 0)), (q32, aJ cJ 4000 (fun _ => 0)), (q41, aI cI 4000 (fun _ => 0))] := hD
          refine lv_iinc (v := nI (b + 1)) (lv' := [(2, .int (nI (b + 1))), (0, .ref xm)]) hx hb dX5_init_87 hl (k := 0) rfl (by rw [show Int32.ofInt 1 = nI 1 by decide, nI_add]) (by decide) rfl (fun ls hl => ?_)
          refine lv_goto (tgt := 72) hx hb dX5_init_90 (by decide) ?_
          exact ih72 (b + 1) (uF H2 b 1000) (by omega) (fun t ht => if g : t = b then by rw [g, uF_s] else by rw [uF_n g]; exact i2 t (by omega)) (by omega) _ _ _ hP hD hS (lv_sub hl [0, 1] rfl)
    exact L72 _ 0 (fun _ => 0) (Nat.zero_le _) (fun t ht => absurd ht (Nat.not_lt_zero _)) (Nat.lt_succ_self _) _ _ _ hP hD hS (lv_sub hl [0, 1] rfl)
  refine lv_aload_n hx hb dX5_init_46 rfl (lv_at hl 0 rfl) ?_
  refine lv_iload_n hx hb dX5_init_47 rfl (lv_at hl 1 rfl) ?_
  refine zq_if_ge (tgt := 55) hx hb dX5_init_48 (by decide) (fun c48 => ?_) (fun c48 => ?_)
  · refine lv_iload_n hx hb dX5_init_55 rfl (lv_at hl 1 rfl) ?_
    refine lv_ldc (v := 65536) hx hb hown (hts (.constant RX5 7 (65536)) (by decide +kernel)) dX5_init_56 ?_
    refine W.eq (g2 := F0 m 58 ls [.int (nI 65536), .int x, .ref xm]) rfl ?_
    refine zq_le (tgt := 66) hx hb dX5_init_58 (by decide) (fun c58 => ?_) (fun c58 => ?_)
    · rw [show (nI 65536).toInt = 65536 from by decide] at c58
      obtain ⟨k, hk, rfl, hxk⟩ := i_of (x := x) (by omega)
      refine lv_iload_n hx hb dX5_init_66 rfl (lv_at hl 1 rfl) ?_
      exact L67 k (by rw [binsOf, if_neg (by omega), if_neg (by omega), hxk]; rfl) _ _ _ hP hD hS (lv_sub hl [0] rfl)
    · refine lv_ldc (v := 65536) hx hb hown (hts (.constant RX5 7 (65536)) (by decide +kernel)) dX5_init_61 ?_
      refine W.eq (g2 := F0 m 63 ls [.int (nI 65536), .ref xm]) rfl ?_
      refine lv_goto (tgt := 67) hx hb dX5_init_63 (by decide) ?_
      exact L67 65536 (by rw [show (nI 65536).toInt = 65536 from by decide] at c58; rw [binsOf, if_neg (by omega), if_pos c58]) _ _ _ hP hD hS (lv_sub hl [0] rfl)
  · refine lv_iconst (v := nI 0) hx hb dX5_init_51 (by decide) ?_
    refine lv_goto (tgt := 67) hx hb dX5_init_52 (by decide) ?_
    exact L67 0 (by rw [binsOf, if_pos c48]) _ _ _ hP hD hS (lv_sub hl [0] rfl)
