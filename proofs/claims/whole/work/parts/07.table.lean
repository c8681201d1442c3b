theorem tab_mb {M V K f : Nat → Nat} {sz : Nat} (h : tab M V K sz f) (t : Nat) (ht : t < 1024) : M t ≤ 65536 := by
  by_cases h0 : M t = 0
  · omega
  · have := (h.2.2.2.1 _ (h.2.1 t ht h0).2.2.1).1
    omega
set_option maxHeartbeats 4000000 in
set_option maxRecDepth 100000 in
/-- size -/
theorem c_X0_size (l : Launch) (D : va_G) (cI cJ : ClassId) (h hm hv hk sz : Nat) (M V K : Nat → Nat) : RO_i l yX0_size wsX0_size ({ frames := 0, cells := 0, slots := 0, locals := 0 } : Room) D [(h, .inr (1, [.ref hm, .ref hv, .ref hk, .int (nI sz)])), (hm, aI cI 1024 M), (hv, aI cI 1024 V), (hk, aI cI 512 K)] [(cI, .int), (cJ, .long)] [.ref h] (fun v => v = nI sz) := by
  refine RO_i.of (cc := cX0_size) (maxL := 1) (by decide) rfl (Nat.le_of_ble_eq_true rfl) ?_
  intro p e s m args below meth c ls A Q hx hb hml hts hown hA hP hK hl hret
  have hown : s.vm.findClass RX0 = some m.cls := hown
  have hl : lv_has ls 1 [(0, .ref h)] := hl
  have hS : va_S A s.heap s.heap [] := va_S.rf
  have hinX0 : ∀ w ∈ wsX00, w ∈ wsX0_size := by decide +kernel
  refine lv_aload_n hx hb dX0_size_0 rfl (lv_at hl 0 rfl) ?_
  refine va_get (D := D) (ci := 1) (v := .int (nI sz)) (C := RX0) (T := TX0) (N := 4) hx hb hts hinX0 hown hK hP 0 rfl rfl 3 (by decide) (hts (.fieldLink RX0 21 "PassSearch$BinTable" "size" "I") (by decide +kernel)) (fun _ h9 => h9) rfl dX0_size_1 ?_
  exact hret _ _ _ _ _ hS (rfl) dX0_size_4
set_option maxHeartbeats 4000000 in
set_option maxRecDepth 100000 in
/-- slotOf: where the search for bin b ends -/
theorem c_X0_slotOf (l : Launch) (D : va_G) (cI cJ : ClassId) (h hm hv hk sz : Nat) (M V K : Nat → Nat) (b : Nat) (hb1 : b < 65536) (hM : ∀ t, t < 1024 → M t ≤ 65536) (hf : ∃ t, t < 1024 ∧ M t = 0) : RO_i l yX0_slotOf wsX0_slotOf ({ frames := 0, cells := 0, slots := 0, locals := 0 } : Room) D [(h, .inr (1, [.ref hm, .ref hv, .ref hk, .int (nI sz)])), (hm, aI cI 1024 M), (hv, aI cI 1024 V), (hk, aI cI 512 K)] [(cI, .int), (cJ, .long)] [.ref h, .int (nI b)] (fun v => ∃ t, v = nI t ∧ isSlot M b t) := by
  refine RO_i.of (cc := cX0_slotOf) (maxL := 4) (by decide) rfl (Nat.le_of_ble_eq_true rfl) ?_
  intro p e s m args below meth c ls A Q hx hb hml hts hown hA hP hK hl hret
  have hown : s.vm.findClass RX0 = some m.cls := hown
  have hl : lv_has ls 4 [(0, .ref h), (1, .int (nI b))] := hl
  have hS : va_S A s.heap s.heap [] := va_S.rf
  have hinX0 : ∀ w ∈ wsX00, w ∈ wsX0_slotOf := by decide +kernel
  refine lv_iload_n hx hb dX0_slotOf_0 rfl (lv_at hl 1 rfl) ?_
  refine lv_ldc (v := -1640531535) hx hb hown (hts (.constant RX0 29 (-1640531535)) (by decide +kernel)) dX0_slotOf_1 ?_
  refine lv_imul hx hb dX0_slotOf_3 ?_
  refine lv_bipush (v := nI 22) hx hb dX0_slotOf_4 (by decide) ?_
  refine lv_iushr hx hb dX0_slotOf_6 (hsh_v b) ?_
  refine lv_istore_n (lv' := [(2, .int (nI (hsh b))), (0, .ref h), (1, .int (nI b))]) hx hb dX0_slotOf_7 rfl hl (by decide) rfl (fun ls hl => ?_)
  refine lv_iconst (v := nI 0) hx hb dX0_slotOf_8 (by decide) ?_
  refine lv_istore_n (lv' := [(3, .int (nI 0)), (2, .int (nI (hsh b))), (0, .ref h), (1, .int (nI b))]) hx hb dX0_slotOf_9 rfl hl (by decide) rfl (fun ls hl => ?_)
  have hhl := hsh_lt b
  have L10 : ∀ (nf : Nat) (t : Nat) (k : Nat), (t = (hsh b + k) % 1024 ∧ k ≤ 1024) → (∀ j, j < k → M ((hsh b + j) % 1024) ≠ 0 ∧ M ((hsh b + j) % 1024) ≠ b + 1) → 1024 - k < nf → ∀ (H : Heap) (locs : List Loc) (ls : Array Slot), va_P D vwCl [(h, .inr (1, [.ref hm, .ref hv, .ref hk, .int (nI sz)])), (hm, aI cI 1024 M), (hv, aI cI 1024 V), (hk, aI cI 512 K)] H → va_S A s.heap H locs → lv_has ls 4 [(2, .int (nI t)), (3, .int (nI k)), (0, .ref h), (1, .int (nI b))] → W p l e ({ frames := 0, cells := 0, slots := 0, locals := 0 } : Room) s m args below meth c H locs 0 0 Q (F0 m 10 ls []) := by
    intro nf
    induction nf with
    | zero => intro t k i1 i2 hm; exact absurd hm (Nat.not_lt_zero _)
    | succ nf ih10 =>
      intro t k i1 i2 hm10 H locs ls hP hS hl
      refine lv_iload_n hx hb dX0_slotOf_10 rfl (lv_at hl 1 rfl) ?_
      refine lv_sipush (v := nI 1024) hx hb dX0_slotOf_11 (by decide) ?_
      refine zi_ge (tgt := 52) hx hb dX0_slotOf_14 (by decide) (by omega) (by omega) (fun c14 => ?_) (fun c14 => ?_)
      · exact False.elim (isSlot_end hf c14 i2)
      · have htl : t < 1024 := by omega
        have hMt := hM t htl
        refine lv_aload_n hx hb dX0_slotOf_17 rfl (lv_at hl 2 rfl) ?_
        refine va_get (D := D) (ci := 1) (v := .ref hm) (C := RX0) (T := TX0) (N := 4) hx hb hts hinX0 hown hK hP 0 rfl rfl 0 (by decide) (hts (.fieldLink RX0 11 "PassSearch$BinTable" "marks" "[I") (by decide +kernel)) (fun _ h9 => h9) rfl dX0_slotOf_18 ?_
        refine lv_iload_n hx hb dX0_slotOf_21 rfl (lv_at hl 0 rfl) ?_
        refine zi_ald hx hb hK hP 1 0 rfl rfl (k := t) (by omega) (by omega) dX0_slotOf_22 ?_
        refine zi_if_eq (tgt := 52) hx hb dX0_slotOf_23 (by decide) (by omega) (fun c23 => ?_) (fun c23 => ?_)
        · refine lv_iload_n hx hb dX0_slotOf_52 rfl (lv_at hl 0 rfl) ?_
          exact hret _ _ _ _ _ hS (⟨t, rfl, k, by omega, i1.1, Or.inl c23, i2⟩) dX0_slotOf_53
        · refine lv_aload_n hx hb dX0_slotOf_26 rfl (lv_at hl 2 rfl) ?_
          refine va_get (D := D) (ci := 1) (v := .ref hm) (C := RX0) (T := TX0) (N := 4) hx hb hts hinX0 hown hK hP 0 rfl rfl 0 (by decide) (hts (.fieldLink RX0 11 "PassSearch$BinTable" "marks" "[I") (by decide +kernel)) (fun _ h9 => h9) rfl dX0_slotOf_27 ?_
          refine lv_iload_n hx hb dX0_slotOf_30 rfl (lv_at hl 0 rfl) ?_
          refine zi_ald hx hb hK hP 1 0 rfl rfl (k := t) (by omega) (by omega) dX0_slotOf_31 ?_
          refine lv_iload_n hx hb dX0_slotOf_32 rfl (lv_at hl 3 rfl) ?_
          refine lv_iconst (v := nI 1) hx hb dX0_slotOf_33 (by decide) ?_
          refine zi_add hx hb dX0_slotOf_34  ?_
          refine zi_eq (tgt := 52) hx hb dX0_slotOf_35 (by decide) (by omega) (by omega) (fun c35 => ?_) (fun c35 => ?_)
          · refine lv_iload_n hx hb dX0_slotOf_52 rfl (lv_at hl 0 rfl) ?_
            exact hret _ _ _ _ _ hS (⟨t, rfl, k, by omega, i1.1, Or.inr c35, i2⟩) dX0_slotOf_53
          · refine lv_iload_n hx hb dX0_slotOf_38 rfl (lv_at hl 0 rfl) ?_
            refine lv_iconst (v := nI 1) hx hb dX0_slotOf_39 (by decide) ?_
            refine zi_add hx hb dX0_slotOf_40  ?_
            refine lv_sipush (v := nI 1023) hx hb dX0_slotOf_41 (by decide) ?_
            refine lv_iand hx hb dX0_slotOf_44 ?_
            refine lv_topi (fun va_ ea_ => ?_)
            obtain rfl : va_ = nI ((t + 1) % 1024) := ea_.trans (pk_andN (by omega) 10 (by decide))
            refine lv_istore_n (lv' := [(2, .int (nI ((t + 1) % 1024))), (3, .int (nI k)), (0, .ref h), (1, .int (nI b))]) hx hb dX0_slotOf_45 rfl hl (by decide) rfl (fun ls hl => ?_)
            refine lv_iinc (v := nI (k + 1)) (lv' := [(3, .int (nI (k + 1))), (2, .int (nI ((t + 1) % 1024))), (0, .ref h), (1, .int (nI b))]) hx hb dX0_slotOf_46 hl (k := 1) rfl (by rw [show Int32.ofInt 1 = nI 1 by decide, nI_add]) (by decide) rfl (fun ls hl => ?_)
            refine lv_goto (tgt := 10) hx hb dX0_slotOf_49 (by decide) ?_
            exact ih10 ((t + 1) % 1024) (k + 1) (by omega) (fun j hj => if hk : j < k then i2 j hk else by rw [show j = k by omega, ← i1.1]; exact ⟨by omega, c35⟩) (by omega) _ _ _ hP hS (lv_sub hl [1, 0, 2, 3] rfl)
  exact L10 _ (hsh b) 0 (by omega) (fun j hj => absurd hj (Nat.not_lt_zero _)) (Nat.lt_succ_self _) _ _ _ hP hS (lv_sub hl [1, 0, 2, 3] rfl)
set_option maxHeartbeats 4000000 in
set_option maxRecDepth 100000 in
/-- valueOf -/
theorem c_X0_valueOf (l : Launch) (D : va_G) (cI cJ : ClassId) (h hm hv hk sz : Nat) (M V K : Nat → Nat) (f : Nat → Nat) (b : Nat) (htab : tab M V K sz f) (hsz : sz ≤ 512) (hb1 : b < 65536) : RO_i l yX0_valueOf wsX0_valueOf ({ frames := 1, cells := 0, slots := 0, locals := 23 } : Room) D [(h, .inr (1, [.ref hm, .ref hv, .ref hk, .int (nI sz)])), (hm, aI cI 1024 M), (hv, aI cI 1024 V), (hk, aI cI 512 K)] [(cI, .int), (cJ, .long)] [.ref h, .int (nI b)] (fun v => v = nI (f b)) := by
  refine RO_i.of (cc := cX0_valueOf) (maxL := 3) (by decide) rfl (Nat.le_of_ble_eq_true rfl) ?_
  intro p e s m args below meth c ls A Q hx hb hml hts hown hA hP hK hl hret
  have hown : s.vm.findClass RX0 = some m.cls := hown
  have hl : lv_has ls 3 [(0, .ref h), (1, .int (nI b))] := hl
  have hS : va_S A s.heap s.heap [] := va_S.rf
  have hinX0 : ∀ w ∈ wsX00, w ∈ wsX0_valueOf := by decide +kernel
  refine lv_aload_n hx hb dX0_valueOf_0 rfl (lv_at hl 0 rfl) ?_
  refine lv_iload_n hx hb dX0_valueOf_1 rfl (lv_at hl 1 rfl) ?_
  refine RO_i.callV (rest := []) (c_X0_slotOf l D cI cJ h hm hv hk sz M V K b hb1 (tab_mb htab) (tab_free htab (by omega))) ⟨hx, hb, hml, hown, hts⟩ (cwV 1 hts gX0_valueOf_X0_slotOf rfl rfl rfl (by decide +kernel) ⟨Nat.le_of_ble_eq_true rfl, Nat.le_of_ble_eq_true rfl⟩) hK hP hS hA [0, 1, 2, 3] [0, 1] rfl rfl 0 1 rfl rfl rfl rfl hl.1 rfl (Nat.le_of_ble_eq_true rfl) dX0_valueOf_2 ⟨Nat.zero_le _, Nat.zero_le _⟩ (fun v1_ H locs e1_ hP hS => ?_)
  obtain ⟨t, rfl, ht⟩ := e1_
  have htl := isSlot_lt ht
  have hMt := tab_mb htab t htl
  refine lv_istore_n (lv' := [(2, .int (nI t)), (0, .ref h), (1, .int (nI b))]) hx hb dX0_valueOf_5 rfl hl (by decide) rfl (fun ls hl => ?_)
  refine lv_aload_n hx hb dX0_valueOf_6 rfl (lv_at hl 1 rfl) ?_
  refine va_get (D := D) (ci := 1) (v := .ref hm) (C := RX0) (T := TX0) (N := 4) hx hb hts hinX0 hown hK hP 0 rfl rfl 0 (by decide) (hts (.fieldLink RX0 11 "PassSearch$BinTable" "marks" "[I") (by decide +kernel)) (fun _ h9 => h9) rfl dX0_valueOf_7 ?_
  refine lv_iload_n hx hb dX0_valueOf_10 rfl (lv_at hl 0 rfl) ?_
  refine zi_ald hx hb hK hP 1 0 rfl rfl (k := t) (by omega) (by omega) dX0_valueOf_11 ?_
  refine zi_if_ne (tgt := 19) hx hb dX0_valueOf_12 (by decide) (by omega) (fun c12 => ?_) (fun c12 => ?_)
  · refine lv_aload_n hx hb dX0_valueOf_19 rfl (lv_at hl 1 rfl) ?_
    refine va_get (D := D) (ci := 1) (v := .ref hv) (C := RX0) (T := TX0) (N := 4) hx hb hts hinX0 hown hK hP 0 rfl rfl 1 (by decide) (hts (.fieldLink RX0 15 "PassSearch$BinTable" "values" "[I") (by decide +kernel)) (fun _ h9 => h9) rfl dX0_valueOf_20 ?_
    refine lv_iload_n hx hb dX0_valueOf_23 rfl (lv_at hl 0 rfl) ?_
    refine zi_ald hx hb hK hP 2 0 rfl rfl (k := t) (by omega) (by omega) dX0_valueOf_24 ?_
    exact hret _ _ _ _ _ hS (by rw [tab_val htab ht (by omega)]) dX0_valueOf_25
  · refine lv_iconst (v := nI 0) hx hb dX0_valueOf_15 (by decide) ?_
    refine lv_goto (tgt := 25) hx hb dX0_valueOf_16 (by decide) ?_
    exact hret _ _ _ _ _ hS (by rw [tab_none htab ht c12]) dX0_valueOf_25
set_option maxHeartbeats 4000000 in
set_option maxRecDepth 100000 in
/-- binAt -/
theorem c_X0_binAt (l : Launch) (D : va_G) (cI cJ : ClassId) (h hm hv hk sz : Nat) (M V K : Nat → Nat) (f : Nat → Nat) (i : Nat) (htab : tab M V K sz f) (hsz : sz ≤ 512) (hi : i < sz) : RO_i l yX0_binAt wsX0_binAt ({ frames := 0, cells := 0, slots := 0, locals := 0 } : Room) D [(h, .inr (1, [.ref hm, .ref hv, .ref hk, .int (nI sz)])), (hm, aI cI 1024 M), (hv, aI cI 1024 V), (hk, aI cI 512 K)] [(cI, .int), (cJ, .long)] [.ref h, .int (nI i)] (fun v => v = nI (M (K i) - 1)) := by
  refine RO_i.of (cc := cX0_binAt) (maxL := 2) (by decide) rfl (Nat.le_of_ble_eq_true rfl) ?_
  intro p e s m args below meth c ls A Q hx hb hml hts hown hA hP hK hl hret
  have hown : s.vm.findClass RX0 = some m.cls := hown
  have hl : lv_has ls 2 [(0, .ref h), (1, .int (nI i))] := hl
  have hS : va_S A s.heap s.heap [] := va_S.rf
  have hinX0 : ∀ w ∈ wsX00, w ∈ wsX0_binAt := by decide +kernel
  have hki := htab.2.2.1 i hi
  refine lv_iload_n hx hb dX0_binAt_0 rfl (lv_at hl 1 rfl) ?_
  refine zi_if_lt (tgt := 28) hx hb dX0_binAt_1 (by decide) (by omega) (fun c1 => ?_) (fun c1 => ?_)
  · exact False.elim (by omega)
  · refine lv_iload_n hx hb dX0_binAt_4 rfl (lv_at hl 1 rfl) ?_
    refine lv_aload_n hx hb dX0_binAt_5 rfl (lv_at hl 0 rfl) ?_
    refine va_get (D := D) (ci := 1) (v := .int (nI sz)) (C := RX0) (T := TX0) (N := 4) hx hb hts hinX0 hown hK hP 0 rfl rfl 3 (by decide) (hts (.fieldLink RX0 21 "PassSearch$BinTable" "size" "I") (by decide +kernel)) (fun _ h9 => h9) rfl dX0_binAt_6 ?_
    refine zi_ge (tgt := 28) hx hb dX0_binAt_9 (by decide) (by omega) (by omega) (fun c9 => ?_) (fun c9 => ?_)
    · exact False.elim (by omega)
    · refine lv_aload_n hx hb dX0_binAt_12 rfl (lv_at hl 0 rfl) ?_
      refine va_get (D := D) (ci := 1) (v := .ref hm) (C := RX0) (T := TX0) (N := 4) hx hb hts hinX0 hown hK hP 0 rfl rfl 0 (by decide) (hts (.fieldLink RX0 11 "PassSearch$BinTable" "marks" "[I") (by decide +kernel)) (fun _ h9 => h9) rfl dX0_binAt_13 ?_
      refine lv_aload_n hx hb dX0_binAt_16 rfl (lv_at hl 0 rfl) ?_
      refine va_get (D := D) (ci := 1) (v := .ref hk) (C := RX0) (T := TX0) (N := 4) hx hb hts hinX0 hown hK hP 0 rfl rfl 2 (by decide) (hts (.fieldLink RX0 18 "PassSearch$BinTable" "taken" "[I") (by decide +kernel)) (fun _ h9 => h9) rfl dX0_binAt_17 ?_
      refine lv_iload_n hx hb dX0_binAt_20 rfl (lv_at hl 1 rfl) ?_
      refine zi_ald hx hb hK hP 3 0 rfl rfl (k := i) (by omega) (by omega) dX0_binAt_21 ?_
      refine zi_ald hx hb hK hP 1 0 rfl rfl (k := K i) (hki.1) (by omega) dX0_binAt_22 ?_
      refine lv_iconst (v := nI 1) hx hb dX0_binAt_23 (by decide) ?_
      refine zi_sub hx hb dX0_binAt_24 (Nat.pos_of_ne_zero hki.2) ?_
      refine lv_goto (tgt := 29) hx hb dX0_binAt_25 (by decide) ?_
      exact hret _ _ _ _ _ hS (rfl) dX0_binAt_29
set_option maxHeartbeats 4000000 in
set_option maxRecDepth 100000 in
/-- valueAt -/
theorem c_X0_valueAt (l : Launch) (D : va_G) (cI cJ : ClassId) (h hm hv hk sz : Nat) (M V K : Nat → Nat) (f : Nat → Nat) (i : Nat) (htab : tab M V K sz f) (hsz : sz ≤ 512) (hi : i < sz) : RO_i l yX0_valueAt wsX0_valueAt ({ frames := 0, cells := 0, slots := 0, locals := 0 } : Room) D [(h, .inr (1, [.ref hm, .ref hv, .ref hk, .int (nI sz)])), (hm, aI cI 1024 M), (hv, aI cI 1024 V), (hk, aI cI 512 K)] [(cI, .int), (cJ, .long)] [.ref h, .int (nI i)] (fun v => v = nI (V (K i))) := by
  refine RO_i.of (cc := cX0_valueAt) (maxL := 2) (by decide) rfl (Nat.le_of_ble_eq_true rfl) ?_
  intro p e s m args below meth c ls A Q hx hb hml hts hown hA hP hK hl hret
  have hown : s.vm.findClass RX0 = some m.cls := hown
  have hl : lv_has ls 2 [(0, .ref h), (1, .int (nI i))] := hl
  have hS : va_S A s.heap s.heap [] := va_S.rf
  have hinX0 : ∀ w ∈ wsX00, w ∈ wsX0_valueAt := by decide +kernel
  have hki := htab.2.2.1 i hi
  refine lv_iload_n hx hb dX0_valueAt_0 rfl (lv_at hl 1 rfl) ?_
  refine zi_if_lt (tgt := 26) hx hb dX0_valueAt_1 (by decide) (by omega) (fun c1 => ?_) (fun c1 => ?_)
  · exact False.elim (by omega)
  · refine lv_iload_n hx hb dX0_valueAt_4 rfl (lv_at hl 1 rfl) ?_
    refine lv_aload_n hx hb dX0_valueAt_5 rfl (lv_at hl 0 rfl) ?_
    refine va_get (D := D) (ci := 1) (v := .int (nI sz)) (C := RX0) (T := TX0) (N := 4) hx hb hts hinX0 hown hK hP 0 rfl rfl 3 (by decide) (hts (.fieldLink RX0 21 "PassSearch$BinTable" "size" "I") (by decide +kernel)) (fun _ h9 => h9) rfl dX0_valueAt_6 ?_
    refine zi_ge (tgt := 26) hx hb dX0_valueAt_9 (by decide) (by omega) (by omega) (fun c9 => ?_) (fun c9 => ?_)
    · exact False.elim (by omega)
    · refine lv_aload_n hx hb dX0_valueAt_12 rfl (lv_at hl 0 rfl) ?_
      refine va_get (D := D) (ci := 1) (v := .ref hv) (C := RX0) (T := TX0) (N := 4) hx hb hts hinX0 hown hK hP 0 rfl rfl 1 (by decide) (hts (.fieldLink RX0 15 "PassSearch$BinTable" "values" "[I") (by decide +kernel)) (fun _ h9 => h9) rfl dX0_valueAt_13 ?_
      refine lv_aload_n hx hb dX0_valueAt_16 rfl (lv_at hl 0 rfl) ?_
      refine va_get (D := D) (ci := 1) (v := .ref hk) (C := RX0) (T := TX0) (N := 4) hx hb hts hinX0 hown hK hP 0 rfl rfl 2 (by decide) (hts (.fieldLink RX0 18 "PassSearch$BinTable" "taken" "[I") (by decide +kernel)) (fun _ h9 => h9) rfl dX0_valueAt_17 ?_
      refine lv_iload_n hx hb dX0_valueAt_20 rfl (lv_at hl 1 rfl) ?_
      refine zi_ald hx hb hK hP 3 0 rfl rfl (k := i) (by omega) (by omega) dX0_valueAt_21 ?_
      refine zi_ald hx hb hK hP 2 0 rfl rfl (k := K i) (hki.1) (by omega) dX0_valueAt_22 ?_
      refine lv_goto (tgt := 27) hx hb dX0_valueAt_23 (by decide) ?_
      exact hret _ _ _ _ _ hS (rfl) dX0_valueAt_27
set_option maxHeartbeats 4000000 in
set_option maxRecDepth 100000 in
/-- put -/
theorem c_X0_put (l : Launch) (D : va_G) (cI cJ : ClassId) (h hm hv hk sz : Nat) (M V K : Nat → Nat) (f : Nat → Nat) (b x : Nat) (htab : tab M V K sz f) (hsz : sz < 512) (hb1 : b < 65536) (hx1 : 1 ≤ x) : WR_i l yX0_put wsX0_put ({ frames := 1, cells := 0, slots := 0, locals := 23 } : Room) D [(h, .inr (1, [.ref hm, .ref hv, .ref hk, .int (nI sz)])), (hm, aI cI 1024 M), (hv, aI cI 1024 V), (hk, aI cI 512 K)] [(cI, .int), (cJ, .long)] [.ref h, .int (nI b), .int (nI x)] (fun (u : Nat × (Nat → Nat) × (Nat → Nat) × (Nat → Nat)) => [(h, .inr (1, [.ref hm, .ref hv, .ref hk, .int (nI u.1)])), (hm, aI cI 1024 u.2.1), (hv, aI cI 1024 u.2.2.1), (hk, aI cI 512 u.2.2.2)]) (fun v u => v = bI True ∧ tab u.2.1 u.2.2.1 u.2.2.2 u.1 (uF f b x) ∧ u.1 ≤ sz + 1) 0 0 := by
  refine WR_i.ofz (cc := cX0_put) (maxL := 4) (by decide) rfl (Nat.le_of_ble_eq_true rfl) ?_
  intro p e s m args below meth c ls A Q hx hb hml hts hown hA hP hD hK hl hin hret
  have hown : s.vm.findClass RX0 = some m.cls := hown
  have hl : lv_has ls 4 [(0, .ref h), (1, .int (nI b)), (2, .int (nI x))] := hl
  have hS : va_S A s.heap s.heap [] := va_S.rf
  have hinX0 : ∀ w ∈ wsX00, w ∈ wsX0_put := by decide +kernel
  refine lv_aload_n hx hb dX0_put_0 rfl (lv_at hl 0 rfl) ?_
  refine lv_iload_n hx hb dX0_put_1 rfl (lv_at hl 1 rfl) ?_
  refine RO_i.callV (rest := []) (c_X0_slotOf l D cI cJ h hm hv hk sz M V K b hb1 (tab_mb htab) (tab_free htab (by omega))) ⟨hx, hb, hml, hown, hts⟩ (cwV 1 hts gX0_put_X0_slotOf rfl rfl rfl (by decide +kernel) ⟨Nat.le_of_ble_eq_true rfl, Nat.le_of_ble_eq_true rfl⟩) hK hP hS hA [0, 1, 2, 3] [0, 1] rfl rfl 0 1 rfl rfl rfl rfl hl.1 rfl (Nat.le_of_ble_eq_true rfl) dX0_put_2 ⟨Nat.zero_le _, Nat.zero_le _⟩ (fun v1_ H locs e1_ hP hS => ?_)
  obtain ⟨t, rfl, ht⟩ := e1_
  have htl := isSlot_lt ht
  have hMt := tab_mb htab t htl
  refine lv_istore_n (lv' := [(3, .int (nI t)), (0, .ref h), (1, .int (nI b)), (2, .int (nI x))]) hx hb dX0_put_5 rfl hl (by decide) rfl (fun ls hl => ?_)
  refine lv_aload_n hx hb dX0_put_6 rfl (lv_at hl 1 rfl) ?_
  refine va_get (D := D) (ci := 1) (v := .ref hm) (C := RX0) (T := TX0) (N := 4) hx hb hts hinX0 hown hK hP 0 rfl rfl 0 (by decide) (hts (.fieldLink RX0 11 "PassSearch$BinTable" "marks" "[I") (by decide +kernel)) (fun _ h9 => h9) rfl dX0_put_7 ?_
  refine lv_iload_n hx hb dX0_put_10 rfl (lv_at hl 0 rfl) ?_
  refine zi_ald hx hb hK hP 1 0 rfl rfl (k := t) (by omega) (by omega) dX0_put_11 ?_
  refine zi_if_ne (tgt := 56) hx hb dX0_put_12 (by decide) (by omega) (fun c12 => ?_) (fun c12 => ?_)
  · refine lv_aload_n hx hb dX0_put_56 rfl (lv_at hl 1 rfl) ?_
    refine va_get (D := D) (ci := 1) (v := .ref hv) (C := RX0) (T := TX0) (N := 4) hx hb hts hinX0 hown hK hP 0 rfl rfl 1 (by decide) (hts (.fieldLink RX0 15 "PassSearch$BinTable" "values" "[I") (by decide +kernel)) (fun _ h9 => h9) rfl dX0_put_57 ?_
    refine lv_iload_n hx hb dX0_put_60 rfl (lv_at hl 0 rfl) ?_
    refine lv_iload_n hx hb dX0_put_61 rfl (lv_at hl 3 rfl) ?_
    refine zi_ast hx hb hK hP hD hS 2 0 rfl rfl (k := t) (x := x) (by omega) (by omega) dX0_put_62 (fun H locs hP hD hS => ?_)
    have hP : va_P D vwCl [(h, .inr (1, [.ref hm, .ref hv, .ref hk, .int (nI sz)])), (hm, aI cI 1024 M), (hv, aI cI 1024 (uF V t x)), (hk, aI cI 512 K)] H := hP
    have hD : va_D A [(h, .inr (1, [.ref hm, .ref hv, .ref hk, .int (nI sz)])), (hm, aI cI 1024 M), (hv, aI cI 1024 (uF V t x)), (hk, aI cI 512 K)] := hD
    refine lv_iconst (v := nI 1) hx hb dX0_put_63 (by decide) ?_
    exact hret _ ((sz, M, uF V t x, K)) _ _ _ _ hP hD hS (Or.inr rfl) (⟨bI_t' trivial, tab_set htab ht (Nat.ne_of_gt c12) (Nat.ne_of_gt hx1), Nat.le_succ sz⟩) dX0_put_64
  · refine lv_aload_n hx hb dX0_put_15 rfl (lv_at hl 1 rfl) ?_
    refine va_get (D := D) (ci := 1) (v := .int (nI sz)) (C := RX0) (T := TX0) (N := 4) hx hb hts hinX0 hown hK hP 0 rfl rfl 3 (by decide) (hts (.fieldLink RX0 21 "PassSearch$BinTable" "size" "I") (by decide +kernel)) (fun _ h9 => h9) rfl dX0_put_16 ?_
    refine lv_sipush (v := nI 512) hx hb dX0_put_19 (by decide) ?_
    refine zi_lt (tgt := 27) hx hb dX0_put_22 (by decide) (by omega) (by omega) (fun c22 => ?_) (fun c22 => ?_)
    · refine lv_aload_n hx hb dX0_put_27 rfl (lv_at hl 1 rfl) ?_
      refine va_get (D := D) (ci := 1) (v := .ref hm) (C := RX0) (T := TX0) (N := 4) hx hb hts hinX0 hown hK hP 0 rfl rfl 0 (by decide) (hts (.fieldLink RX0 11 "PassSearch$BinTable" "marks" "[I") (by decide +kernel)) (fun _ h9 => h9) rfl dX0_put_28 ?_
      refine lv_iload_n hx hb dX0_put_31 rfl (lv_at hl 0 rfl) ?_
      refine lv_iload_n hx hb dX0_put_32 rfl (lv_at hl 2 rfl) ?_
      refine lv_iconst (v := nI 1) hx hb dX0_put_33 (by decide) ?_
      refine zi_add hx hb dX0_put_34  ?_
      refine zi_ast hx hb hK hP hD hS 1 0 rfl rfl (k := t) (x := b + 1) (by omega) (by omega) dX0_put_35 (fun H locs hP hD hS => ?_)
      have hP : va_P D vwCl [(h, .inr (1, [.ref hm, .ref hv, .ref hk, .int (nI sz)])), (hm, aI cI 1024 (uF M t (b + 1))), (hv, aI cI 1024 V), (hk, aI cI 512 K)] H := hP
      have hD : va_D A [(h, .inr (1, [.ref hm, .ref hv, .ref hk, .int (nI sz)])), (hm, aI cI 1024 (uF M t (b + 1))), (hv, aI cI 1024 V), (hk, aI cI 512 K)] := hD
      refine lv_aload_n hx hb dX0_put_36 rfl (lv_at hl 1 rfl) ?_
      refine va_get (D := D) (ci := 1) (v := .ref hk) (C := RX0) (T := TX0) (N := 4) hx hb hts hinX0 hown hK hP 0 rfl rfl 2 (by decide) (hts (.fieldLink RX0 18 "PassSearch$BinTable" "taken" "[I") (by decide +kernel)) (fun _ h9 => h9) rfl dX0_put_37 ?_
      refine lv_aload_n hx hb dX0_put_40 rfl (lv_at hl 1 rfl) ?_
      refine va_get (D := D) (ci := 1) (v := .int (nI sz)) (C := RX0) (T := TX0) (N := 4) hx hb hts hinX0 hown hK hP 0 rfl rfl 3 (by decide) (hts (.fieldLink RX0 21 "PassSearch$BinTable" "size" "I") (by decide +kernel)) (fun _ h9 => h9) rfl dX0_put_41 ?_
      refine lv_iload_n hx hb dX0_put_44 rfl (lv_at hl 0 rfl) ?_
      refine zi_ast hx hb hK hP hD hS 3 0 rfl rfl (k := sz) (x := t) (by omega) (by omega) dX0_put_45 (fun H locs hP hD hS => ?_)
      have hP : va_P D vwCl [(h, .inr (1, [.ref hm, .ref hv, .ref hk, .int (nI sz)])), (hm, aI cI 1024 (uF M t (b + 1))), (hv, aI cI 1024 V), (hk, aI cI 512 (uF K sz t))] H := hP
      have hD : va_D A [(h, .inr (1, [.ref hm, .ref hv, .ref hk, .int (nI sz)])), (hm, aI cI 1024 (uF M t (b + 1))), (hv, aI cI 1024 V), (hk, aI cI 512 (uF K sz t))] := hD
      refine lv_aload_n hx hb dX0_put_46 rfl (lv_at hl 1 rfl) ?_
      refine lv_dup hx hb dX0_put_47 rfl ?_
      refine va_get (D := D) (ci := 1) (v := .int (nI sz)) (C := RX0) (T := TX0) (N := 4) hx hb hts hinX0 hown hK hP 0 rfl rfl 3 (by decide) (hts (.fieldLink RX0 21 "PassSearch$BinTable" "size" "I") (by decide +kernel)) (fun _ h9 => h9) rfl dX0_put_48 ?_
      refine lv_iconst (v := nI 1) hx hb dX0_put_51 (by decide) ?_
      refine zi_add hx hb dX0_put_52  ?_
      refine va_put (D := D) (ci := 1) (v := .int (nI (sz + 1))) (ty := .int) (C := RX0) (T := TX0) (N := 4) hx hb hts hinX0 tyX0 tyX0_ok nmX0 hown hK hP hD hS 0 rfl rfl 3 (by decide) (hts (.fieldLink RX0 21 "PassSearch$BinTable" "size" "I") (by decide +kernel)) (fun _ h9 => h9) rfl (by decide +kernel) rfl rfl (Nat.le_of_ble_eq_true rfl) dX0_put_53 (fun H locs hP hD hS => ?_)
      have hP : va_P D vwCl [(h, .inr (1, [.ref hm, .ref hv, .ref hk, .int (nI (sz + 1))])), (hm, aI cI 1024 (uF M t (b + 1))), (hv, aI cI 1024 V), (hk, aI cI 512 (uF K sz t))] H := hP
      have hD : va_D A [(h, .inr (1, [.ref hm, .ref hv, .ref hk, .int (nI (sz + 1))])), (hm, aI cI 1024 (uF M t (b + 1))), (hv, aI cI 1024 V), (hk, aI cI 512 (uF K sz t))] := hD
      refine lv_aload_n hx hb dX0_put_56 rfl (lv_at hl 1 rfl) ?_
      refine va_get (D := D) (ci := 1) (v := .ref hv) (C := RX0) (T := TX0) (N := 4) hx hb hts hinX0 hown hK hP 0 rfl rfl 1 (by decide) (hts (.fieldLink RX0 15 "PassSearch$BinTable" "values" "[I") (by decide +kernel)) (fun _ h9 => h9) rfl dX0_put_57 ?_
      refine lv_iload_n hx hb dX0_put_60 rfl (lv_at hl 0 rfl) ?_
      refine lv_iload_n hx hb dX0_put_61 rfl (lv_at hl 3 rfl) ?_
      refine zi_ast hx hb hK hP hD hS 2 0 rfl rfl (k := t) (x := x) (by omega) (by omega) dX0_put_62 (fun H locs hP hD hS => ?_)
      have hP : va_P D vwCl [(h, .inr (1, [.ref hm, .ref hv, .ref hk, .int (nI (sz + 1))])), (hm, aI cI 1024 (uF M t (b + 1))), (hv, aI cI 1024 (uF V t x)), (hk, aI cI 512 (uF K sz t))] H := hP
      have hD : va_D A [(h, .inr (1, [.ref hm, .ref hv, .ref hk, .int (nI (sz + 1))])), (hm, aI cI 1024 (uF M t (b + 1))), (hv, aI cI 1024 (uF V t x)), (hk, aI cI 512 (uF K sz t))] := hD
      refine lv_iconst (v := nI 1) hx hb dX0_put_63 (by decide) ?_
      exact hret _ ((sz + 1, uF M t (b + 1), uF V t x, uF K sz t)) _ _ _ _ hP hD hS (Or.inr rfl) (⟨bI_t' trivial, tab_add htab ht c12 (Nat.ne_of_gt hx1) hb1, Nat.le_refl _⟩) dX0_put_64
    · exact False.elim (by omega)
set_option maxHeartbeats 4000000 in
set_option maxRecDepth 100000 in
/-- clear -/
theorem c_X0_clear (l : Launch) (D : va_G) (cI cJ : ClassId) (h hm hv hk sz : Nat) (M V K : Nat → Nat) (f : Nat → Nat) (htab : tab M V K sz f) (hsz : sz ≤ 512) : WR_v l yX0_clear wsX0_clear ({ frames := 0, cells := 0, slots := 0, locals := 0 } : Room) D [(h, .inr (1, [.ref hm, .ref hv, .ref hk, .int (nI sz)])), (hm, aI cI 1024 M), (hv, aI cI 1024 V), (hk, aI cI 512 K)] [(cI, .int), (cJ, .long)] [.ref h] (fun (u : Nat → Nat) => [(h, .inr (1, [.ref hm, .ref hv, .ref hk, .int (nI 0)])), (hm, aI cI 1024 u), (hv, aI cI 1024 V), (hk, aI cI 512 K)]) (fun u => ∀ t, t < 1024 → u t = 0) 0 0 := by
  refine WR_v.of (cc := cX0_clear) (maxL := 2) (by decide) rfl (Nat.le_of_ble_eq_true rfl) ?_
  intro p e s m args below meth c ls A Q hx hb hml hts hown hA hP hD hK hl hin hret
  have hown : s.vm.findClass RX0 = some m.cls := hown
  have hl : lv_has ls 2 [(0, .ref h)] := hl
  have hS : va_S A s.heap s.heap [] := va_S.rf
  have hinX0 : ∀ w ∈ wsX00, w ∈ wsX0_clear := by decide +kernel
  refine lv_iconst (v := nI 0) hx hb dX0_clear_0 (by decide) ?_
  refine lv_istore_n (lv' := [(1, .int (nI 0)), (0, .ref h)]) hx hb dX0_clear_1 rfl hl (by decide) rfl (fun ls hl => ?_)
  have L2 : ∀ (nf : Nat) (i : Nat) (N : Nat → Nat), (i ≤ sz) → (∀ t, t < 1024 → N t ≠ 0 → ∃ j, i ≤ j ∧ j < sz ∧ K j = t) → sz - i < nf → ∀ (H : Heap) (locs : List Loc) (ls : Array Slot), va_P D vwCl [(h, .inr (1, [.ref hm, .ref hv, .ref hk, .int (nI sz)])), (hm, aI cI 1024 N), (hv, aI cI 1024 V), (hk, aI cI 512 K)] H → va_D A [(h, .inr (1, [.ref hm, .ref hv, .ref hk, .int (nI sz)])), (hm, aI cI 1024 N), (hv, aI cI 1024 V), (hk, aI cI 512 K)] → va_S A s.heap H locs → lv_has ls 2 [(1, .int (nI i)), (0, .ref h)] → W p l e ({ frames := 0, cells := 0, slots := 0, locals := 0 } : Room) s m args below meth c H locs 0 0 Q (F0 m 2 ls []) := by
    intro nf
    induction nf with
    | zero => intro i N i1 i2 hm; exact absurd hm (Nat.not_lt_zero _)
    | succ nf ih2 =>
      intro i N i1 i2 hm2 H locs ls hP hD hS hl
      refine lv_iload_n hx hb dX0_clear_2 rfl (lv_at hl 0 rfl) ?_
      refine lv_aload_n hx hb dX0_clear_3 rfl (lv_at hl 1 rfl) ?_
      refine va_get (D := D) (ci := 1) (v := .int (nI sz)) (C := RX0) (T := TX0) (N := 4) hx hb hts hinX0 hown hK hP 0 rfl rfl 3 (by decide) (hts (.fieldLink RX0 21 "PassSearch$BinTable" "size" "I") (by decide +kernel)) (fun _ h9 => h9) rfl dX0_clear_4 ?_
      refine zi_ge (tgt := 28) hx hb dX0_clear_7 (by decide) (by omega) (by omega) (fun c7 => ?_) (fun c7 => ?_)
      · refine lv_aload_n hx hb dX0_clear_28 rfl (lv_at hl 1 rfl) ?_
        refine lv_iconst (v := nI 0) hx hb dX0_clear_29 (by decide) ?_
        refine va_put (D := D) (ci := 1) (v := .int (nI 0)) (ty := .int) (C := RX0) (T := TX0) (N := 4) hx hb hts hinX0 tyX0 tyX0_ok nmX0 hown hK hP hD hS 0 rfl rfl 3 (by decide) (hts (.fieldLink RX0 21 "PassSearch$BinTable" "size" "I") (by decide +kernel)) (fun _ h9 => h9) rfl (by decide +kernel) rfl rfl (Nat.le_of_ble_eq_true rfl) dX0_clear_30 (fun H locs hP hD hS => ?_)
        have hP : va_P D vwCl [(h, .inr (1, [.ref hm, .ref hv, .ref hk, .int (nI 0)])), (hm, aI cI 1024 N), (hv, aI cI 1024 V), (hk, aI cI 512 K)] H := hP
        have hD : va_D A [(h, .inr (1, [.ref hm, .ref hv, .ref hk, .int (nI 0)])), (hm, aI cI 1024 N), (hv, aI cI 1024 V), (hk, aI cI 512 K)] := hD
        exact hret (N) _ _ _ _ hP hD hS (fun t ht => Classical.byContradiction fun q => by
              obtain ⟨j, h1, h2, -⟩ := i2 t ht q
              omega) dX0_clear_33
      · have hki := (htab.2.2.1 i (by omega)).1
        refine lv_aload_n hx hb dX0_clear_10 rfl (lv_at hl 1 rfl) ?_
        refine va_get (D := D) (ci := 1) (v := .ref hm) (C := RX0) (T := TX0) (N := 4) hx hb hts hinX0 hown hK hP 0 rfl rfl 0 (by decide) (hts (.fieldLink RX0 11 "PassSearch$BinTable" "marks" "[I") (by decide +kernel)) (fun _ h9 => h9) rfl dX0_clear_11 ?_
        refine lv_aload_n hx hb dX0_clear_14 rfl (lv_at hl 1 rfl) ?_
        refine va_get (D := D) (ci := 1) (v := .ref hk) (C := RX0) (T := TX0) (N := 4) hx hb hts hinX0 hown hK hP 0 rfl rfl 2 (by decide) (hts (.fieldLink RX0 18 "PassSearch$BinTable" "taken" "[I") (by decide +kernel)) (fun _ h9 => h9) rfl dX0_clear_15 ?_
        refine lv_iload_n hx hb dX0_clear_18 rfl (lv_at hl 0 rfl) ?_
        refine zi_ald hx hb hK hP 3 0 rfl rfl (k := i) (by omega) (by omega) dX0_clear_19 ?_
        refine lv_iconst (v := nI 0) hx hb dX0_clear_20 (by decide) ?_
        refine zi_ast hx hb hK hP hD hS 1 0 rfl rfl (k := K i) (x := 0) (by omega) (by omega) dX0_clear_21 (fun H locs hP hD hS => ?_)
        have hP : va_P D vwCl [(h, .inr (1, [.ref hm, .ref hv, .ref hk, .int (nI sz)])), (hm, aI cI 1024 (uF N (K i) 0)), (hv, aI cI 1024 V), (hk, aI cI 512 K)] H := hP
        have hD : va_D A [(h, .inr (1, [.ref hm, .ref hv, .ref hk, .int (nI sz)])), (hm, aI cI 1024 (uF N (K i) 0)), (hv, aI cI 1024 V), (hk, aI cI 512 K)] := hD
        refine lv_iinc (v := nI (i + 1)) (lv' := [(1, .int (nI (i + 1))), (0, .ref h)]) hx hb dX0_clear_22 hl (k := 0) rfl (by rw [show Int32.ofInt 1 = nI 1 by decide, nI_add]) (by decide) rfl (fun ls hl => ?_)
        refine lv_goto (tgt := 2) hx hb dX0_clear_25 (by decide) ?_
        exact ih2 (i + 1) (uF N (K i) 0) (by omega) (fun t ht h0 => by
                by_cases hq : t = K i
                · rw [hq, uF_s] at h0; exact absurd rfl h0
                · rw [uF_n hq] at h0
                  obtain ⟨j, h1, h2, h3⟩ := i2 t ht h0
                  have : j ≠ i := fun q => hq (by rw [← h3, q])
                  exact ⟨j, by omega, h2, h3⟩) (by omega) _ _ _ hP hD hS (lv_sub hl [0, 1] rfl)
  exact L2 _ 0 M (by omega) (fun t ht h0 => by
      obtain ⟨j, hj, e⟩ := (htab.2.1 t ht h0).2.2.2
      exact ⟨j, by omega, hj, e⟩) (Nat.lt_succ_self _) _ _ _ hP hD hS (lv_sub hl [0, 1] rfl)
