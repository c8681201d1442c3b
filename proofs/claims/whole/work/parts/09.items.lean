theorem isIns_old {P O O2 : Nat → Nat} {gc a kp : Nat} (hO : ∀ k, k < gc → O k < gc) (h : isIns (uF P gc a) O gc (uF P gc a gc) kp O2) : isIns P O gc a kp O2 := by
  obtain ⟨h0, h1, h2, h3, h4, h5⟩ := h
  rw [uF_s] at h4 h5
  refine ⟨h0, h1, h2, h3, fun i hi hg => ?_, ?_⟩
  · have := h4 i hi hg
    have hq := hO i hg
    rw [uF_n (by omega)] at this
    exact this
  · rcases h5 with h5 | h5
    · exact Or.inl h5
    · rcases Nat.eq_zero_or_pos kp with q | q
      · exact Or.inl q
      · have hq := hO (kp - 1) (by omega)
        rw [uF_n (by omega)] at h5
        exact Or.inr h5
set_option maxHeartbeats 4000000 in
set_option maxRecDepth 100000 in
/-- total -/
theorem c_X1_total (l : Launch) (D : va_G) (cI cJ : ClassId) (h h1 h2 h3 h4 gc tt : Nat) (P F C O : Nat → Nat) : RO_i l yX1_total wsX1_total ({ frames := 0, cells := 0, slots := 0, locals := 0 } : Room) D [(h, .inr (2, [.ref h1, .ref h2, .ref h3, .ref h4, .int (nI gc), .int (nI tt)])), (h1, aJ cJ 512 P), (h2, aI cI 512 F), (h3, aI cI 512 C), (h4, aI cI 512 O)] [(cI, .int), (cJ, .long)] [.ref h] (fun v => v = nI tt) := by
  refine RO_i.of (cc := cX1_total) (maxL := 1) (by decide) rfl (Nat.le_of_ble_eq_true rfl) ?_
  intro p e s m args below meth c ls A Q hx hb hml hts hown hA hP hK hl hret
  have hown : s.vm.findClass RX1 = some m.cls := hown
  have hl : lv_has ls 1 [(0, .ref h)] := hl
  have hS : va_S A s.heap s.heap [] := va_S.rf
  have hinX1 : ∀ w ∈ wsX10, w ∈ wsX1_total := by decide +kernel
  refine lv_aload_n hx hb dX1_total_0 rfl (lv_at hl 0 rfl) ?_
  refine va_get (D := D) (ci := 2) (v := .int (nI tt)) (C := RX1) (T := TX1) (N := 6) hx hb hts hinX1 hown hK hP 0 rfl rfl 5 (by decide) (hts (.fieldLink RX1 29 "PassSearch$Items" "total" "I") (by decide +kernel)) (fun _ h9 => h9) rfl dX1_total_1 ?_
  exact hret _ _ _ _ _ hS (rfl) dX1_total_4
set_option maxHeartbeats 4000000 in
set_option maxRecDepth 100000 in
/-- groupCount -/
theorem c_X1_groupCount (l : Launch) (D : va_G) (cI cJ : ClassId) (h h1 h2 h3 h4 gc tt : Nat) (P F C O : Nat → Nat) : RO_i l yX1_groupCount wsX1_groupCount ({ frames := 0, cells := 0, slots := 0, locals := 0 } : Room) D [(h, .inr (2, [.ref h1, .ref h2, .ref h3, .ref h4, .int (nI gc), .int (nI tt)])), (h1, aJ cJ 512 P), (h2, aI cI 512 F), (h3, aI cI 512 C), (h4, aI cI 512 O)] [(cI, .int), (cJ, .long)] [.ref h] (fun v => v = nI gc) := by
  refine RO_i.of (cc := cX1_groupCount) (maxL := 1) (by decide) rfl (Nat.le_of_ble_eq_true rfl) ?_
  intro p e s m args below meth c ls A Q hx hb hml hts hown hA hP hK hl hret
  have hown : s.vm.findClass RX1 = some m.cls := hown
  have hl : lv_has ls 1 [(0, .ref h)] := hl
  have hS : va_S A s.heap s.heap [] := va_S.rf
  have hinX1 : ∀ w ∈ wsX10, w ∈ wsX1_groupCount := by decide +kernel
  refine lv_aload_n hx hb dX1_groupCount_0 rfl (lv_at hl 0 rfl) ?_
  refine va_get (D := D) (ci := 2) (v := .int (nI gc)) (C := RX1) (T := TX1) (N := 6) hx hb hts hinX1 hown hK hP 0 rfl rfl 4 (by decide) (hts (.fieldLink RX1 25 "PassSearch$Items" "groupCount" "I") (by decide +kernel)) (fun _ h9 => h9) rfl dX1_groupCount_1 ?_
  exact hret _ _ _ _ _ hS (rfl) dX1_groupCount_4
set_option maxHeartbeats 4000000 in
set_option maxRecDepth 100000 in
/-- hasGroup -/
theorem c_X1_hasGroup (l : Launch) (D : va_G) (cI cJ : ClassId) (h h1 h2 h3 h4 gc tt : Nat) (P F C O : Nat → Nat) (g : Nat) (hg : g < 2147483648) (hgc : gc < 2147483648) : RO_i l yX1_hasGroup wsX1_hasGroup ({ frames := 0, cells := 0, slots := 0, locals := 0 } : Room) D [(h, .inr (2, [.ref h1, .ref h2, .ref h3, .ref h4, .int (nI gc), .int (nI tt)])), (h1, aJ cJ 512 P), (h2, aI cI 512 F), (h3, aI cI 512 C), (h4, aI cI 512 O)] [(cI, .int), (cJ, .long)] [.ref h, .int (nI g)] (fun v => v = bI (g < gc)) := by
  refine RO_i.ofz (cc := cX1_hasGroup) (maxL := 2) (by decide) rfl (Nat.le_of_ble_eq_true rfl) ?_
  intro p e s m args below meth c ls A Q hx hb hml hts hown hA hP hK hl hret
  have hown : s.vm.findClass RX1 = some m.cls := hown
  have hl : lv_has ls 2 [(0, .ref h), (1, .int (nI g))] := hl
  have hS : va_S A s.heap s.heap [] := va_S.rf
  have hinX1 : ∀ w ∈ wsX10, w ∈ wsX1_hasGroup := by decide +kernel
  refine lv_iload_n hx hb dX1_hasGroup_0 rfl (lv_at hl 1 rfl) ?_
  refine zi_if_lt (tgt := 16) hx hb dX1_hasGroup_1 (by decide) (by omega) (fun c1 => ?_) (fun c1 => ?_)
  · exact False.elim (by omega)
  · refine lv_iload_n hx hb dX1_hasGroup_4 rfl (lv_at hl 1 rfl) ?_
    refine lv_aload_n hx hb dX1_hasGroup_5 rfl (lv_at hl 0 rfl) ?_
    refine va_get (D := D) (ci := 2) (v := .int (nI gc)) (C := RX1) (T := TX1) (N := 6) hx hb hts hinX1 hown hK hP 0 rfl rfl 4 (by decide) (hts (.fieldLink RX1 25 "PassSearch$Items" "groupCount" "I") (by decide +kernel)) (fun _ h9 => h9) rfl dX1_hasGroup_6 ?_
    refine zi_ge (tgt := 16) hx hb dX1_hasGroup_9 (by decide) (by omega) (by omega) (fun c9 => ?_) (fun c9 => ?_)
    · refine lv_iconst (v := nI 0) hx hb dX1_hasGroup_16 (by decide) ?_
      exact hret _ _ _ _ _ hS (Or.inl rfl) (bI_f' (by omega)) dX1_hasGroup_17
    · refine lv_iconst (v := nI 1) hx hb dX1_hasGroup_12 (by decide) ?_
      refine lv_goto (tgt := 17) hx hb dX1_hasGroup_13 (by decide) ?_
      exact hret _ _ _ _ _ hS (Or.inr rfl) (bI_t' c9) dX1_hasGroup_17
set_option maxHeartbeats 4000000 in
set_option maxRecDepth 100000 in
/-- pointOf -/
theorem c_X1_pointOf (l : Launch) (D : va_G) (cI cJ : ClassId) (h h1 h2 h3 h4 gc tt : Nat) (P F C O : Nat → Nat) (g : Nat) (hg : g < gc) (hgc : gc ≤ 512) : RO_l l yX1_pointOf wsX1_pointOf ({ frames := 1, cells := 0, slots := 0, locals := 21 } : Room) D [(h, .inr (2, [.ref h1, .ref h2, .ref h3, .ref h4, .int (nI gc), .int (nI tt)])), (h1, aJ cJ 512 P), (h2, aI cI 512 F), (h3, aI cI 512 C), (h4, aI cI 512 O)] [(cI, .int), (cJ, .long)] [.ref h, .int (nI g)] (fun v => v = lN (P g)) := by
  refine RO_l.of (cc := cX1_pointOf) (maxL := 2) (by decide) rfl (Nat.le_of_ble_eq_true rfl) ?_
  intro p e s m args below meth c ls A Q hx hb hml hts hown hA hP hK hl hret
  have hown : s.vm.findClass RX1 = some m.cls := hown
  have hl : lv_has ls 2 [(0, .ref h), (1, .int (nI g))] := hl
  have hS : va_S A s.heap s.heap [] := va_S.rf
  have hinX1 : ∀ w ∈ wsX10, w ∈ wsX1_pointOf := by decide +kernel
  refine lv_aload_n hx hb dX1_pointOf_0 rfl (lv_at hl 0 rfl) ?_
  refine lv_iload_n hx hb dX1_pointOf_1 rfl (lv_at hl 1 rfl) ?_
  refine RO_i.callV (rest := []) (c_X1_hasGroup l D cI cJ h h1 h2 h3 h4 gc tt P F C O g (by omega) (by omega)) ⟨hx, hb, hml, hown, hts⟩ (cwV 1 hts gX1_pointOf_X1_hasGroup rfl rfl rfl (by decide +kernel) ⟨Nat.le_of_ble_eq_true rfl, Nat.le_of_ble_eq_true rfl⟩) hK hP hS hA [0, 1, 2, 3, 4] [0, 1] rfl rfl 0 2 rfl rfl rfl rfl hl.1 rfl (Nat.le_of_ble_eq_true rfl) dX1_pointOf_2 ⟨Nat.zero_le _, Nat.zero_le _⟩ (fun v1_ H locs e1_ hP hS => ?_)
  obtain rfl : v1_ = bI (g < gc) := e1_
  refine zb_eq (tgt := 17) hx hb dX1_pointOf_5 (by decide) (fun c5 => ?_) (fun c5 => ?_)
  · exact False.elim (c5 hg)
  · refine lv_aload_n hx hb dX1_pointOf_8 rfl (lv_at hl 0 rfl) ?_
    refine va_get (D := D) (ci := 2) (v := .ref h1) (C := RX1) (T := TX1) (N := 6) hx hb hts hinX1 hown hK hP 0 rfl rfl 0 (by decide) (hts (.fieldLink RX1 9 "PassSearch$Items" "points" "[J") (by decide +kernel)) (fun _ h9 => h9) rfl dX1_pointOf_9 ?_
    refine lv_iload_n hx hb dX1_pointOf_12 rfl (lv_at hl 1 rfl) ?_
    refine zl_ald hx hb hK hP 1 1 rfl rfl (k := g) (by omega) (by omega) dX1_pointOf_13 ?_
    refine lv_goto (tgt := 18) hx hb dX1_pointOf_14 (by decide) ?_
    exact hret _ _ _ _ _ hS (rfl) dX1_pointOf_18
set_option maxHeartbeats 4000000 in
set_option maxRecDepth 100000 in
/-- countOf -/
theorem c_X1_countOf (l : Launch) (D : va_G) (cI cJ : ClassId) (h h1 h2 h3 h4 gc tt : Nat) (P F C O : Nat → Nat) (g : Nat) (hg : g < gc) (hgc : gc ≤ 512) : RO_i l yX1_countOf wsX1_countOf ({ frames := 1, cells := 0, slots := 0, locals := 21 } : Room) D [(h, .inr (2, [.ref h1, .ref h2, .ref h3, .ref h4, .int (nI gc), .int (nI tt)])), (h1, aJ cJ 512 P), (h2, aI cI 512 F), (h3, aI cI 512 C), (h4, aI cI 512 O)] [(cI, .int), (cJ, .long)] [.ref h, .int (nI g)] (fun v => v = nI (C g)) := by
  refine RO_i.of (cc := cX1_countOf) (maxL := 2) (by decide) rfl (Nat.le_of_ble_eq_true rfl) ?_
  intro p e s m args below meth c ls A Q hx hb hml hts hown hA hP hK hl hret
  have hown : s.vm.findClass RX1 = some m.cls := hown
  have hl : lv_has ls 2 [(0, .ref h), (1, .int (nI g))] := hl
  have hS : va_S A s.heap s.heap [] := va_S.rf
  have hinX1 : ∀ w ∈ wsX10, w ∈ wsX1_countOf := by decide +kernel
  refine lv_aload_n hx hb dX1_countOf_0 rfl (lv_at hl 0 rfl) ?_
  refine lv_iload_n hx hb dX1_countOf_1 rfl (lv_at hl 1 rfl) ?_
  refine RO_i.callV (rest := []) (c_X1_hasGroup l D cI cJ h h1 h2 h3 h4 gc tt P F C O g (by omega) (by omega)) ⟨hx, hb, hml, hown, hts⟩ (cwV 1 hts gX1_countOf_X1_hasGroup rfl rfl rfl (by decide +kernel) ⟨Nat.le_of_ble_eq_true rfl, Nat.le_of_ble_eq_true rfl⟩) hK hP hS hA [0, 1, 2, 3, 4] [0, 1] rfl rfl 0 2 rfl rfl rfl rfl hl.1 rfl (Nat.le_of_ble_eq_true rfl) dX1_countOf_2 ⟨Nat.zero_le _, Nat.zero_le _⟩ (fun v1_ H locs e1_ hP hS => ?_)
  obtain rfl : v1_ = bI (g < gc) := e1_
  refine zb_eq (tgt := 17) hx hb dX1_countOf_5 (by decide) (fun c5 => ?_) (fun c5 => ?_)
  · exact False.elim (c5 hg)
  · refine lv_aload_n hx hb dX1_countOf_8 rfl (lv_at hl 0 rfl) ?_
    refine va_get (D := D) (ci := 2) (v := .ref h3) (C := RX1) (T := TX1) (N := 6) hx hb hts hinX1 hown hK hP 0 rfl rfl 2 (by decide) (hts (.fieldLink RX1 19 "PassSearch$Items" "counts" "[I") (by decide +kernel)) (fun _ h9 => h9) rfl dX1_countOf_9 ?_
    refine lv_iload_n hx hb dX1_countOf_12 rfl (lv_at hl 1 rfl) ?_
    refine zi_ald hx hb hK hP 3 0 rfl rfl (k := g) (by omega) (by omega) dX1_countOf_13 ?_
    refine lv_goto (tgt := 18) hx hb dX1_countOf_14 (by decide) ?_
    exact hret _ _ _ _ _ hS (rfl) dX1_countOf_18
set_option maxHeartbeats 4000000 in
set_option maxRecDepth 100000 in
/-- hasRoom -/
theorem c_X1_hasRoom (l : Launch) (D : va_G) (cI cJ : ClassId) (h h1 h2 h3 h4 gc tt : Nat) (P F C O : Nat → Nat) (n : Nat) (hn : n ≤ 1000) (ht : tt ≤ 4000) (hgc : gc ≤ 512) : RO_i l yX1_hasRoom wsX1_hasRoom ({ frames := 0, cells := 0, slots := 0, locals := 0 } : Room) D [(h, .inr (2, [.ref h1, .ref h2, .ref h3, .ref h4, .int (nI gc), .int (nI tt)])), (h1, aJ cJ 512 P), (h2, aI cI 512 F), (h3, aI cI 512 C), (h4, aI cI 512 O)] [(cI, .int), (cJ, .long)] [.ref h, .int (nI n)] (fun v => v = bI (tt + n ≤ 4000 ∧ (n = 0 ∨ gc < 512))) := by
  refine RO_i.ofz (cc := cX1_hasRoom) (maxL := 2) (by decide) rfl (Nat.le_of_ble_eq_true rfl) ?_
  intro p e s m args below meth c ls A Q hx hb hml hts hown hA hP hK hl hret
  have hown : s.vm.findClass RX1 = some m.cls := hown
  have hl : lv_has ls 2 [(0, .ref h), (1, .int (nI n))] := hl
  have hS : va_S A s.heap s.heap [] := va_S.rf
  have hinX1 : ∀ w ∈ wsX10, w ∈ wsX1_hasRoom := by decide +kernel
  refine lv_aload_n hx hb dX1_hasRoom_0 rfl (lv_at hl 0 rfl) ?_
  refine va_get (D := D) (ci := 2) (v := .int (nI tt)) (C := RX1) (T := TX1) (N := 6) hx hb hts hinX1 hown hK hP 0 rfl rfl 5 (by decide) (hts (.fieldLink RX1 29 "PassSearch$Items" "total" "I") (by decide +kernel)) (fun _ h9 => h9) rfl dX1_hasRoom_1 ?_
  refine lv_iload_n hx hb dX1_hasRoom_4 rfl (lv_at hl 1 rfl) ?_
  refine zi_add hx hb dX1_hasRoom_5  ?_
  refine lv_sipush (v := nI 4000) hx hb dX1_hasRoom_6 (by decide) ?_
  refine zi_gt (tgt := 30) hx hb dX1_hasRoom_9 (by decide) (by omega) (by omega) (fun c9 => ?_) (fun c9 => ?_)
  · refine lv_iconst (v := nI 0) hx hb dX1_hasRoom_30 (by decide) ?_
    exact hret _ _ _ _ _ hS (Or.inl rfl) (bI_f' (by omega)) dX1_hasRoom_31
  · refine lv_iload_n hx hb dX1_hasRoom_12 rfl (lv_at hl 1 rfl) ?_
    refine zi_if_eq (tgt := 26) hx hb dX1_hasRoom_13 (by decide) (by omega) (fun c13 => ?_) (fun c13 => ?_)
    · refine lv_iconst (v := nI 1) hx hb dX1_hasRoom_26 (by decide) ?_
      refine lv_goto (tgt := 31) hx hb dX1_hasRoom_27 (by decide) ?_
      exact hret _ _ _ _ _ hS (Or.inr rfl) (bI_t' (by omega)) dX1_hasRoom_31
    · refine lv_aload_n hx hb dX1_hasRoom_16 rfl (lv_at hl 0 rfl) ?_
      refine va_get (D := D) (ci := 2) (v := .int (nI gc)) (C := RX1) (T := TX1) (N := 6) hx hb hts hinX1 hown hK hP 0 rfl rfl 4 (by decide) (hts (.fieldLink RX1 25 "PassSearch$Items" "groupCount" "I") (by decide +kernel)) (fun _ h9 => h9) rfl dX1_hasRoom_17 ?_
      refine lv_sipush (v := nI 512) hx hb dX1_hasRoom_20 (by decide) ?_
      refine zi_ge (tgt := 30) hx hb dX1_hasRoom_23 (by decide) (by omega) (by omega) (fun c23 => ?_) (fun c23 => ?_)
      · refine lv_iconst (v := nI 0) hx hb dX1_hasRoom_30 (by decide) ?_
        exact hret _ _ _ _ _ hS (Or.inl rfl) (bI_f' (by omega)) dX1_hasRoom_31
      · refine lv_iconst (v := nI 1) hx hb dX1_hasRoom_26 (by decide) ?_
        refine lv_goto (tgt := 31) hx hb dX1_hasRoom_27 (by decide) ?_
        exact hret _ _ _ _ _ hS (Or.inr rfl) (bI_t' (by omega)) dX1_hasRoom_31
set_option maxHeartbeats 4000000 in
set_option maxRecDepth 100000 in
/-- groupOf -/
theorem c_X1_groupOf (l : Launch) (D : va_G) (cI cJ : ClassId) (h h1 h2 h3 h4 gc tt : Nat) (P F C O : Nat → Nat) (x : Nat) (hit : itOK gc tt P F C) (hx1 : x < tt) : RO_i l yX1_groupOf wsX1_groupOf ({ frames := 0, cells := 0, slots := 0, locals := 0 } : Room) D [(h, .inr (2, [.ref h1, .ref h2, .ref h3, .ref h4, .int (nI gc), .int (nI tt)])), (h1, aJ cJ 512 P), (h2, aI cI 512 F), (h3, aI cI 512 C), (h4, aI cI 512 O)] [(cI, .int), (cJ, .long)] [.ref h, .int (nI x)] (fun v => ∃ ow, v = nI ow ∧ ow < gc ∧ F ow ≤ x ∧ x < F ow + C ow) := by
  refine RO_i.of (cc := cX1_groupOf) (maxL := 3) (by decide) rfl (Nat.le_of_ble_eq_true rfl) ?_
  intro p e s m args below meth c ls A Q hx hb hml hts hown hA hP hK hl hret
  have hown : s.vm.findClass RX1 = some m.cls := hown
  have hl : lv_has ls 3 [(0, .ref h), (1, .int (nI x))] := hl
  have hS : va_S A s.heap s.heap [] := va_S.rf
  have hinX1 : ∀ w ∈ wsX10, w ∈ wsX1_groupOf := by decide +kernel
  have hgc := hit.1
  have htt := hit.2.1
  have hg1 : 1 ≤ gc := by
    rcases Nat.eq_zero_or_pos gc with q | q
    · have := hit.2.2.1; rw [q] at this; simp only [sumN] at this; omega
    · exact q
  refine lv_aload_n hx hb dX1_groupOf_0 rfl (lv_at hl 0 rfl) ?_
  refine va_get (D := D) (ci := 2) (v := .int (nI gc)) (C := RX1) (T := TX1) (N := 6) hx hb hts hinX1 hown hK hP 0 rfl rfl 4 (by decide) (hts (.fieldLink RX1 25 "PassSearch$Items" "groupCount" "I") (by decide +kernel)) (fun _ h9 => h9) rfl dX1_groupOf_1 ?_
  refine lv_iconst (v := nI 1) hx hb dX1_groupOf_4 (by decide) ?_
  refine zi_sub hx hb dX1_groupOf_5 (by omega) ?_
  refine lv_istore_n (lv' := [(2, .int (nI (gc - 1))), (0, .ref h), (1, .int (nI x))]) hx hb dX1_groupOf_6 rfl hl (by decide) rfl (fun ls hl => ?_)
  have L7 : ∀ (nf : Nat) (g : Nat), (g < gc) → (x < F g + C g) → g < nf → ∀ (H : Heap) (locs : List Loc) (ls : Array Slot), va_P D vwCl [(h, .inr (2, [.ref h1, .ref h2, .ref h3, .ref h4, .int (nI gc), .int (nI tt)])), (h1, aJ cJ 512 P), (h2, aI cI 512 F), (h3, aI cI 512 C), (h4, aI cI 512 O)] H → va_S A s.heap H locs → lv_has ls 3 [(2, .int (nI g)), (0, .ref h), (1, .int (nI x))] → W p l e ({ frames := 0, cells := 0, slots := 0, locals := 0 } : Room) s m args below meth c H locs 0 0 Q (F0 m 7 ls []) := by
    intro nf
    induction nf with
    | zero => intro g i1 i2 hm; exact absurd hm (Nat.not_lt_zero _)
    | succ nf ih7 =>
      intro g i1 i2 hm7 H locs ls hP hS hl
      refine lv_iload_n hx hb dX1_groupOf_7 rfl (lv_at hl 0 rfl) ?_
      refine zi_if_le (tgt := 27) hx hb dX1_groupOf_8 (by decide) (by omega) (fun c8 => ?_) (fun c8 => ?_)
      · refine lv_iload_n hx hb dX1_groupOf_27 rfl (lv_at hl 0 rfl) ?_
        exact hret _ _ _ _ _ hS (⟨g, rfl, i1, by rw [c8, (hit.2.2.2 0 (by omega)).1]; exact Nat.zero_le _, i2⟩) dX1_groupOf_28
      · have hFg := it_le hit i1
        refine lv_aload_n hx hb dX1_groupOf_11 rfl (lv_at hl 1 rfl) ?_
        refine va_get (D := D) (ci := 2) (v := .ref h2) (C := RX1) (T := TX1) (N := 6) hx hb hts hinX1 hown hK hP 0 rfl rfl 1 (by decide) (hts (.fieldLink RX1 15 "PassSearch$Items" "firsts" "[I") (by decide +kernel)) (fun _ h9 => h9) rfl dX1_groupOf_12 ?_
        refine lv_iload_n hx hb dX1_groupOf_15 rfl (lv_at hl 0 rfl) ?_
        refine zi_ald hx hb hK hP 2 0 rfl rfl (k := g) (by omega) (by omega) dX1_groupOf_16 ?_
        refine lv_iload_n hx hb dX1_groupOf_17 rfl (lv_at hl 2 rfl) ?_
        refine zi_le (tgt := 27) hx hb dX1_groupOf_18 (by decide) (by omega) (by omega) (fun c18 => ?_) (fun c18 => ?_)
        · refine lv_iload_n hx hb dX1_groupOf_27 rfl (lv_at hl 0 rfl) ?_
          exact hret _ _ _ _ _ hS (⟨g, rfl, i1, c18, i2⟩) dX1_groupOf_28
        · refine lv_iinc (v := nI (g - 1)) (lv' := [(2, .int (nI (g - 1))), (0, .ref h), (1, .int (nI x))]) hx hb dX1_groupOf_21 hl (k := 0) rfl (by rw [show Int32.ofInt (-1) = -nI 1 by decide, ← Int32.sub_eq_add_neg, pk_sub (by omega)]) (by decide) rfl (fun ls hl => ?_)
          refine lv_goto (tgt := 7) hx hb dX1_groupOf_24 (by decide) ?_
          exact ih7 (g - 1) (by omega) (by rw [← it_next hit (g := g - 1) (by omega), show g - 1 + 1 = g by omega]; exact c18) (by omega) _ _ _ hP hS (lv_sub hl [0, 1, 2] rfl)
  exact L7 _ (gc - 1) (by omega) (by rw [← it_last hit (by omega)]; exact hx1) (Nat.lt_succ_self _) _ _ _ hP hS (lv_sub hl [0, 1, 2] rfl)
set_option maxHeartbeats 4000000 in
set_option maxRecDepth 100000 in
/-- putSorted -/
theorem c_X1_putSorted (l : Launch) (D : va_G) (cI cJ : ClassId) (h h1 h2 h3 h4 gc tt : Nat) (P F C O : Nat → Nat) (g : Nat) (hg : g < 512) (hO : ∀ i, i < g → O i < g) (hP1 : ∀ i, i ≤ g → P i < 4611686018427387904) : WR_v l yX1_putSorted wsX1_putSorted ({ frames := 0, cells := 0, slots := 0, locals := 0 } : Room) D [(h, .inr (2, [.ref h1, .ref h2, .ref h3, .ref h4, .int (nI gc), .int (nI tt)])), (h1, aJ cJ 512 P), (h2, aI cI 512 F), (h3, aI cI 512 C), (h4, aI cI 512 O)] [(cI, .int), (cJ, .long)] [.ref h, .int (nI g)] (fun (u : Nat → Nat) => [(h, .inr (2, [.ref h1, .ref h2, .ref h3, .ref h4, .int (nI gc), .int (nI tt)])), (h1, aJ cJ 512 P), (h2, aI cI 512 F), (h3, aI cI 512 C), (h4, aI cI 512 u)]) (fun u => ∃ kp, isIns P O g (P g) kp u) 0 0 := by
  refine WR_v.of (cc := cX1_putSorted) (maxL := 3) (by decide) rfl (Nat.le_of_ble_eq_true rfl) ?_
  intro p e s m args below meth c ls A Q hx hb hml hts hown hA hP hD hK hl hin hret
  have hown : s.vm.findClass RX1 = some m.cls := hown
  have hl : lv_has ls 3 [(0, .ref h), (1, .int (nI g))] := hl
  have hS : va_S A s.heap s.heap [] := va_S.rf
  have hinX1 : ∀ w ∈ wsX10, w ∈ wsX1_putSorted := by decide +kernel
  refine lv_iload_n hx hb dX1_putSorted_0 rfl (lv_at hl 1 rfl) ?_
  refine lv_istore_n (lv' := [(2, .int (nI g)), (0, .ref h), (1, .int (nI g))]) hx hb dX1_putSorted_1 rfl hl (by decide) rfl (fun ls hl => ?_)
  have L2 : ∀ (nf : Nat) (k : Nat) (N : Nat → Nat), (k ≤ g) → (∀ i, i < k → N i = O i) → (∀ i, k < i → i ≤ g → N i = O (i - 1)) → (∀ i, k ≤ i → i < g → P g < P (O i)) → k < nf → ∀ (H : Heap) (locs : List Loc) (ls : Array Slot), va_P D vwCl [(h, .inr (2, [.ref h1, .ref h2, .ref h3, .ref h4, .int (nI gc), .int (nI tt)])), (h1, aJ cJ 512 P), (h2, aI cI 512 F), (h3, aI cI 512 C), (h4, aI cI 512 N)] H → va_D A [(h, .inr (2, [.ref h1, .ref h2, .ref h3, .ref h4, .int (nI gc), .int (nI tt)])), (h1, aJ cJ 512 P), (h2, aI cI 512 F), (h3, aI cI 512 C), (h4, aI cI 512 N)] → va_S A s.heap H locs → lv_has ls 3 [(2, .int (nI k)), (0, .ref h), (1, .int (nI g))] → W p l e ({ frames := 0, cells := 0, slots := 0, locals := 0 } : Room) s m args below meth c H locs 0 0 Q (F0 m 2 ls []) := by
    intro nf
    induction nf with
    | zero => intro k N i1 i2 i3 i4 hm; exact absurd hm (Nat.not_lt_zero _)
    | succ nf ih2 =>
      intro k N i1 i2 i3 i4 hm2 H locs ls hP hD hS hl
      refine lv_iload_n hx hb dX1_putSorted_2 rfl (lv_at hl 0 rfl) ?_
      refine zi_if_le (tgt := 49) hx hb dX1_putSorted_3 (by decide) (by omega) (fun c3 => ?_) (fun c3 => ?_)
      · refine lv_aload_n hx hb dX1_putSorted_49 rfl (lv_at hl 1 rfl) ?_
        refine va_get (D := D) (ci := 2) (v := .ref h4) (C := RX1) (T := TX1) (N := 6) hx hb hts hinX1 hown hK hP 0 rfl rfl 3 (by decide) (hts (.fieldLink RX1 22 "PassSearch$Items" "sorted" "[I") (by decide +kernel)) (fun _ h9 => h9) rfl dX1_putSorted_50 ?_
        refine lv_iload_n hx hb dX1_putSorted_53 rfl (lv_at hl 0 rfl) ?_
        refine lv_iload_n hx hb dX1_putSorted_54 rfl (lv_at hl 2 rfl) ?_
        refine zi_ast hx hb hK hP hD hS 4 0 rfl rfl (k := k) (x := g) (by omega) (by omega) dX1_putSorted_55 (fun H locs hP hD hS => ?_)
        have hP : va_P D vwCl [(h, .inr (2, [.ref h1, .ref h2, .ref h3, .ref h4, .int (nI gc), .int (nI tt)])), (h1, aJ cJ 512 P), (h2, aI cI 512 F), (h3, aI cI 512 C), (h4, aI cI 512 (uF N k g))] H := hP
        have hD : va_D A [(h, .inr (2, [.ref h1, .ref h2, .ref h3, .ref h4, .int (nI gc), .int (nI tt)])), (h1, aJ cJ 512 P), (h2, aI cI 512 F), (h3, aI cI 512 C), (h4, aI cI 512 (uF N k g))] := hD
        exact hret (uF N k g) _ _ _ _ hP hD hS (⟨k, i1, fun i hi => by rw [uF_n (by omega)]; exact i2 i hi, uF_s, fun i h1 h2 => by rw [uF_n (by omega)]; exact i3 i h1 h2, i4, Or.inl c3⟩) dX1_putSorted_56
      · have hOk := hO (k - 1) (by omega)
        have hPo := hP1 (O (k - 1)) (by omega)
        have hPg := hP1 g (Nat.le_refl _)
        refine lv_aload_n hx hb dX1_putSorted_6 rfl (lv_at hl 1 rfl) ?_
        refine va_get (D := D) (ci := 2) (v := .ref h1) (C := RX1) (T := TX1) (N := 6) hx hb hts hinX1 hown hK hP 0 rfl rfl 0 (by decide) (hts (.fieldLink RX1 9 "PassSearch$Items" "points" "[J") (by decide +kernel)) (fun _ h9 => h9) rfl dX1_putSorted_7 ?_
        refine lv_aload_n hx hb dX1_putSorted_10 rfl (lv_at hl 1 rfl) ?_
        refine va_get (D := D) (ci := 2) (v := .ref h4) (C := RX1) (T := TX1) (N := 6) hx hb hts hinX1 hown hK hP 0 rfl rfl 3 (by decide) (hts (.fieldLink RX1 22 "PassSearch$Items" "sorted" "[I") (by decide +kernel)) (fun _ h9 => h9) rfl dX1_putSorted_11 ?_
        refine lv_iload_n hx hb dX1_putSorted_14 rfl (lv_at hl 0 rfl) ?_
        refine lv_iconst (v := nI 1) hx hb dX1_putSorted_15 (by decide) ?_
        refine zi_sub hx hb dX1_putSorted_16 (by omega) ?_
        refine zi_ald hx hb hK hP 4 0 rfl rfl (k := k - 1) (by omega) (by omega) dX1_putSorted_17 ?_
        refine lv_topi (fun v1_ e1_ => ?_)
        obtain rfl : v1_ = nI (O (k - 1)) := e1_.trans (congrArg nI (i2 (k - 1) (by omega)))
        refine zl_ald hx hb hK hP 1 1 rfl rfl (k := O (k - 1)) (by omega) (by omega) dX1_putSorted_18 ?_
        refine lv_aload_n hx hb dX1_putSorted_19 rfl (lv_at hl 1 rfl) ?_
        refine va_get (D := D) (ci := 2) (v := .ref h1) (C := RX1) (T := TX1) (N := 6) hx hb hts hinX1 hown hK hP 0 rfl rfl 0 (by decide) (hts (.fieldLink RX1 9 "PassSearch$Items" "points" "[J") (by decide +kernel)) (fun _ h9 => h9) rfl dX1_putSorted_20 ?_
        refine lv_iload_n hx hb dX1_putSorted_23 rfl (lv_at hl 2 rfl) ?_
        refine zl_ald hx hb hK hP 1 1 rfl rfl (k := g) (by omega) (by omega) dX1_putSorted_24 ?_
        refine zl_le (tgt := 49) hx hb dX1_putSorted_25 dX1_putSorted_26 (by decide) (by omega) (by omega) (fun c25 => ?_) (fun c25 => ?_)
        · refine lv_aload_n hx hb dX1_putSorted_49 rfl (lv_at hl 1 rfl) ?_
          refine va_get (D := D) (ci := 2) (v := .ref h4) (C := RX1) (T := TX1) (N := 6) hx hb hts hinX1 hown hK hP 0 rfl rfl 3 (by decide) (hts (.fieldLink RX1 22 "PassSearch$Items" "sorted" "[I") (by decide +kernel)) (fun _ h9 => h9) rfl dX1_putSorted_50 ?_
          refine lv_iload_n hx hb dX1_putSorted_53 rfl (lv_at hl 0 rfl) ?_
          refine lv_iload_n hx hb dX1_putSorted_54 rfl (lv_at hl 2 rfl) ?_
          refine zi_ast hx hb hK hP hD hS 4 0 rfl rfl (k := k) (x := g) (by omega) (by omega) dX1_putSorted_55 (fun H locs hP hD hS => ?_)
          have hP : va_P D vwCl [(h, .inr (2, [.ref h1, .ref h2, .ref h3, .ref h4, .int (nI gc), .int (nI tt)])), (h1, aJ cJ 512 P), (h2, aI cI 512 F), (h3, aI cI 512 C), (h4, aI cI 512 (uF N k g))] H := hP
          have hD : va_D A [(h, .inr (2, [.ref h1, .ref h2, .ref h3, .ref h4, .int (nI gc), .int (nI tt)])), (h1, aJ cJ 512 P), (h2, aI cI 512 F), (h3, aI cI 512 C), (h4, aI cI 512 (uF N k g))] := hD
          exact hret (uF N k g) _ _ _ _ hP hD hS (⟨k, i1, fun i hi => by rw [uF_n (by omega)]; exact i2 i hi, uF_s, fun i h1 h2 => by rw [uF_n (by omega)]; exact i3 i h1 h2, i4, Or.inr c25⟩) dX1_putSorted_56
        · refine lv_aload_n hx hb dX1_putSorted_29 rfl (lv_at hl 1 rfl) ?_
          refine va_get (D := D) (ci := 2) (v := .ref h4) (C := RX1) (T := TX1) (N := 6) hx hb hts hinX1 hown hK hP 0 rfl rfl 3 (by decide) (hts (.fieldLink RX1 22 "PassSearch$Items" "sorted" "[I") (by decide +kernel)) (fun _ h9 => h9) rfl dX1_putSorted_30 ?_
          refine lv_iload_n hx hb dX1_putSorted_33 rfl (lv_at hl 0 rfl) ?_
          refine lv_aload_n hx hb dX1_putSorted_34 rfl (lv_at hl 1 rfl) ?_
          refine va_get (D := D) (ci := 2) (v := .ref h4) (C := RX1) (T := TX1) (N := 6) hx hb hts hinX1 hown hK hP 0 rfl rfl 3 (by decide) (hts (.fieldLink RX1 22 "PassSearch$Items" "sorted" "[I") (by decide +kernel)) (fun _ h9 => h9) rfl dX1_putSorted_35 ?_
          refine lv_iload_n hx hb dX1_putSorted_38 rfl (lv_at hl 0 rfl) ?_
          refine lv_iconst (v := nI 1) hx hb dX1_putSorted_39 (by decide) ?_
          refine zi_sub hx hb dX1_putSorted_40 (by omega) ?_
          refine zi_ald hx hb hK hP 4 0 rfl rfl (k := k - 1) (by omega) (by omega) dX1_putSorted_41 ?_
          refine lv_topi (fun v2_ e2_ => ?_)
          obtain rfl : v2_ = nI (O (k - 1)) := e2_.trans (congrArg nI (i2 (k - 1) (by omega)))
          refine zi_ast hx hb hK hP hD hS 4 0 rfl rfl (k := k) (x := O (k - 1)) (by omega) (by omega) dX1_putSorted_42 (fun H locs hP hD hS => ?_)
          have hP : va_P D vwCl [(h, .inr (2, [.ref h1, .ref h2, .ref h3, .ref h4, .int (nI gc), .int (nI tt)])), (h1, aJ cJ 512 P), (h2, aI cI 512 F), (h3, aI cI 512 C), (h4, aI cI 512 (uF N k (O (k - 1))))] H := hP
          have hD : va_D A [(h, .inr (2, [.ref h1, .ref h2, .ref h3, .ref h4, .int (nI gc), .int (nI tt)])), (h1, aJ cJ 512 P), (h2, aI cI 512 F), (h3, aI cI 512 C), (h4, aI cI 512 (uF N k (O (k - 1))))] := hD
          refine lv_iinc (v := nI (k - 1)) (lv' := [(2, .int (nI (k - 1))), (0, .ref h), (1, .int (nI g))]) hx hb dX1_putSorted_43 hl (k := 0) rfl (by rw [show Int32.ofInt (-1) = -nI 1 by decide, ← Int32.sub_eq_add_neg, pk_sub (by omega)]) (by decide) rfl (fun ls hl => ?_)
          refine lv_goto (tgt := 2) hx hb dX1_putSorted_46 (by decide) ?_
          exact ih2 (k - 1) (uF N k (O (k - 1))) (by omega) (fun i hi => by rw [uF_n (by omega)]; exact i2 i (by omega)) (fun i h1 h2 => if hq : i = k then by rw [hq, uF_s] else by rw [uF_n hq]; exact i3 i (by omega) h2) (fun i h1 h2 => if hq : i = k - 1 then by rw [hq]; exact c25 else i4 i (by omega) h2) (by omega) _ _ _ hP hD hS (lv_sub hl [0, 1, 2] rfl)
  exact L2 _ g O (by omega) (fun i hi => rfl) (fun i h1 h2 => by omega) (fun i h1 h2 => by omega) (Nat.lt_succ_self _) _ _ _ hP hD hS (lv_sub hl [0, 1, 2] rfl)
set_option maxHeartbeats 4000000 in
set_option maxRecDepth 100000 in
/-- add -/
theorem c_X1_add (l : Launch) (D : va_G) (cI cJ : ClassId) (h h1 h2 h3 h4 gc tt : Nat) (P F C O : Nat → Nat) (a n : Nat) (hit : itOK gc tt P F C) (hord : ordOK gc tt P C O) (hg : gc < 512) (hn : n ≤ 1000) (ht : tt + n ≤ 4000) (ha : a < 4611686018427387904) : WR_v l yX1_add wsX1_add ({ frames := 1, cells := 0, slots := 0, locals := 22 } : Room) D [(h, .inr (2, [.ref h1, .ref h2, .ref h3, .ref h4, .int (nI gc), .int (nI tt)])), (h1, aJ cJ 512 P), (h2, aI cI 512 F), (h3, aI cI 512 C), (h4, aI cI 512 O)] [(cI, .int), (cJ, .long)] [.ref h, .long (lN a), .int (nI n)] (fun (u : Nat × Nat × (Nat → Nat) × (Nat → Nat) × (Nat → Nat) × (Nat → Nat)) => [(h, .inr (2, [.ref h1, .ref h2, .ref h3, .ref h4, .int (nI u.1), .int (nI u.2.1)])), (h1, aJ cJ 512 u.2.2.1), (h2, aI cI 512 u.2.2.2.1), (h3, aI cI 512 u.2.2.2.2.1), (h4, aI cI 512 u.2.2.2.2.2)]) (fun u => (n = 0 → u = (gc, tt, P, F, C, O)) ∧ (1 ≤ n → ∃ kp O2, isIns P O gc a kp O2 ∧ u = (gc + 1, tt + n, uF P gc a, uF F gc tt, uF C gc n, O2))) 0 0 := by
  refine WR_v.of (cc := cX1_add) (maxL := 4) (by decide) rfl (Nat.le_of_ble_eq_true rfl) ?_
  intro p e s m args below meth c ls A Q hx hb hml hts hown hA hP hD hK hl hin hret
  have hown : s.vm.findClass RX1 = some m.cls := hown
  have hl : lv_has ls 4 [(0, .ref h), (1, .long (lN a)), (3, .int (nI n))] := hl
  have hS : va_S A s.heap s.heap [] := va_S.rf
  have hinX1 : ∀ w ∈ wsX10, w ∈ wsX1_add := by decide +kernel
  refine lv_iload_n hx hb dX1_add_0 rfl (lv_at hl 2 rfl) ?_
  refine lv_iconst (v := nI 1) hx hb dX1_add_1 (by decide) ?_
  refine zi_lt (tgt := 13) hx hb dX1_add_2 (by decide) (by omega) (by omega) (fun c2 => ?_) (fun c2 => ?_)
  · exact hret ((gc, tt, P, F, C, O)) _ _ _ _ hP hD hS (⟨fun _ => rfl, fun h => by omega⟩) dX1_add_13
  · refine lv_aload_n hx hb dX1_add_5 rfl (lv_at hl 0 rfl) ?_
    refine lv_iload_n hx hb dX1_add_6 rfl (lv_at hl 2 rfl) ?_
    refine RO_i.callV (rest := []) (c_X1_hasRoom l D cI cJ h h1 h2 h3 h4 gc tt P F C O n hn (by omega) (by omega)) ⟨hx, hb, hml, hown, hts⟩ (cwV 1 hts gX1_add_X1_hasRoom rfl rfl rfl (by decide +kernel) ⟨Nat.le_of_ble_eq_true rfl, Nat.le_of_ble_eq_true rfl⟩) hK hP hS hA [0, 1, 2, 3, 4] [0, 1] rfl rfl 0 2 rfl rfl rfl rfl hl.1 rfl (Nat.le_of_ble_eq_true rfl) dX1_add_7 ⟨Nat.zero_le _, Nat.zero_le _⟩ (fun v1_ H locs e1_ hP hS => ?_)
    obtain rfl : v1_ = bI (tt + n ≤ 4000 ∧ (n = 0 ∨ gc < 512)) := e1_
    refine zb_ne (tgt := 14) hx hb dX1_add_10 (by decide) (fun c10 => ?_) (fun c10 => ?_)
    · refine lv_aload_n hx hb dX1_add_14 rfl (lv_at hl 0 rfl) ?_
      refine va_get (D := D) (ci := 2) (v := .ref h1) (C := RX1) (T := TX1) (N := 6) hx hb hts hinX1 hown hK hP 0 rfl rfl 0 (by decide) (hts (.fieldLink RX1 9 "PassSearch$Items" "points" "[J") (by decide +kernel)) (fun _ h9 => h9) rfl dX1_add_15 ?_
      refine lv_aload_n hx hb dX1_add_18 rfl (lv_at hl 0 rfl) ?_
      refine va_get (D := D) (ci := 2) (v := .int (nI gc)) (C := RX1) (T := TX1) (N := 6) hx hb hts hinX1 hown hK hP 0 rfl rfl 4 (by decide) (hts (.fieldLink RX1 25 "PassSearch$Items" "groupCount" "I") (by decide +kernel)) (fun _ h9 => h9) rfl dX1_add_19 ?_
      refine lv_lload_n hx hb dX1_add_22 rfl (lv_at hl 1 rfl) ?_
      refine zl_ast hx hb hK hP hD hS 1 1 rfl rfl (k := gc) (x := a) (by omega) (by omega) dX1_add_23 (fun H locs hP hD hS => ?_)
      have hP : va_P D vwCl [(h, .inr (2, [.ref h1, .ref h2, .ref h3, .ref h4, .int (nI gc), .int (nI tt)])), (h1, aJ cJ 512 (uF P gc a)), (h2, aI cI 512 F), (h3, aI cI 512 C), (h4, aI cI 512 O)] H := hP
      have hD : va_D A [(h, .inr (2, [.ref h1, .ref h2, .ref h3, .ref h4, .int (nI gc), .int (nI tt)])), (h1, aJ cJ 512 (uF P gc a)), (h2, aI cI 512 F), (h3, aI cI 512 C), (h4, aI cI 512 O)] := hD
      refine lv_aload_n hx hb dX1_add_24 rfl (lv_at hl 0 rfl) ?_
      refine va_get (D := D) (ci := 2) (v := .ref h2) (C := RX1) (T := TX1) (N := 6) hx hb hts hinX1 hown hK hP 0 rfl rfl 1 (by decide) (hts (.fieldLink RX1 15 "PassSearch$Items" "firsts" "[I") (by decide +kernel)) (fun _ h9 => h9) rfl dX1_add_25 ?_
      refine lv_aload_n hx hb dX1_add_28 rfl (lv_at hl 0 rfl) ?_
      refine va_get (D := D) (ci := 2) (v := .int (nI gc)) (C := RX1) (T := TX1) (N := 6) hx hb hts hinX1 hown hK hP 0 rfl rfl 4 (by decide) (hts (.fieldLink RX1 25 "PassSearch$Items" "groupCount" "I") (by decide +kernel)) (fun _ h9 => h9) rfl dX1_add_29 ?_
      refine lv_aload_n hx hb dX1_add_32 rfl (lv_at hl 0 rfl) ?_
      refine va_get (D := D) (ci := 2) (v := .int (nI tt)) (C := RX1) (T := TX1) (N := 6) hx hb hts hinX1 hown hK hP 0 rfl rfl 5 (by decide) (hts (.fieldLink RX1 29 "PassSearch$Items" "total" "I") (by decide +kernel)) (fun _ h9 => h9) rfl dX1_add_33 ?_
      refine zi_ast hx hb hK hP hD hS 2 0 rfl rfl (k := gc) (x := tt) (by omega) (by omega) dX1_add_36 (fun H locs hP hD hS => ?_)
      have hP : va_P D vwCl [(h, .inr (2, [.ref h1, .ref h2, .ref h3, .ref h4, .int (nI gc), .int (nI tt)])), (h1, aJ cJ 512 (uF P gc a)), (h2, aI cI 512 (uF F gc tt)), (h3, aI cI 512 C), (h4, aI cI 512 O)] H := hP
      have hD : va_D A [(h, .inr (2, [.ref h1, .ref h2, .ref h3, .ref h4, .int (nI gc), .int (nI tt)])), (h1, aJ cJ 512 (uF P gc a)), (h2, aI cI 512 (uF F gc tt)), (h3, aI cI 512 C), (h4, aI cI 512 O)] := hD
      refine lv_aload_n hx hb dX1_add_37 rfl (lv_at hl 0 rfl) ?_
      refine va_get (D := D) (ci := 2) (v := .ref h3) (C := RX1) (T := TX1) (N := 6) hx hb hts hinX1 hown hK hP 0 rfl rfl 2 (by decide) (hts (.fieldLink RX1 19 "PassSearch$Items" "counts" "[I") (by decide +kernel)) (fun _ h9 => h9) rfl dX1_add_38 ?_
      refine lv_aload_n hx hb dX1_add_41 rfl (lv_at hl 0 rfl) ?_
      refine va_get (D := D) (ci := 2) (v := .int (nI gc)) (C := RX1) (T := TX1) (N := 6) hx hb hts hinX1 hown hK hP 0 rfl rfl 4 (by decide) (hts (.fieldLink RX1 25 "PassSearch$Items" "groupCount" "I") (by decide +kernel)) (fun _ h9 => h9) rfl dX1_add_42 ?_
      refine lv_iload_n hx hb dX1_add_45 rfl (lv_at hl 2 rfl) ?_
      refine zi_ast hx hb hK hP hD hS 3 0 rfl rfl (k := gc) (x := n) (by omega) (by omega) dX1_add_46 (fun H locs hP hD hS => ?_)
      have hP : va_P D vwCl [(h, .inr (2, [.ref h1, .ref h2, .ref h3, .ref h4, .int (nI gc), .int (nI tt)])), (h1, aJ cJ 512 (uF P gc a)), (h2, aI cI 512 (uF F gc tt)), (h3, aI cI 512 (uF C gc n)), (h4, aI cI 512 O)] H := hP
      have hD : va_D A [(h, .inr (2, [.ref h1, .ref h2, .ref h3, .ref h4, .int (nI gc), .int (nI tt)])), (h1, aJ cJ 512 (uF P gc a)), (h2, aI cI 512 (uF F gc tt)), (h3, aI cI 512 (uF C gc n)), (h4, aI cI 512 O)] := hD
      refine lv_aload_n hx hb dX1_add_47 rfl (lv_at hl 0 rfl) ?_
      refine lv_aload_n hx hb dX1_add_48 rfl (lv_at hl 0 rfl) ?_
      refine va_get (D := D) (ci := 2) (v := .int (nI gc)) (C := RX1) (T := TX1) (N := 6) hx hb hts hinX1 hown hK hP 0 rfl rfl 4 (by decide) (hts (.fieldLink RX1 25 "PassSearch$Items" "groupCount" "I") (by decide +kernel)) (fun _ h9 => h9) rfl dX1_add_49 ?_
      refine WR_v.callV (rest := []) (wr := []) (c_X1_putSorted l D cI cJ h h1 h2 h3 h4 gc tt (uF P gc a) (uF F gc tt) (uF C gc n) O gc hg (hord.1) (fun i hi => if hq : i = gc then by rw [hq, uF_s]; exact ha else by rw [uF_n hq]; exact (hit.2.2.2 i (by omega)).2.2)) ⟨hx, hb, hml, hown, hts⟩ (cwV 1 hts gX1_add_X1_putSorted rfl rfl rfl (by decide +kernel) ⟨Nat.le_of_ble_eq_true rfl, Nat.le_of_ble_eq_true rfl⟩) hK hP hD hS hA [0, 1, 2, 3, 4] [] [0, 1] rfl rfl (by decide) (by decide) (by decide) rfl 0 2 rfl rfl rfl rfl hl.1 rfl (Nat.le_of_ble_eq_true rfl) dX1_add_52 ⟨Nat.zero_le _, Nat.zero_le _⟩ (fun u2_ H locs e2_ hP hD hS => ?_)
      obtain ⟨O2, rfl⟩ : ∃ z, z = u2_ := ⟨_, rfl⟩
      obtain ⟨kp, hkp⟩ := e2_
      have hP := hP.sub (ws' := [(h, .inr (2, [.ref h1, .ref h2, .ref h3, .ref h4, .int (nI gc), .int (nI tt)])), (h1, aJ cJ 512 (uF P gc a)), (h2, aI cI 512 (uF F gc tt)), (h3, aI cI 512 (uF C gc n)), (h4, aI cI 512 O2)]) [0, 1, 2, 3, 4] rfl
      have hD := hD.sub (ws' := [(h, .inr (2, [.ref h1, .ref h2, .ref h3, .ref h4, .int (nI gc), .int (nI tt)])), (h1, aJ cJ 512 (uF P gc a)), (h2, aI cI 512 (uF F gc tt)), (h3, aI cI 512 (uF C gc n)), (h4, aI cI 512 O2)]) [0, 1, 2, 3, 4] (by decide) rfl
      refine lv_aload_n hx hb dX1_add_55 rfl (lv_at hl 0 rfl) ?_
      refine lv_dup hx hb dX1_add_56 rfl ?_
      refine va_get (D := D) (ci := 2) (v := .int (nI gc)) (C := RX1) (T := TX1) (N := 6) hx hb hts hinX1 hown hK hP 0 rfl rfl 4 (by decide) (hts (.fieldLink RX1 25 "PassSearch$Items" "groupCount" "I") (by decide +kernel)) (fun _ h9 => h9) rfl dX1_add_57 ?_
      refine lv_iconst (v := nI 1) hx hb dX1_add_60 (by decide) ?_
      refine zi_add hx hb dX1_add_61  ?_
      refine va_put (D := D) (ci := 2) (v := .int (nI (gc + 1))) (ty := .int) (C := RX1) (T := TX1) (N := 6) hx hb hts hinX1 tyX1 tyX1_ok nmX1 hown hK hP hD hS 0 rfl rfl 4 (by decide) (hts (.fieldLink RX1 25 "PassSearch$Items" "groupCount" "I") (by decide +kernel)) (fun _ h9 => h9) rfl (by decide +kernel) rfl rfl (Nat.le_of_ble_eq_true rfl) dX1_add_62 (fun H locs hP hD hS => ?_)
      have hP : va_P D vwCl [(h, .inr (2, [.ref h1, .ref h2, .ref h3, .ref h4, .int (nI (gc + 1)), .int (nI tt)])), (h1, aJ cJ 512 (uF P gc a)), (h2, aI cI 512 (uF F gc tt)), (h3, aI cI 512 (uF C gc n)), (h4, aI cI 512 O2)] H := hP
      have hD : va_D A [(h, .inr (2, [.ref h1, .ref h2, .ref h3, .ref h4, .int (nI (gc + 1)), .int (nI tt)])), (h1, aJ cJ 512 (uF P gc a)), (h2, aI cI 512 (uF F gc tt)), (h3, aI cI 512 (uF C gc n)), (h4, aI cI 512 O2)] := hD
      refine lv_aload_n hx hb dX1_add_65 rfl (lv_at hl 0 rfl) ?_
      refine lv_dup hx hb dX1_add_66 rfl ?_
      refine va_get (D := D) (ci := 2) (v := .int (nI tt)) (C := RX1) (T := TX1) (N := 6) hx hb hts hinX1 hown hK hP 0 rfl rfl 5 (by decide) (hts (.fieldLink RX1 29 "PassSearch$Items" "total" "I") (by decide +kernel)) (fun _ h9 => h9) rfl dX1_add_67 ?_
      refine lv_iload_n hx hb dX1_add_70 rfl (lv_at hl 2 rfl) ?_
      refine zi_add hx hb dX1_add_71  ?_
      refine va_put (D := D) (ci := 2) (v := .int (nI (tt + n))) (ty := .int) (C := RX1) (T := TX1) (N := 6) hx hb hts hinX1 tyX1 tyX1_ok nmX1 hown hK hP hD hS 0 rfl rfl 5 (by decide) (hts (.fieldLink RX1 29 "PassSearch$Items" "total" "I") (by decide +kernel)) (fun _ h9 => h9) rfl (by decide +kernel) rfl rfl (Nat.le_of_ble_eq_true rfl) dX1_add_72 (fun H locs hP hD hS => ?_)
      have hP : va_P D vwCl [(h, .inr (2, [.ref h1, .ref h2, .ref h3, .ref h4, .int (nI (gc + 1)), .int (nI (tt + n))])), (h1, aJ cJ 512 (uF P gc a)), (h2, aI cI 512 (uF F gc tt)), (h3, aI cI 512 (uF C gc n)), (h4, aI cI 512 O2)] H := hP
      have hD : va_D A [(h, .inr (2, [.ref h1, .ref h2, .ref h3, .ref h4, .int (nI (gc + 1)), .int (nI (tt + n))])), (h1, aJ cJ 512 (uF P gc a)), (h2, aI cI 512 (uF F gc tt)), (h3, aI cI 512 (uF C gc n)), (h4, aI cI 512 O2)] := hD
      exact hret ((gc + 1, tt + n, uF P gc a, uF F gc tt, uF C gc n, O2)) _ _ _ _ hP hD hS (⟨fun h => by omega, fun _ => ⟨kp, O2, isIns_old hord.1 hkp, rfl⟩⟩) dX1_add_75
    · exact False.elim (c10 (by omega))
set_option maxHeartbeats 4000000 in
set_option maxRecDepth 100000 in
/-- itemAt -/
theorem c_X1_itemAt (l : Launch) (D : va_G) (cI cJ : ClassId) (h h1 h2 h3 h4 gc tt : Nat) (P F C O : Nat → Nat) (x : Nat) (hit : itOK gc tt P F C) (hord : ordOK gc tt P C O) (hx1 : x < tt) : RO_i l yX1_itemAt wsX1_itemAt ({ frames := 0, cells := 0, slots := 0, locals := 0 } : Room) D [(h, .inr (2, [.ref h1, .ref h2, .ref h3, .ref h4, .int (nI gc), .int (nI tt)])), (h1, aJ cJ 512 P), (h2, aI cI 512 F), (h3, aI cI 512 C), (h4, aI cI 512 O)] [(cI, .int), (cJ, .long)] [.ref h, .int (nI x)] (fun v => ∃ k j, k < gc ∧ j < C (O k) ∧ x = sumN (fun i => C (O i)) k + j ∧ v = nI (F (O k) + j)) := by
  refine RO_i.of (cc := cX1_itemAt) (maxL := 5) (by decide) rfl (Nat.le_of_ble_eq_true rfl) ?_
  intro p e s m args below meth c ls A Q hx hb hml hts hown hA hP hK hl hret
  have hown : s.vm.findClass RX1 = some m.cls := hown
  have hl : lv_has ls 5 [(0, .ref h), (1, .int (nI x))] := hl
  have hS : va_S A s.heap s.heap [] := va_S.rf
  have hinX1 : ∀ w ∈ wsX10, w ∈ wsX1_itemAt := by decide +kernel
  have hgc := hit.1
  have htt := hit.2.1
  refine lv_iconst (v := nI 0) hx hb dX1_itemAt_0 (by decide) ?_
  refine lv_istore_n (lv' := [(2, .int (nI 0)), (0, .ref h), (1, .int (nI x))]) hx hb dX1_itemAt_1 rfl hl (by decide) rfl (fun ls hl => ?_)
  refine lv_iconst (v := nI 0) hx hb dX1_itemAt_2 (by decide) ?_
  refine lv_istore_n (lv' := [(3, .int (nI 0)), (2, .int (nI 0)), (0, .ref h), (1, .int (nI x))]) hx hb dX1_itemAt_3 rfl hl (by decide) rfl (fun ls hl => ?_)
  have L4 : ∀ (nf : Nat) (k : Nat) (bf : Nat), (k ≤ gc) → (bf = sumN (fun i => C (O i)) k) → (bf ≤ x) → gc - k < nf → ∀ (H : Heap) (locs : List Loc) (ls : Array Slot), va_P D vwCl [(h, .inr (2, [.ref h1, .ref h2, .ref h3, .ref h4, .int (nI gc), .int (nI tt)])), (h1, aJ cJ 512 P), (h2, aI cI 512 F), (h3, aI cI 512 C), (h4, aI cI 512 O)] H → va_S A s.heap H locs → lv_has ls 5 [(3, .int (nI k)), (2, .int (nI bf)), (0, .ref h), (1, .int (nI x))] → W p l e ({ frames := 0, cells := 0, slots := 0, locals := 0 } : Room) s m args below meth c H locs 0 0 Q (F0 m 4 ls []) := by
    intro nf
    induction nf with
    | zero => intro k bf i1 i2 i3 hm; exact absurd hm (Nat.not_lt_zero _)
    | succ nf ih4 =>
      intro k bf i1 i2 i3 hm4 H locs ls hP hS hl
      refine lv_iload_n hx hb dX1_itemAt_4 rfl (lv_at hl 0 rfl) ?_
      refine lv_aload_n hx hb dX1_itemAt_5 rfl (lv_at hl 2 rfl) ?_
      refine va_get (D := D) (ci := 2) (v := .int (nI gc)) (C := RX1) (T := TX1) (N := 6) hx hb hts hinX1 hown hK hP 0 rfl rfl 4 (by decide) (hts (.fieldLink RX1 25 "PassSearch$Items" "groupCount" "I") (by decide +kernel)) (fun _ h9 => h9) rfl dX1_itemAt_6 ?_
      refine zi_ge (tgt := 61) hx hb dX1_itemAt_9 (by decide) (by omega) (by omega) (fun c9 => ?_) (fun c9 => ?_)
      · exact False.elim (by rw [show k = gc by omega, hord.2.2] at i2; omega)
      · have hOk := hord.1 k (by omega)
        have hFC := it_le hit hOk
        refine lv_aload_n hx hb dX1_itemAt_12 rfl (lv_at hl 2 rfl) ?_
        refine va_get (D := D) (ci := 2) (v := .ref h4) (C := RX1) (T := TX1) (N := 6) hx hb hts hinX1 hown hK hP 0 rfl rfl 3 (by decide) (hts (.fieldLink RX1 22 "PassSearch$Items" "sorted" "[I") (by decide +kernel)) (fun _ h9 => h9) rfl dX1_itemAt_13 ?_
        refine lv_iload_n hx hb dX1_itemAt_16 rfl (lv_at hl 0 rfl) ?_
        refine zi_ald hx hb hK hP 4 0 rfl rfl (k := k) (by omega) (by omega) dX1_itemAt_17 ?_
        refine lv_istore (lv' := [(4, .int (nI (O k))), (3, .int (nI k)), (2, .int (nI bf)), (0, .ref h), (1, .int (nI x))]) hx hb dX1_itemAt_18 hl (by decide) rfl (fun ls hl => ?_)
        refine lv_iload_n hx hb dX1_itemAt_20 rfl (lv_at hl 4 rfl) ?_
        refine lv_iload_n hx hb dX1_itemAt_21 rfl (lv_at hl 2 rfl) ?_
        refine lv_aload_n hx hb dX1_itemAt_22 rfl (lv_at hl 3 rfl) ?_
        refine va_get (D := D) (ci := 2) (v := .ref h3) (C := RX1) (T := TX1) (N := 6) hx hb hts hinX1 hown hK hP 0 rfl rfl 2 (by decide) (hts (.fieldLink RX1 19 "PassSearch$Items" "counts" "[I") (by decide +kernel)) (fun _ h9 => h9) rfl dX1_itemAt_23 ?_
        refine lv_iload hx hb dX1_itemAt_26 (lv_at hl 0 rfl) ?_
        refine zi_ald hx hb hK hP 3 0 rfl rfl (k := O k) (by omega) (by omega) dX1_itemAt_28 ?_
        refine zi_add hx hb dX1_itemAt_29  ?_
        refine zi_ge (tgt := 45) hx hb dX1_itemAt_30 (by decide) (by omega) (by omega) (fun c30 => ?_) (fun c30 => ?_)
        · refine lv_iload_n hx hb dX1_itemAt_45 rfl (lv_at hl 2 rfl) ?_
          refine lv_aload_n hx hb dX1_itemAt_46 rfl (lv_at hl 3 rfl) ?_
          refine va_get (D := D) (ci := 2) (v := .ref h3) (C := RX1) (T := TX1) (N := 6) hx hb hts hinX1 hown hK hP 0 rfl rfl 2 (by decide) (hts (.fieldLink RX1 19 "PassSearch$Items" "counts" "[I") (by decide +kernel)) (fun _ h9 => h9) rfl dX1_itemAt_47 ?_
          refine lv_iload hx hb dX1_itemAt_50 (lv_at hl 0 rfl) ?_
          refine zi_ald hx hb hK hP 3 0 rfl rfl (k := O k) (by omega) (by omega) dX1_itemAt_52 ?_
          refine zi_add hx hb dX1_itemAt_53  ?_
          refine lv_istore_n (lv' := [(2, .int (nI (bf + (C (O k))))), (4, .int (nI (O k))), (3, .int (nI k)), (0, .ref h), (1, .int (nI x))]) hx hb dX1_itemAt_54 rfl hl (by decide) rfl (fun ls hl => ?_)
          refine lv_iinc (v := nI (k + 1)) (lv' := [(3, .int (nI (k + 1))), (2, .int (nI (bf + (C (O k))))), (4, .int (nI (O k))), (0, .ref h), (1, .int (nI x))]) hx hb dX1_itemAt_55 hl (k := 2) rfl (by rw [show Int32.ofInt 1 = nI 1 by decide, nI_add]) (by decide) rfl (fun ls hl => ?_)
          refine lv_goto (tgt := 4) hx hb dX1_itemAt_58 (by decide) ?_
          exact ih4 (k + 1) (bf + (C (O k))) (by omega) (by rw [sumN_succ, i2]) (c30) (by omega) _ _ _ hP hS (lv_sub hl [0, 1, 3, 4] rfl)
        · refine lv_aload_n hx hb dX1_itemAt_33 rfl (lv_at hl 3 rfl) ?_
          refine va_get (D := D) (ci := 2) (v := .ref h2) (C := RX1) (T := TX1) (N := 6) hx hb hts hinX1 hown hK hP 0 rfl rfl 1 (by decide) (hts (.fieldLink RX1 15 "PassSearch$Items" "firsts" "[I") (by decide +kernel)) (fun _ h9 => h9) rfl dX1_itemAt_34 ?_
          refine lv_iload hx hb dX1_itemAt_37 (lv_at hl 0 rfl) ?_
          refine zi_ald hx hb hK hP 2 0 rfl rfl (k := O k) (by omega) (by omega) dX1_itemAt_39 ?_
          refine lv_iload_n hx hb dX1_itemAt_40 rfl (lv_at hl 4 rfl) ?_
          refine zi_add hx hb dX1_itemAt_41  ?_
          refine lv_iload_n hx hb dX1_itemAt_42 rfl (lv_at hl 2 rfl) ?_
          refine zi_sub hx hb dX1_itemAt_43 (by omega) ?_
          exact hret _ _ _ _ _ hS (⟨k, x - bf, by omega, by omega, by omega, congrArg nI (by omega)⟩) dX1_itemAt_44
  exact L4 _ 0 0 (by omega) (rfl) (by omega) (Nat.lt_succ_self _) _ _ _ hP hS (lv_sub hl [0, 1, 2, 3] rfl)
set_option maxHeartbeats 4000000 in
set_option maxRecDepth 100000 in
/-- placeOf -/
theorem c_X1_placeOf (l : Launch) (D : va_G) (cI cJ : ClassId) (h h1 h2 h3 h4 gc tt : Nat) (P F C O : Nat → Nat) (x sp : Nat) (hit : itOK gc tt P F C) (hx1 : x < tt) (hsp : 1 ≤ sp ∧ sp < 9223372036854775808) : RO_i l yX1_placeOf wsX1_placeOf ({ frames := 1, cells := 0, slots := 0, locals := 23 } : Room) D [(h, .inr (2, [.ref h1, .ref h2, .ref h3, .ref h4, .int (nI gc), .int (nI tt)])), (h1, aJ cJ 512 P), (h2, aI cI 512 F), (h3, aI cI 512 C), (h4, aI cI 512 O)] [(cI, .int), (cJ, .long)] [.ref h, .int (nI x), .long (lN sp)] (fun v => ∃ ow, ow < gc ∧ F ow ≤ x ∧ x < F ow + C ow ∧ v = nI (x - F ow + sumN (before P C sp ow) gc)) := by
  refine RO_i.of (cc := cX1_placeOf) (maxL := 11) (by decide) rfl (Nat.le_of_ble_eq_true rfl) ?_
  intro p e s m args below meth c ls A Q hx hb hml hts hown hA hP hK hl hret
  have hown : s.vm.findClass RX1 = some m.cls := hown
  have hl : lv_has ls 11 [(0, .ref h), (1, .int (nI x)), (2, .long (lN sp))] := hl
  have hS : va_S A s.heap s.heap [] := va_S.rf
  have hinX1 : ∀ w ∈ wsX10, w ∈ wsX1_placeOf := by decide +kernel
  have hgc := hit.1
  have htt := hit.2.1
  have hmod : ∀ i, P i % sp < 9223372036854775808 := fun i => Nat.lt_trans (Nat.mod_lt _ hsp.1) hsp.2
  refine lv_aload_n hx hb dX1_placeOf_0 rfl (lv_at hl 0 rfl) ?_
  refine lv_iload_n hx hb dX1_placeOf_1 rfl (lv_at hl 1 rfl) ?_
  refine RO_i.callV (rest := []) (c_X1_groupOf l D cI cJ h h1 h2 h3 h4 gc tt P F C O x hit hx1) ⟨hx, hb, hml, hown, hts⟩ (cwV 1 hts gX1_placeOf_X1_groupOf rfl rfl rfl (by decide +kernel) ⟨Nat.le_of_ble_eq_true rfl, Nat.le_of_ble_eq_true rfl⟩) hK hP hS hA [0, 1, 2, 3, 4] [0, 1] rfl rfl 0 2 rfl rfl rfl rfl hl.1 rfl (Nat.le_of_ble_eq_true rfl) dX1_placeOf_2 ⟨Nat.zero_le _, Nat.zero_le _⟩ (fun v1_ H locs e1_ hP hS => ?_)
  obtain ⟨ow, rfl, ho1, ho2, ho3⟩ := e1_
  have hPo := (hit.2.2.2 ow ho1).2.2
  refine lv_istore (lv' := [(4, .int (nI ow)), (0, .ref h), (1, .int (nI x)), (2, .long (lN sp))]) hx hb dX1_placeOf_5 hl (by decide) rfl (fun ls hl => ?_)
  refine lv_aload_n hx hb dX1_placeOf_7 rfl (lv_at hl 1 rfl) ?_
  refine lv_iload hx hb dX1_placeOf_8 (lv_at hl 0 rfl) ?_
  refine RO_i.callV (rest := []) (c_X1_hasGroup l D cI cJ h h1 h2 h3 h4 gc tt P F C O ow (by omega) (by omega)) ⟨hx, hb, hml, hown, hts⟩ (cwV 1 hts gX1_placeOf_X1_hasGroup rfl rfl rfl (by decide +kernel) ⟨Nat.le_of_ble_eq_true rfl, Nat.le_of_ble_eq_true rfl⟩) hK hP hS hA [0, 1, 2, 3, 4] [0, 1] rfl rfl 0 2 rfl rfl rfl rfl hl.1 rfl (Nat.le_of_ble_eq_true rfl) dX1_placeOf_10 ⟨Nat.zero_le _, Nat.zero_le _⟩ (fun v2_ H locs e2_ hP hS => ?_)
  obtain rfl : v2_ = bI (ow < gc) := e2_
  refine zb_ne (tgt := 18) hx hb dX1_placeOf_13 (by decide) (fun c13 => ?_) (fun c13 => ?_)
  · refine lv_aload_n hx hb dX1_placeOf_18 rfl (lv_at hl 1 rfl) ?_
    refine va_get (D := D) (ci := 2) (v := .ref h1) (C := RX1) (T := TX1) (N := 6) hx hb hts hinX1 hown hK hP 0 rfl rfl 0 (by decide) (hts (.fieldLink RX1 9 "PassSearch$Items" "points" "[J") (by decide +kernel)) (fun _ h9 => h9) rfl dX1_placeOf_19 ?_
    refine lv_iload hx hb dX1_placeOf_22 (lv_at hl 0 rfl) ?_
    refine zl_ald hx hb hK hP 1 1 rfl rfl (k := ow) (by omega) (by omega) dX1_placeOf_24 ?_
    refine lv_lload_n hx hb dX1_placeOf_25 rfl (lv_at hl 3 rfl) ?_
    refine RO_l.callS (rest := []) (c_X3_remainder l D (P ow) sp (by omega) hsp.1 hsp.2) ⟨hx, hb, hml, hown, hts⟩ (va_cwS 2 hts gX1_placeOf_X3_remainder rfl rfl rfl (by decide +kernel) ⟨Nat.le_of_ble_eq_true rfl, Nat.le_of_ble_eq_true rfl⟩) hK hP hS hA [] [] rfl rfl rfl hl.1 rfl (Nat.le_of_ble_eq_true rfl) dX1_placeOf_26 ⟨Nat.zero_le _, Nat.zero_le _⟩ (fun v3_ H locs e3_ hP hS => ?_)
    obtain rfl : v3_ = lN (P ow % sp) := e3_
    refine lv_lstore (lv' := [(5, .long (lN (P ow % sp))), (4, .int (nI ow)), (0, .ref h), (1, .int (nI x)), (2, .long (lN sp))]) hx hb dX1_placeOf_29 hl (by decide) rfl (fun ls hl => ?_)
    refine lv_iload_n hx hb dX1_placeOf_31 rfl (lv_at hl 3 rfl) ?_
    refine lv_aload_n hx hb dX1_placeOf_32 rfl (lv_at hl 2 rfl) ?_
    refine va_get (D := D) (ci := 2) (v := .ref h2) (C := RX1) (T := TX1) (N := 6) hx hb hts hinX1 hown hK hP 0 rfl rfl 1 (by decide) (hts (.fieldLink RX1 15 "PassSearch$Items" "firsts" "[I") (by decide +kernel)) (fun _ h9 => h9) rfl dX1_placeOf_33 ?_
    refine lv_iload hx hb dX1_placeOf_36 (lv_at hl 1 rfl) ?_
    refine zi_ald hx hb hK hP 2 0 rfl rfl (k := ow) (by omega) (by omega) dX1_placeOf_38 ?_
    refine zi_sub hx hb dX1_placeOf_39 (by omega) ?_
    refine lv_istore (lv' := [(7, .int (nI (x - (F ow)))), (5, .long (lN (P ow % sp))), (4, .int (nI ow)), (0, .ref h), (1, .int (nI x)), (2, .long (lN sp))]) hx hb dX1_placeOf_40 hl (by decide) rfl (fun ls hl => ?_)
    refine lv_iconst (v := nI 0) hx hb dX1_placeOf_42 (by decide) ?_
    refine lv_istore (lv' := [(8, .int (nI 0)), (7, .int (nI (x - (F ow)))), (5, .long (lN (P ow % sp))), (4, .int (nI ow)), (0, .ref h), (1, .int (nI x)), (2, .long (lN sp))]) hx hb dX1_placeOf_43 hl (by decide) rfl (fun ls hl => ?_)
    have L45 : ∀ (nf : Nat) (g : Nat) (ac : Nat), (g ≤ gc) → (ac = x - F ow + sumN (before P C sp ow) g) → gc - g < nf → ∀ (H : Heap) (locs : List Loc) (ls : Array Slot), va_P D vwCl [(h, .inr (2, [.ref h1, .ref h2, .ref h3, .ref h4, .int (nI gc), .int (nI tt)])), (h1, aJ cJ 512 P), (h2, aI cI 512 F), (h3, aI cI 512 C), (h4, aI cI 512 O)] H → va_S A s.heap H locs → lv_has ls 11 [(8, .int (nI g)), (7, .int (nI ac)), (4, .int (nI ow)), (5, .long (lN (P ow % sp))), (0, .ref h), (1, .int (nI x)), (2, .long (lN sp))] → W p l e ({ frames := 1, cells := 0, slots := 0, locals := 23 } : Room) s m args below meth c H locs 0 0 Q (F0 m 45 ls []) := by
      intro nf
      induction nf with
      | zero => intro g ac i1 i2 hm; exact absurd hm (Nat.not_lt_zero _)
      | succ nf ih45 =>
        intro g ac i1 i2 hm45 H locs ls hP hS hl
        refine lv_iload hx hb dX1_placeOf_45 (lv_at hl 0 rfl) ?_
        refine lv_aload_n hx hb dX1_placeOf_47 rfl (lv_at hl 4 rfl) ?_
        refine va_get (D := D) (ci := 2) (v := .int (nI gc)) (C := RX1) (T := TX1) (N := 6) hx hb hts hinX1 hown hK hP 0 rfl rfl 4 (by decide) (hts (.fieldLink RX1 25 "PassSearch$Items" "groupCount" "I") (by decide +kernel)) (fun _ h9 => h9) rfl dX1_placeOf_48 ?_
        refine zi_ge (tgt := 108) hx hb dX1_placeOf_51 (by decide) (by omega) (by omega) (fun c51 => ?_) (fun c51 => ?_)
        · refine lv_iload hx hb dX1_placeOf_108 (lv_at hl 1 rfl) ?_
          exact hret _ _ _ _ _ hS (⟨ow, ho1, ho2, ho3, by rw [i2, show g = gc by omega]⟩) dX1_placeOf_110
        · have hPg := (hit.2.2.2 g (by omega)).2.2
          refine lv_aload_n hx hb dX1_placeOf_54 rfl (lv_at hl 4 rfl) ?_
          refine va_get (D := D) (ci := 2) (v := .ref h1) (C := RX1) (T := TX1) (N := 6) hx hb hts hinX1 hown hK hP 0 rfl rfl 0 (by decide) (hts (.fieldLink RX1 9 "PassSearch$Items" "points" "[J") (by decide +kernel)) (fun _ h9 => h9) rfl dX1_placeOf_55 ?_
          refine lv_iload hx hb dX1_placeOf_58 (lv_at hl 0 rfl) ?_
          refine zl_ald hx hb hK hP 1 1 rfl rfl (k := g) (by omega) (by omega) dX1_placeOf_60 ?_
          refine lv_lload_n hx hb dX1_placeOf_61 rfl (lv_at hl 6 rfl) ?_
          refine RO_l.callS (rest := []) (c_X3_remainder l D (P g) sp (by omega) hsp.1 hsp.2) ⟨hx, hb, hml, hown, hts⟩ (va_cwS 2 hts gX1_placeOf_X3_remainder rfl rfl rfl (by decide +kernel) ⟨Nat.le_of_ble_eq_true rfl, Nat.le_of_ble_eq_true rfl⟩) hK hP hS hA [] [] rfl rfl rfl hl.1 rfl (Nat.le_of_ble_eq_true rfl) dX1_placeOf_62 ⟨Nat.zero_le _, Nat.zero_le _⟩ (fun v4_ H locs e4_ hP hS => ?_)
          obtain rfl : v4_ = lN (P g % sp) := e4_
          refine lv_lstore (lv' := [(9, .long (lN (P g % sp))), (8, .int (nI g)), (7, .int (nI ac)), (4, .int (nI ow)), (5, .long (lN (P ow % sp))), (0, .ref h), (1, .int (nI x)), (2, .long (lN sp))]) hx hb dX1_placeOf_65 hl (by decide) rfl (fun ls hl => ?_)
          refine lv_lload hx hb dX1_placeOf_67 (lv_at hl 0 rfl) ?_
          refine lv_lload hx hb dX1_placeOf_69 (lv_at hl 4 rfl) ?_
          refine zl_lt (tgt := 90) hx hb dX1_placeOf_71 dX1_placeOf_72 (by decide) (hmod _) (hmod _) (fun c71 => ?_) (fun c71 => ?_)
          · refine lv_iload hx hb dX1_placeOf_90 (lv_at hl 2 rfl) ?_
            refine lv_aload_n hx hb dX1_placeOf_92 rfl (lv_at hl 5 rfl) ?_
            refine va_get (D := D) (ci := 2) (v := .ref h3) (C := RX1) (T := TX1) (N := 6) hx hb hts hinX1 hown hK hP 0 rfl rfl 2 (by decide) (hts (.fieldLink RX1 19 "PassSearch$Items" "counts" "[I") (by decide +kernel)) (fun _ h9 => h9) rfl dX1_placeOf_93 ?_
            refine lv_iload hx hb dX1_placeOf_96 (lv_at hl 1 rfl) ?_
            refine zi_ald hx hb hK hP 3 0 rfl rfl (k := g) (by omega) (by omega) dX1_placeOf_98 ?_
            refine zi_add hx hb dX1_placeOf_99  ?_
            refine lv_istore (lv' := [(7, .int (nI (ac + (C g)))), (9, .long (lN (P g % sp))), (8, .int (nI g)), (4, .int (nI ow)), (5, .long (lN (P ow % sp))), (0, .ref h), (1, .int (nI x)), (2, .long (lN sp))]) hx hb dX1_placeOf_100 hl (by decide) rfl (fun ls hl => ?_)
            refine lv_iinc (v := nI (g + 1)) (lv' := [(8, .int (nI (g + 1))), (7, .int (nI (ac + (C g)))), (9, .long (lN (P g % sp))), (4, .int (nI ow)), (5, .long (lN (P ow % sp))), (0, .ref h), (1, .int (nI x)), (2, .long (lN sp))]) hx hb dX1_placeOf_102 hl (k := 2) rfl (by rw [show Int32.ofInt 1 = nI 1 by decide, nI_add]) (by decide) rfl (fun ls hl => ?_)
            refine lv_goto (tgt := 45) hx hb dX1_placeOf_105 (by decide) ?_
            exact ih45 (g + 1) (ac + (C g)) (by omega) (by rw [sumN_succ, before, if_pos (Or.inl c71), i2]; omega) (by omega) _ _ _ hP hS (lv_sub hl [0, 1, 3, 4, 5, 6, 7] rfl)
          · refine lv_lload hx hb dX1_placeOf_75 (lv_at hl 0 rfl) ?_
            refine lv_lload hx hb dX1_placeOf_77 (lv_at hl 4 rfl) ?_
            refine zl_ne (tgt := 102) hx hb dX1_placeOf_79 dX1_placeOf_80 (by decide) (hmod _) (hmod _) (fun c79 => ?_) (fun c79 => ?_)
            · refine lv_iinc (v := nI (g + 1)) (lv' := [(8, .int (nI (g + 1))), (9, .long (lN (P g % sp))), (7, .int (nI ac)), (4, .int (nI ow)), (5, .long (lN (P ow % sp))), (0, .ref h), (1, .int (nI x)), (2, .long (lN sp))]) hx hb dX1_placeOf_102 hl (k := 1) rfl (by rw [show Int32.ofInt 1 = nI 1 by decide, nI_add]) (by decide) rfl (fun ls hl => ?_)
              refine lv_goto (tgt := 45) hx hb dX1_placeOf_105 (by decide) ?_
              exact ih45 (g + 1) ac (by omega) (by rw [sumN_succ, before, if_neg (fun q => by rcases q with q | q <;> omega), i2]; omega) (by omega) _ _ _ hP hS (lv_sub hl [0, 2, 3, 4, 5, 6, 7] rfl)
            · refine lv_iload hx hb dX1_placeOf_83 (lv_at hl 1 rfl) ?_
              refine lv_iload hx hb dX1_placeOf_85 (lv_at hl 3 rfl) ?_
              refine zi_ge (tgt := 102) hx hb dX1_placeOf_87 (by decide) (by omega) (by omega) (fun c87 => ?_) (fun c87 => ?_)
              · refine lv_iinc (v := nI (g + 1)) (lv' := [(8, .int (nI (g + 1))), (9, .long (lN (P g % sp))), (7, .int (nI ac)), (4, .int (nI ow)), (5, .long (lN (P ow % sp))), (0, .ref h), (1, .int (nI x)), (2, .long (lN sp))]) hx hb dX1_placeOf_102 hl (k := 1) rfl (by rw [show Int32.ofInt 1 = nI 1 by decide, nI_add]) (by decide) rfl (fun ls hl => ?_)
                refine lv_goto (tgt := 45) hx hb dX1_placeOf_105 (by decide) ?_
                exact ih45 (g + 1) ac (by omega) (by rw [sumN_succ, before, if_neg (fun q => by rcases q with q | q <;> omega), i2]; omega) (by omega) _ _ _ hP hS (lv_sub hl [0, 2, 3, 4, 5, 6, 7] rfl)
              · refine lv_iload hx hb dX1_placeOf_90 (lv_at hl 2 rfl) ?_
                refine lv_aload_n hx hb dX1_placeOf_92 rfl (lv_at hl 5 rfl) ?_
                refine va_get (D := D) (ci := 2) (v := .ref h3) (C := RX1) (T := TX1) (N := 6) hx hb hts hinX1 hown hK hP 0 rfl rfl 2 (by decide) (hts (.fieldLink RX1 19 "PassSearch$Items" "counts" "[I") (by decide +kernel)) (fun _ h9 => h9) rfl dX1_placeOf_93 ?_
                refine lv_iload hx hb dX1_placeOf_96 (lv_at hl 1 rfl) ?_
                refine zi_ald hx hb hK hP 3 0 rfl rfl (k := g) (by omega) (by omega) dX1_placeOf_98 ?_
                refine zi_add hx hb dX1_placeOf_99  ?_
                refine lv_istore (lv' := [(7, .int (nI (ac + (C g)))), (9, .long (lN (P g % sp))), (8, .int (nI g)), (4, .int (nI ow)), (5, .long (lN (P ow % sp))), (0, .ref h), (1, .int (nI x)), (2, .long (lN sp))]) hx hb dX1_placeOf_100 hl (by decide) rfl (fun ls hl => ?_)
                refine lv_iinc (v := nI (g + 1)) (lv' := [(8, .int (nI (g + 1))), (7, .int (nI (ac + (C g)))), (9, .long (lN (P g % sp))), (4, .int (nI ow)), (5, .long (lN (P ow % sp))), (0, .ref h), (1, .int (nI x)), (2, .long (lN sp))]) hx hb dX1_placeOf_102 hl (k := 2) rfl (by rw [show Int32.ofInt 1 = nI 1 by decide, nI_add]) (by decide) rfl (fun ls hl => ?_)
                refine lv_goto (tgt := 45) hx hb dX1_placeOf_105 (by decide) ?_
                exact ih45 (g + 1) (ac + (C g)) (by omega) (by rw [sumN_succ, before, if_pos (Or.inr ⟨c79, c87⟩), i2]; omega) (by omega) _ _ _ hP hS (lv_sub hl [0, 1, 3, 4, 5, 6, 7] rfl)
    exact L45 _ 0 (x - (F ow)) (by omega) (rfl) (Nat.lt_succ_self _) _ _ _ hP hS (lv_sub hl [0, 1, 3, 2, 4, 5, 6] rfl)
  · exact False.elim (c13 ho1)
set_option maxHeartbeats 4000000 in
set_option maxRecDepth 100000 in
/-- clear -/
theorem c_X1_clear (l : Launch) (D : va_G) (cI cJ : ClassId) (h h1 h2 h3 h4 gc tt : Nat) (P F C O : Nat → Nat) : WR_v l yX1_clear wsX1_clear ({ frames := 0, cells := 0, slots := 0, locals := 0 } : Room) D [(h, .inr (2, [.ref h1, .ref h2, .ref h3, .ref h4, .int (nI gc), .int (nI tt)])), (h1, aJ cJ 512 P), (h2, aI cI 512 F), (h3, aI cI 512 C), (h4, aI cI 512 O)] [(cI, .int), (cJ, .long)] [.ref h] (fun (_ : Unit) => [(h, .inr (2, [.ref h1, .ref h2, .ref h3, .ref h4, .int (nI 0), .int (nI 0)])), (h1, aJ cJ 512 P), (h2, aI cI 512 F), (h3, aI cI 512 C), (h4, aI cI 512 O)]) (fun _ => True) 0 0 := by
  refine WR_v.of (cc := cX1_clear) (maxL := 1) (by decide) rfl (Nat.le_of_ble_eq_true rfl) ?_
  intro p e s m args below meth c ls A Q hx hb hml hts hown hA hP hD hK hl hin hret
  have hown : s.vm.findClass RX1 = some m.cls := hown
  have hl : lv_has ls 1 [(0, .ref h)] := hl
  have hS : va_S A s.heap s.heap [] := va_S.rf
  have hinX1 : ∀ w ∈ wsX10, w ∈ wsX1_clear := by decide +kernel
  refine lv_aload_n hx hb dX1_clear_0 rfl (lv_at hl 0 rfl) ?_
  refine lv_iconst (v := nI 0) hx hb dX1_clear_1 (by decide) ?_
  refine va_put (D := D) (ci := 2) (v := .int (nI 0)) (ty := .int) (C := RX1) (T := TX1) (N := 6) hx hb hts hinX1 tyX1 tyX1_ok nmX1 hown hK hP hD hS 0 rfl rfl 4 (by decide) (hts (.fieldLink RX1 25 "PassSearch$Items" "groupCount" "I") (by decide +kernel)) (fun _ h9 => h9) rfl (by decide +kernel) rfl rfl (Nat.le_of_ble_eq_true rfl) dX1_clear_2 (fun H locs hP hD hS => ?_)
  have hP : va_P D vwCl [(h, .inr (2, [.ref h1, .ref h2, .ref h3, .ref h4, .int (nI 0), .int (nI tt)])), (h1, aJ cJ 512 P), (h2, aI cI 512 F), (h3, aI cI 512 C), (h4, aI cI 512 O)] H := hP
  have hD : va_D A [(h, .inr (2, [.ref h1, .ref h2, .ref h3, .ref h4, .int (nI 0), .int (nI tt)])), (h1, aJ cJ 512 P), (h2, aI cI 512 F), (h3, aI cI 512 C), (h4, aI cI 512 O)] := hD
  refine lv_aload_n hx hb dX1_clear_5 rfl (lv_at hl 0 rfl) ?_
  refine lv_iconst (v := nI 0) hx hb dX1_clear_6 (by decide) ?_
  refine va_put (D := D) (ci := 2) (v := .int (nI 0)) (ty := .int) (C := RX1) (T := TX1) (N := 6) hx hb hts hinX1 tyX1 tyX1_ok nmX1 hown hK hP hD hS 0 rfl rfl 5 (by decide) (hts (.fieldLink RX1 29 "PassSearch$Items" "total" "I") (by decide +kernel)) (fun _ h9 => h9) rfl (by decide +kernel) rfl rfl (Nat.le_of_ble_eq_true rfl) dX1_clear_7 (fun H locs hP hD hS => ?_)
  have hP : va_P D vwCl [(h, .inr (2, [.ref h1, .ref h2, .ref h3, .ref h4, .int (nI 0), .int (nI 0)])), (h1, aJ cJ 512 P), (h2, aI cI 512 F), (h3, aI cI 512 C), (h4, aI cI 512 O)] H := hP
  have hD : va_D A [(h, .inr (2, [.ref h1, .ref h2, .ref h3, .ref h4, .int (nI 0), .int (nI 0)])), (h1, aJ cJ 512 P), (h2, aI cI 512 F), (h3, aI cI 512 C), (h4, aI cI 512 O)] := hD
  exact hret (()) _ _ _ _ hP hD hS (trivial) dX1_clear_10
