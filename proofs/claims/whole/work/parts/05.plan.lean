set_option maxHeartbeats 4000000 in
set_option maxRecDepth 100000 in
/-- isLaid -/
theorem c_X2_isLaid (l : Launch) (D : va_G) (cI cJ : ClassId) (h hz hs bn pt pn : Nat) (Z S : Nat → Nat) (hpt : pt < 9223372036854775808) : RO_i l yX2_isLaid wsX2_isLaid ({ frames := 0, cells := 0, slots := 0, locals := 0 } : Room) D [(h, .inr (3, [.int (nI bn), .ref hz, .ref hs, .long (lN pt), .int (nI pn)])), (hz, aI cI 62 Z), (hs, aJ cJ 63 S)] [(cI, .int), (cJ, .long)] [.ref h] (fun v => v = bI (0 < pt)) := by
  refine RO_i.ofz (cc := cX2_isLaid) (maxL := 1) (by decide) rfl (Nat.le_of_ble_eq_true rfl) ?_
  intro p e s m args below meth c ls A Q hx hb hml hts hown hA hP hK hl hret
  have hown : s.vm.findClass RX2 = some m.cls := hown
  have hl : lv_has ls 1 [(0, .ref h)] := hl
  have hS : va_S A s.heap s.heap [] := va_S.rf
  have hinX2 : ∀ w ∈ wsX20, w ∈ wsX2_isLaid := by decide +kernel
  refine lv_aload_n hx hb dX2_isLaid_0 rfl (lv_at hl 0 rfl) ?_
  refine va_get (D := D) (ci := 3) (v := .long (lN pt)) (C := RX2) (T := TX2) (N := 5) hx hb hts hinX2 hown hK hP 0 rfl rfl 3 (by decide) (hts (.fieldLink RX2 23 "PassSearch$Plan" "points" "J") (by decide +kernel)) (fun _ h9 => h9) rfl dX2_isLaid_1 ?_
  refine lv_lconst (v := lN 0) hx hb dX2_isLaid_4 (by decide) ?_
  refine zl_le (tgt := 13) hx hb dX2_isLaid_5 dX2_isLaid_6 (by decide) (by omega) (by omega) (fun c5 => ?_) (fun c5 => ?_)
  · refine lv_iconst (v := nI 0) hx hb dX2_isLaid_13 (by decide) ?_
    exact hret _ _ _ _ _ hS (Or.inl rfl) (bI_f' (by omega)) dX2_isLaid_14
  · refine lv_iconst (v := nI 1) hx hb dX2_isLaid_9 (by decide) ?_
    refine lv_goto (tgt := 14) hx hb dX2_isLaid_10 (by decide) ?_
    exact hret _ _ _ _ _ hS (Or.inr rfl) (bI_t' c5) dX2_isLaid_14
set_option maxHeartbeats 4000000 in
set_option maxRecDepth 100000 in
/-- hasPoint -/
theorem c_X2_hasPoint (l : Launch) (D : va_G) (cI cJ : ClassId) (h hz hs bn pt pn : Nat) (Z S : Nat → Nat) (a : Nat) (hpt : pt < 9223372036854775808) (ha : a < 9223372036854775808) : RO_i l yX2_hasPoint wsX2_hasPoint ({ frames := 0, cells := 0, slots := 0, locals := 0 } : Room) D [(h, .inr (3, [.int (nI bn), .ref hz, .ref hs, .long (lN pt), .int (nI pn)])), (hz, aI cI 62 Z), (hs, aJ cJ 63 S)] [(cI, .int), (cJ, .long)] [.ref h, .long (lN a)] (fun v => v = bI (a < pt)) := by
  refine RO_i.ofz (cc := cX2_hasPoint) (maxL := 3) (by decide) rfl (Nat.le_of_ble_eq_true rfl) ?_
  intro p e s m args below meth c ls A Q hx hb hml hts hown hA hP hK hl hret
  have hown : s.vm.findClass RX2 = some m.cls := hown
  have hl : lv_has ls 3 [(0, .ref h), (1, .long (lN a))] := hl
  have hS : va_S A s.heap s.heap [] := va_S.rf
  have hinX2 : ∀ w ∈ wsX20, w ∈ wsX2_hasPoint := by decide +kernel
  refine lv_lload_n hx hb dX2_hasPoint_0 rfl (lv_at hl 1 rfl) ?_
  refine lv_lconst (v := lN 0) hx hb dX2_hasPoint_1 (by decide) ?_
  refine zl_lt (tgt := 19) hx hb dX2_hasPoint_2 dX2_hasPoint_3 (by decide) (by omega) (by omega) (fun c2 => ?_) (fun c2 => ?_)
  · exact False.elim (by omega)
  · refine lv_lload_n hx hb dX2_hasPoint_6 rfl (lv_at hl 1 rfl) ?_
    refine lv_aload_n hx hb dX2_hasPoint_7 rfl (lv_at hl 0 rfl) ?_
    refine va_get (D := D) (ci := 3) (v := .long (lN pt)) (C := RX2) (T := TX2) (N := 5) hx hb hts hinX2 hown hK hP 0 rfl rfl 3 (by decide) (hts (.fieldLink RX2 23 "PassSearch$Plan" "points" "J") (by decide +kernel)) (fun _ h9 => h9) rfl dX2_hasPoint_8 ?_
    refine zl_ge (tgt := 19) hx hb dX2_hasPoint_11 dX2_hasPoint_12 (by decide) (by omega) (by omega) (fun c11 => ?_) (fun c11 => ?_)
    · refine lv_iconst (v := nI 0) hx hb dX2_hasPoint_19 (by decide) ?_
      exact hret _ _ _ _ _ hS (Or.inl rfl) (bI_f' (by omega)) dX2_hasPoint_20
    · refine lv_iconst (v := nI 1) hx hb dX2_hasPoint_15 (by decide) ?_
      refine lv_goto (tgt := 20) hx hb dX2_hasPoint_16 (by decide) ?_
      exact hret _ _ _ _ _ hS (Or.inr rfl) (bI_t' c11) dX2_hasPoint_20
set_option maxHeartbeats 4000000 in
set_option maxRecDepth 100000 in
/-- hasPass -/
theorem c_X2_hasPass (l : Launch) (D : va_G) (cI cJ : ClassId) (h hz hs bn pt pn : Nat) (Z S : Nat → Nat) (x : Int32) (hpn : pn < 2147483648) : RO_i l yX2_hasPass wsX2_hasPass ({ frames := 0, cells := 0, slots := 0, locals := 0 } : Room) D [(h, .inr (3, [.int (nI bn), .ref hz, .ref hs, .long (lN pt), .int (nI pn)])), (hz, aI cI 62 Z), (hs, aJ cJ 63 S)] [(cI, .int), (cJ, .long)] [.ref h, .int x] (fun v => v = bI (0 ≤ x.toInt ∧ x.toInt < (pn : Int))) := by
  refine RO_i.ofz (cc := cX2_hasPass) (maxL := 2) (by decide) rfl (Nat.le_of_ble_eq_true rfl) ?_
  intro p e s m args below meth c ls A Q hx hb hml hts hown hA hP hK hl hret
  have hown : s.vm.findClass RX2 = some m.cls := hown
  have hl : lv_has ls 2 [(0, .ref h), (1, .int x)] := hl
  have hS : va_S A s.heap s.heap [] := va_S.rf
  have hinX2 : ∀ w ∈ wsX20, w ∈ wsX2_hasPass := by decide +kernel
  refine lv_iload_n hx hb dX2_hasPass_0 rfl (lv_at hl 1 rfl) ?_
  refine zq_if_lt (tgt := 16) hx hb dX2_hasPass_1 (by decide) (fun c1 => ?_) (fun c1 => ?_)
  · refine lv_iconst (v := nI 0) hx hb dX2_hasPass_16 (by decide) ?_
    exact hret _ _ _ _ _ hS (Or.inl rfl) (bI_f' (by omega)) dX2_hasPass_17
  · refine lv_iload_n hx hb dX2_hasPass_4 rfl (lv_at hl 1 rfl) ?_
    refine lv_aload_n hx hb dX2_hasPass_5 rfl (lv_at hl 0 rfl) ?_
    refine va_get (D := D) (ci := 3) (v := .int (nI pn)) (C := RX2) (T := TX2) (N := 5) hx hb hts hinX2 hown hK hP 0 rfl rfl 4 (by decide) (hts (.fieldLink RX2 27 "PassSearch$Plan" "passCount" "I") (by decide +kernel)) (fun _ h9 => h9) rfl dX2_hasPass_6 ?_
    refine zq_ge (tgt := 16) hx hb dX2_hasPass_9 (by decide) (fun c9 => ?_) (fun c9 => ?_)
    · refine lv_iconst (v := nI 0) hx hb dX2_hasPass_16 (by decide) ?_
      exact hret _ _ _ _ _ hS (Or.inl rfl) (bI_f' (by rw [nI_toInt (by omega)] at c9; omega)) dX2_hasPass_17
    · refine lv_iconst (v := nI 1) hx hb dX2_hasPass_12 (by decide) ?_
      refine lv_goto (tgt := 17) hx hb dX2_hasPass_13 (by decide) ?_
      exact hret _ _ _ _ _ hS (Or.inr rfl) (bI_t' (by rw [nI_toInt (by omega)] at c9; omega)) dX2_hasPass_17
set_option maxHeartbeats 4000000 in
set_option maxRecDepth 100000 in
/-- passCount -/
theorem c_X2_passCount (l : Launch) (D : va_G) (cI cJ : ClassId) (h hz hs bn pt pn : Nat) (Z S : Nat → Nat) : RO_i l yX2_passCount wsX2_passCount ({ frames := 0, cells := 0, slots := 0, locals := 0 } : Room) D [(h, .inr (3, [.int (nI bn), .ref hz, .ref hs, .long (lN pt), .int (nI pn)])), (hz, aI cI 62 Z), (hs, aJ cJ 63 S)] [(cI, .int), (cJ, .long)] [.ref h] (fun v => v = nI pn) := by
  refine RO_i.of (cc := cX2_passCount) (maxL := 1) (by decide) rfl (Nat.le_of_ble_eq_true rfl) ?_
  intro p e s m args below meth c ls A Q hx hb hml hts hown hA hP hK hl hret
  have hown : s.vm.findClass RX2 = some m.cls := hown
  have hl : lv_has ls 1 [(0, .ref h)] := hl
  have hS : va_S A s.heap s.heap [] := va_S.rf
  have hinX2 : ∀ w ∈ wsX20, w ∈ wsX2_passCount := by decide +kernel
  refine lv_aload_n hx hb dX2_passCount_0 rfl (lv_at hl 0 rfl) ?_
  refine va_get (D := D) (ci := 3) (v := .int (nI pn)) (C := RX2) (T := TX2) (N := 5) hx hb hts hinX2 hown hK hP 0 rfl rfl 4 (by decide) (hts (.fieldLink RX2 27 "PassSearch$Plan" "passCount" "I") (by decide +kernel)) (fun _ h9 => h9) rfl dX2_passCount_1 ?_
  exact hret _ _ _ _ _ hS (rfl) dX2_passCount_4
set_option maxHeartbeats 4000000 in
set_option maxRecDepth 100000 in
/-- sizeOf -/
theorem c_X2_sizeOf (l : Launch) (D : va_G) (cI cJ : ClassId) (h hz hs bn pt pn : Nat) (Z S : Nat → Nat) (k : Nat) (hk : k < pn) (hpn : pn ≤ 62) : RO_i l yX2_sizeOf wsX2_sizeOf ({ frames := 1, cells := 0, slots := 0, locals := 21 } : Room) D [(h, .inr (3, [.int (nI bn), .ref hz, .ref hs, .long (lN pt), .int (nI pn)])), (hz, aI cI 62 Z), (hs, aJ cJ 63 S)] [(cI, .int), (cJ, .long)] [.ref h, .int (nI k)] (fun v => v = nI (Z k)) := by
  refine RO_i.of (cc := cX2_sizeOf) (maxL := 2) (by decide) rfl (Nat.le_of_ble_eq_true rfl) ?_
  intro p e s m args below meth c ls A Q hx hb hml hts hown hA hP hK hl hret
  have hown : s.vm.findClass RX2 = some m.cls := hown
  have hl : lv_has ls 2 [(0, .ref h), (1, .int (nI k))] := hl
  have hS : va_S A s.heap s.heap [] := va_S.rf
  have hinX2 : ∀ w ∈ wsX20, w ∈ wsX2_sizeOf := by decide +kernel
  refine lv_aload_n hx hb dX2_sizeOf_0 rfl (lv_at hl 0 rfl) ?_
  refine lv_iload_n hx hb dX2_sizeOf_1 rfl (lv_at hl 1 rfl) ?_
  refine RO_i.callV (rest := []) (c_X2_hasPass l D cI cJ h hz hs bn pt pn Z S (nI k) (by omega)) ⟨hx, hb, hml, hown, hts⟩ (cwV 1 hts gX2_sizeOf_X2_hasPass rfl rfl rfl (by decide +kernel) ⟨Nat.le_of_ble_eq_true rfl, Nat.le_of_ble_eq_true rfl⟩) hK hP hS hA [0, 1, 2] [0, 1] rfl rfl 0 3 rfl rfl rfl rfl hl.1 rfl (Nat.le_of_ble_eq_true rfl) dX2_sizeOf_2 ⟨Nat.zero_le _, Nat.zero_le _⟩ (fun v1_ H locs e1_ hP hS => ?_)
  obtain rfl : v1_ = bI (k < pn) := e1_.trans (bI_c (by rw [nI_toInt (by omega)]; omega))
  refine zb_eq (tgt := 17) hx hb dX2_sizeOf_5 (by decide) (fun c5 => ?_) (fun c5 => ?_)
  · exact False.elim (c5 hk)
  · refine lv_aload_n hx hb dX2_sizeOf_8 rfl (lv_at hl 0 rfl) ?_
    refine va_get (D := D) (ci := 3) (v := .ref hz) (C := RX2) (T := TX2) (N := 5) hx hb hts hinX2 hown hK hP 0 rfl rfl 1 (by decide) (hts (.fieldLink RX2 9 "PassSearch$Plan" "sizes" "[I") (by decide +kernel)) (fun _ h9 => h9) rfl dX2_sizeOf_9 ?_
    refine lv_iload_n hx hb dX2_sizeOf_12 rfl (lv_at hl 1 rfl) ?_
    refine zi_ald hx hb hK hP 1 0 rfl rfl (k := k) (by omega) (by omega) dX2_sizeOf_13 ?_
    refine lv_goto (tgt := 18) hx hb dX2_sizeOf_14 (by decide) ?_
    exact hret _ _ _ _ _ hS (rfl) dX2_sizeOf_18
set_option maxHeartbeats 4000000 in
set_option maxRecDepth 100000 in
/-- spanBehind -/
theorem c_X2_spanBehind (l : Launch) (D : va_G) (cI cJ : ClassId) (h hz hs bn pt pn : Nat) (Z S : Nat → Nat) (k : Nat) (hk : k < pn) (hpn : pn ≤ 62) : RO_l l yX2_spanBehind wsX2_spanBehind ({ frames := 1, cells := 0, slots := 0, locals := 21 } : Room) D [(h, .inr (3, [.int (nI bn), .ref hz, .ref hs, .long (lN pt), .int (nI pn)])), (hz, aI cI 62 Z), (hs, aJ cJ 63 S)] [(cI, .int), (cJ, .long)] [.ref h, .int (nI k)] (fun v => v = lN (S (k + 1))) := by
  refine RO_l.of (cc := cX2_spanBehind) (maxL := 2) (by decide) rfl (Nat.le_of_ble_eq_true rfl) ?_
  intro p e s m args below meth c ls A Q hx hb hml hts hown hA hP hK hl hret
  have hown : s.vm.findClass RX2 = some m.cls := hown
  have hl : lv_has ls 2 [(0, .ref h), (1, .int (nI k))] := hl
  have hS : va_S A s.heap s.heap [] := va_S.rf
  have hinX2 : ∀ w ∈ wsX20, w ∈ wsX2_spanBehind := by decide +kernel
  refine lv_aload_n hx hb dX2_spanBehind_0 rfl (lv_at hl 0 rfl) ?_
  refine lv_iload_n hx hb dX2_spanBehind_1 rfl (lv_at hl 1 rfl) ?_
  refine RO_i.callV (rest := []) (c_X2_hasPass l D cI cJ h hz hs bn pt pn Z S (nI k) (by omega)) ⟨hx, hb, hml, hown, hts⟩ (cwV 1 hts gX2_spanBehind_X2_hasPass rfl rfl rfl (by decide +kernel) ⟨Nat.le_of_ble_eq_true rfl, Nat.le_of_ble_eq_true rfl⟩) hK hP hS hA [0, 1, 2] [0, 1] rfl rfl 0 3 rfl rfl rfl rfl hl.1 rfl (Nat.le_of_ble_eq_true rfl) dX2_spanBehind_2 ⟨Nat.zero_le _, Nat.zero_le _⟩ (fun v1_ H locs e1_ hP hS => ?_)
  obtain rfl : v1_ = bI (k < pn) := e1_.trans (bI_c (by rw [nI_toInt (by omega)]; omega))
  refine zb_eq (tgt := 19) hx hb dX2_spanBehind_5 (by decide) (fun c5 => ?_) (fun c5 => ?_)
  · exact False.elim (c5 hk)
  · refine lv_aload_n hx hb dX2_spanBehind_8 rfl (lv_at hl 0 rfl) ?_
    refine va_get (D := D) (ci := 3) (v := .ref hs) (C := RX2) (T := TX2) (N := 5) hx hb hts hinX2 hown hK hP 0 rfl rfl 2 (by decide) (hts (.fieldLink RX2 15 "PassSearch$Plan" "spans" "[J") (by decide +kernel)) (fun _ h9 => h9) rfl dX2_spanBehind_9 ?_
    refine lv_iload_n hx hb dX2_spanBehind_12 rfl (lv_at hl 1 rfl) ?_
    refine lv_iconst (v := nI 1) hx hb dX2_spanBehind_13 (by decide) ?_
    refine zi_add hx hb dX2_spanBehind_14  ?_
    refine zl_ald hx hb hK hP 2 1 rfl rfl (k := k + 1) (by omega) (by omega) dX2_spanBehind_15 ?_
    refine lv_goto (tgt := 20) hx hb dX2_spanBehind_16 (by decide) ?_
    exact hret _ _ _ _ _ hS (rfl) dX2_spanBehind_20
set_option maxHeartbeats 4000000 in
set_option maxRecDepth 100000 in
/-- binOf -/
theorem c_X2_binOf (l : Launch) (D : va_G) (cI cJ : ClassId) (h hz hs bn pt pn : Nat) (Z S : Nat → Nat) (a k : Nat) (hk : k < pn) (hpn : pn ≤ 62) (ha : a < 9223372036854775808) (hS1 : 1 ≤ S k ∧ S k < 9223372036854775808) (hZ1 : 1 ≤ Z k ∧ Z k < 2147483648) : RO_i l yX2_binOf wsX2_binOf ({ frames := 1, cells := 0, slots := 0, locals := 23 } : Room) D [(h, .inr (3, [.int (nI bn), .ref hz, .ref hs, .long (lN pt), .int (nI pn)])), (hz, aI cI 62 Z), (hs, aJ cJ 63 S)] [(cI, .int), (cJ, .long)] [.ref h, .long (lN a), .int (nI k)] (fun v => v = nI (a / S k % Z k)) := by
  refine RO_i.of (cc := cX2_binOf) (maxL := 4) (by decide) rfl (Nat.le_of_ble_eq_true rfl) ?_
  intro p e s m args below meth c ls A Q hx hb hml hts hown hA hP hK hl hret
  have hown : s.vm.findClass RX2 = some m.cls := hown
  have hl : lv_has ls 4 [(0, .ref h), (1, .long (lN a)), (3, .int (nI k))] := hl
  have hS : va_S A s.heap s.heap [] := va_S.rf
  have hinX2 : ∀ w ∈ wsX20, w ∈ wsX2_binOf := by decide +kernel
  refine lv_aload_n hx hb dX2_binOf_0 rfl (lv_at hl 0 rfl) ?_
  refine lv_iload_n hx hb dX2_binOf_1 rfl (lv_at hl 2 rfl) ?_
  refine RO_i.callV (rest := []) (c_X2_hasPass l D cI cJ h hz hs bn pt pn Z S (nI k) (by omega)) ⟨hx, hb, hml, hown, hts⟩ (cwV 1 hts gX2_binOf_X2_hasPass rfl rfl rfl (by decide +kernel) ⟨Nat.le_of_ble_eq_true rfl, Nat.le_of_ble_eq_true rfl⟩) hK hP hS hA [0, 1, 2] [0, 1] rfl rfl 0 3 rfl rfl rfl rfl hl.1 rfl (Nat.le_of_ble_eq_true rfl) dX2_binOf_2 ⟨Nat.zero_le _, Nat.zero_le _⟩ (fun v1_ H locs e1_ hP hS => ?_)
  obtain rfl : v1_ = bI (k < pn) := e1_.trans (bI_c (by rw [nI_toInt (by omega)]; omega))
  refine zb_eq (tgt := 32) hx hb dX2_binOf_5 (by decide) (fun c5 => ?_) (fun c5 => ?_)
  · exact False.elim (c5 hk)
  · refine lv_lload_n hx hb dX2_binOf_8 rfl (lv_at hl 1 rfl) ?_
    refine lv_aload_n hx hb dX2_binOf_9 rfl (lv_at hl 0 rfl) ?_
    refine va_get (D := D) (ci := 3) (v := .ref hs) (C := RX2) (T := TX2) (N := 5) hx hb hts hinX2 hown hK hP 0 rfl rfl 2 (by decide) (hts (.fieldLink RX2 15 "PassSearch$Plan" "spans" "[J") (by decide +kernel)) (fun _ h9 => h9) rfl dX2_binOf_10 ?_
    refine lv_iload_n hx hb dX2_binOf_13 rfl (lv_at hl 2 rfl) ?_
    refine zl_ald hx hb hK hP 2 1 rfl rfl (k := k) (by omega) (by omega) dX2_binOf_14 ?_
    refine RO_l.callS (rest := []) (c_X3_quotient l D a (S k) ha hS1.1 hS1.2) ⟨hx, hb, hml, hown, hts⟩ (va_cwS 2 hts gX2_binOf_X3_quotient rfl rfl rfl (by decide +kernel) ⟨Nat.le_of_ble_eq_true rfl, Nat.le_of_ble_eq_true rfl⟩) hK hP hS hA [] [] rfl rfl rfl hl.1 rfl (Nat.le_of_ble_eq_true rfl) dX2_binOf_15 ⟨Nat.zero_le _, Nat.zero_le _⟩ (fun v2_ H locs e2_ hP hS => ?_)
    obtain rfl : v2_ = lN (a / S k) := e2_
    refine lv_aload_n hx hb dX2_binOf_18 rfl (lv_at hl 0 rfl) ?_
    refine va_get (D := D) (ci := 3) (v := .ref hz) (C := RX2) (T := TX2) (N := 5) hx hb hts hinX2 hown hK hP 0 rfl rfl 1 (by decide) (hts (.fieldLink RX2 9 "PassSearch$Plan" "sizes" "[I") (by decide +kernel)) (fun _ h9 => h9) rfl dX2_binOf_19 ?_
    refine lv_iload_n hx hb dX2_binOf_22 rfl (lv_at hl 2 rfl) ?_
    refine zi_ald hx hb hK hP 1 0 rfl rfl (k := k) (by omega) (by omega) dX2_binOf_23 ?_
    refine z_i2l hx hb dX2_binOf_24 (by omega) ?_
    refine RO_l.callS (rest := []) (c_X3_remainder l D (a / S k) (Z k) (Nat.lt_of_le_of_lt (Nat.div_le_self _ _) ha) hZ1.1 (by omega)) ⟨hx, hb, hml, hown, hts⟩ (va_cwS 2 hts gX2_binOf_X3_remainder rfl rfl rfl (by decide +kernel) ⟨Nat.le_of_ble_eq_true rfl, Nat.le_of_ble_eq_true rfl⟩) hK hP hS hA [] [] rfl rfl rfl hl.1 rfl (Nat.le_of_ble_eq_true rfl) dX2_binOf_25 ⟨Nat.zero_le _, Nat.zero_le _⟩ (fun v3_ H locs e3_ hP hS => ?_)
    obtain rfl : v3_ = lN (a / S k % Z k) := e3_
    refine z_l2i hx hb dX2_binOf_28 ?_
    refine lv_goto (tgt := 33) hx hb dX2_binOf_29 (by decide) ?_
    exact hret _ _ _ _ _ hS (rfl) dX2_binOf_33
set_option maxHeartbeats 4000000 in
set_option maxRecDepth 100000 in
/-- isEnough -/
theorem c_X2_isEnough (l : Launch) (D : va_G) (cI cJ : ClassId) (h hz hs bn pt pn : Nat) (Z S : Nat → Nat) (k x y : Nat) (hk : k + 1 < pn) (hpn : pn ≤ 62) (hbn : bn ≤ 65536) (hx1 : 1 ≤ x ∧ x < 2147483648) (hy : pn - k - 1 ≤ y ∧ y < 2147483647) (hSk : 1 ≤ S k ∧ S k ≤ 4611686018427387904) (hpt : pt ≤ 4611686018427387904) : RO_i l yX2_isEnough wsX2_isEnough ({ frames := 4, cells := 0, slots := 0, locals := 94 } : Room) D [(h, .inr (3, [.int (nI bn), .ref hz, .ref hs, .long (lN pt), .int (nI pn)])), (hz, aI cI 62 Z), (hs, aJ cJ 63 S)] [(cI, .int), (cJ, .long)] [.ref h, .int (nI k), .int (nI x), .int (nI y)] (fun v => v = bI (y ≤ (pn - k - 1) * bn ∧ pt ≤ S k * x * wide y (pn - k - 1))) := by
  refine RO_i.ofz (cc := cX2_isEnough) (maxL := 7) (by decide) rfl (Nat.le_of_ble_eq_true rfl) ?_
  intro p e s m args below meth c ls A Q hx hb hml hts hown hA hP hK hl hret
  have hown : s.vm.findClass RX2 = some m.cls := hown
  have hl : lv_has ls 7 [(0, .ref h), (1, .int (nI k)), (2, .int (nI x)), (3, .int (nI y))] := hl
  have hS : va_S A s.heap s.heap [] := va_S.rf
  have hinX2 : ∀ w ∈ wsX20, w ∈ wsX2_isEnough := by decide +kernel
  have hm : (pn - k - 1) * bn ≤ 62 * 65536 := Nat.mul_le_mul (by omega) hbn
  have hwp : 1 ≤ wide y (pn - k - 1) := wide_pos (by omega)
  have hsx : 1 ≤ S k * x := Nat.mul_pos hSk.1 (by omega)
  refine lv_aload_n hx hb dX2_isEnough_0 rfl (lv_at hl 0 rfl) ?_
  refine va_get (D := D) (ci := 3) (v := .int (nI pn)) (C := RX2) (T := TX2) (N := 5) hx hb hts hinX2 hown hK hP 0 rfl rfl 4 (by decide) (hts (.fieldLink RX2 27 "PassSearch$Plan" "passCount" "I") (by decide +kernel)) (fun _ h9 => h9) rfl dX2_isEnough_1 ?_
  refine lv_iload_n hx hb dX2_isEnough_4 rfl (lv_at hl 1 rfl) ?_
  refine zi_sub hx hb dX2_isEnough_5 (by omega) ?_
  refine lv_iconst (v := nI 1) hx hb dX2_isEnough_6 (by decide) ?_
  refine zi_sub hx hb dX2_isEnough_7 (by omega) ?_
  refine lv_istore (lv' := [(4, .int (nI ((pn - k) - 1))), (0, .ref h), (1, .int (nI k)), (2, .int (nI x)), (3, .int (nI y))]) hx hb dX2_isEnough_8 hl (by decide) rfl (fun ls hl => ?_)
  refine lv_iload_n hx hb dX2_isEnough_10 rfl (lv_at hl 4 rfl) ?_
  refine lv_iload hx hb dX2_isEnough_11 (lv_at hl 0 rfl) ?_
  refine lv_aload_n hx hb dX2_isEnough_13 rfl (lv_at hl 1 rfl) ?_
  refine va_get (D := D) (ci := 3) (v := .int (nI bn)) (C := RX2) (T := TX2) (N := 5) hx hb hts hinX2 hown hK hP 0 rfl rfl 0 (by decide) (hts (.fieldLink RX2 19 "PassSearch$Plan" "bins" "I") (by decide +kernel)) (fun _ h9 => h9) rfl dX2_isEnough_14 ?_
  refine zi_mul hx hb dX2_isEnough_17  ?_
  refine zi_le (tgt := 23) hx hb dX2_isEnough_18 (by decide) (by omega) (by omega) (fun c18 => ?_) (fun c18 => ?_)
  · refine lv_iload_n hx hb dX2_isEnough_23 rfl (lv_at hl 4 rfl) ?_
    refine lv_iload hx hb dX2_isEnough_24 (lv_at hl 0 rfl) ?_
    refine RO_l.callS (rest := []) (c_X3_widestProduct l D y (pn - k - 1) (by omega) (by omega) (by omega)) ⟨hx, hb, hml, hown, hts⟩ (va_cwS 2 hts gX2_isEnough_X3_widestProduct rfl rfl rfl (by decide +kernel) ⟨Nat.le_of_ble_eq_true rfl, Nat.le_of_ble_eq_true rfl⟩) hK hP hS hA [] [] rfl rfl rfl hl.1 rfl (Nat.le_of_ble_eq_true rfl) dX2_isEnough_26 ⟨Nat.zero_le _, Nat.zero_le _⟩ (fun v1_ H locs e1_ hP hS => ?_)
    obtain rfl : v1_ = lN (sat (wide y (pn - k - 1))) := e1_
    refine lv_lstore (lv' := [(5, .long (lN (sat (wide y (pn - k - 1))))), (4, .int (nI ((pn - k) - 1))), (0, .ref h), (1, .int (nI k)), (2, .int (nI x)), (3, .int (nI y))]) hx hb dX2_isEnough_29 hl (by decide) rfl (fun ls hl => ?_)
    refine lv_aload_n hx hb dX2_isEnough_31 rfl (lv_at hl 2 rfl) ?_
    refine va_get (D := D) (ci := 3) (v := .ref hs) (C := RX2) (T := TX2) (N := 5) hx hb hts hinX2 hown hK hP 0 rfl rfl 2 (by decide) (hts (.fieldLink RX2 15 "PassSearch$Plan" "spans" "[J") (by decide +kernel)) (fun _ h9 => h9) rfl dX2_isEnough_32 ?_
    refine lv_iload_n hx hb dX2_isEnough_35 rfl (lv_at hl 3 rfl) ?_
    refine zl_ald hx hb hK hP 2 1 rfl rfl (k := k) (by omega) (by omega) dX2_isEnough_36 ?_
    refine lv_iload_n hx hb dX2_isEnough_37 rfl (lv_at hl 4 rfl) ?_
    refine z_i2l hx hb dX2_isEnough_38 (by omega) ?_
    refine RO_l.callS (rest := []) (c_X3_product l D (S k) x hSk.2 (by omega) (by omega)) ⟨hx, hb, hml, hown, hts⟩ (va_cwS 2 hts gX2_isEnough_X3_product rfl rfl rfl (by decide +kernel) ⟨Nat.le_of_ble_eq_true rfl, Nat.le_of_ble_eq_true rfl⟩) hK hP hS hA [] [] rfl rfl rfl hl.1 rfl (Nat.le_of_ble_eq_true rfl) dX2_isEnough_39 ⟨Nat.zero_le _, Nat.zero_le _⟩ (fun v2_ H locs e2_ hP hS => ?_)
    obtain rfl : v2_ = lN (sat (S k * x)) := e2_
    refine lv_lload hx hb dX2_isEnough_42 (lv_at hl 0 rfl) ?_
    refine RO_l.callS (rest := []) (c_X3_product l D (sat (S k * x)) (sat (wide y (pn - k - 1))) (sat_top _) (sat_pos hwp) (sat_top _)) ⟨hx, hb, hml, hown, hts⟩ (va_cwS 2 hts gX2_isEnough_X3_product rfl rfl rfl (by decide +kernel) ⟨Nat.le_of_ble_eq_true rfl, Nat.le_of_ble_eq_true rfl⟩) hK hP hS hA [] [] rfl rfl rfl hl.1 rfl (Nat.le_of_ble_eq_true rfl) dX2_isEnough_44 ⟨Nat.zero_le _, Nat.zero_le _⟩ (fun v3_ H locs e3_ hP hS => ?_)
    obtain rfl : v3_ = lN (sat (sat (S k * x) * sat (wide y (pn - k - 1)))) := e3_
    refine lv_topl (fun v4_ e4_ => ?_)
    obtain rfl : v4_ = lN (sat (S k * x * wide y (pn - k - 1))) := e4_.trans (congrArg lN (sat_mul2 hsx hwp))
    refine lv_aload_n hx hb dX2_isEnough_47 rfl (lv_at hl 2 rfl) ?_
    refine va_get (D := D) (ci := 3) (v := .long (lN pt)) (C := RX2) (T := TX2) (N := 5) hx hb hts hinX2 hown hK hP 0 rfl rfl 3 (by decide) (hts (.fieldLink RX2 23 "PassSearch$Plan" "points" "J") (by decide +kernel)) (fun _ h9 => h9) rfl dX2_isEnough_48 ?_
    refine zl_lt (tgt := 59) hx hb dX2_isEnough_51 dX2_isEnough_52 (by decide) (sat_lt _) (by omega) (fun c51 => ?_) (fun c51 => ?_)
    · refine lv_iconst (v := nI 0) hx hb dX2_isEnough_59 (by decide) ?_
      exact hret _ _ _ _ _ hS (Or.inl rfl) (bI_f' (fun q => absurd ((le_sat hpt).mpr q.2) (by omega))) dX2_isEnough_60
    · refine lv_iconst (v := nI 1) hx hb dX2_isEnough_55 (by decide) ?_
      refine lv_goto (tgt := 60) hx hb dX2_isEnough_56 (by decide) ?_
      exact hret _ _ _ _ _ hS (Or.inr rfl) (bI_t' ⟨c18, (le_sat hpt).mp c51⟩) dX2_isEnough_60
  · refine lv_iconst (v := nI 0) hx hb dX2_isEnough_21 (by decide) ?_
    exact hret _ _ _ _ _ hS (Or.inl rfl) (bI_f' (fun q => by omega)) dX2_isEnough_22
set_option maxHeartbeats 4000000 in
set_option maxRecDepth 100000 in
/-- leastSize -/
theorem c_X2_leastSize (l : Launch) (D : va_G) (cI cJ : ClassId) (h hz hs bn pt pn : Nat) (Z S : Nat → Nat) (k z : Nat) (hk : k < pn) (hpn : pn ≤ 62) (hbn : bn ≤ 65536) (hzz : 2 * (pn - k) ≤ z ∧ z ≤ (pn - k) * bn) (hSk : 1 ≤ S k ∧ S k ≤ 4611686018427387904) (hpt : pt ≤ 4611686018427387904) (hfe : pt ≤ S k * wide z (pn - k)) : RO_i l yX2_leastSize wsX2_leastSize ({ frames := 5, cells := 0, slots := 0, locals := 120 } : Room) D [(h, .inr (3, [.int (nI bn), .ref hz, .ref hs, .long (lN pt), .int (nI pn)])), (hz, aI cI 62 Z), (hs, aJ cJ 63 S)] [(cI, .int), (cJ, .long)] [.ref h, .int (nI k), .int (nI z)] (fun v => ∃ x, v = nI x ∧ isSize pt bn (S k) z (pn - k - 1) x ∧ x ≤ z / (pn - k)) := by
  refine RO_i.of (cc := cX2_leastSize) (maxL := 7) (by decide) rfl (Nat.le_of_ble_eq_true rfl) ?_
  intro p e s m args below meth c ls A Q hx hb hml hts hown hA hP hK hl hret
  have hown : s.vm.findClass RX2 = some m.cls := hown
  have hl : lv_has ls 7 [(0, .ref h), (1, .int (nI k)), (2, .int (nI z))] := hl
  have hS : va_S A s.heap s.heap [] := va_S.rf
  have hinX2 : ∀ w ∈ wsX20, w ∈ wsX2_leastSize := by decide +kernel
  have hm : (pn - k) * bn ≤ 62 * 65536 := Nat.mul_le_mul (by omega) hbn
  have hdz : z / (pn - k) ≤ z := Nat.div_le_self _ _
  have hd2 : 2 ≤ z / (pn - k) := (Nat.le_div_iff_mul_le (by omega)).mpr hzz.1
  have hn1 : pn - k - 1 + 1 = pn - k := by omega
  have hmn : okS pt bn (S k) z (pn - k - 1) (z / (pn - k)) := by
    have h := okS_mean (q := pt) (b := bn) (dn := S k) (z := z) (n := pn - k - 1) (by omega) (by rw [hn1]; exact hzz.2) (by rw [hn1]; exact hfe)
    rw [hn1] at h
    exact h
  refine lv_iconst (v := nI 2) hx hb dX2_leastSize_0 (by decide) ?_
  refine lv_istore_n (lv' := [(3, .int (nI 2)), (0, .ref h), (1, .int (nI k)), (2, .int (nI z))]) hx hb dX2_leastSize_1 rfl hl (by decide) rfl (fun ls hl => ?_)
  refine lv_iload_n hx hb dX2_leastSize_2 rfl (lv_at hl 3 rfl) ?_
  refine z_i2l hx hb dX2_leastSize_3 (by omega) ?_
  refine lv_aload_n hx hb dX2_leastSize_4 rfl (lv_at hl 1 rfl) ?_
  refine va_get (D := D) (ci := 3) (v := .int (nI pn)) (C := RX2) (T := TX2) (N := 5) hx hb hts hinX2 hown hK hP 0 rfl rfl 4 (by decide) (hts (.fieldLink RX2 27 "PassSearch$Plan" "passCount" "I") (by decide +kernel)) (fun _ h9 => h9) rfl dX2_leastSize_5 ?_
  refine lv_iload_n hx hb dX2_leastSize_8 rfl (lv_at hl 2 rfl) ?_
  refine zi_sub hx hb dX2_leastSize_9 (by omega) ?_
  refine z_i2l hx hb dX2_leastSize_10 (by omega) ?_
  refine RO_l.callS (rest := []) (c_X3_quotient l D z (pn - k) (by omega) (by omega) (by omega)) ⟨hx, hb, hml, hown, hts⟩ (va_cwS 2 hts gX2_leastSize_X3_quotient rfl rfl rfl (by decide +kernel) ⟨Nat.le_of_ble_eq_true rfl, Nat.le_of_ble_eq_true rfl⟩) hK hP hS hA [] [] rfl rfl rfl hl.1 rfl (Nat.le_of_ble_eq_true rfl) dX2_leastSize_11 ⟨Nat.zero_le _, Nat.zero_le _⟩ (fun v1_ H locs e1_ hP hS => ?_)
  obtain rfl : v1_ = lN (z / (pn - k)) := e1_
  refine z_l2i hx hb dX2_leastSize_14 ?_
  refine lv_istore (lv' := [(4, .int (nI (z / (pn - k)))), (3, .int (nI 2)), (0, .ref h), (1, .int (nI k)), (2, .int (nI z))]) hx hb dX2_leastSize_15 hl (by decide) rfl (fun ls hl => ?_)
  refine lv_iload_n hx hb dX2_leastSize_17 rfl (lv_at hl 3 rfl) ?_
  refine lv_aload_n hx hb dX2_leastSize_18 rfl (lv_at hl 2 rfl) ?_
  refine va_get (D := D) (ci := 3) (v := .int (nI pn)) (C := RX2) (T := TX2) (N := 5) hx hb hts hinX2 hown hK hP 0 rfl rfl 4 (by decide) (hts (.fieldLink RX2 27 "PassSearch$Plan" "passCount" "I") (by decide +kernel)) (fun _ h9 => h9) rfl dX2_leastSize_19 ?_
  refine lv_iconst (v := nI 1) hx hb dX2_leastSize_22 (by decide) ?_
  refine zi_sub hx hb dX2_leastSize_23 (by omega) ?_
  refine zi_ne (tgt := 30) hx hb dX2_leastSize_24 (by decide) (by omega) (by omega) (fun c24 => ?_) (fun c24 => ?_)
  · refine lv_iconst (v := nI 0) hx hb dX2_leastSize_30 (by decide) ?_
    refine lv_istore (lv' := [(5, .int (nI 0)), (4, .int (nI (z / (pn - k)))), (3, .int (nI 2)), (0, .ref h), (1, .int (nI k)), (2, .int (nI z))]) hx hb dX2_leastSize_31 hl (by decide) rfl (fun ls hl => ?_)
    have L33 : ∀ (nf : Nat) (lo : Nat) (hi : Nat) (t : Nat), (2 ≤ lo ∧ lo ≤ hi ∧ hi ≤ z / (pn - k) ∧ t ≤ 32) → (hi - lo < 2 ^ (32 - t)) → (∀ y, y < lo → ¬ okS pt bn (S k) z (pn - k - 1) y) → (okS pt bn (S k) z (pn - k - 1) hi) → 32 - t < nf → ∀ (H : Heap) (locs : List Loc) (ls : Array Slot), va_P D vwCl [(h, .inr (3, [.int (nI bn), .ref hz, .ref hs, .long (lN pt), .int (nI pn)])), (hz, aI cI 62 Z), (hs, aJ cJ 63 S)] H → va_S A s.heap H locs → lv_has ls 7 [(3, .int (nI lo)), (4, .int (nI hi)), (5, .int (nI t)), (0, .ref h), (1, .int (nI k)), (2, .int (nI z))] → W p l e ({ frames := 5, cells := 0, slots := 0, locals := 120 } : Room) s m args below meth c H locs 0 0 Q (F0 m 33 ls []) := by
      intro nf
      induction nf with
      | zero => intro lo hi t i1 i2 i3 i4 hm; exact absurd hm (Nat.not_lt_zero _)
      | succ nf ih33 =>
        intro lo hi t i1 i2 i3 i4 hm33 H locs ls hP hS hl
        refine lv_iload hx hb dX2_leastSize_33 (lv_at hl 2 rfl) ?_
        refine lv_bipush (v := nI 32) hx hb dX2_leastSize_35 (by decide) ?_
        refine zi_ge (tgt := 86) hx hb dX2_leastSize_37 (by decide) (by omega) (by omega) (fun c37 => ?_) (fun c37 => ?_)
        · refine lv_iload_n hx hb dX2_leastSize_86 rfl (lv_at hl 0 rfl) ?_
          exact hret _ _ _ _ _ hS (⟨lo, rfl, ⟨by rw [show lo = hi by rw [show 32 - t = 0 by omega] at i2; omega]; exact i4, i3⟩, by omega⟩) dX2_leastSize_87
        · refine lv_iload_n hx hb dX2_leastSize_40 rfl (lv_at hl 0 rfl) ?_
          refine lv_iload hx hb dX2_leastSize_41 (lv_at hl 1 rfl) ?_
          refine zi_ge (tgt := 86) hx hb dX2_leastSize_43 (by decide) (by omega) (by omega) (fun c43 => ?_) (fun c43 => ?_)
          · refine lv_iload_n hx hb dX2_leastSize_86 rfl (lv_at hl 0 rfl) ?_
            exact hret _ _ _ _ _ hS (⟨lo, rfl, ⟨by rw [show lo = hi by omega]; exact i4, i3⟩, by omega⟩) dX2_leastSize_87
          · refine lv_iload_n hx hb dX2_leastSize_46 rfl (lv_at hl 0 rfl) ?_
            refine lv_iload hx hb dX2_leastSize_47 (lv_at hl 1 rfl) ?_
            refine zi_add hx hb dX2_leastSize_49  ?_
            refine lv_iconst (v := nI 2) hx hb dX2_leastSize_50 (by decide) ?_
            refine zi_div hx hb dX2_leastSize_51 (by omega) (by omega) (by omega) ?_
            refine lv_istore (lv' := [(6, .int (nI ((lo + hi) / 2))), (3, .int (nI lo)), (4, .int (nI hi)), (5, .int (nI t)), (0, .ref h), (1, .int (nI k)), (2, .int (nI z))]) hx hb dX2_leastSize_52 hl (by decide) rfl (fun ls hl => ?_)
            have hmr := mean_room (x := (lo + hi) / 2) (z := z) (n := pn - k - 1) (by rw [hn1]; omega) (by omega)
            refine lv_aload_n hx hb dX2_leastSize_54 rfl (lv_at hl 4 rfl) ?_
            refine lv_iload_n hx hb dX2_leastSize_55 rfl (lv_at hl 5 rfl) ?_
            refine lv_iload hx hb dX2_leastSize_56 (lv_at hl 0 rfl) ?_
            refine lv_iload_n hx hb dX2_leastSize_58 rfl (lv_at hl 6 rfl) ?_
            refine lv_iload hx hb dX2_leastSize_59 (lv_at hl 0 rfl) ?_
            refine zi_sub hx hb dX2_leastSize_61 (by omega) ?_
            refine RO_i.callV (rest := []) (c_X2_isEnough l D cI cJ h hz hs bn pt pn Z S k ((lo + hi) / 2) (z - (lo + hi) / 2) (by omega) hpn hbn (by omega) (by omega) hSk hpt) ⟨hx, hb, hml, hown, hts⟩ (cwV 3 hts gX2_leastSize_X2_isEnough rfl rfl rfl (by decide +kernel) ⟨Nat.le_of_ble_eq_true rfl, Nat.le_of_ble_eq_true rfl⟩) hK hP hS hA [0, 1, 2] [0, 1] rfl rfl 0 3 rfl rfl rfl rfl hl.1 rfl (Nat.le_of_ble_eq_true rfl) dX2_leastSize_62 ⟨Nat.zero_le _, Nat.zero_le _⟩ (fun v2_ H locs e2_ hP hS => ?_)
            obtain rfl : v2_ = bI (z - (lo + hi) / 2 ≤ (pn - k - 1) * bn ∧ pt ≤ S k * ((lo + hi) / 2) * wide (z - (lo + hi) / 2) (pn - k - 1)) := e2_
            refine zb_eq (tgt := 75) hx hb dX2_leastSize_65 (by decide) (fun c65 => ?_) (fun c65 => ?_)
            · have hno : ¬ okS pt bn (S k) z (pn - k - 1) ((lo + hi) / 2) := fun o => c65 ⟨o.2.2.2.1, o.2.2.2.2⟩
              refine lv_iload hx hb dX2_leastSize_75 (lv_at hl 0 rfl) ?_
              refine lv_iconst (v := nI 1) hx hb dX2_leastSize_77 (by decide) ?_
              refine zi_add hx hb dX2_leastSize_78  ?_
              refine lv_istore_n (lv' := [(3, .int (nI (((lo + hi) / 2) + 1))), (6, .int (nI ((lo + hi) / 2))), (4, .int (nI hi)), (5, .int (nI t)), (0, .ref h), (1, .int (nI k)), (2, .int (nI z))]) hx hb dX2_leastSize_79 rfl hl (by decide) rfl (fun ls hl => ?_)
              refine lv_iinc (v := nI (t + 1)) (lv' := [(5, .int (nI (t + 1))), (3, .int (nI (((lo + hi) / 2) + 1))), (6, .int (nI ((lo + hi) / 2))), (4, .int (nI hi)), (0, .ref h), (1, .int (nI k)), (2, .int (nI z))]) hx hb dX2_leastSize_80 hl (k := 3) rfl (by rw [show Int32.ofInt 1 = nI 1 by decide, nI_add]) (by decide) rfl (fun ls hl => ?_)
              refine lv_goto (tgt := 33) hx hb dX2_leastSize_83 (by decide) ?_
              have h32 := half32 (t := t) (by omega)
              exact ih33 (((lo + hi) / 2) + 1) hi (t + 1) (by omega) (by omega) (fun y hy ho => hno (okS_ups (by omega) (by rw [hn1]; omega) (show y ≤ (lo + hi) / 2 by omega) ho)) (i4) (by omega) _ _ _ hP hS (lv_sub hl [1, 3, 0, 4, 5, 6] rfl)
            · have hyes : okS pt bn (S k) z (pn - k - 1) ((lo + hi) / 2) := ⟨by omega, hmr.1, hmr.2, c65.1, c65.2⟩
              refine lv_iload hx hb dX2_leastSize_68 (lv_at hl 0 rfl) ?_
              refine lv_istore (lv' := [(4, .int (nI ((lo + hi) / 2))), (6, .int (nI ((lo + hi) / 2))), (3, .int (nI lo)), (5, .int (nI t)), (0, .ref h), (1, .int (nI k)), (2, .int (nI z))]) hx hb dX2_leastSize_70 hl (by decide) rfl (fun ls hl => ?_)
              refine lv_goto (tgt := 80) hx hb dX2_leastSize_72 (by decide) ?_
              refine lv_iinc (v := nI (t + 1)) (lv' := [(5, .int (nI (t + 1))), (4, .int (nI ((lo + hi) / 2))), (6, .int (nI ((lo + hi) / 2))), (3, .int (nI lo)), (0, .ref h), (1, .int (nI k)), (2, .int (nI z))]) hx hb dX2_leastSize_80 hl (k := 3) rfl (by rw [show Int32.ofInt 1 = nI 1 by decide, nI_add]) (by decide) rfl (fun ls hl => ?_)
              refine lv_goto (tgt := 33) hx hb dX2_leastSize_83 (by decide) ?_
              have h32 := half32 (t := t) (by omega)
              exact ih33 lo ((lo + hi) / 2) (t + 1) (by omega) (by omega) (i3) (hyes) (by omega) _ _ _ hP hS (lv_sub hl [3, 1, 0, 4, 5, 6] rfl)
    exact L33 _ 2 (z / (pn - k)) 0 (by omega) (Nat.lt_of_le_of_lt (show z / (pn - k) - 2 ≤ 2147483648 by omega) (by decide)) (fun y hy ho => absurd ho.1 (by omega)) (hmn) (Nat.lt_succ_self _) _ _ _ hP hS (lv_sub hl [2, 1, 0, 3, 4, 5] rfl)
  · refine lv_iload hx hb dX2_leastSize_27 (lv_at hl 0 rfl) ?_
    exact hret _ _ _ _ _ hS (⟨z / (pn - k), rfl, by rw [show pn - k = 1 by omega, Nat.div_one]; exact isSize_last (by omega) (by rw [show pn - k = 1 by omega] at hfe; exact hfe), Nat.le_refl _⟩) dX2_leastSize_29
set_option maxHeartbeats 4000000 in
set_option maxRecDepth 100000 in
/-- leastSum -/
theorem c_X2_leastSum (l : Launch) (D : va_G) (cI cJ : ClassId) (h hz hs bn pt pn : Nat) (Z S : Nat → Nat) (hpn : pn ≤ 62) (hbn : 2 ≤ bn ∧ bn ≤ 65536) (hpt : pt ≤ 4611686018427387904) (he : isExp bn pt pn) : RO_i l yX2_leastSum wsX2_leastSum ({ frames := 4, cells := 0, slots := 0, locals := 102 } : Room) D [(h, .inr (3, [.int (nI bn), .ref hz, .ref hs, .long (lN pt), .int (nI pn)])), (hz, aI cI 62 Z), (hs, aJ cJ 63 S)] [(cI, .int), (cJ, .long)] [.ref h] (fun v => ∃ z, v = nI z ∧ isSum pt pn z ∧ z ≤ pn * bn) := by
  refine RO_i.of (cc := cX2_leastSum) (maxL := 4) (by decide) rfl (Nat.le_of_ble_eq_true rfl) ?_
  intro p e s m args below meth c ls A Q hx hb hml hts hown hA hP hK hl hret
  have hown : s.vm.findClass RX2 = some m.cls := hown
  have hl : lv_has ls 4 [(0, .ref h)] := hl
  have hS : va_S A s.heap s.heap [] := va_S.rf
  have hinX2 : ∀ w ∈ wsX20, w ∈ wsX2_leastSum := by decide +kernel
  refine lv_aload_n hx hb dX2_leastSum_0 rfl (lv_at hl 0 rfl) ?_
  refine va_get (D := D) (ci := 3) (v := .long (lN pt)) (C := RX2) (T := TX2) (N := 5) hx hb hts hinX2 hown hK hP 0 rfl rfl 3 (by decide) (hts (.fieldLink RX2 23 "PassSearch$Plan" "points" "J") (by decide +kernel)) (fun _ h9 => h9) rfl dX2_leastSum_1 ?_
  refine lv_aload_n hx hb dX2_leastSum_4 rfl (lv_at hl 0 rfl) ?_
  refine va_get (D := D) (ci := 3) (v := .int (nI pn)) (C := RX2) (T := TX2) (N := 5) hx hb hts hinX2 hown hK hP 0 rfl rfl 4 (by decide) (hts (.fieldLink RX2 27 "PassSearch$Plan" "passCount" "I") (by decide +kernel)) (fun _ h9 => h9) rfl dX2_leastSum_5 ?_
  refine lv_aload_n hx hb dX2_leastSum_8 rfl (lv_at hl 0 rfl) ?_
  refine va_get (D := D) (ci := 3) (v := .int (nI bn)) (C := RX2) (T := TX2) (N := 5) hx hb hts hinX2 hown hK hP 0 rfl rfl 0 (by decide) (hts (.fieldLink RX2 19 "PassSearch$Plan" "bins" "I") (by decide +kernel)) (fun _ h9 => h9) rfl dX2_leastSum_9 ?_
  refine z_i2l hx hb dX2_leastSum_12 (by omega) ?_
  refine RO_l.callS (rest := []) (c_X3_leastBase l D pt pn bn hpt (by omega) (by omega) (by omega)) ⟨hx, hb, hml, hown, hts⟩ (va_cwS 3 hts gX2_leastSum_X3_leastBase rfl rfl rfl (by decide +kernel) ⟨Nat.le_of_ble_eq_true rfl, Nat.le_of_ble_eq_true rfl⟩) hK hP hS hA [] [] rfl rfl rfl hl.1 rfl (Nat.le_of_ble_eq_true rfl) dX2_leastSum_13 ⟨Nat.zero_le _, Nat.zero_le _⟩ (fun v1_ H locs e1_ hP hS => ?_)
  obtain ⟨xb, rfl, hxb⟩ := e1_
  have hxb2 : xb ≤ bn := isBase_le hxb hbn.1 he.1
  have hxm : xb * pn ≤ pn * bn := by rw [Nat.mul_comm]; exact Nat.mul_le_mul_left pn hxb2
  have hxl : pn * bn ≤ 62 * 65536 := Nat.mul_le_mul hpn hbn.2
  have hxp : 2 * pn ≤ xb * pn := Nat.mul_le_mul_right pn hxb.1
  refine z_l2i hx hb dX2_leastSum_16 ?_
  refine lv_istore_n (lv' := [(1, .int (nI xb)), (0, .ref h)]) hx hb dX2_leastSum_17 rfl hl (by decide) rfl (fun ls hl => ?_)
  refine lv_iload_n hx hb dX2_leastSum_18 rfl (lv_at hl 0 rfl) ?_
  refine lv_aload_n hx hb dX2_leastSum_19 rfl (lv_at hl 1 rfl) ?_
  refine va_get (D := D) (ci := 3) (v := .int (nI pn)) (C := RX2) (T := TX2) (N := 5) hx hb hts hinX2 hown hK hP 0 rfl rfl 4 (by decide) (hts (.fieldLink RX2 27 "PassSearch$Plan" "passCount" "I") (by decide +kernel)) (fun _ h9 => h9) rfl dX2_leastSum_20 ?_
  refine zi_mul hx hb dX2_leastSum_23  ?_
  refine lv_istore_n (lv' := [(2, .int (nI (xb * pn))), (1, .int (nI xb)), (0, .ref h)]) hx hb dX2_leastSum_24 rfl hl (by decide) rfl (fun ls hl => ?_)
  refine lv_iconst (v := nI 2) hx hb dX2_leastSum_25 (by decide) ?_
  refine lv_aload_n hx hb dX2_leastSum_26 rfl (lv_at hl 2 rfl) ?_
  refine va_get (D := D) (ci := 3) (v := .int (nI pn)) (C := RX2) (T := TX2) (N := 5) hx hb hts hinX2 hown hK hP 0 rfl rfl 4 (by decide) (hts (.fieldLink RX2 27 "PassSearch$Plan" "passCount" "I") (by decide +kernel)) (fun _ h9 => h9) rfl dX2_leastSum_27 ?_
  refine zi_mul hx hb dX2_leastSum_30  ?_
  refine lv_iload_n hx hb dX2_leastSum_31 rfl (lv_at hl 0 rfl) ?_
  refine lv_aload_n hx hb dX2_leastSum_32 rfl (lv_at hl 2 rfl) ?_
  refine va_get (D := D) (ci := 3) (v := .int (nI pn)) (C := RX2) (T := TX2) (N := 5) hx hb hts hinX2 hown hK hP 0 rfl rfl 4 (by decide) (hts (.fieldLink RX2 27 "PassSearch$Plan" "passCount" "I") (by decide +kernel)) (fun _ h9 => h9) rfl dX2_leastSum_33 ?_
  refine zi_sub hx hb dX2_leastSum_36 (by omega) ?_
  refine va_mmax hx hb (hml.trans hl.1.symm) hown (hts (.methodLink RX2 59 Lib.Math.max.name) (by decide +kernel)) (hts (.static Lib.Math.max.name) (by decide +kernel)) (hts (.initialized "java/lang/Math") (by decide +kernel)) (hts _ (List.mem_of_getElem? (i := 7) rfl)) (Nat.le_of_ble_eq_true rfl) (Nat.le_of_ble_eq_true rfl) (Nat.zero_le _) (Nat.zero_le _) dX2_leastSum_37 ?_
  refine lv_topi (fun vm_ em_ => ?_)
  obtain rfl : vm_ = nI (max (2 * pn) ((xb * pn) - pn)) := em_.trans (z_max _ _ (by omega) (by omega))
  refine lv_istore_n (lv' := [(3, .int (nI (max (2 * pn) ((xb * pn) - pn)))), (2, .int (nI (xb * pn))), (1, .int (nI xb)), (0, .ref h)]) hx hb dX2_leastSum_40 rfl hl (by decide) rfl (fun ls hl => ?_)
  have L41 : ∀ (nf : Nat) (z : Nat), (2 * pn ≤ z ∧ z ≤ xb * pn) → (∀ y, 2 * pn ≤ y → y < z → wide y pn < pt) → xb * pn - z < nf → ∀ (H : Heap) (locs : List Loc) (ls : Array Slot), va_P D vwCl [(h, .inr (3, [.int (nI bn), .ref hz, .ref hs, .long (lN pt), .int (nI pn)])), (hz, aI cI 62 Z), (hs, aJ cJ 63 S)] H → va_S A s.heap H locs → lv_has ls 4 [(3, .int (nI z)), (2, .int (nI (xb * pn))), (1, .int (nI xb)), (0, .ref h)] → W p l e ({ frames := 4, cells := 0, slots := 0, locals := 102 } : Room) s m args below meth c H locs 0 0 Q (F0 m 41 ls []) := by
    intro nf
    induction nf with
    | zero => intro z i1 i2 hm; exact absurd hm (Nat.not_lt_zero _)
    | succ nf ih41 =>
      intro z i1 i2 hm41 H locs ls hP hS hl
      refine lv_iload_n hx hb dX2_leastSum_41 rfl (lv_at hl 0 rfl) ?_
      refine lv_iload_n hx hb dX2_leastSum_42 rfl (lv_at hl 1 rfl) ?_
      refine zi_ge (tgt := 68) hx hb dX2_leastSum_43 (by decide) (by omega) (by omega) (fun c43 => ?_) (fun c43 => ?_)
      · refine lv_iload_n hx hb dX2_leastSum_68 rfl (lv_at hl 0 rfl) ?_
        exact hret _ _ _ _ _ hS (⟨z, rfl, ⟨i1.1, by rw [show z = xb * pn by omega]; exact wide_base (hxb.2.2.2 hxb2), i2⟩, by omega⟩) dX2_leastSum_69
      · have hp1 : 1 ≤ pn := by
          rcases Nat.eq_zero_or_pos pn with g | g
          · rw [g, Nat.mul_zero] at c43; omega
          · exact g
        refine lv_iload_n hx hb dX2_leastSum_46 rfl (lv_at hl 0 rfl) ?_
        refine lv_aload_n hx hb dX2_leastSum_47 rfl (lv_at hl 3 rfl) ?_
        refine va_get (D := D) (ci := 3) (v := .int (nI pn)) (C := RX2) (T := TX2) (N := 5) hx hb hts hinX2 hown hK hP 0 rfl rfl 4 (by decide) (hts (.fieldLink RX2 27 "PassSearch$Plan" "passCount" "I") (by decide +kernel)) (fun _ h9 => h9) rfl dX2_leastSum_48 ?_
        refine RO_l.callS (rest := []) (c_X3_widestProduct l D z pn hp1 (by omega) (by omega)) ⟨hx, hb, hml, hown, hts⟩ (va_cwS 2 hts gX2_leastSum_X3_widestProduct rfl rfl rfl (by decide +kernel) ⟨Nat.le_of_ble_eq_true rfl, Nat.le_of_ble_eq_true rfl⟩) hK hP hS hA [] [] rfl rfl rfl hl.1 rfl (Nat.le_of_ble_eq_true rfl) dX2_leastSum_51 ⟨Nat.zero_le _, Nat.zero_le _⟩ (fun v2_ H locs e2_ hP hS => ?_)
        obtain rfl : v2_ = lN (sat (wide z pn)) := e2_
        refine lv_aload_n hx hb dX2_leastSum_54 rfl (lv_at hl 3 rfl) ?_
        refine va_get (D := D) (ci := 3) (v := .long (lN pt)) (C := RX2) (T := TX2) (N := 5) hx hb hts hinX2 hown hK hP 0 rfl rfl 3 (by decide) (hts (.fieldLink RX2 23 "PassSearch$Plan" "points" "J") (by decide +kernel)) (fun _ h9 => h9) rfl dX2_leastSum_55 ?_
        refine zl_ge (tgt := 68) hx hb dX2_leastSum_58 dX2_leastSum_59 (by decide) (sat_lt _) (by omega) (fun c58 => ?_) (fun c58 => ?_)
        · refine lv_iload_n hx hb dX2_leastSum_68 rfl (lv_at hl 0 rfl) ?_
          exact hret _ _ _ _ _ hS (⟨z, rfl, ⟨i1.1, (le_sat hpt).mp c58, i2⟩, by omega⟩) dX2_leastSum_69
        · refine lv_iinc (v := nI (z + 1)) (lv' := [(3, .int (nI (z + 1))), (2, .int (nI (xb * pn))), (1, .int (nI xb)), (0, .ref h)]) hx hb dX2_leastSum_62 hl (k := 0) rfl (by rw [show Int32.ofInt 1 = nI 1 by decide, nI_add]) (by decide) rfl (fun ls hl => ?_)
          refine lv_goto (tgt := 41) hx hb dX2_leastSum_65 (by decide) ?_
          exact ih41 (z + 1) (by omega) (fun y h1 h2 => if h3 : y < z then i2 y h1 h3 else by rw [show y = z by omega]; exact (sat_lt_iff hpt).mp c58) (by omega) _ _ _ hP hS (lv_sub hl [0, 1, 2, 3] rfl)
  exact L41 _ (max (2 * pn) ((xb * pn) - pn)) (by omega) (sum_start hxb) (Nat.lt_succ_self _) _ _ _ hP hS (lv_sub hl [0, 1, 2, 3] rfl)
set_option maxHeartbeats 4000000 in
set_option maxRecDepth 100000 in
/-- lay: the plan for q points -/
theorem c_X2_lay (l : Launch) (D : va_G) (cI cJ : ClassId) (h hz hs bn pt pn : Nat) (Z S : Nat → Nat) (q : Nat) (hbn : 2 ≤ bn ∧ bn ≤ 65536) (hq : q ≤ 4611686018427387904) : WR_v l yX2_lay wsX2_lay ({ frames := 6, cells := 0, slots := 0, locals := 146 } : Room) D [(h, .inr (3, [.int (nI bn), .ref hz, .ref hs, .long (lN pt), .int (nI pn)])), (hz, aI cI 62 Z), (hs, aJ cJ 63 S)] [(cI, .int), (cJ, .long)] [.ref h, .long (lN q)] (fun (u : Nat × (Nat → Nat) × (Nat → Nat)) => [(h, .inr (3, [.int (nI bn), .ref hz, .ref hs, .long (lN q), .int (nI u.1)])), (hz, aI cI 62 u.2.1), (hs, aJ cJ 63 u.2.2)]) (fun u => isPlan bn q u.1 u.2.1 u.2.2) 0 0 := by
  refine WR_v.of (cc := cX2_lay) (maxL := 5) (by decide) rfl (Nat.le_of_ble_eq_true rfl) ?_
  intro p e s m args below meth c ls A Q hx hb hml hts hown hA hP hD hK hl hin hret
  have hown : s.vm.findClass RX2 = some m.cls := hown
  have hl : lv_has ls 5 [(0, .ref h), (1, .long (lN q))] := hl
  have hS : va_S A s.heap s.heap [] := va_S.rf
  have hinX2 : ∀ w ∈ wsX20, w ∈ wsX2_lay := by decide +kernel
  refine lv_aload_n hx hb dX2_lay_0 rfl (lv_at hl 0 rfl) ?_
  refine lv_lload_n hx hb dX2_lay_1 rfl (lv_at hl 1 rfl) ?_
  refine va_put (D := D) (ci := 3) (v := .long (lN q)) (ty := .long) (C := RX2) (T := TX2) (N := 5) hx hb hts hinX2 tyX2 tyX2_ok nmX2 hown hK hP hD hS 0 rfl rfl 3 (by decide) (hts (.fieldLink RX2 23 "PassSearch$Plan" "points" "J") (by decide +kernel)) (fun _ h9 => h9) rfl (by decide +kernel) rfl rfl (Nat.le_of_ble_eq_true rfl) dX2_lay_2 (fun H locs hP hD hS => ?_)
  have hP : va_P D vwCl [(h, .inr (3, [.int (nI bn), .ref hz, .ref hs, .long (lN q), .int (nI pn)])), (hz, aI cI 62 Z), (hs, aJ cJ 63 S)] H := hP
  have hD : va_D A [(h, .inr (3, [.int (nI bn), .ref hz, .ref hs, .long (lN q), .int (nI pn)])), (hz, aI cI 62 Z), (hs, aJ cJ 63 S)] := hD
  refine lv_aload_n hx hb dX2_lay_5 rfl (lv_at hl 0 rfl) ?_
  refine lv_aload_n hx hb dX2_lay_6 rfl (lv_at hl 0 rfl) ?_
  refine va_get (D := D) (ci := 3) (v := .int (nI bn)) (C := RX2) (T := TX2) (N := 5) hx hb hts hinX2 hown hK hP 0 rfl rfl 0 (by decide) (hts (.fieldLink RX2 19 "PassSearch$Plan" "bins" "I") (by decide +kernel)) (fun _ h9 => h9) rfl dX2_lay_7 ?_
  refine z_i2l hx hb dX2_lay_10 (by omega) ?_
  refine lv_lload_n hx hb dX2_lay_11 rfl (lv_at hl 1 rfl) ?_
  refine RO_i.callS (rest := [.ref h]) (c_X3_leastExponent l D bn q hbn.1 (by omega) hq) ⟨hx, hb, hml, hown, hts⟩ (va_cwS 2 hts gX2_lay_X3_leastExponent rfl rfl rfl (by decide +kernel) ⟨Nat.le_of_ble_eq_true rfl, Nat.le_of_ble_eq_true rfl⟩) hK hP hS hA [] [] rfl rfl rfl hl.1 rfl (Nat.le_of_ble_eq_true rfl) dX2_lay_12 ⟨Nat.zero_le _, Nat.zero_le _⟩ (fun v1_ H locs e1_ hP hS => ?_)
  obtain ⟨n, rfl, hn1, hn2⟩ := e1_
  refine va_put (D := D) (ci := 3) (v := .int (nI n)) (ty := .int) (C := RX2) (T := TX2) (N := 5) hx hb hts hinX2 tyX2 tyX2_ok nmX2 hown hK hP hD hS 0 rfl rfl 4 (by decide) (hts (.fieldLink RX2 27 "PassSearch$Plan" "passCount" "I") (by decide +kernel)) (fun _ h9 => h9) rfl (by decide +kernel) rfl rfl (Nat.le_of_ble_eq_true rfl) dX2_lay_15 (fun H locs hP hD hS => ?_)
  have hP : va_P D vwCl [(h, .inr (3, [.int (nI bn), .ref hz, .ref hs, .long (lN q), .int (nI n)])), (hz, aI cI 62 Z), (hs, aJ cJ 63 S)] H := hP
  have hD : va_D A [(h, .inr (3, [.int (nI bn), .ref hz, .ref hs, .long (lN q), .int (nI n)])), (hz, aI cI 62 Z), (hs, aJ cJ 63 S)] := hD
  refine lv_aload_n hx hb dX2_lay_18 rfl (lv_at hl 0 rfl) ?_
  refine va_get (D := D) (ci := 3) (v := .ref hs) (C := RX2) (T := TX2) (N := 5) hx hb hts hinX2 hown hK hP 0 rfl rfl 2 (by decide) (hts (.fieldLink RX2 15 "PassSearch$Plan" "spans" "[J") (by decide +kernel)) (fun _ h9 => h9) rfl dX2_lay_19 ?_
  refine lv_iconst (v := nI 0) hx hb dX2_lay_22 (by decide) ?_
  refine lv_lconst (v := lN 1) hx hb dX2_lay_23 (by decide) ?_
  refine zl_ast hx hb hK hP hD hS 2 1 rfl rfl (k := 0) (x := 1) (by omega) (by omega) dX2_lay_24 (fun H locs hP hD hS => ?_)
  have hP : va_P D vwCl [(h, .inr (3, [.int (nI bn), .ref hz, .ref hs, .long (lN q), .int (nI n)])), (hz, aI cI 62 Z), (hs, aJ cJ 63 (uF S 0 1))] H := hP
  have hD : va_D A [(h, .inr (3, [.int (nI bn), .ref hz, .ref hs, .long (lN q), .int (nI n)])), (hz, aI cI 62 Z), (hs, aJ cJ 63 (uF S 0 1))] := hD
  refine lv_aload_n hx hb dX2_lay_25 rfl (lv_at hl 0 rfl) ?_
  refine RO_i.callV (rest := []) (c_X2_leastSum l D cI cJ h hz hs bn q n Z (uF S 0 1) hn1 hbn hq hn2) ⟨hx, hb, hml, hown, hts⟩ (cwV 0 hts gX2_lay_X2_leastSum rfl rfl rfl (by decide +kernel) ⟨Nat.le_of_ble_eq_true rfl, Nat.le_of_ble_eq_true rfl⟩) hK hP hS hA [0, 1, 2] [0, 1] rfl rfl 0 3 rfl rfl rfl rfl hl.1 rfl (Nat.le_of_ble_eq_true rfl) dX2_lay_26 ⟨Nat.zero_le _, Nat.zero_le _⟩ (fun v2_ H locs e2_ hP hS => ?_)
  obtain ⟨z0, rfl, hz1, hz2⟩ := e2_
  refine lv_istore_n (lv' := [(3, .int (nI z0)), (0, .ref h), (1, .long (lN q))]) hx hb dX2_lay_29 rfl hl (by decide) rfl (fun ls hl => ?_)
  refine lv_iconst (v := nI 0) hx hb dX2_lay_30 (by decide) ?_
  refine lv_istore (lv' := [(4, .int (nI 0)), (3, .int (nI z0)), (0, .ref h), (1, .long (lN q))]) hx hb dX2_lay_31 hl (by decide) rfl (fun ls hl => ?_)
  have L33 : ∀ (nf : Nat) (k : Nat) (z : Nat) (Z : Nat → Nat) (S : Nat → Nat), (k ≤ n) → (preP bn q n Z S k z) → n - k < nf → ∀ (H : Heap) (locs : List Loc) (ls : Array Slot), va_P D vwCl [(h, .inr (3, [.int (nI bn), .ref hz, .ref hs, .long (lN q), .int (nI n)])), (hz, aI cI 62 Z), (hs, aJ cJ 63 S)] H → va_D A [(h, .inr (3, [.int (nI bn), .ref hz, .ref hs, .long (lN q), .int (nI n)])), (hz, aI cI 62 Z), (hs, aJ cJ 63 S)] → va_S A s.heap H locs → lv_has ls 5 [(4, .int (nI k)), (3, .int (nI z)), (0, .ref h), (1, .long (lN q))] → W p l e ({ frames := 6, cells := 0, slots := 0, locals := 146 } : Room) s m args below meth c H locs 0 0 Q (F0 m 33 ls []) := by
    intro nf
    induction nf with
    | zero => intro k z Z S i1 i2 hm; exact absurd hm (Nat.not_lt_zero _)
    | succ nf ih33 =>
      intro k z Z S i1 i2 hm33 H locs ls hP hD hS hl
      refine lv_iload hx hb dX2_lay_33 (lv_at hl 0 rfl) ?_
      refine lv_aload_n hx hb dX2_lay_35 rfl (lv_at hl 2 rfl) ?_
      refine va_get (D := D) (ci := 3) (v := .int (nI n)) (C := RX2) (T := TX2) (N := 5) hx hb hts hinX2 hown hK hP 0 rfl rfl 4 (by decide) (hts (.fieldLink RX2 27 "PassSearch$Plan" "passCount" "I") (by decide +kernel)) (fun _ h9 => h9) rfl dX2_lay_36 ?_
      refine zi_ge (tgt := 97) hx hb dX2_lay_39 (by decide) (by omega) (by omega) (fun c39 => ?_) (fun c39 => ?_)
      · exact hret ((n, Z, S)) _ _ _ _ hP hD hS (⟨hn1, hn2, z, by rw [show k = n by omega] at i2; exact i2⟩) dX2_lay_97
      · have hfa := i2.2.2
        have hxl : (n - k) * bn ≤ 62 * 65536 := Nat.mul_le_mul (by omega) hbn.2
        refine lv_aload_n hx hb dX2_lay_42 rfl (lv_at hl 2 rfl) ?_
        refine va_get (D := D) (ci := 3) (v := .ref hz) (C := RX2) (T := TX2) (N := 5) hx hb hts hinX2 hown hK hP 0 rfl rfl 1 (by decide) (hts (.fieldLink RX2 9 "PassSearch$Plan" "sizes" "[I") (by decide +kernel)) (fun _ h9 => h9) rfl dX2_lay_43 ?_
        refine lv_iload hx hb dX2_lay_46 (lv_at hl 0 rfl) ?_
        refine lv_aload_n hx hb dX2_lay_48 rfl (lv_at hl 2 rfl) ?_
        refine lv_iload hx hb dX2_lay_49 (lv_at hl 0 rfl) ?_
        refine lv_iload_n hx hb dX2_lay_51 rfl (lv_at hl 1 rfl) ?_
        refine RO_i.callV (rest := [.int (nI k), .ref hz]) (c_X2_leastSize l D cI cJ h hz hs bn q n Z S k z (by omega) hn1 hbn.2 ⟨hfa.2.1, hfa.2.2.1⟩ ⟨(hfa.1 k (Nat.le_refl _)).1, preP_small i2 (by omega)⟩ hq hfa.2.2.2.1) ⟨hx, hb, hml, hown, hts⟩ (cwV 2 hts gX2_lay_X2_leastSize rfl rfl rfl (by decide +kernel) ⟨Nat.le_of_ble_eq_true rfl, Nat.le_of_ble_eq_true rfl⟩) hK hP hS hA [0, 1, 2] [0, 1] rfl rfl 0 3 rfl rfl rfl rfl hl.1 rfl (Nat.le_of_ble_eq_true rfl) dX2_lay_52 ⟨Nat.zero_le _, Nat.zero_le _⟩ (fun v3_ H locs e3_ hP hS => ?_)
        obtain ⟨x, rfl, hx1, hx2⟩ := e3_
        have hxz := hx1.1
        have hxa := hxz.2.1
        refine zi_ast hx hb hK hP hD hS 1 0 rfl rfl (k := k) (x := x) (by omega) (by omega) dX2_lay_55 (fun H locs hP hD hS => ?_)
        have hP : va_P D vwCl [(h, .inr (3, [.int (nI bn), .ref hz, .ref hs, .long (lN q), .int (nI n)])), (hz, aI cI 62 (uF Z k x)), (hs, aJ cJ 63 S)] H := hP
        have hD : va_D A [(h, .inr (3, [.int (nI bn), .ref hz, .ref hs, .long (lN q), .int (nI n)])), (hz, aI cI 62 (uF Z k x)), (hs, aJ cJ 63 S)] := hD
        refine lv_aload_n hx hb dX2_lay_56 rfl (lv_at hl 2 rfl) ?_
        refine va_get (D := D) (ci := 3) (v := .ref hs) (C := RX2) (T := TX2) (N := 5) hx hb hts hinX2 hown hK hP 0 rfl rfl 2 (by decide) (hts (.fieldLink RX2 15 "PassSearch$Plan" "spans" "[J") (by decide +kernel)) (fun _ h9 => h9) rfl dX2_lay_57 ?_
        refine lv_iload hx hb dX2_lay_60 (lv_at hl 0 rfl) ?_
        refine lv_iconst (v := nI 1) hx hb dX2_lay_62 (by decide) ?_
        refine zi_add hx hb dX2_lay_63  ?_
        refine lv_aload_n hx hb dX2_lay_64 rfl (lv_at hl 2 rfl) ?_
        refine va_get (D := D) (ci := 3) (v := .ref hs) (C := RX2) (T := TX2) (N := 5) hx hb hts hinX2 hown hK hP 0 rfl rfl 2 (by decide) (hts (.fieldLink RX2 15 "PassSearch$Plan" "spans" "[J") (by decide +kernel)) (fun _ h9 => h9) rfl dX2_lay_65 ?_
        refine lv_iload hx hb dX2_lay_68 (lv_at hl 0 rfl) ?_
        refine zl_ald hx hb hK hP 2 1 rfl rfl (k := k) (by omega) (by omega) dX2_lay_70 ?_
        refine lv_aload_n hx hb dX2_lay_71 rfl (lv_at hl 2 rfl) ?_
        refine va_get (D := D) (ci := 3) (v := .ref hz) (C := RX2) (T := TX2) (N := 5) hx hb hts hinX2 hown hK hP 0 rfl rfl 1 (by decide) (hts (.fieldLink RX2 9 "PassSearch$Plan" "sizes" "[I") (by decide +kernel)) (fun _ h9 => h9) rfl dX2_lay_72 ?_
        refine lv_iload hx hb dX2_lay_75 (lv_at hl 0 rfl) ?_
        refine zi_ald hx hb hK hP 1 0 rfl rfl (k := k) (by omega) (by omega) dX2_lay_77 ?_
        refine lv_topi (fun v4_ e4_ => ?_)
        obtain rfl : v4_ = nI x := e4_.trans (congrArg nI (uF_s))
        refine z_i2l hx hb dX2_lay_78 (by omega) ?_
        refine zl_mul hx hb dX2_lay_79  ?_
        refine zl_ast hx hb hK hP hD hS 2 1 rfl rfl (k := k + 1) (x := (S k) * x) (by omega) (by omega) dX2_lay_80 (fun H locs hP hD hS => ?_)
        have hP : va_P D vwCl [(h, .inr (3, [.int (nI bn), .ref hz, .ref hs, .long (lN q), .int (nI n)])), (hz, aI cI 62 (uF Z k x)), (hs, aJ cJ 63 (uF S (k + 1) ((S k) * x)))] H := hP
        have hD : va_D A [(h, .inr (3, [.int (nI bn), .ref hz, .ref hs, .long (lN q), .int (nI n)])), (hz, aI cI 62 (uF Z k x)), (hs, aJ cJ 63 (uF S (k + 1) ((S k) * x)))] := hD
        refine lv_iload_n hx hb dX2_lay_81 rfl (lv_at hl 1 rfl) ?_
        refine lv_aload_n hx hb dX2_lay_82 rfl (lv_at hl 2 rfl) ?_
        refine va_get (D := D) (ci := 3) (v := .ref hz) (C := RX2) (T := TX2) (N := 5) hx hb hts hinX2 hown hK hP 0 rfl rfl 1 (by decide) (hts (.fieldLink RX2 9 "PassSearch$Plan" "sizes" "[I") (by decide +kernel)) (fun _ h9 => h9) rfl dX2_lay_83 ?_
        refine lv_iload hx hb dX2_lay_86 (lv_at hl 0 rfl) ?_
        refine zi_ald hx hb hK hP 1 0 rfl rfl (k := k) (by omega) (by omega) dX2_lay_88 ?_
        refine lv_topi (fun v5_ e5_ => ?_)
        obtain rfl : v5_ = nI x := e5_.trans (congrArg nI (uF_s))
        refine zi_sub hx hb dX2_lay_89 (by omega) ?_
        refine lv_istore_n (lv' := [(3, .int (nI (z - x))), (4, .int (nI k)), (0, .ref h), (1, .long (lN q))]) hx hb dX2_lay_90 rfl hl (by decide) rfl (fun ls hl => ?_)
        refine lv_iinc (v := nI (k + 1)) (lv' := [(4, .int (nI (k + 1))), (3, .int (nI (z - x))), (0, .ref h), (1, .long (lN q))]) hx hb dX2_lay_91 hl (k := 1) rfl (by rw [show Int32.ofInt 1 = nI 1 by decide, nI_add]) (by decide) rfl (fun ls hl => ?_)
        refine lv_goto (tgt := 33) hx hb dX2_lay_94 (by decide) ?_
        exact ih33 (k + 1) (z - x) (uF Z k x) (uF S (k + 1) ((S k) * x)) (by omega) (preP_step (by omega) i2 hx1 hx2) (by omega) _ _ _ hP hD hS (lv_sub hl [0, 1, 2, 3] rfl)
  exact L33 _ 0 z0 Z (uF S 0 1) (by omega) (preP_0 hbn.1 hq hn2 hz1 hz2 uF_s) (Nat.lt_succ_self _) _ _ _ hP hD hS (lv_sub hl [0, 1, 2, 3] rfl)
