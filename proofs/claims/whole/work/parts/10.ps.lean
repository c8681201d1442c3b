theorem l_of {x : Int64} (h : 0 ≤ x.toInt) : ∃ a, a < 9223372036854775808 ∧ x = lN a ∧ x.toInt = (a : Int) := by
  obtain ⟨a, ha, e⟩ := pk_lOf (x := x) (fun q => by
    rw [Int64.lt_iff_toInt_lt] at q
    have h0 : (0 : Int64).toInt = 0 := by decide
    omega)
  exact ⟨a, ha, e, by rw [e]; exact pk_lT ha⟩
theorem i_of {x : Int32} (h : 0 ≤ x.toInt) : ∃ a, a < 2147483648 ∧ x = nI a ∧ x.toInt = (a : Int) := by
  obtain ⟨a, ha, e⟩ := nI_of (x := x) (fun q => by
    rw [Int32.lt_iff_toInt_lt, z0I] at q
    omega)
  exact ⟨a, ha, e, by rw [e]; exact nI_toInt ha⟩
theorem l0T : (lN 0).toInt = 0 := by decide
theorem l1T : (lN 1).toInt = 1 := by decide
theorem lTT : (lN 4611686018427387904).toInt = 4611686018427387904 := by decide
/-- a long, an int that names a thing: n of them, if there is a plan -/
abbrev knL (pt : Nat) (x : Int64) : Prop := 0 ≤ x.toInt ∧ (pt = 0 ∨ x.toInt < (pt : Int))
abbrev knI (pt n : Nat) (y : Int32) : Prop := 0 ≤ y.toInt ∧ (pt = 0 ∨ y.toInt < (n : Int))
abbrev rnd (x : Int64) : Prop := 1 ≤ x.toInt ∧ x.toInt ≤ 4611686018427387904
/-- what the class holds of its plan -/
def xPlan (bn pt pn : Nat) (Z S : Nat → Nat) : Prop := pt ≤ 4611686018427387904 ∧ pn ≤ 62 ∧ bn ≤ 65536 ∧ (pt = 0 → pn = 0) ∧ (0 < pt → 2 ≤ bn ∧ isPlan bn pt pn Z S)
theorem plan_S {b q n k : Nat} {Z S : Nat → Nat} (h : isPlan b q n Z S) (hk : k ≤ n) : 1 ≤ S k ∧ S k < 9223372036854775808 := by
  obtain ⟨-, -, z, -, -, h1, -⟩ := h
  exact h1 k hk
theorem plan_Z {b q n k : Nat} {Z S : Nat → Nat} (h : isPlan b q n Z S) (hk : k < n) : 2 ≤ Z k ∧ Z k ≤ b ∧ S (k + 1) = S k * Z k := by
  obtain ⟨-, -, z, -, ⟨zz, -, -, h1⟩, -⟩ := h
  obtain ⟨a1, -, -, a2, a3⟩ := h1 k hk
  exact ⟨a2, a3, a1⟩
def sDigit (pt pn : Nat) (Z S : Nat → Nat) (x : Int64) (y : Int32) : Int32 := if knL pt x ∧ knI pt pn y then (if pt = 0 then -3 else nI (x.toInt.toNat / S y.toInt.toNat % Z y.toInt.toNat)) else -1
theorem isBase_one {q n mo x y : Nat} (h1 : isBase q n mo x) (h2 : isBase q n mo y) : x = y := by
  obtain ⟨a1, a2, a3, a4⟩ := h1
  obtain ⟨b1, b2, b3, b4⟩ := h2
  rcases Nat.lt_trichotomy x y with h | h | h
  · exact absurd (b3 x a1 h) (Nat.not_lt.mpr (a4 (by omega)))
  · exact h
  · exact absurd (a3 y b1 h) (Nat.not_lt.mpr (b4 (by omega)))
set_option maxHeartbeats 4000000 in
set_option maxRecDepth 100000 in
/-- isRound -/
theorem c_X4_isRound (l : Launch) (D : va_G) (x : Int64) : RO_i l yX4_isRound wsX4_isRound ({ frames := 0, cells := 0, slots := 0, locals := 0 } : Room) D [] [] [.long x] (fun v => v = bI (rnd x)) := by
  refine RO_i.ofz (cc := cX4_isRound) (maxL := 2) (by decide) rfl (Nat.le_of_ble_eq_true rfl) ?_
  intro p e s m args below meth c ls A Q hx hb hml hts hown hA hP hK hl hret
  have hown : s.vm.findClass RX4 = some m.cls := hown
  have hl : lv_has ls 2 [(0, .long x)] := hl
  have hS : va_S A s.heap s.heap [] := va_S.rf
  refine lv_lload_n hx hb dX4_isRound_0 rfl (lv_at hl 0 rfl) ?_
  refine lv_lconst (v := lN 1) hx hb dX4_isRound_1 (by decide) ?_
  refine zr_lt (tgt := 18) hx hb dX4_isRound_2 dX4_isRound_3 (by decide) (fun c2 => ?_) (fun c2 => ?_)
  · rw [l1T] at c2
    refine lv_iconst (v := nI 0) hx hb dX4_isRound_18 (by decide) ?_
    exact hret _ _ _ _ _ hS (Or.inl rfl) (bI_f' (by omega)) dX4_isRound_19
  · rw [l1T] at c2
    refine lv_lload_n hx hb dX4_isRound_6 rfl (lv_at hl 0 rfl) ?_
    refine lv_ldc2 (v := 4611686018427387904) hx hb hown (hts (.constantLong RX4 147 (4611686018427387904)) (by decide +kernel)) dX4_isRound_7 ?_
    refine W.eq (g2 := F0 m 10 ls [.long (lN 4611686018427387904), .long x]) rfl ?_
    refine zr_gt (tgt := 18) hx hb dX4_isRound_10 dX4_isRound_11 (by decide) (fun c10 => ?_) (fun c10 => ?_)
    · rw [lTT] at c10
      refine lv_iconst (v := nI 0) hx hb dX4_isRound_18 (by decide) ?_
      exact hret _ _ _ _ _ hS (Or.inl rfl) (bI_f' (by omega)) dX4_isRound_19
    · rw [lTT] at c10
      refine lv_iconst (v := nI 1) hx hb dX4_isRound_14 (by decide) ?_
      refine lv_goto (tgt := 19) hx hb dX4_isRound_15 (by decide) ?_
      exact hret _ _ _ _ _ hS (Or.inr rfl) (bI_t' (by omega)) dX4_isRound_19
set_option maxHeartbeats 4000000 in
set_option maxRecDepth 100000 in
/-- isUnknownPoint -/
theorem c_X4_isUnknownPoint (l : Launch) (D : va_G) (cI cJ : ClassId) (xo hp hi hh ht bn : Nat) (pz ps pt pn : Nat) (Z S : Nat → Nat) (x : Int64) (hpt : pt ≤ 4611686018427387904) : RO_i l yX4_isUnknownPoint wsX4_isUnknownPoint ({ frames := 1, cells := 0, slots := 0, locals := 22 } : Room) D [(xo, .inr (4, [.int (nI bn), .ref hp, .ref hi, .ref hh, .ref ht])), (hp, .inr (3, [.int (nI bn), .ref pz, .ref ps, .long (lN pt), .int (nI pn)])), (pz, aI cI 62 Z), (ps, aJ cJ 63 S)] [(cI, .int), (cJ, .long)] [.ref xo, .long x] (fun v => v = bI (¬ knL pt x)) := by
  refine RO_i.ofz (cc := cX4_isUnknownPoint) (maxL := 3) (by decide) rfl (Nat.le_of_ble_eq_true rfl) ?_
  intro p e s m args below meth c ls A Q hx hb hml hts hown hA hP hK hl hret
  have hown : s.vm.findClass RX4 = some m.cls := hown
  have hl : lv_has ls 3 [(0, .ref xo), (1, .long x)] := hl
  have hS : va_S A s.heap s.heap [] := va_S.rf
  have hinX4 : ∀ w ∈ wsX40, w ∈ wsX4_isUnknownPoint := by decide +kernel
  refine lv_lload_n hx hb dX4_isUnknownPoint_0 rfl (lv_at hl 1 rfl) ?_
  refine lv_lconst (v := lN 0) hx hb dX4_isUnknownPoint_1 (by decide) ?_
  refine zr_lt (tgt := 27) hx hb dX4_isUnknownPoint_2 dX4_isUnknownPoint_3 (by decide) (fun c2 => ?_) (fun c2 => ?_)
  · rw [l0T] at c2
    refine lv_iconst (v := nI 1) hx hb dX4_isUnknownPoint_27 (by decide) ?_
    refine lv_goto (tgt := 32) hx hb dX4_isUnknownPoint_28 (by decide) ?_
    exact hret _ _ _ _ _ hS (Or.inr rfl) (bI_t' (by omega)) dX4_isUnknownPoint_32
  · rw [l0T] at c2
    obtain ⟨a, ha, rfl, hxa⟩ := l_of c2
    refine lv_aload_n hx hb dX4_isUnknownPoint_6 rfl (lv_at hl 0 rfl) ?_
    refine va_get (D := D) (ci := 4) (v := .ref hp) (C := RX4) (T := TX4) (N := 5) hx hb hts hinX4 hown hK hP 0 rfl rfl 1 (by decide) (hts (.fieldLink RX4 28 "PassSearch" "plan" "LPassSearch$Plan;") (by decide +kernel)) (fun _ h9 => h9) rfl dX4_isUnknownPoint_7 ?_
    refine RO_i.callV (rest := []) (c_X2_isLaid l D cI cJ hp pz ps bn pt pn Z S (by omega)) ⟨hx, hb, hml, hown, hts⟩ (cwV 0 hts gX4_isUnknownPoint_X2_isLaid rfl rfl rfl (by decide +kernel) ⟨Nat.le_of_ble_eq_true rfl, Nat.le_of_ble_eq_true rfl⟩) hK hP hS hA [1, 2, 3] [0, 1] rfl rfl 1 3 rfl rfl rfl rfl hl.1 rfl (Nat.le_of_ble_eq_true rfl) dX4_isUnknownPoint_10 ⟨Nat.zero_le _, Nat.zero_le _⟩ (fun v1_ H locs e1_ hP hS => ?_)
    obtain rfl : v1_ = bI (0 < pt) := e1_
    refine zb_eq (tgt := 31) hx hb dX4_isUnknownPoint_13 (by decide) (fun c13 => ?_) (fun c13 => ?_)
    · refine lv_iconst (v := nI 0) hx hb dX4_isUnknownPoint_31 (by decide) ?_
      exact hret _ _ _ _ _ hS (Or.inl rfl) (bI_f' (by omega)) dX4_isUnknownPoint_32
    · refine lv_aload_n hx hb dX4_isUnknownPoint_16 rfl (lv_at hl 0 rfl) ?_
      refine va_get (D := D) (ci := 4) (v := .ref hp) (C := RX4) (T := TX4) (N := 5) hx hb hts hinX4 hown hK hP 0 rfl rfl 1 (by decide) (hts (.fieldLink RX4 28 "PassSearch" "plan" "LPassSearch$Plan;") (by decide +kernel)) (fun _ h9 => h9) rfl dX4_isUnknownPoint_17 ?_
      refine lv_lload_n hx hb dX4_isUnknownPoint_20 rfl (lv_at hl 1 rfl) ?_
      refine RO_i.callV (rest := []) (c_X2_hasPoint l D cI cJ hp pz ps bn pt pn Z S a (by omega) (by omega)) ⟨hx, hb, hml, hown, hts⟩ (cwV 1 hts gX4_isUnknownPoint_X2_hasPoint rfl rfl rfl (by decide +kernel) ⟨Nat.le_of_ble_eq_true rfl, Nat.le_of_ble_eq_true rfl⟩) hK hP hS hA [1, 2, 3] [0, 1] rfl rfl 1 3 rfl rfl rfl rfl hl.1 rfl (Nat.le_of_ble_eq_true rfl) dX4_isUnknownPoint_21 ⟨Nat.zero_le _, Nat.zero_le _⟩ (fun v2_ H locs e2_ hP hS => ?_)
      obtain rfl : v2_ = bI (a < pt) := e2_
      refine zb_ne (tgt := 31) hx hb dX4_isUnknownPoint_24 (by decide) (fun c24 => ?_) (fun c24 => ?_)
      · refine lv_iconst (v := nI 0) hx hb dX4_isUnknownPoint_31 (by decide) ?_
        exact hret _ _ _ _ _ hS (Or.inl rfl) (bI_f' (by omega)) dX4_isUnknownPoint_32
      · refine lv_iconst (v := nI 1) hx hb dX4_isUnknownPoint_27 (by decide) ?_
        refine lv_goto (tgt := 32) hx hb dX4_isUnknownPoint_28 (by decide) ?_
        exact hret _ _ _ _ _ hS (Or.inr rfl) (bI_t' (by omega)) dX4_isUnknownPoint_32
set_option maxHeartbeats 4000000 in
set_option maxRecDepth 100000 in
/-- isUnknownPass -/
theorem c_X4_isUnknownPass (l : Launch) (D : va_G) (cI cJ : ClassId) (xo hp hi hh ht bn : Nat) (pz ps pt pn : Nat) (Z S : Nat → Nat) (y : Int32) (hpt : pt ≤ 4611686018427387904) (hpn : pn ≤ 62) : RO_i l yX4_isUnknownPass wsX4_isUnknownPass ({ frames := 1, cells := 0, slots := 0, locals := 21 } : Room) D [(xo, .inr (4, [.int (nI bn), .ref hp, .ref hi, .ref hh, .ref ht])), (hp, .inr (3, [.int (nI bn), .ref pz, .ref ps, .long (lN pt), .int (nI pn)])), (pz, aI cI 62 Z), (ps, aJ cJ 63 S)] [(cI, .int), (cJ, .long)] [.ref xo, .int y] (fun v => v = bI (¬ knI pt pn y)) := by
  refine RO_i.ofz (cc := cX4_isUnknownPass) (maxL := 2) (by decide) rfl (Nat.le_of_ble_eq_true rfl) ?_
  intro p e s m args below meth c ls A Q hx hb hml hts hown hA hP hK hl hret
  have hown : s.vm.findClass RX4 = some m.cls := hown
  have hl : lv_has ls 2 [(0, .ref xo), (1, .int y)] := hl
  have hS : va_S A s.heap s.heap [] := va_S.rf
  have hinX4 : ∀ w ∈ wsX40, w ∈ wsX4_isUnknownPass := by decide +kernel
  refine lv_iload_n hx hb dX4_isUnknownPass_0 rfl (lv_at hl 1 rfl) ?_
  refine zq_if_lt (tgt := 25) hx hb dX4_isUnknownPass_1 (by decide) (fun c1 => ?_) (fun c1 => ?_)
  · refine lv_iconst (v := nI 1) hx hb dX4_isUnknownPass_25 (by decide) ?_
    refine lv_goto (tgt := 30) hx hb dX4_isUnknownPass_26 (by decide) ?_
    exact hret _ _ _ _ _ hS (Or.inr rfl) (bI_t' (by omega)) dX4_isUnknownPass_30
  · refine lv_aload_n hx hb dX4_isUnknownPass_4 rfl (lv_at hl 0 rfl) ?_
    refine va_get (D := D) (ci := 4) (v := .ref hp) (C := RX4) (T := TX4) (N := 5) hx hb hts hinX4 hown hK hP 0 rfl rfl 1 (by decide) (hts (.fieldLink RX4 28 "PassSearch" "plan" "LPassSearch$Plan;") (by decide +kernel)) (fun _ h9 => h9) rfl dX4_isUnknownPass_5 ?_
    refine RO_i.callV (rest := []) (c_X2_isLaid l D cI cJ hp pz ps bn pt pn Z S (by omega)) ⟨hx, hb, hml, hown, hts⟩ (cwV 0 hts gX4_isUnknownPass_X2_isLaid rfl rfl rfl (by decide +kernel) ⟨Nat.le_of_ble_eq_true rfl, Nat.le_of_ble_eq_true rfl⟩) hK hP hS hA [1, 2, 3] [0, 1] rfl rfl 1 3 rfl rfl rfl rfl hl.1 rfl (Nat.le_of_ble_eq_true rfl) dX4_isUnknownPass_8 ⟨Nat.zero_le _, Nat.zero_le _⟩ (fun v1_ H locs e1_ hP hS => ?_)
    obtain rfl : v1_ = bI (0 < pt) := e1_
    refine zb_eq (tgt := 29) hx hb dX4_isUnknownPass_11 (by decide) (fun c11 => ?_) (fun c11 => ?_)
    · refine lv_iconst (v := nI 0) hx hb dX4_isUnknownPass_29 (by decide) ?_
      exact hret _ _ _ _ _ hS (Or.inl rfl) (bI_f' (by omega)) dX4_isUnknownPass_30
    · refine lv_aload_n hx hb dX4_isUnknownPass_14 rfl (lv_at hl 0 rfl) ?_
      refine va_get (D := D) (ci := 4) (v := .ref hp) (C := RX4) (T := TX4) (N := 5) hx hb hts hinX4 hown hK hP 0 rfl rfl 1 (by decide) (hts (.fieldLink RX4 28 "PassSearch" "plan" "LPassSearch$Plan;") (by decide +kernel)) (fun _ h9 => h9) rfl dX4_isUnknownPass_15 ?_
      refine lv_iload_n hx hb dX4_isUnknownPass_18 rfl (lv_at hl 1 rfl) ?_
      refine RO_i.callV (rest := []) (c_X2_hasPass l D cI cJ hp pz ps bn pt pn Z S y (by omega)) ⟨hx, hb, hml, hown, hts⟩ (cwV 1 hts gX4_isUnknownPass_X2_hasPass rfl rfl rfl (by decide +kernel) ⟨Nat.le_of_ble_eq_true rfl, Nat.le_of_ble_eq_true rfl⟩) hK hP hS hA [1, 2, 3] [0, 1] rfl rfl 1 3 rfl rfl rfl rfl hl.1 rfl (Nat.le_of_ble_eq_true rfl) dX4_isUnknownPass_19 ⟨Nat.zero_le _, Nat.zero_le _⟩ (fun v2_ H locs e2_ hP hS => ?_)
      obtain rfl : v2_ = bI (0 ≤ y.toInt ∧ y.toInt < (pn : Int)) := e2_
      refine zb_ne (tgt := 29) hx hb dX4_isUnknownPass_22 (by decide) (fun c22 => ?_) (fun c22 => ?_)
      · refine lv_iconst (v := nI 0) hx hb dX4_isUnknownPass_29 (by decide) ?_
        exact hret _ _ _ _ _ hS (Or.inl rfl) (bI_f' (by omega)) dX4_isUnknownPass_30
      · refine lv_iconst (v := nI 1) hx hb dX4_isUnknownPass_25 (by decide) ?_
        refine lv_goto (tgt := 30) hx hb dX4_isUnknownPass_26 (by decide) ?_
        exact hret _ _ _ _ _ hS (Or.inr rfl) (bI_t' (by omega)) dX4_isUnknownPass_30
set_option maxHeartbeats 4000000 in
set_option maxRecDepth 100000 in
/-- isUnknownItem -/
theorem c_X4_isUnknownItem (l : Launch) (D : va_G) (cI cJ : ClassId) (xo hp hi hh ht bn : Nat) (pz ps pt pn : Nat) (Z S : Nat → Nat) (ia ib ic id gc tt : Nat) (P F C O : Nat → Nat) (y : Int32) (hpt : pt ≤ 4611686018427387904) (htt : tt ≤ 4000) : RO_i l yX4_isUnknownItem wsX4_isUnknownItem ({ frames := 1, cells := 0, slots := 0, locals := 20 } : Room) D [(xo, .inr (4, [.int (nI bn), .ref hp, .ref hi, .ref hh, .ref ht])), (hp, .inr (3, [.int (nI bn), .ref pz, .ref ps, .long (lN pt), .int (nI pn)])), (pz, aI cI 62 Z), (ps, aJ cJ 63 S), (hi, .inr (2, [.ref ia, .ref ib, .ref ic, .ref id, .int (nI gc), .int (nI tt)])), (ia, aJ cJ 512 P), (ib, aI cI 512 F), (ic, aI cI 512 C), (id, aI cI 512 O)] [(cI, .int), (cJ, .long)] [.ref xo, .int y] (fun v => v = bI (¬ knI pt tt y)) := by
  refine RO_i.ofz (cc := cX4_isUnknownItem) (maxL := 2) (by decide) rfl (Nat.le_of_ble_eq_true rfl) ?_
  intro p e s m args below meth c ls A Q hx hb hml hts hown hA hP hK hl hret
  have hown : s.vm.findClass RX4 = some m.cls := hown
  have hl : lv_has ls 2 [(0, .ref xo), (1, .int y)] := hl
  have hS : va_S A s.heap s.heap [] := va_S.rf
  have hinX4 : ∀ w ∈ wsX40, w ∈ wsX4_isUnknownItem := by decide +kernel
  refine lv_iload_n hx hb dX4_isUnknownItem_0 rfl (lv_at hl 1 rfl) ?_
  refine zq_if_lt (tgt := 25) hx hb dX4_isUnknownItem_1 (by decide) (fun c1 => ?_) (fun c1 => ?_)
  · refine lv_iconst (v := nI 1) hx hb dX4_isUnknownItem_25 (by decide) ?_
    refine lv_goto (tgt := 30) hx hb dX4_isUnknownItem_26 (by decide) ?_
    exact hret _ _ _ _ _ hS (Or.inr rfl) (bI_t' (by omega)) dX4_isUnknownItem_30
  · refine lv_aload_n hx hb dX4_isUnknownItem_4 rfl (lv_at hl 0 rfl) ?_
    refine va_get (D := D) (ci := 4) (v := .ref hp) (C := RX4) (T := TX4) (N := 5) hx hb hts hinX4 hown hK hP 0 rfl rfl 1 (by decide) (hts (.fieldLink RX4 28 "PassSearch" "plan" "LPassSearch$Plan;") (by decide +kernel)) (fun _ h9 => h9) rfl dX4_isUnknownItem_5 ?_
    refine RO_i.callV (rest := []) (c_X2_isLaid l D cI cJ hp pz ps bn pt pn Z S (by omega)) ⟨hx, hb, hml, hown, hts⟩ (cwV 0 hts gX4_isUnknownItem_X2_isLaid rfl rfl rfl (by decide +kernel) ⟨Nat.le_of_ble_eq_true rfl, Nat.le_of_ble_eq_true rfl⟩) hK hP hS hA [1, 2, 3] [0, 1] rfl rfl 1 3 rfl rfl rfl rfl hl.1 rfl (Nat.le_of_ble_eq_true rfl) dX4_isUnknownItem_8 ⟨Nat.zero_le _, Nat.zero_le _⟩ (fun v1_ H locs e1_ hP hS => ?_)
    obtain rfl : v1_ = bI (0 < pt) := e1_
    refine zb_eq (tgt := 29) hx hb dX4_isUnknownItem_11 (by decide) (fun c11 => ?_) (fun c11 => ?_)
    · refine lv_iconst (v := nI 0) hx hb dX4_isUnknownItem_29 (by decide) ?_
      exact hret _ _ _ _ _ hS (Or.inl rfl) (bI_f' (by omega)) dX4_isUnknownItem_30
    · refine lv_iload_n hx hb dX4_isUnknownItem_14 rfl (lv_at hl 1 rfl) ?_
      refine lv_aload_n hx hb dX4_isUnknownItem_15 rfl (lv_at hl 0 rfl) ?_
      refine va_get (D := D) (ci := 4) (v := .ref hi) (C := RX4) (T := TX4) (N := 5) hx hb hts hinX4 hown hK hP 0 rfl rfl 2 (by decide) (hts (.fieldLink RX4 35 "PassSearch" "items" "LPassSearch$Items;") (by decide +kernel)) (fun _ h9 => h9) rfl dX4_isUnknownItem_16 ?_
      refine RO_i.callV (rest := [.int y]) (c_X1_total l D cI cJ hi ia ib ic id gc tt P F C O) ⟨hx, hb, hml, hown, hts⟩ (cwV 0 hts gX4_isUnknownItem_X1_total rfl rfl rfl (by decide +kernel) ⟨Nat.le_of_ble_eq_true rfl, Nat.le_of_ble_eq_true rfl⟩) hK hP hS hA [4, 5, 6, 7, 8] [0, 1] rfl rfl 4 2 rfl rfl rfl rfl hl.1 rfl (Nat.le_of_ble_eq_true rfl) dX4_isUnknownItem_19 ⟨Nat.zero_le _, Nat.zero_le _⟩ (fun v2_ H locs e2_ hP hS => ?_)
      obtain rfl : v2_ = nI tt := e2_
      refine zq_lt (tgt := 29) hx hb dX4_isUnknownItem_22 (by decide) (fun c22 => ?_) (fun c22 => ?_)
      · rw [nI_toInt (by omega)] at c22
        refine lv_iconst (v := nI 0) hx hb dX4_isUnknownItem_29 (by decide) ?_
        exact hret _ _ _ _ _ hS (Or.inl rfl) (bI_f' (by omega)) dX4_isUnknownItem_30
      · rw [nI_toInt (by omega)] at c22
        refine lv_iconst (v := nI 1) hx hb dX4_isUnknownItem_25 (by decide) ?_
        refine lv_goto (tgt := 30) hx hb dX4_isUnknownItem_26 (by decide) ?_
        exact hret _ _ _ _ _ hS (Or.inr rfl) (bI_t' (by omega)) dX4_isUnknownItem_30
set_option maxHeartbeats 4000000 in
set_option maxRecDepth 100000 in
/-- digit -/
theorem c_X4_digit (l : Launch) (D : va_G) (cI cJ : ClassId) (xo hp hi hh ht bn : Nat) (pz ps pt pn : Nat) (Z S : Nat → Nat) (x : Int64) (y : Int32) (hpl : xPlan bn pt pn Z S) : RO_i l yX4_digit wsX4_digit ({ frames := 2, cells := 0, slots := 0, locals := 46 } : Room) D [(xo, .inr (4, [.int (nI bn), .ref hp, .ref hi, .ref hh, .ref ht])), (hp, .inr (3, [.int (nI bn), .ref pz, .ref ps, .long (lN pt), .int (nI pn)])), (pz, aI cI 62 Z), (ps, aJ cJ 63 S)] [(cI, .int), (cJ, .long)] [.ref xo, .long x, .int y] (fun v => v = sDigit pt pn Z S x y) := by
  refine RO_i.of (cc := cX4_digit) (maxL := 4) (by decide) rfl (Nat.le_of_ble_eq_true rfl) ?_
  intro p e s m args below meth c ls A Q hx hb hml hts hown hA hP hK hl hret
  have hown : s.vm.findClass RX4 = some m.cls := hown
  have hl : lv_has ls 4 [(0, .ref xo), (1, .long x), (3, .int y)] := hl
  have hS : va_S A s.heap s.heap [] := va_S.rf
  have hinX4 : ∀ w ∈ wsX40, w ∈ wsX4_digit := by decide +kernel
  have hpt := hpl.1
  have hpn := hpl.2.1
  refine lv_aload_n hx hb dX4_digit_0 rfl (lv_at hl 0 rfl) ?_
  refine lv_lload_n hx hb dX4_digit_1 rfl (lv_at hl 1 rfl) ?_
  refine RO_i.callV (rest := []) (c_X4_isUnknownPoint l D cI cJ xo hp hi hh ht bn pz ps pt pn Z S x hpt) ⟨hx, hb, hml, hown, hts⟩ (cwV 1 hts gX4_digit_X4_isUnknownPoint rfl rfl rfl (by decide +kernel) ⟨Nat.le_of_ble_eq_true rfl, Nat.le_of_ble_eq_true rfl⟩) hK hP hS hA [0, 1, 2, 3] [0, 1] rfl rfl 0 4 rfl rfl rfl rfl hl.1 rfl (Nat.le_of_ble_eq_true rfl) dX4_digit_2 ⟨Nat.zero_le _, Nat.zero_le _⟩ (fun v1_ H locs e1_ hP hS => ?_)
  obtain rfl : v1_ = bI (¬ knL pt x) := e1_
  refine zb_ne (tgt := 16) hx hb dX4_digit_5 (by decide) (fun c5 => ?_) (fun c5 => ?_)
  · refine lv_iconst (v := (-1)) hx hb dX4_digit_16 (by decide) ?_
    exact hret _ _ _ _ _ hS (by rw [sDigit, if_neg (fun q => c5 q.1)]) dX4_digit_17
  · refine lv_aload_n hx hb dX4_digit_8 rfl (lv_at hl 0 rfl) ?_
    refine lv_iload_n hx hb dX4_digit_9 rfl (lv_at hl 2 rfl) ?_
    refine RO_i.callV (rest := []) (c_X4_isUnknownPass l D cI cJ xo hp hi hh ht bn pz ps pt pn Z S y hpt hpn) ⟨hx, hb, hml, hown, hts⟩ (cwV 1 hts gX4_digit_X4_isUnknownPass rfl rfl rfl (by decide +kernel) ⟨Nat.le_of_ble_eq_true rfl, Nat.le_of_ble_eq_true rfl⟩) hK hP hS hA [0, 1, 2, 3] [0, 1] rfl rfl 0 4 rfl rfl rfl rfl hl.1 rfl (Nat.le_of_ble_eq_true rfl) dX4_digit_10 ⟨Nat.zero_le _, Nat.zero_le _⟩ (fun v2_ H locs e2_ hP hS => ?_)
    obtain rfl : v2_ = bI (¬ knI pt pn y) := e2_
    refine zb_eq (tgt := 18) hx hb dX4_digit_13 (by decide) (fun c13 => ?_) (fun c13 => ?_)
    · refine lv_aload_n hx hb dX4_digit_18 rfl (lv_at hl 0 rfl) ?_
      refine va_get (D := D) (ci := 4) (v := .ref hp) (C := RX4) (T := TX4) (N := 5) hx hb hts hinX4 hown hK hP 0 rfl rfl 1 (by decide) (hts (.fieldLink RX4 28 "PassSearch" "plan" "LPassSearch$Plan;") (by decide +kernel)) (fun _ h9 => h9) rfl dX4_digit_19 ?_
      refine RO_i.callV (rest := []) (c_X2_isLaid l D cI cJ hp pz ps bn pt pn Z S (by omega)) ⟨hx, hb, hml, hown, hts⟩ (cwV 0 hts gX4_digit_X2_isLaid rfl rfl rfl (by decide +kernel) ⟨Nat.le_of_ble_eq_true rfl, Nat.le_of_ble_eq_true rfl⟩) hK hP hS hA [1, 2, 3] [0, 1] rfl rfl 1 3 rfl rfl rfl rfl hl.1 rfl (Nat.le_of_ble_eq_true rfl) dX4_digit_22 ⟨Nat.zero_le _, Nat.zero_le _⟩ (fun v3_ H locs e3_ hP hS => ?_)
      obtain rfl : v3_ = bI (0 < pt) := e3_
      refine zb_eq (tgt := 40) hx hb dX4_digit_25 (by decide) (fun c25 => ?_) (fun c25 => ?_)
      · refine lv_bipush (v := (-3)) hx hb dX4_digit_40 (by decide) ?_
        exact hret _ _ _ _ _ hS (by rw [sDigit, if_pos ⟨Classical.not_not.mp c5, Classical.not_not.mp c13⟩, if_pos (by omega)]) dX4_digit_42
      · have c5 := Classical.not_not.mp c5
        have c13 := Classical.not_not.mp c13
        obtain ⟨a, ha, rfl, hxa⟩ := l_of c5.1
        obtain ⟨k, hk, rfl, hyk⟩ := i_of c13.1
        have hip := (hpl.2.2.2.2 c25).2
        have hZk := plan_Z hip (k := k) (by omega)
        have hbn := hpl.2.2.1
        refine lv_aload_n hx hb dX4_digit_28 rfl (lv_at hl 0 rfl) ?_
        refine va_get (D := D) (ci := 4) (v := .ref hp) (C := RX4) (T := TX4) (N := 5) hx hb hts hinX4 hown hK hP 0 rfl rfl 1 (by decide) (hts (.fieldLink RX4 28 "PassSearch" "plan" "LPassSearch$Plan;") (by decide +kernel)) (fun _ h9 => h9) rfl dX4_digit_29 ?_
        refine lv_lload_n hx hb dX4_digit_32 rfl (lv_at hl 1 rfl) ?_
        refine lv_iload_n hx hb dX4_digit_33 rfl (lv_at hl 2 rfl) ?_
        refine RO_i.callV (rest := []) (c_X2_binOf l D cI cJ hp pz ps bn pt pn Z S a k (by omega) hpn ha (plan_S hip (by omega)) ⟨by omega, by omega⟩) ⟨hx, hb, hml, hown, hts⟩ (cwV 2 hts gX4_digit_X2_binOf rfl rfl rfl (by decide +kernel) ⟨Nat.le_of_ble_eq_true rfl, Nat.le_of_ble_eq_true rfl⟩) hK hP hS hA [1, 2, 3] [0, 1] rfl rfl 1 3 rfl rfl rfl rfl hl.1 rfl (Nat.le_of_ble_eq_true rfl) dX4_digit_34 ⟨Nat.zero_le _, Nat.zero_le _⟩ (fun v4_ H locs e4_ hP hS => ?_)
        obtain rfl : v4_ = nI (a / S k % Z k) := e4_
        refine lv_goto (tgt := 42) hx hb dX4_digit_37 (by decide) ?_
        exact hret _ _ _ _ _ hS (by rw [sDigit, if_pos ⟨c5, c13⟩, if_neg (by omega), hxa, hyk]; rfl) dX4_digit_42
    · refine lv_iconst (v := (-1)) hx hb dX4_digit_16 (by decide) ?_
      exact hret _ _ _ _ _ hS (by rw [sDigit, if_neg (fun q => c13 q.2)]) dX4_digit_17
set_option maxHeartbeats 4000000 in
set_option maxRecDepth 100000 in
/-- best -/
theorem c_X4_best (l : Launch) (D : va_G) (cI cJ : ClassId) (xo hp hi hh ht bn : Nat) (x : Int64) (y : Int32) : RO_i l yX4_best wsX4_best ({ frames := 4, cells := 0, slots := 0, locals := 102 } : Room) D [(xo, .inr (4, [.int (nI bn), .ref hp, .ref hi, .ref hh, .ref ht]))] [(cI, .int), (cJ, .long)] [.ref xo, .long x, .int y] (fun v => (¬ (rnd x ∧ 1 ≤ y.toInt ∧ y.toInt ≤ 62) → v = -2) ∧ (rnd x ∧ 1 ≤ y.toInt ∧ y.toInt ≤ 62 → ∃ xb, isBase x.toInt.toNat y.toInt.toNat 2147483647 xb ∧ v = if 2147483647 < xb then -2 else nI xb)) := by
  refine RO_i.of (cc := cX4_best) (maxL := 6) (by decide) rfl (Nat.le_of_ble_eq_true rfl) ?_
  intro p e s m args below meth c ls A Q hx hb hml hts hown hA hP hK hl hret
  have hown : s.vm.findClass RX4 = some m.cls := hown
  have hl : lv_has ls 6 [(0, .ref xo), (1, .long x), (3, .int y)] := hl
  have hS : va_S A s.heap s.heap [] := va_S.rf
  refine lv_lload_n hx hb dX4_best_0 rfl (lv_at hl 1 rfl) ?_
  refine RO_i.callS (rest := []) (c_X4_isRound l D x) ⟨hx, hb, hml, hown, hts⟩ (va_cwS 1 hts gX4_best_X4_isRound rfl rfl rfl (by decide +kernel) ⟨Nat.le_of_ble_eq_true rfl, Nat.le_of_ble_eq_true rfl⟩) hK hP hS hA [] [] rfl rfl rfl hl.1 rfl (Nat.le_of_ble_eq_true rfl) dX4_best_1 ⟨Nat.zero_le _, Nat.zero_le _⟩ (fun v1_ H locs e1_ hP hS => ?_)
  obtain rfl : v1_ = bI (rnd x) := e1_
  refine zb_eq (tgt := 18) hx hb dX4_best_4 (by decide) (fun c4 => ?_) (fun c4 => ?_)
  · refine lv_bipush (v := (-2)) hx hb dX4_best_18 (by decide) ?_
    exact hret _ _ _ _ _ hS (⟨fun _ => rfl, fun q => absurd q.1 c4⟩) dX4_best_20
  · refine lv_iload_n hx hb dX4_best_7 rfl (lv_at hl 2 rfl) ?_
    refine lv_iconst (v := nI 1) hx hb dX4_best_8 (by decide) ?_
    refine zq_lt (tgt := 18) hx hb dX4_best_9 (by decide) (fun c9 => ?_) (fun c9 => ?_)
    · rw [show (nI 1).toInt = 1 from by decide] at c9
      refine lv_bipush (v := (-2)) hx hb dX4_best_18 (by decide) ?_
      exact hret _ _ _ _ _ hS (⟨fun _ => rfl, fun q => by omega⟩) dX4_best_20
    · rw [show (nI 1).toInt = 1 from by decide] at c9
      refine lv_iload_n hx hb dX4_best_12 rfl (lv_at hl 2 rfl) ?_
      refine lv_bipush (v := nI 62) hx hb dX4_best_13 (by decide) ?_
      refine zq_le (tgt := 21) hx hb dX4_best_15 (by decide) (fun c15 => ?_) (fun c15 => ?_)
      · rw [show (nI 62).toInt = 62 from by decide] at c15
        obtain ⟨a, ha, rfl, hxa⟩ := l_of (x := x) (by omega)
        obtain ⟨k, hk, rfl, hyk⟩ := i_of (x := y) (by omega)
        refine lv_lload_n hx hb dX4_best_21 rfl (lv_at hl 1 rfl) ?_
        refine lv_iload_n hx hb dX4_best_22 rfl (lv_at hl 2 rfl) ?_
        refine lv_ldc2 (v := 2147483647) hx hb hown (hts (.constantLong RX4 88 (2147483647)) (by decide +kernel)) dX4_best_23 ?_
        refine W.eq (g2 := F0 m 26 ls [.long (lN 2147483647), .int (nI k), .long (lN a)]) rfl ?_
        refine RO_l.callS (rest := []) (c_X3_leastBase l D a k 2147483647 (by omega) (by omega) (by omega) (by omega)) ⟨hx, hb, hml, hown, hts⟩ (va_cwS 3 hts gX4_best_X3_leastBase rfl rfl rfl (by decide +kernel) ⟨Nat.le_of_ble_eq_true rfl, Nat.le_of_ble_eq_true rfl⟩) hK hP hS hA [] [] rfl rfl rfl hl.1 rfl (Nat.le_of_ble_eq_true rfl) dX4_best_26 ⟨Nat.zero_le _, Nat.zero_le _⟩ (fun v2_ H locs e2_ hP hS => ?_)
        obtain ⟨xb, rfl, hxb⟩ := e2_
        have hxb2 := hxb.2.1
        refine lv_lstore (lv' := [(4, .long (lN xb)), (0, .ref xo), (1, .long (lN a)), (3, .int (nI k))]) hx hb dX4_best_29 hl (by decide) rfl (fun ls hl => ?_)
        refine lv_lload hx hb dX4_best_31 (lv_at hl 0 rfl) ?_
        refine lv_ldc2 (v := 2147483647) hx hb hown (hts (.constantLong RX4 88 (2147483647)) (by decide +kernel)) dX4_best_33 ?_
        refine W.eq (g2 := F0 m 36 ls [.long (lN 2147483647), .long (lN xb)]) rfl ?_
        refine zl_le (tgt := 45) hx hb dX4_best_36 dX4_best_37 (by decide) (by omega) (by omega) (fun c36 => ?_) (fun c36 => ?_)
        · refine lv_lload hx hb dX4_best_45 (lv_at hl 0 rfl) ?_
          refine z_l2i hx hb dX4_best_47 ?_
          exact hret _ _ _ _ _ hS (⟨fun q => absurd ⟨c4, by omega, by omega⟩ q, fun _ => ⟨xb, by rw [hxa, hyk]; exact hxb, (if_neg (by omega)).symm⟩⟩) dX4_best_48
        · have e0 : ((-2 : Int32)) = -2 := rfl
          refine lv_bipush (v := (-2)) hx hb dX4_best_40 (by decide) ?_
          refine lv_goto (tgt := 48) hx hb dX4_best_42 (by decide) ?_
          exact hret _ _ _ _ _ hS (⟨fun _ => rfl, fun _ => ⟨xb, by rw [hxa, hyk]; exact hxb, (if_pos c36).symm⟩⟩) dX4_best_48
      · rw [show (nI 62).toInt = 62 from by decide] at c15
        refine lv_bipush (v := (-2)) hx hb dX4_best_18 (by decide) ?_
        exact hret _ _ _ _ _ hS (⟨fun _ => rfl, fun q => by omega⟩) dX4_best_20
set_option maxHeartbeats 4000000 in
set_option maxRecDepth 100000 in
/-- least -/
theorem c_X4_least (l : Launch) (D : va_G) (cI cJ : ClassId) (xo hp hi hh ht bn : Nat) (x : Int64) (y : Int32) (hbn : bn ≤ 65536) : RO_i l yX4_least wsX4_least ({ frames := 3, cells := 0, slots := 0, locals := 72 } : Room) D [(xo, .inr (4, [.int (nI bn), .ref hp, .ref hi, .ref hh, .ref ht]))] [(cI, .int), (cJ, .long)] [.ref xo, .long x, .int y] (fun v => (¬ (2 ≤ bn ∧ rnd x) → v = bI False) ∧ (2 ≤ bn ∧ rnd x → ∃ xe, xe ≤ 62 ∧ isExp bn x.toInt.toNat xe ∧ v = bI (y.toInt = (xe : Int)))) := by
  refine RO_i.ofz (cc := cX4_least) (maxL := 4) (by decide) rfl (Nat.le_of_ble_eq_true rfl) ?_
  intro p e s m args below meth c ls A Q hx hb hml hts hown hA hP hK hl hret
  have hown : s.vm.findClass RX4 = some m.cls := hown
  have hl : lv_has ls 4 [(0, .ref xo), (1, .long x), (3, .int y)] := hl
  have hS : va_S A s.heap s.heap [] := va_S.rf
  have hinX4 : ∀ w ∈ wsX40, w ∈ wsX4_least := by decide +kernel
  refine lv_aload_n hx hb dX4_least_0 rfl (lv_at hl 0 rfl) ?_
  refine va_get (D := D) (ci := 4) (v := .int (nI bn)) (C := RX4) (T := TX4) (N := 5) hx hb hts hinX4 hown hK hP 0 rfl rfl 0 (by decide) (hts (.fieldLink RX4 19 "PassSearch" "bins" "I") (by decide +kernel)) (fun _ h9 => h9) rfl dX4_least_1 ?_
  refine lv_iconst (v := nI 2) hx hb dX4_least_4 (by decide) ?_
  refine zi_lt (tgt := 32) hx hb dX4_least_5 (by decide) (by omega) (by omega) (fun c5 => ?_) (fun c5 => ?_)
  · refine lv_iconst (v := nI 0) hx hb dX4_least_32 (by decide) ?_
    exact hret _ _ _ _ _ hS (Or.inl rfl) (⟨fun _ => bI_f' id, fun q => by omega⟩) dX4_least_33
  · refine lv_lload_n hx hb dX4_least_8 rfl (lv_at hl 1 rfl) ?_
    refine RO_i.callS (rest := []) (c_X4_isRound l D x) ⟨hx, hb, hml, hown, hts⟩ (va_cwS 1 hts gX4_least_X4_isRound rfl rfl rfl (by decide +kernel) ⟨Nat.le_of_ble_eq_true rfl, Nat.le_of_ble_eq_true rfl⟩) hK hP hS hA [] [] rfl rfl rfl hl.1 rfl (Nat.le_of_ble_eq_true rfl) dX4_least_9 ⟨Nat.zero_le _, Nat.zero_le _⟩ (fun v1_ H locs e1_ hP hS => ?_)
    obtain rfl : v1_ = bI (rnd x) := e1_
    refine zb_eq (tgt := 32) hx hb dX4_least_12 (by decide) (fun c12 => ?_) (fun c12 => ?_)
    · refine lv_iconst (v := nI 0) hx hb dX4_least_32 (by decide) ?_
      exact hret _ _ _ _ _ hS (Or.inl rfl) (⟨fun _ => bI_f' id, fun q => absurd q.2 c12⟩) dX4_least_33
    · obtain ⟨a, ha, rfl, hxa⟩ := l_of (x := x) (by omega)
      refine lv_iload_n hx hb dX4_least_15 rfl (lv_at hl 2 rfl) ?_
      refine lv_aload_n hx hb dX4_least_16 rfl (lv_at hl 0 rfl) ?_
      refine va_get (D := D) (ci := 4) (v := .int (nI bn)) (C := RX4) (T := TX4) (N := 5) hx hb hts hinX4 hown hK hP 0 rfl rfl 0 (by decide) (hts (.fieldLink RX4 19 "PassSearch" "bins" "I") (by decide +kernel)) (fun _ h9 => h9) rfl dX4_least_17 ?_
      refine z_i2l hx hb dX4_least_20 (by omega) ?_
      refine lv_lload_n hx hb dX4_least_21 rfl (lv_at hl 1 rfl) ?_
      refine RO_i.callS (rest := [.int y]) (c_X3_leastExponent l D bn a (by omega) (by omega) (by omega)) ⟨hx, hb, hml, hown, hts⟩ (va_cwS 2 hts gX4_least_X3_leastExponent rfl rfl rfl (by decide +kernel) ⟨Nat.le_of_ble_eq_true rfl, Nat.le_of_ble_eq_true rfl⟩) hK hP hS hA [] [] rfl rfl rfl hl.1 rfl (Nat.le_of_ble_eq_true rfl) dX4_least_22 ⟨Nat.zero_le _, Nat.zero_le _⟩ (fun v2_ H locs e2_ hP hS => ?_)
      obtain ⟨xe, rfl, hx1, hx2⟩ := e2_
      refine zq_ne (tgt := 32) hx hb dX4_least_25 (by decide) (fun c25 => ?_) (fun c25 => ?_)
      · rw [nI_toInt (by omega)] at c25
        refine lv_iconst (v := nI 0) hx hb dX4_least_32 (by decide) ?_
        exact hret _ _ _ _ _ hS (Or.inl rfl) (⟨fun q => absurd ⟨c5, c12⟩ q, fun _ => ⟨xe, hx1, by rw [hxa]; exact hx2, bI_f' c25⟩⟩) dX4_least_33
      · rw [nI_toInt (by omega)] at c25
        refine lv_iconst (v := nI 1) hx hb dX4_least_28 (by decide) ?_
        refine lv_goto (tgt := 33) hx hb dX4_least_29 (by decide) ?_
        exact hret _ _ _ _ _ hS (Or.inr rfl) (⟨fun q => absurd ⟨c5, c12⟩ q, fun _ => ⟨xe, hx1, by rw [hxa]; exact hx2, bI_t' c25⟩⟩) dX4_least_33
