/-- a bin's height: 1000 where none was given -/
def hOf (f : Nat → Nat) (b : Nat) : Nat := if f b = 0 then 1000 else f b
theorem hOf_le {f : Nat → Nat} (h : ∀ b, f b ≤ 100000) (b : Nat) : 1 ≤ hOf f b ∧ hOf f b ≤ 100000 := by
  have := h b
  unfold hOf
  split <;> omega
def volG (pt tt : Nat) (x : Int64) (y : Int32) : Prop := knL pt x ∧ 0 ≤ y.toInt ∧ y.toInt ≤ 1000 ∧ 0 < pt ∧ tt + y.toInt.toNat ≤ 4000
def volC (pt tt : Nat) (x : Int64) (y : Int32) : Int32 := if ¬ knL pt x then -1 else if ¬ (0 ≤ y.toInt ∧ y.toInt ≤ 1000) then -2 else if pt = 0 then -3 else if 4000 < tt + y.toInt.toNat then -4 else nI (tt + y.toInt.toNat)
def heiC (bn : Nat) (f : Nat → Nat) (x y : Int32) : Int32 := if ¬ (0 ≤ x.toInt ∧ x.toInt < (bn : Int)) then -1 else if ¬ (1 ≤ y.toInt ∧ y.toInt ≤ 100000) then -2 else nI (hOf f x.toInt.toNat)
def heiF (bn : Nat) (f : Nat → Nat) (x y : Int32) : Nat → Nat := if (0 ≤ x.toInt ∧ x.toInt < (bn : Int)) ∧ 1 ≤ y.toInt ∧ y.toInt ≤ 100000 then uF f x.toInt.toNat y.toInt.toNat else f
theorem heiF_le {bn : Nat} {f : Nat → Nat} {x y : Int32} (h : ∀ b, f b ≤ 100000) (b : Nat) : heiF bn f x y b ≤ 100000 := by
  unfold heiF
  split
  · by_cases hq : b = x.toInt.toNat
    · rw [hq, uF_s]; omega
    · rw [uF_n hq]; exact h b
  · exact h b
theorem heiF_bad {bn : Nat} {f : Nat → Nat} {x y : Int32} (h : ¬ ((0 ≤ x.toInt ∧ x.toInt < (bn : Int)) ∧ 1 ≤ y.toInt ∧ y.toInt ≤ 100000)) : heiF bn f x y = f := if_neg h
/-- how many items bin b gets, of the first g groups -/
def cntG (P C : Nat → Nat) (s z g b : Nat) : Nat := sumN (fun j => if P j / s % z = b then C j else 0) g
theorem cntG_succ (P C : Nat → Nat) (s z g : Nat) : uF (cntG P C s z g) (P g / s % z) (cntG P C s z g (P g / s % z) + C g) = cntG P C s z (g + 1) := by
  funext b
  by_cases h : b = P g / s % z
  · rw [h, uF_s]; unfold cntG; rw [sumN_succ, if_pos rfl]
  · rw [uF_n h]; unfold cntG; rw [sumN_succ, if_neg (fun q => h q.symm)]; rfl
theorem cntG_le {gc tt : Nat} {P F C : Nat → Nat} (h : itOK gc tt P F C) (s z b : Nat) {g : Nat} (hg : g ≤ gc) : cntG P C s z g b ≤ tt := by
  rw [h.2.2.1]
  unfold cntG
  exact Nat.le_trans (sumN_le (fun i _ => by split; exact Nat.le_refl _; exact Nat.zero_le _)) (sumN_mono hg)
/-- the trays behind a pass with sizes z over the span s -/
def trayP (P C fa : Nat → Nat) (gc s z : Nat) : Nat := sumN (fun b => if cntG P C s z gc b = 0 then 0 else (cntG P C s z gc b + hOf fa b - 1) / hOf fa b) 65536
theorem tray_end {M V K : Nat → Nat} {sz gc s z : Nat} {P C fa : Nat → Nat} (h : tab M V K sz (cntG P C s z gc)) : sumN (fun i => (V (K i) + hOf fa (M (K i) - 1) - 1) / hOf fa (M (K i) - 1)) sz = trayP P C fa gc s z := by
  unfold trayP
  rw [← h.2.2.2.2 (fun b => (cntG P C s z gc b + hOf fa b - 1) / hOf fa b)]
  refine sumN_congr (fun i hi => ?_)
  obtain ⟨a1, a2⟩ := h.2.2.1 i hi
  rw [(h.2.1 (K i) a1 a2).2.1]
set_option maxHeartbeats 4000000 in
set_option maxRecDepth 100000 in
/-- heightOf -/
theorem c_X4_heightOf (l : Launch) (D : va_G) (cI cJ : ClassId) (xo hp hi hh ht bn : Nat) (ma va ka sa : Nat) (Ma Va Ka fa : Nat → Nat) (b : Nat) (hta : tab Ma Va Ka sa fa) (hsa : sa ≤ 512) (hfa : ∀ b, fa b ≤ 100000) (hb1 : b < 65536) : RO_i l yX4_heightOf wsX4_heightOf ({ frames := 2, cells := 0, slots := 0, locals := 45 } : Room) D [(xo, .inr (4, [.int (nI bn), .ref hp, .ref hi, .ref hh, .ref ht])), (hh, .inr (1, [.ref ma, .ref va, .ref ka, .int (nI sa)])), (ma, aI cI 1024 Ma), (va, aI cI 1024 Va), (ka, aI cI 512 Ka)] [(cI, .int), (cJ, .long)] [.ref xo, .int (nI b)] (fun v => v = nI (hOf fa b)) := by
  refine RO_i.of (cc := cX4_heightOf) (maxL := 3) (by decide) rfl (Nat.le_of_ble_eq_true rfl) ?_
  intro p e s m args below meth c ls A Q hx hb hml hts hown hA hP hK hl hret
  have hown : s.vm.findClass RX4 = some m.cls := hown
  have hl : lv_has ls 3 [(0, .ref xo), (1, .int (nI b))] := hl
  have hS : va_S A s.heap s.heap [] := va_S.rf
  have hinX4 : ∀ w ∈ wsX40, w ∈ wsX4_heightOf := by decide +kernel
  refine lv_aload_n hx hb dX4_heightOf_0 rfl (lv_at hl 0 rfl) ?_
  refine va_get (D := D) (ci := 4) (v := .ref hh) (C := RX4) (T := TX4) (N := 5) hx hb hts hinX4 hown hK hP 0 rfl rfl 3 (by decide) (hts (.fieldLink RX4 42 "PassSearch" "heights" "LPassSearch$BinTable;") (by decide +kernel)) (fun _ h9 => h9) rfl dX4_heightOf_1 ?_
  refine lv_iload_n hx hb dX4_heightOf_4 rfl (lv_at hl 1 rfl) ?_
  refine RO_i.callV (rest := []) (c_X0_valueOf l D cI cJ hh ma va ka sa Ma Va Ka fa b hta hsa hb1) ⟨hx, hb, hml, hown, hts⟩ (cwV 1 hts gX4_heightOf_X0_valueOf rfl rfl rfl (by decide +kernel) ⟨Nat.le_of_ble_eq_true rfl, Nat.le_of_ble_eq_true rfl⟩) hK hP hS hA [1, 2, 3, 4] [0, 1] rfl rfl 1 1 rfl rfl rfl rfl hl.1 rfl (Nat.le_of_ble_eq_true rfl) dX4_heightOf_5 ⟨Nat.zero_le _, Nat.zero_le _⟩ (fun v1_ H locs e1_ hP hS => ?_)
  obtain rfl : v1_ = nI (fa b) := e1_
  have hfb := hfa b
  refine lv_istore_n (lv' := [(2, .int (nI (fa b))), (0, .ref xo), (1, .int (nI b))]) hx hb dX4_heightOf_8 rfl hl (by decide) rfl (fun ls hl => ?_)
  refine lv_iload_n hx hb dX4_heightOf_9 rfl (lv_at hl 0 rfl) ?_
  refine zi_if_ne (tgt := 19) hx hb dX4_heightOf_10 (by decide) (by omega) (fun c10 => ?_) (fun c10 => ?_)
  · refine lv_iload_n hx hb dX4_heightOf_19 rfl (lv_at hl 0 rfl) ?_
    exact hret _ _ _ _ _ hS (by rw [hOf, if_neg (by omega)]) dX4_heightOf_20
  · refine lv_sipush (v := nI 1000) hx hb dX4_heightOf_13 (by decide) ?_
    refine lv_goto (tgt := 20) hx hb dX4_heightOf_16 (by decide) ?_
    exact hret _ _ _ _ _ hS (by rw [hOf, if_pos c10]) dX4_heightOf_20
set_option maxHeartbeats 4000000 in
set_option maxRecDepth 100000 in
/-- volume -/
theorem c_X4_volume (l : Launch) (D : va_G) (cI cJ : ClassId) (xo hp hi hh ht bn : Nat) (pz ps pt pn : Nat) (Z S : Nat → Nat) (ia ib ic id gc tt : Nat) (P F C O : Nat → Nat) (x : Int64) (y : Int32) (hpt : pt ≤ 4611686018427387904) (hit : itOK gc tt P F C) (hord : ordOK gc tt P C O) (hg : gc < 512) : WR_i l yX4_volume wsX4_volume ({ frames := 2, cells := 0, slots := 0, locals := 45 } : Room) D [(xo, .inr (4, [.int (nI bn), .ref hp, .ref hi, .ref hh, .ref ht])), (hp, .inr (3, [.int (nI bn), .ref pz, .ref ps, .long (lN pt), .int (nI pn)])), (pz, aI cI 62 Z), (ps, aJ cJ 63 S), (hi, .inr (2, [.ref ia, .ref ib, .ref ic, .ref id, .int (nI gc), .int (nI tt)])), (ia, aJ cJ 512 P), (ib, aI cI 512 F), (ic, aI cI 512 C), (id, aI cI 512 O)] [(cI, .int), (cJ, .long)] [.ref xo, .long x, .int y] (fun (u : Nat × Nat × (Nat → Nat) × (Nat → Nat) × (Nat → Nat) × (Nat → Nat)) => [(xo, .inr (4, [.int (nI bn), .ref hp, .ref hi, .ref hh, .ref ht])), (hp, .inr (3, [.int (nI bn), .ref pz, .ref ps, .long (lN pt), .int (nI pn)])), (pz, aI cI 62 Z), (ps, aJ cJ 63 S), (hi, .inr (2, [.ref ia, .ref ib, .ref ic, .ref id, .int (nI u.1), .int (nI u.2.1)])), (ia, aJ cJ 512 u.2.2.1), (ib, aI cI 512 u.2.2.2.1), (ic, aI cI 512 u.2.2.2.2.1), (id, aI cI 512 u.2.2.2.2.2)]) (fun v u => v = volC pt tt x y ∧ (¬ (volG pt tt x y ∧ 1 ≤ y.toInt) → u = (gc, tt, P, F, C, O)) ∧ (volG pt tt x y ∧ 1 ≤ y.toInt → ∃ kp O2, isIns P O gc x.toInt.toNat kp O2 ∧ u = (gc + 1, tt + y.toInt.toNat, uF P gc x.toInt.toNat, uF F gc tt, uF C gc y.toInt.toNat, O2))) 0 0 := by
  refine WR_i.of (cc := cX4_volume) (maxL := 4) (by decide) rfl (Nat.le_of_ble_eq_true rfl) ?_
  intro p e s m args below meth c ls A Q hx hb hml hts hown hA hP hD hK hl hin hret
  have hown : s.vm.findClass RX4 = some m.cls := hown
  have hl : lv_has ls 4 [(0, .ref xo), (1, .long x), (3, .int y)] := hl
  have hS : va_S A s.heap s.heap [] := va_S.rf
  have hinX4 : ∀ w ∈ wsX40, w ∈ wsX4_volume := by decide +kernel
  have htt := hit.2.1
  refine lv_aload_n hx hb dX4_volume_0 rfl (lv_at hl 0 rfl) ?_
  refine lv_lload_n hx hb dX4_volume_1 rfl (lv_at hl 1 rfl) ?_
  refine RO_i.callV (rest := []) (c_X4_isUnknownPoint l D cI cJ xo hp hi hh ht bn pz ps pt pn Z S x hpt) ⟨hx, hb, hml, hown, hts⟩ (cwV 1 hts gX4_volume_X4_isUnknownPoint rfl rfl rfl (by decide +kernel) ⟨Nat.le_of_ble_eq_true rfl, Nat.le_of_ble_eq_true rfl⟩) hK hP hS hA [0, 1, 2, 3] [0, 1] rfl rfl 0 4 rfl rfl rfl rfl hl.1 rfl (Nat.le_of_ble_eq_true rfl) dX4_volume_2 ⟨Nat.zero_le _, Nat.zero_le _⟩ (fun v1_ H locs e1_ hP hS => ?_)
  obtain rfl : v1_ = bI (¬ knL pt x) := e1_
  refine zb_eq (tgt := 10) hx hb dX4_volume_5 (by decide) (fun c5 => ?_) (fun c5 => ?_)
  · refine lv_iload_n hx hb dX4_volume_10 rfl (lv_at hl 2 rfl) ?_
    refine zq_if_lt (tgt := 21) hx hb dX4_volume_11 (by decide) (fun c11 => ?_) (fun c11 => ?_)
    · refine lv_bipush (v := (-2)) hx hb dX4_volume_21 (by decide) ?_
      exact hret _ ((gc, tt, P, F, C, O)) _ _ _ _ hP hD hS (⟨by rw [volC, if_neg c5, if_pos (by omega)], fun _ => rfl, fun q => by have q1 := q.1; unfold volG at q1; omega⟩) dX4_volume_23
    · refine lv_iload_n hx hb dX4_volume_14 rfl (lv_at hl 2 rfl) ?_
      refine lv_sipush (v := nI 1000) hx hb dX4_volume_15 (by decide) ?_
      refine zq_le (tgt := 24) hx hb dX4_volume_18 (by decide) (fun c18 => ?_) (fun c18 => ?_)
      · rw [show (nI 1000).toInt = 1000 from by decide] at c18
        have c5 := Classical.not_not.mp c5
        obtain ⟨a, ha, rfl, hxa⟩ := l_of c5.1
        obtain ⟨n, hn, rfl, hyn⟩ := i_of (x := y) (by omega)
        refine lv_aload_n hx hb dX4_volume_24 rfl (lv_at hl 0 rfl) ?_
        refine va_get (D := D) (ci := 4) (v := .ref hp) (C := RX4) (T := TX4) (N := 5) hx hb hts hinX4 hown hK hP 0 rfl rfl 1 (by decide) (hts (.fieldLink RX4 28 "PassSearch" "plan" "LPassSearch$Plan;") (by decide +kernel)) (fun _ h9 => h9) rfl dX4_volume_25 ?_
        refine RO_i.callV (rest := []) (c_X2_isLaid l D cI cJ hp pz ps bn pt pn Z S (by omega)) ⟨hx, hb, hml, hown, hts⟩ (cwV 0 hts gX4_volume_X2_isLaid rfl rfl rfl (by decide +kernel) ⟨Nat.le_of_ble_eq_true rfl, Nat.le_of_ble_eq_true rfl⟩) hK hP hS hA [1, 2, 3] [0, 1] rfl rfl 1 3 rfl rfl rfl rfl hl.1 rfl (Nat.le_of_ble_eq_true rfl) dX4_volume_28 ⟨Nat.zero_le _, Nat.zero_le _⟩ (fun v2_ H locs e2_ hP hS => ?_)
        obtain rfl : v2_ = bI (0 < pt) := e2_
        refine zb_ne (tgt := 37) hx hb dX4_volume_31 (by decide) (fun c31 => ?_) (fun c31 => ?_)
        · refine lv_aload_n hx hb dX4_volume_37 rfl (lv_at hl 0 rfl) ?_
          refine va_get (D := D) (ci := 4) (v := .ref hi) (C := RX4) (T := TX4) (N := 5) hx hb hts hinX4 hown hK hP 0 rfl rfl 2 (by decide) (hts (.fieldLink RX4 35 "PassSearch" "items" "LPassSearch$Items;") (by decide +kernel)) (fun _ h9 => h9) rfl dX4_volume_38 ?_
          refine lv_iload_n hx hb dX4_volume_41 rfl (lv_at hl 2 rfl) ?_
          refine RO_i.callV (rest := []) (c_X1_hasRoom l D cI cJ hi ia ib ic id gc tt P F C O n (by omega) (by omega) (by omega)) ⟨hx, hb, hml, hown, hts⟩ (cwV 1 hts gX4_volume_X1_hasRoom rfl rfl rfl (by decide +kernel) ⟨Nat.le_of_ble_eq_true rfl, Nat.le_of_ble_eq_true rfl⟩) hK hP hS hA [4, 5, 6, 7, 8] [0, 1] rfl rfl 4 2 rfl rfl rfl rfl hl.1 rfl (Nat.le_of_ble_eq_true rfl) dX4_volume_42 ⟨Nat.zero_le _, Nat.zero_le _⟩ (fun v3_ H locs e3_ hP hS => ?_)
          obtain rfl : v3_ = bI (tt + n ≤ 4000 ∧ (n = 0 ∨ gc < 512)) := e3_
          refine zb_ne (tgt := 51) hx hb dX4_volume_45 (by decide) (fun c45 => ?_) (fun c45 => ?_)
          · refine lv_aload_n hx hb dX4_volume_51 rfl (lv_at hl 0 rfl) ?_
            refine va_get (D := D) (ci := 4) (v := .ref hi) (C := RX4) (T := TX4) (N := 5) hx hb hts hinX4 hown hK hP 0 rfl rfl 2 (by decide) (hts (.fieldLink RX4 35 "PassSearch" "items" "LPassSearch$Items;") (by decide +kernel)) (fun _ h9 => h9) rfl dX4_volume_52 ?_
            refine lv_lload_n hx hb dX4_volume_55 rfl (lv_at hl 1 rfl) ?_
            refine lv_iload_n hx hb dX4_volume_56 rfl (lv_at hl 2 rfl) ?_
            refine WR_v.callV (rest := []) (wr := [(xo, .inr (4, [.int (nI bn), .ref hp, .ref hi, .ref hh, .ref ht])), (hp, .inr (3, [.int (nI bn), .ref pz, .ref ps, .long (lN pt), .int (nI pn)])), (pz, aI cI 62 Z), (ps, aJ cJ 63 S)]) (c_X1_add l D cI cJ hi ia ib ic id gc tt P F C O a n hit hord hg (by omega) (by omega) (by omega)) ⟨hx, hb, hml, hown, hts⟩ (cwV 2 hts gX4_volume_X1_add rfl rfl rfl (by decide +kernel) ⟨Nat.le_of_ble_eq_true rfl, Nat.le_of_ble_eq_true rfl⟩) hK hP hD hS hA [4, 5, 6, 7, 8] [0, 1, 2, 3] [0, 1] rfl rfl (by decide) (by decide) (by decide) rfl 4 2 rfl rfl rfl rfl hl.1 rfl (Nat.le_of_ble_eq_true rfl) dX4_volume_57 ⟨Nat.zero_le _, Nat.zero_le _⟩ (fun u4_ H locs e4_ hP hD hS => ?_)
            obtain ⟨gc2, tt2, P2, F2, C2, O2⟩ := u4_
            obtain ⟨hu0, hu1⟩ := e4_
            have htt2 : tt2 = tt + n := by
              rcases Nat.eq_zero_or_pos n with g | g
              · have := congrArg (fun z => z.2.1) (hu0 g); simp only at this; omega
              · obtain ⟨kp, O3, -, e9⟩ := hu1 g
                exact congrArg (fun z => z.2.1) e9
            have hP := hP.sub (ws' := [(xo, .inr (4, [.int (nI bn), .ref hp, .ref hi, .ref hh, .ref ht])), (hp, .inr (3, [.int (nI bn), .ref pz, .ref ps, .long (lN pt), .int (nI pn)])), (pz, aI cI 62 Z), (ps, aJ cJ 63 S), (hi, .inr (2, [.ref ia, .ref ib, .ref ic, .ref id, .int (nI gc2), .int (nI tt2)])), (ia, aJ cJ 512 P2), (ib, aI cI 512 F2), (ic, aI cI 512 C2), (id, aI cI 512 O2)]) [0, 1, 2, 3, 4, 5, 6, 7, 8] rfl
            have hD := hD.sub (ws' := [(xo, .inr (4, [.int (nI bn), .ref hp, .ref hi, .ref hh, .ref ht])), (hp, .inr (3, [.int (nI bn), .ref pz, .ref ps, .long (lN pt), .int (nI pn)])), (pz, aI cI 62 Z), (ps, aJ cJ 63 S), (hi, .inr (2, [.ref ia, .ref ib, .ref ic, .ref id, .int (nI gc2), .int (nI tt2)])), (ia, aJ cJ 512 P2), (ib, aI cI 512 F2), (ic, aI cI 512 C2), (id, aI cI 512 O2)]) [0, 1, 2, 3, 4, 5, 6, 7, 8] (by decide) rfl
            refine lv_aload_n hx hb dX4_volume_60 rfl (lv_at hl 0 rfl) ?_
            refine va_get (D := D) (ci := 4) (v := .ref hi) (C := RX4) (T := TX4) (N := 5) hx hb hts hinX4 hown hK hP 0 rfl rfl 2 (by decide) (hts (.fieldLink RX4 35 "PassSearch" "items" "LPassSearch$Items;") (by decide +kernel)) (fun _ h9 => h9) rfl dX4_volume_61 ?_
            refine RO_i.callV (rest := []) (c_X1_total l D cI cJ hi ia ib ic id gc2 tt2 P2 F2 C2 O2) ⟨hx, hb, hml, hown, hts⟩ (cwV 0 hts gX4_volume_X1_total rfl rfl rfl (by decide +kernel) ⟨Nat.le_of_ble_eq_true rfl, Nat.le_of_ble_eq_true rfl⟩) hK hP hS hA [4, 5, 6, 7, 8] [0, 1] rfl rfl 4 2 rfl rfl rfl rfl hl.1 rfl (Nat.le_of_ble_eq_true rfl) dX4_volume_64 ⟨Nat.zero_le _, Nat.zero_le _⟩ (fun v5_ H locs e5_ hP hS => ?_)
            obtain rfl : v5_ = nI tt2 := e5_
            exact hret _ ((gc2, tt2, P2, F2, C2, O2)) _ _ _ _ hP hD hS (⟨by rw [volC, if_neg (fun q => q c5), if_neg (by omega), if_neg (by omega), if_neg (by omega), htt2]; rw [hyn]; rfl, fun q => hu0 (Classical.byContradiction fun g => q ⟨⟨c5, by omega, by omega, by omega, by omega⟩, by omega⟩), fun q => by rw [hxa, hyn]; exact hu1 (by omega)⟩) dX4_volume_67
          · refine lv_bipush (v := (-4)) hx hb dX4_volume_48 (by decide) ?_
            exact hret _ ((gc, tt, P, F, C, O)) _ _ _ _ hP hD hS (⟨by rw [volC, if_neg (fun q => q c5), if_neg (by omega), if_neg (by omega), if_pos (by omega)], fun _ => rfl, fun q => by have q1 := q.1; unfold volG at q1; omega⟩) dX4_volume_50
        · refine lv_bipush (v := (-3)) hx hb dX4_volume_34 (by decide) ?_
          exact hret _ ((gc, tt, P, F, C, O)) _ _ _ _ hP hD hS (⟨by rw [volC, if_neg (fun q => q c5), if_neg (by omega), if_pos (by omega)], fun _ => rfl, fun q => by have q1 := q.1; unfold volG at q1; omega⟩) dX4_volume_36
      · rw [show (nI 1000).toInt = 1000 from by decide] at c18
        refine lv_bipush (v := (-2)) hx hb dX4_volume_21 (by decide) ?_
        exact hret _ ((gc, tt, P, F, C, O)) _ _ _ _ hP hD hS (⟨by rw [volC, if_neg c5, if_pos (by omega)], fun _ => rfl, fun q => by have q1 := q.1; unfold volG at q1; omega⟩) dX4_volume_23
  · refine lv_iconst (v := (-1)) hx hb dX4_volume_8 (by decide) ?_
    exact hret _ ((gc, tt, P, F, C, O)) _ _ _ _ hP hD hS (⟨by rw [volC, if_pos c5], fun _ => rfl, fun q => absurd q.1.1 c5⟩) dX4_volume_9
set_option maxHeartbeats 4000000 in
set_option maxRecDepth 100000 in
/-- height -/
theorem c_X4_height (l : Launch) (D : va_G) (cI cJ : ClassId) (xo hp hi hh ht bn : Nat) (ma va ka sa : Nat) (Ma Va Ka fa : Nat → Nat) (x y : Int32) (hta : tab Ma Va Ka sa fa) (hsa : sa < 512) (hfa : ∀ b, fa b ≤ 100000) (hbn : bn ≤ 65536) : WR_i l yX4_height wsX4_height ({ frames := 3, cells := 0, slots := 0, locals := 67 } : Room) D [(xo, .inr (4, [.int (nI bn), .ref hp, .ref hi, .ref hh, .ref ht])), (hh, .inr (1, [.ref ma, .ref va, .ref ka, .int (nI sa)])), (ma, aI cI 1024 Ma), (va, aI cI 1024 Va), (ka, aI cI 512 Ka)] [(cI, .int), (cJ, .long)] [.ref xo, .int x, .int y] (fun (u : Nat × (Nat → Nat) × (Nat → Nat) × (Nat → Nat)) => [(xo, .inr (4, [.int (nI bn), .ref hp, .ref hi, .ref hh, .ref ht])), (hh, .inr (1, [.ref ma, .ref va, .ref ka, .int (nI u.1)])), (ma, aI cI 1024 u.2.1), (va, aI cI 1024 u.2.2.1), (ka, aI cI 512 u.2.2.2)]) (fun v u => v = heiC bn fa x y ∧ tab u.2.1 u.2.2.1 u.2.2.2 u.1 (heiF bn fa x y) ∧ u.1 ≤ sa + 1) 0 0 := by
  refine WR_i.of (cc := cX4_height) (maxL := 4) (by decide) rfl (Nat.le_of_ble_eq_true rfl) ?_
  intro p e s m args below meth c ls A Q hx hb hml hts hown hA hP hD hK hl hin hret
  have hown : s.vm.findClass RX4 = some m.cls := hown
  have hl : lv_has ls 4 [(0, .ref xo), (1, .int x), (2, .int y)] := hl
  have hS : va_S A s.heap s.heap [] := va_S.rf
  have hinX4 : ∀ w ∈ wsX40, w ∈ wsX4_height := by decide +kernel
  refine lv_iload_n hx hb dX4_height_0 rfl (lv_at hl 1 rfl) ?_
  refine zq_if_lt (tgt := 12) hx hb dX4_height_1 (by decide) (fun c1 => ?_) (fun c1 => ?_)
  · refine lv_iconst (v := (-1)) hx hb dX4_height_12 (by decide) ?_
    exact hret _ ((sa, Ma, Va, Ka)) _ _ _ _ hP hD hS (⟨by rw [heiC, if_pos (by omega)], by rw [heiF_bad (by omega)]; exact hta, Nat.le_succ _⟩) dX4_height_13
  · refine lv_iload_n hx hb dX4_height_4 rfl (lv_at hl 1 rfl) ?_
    refine lv_aload_n hx hb dX4_height_5 rfl (lv_at hl 0 rfl) ?_
    refine va_get (D := D) (ci := 4) (v := .int (nI bn)) (C := RX4) (T := TX4) (N := 5) hx hb hts hinX4 hown hK hP 0 rfl rfl 0 (by decide) (hts (.fieldLink RX4 19 "PassSearch" "bins" "I") (by decide +kernel)) (fun _ h9 => h9) rfl dX4_height_6 ?_
    refine zq_lt (tgt := 14) hx hb dX4_height_9 (by decide) (fun c9 => ?_) (fun c9 => ?_)
    · rw [nI_toInt (by omega)] at c9
      refine lv_iload_n hx hb dX4_height_14 rfl (lv_at hl 2 rfl) ?_
      refine lv_iconst (v := nI 1) hx hb dX4_height_15 (by decide) ?_
      refine zq_lt (tgt := 25) hx hb dX4_height_16 (by decide) (fun c16 => ?_) (fun c16 => ?_)
      · rw [show (nI 1).toInt = 1 from by decide] at c16
        refine lv_bipush (v := (-2)) hx hb dX4_height_25 (by decide) ?_
        exact hret _ ((sa, Ma, Va, Ka)) _ _ _ _ hP hD hS (⟨by rw [heiC, if_neg (by omega), if_pos (by omega)], by rw [heiF_bad (by omega)]; exact hta, Nat.le_succ _⟩) dX4_height_27
      · rw [show (nI 1).toInt = 1 from by decide] at c16
        refine lv_iload_n hx hb dX4_height_19 rfl (lv_at hl 2 rfl) ?_
        refine lv_ldc (v := 100000) hx hb hown (hts (.constant RX4 106 (100000)) (by decide +kernel)) dX4_height_20 ?_
        refine W.eq (g2 := F0 m 22 ls [.int (nI 100000), .int y]) rfl ?_
        refine zq_le (tgt := 28) hx hb dX4_height_22 (by decide) (fun c22 => ?_) (fun c22 => ?_)
        · rw [show (nI 100000).toInt = 100000 from by decide] at c22
          obtain ⟨b, hb2, rfl, hxb⟩ := i_of (x := x) (by omega)
          obtain ⟨n, hn, rfl, hyn⟩ := i_of (x := y) (by omega)
          refine lv_aload_n hx hb dX4_height_28 rfl (lv_at hl 0 rfl) ?_
          refine lv_iload_n hx hb dX4_height_29 rfl (lv_at hl 1 rfl) ?_
          refine RO_i.callV (rest := []) (c_X4_heightOf l D cI cJ xo hp hi hh ht bn ma va ka sa Ma Va Ka fa b hta (by omega) hfa (by omega)) ⟨hx, hb, hml, hown, hts⟩ (cwV 1 hts gX4_height_X4_heightOf rfl rfl rfl (by decide +kernel) ⟨Nat.le_of_ble_eq_true rfl, Nat.le_of_ble_eq_true rfl⟩) hK hP hS hA [0, 1, 2, 3, 4] [0, 1] rfl rfl 0 4 rfl rfl rfl rfl hl.1 rfl (Nat.le_of_ble_eq_true rfl) dX4_height_30 ⟨Nat.zero_le _, Nat.zero_le _⟩ (fun v1_ H locs e1_ hP hS => ?_)
          obtain rfl : v1_ = nI (hOf fa b) := e1_
          refine lv_istore_n (lv' := [(3, .int (nI (hOf fa b))), (0, .ref xo), (1, .int (nI b)), (2, .int (nI n))]) hx hb dX4_height_33 rfl hl (by decide) rfl (fun ls hl => ?_)
          refine lv_aload_n hx hb dX4_height_34 rfl (lv_at hl 1 rfl) ?_
          refine va_get (D := D) (ci := 4) (v := .ref hh) (C := RX4) (T := TX4) (N := 5) hx hb hts hinX4 hown hK hP 0 rfl rfl 3 (by decide) (hts (.fieldLink RX4 42 "PassSearch" "heights" "LPassSearch$BinTable;") (by decide +kernel)) (fun _ h9 => h9) rfl dX4_height_35 ?_
          refine lv_iload_n hx hb dX4_height_38 rfl (lv_at hl 2 rfl) ?_
          refine lv_iload_n hx hb dX4_height_39 rfl (lv_at hl 3 rfl) ?_
          refine WR_i.callV (rest := []) (wr := [(xo, .inr (4, [.int (nI bn), .ref hp, .ref hi, .ref hh, .ref ht]))]) (c_X0_put l D cI cJ hh ma va ka sa Ma Va Ka fa b n hta hsa (by omega) (by omega)) ⟨hx, hb, hml, hown, hts⟩ (cwV 2 hts gX4_height_X0_put rfl rfl rfl (by decide +kernel) ⟨Nat.le_of_ble_eq_true rfl, Nat.le_of_ble_eq_true rfl⟩) hK hP hD hS hA [1, 2, 3, 4] [0] [0, 1] rfl rfl (by decide) (by decide) (by decide) rfl 1 1 rfl rfl rfl rfl hl.1 rfl (Nat.le_of_ble_eq_true rfl) dX4_height_40 ⟨Nat.zero_le _, Nat.zero_le _⟩ (fun v2_ u2_ H locs e2_ hP hD hS => ?_)
          obtain ⟨sa2, Ma2, Va2, Ka2⟩ := u2_
          obtain ⟨rfl, hu0, hu1⟩ := e2_
          have hP := hP.sub (ws' := [(xo, .inr (4, [.int (nI bn), .ref hp, .ref hi, .ref hh, .ref ht])), (hh, .inr (1, [.ref ma, .ref va, .ref ka, .int (nI sa2)])), (ma, aI cI 1024 Ma2), (va, aI cI 1024 Va2), (ka, aI cI 512 Ka2)]) [0, 1, 2, 3, 4] rfl
          have hD := hD.sub (ws' := [(xo, .inr (4, [.int (nI bn), .ref hp, .ref hi, .ref hh, .ref ht])), (hh, .inr (1, [.ref ma, .ref va, .ref ka, .int (nI sa2)])), (ma, aI cI 1024 Ma2), (va, aI cI 1024 Va2), (ka, aI cI 512 Ka2)]) [0, 1, 2, 3, 4] (by decide) rfl
          refine zb_eq (tgt := 50) hx hb dX4_height_43 (by decide) (fun c43 => ?_) (fun c43 => ?_)
          · exact False.elim (c43 trivial)
          · refine lv_iload_n hx hb dX4_height_46 rfl (lv_at hl 0 rfl) ?_
            refine lv_goto (tgt := 52) hx hb dX4_height_47 (by decide) ?_
            exact hret _ ((sa2, Ma2, Va2, Ka2)) _ _ _ _ hP hD hS (⟨by rw [heiC, if_neg (by omega), if_neg (by omega), hxb]; rfl, by rw [heiF, if_pos ⟨⟨by omega, by omega⟩, by omega, by omega⟩, hxb, hyn]; exact hu0, hu1⟩) dX4_height_52
        · rw [show (nI 100000).toInt = 100000 from by decide] at c22
          refine lv_bipush (v := (-2)) hx hb dX4_height_25 (by decide) ?_
          exact hret _ ((sa, Ma, Va, Ka)) _ _ _ _ hP hD hS (⟨by rw [heiC, if_neg (by omega), if_pos (by omega)], by rw [heiF_bad (by omega)]; exact hta, Nat.le_succ _⟩) dX4_height_27
    · rw [nI_toInt (by omega)] at c9
      refine lv_iconst (v := (-1)) hx hb dX4_height_12 (by decide) ?_
      exact hret _ ((sa, Ma, Va, Ka)) _ _ _ _ hP hD hS (⟨by rw [heiC, if_pos (by omega)], by rw [heiF_bad (by omega)]; exact hta, Nat.le_succ _⟩) dX4_height_13
set_option maxHeartbeats 4000000 in
set_option maxRecDepth 100000 in
/-- sort -/
theorem c_X4_sort (l : Launch) (D : va_G) (cI cJ : ClassId) (xo hp hi hh ht bn : Nat) (pz ps pt pn : Nat) (Z S : Nat → Nat) (ia ib ic id gc tt : Nat) (P F C O : Nat → Nat) (x y : Int32) (hpl : xPlan bn pt pn Z S) (hit : itOK gc tt P F C) : RO_i l yX4_sort wsX4_sort ({ frames := 2, cells := 0, slots := 0, locals := 53 } : Room) D [(xo, .inr (4, [.int (nI bn), .ref hp, .ref hi, .ref hh, .ref ht])), (hp, .inr (3, [.int (nI bn), .ref pz, .ref ps, .long (lN pt), .int (nI pn)])), (pz, aI cI 62 Z), (ps, aJ cJ 63 S), (hi, .inr (2, [.ref ia, .ref ib, .ref ic, .ref id, .int (nI gc), .int (nI tt)])), (ia, aJ cJ 512 P), (ib, aI cI 512 F), (ic, aI cI 512 C), (id, aI cI 512 O)] [(cI, .int), (cJ, .long)] [.ref xo, .int x, .int y] (fun v => (¬ (knI pt tt x ∧ knI pt pn y) → v = -1) ∧ (knI pt tt x ∧ knI pt pn y → pt = 0 → v = -3) ∧ (knI pt tt x ∧ knI pt pn y → 0 < pt → ∃ ow, ow < gc ∧ F ow ≤ x.toInt.toNat ∧ x.toInt.toNat < F ow + C ow ∧ v = nI (x.toInt.toNat - F ow + sumN (before P C (S (y.toInt.toNat + 1)) ow) gc))) := by
  refine RO_i.of (cc := cX4_sort) (maxL := 3) (by decide) rfl (Nat.le_of_ble_eq_true rfl) ?_
  intro p e s m args below meth c ls A Q hx hb hml hts hown hA hP hK hl hret
  have hown : s.vm.findClass RX4 = some m.cls := hown
  have hl : lv_has ls 3 [(0, .ref xo), (1, .int x), (2, .int y)] := hl
  have hS : va_S A s.heap s.heap [] := va_S.rf
  have hinX4 : ∀ w ∈ wsX40, w ∈ wsX4_sort := by decide +kernel
  have hpt := hpl.1
  have hpn := hpl.2.1
  have htt := hit.2.1
  refine lv_aload_n hx hb dX4_sort_0 rfl (lv_at hl 0 rfl) ?_
  refine lv_iload_n hx hb dX4_sort_1 rfl (lv_at hl 1 rfl) ?_
  refine RO_i.callV (rest := []) (c_X4_isUnknownItem l D cI cJ xo hp hi hh ht bn pz ps pt pn Z S ia ib ic id gc tt P F C O x hpt htt) ⟨hx, hb, hml, hown, hts⟩ (cwV 1 hts gX4_sort_X4_isUnknownItem rfl rfl rfl (by decide +kernel) ⟨Nat.le_of_ble_eq_true rfl, Nat.le_of_ble_eq_true rfl⟩) hK hP hS hA [0, 1, 2, 3, 4, 5, 6, 7, 8] [0, 1] rfl rfl 0 4 rfl rfl rfl rfl hl.1 rfl (Nat.le_of_ble_eq_true rfl) dX4_sort_2 ⟨Nat.zero_le _, Nat.zero_le _⟩ (fun v1_ H locs e1_ hP hS => ?_)
  obtain rfl : v1_ = bI (¬ knI pt tt x) := e1_
  refine zb_ne (tgt := 16) hx hb dX4_sort_5 (by decide) (fun c5 => ?_) (fun c5 => ?_)
  · refine lv_iconst (v := (-1)) hx hb dX4_sort_16 (by decide) ?_
    exact hret _ _ _ _ _ hS (⟨fun _ => rfl, fun q => absurd q.1 c5, fun q => absurd q.1 c5⟩) dX4_sort_17
  · refine lv_aload_n hx hb dX4_sort_8 rfl (lv_at hl 0 rfl) ?_
    refine lv_iload_n hx hb dX4_sort_9 rfl (lv_at hl 2 rfl) ?_
    refine RO_i.callV (rest := []) (c_X4_isUnknownPass l D cI cJ xo hp hi hh ht bn pz ps pt pn Z S y hpt hpn) ⟨hx, hb, hml, hown, hts⟩ (cwV 1 hts gX4_sort_X4_isUnknownPass rfl rfl rfl (by decide +kernel) ⟨Nat.le_of_ble_eq_true rfl, Nat.le_of_ble_eq_true rfl⟩) hK hP hS hA [0, 1, 2, 3] [0, 1] rfl rfl 0 4 rfl rfl rfl rfl hl.1 rfl (Nat.le_of_ble_eq_true rfl) dX4_sort_10 ⟨Nat.zero_le _, Nat.zero_le _⟩ (fun v2_ H locs e2_ hP hS => ?_)
    obtain rfl : v2_ = bI (¬ knI pt pn y) := e2_
    refine zb_eq (tgt := 18) hx hb dX4_sort_13 (by decide) (fun c13 => ?_) (fun c13 => ?_)
    · refine lv_aload_n hx hb dX4_sort_18 rfl (lv_at hl 0 rfl) ?_
      refine va_get (D := D) (ci := 4) (v := .ref hp) (C := RX4) (T := TX4) (N := 5) hx hb hts hinX4 hown hK hP 0 rfl rfl 1 (by decide) (hts (.fieldLink RX4 28 "PassSearch" "plan" "LPassSearch$Plan;") (by decide +kernel)) (fun _ h9 => h9) rfl dX4_sort_19 ?_
      refine RO_i.callV (rest := []) (c_X2_isLaid l D cI cJ hp pz ps bn pt pn Z S (by omega)) ⟨hx, hb, hml, hown, hts⟩ (cwV 0 hts gX4_sort_X2_isLaid rfl rfl rfl (by decide +kernel) ⟨Nat.le_of_ble_eq_true rfl, Nat.le_of_ble_eq_true rfl⟩) hK hP hS hA [1, 2, 3] [0, 1] rfl rfl 1 3 rfl rfl rfl rfl hl.1 rfl (Nat.le_of_ble_eq_true rfl) dX4_sort_22 ⟨Nat.zero_le _, Nat.zero_le _⟩ (fun v3_ H locs e3_ hP hS => ?_)
      obtain rfl : v3_ = bI (0 < pt) := e3_
      refine zb_eq (tgt := 47) hx hb dX4_sort_25 (by decide) (fun c25 => ?_) (fun c25 => ?_)
      · refine lv_bipush (v := (-3)) hx hb dX4_sort_47 (by decide) ?_
        exact hret _ _ _ _ _ hS (⟨fun q => absurd ⟨Classical.not_not.mp c5, Classical.not_not.mp c13⟩ q, fun _ _ => rfl, fun _ q => absurd q c25⟩) dX4_sort_49
      · have c5 := Classical.not_not.mp c5
        have c13 := Classical.not_not.mp c13
        obtain ⟨i, hi1, rfl, hxi⟩ := i_of c5.1
        obtain ⟨k, hk, rfl, hyk⟩ := i_of c13.1
        have hip := (hpl.2.2.2.2 c25).2
        refine lv_aload_n hx hb dX4_sort_28 rfl (lv_at hl 0 rfl) ?_
        refine va_get (D := D) (ci := 4) (v := .ref hi) (C := RX4) (T := TX4) (N := 5) hx hb hts hinX4 hown hK hP 0 rfl rfl 2 (by decide) (hts (.fieldLink RX4 35 "PassSearch" "items" "LPassSearch$Items;") (by decide +kernel)) (fun _ h9 => h9) rfl dX4_sort_29 ?_
        refine lv_iload_n hx hb dX4_sort_32 rfl (lv_at hl 1 rfl) ?_
        refine lv_aload_n hx hb dX4_sort_33 rfl (lv_at hl 0 rfl) ?_
        refine va_get (D := D) (ci := 4) (v := .ref hp) (C := RX4) (T := TX4) (N := 5) hx hb hts hinX4 hown hK hP 0 rfl rfl 1 (by decide) (hts (.fieldLink RX4 28 "PassSearch" "plan" "LPassSearch$Plan;") (by decide +kernel)) (fun _ h9 => h9) rfl dX4_sort_34 ?_
        refine lv_iload_n hx hb dX4_sort_37 rfl (lv_at hl 2 rfl) ?_
        refine RO_l.callV (rest := [.int (nI i), .ref hi]) (c_X2_spanBehind l D cI cJ hp pz ps bn pt pn Z S k (by omega) hpn) ⟨hx, hb, hml, hown, hts⟩ (cwV 1 hts gX4_sort_X2_spanBehind rfl rfl rfl (by decide +kernel) ⟨Nat.le_of_ble_eq_true rfl, Nat.le_of_ble_eq_true rfl⟩) hK hP hS hA [1, 2, 3] [0, 1] rfl rfl 1 3 rfl rfl rfl rfl hl.1 rfl (Nat.le_of_ble_eq_true rfl) dX4_sort_38 ⟨Nat.zero_le _, Nat.zero_le _⟩ (fun v4_ H locs e4_ hP hS => ?_)
        obtain rfl : v4_ = lN (S (k + 1)) := e4_
        refine RO_i.callV (rest := []) (c_X1_placeOf l D cI cJ hi ia ib ic id gc tt P F C O i (S (k + 1)) hit (by omega) (plan_S hip (by omega))) ⟨hx, hb, hml, hown, hts⟩ (cwV 2 hts gX4_sort_X1_placeOf rfl rfl rfl (by decide +kernel) ⟨Nat.le_of_ble_eq_true rfl, Nat.le_of_ble_eq_true rfl⟩) hK hP hS hA [4, 5, 6, 7, 8] [0, 1] rfl rfl 4 2 rfl rfl rfl rfl hl.1 rfl (Nat.le_of_ble_eq_true rfl) dX4_sort_41 ⟨Nat.zero_le _, Nat.zero_le _⟩ (fun v5_ H locs e5_ hP hS => ?_)
        obtain ⟨ow, ho1, ho2, ho3, ho4⟩ := e5_
        obtain ⟨vp, rfl⟩ : ∃ z, z = v5_ := ⟨_, rfl⟩
        refine lv_goto (tgt := 49) hx hb dX4_sort_44 (by decide) ?_
        exact hret _ _ _ _ _ hS (⟨fun q => absurd ⟨c5, c13⟩ q, fun _ q => by omega, fun _ _ => by rw [hxi, hyk]; exact ⟨ow, ho1, ho2, ho3, ho4⟩⟩) dX4_sort_49
    · refine lv_iconst (v := (-1)) hx hb dX4_sort_16 (by decide) ?_
      exact hret _ _ _ _ _ hS (⟨fun _ => rfl, fun q => absurd q.2 c13, fun q => absurd q.2 c13⟩) dX4_sort_17
set_option maxHeartbeats 4000000 in
set_option maxRecDepth 100000 in
/-- order -/
theorem c_X4_order (l : Launch) (D : va_G) (cI cJ : ClassId) (xo hp hi hh ht bn : Nat) (pz ps pt pn : Nat) (Z S : Nat → Nat) (ia ib ic id gc tt : Nat) (P F C O : Nat → Nat) (x : Int32) (hpl : xPlan bn pt pn Z S) (hit : itOK gc tt P F C) (hord : ordOK gc tt P C O) : RO_i l yX4_order wsX4_order ({ frames := 2, cells := 0, slots := 0, locals := 41 } : Room) D [(xo, .inr (4, [.int (nI bn), .ref hp, .ref hi, .ref hh, .ref ht])), (hp, .inr (3, [.int (nI bn), .ref pz, .ref ps, .long (lN pt), .int (nI pn)])), (pz, aI cI 62 Z), (ps, aJ cJ 63 S), (hi, .inr (2, [.ref ia, .ref ib, .ref ic, .ref id, .int (nI gc), .int (nI tt)])), (ia, aJ cJ 512 P), (ib, aI cI 512 F), (ic, aI cI 512 C), (id, aI cI 512 O)] [(cI, .int), (cJ, .long)] [.ref xo, .int x] (fun v => (¬ knI pt tt x → v = -1) ∧ (knI pt tt x → pt = 0 → v = -3) ∧ (knI pt tt x → 0 < pt → ∃ k j, k < gc ∧ j < C (O k) ∧ x.toInt.toNat = sumN (fun i => C (O i)) k + j ∧ v = nI (F (O k) + j))) := by
  refine RO_i.of (cc := cX4_order) (maxL := 2) (by decide) rfl (Nat.le_of_ble_eq_true rfl) ?_
  intro p e s m args below meth c ls A Q hx hb hml hts hown hA hP hK hl hret
  have hown : s.vm.findClass RX4 = some m.cls := hown
  have hl : lv_has ls 2 [(0, .ref xo), (1, .int x)] := hl
  have hS : va_S A s.heap s.heap [] := va_S.rf
  have hinX4 : ∀ w ∈ wsX40, w ∈ wsX4_order := by decide +kernel
  have hpt := hpl.1
  have hpn := hpl.2.1
  have htt := hit.2.1
  refine lv_aload_n hx hb dX4_order_0 rfl (lv_at hl 0 rfl) ?_
  refine lv_iload_n hx hb dX4_order_1 rfl (lv_at hl 1 rfl) ?_
  refine RO_i.callV (rest := []) (c_X4_isUnknownItem l D cI cJ xo hp hi hh ht bn pz ps pt pn Z S ia ib ic id gc tt P F C O x hpt htt) ⟨hx, hb, hml, hown, hts⟩ (cwV 1 hts gX4_order_X4_isUnknownItem rfl rfl rfl (by decide +kernel) ⟨Nat.le_of_ble_eq_true rfl, Nat.le_of_ble_eq_true rfl⟩) hK hP hS hA [0, 1, 2, 3, 4, 5, 6, 7, 8] [0, 1] rfl rfl 0 4 rfl rfl rfl rfl hl.1 rfl (Nat.le_of_ble_eq_true rfl) dX4_order_2 ⟨Nat.zero_le _, Nat.zero_le _⟩ (fun v1_ H locs e1_ hP hS => ?_)
  obtain rfl : v1_ = bI (¬ knI pt tt x) := e1_
  refine zb_eq (tgt := 10) hx hb dX4_order_5 (by decide) (fun c5 => ?_) (fun c5 => ?_)
  · refine lv_aload_n hx hb dX4_order_10 rfl (lv_at hl 0 rfl) ?_
    refine va_get (D := D) (ci := 4) (v := .ref hp) (C := RX4) (T := TX4) (N := 5) hx hb hts hinX4 hown hK hP 0 rfl rfl 1 (by decide) (hts (.fieldLink RX4 28 "PassSearch" "plan" "LPassSearch$Plan;") (by decide +kernel)) (fun _ h9 => h9) rfl dX4_order_11 ?_
    refine RO_i.callV (rest := []) (c_X2_isLaid l D cI cJ hp pz ps bn pt pn Z S (by omega)) ⟨hx, hb, hml, hown, hts⟩ (cwV 0 hts gX4_order_X2_isLaid rfl rfl rfl (by decide +kernel) ⟨Nat.le_of_ble_eq_true rfl, Nat.le_of_ble_eq_true rfl⟩) hK hP hS hA [1, 2, 3] [0, 1] rfl rfl 1 3 rfl rfl rfl rfl hl.1 rfl (Nat.le_of_ble_eq_true rfl) dX4_order_14 ⟨Nat.zero_le _, Nat.zero_le _⟩ (fun v2_ H locs e2_ hP hS => ?_)
    obtain rfl : v2_ = bI (0 < pt) := e2_
    refine zb_eq (tgt := 31) hx hb dX4_order_17 (by decide) (fun c17 => ?_) (fun c17 => ?_)
    · refine lv_bipush (v := (-3)) hx hb dX4_order_31 (by decide) ?_
      exact hret _ _ _ _ _ hS (⟨fun q => absurd (Classical.not_not.mp c5) q, fun _ _ => rfl, fun _ q => absurd q c17⟩) dX4_order_33
    · have c5 := Classical.not_not.mp c5
      obtain ⟨i, hi1, rfl, hxi⟩ := i_of c5.1
      refine lv_aload_n hx hb dX4_order_20 rfl (lv_at hl 0 rfl) ?_
      refine va_get (D := D) (ci := 4) (v := .ref hi) (C := RX4) (T := TX4) (N := 5) hx hb hts hinX4 hown hK hP 0 rfl rfl 2 (by decide) (hts (.fieldLink RX4 35 "PassSearch" "items" "LPassSearch$Items;") (by decide +kernel)) (fun _ h9 => h9) rfl dX4_order_21 ?_
      refine lv_iload_n hx hb dX4_order_24 rfl (lv_at hl 1 rfl) ?_
      refine RO_i.callV (rest := []) (c_X1_itemAt l D cI cJ hi ia ib ic id gc tt P F C O i hit hord (by omega)) ⟨hx, hb, hml, hown, hts⟩ (cwV 1 hts gX4_order_X1_itemAt rfl rfl rfl (by decide +kernel) ⟨Nat.le_of_ble_eq_true rfl, Nat.le_of_ble_eq_true rfl⟩) hK hP hS hA [4, 5, 6, 7, 8] [0, 1] rfl rfl 4 2 rfl rfl rfl rfl hl.1 rfl (Nat.le_of_ble_eq_true rfl) dX4_order_25 ⟨Nat.zero_le _, Nat.zero_le _⟩ (fun v3_ H locs e3_ hP hS => ?_)
      obtain ⟨vp, rfl⟩ : ∃ z, z = v3_ := ⟨_, rfl⟩
      have ho := e3_
      refine lv_goto (tgt := 33) hx hb dX4_order_28 (by decide) ?_
      exact hret _ _ _ _ _ hS (⟨fun q => absurd c5 q, fun _ q => by omega, fun _ _ => by rw [hxi]; exact ho⟩) dX4_order_33
  · refine lv_iconst (v := (-1)) hx hb dX4_order_8 (by decide) ?_
    exact hret _ _ _ _ _ hS (⟨fun _ => rfl, fun q => absurd q c5, fun q => absurd q c5⟩) dX4_order_9
set_option maxHeartbeats 4000000 in
set_option maxRecDepth 100000 in
/-- traysOfPass -/
theorem c_X4_traysOfPass (l : Launch) (D : va_G) (cI cJ : ClassId) (xo hp hi hh ht bn : Nat) (pz ps pt pn : Nat) (Z S : Nat → Nat) (ia ib ic id gc tt : Nat) (P F C O : Nat → Nat) (ma va ka sa : Nat) (Ma Va Ka fa : Nat → Nat) (mb vb kb sb : Nat) (Mb Vb Kb fb : Nat → Nat) (k : Nat) (hpl : xPlan bn pt pn Z S) (hit : itOK gc tt P F C) (hpp : ∀ g, g < gc → P g < pt) (hta : tab Ma Va Ka sa fa) (hsa : sa ≤ 512) (hfa : ∀ b, fa b ≤ 100000) (htb : tab Mb Vb Kb sb fb) (hsb : sb ≤ 512) (hk : k < pn) : WR_i l yX4_traysOfPass wsX4_traysOfPass ({ frames := 3, cells := 0, slots := 0, locals := 67 } : Room) D [(xo, .inr (4, [.int (nI bn), .ref hp, .ref hi, .ref hh, .ref ht])), (hp, .inr (3, [.int (nI bn), .ref pz, .ref ps, .long (lN pt), .int (nI pn)])), (pz, aI cI 62 Z), (ps, aJ cJ 63 S), (hi, .inr (2, [.ref ia, .ref ib, .ref ic, .ref id, .int (nI gc), .int (nI tt)])), (ia, aJ cJ 512 P), (ib, aI cI 512 F), (ic, aI cI 512 C), (id, aI cI 512 O), (hh, .inr (1, [.ref ma, .ref va, .ref ka, .int (nI sa)])), (ma, aI cI 1024 Ma), (va, aI cI 1024 Va), (ka, aI cI 512 Ka), (ht, .inr (1, [.ref mb, .ref vb, .ref kb, .int (nI sb)])), (mb, aI cI 1024 Mb), (vb, aI cI 1024 Vb), (kb, aI cI 512 Kb)] [(cI, .int), (cJ, .long)] [.ref xo, .int (nI k)] (fun (u : Nat × (Nat → Nat) × (Nat → Nat) × (Nat → Nat)) => [(xo, .inr (4, [.int (nI bn), .ref hp, .ref hi, .ref hh, .ref ht])), (hp, .inr (3, [.int (nI bn), .ref pz, .ref ps, .long (lN pt), .int (nI pn)])), (pz, aI cI 62 Z), (ps, aJ cJ 63 S), (hi, .inr (2, [.ref ia, .ref ib, .ref ic, .ref id, .int (nI gc), .int (nI tt)])), (ia, aJ cJ 512 P), (ib, aI cI 512 F), (ic, aI cI 512 C), (id, aI cI 512 O), (hh, .inr (1, [.ref ma, .ref va, .ref ka, .int (nI sa)])), (ma, aI cI 1024 Ma), (va, aI cI 1024 Va), (ka, aI cI 512 Ka), (ht, .inr (1, [.ref mb, .ref vb, .ref kb, .int (nI u.1)])), (mb, aI cI 1024 u.2.1), (vb, aI cI 1024 u.2.2.1), (kb, aI cI 512 u.2.2.2)]) (fun v u => v = nI (trayP P C fa gc (S k) (Z k)) ∧ (∃ fb2, tab u.2.1 u.2.2.1 u.2.2.2 u.1 fb2) ∧ u.1 ≤ 512) 0 0 := by
  refine WR_i.of (cc := cX4_traysOfPass) (maxL := 4) (by decide) rfl (Nat.le_of_ble_eq_true rfl) ?_
  intro p e s m args below meth c ls A Q hx hb hml hts hown hA hP hD hK hl hin hret
  have hown : s.vm.findClass RX4 = some m.cls := hown
  have hl : lv_has ls 4 [(0, .ref xo), (1, .int (nI k))] := hl
  have hS : va_S A s.heap s.heap [] := va_S.rf
  have hinX4 : ∀ w ∈ wsX40, w ∈ wsX4_traysOfPass := by decide +kernel
  have hpt := hpl.1
  have hpn := hpl.2.1
  have hgc := hit.1
  have htt := hit.2.1
  have hpt1 : 0 < pt := by
    rcases Nat.eq_zero_or_pos pt with g | g
    · have := hpl.2.2.2.1 g; omega
    · exact g
  have hip := (hpl.2.2.2.2 hpt1).2
  have hSk := plan_S hip (k := k) (by omega)
  have hZk := plan_Z hip (k := k) hk
  have hbn := hpl.2.2.1
  refine lv_aload_n hx hb dX4_traysOfPass_0 rfl (lv_at hl 0 rfl) ?_
  refine va_get (D := D) (ci := 4) (v := .ref ht) (C := RX4) (T := TX4) (N := 5) hx hb hts hinX4 hown hK hP 0 rfl rfl 4 (by decide) (hts (.fieldLink RX4 46 "PassSearch" "tally" "LPassSearch$BinTable;") (by decide +kernel)) (fun _ h9 => h9) rfl dX4_traysOfPass_1 ?_
  refine WR_v.callV (rest := []) (wr := [(xo, .inr (4, [.int (nI bn), .ref hp, .ref hi, .ref hh, .ref ht])), (hp, .inr (3, [.int (nI bn), .ref pz, .ref ps, .long (lN pt), .int (nI pn)])), (pz, aI cI 62 Z), (ps, aJ cJ 63 S), (hi, .inr (2, [.ref ia, .ref ib, .ref ic, .ref id, .int (nI gc), .int (nI tt)])), (ia, aJ cJ 512 P), (ib, aI cI 512 F), (ic, aI cI 512 C), (id, aI cI 512 O), (hh, .inr (1, [.ref ma, .ref va, .ref ka, .int (nI sa)])), (ma, aI cI 1024 Ma), (va, aI cI 1024 Va), (ka, aI cI 512 Ka)]) (c_X0_clear l D cI cJ ht mb vb kb sb Mb Vb Kb fb htb hsb) ⟨hx, hb, hml, hown, hts⟩ (cwV 0 hts gX4_traysOfPass_X0_clear rfl rfl rfl (by decide +kernel) ⟨Nat.le_of_ble_eq_true rfl, Nat.le_of_ble_eq_true rfl⟩) hK hP hD hS hA [13, 14, 15, 16] [0, 1, 2, 3, 4, 5, 6, 7, 8, 9, 10, 11, 12] [0, 1] rfl rfl (by decide) (by decide) (by decide) rfl 13 1 rfl rfl rfl rfl hl.1 rfl (Nat.le_of_ble_eq_true rfl) dX4_traysOfPass_4 ⟨Nat.zero_le _, Nat.zero_le _⟩ (fun u1_ H locs e1_ hP hD hS => ?_)
  obtain ⟨Md, rfl⟩ : ∃ z, z = u1_ := ⟨_, rfl⟩
  have hcl := e1_
  have hP := hP.sub (ws' := [(xo, .inr (4, [.int (nI bn), .ref hp, .ref hi, .ref hh, .ref ht])), (hp, .inr (3, [.int (nI bn), .ref pz, .ref ps, .long (lN pt), .int (nI pn)])), (pz, aI cI 62 Z), (ps, aJ cJ 63 S), (hi, .inr (2, [.ref ia, .ref ib, .ref ic, .ref id, .int (nI gc), .int (nI tt)])), (ia, aJ cJ 512 P), (ib, aI cI 512 F), (ic, aI cI 512 C), (id, aI cI 512 O), (hh, .inr (1, [.ref ma, .ref va, .ref ka, .int (nI sa)])), (ma, aI cI 1024 Ma), (va, aI cI 1024 Va), (ka, aI cI 512 Ka), (ht, .inr (1, [.ref mb, .ref vb, .ref kb, .int (nI 0)])), (mb, aI cI 1024 Md), (vb, aI cI 1024 Vb), (kb, aI cI 512 Kb)]) [0, 1, 2, 3, 4, 5, 6, 7, 8, 9, 10, 11, 12, 13, 14, 15, 16] rfl
  have hD := hD.sub (ws' := [(xo, .inr (4, [.int (nI bn), .ref hp, .ref hi, .ref hh, .ref ht])), (hp, .inr (3, [.int (nI bn), .ref pz, .ref ps, .long (lN pt), .int (nI pn)])), (pz, aI cI 62 Z), (ps, aJ cJ 63 S), (hi, .inr (2, [.ref ia, .ref ib, .ref ic, .ref id, .int (nI gc), .int (nI tt)])), (ia, aJ cJ 512 P), (ib, aI cI 512 F), (ic, aI cI 512 C), (id, aI cI 512 O), (hh, .inr (1, [.ref ma, .ref va, .ref ka, .int (nI sa)])), (ma, aI cI 1024 Ma), (va, aI cI 1024 Va), (ka, aI cI 512 Ka), (ht, .inr (1, [.ref mb, .ref vb, .ref kb, .int (nI 0)])), (mb, aI cI 1024 Md), (vb, aI cI 1024 Vb), (kb, aI cI 512 Kb)]) [0, 1, 2, 3, 4, 5, 6, 7, 8, 9, 10, 11, 12, 13, 14, 15, 16] (by decide) rfl
  refine lv_iconst (v := nI 0) hx hb dX4_traysOfPass_7 (by decide) ?_
  refine lv_istore_n (lv' := [(2, .int (nI 0)), (0, .ref xo), (1, .int (nI k))]) hx hb dX4_traysOfPass_8 rfl hl (by decide) rfl (fun ls hl => ?_)
  have L9 : ∀ (nf : Nat) (g : Nat) (sc : Nat) (Mc : Nat → Nat) (Vc : Nat → Nat) (Kc : Nat → Nat), (g ≤ gc) → (tab Mc Vc Kc sc (cntG P C (S k) (Z k) g)) → (sc ≤ g) → gc - g < nf → ∀ (H : Heap) (locs : List Loc) (ls : Array Slot), va_P D vwCl [(xo, .inr (4, [.int (nI bn), .ref hp, .ref hi, .ref hh, .ref ht])), (hp, .inr (3, [.int (nI bn), .ref pz, .ref ps, .long (lN pt), .int (nI pn)])), (pz, aI cI 62 Z), (ps, aJ cJ 63 S), (hi, .inr (2, [.ref ia, .ref ib, .ref ic, .ref id, .int (nI gc), .int (nI tt)])), (ia, aJ cJ 512 P), (ib, aI cI 512 F), (ic, aI cI 512 C), (id, aI cI 512 O), (hh, .inr (1, [.ref ma, .ref va, .ref ka, .int (nI sa)])), (ma, aI cI 1024 Ma), (va, aI cI 1024 Va), (ka, aI cI 512 Ka), (ht, .inr (1, [.ref mb, .ref vb, .ref kb, .int (nI sc)])), (mb, aI cI 1024 Mc), (vb, aI cI 1024 Vc), (kb, aI cI 512 Kc)] H → va_D A [(xo, .inr (4, [.int (nI bn), .ref hp, .ref hi, .ref hh, .ref ht])), (hp, .inr (3, [.int (nI bn), .ref pz, .ref ps, .long (lN pt), .int (nI pn)])), (pz, aI cI 62 Z), (ps, aJ cJ 63 S), (hi, .inr (2, [.ref ia, .ref ib, .ref ic, .ref id, .int (nI gc), .int (nI tt)])), (ia, aJ cJ 512 P), (ib, aI cI 512 F), (ic, aI cI 512 C), (id, aI cI 512 O), (hh, .inr (1, [.ref ma, .ref va, .ref ka, .int (nI sa)])), (ma, aI cI 1024 Ma), (va, aI cI 1024 Va), (ka, aI cI 512 Ka), (ht, .inr (1, [.ref mb, .ref vb, .ref kb, .int (nI sc)])), (mb, aI cI 1024 Mc), (vb, aI cI 1024 Vc), (kb, aI cI 512 Kc)] → va_S A s.heap H locs → lv_has ls 4 [(2, .int (nI g)), (0, .ref xo), (1, .int (nI k))] → W p l e ({ frames := 3, cells := 0, slots := 0, locals := 67 } : Room) s m args below meth c H locs 0 0 Q (F0 m 9 ls []) := by
    intro nf
    induction nf with
    | zero => intro g sc Mc Vc Kc i1 i2 i3 hm; exact absurd hm (Nat.not_lt_zero _)
    | succ nf ih9 =>
      intro g sc Mc Vc Kc i1 i2 i3 hm9 H locs ls hP hD hS hl
      refine lv_iload_n hx hb dX4_traysOfPass_9 rfl (lv_at hl 0 rfl) ?_
      refine lv_aload_n hx hb dX4_traysOfPass_10 rfl (lv_at hl 1 rfl) ?_
      refine va_get (D := D) (ci := 4) (v := .ref hi) (C := RX4) (T := TX4) (N := 5) hx hb hts hinX4 hown hK hP 0 rfl rfl 2 (by decide) (hts (.fieldLink RX4 35 "PassSearch" "items" "LPassSearch$Items;") (by decide +kernel)) (fun _ h9 => h9) rfl dX4_traysOfPass_11 ?_
      refine RO_i.callV (rest := [.int (nI g)]) (c_X1_groupCount l D cI cJ hi ia ib ic id gc tt P F C O) ⟨hx, hb, hml, hown, hts⟩ (cwV 0 hts gX4_traysOfPass_X1_groupCount rfl rfl rfl (by decide +kernel) ⟨Nat.le_of_ble_eq_true rfl, Nat.le_of_ble_eq_true rfl⟩) hK hP hS hA [4, 5, 6, 7, 8] [0, 1] rfl rfl 4 2 rfl rfl rfl rfl hl.1 rfl (Nat.le_of_ble_eq_true rfl) dX4_traysOfPass_14 ⟨Nat.zero_le _, Nat.zero_le _⟩ (fun v2_ H locs e2_ hP hS => ?_)
      obtain rfl : v2_ = nI gc := e2_
      refine zi_ge (tgt := 69) hx hb dX4_traysOfPass_17 (by decide) (by omega) (by omega) (fun c17 => ?_) (fun c17 => ?_)
      · refine lv_iconst (v := nI 0) hx hb dX4_traysOfPass_69 (by decide) ?_
        refine lv_istore_n (lv' := [(2, .int (nI 0)), (0, .ref xo), (1, .int (nI k))]) hx hb dX4_traysOfPass_70 rfl hl (by decide) rfl (fun ls hl => ?_)
        refine lv_iconst (v := nI 0) hx hb dX4_traysOfPass_71 (by decide) ?_
        refine lv_istore_n (lv' := [(3, .int (nI 0)), (2, .int (nI 0)), (0, .ref xo), (1, .int (nI k))]) hx hb dX4_traysOfPass_72 rfl hl (by decide) rfl (fun ls hl => ?_)
        have L73 : ∀ (nf : Nat) (i : Nat) (z : Nat), (i ≤ sc) → (z = sumN (fun i => (Vc (Kc i) + hOf fa (Mc (Kc i) - 1) - 1) / hOf fa (Mc (Kc i) - 1)) i) → sc - i < nf → ∀ (H : Heap) (locs : List Loc) (ls : Array Slot), va_P D vwCl [(xo, .inr (4, [.int (nI bn), .ref hp, .ref hi, .ref hh, .ref ht])), (hp, .inr (3, [.int (nI bn), .ref pz, .ref ps, .long (lN pt), .int (nI pn)])), (pz, aI cI 62 Z), (ps, aJ cJ 63 S), (hi, .inr (2, [.ref ia, .ref ib, .ref ic, .ref id, .int (nI gc), .int (nI tt)])), (ia, aJ cJ 512 P), (ib, aI cI 512 F), (ic, aI cI 512 C), (id, aI cI 512 O), (hh, .inr (1, [.ref ma, .ref va, .ref ka, .int (nI sa)])), (ma, aI cI 1024 Ma), (va, aI cI 1024 Va), (ka, aI cI 512 Ka), (ht, .inr (1, [.ref mb, .ref vb, .ref kb, .int (nI sc)])), (mb, aI cI 1024 Mc), (vb, aI cI 1024 Vc), (kb, aI cI 512 Kc)] H → va_D A [(xo, .inr (4, [.int (nI bn), .ref hp, .ref hi, .ref hh, .ref ht])), (hp, .inr (3, [.int (nI bn), .ref pz, .ref ps, .long (lN pt), .int (nI pn)])), (pz, aI cI 62 Z), (ps, aJ cJ 63 S), (hi, .inr (2, [.ref ia, .ref ib, .ref ic, .ref id, .int (nI gc), .int (nI tt)])), (ia, aJ cJ 512 P), (ib, aI cI 512 F), (ic, aI cI 512 C), (id, aI cI 512 O), (hh, .inr (1, [.ref ma, .ref va, .ref ka, .int (nI sa)])), (ma, aI cI 1024 Ma), (va, aI cI 1024 Va), (ka, aI cI 512 Ka), (ht, .inr (1, [.ref mb, .ref vb, .ref kb, .int (nI sc)])), (mb, aI cI 1024 Mc), (vb, aI cI 1024 Vc), (kb, aI cI 512 Kc)] → va_S A s.heap H locs → lv_has ls 4 [(3, .int (nI i)), (2, .int (nI z)), (0, .ref xo), (1, .int (nI k))] → W p l e ({ frames := 3, cells := 0, slots := 0, locals := 67 } : Room) s m args below meth c H locs 0 0 Q (F0 m 73 ls []) := by
          intro nf
          induction nf with
          | zero => intro i z j1 j2 hm; exact absurd hm (Nat.not_lt_zero _)
          | succ nf ih73 =>
            intro i z j1 j2 hm73 H locs ls hP hD hS hl
            refine lv_iload_n hx hb dX4_traysOfPass_73 rfl (lv_at hl 0 rfl) ?_
            refine lv_aload_n hx hb dX4_traysOfPass_74 rfl (lv_at hl 2 rfl) ?_
            refine va_get (D := D) (ci := 4) (v := .ref ht) (C := RX4) (T := TX4) (N := 5) hx hb hts hinX4 hown hK hP 0 rfl rfl 4 (by decide) (hts (.fieldLink RX4 46 "PassSearch" "tally" "LPassSearch$BinTable;") (by decide +kernel)) (fun _ h9 => h9) rfl dX4_traysOfPass_75 ?_
            refine RO_i.callV (rest := [.int (nI i)]) (c_X0_size l D cI cJ ht mb vb kb sc Mc Vc Kc) ⟨hx, hb, hml, hown, hts⟩ (cwV 0 hts gX4_traysOfPass_X0_size rfl rfl rfl (by decide +kernel) ⟨Nat.le_of_ble_eq_true rfl, Nat.le_of_ble_eq_true rfl⟩) hK hP hS hA [13, 14, 15, 16] [0, 1] rfl rfl 13 1 rfl rfl rfl rfl hl.1 rfl (Nat.le_of_ble_eq_true rfl) dX4_traysOfPass_78 ⟨Nat.zero_le _, Nat.zero_le _⟩ (fun v3_ H locs e3_ hP hS => ?_)
            obtain rfl : v3_ = nI sc := e3_
            refine zi_ge (tgt := 116) hx hb dX4_traysOfPass_81 (by decide) (by omega) (by omega) (fun c81 => ?_) (fun c81 => ?_)
            · refine lv_iload_n hx hb dX4_traysOfPass_116 rfl (lv_at hl 1 rfl) ?_
              exact hret _ ((sc, Mc, Vc, Kc)) _ _ _ _ hP hD hS (⟨by rw [j2, show i = sc by omega, show gc = g by omega]; exact congrArg nI (tray_end i2), ⟨_, i2⟩, by omega⟩) dX4_traysOfPass_117
            · have hki := i2.2.2.1 i (by omega)
              have hti := i2.2.1 (Kc i) hki.1 hki.2
              have hbi := (i2.2.2.2.1 _ hti.2.2.1).1
              have hvi : Vc (Kc i) ≤ tt := by rw [hti.2.1]; exact cntG_le hit _ _ _ i1
              have hho := hOf_le hfa (Mc (Kc i) - 1)
              refine lv_iload_n hx hb dX4_traysOfPass_84 rfl (lv_at hl 1 rfl) ?_
              refine lv_aload_n hx hb dX4_traysOfPass_85 rfl (lv_at hl 2 rfl) ?_
              refine va_get (D := D) (ci := 4) (v := .ref ht) (C := RX4) (T := TX4) (N := 5) hx hb hts hinX4 hown hK hP 0 rfl rfl 4 (by decide) (hts (.fieldLink RX4 46 "PassSearch" "tally" "LPassSearch$BinTable;") (by decide +kernel)) (fun _ h9 => h9) rfl dX4_traysOfPass_86 ?_
              refine lv_iload_n hx hb dX4_traysOfPass_89 rfl (lv_at hl 0 rfl) ?_
              refine RO_i.callV (rest := [.int (nI z)]) (c_X0_valueAt l D cI cJ ht mb vb kb sc Mc Vc Kc (cntG P C (S k) (Z k) g) i i2 (by omega) (by omega)) ⟨hx, hb, hml, hown, hts⟩ (cwV 1 hts gX4_traysOfPass_X0_valueAt rfl rfl rfl (by decide +kernel) ⟨Nat.le_of_ble_eq_true rfl, Nat.le_of_ble_eq_true rfl⟩) hK hP hS hA [13, 14, 15, 16] [0, 1] rfl rfl 13 1 rfl rfl rfl rfl hl.1 rfl (Nat.le_of_ble_eq_true rfl) dX4_traysOfPass_90 ⟨Nat.zero_le _, Nat.zero_le _⟩ (fun v4_ H locs e4_ hP hS => ?_)
              obtain rfl : v4_ = nI (Vc (Kc i)) := e4_
              refine lv_aload_n hx hb dX4_traysOfPass_93 rfl (lv_at hl 2 rfl) ?_
              refine lv_aload_n hx hb dX4_traysOfPass_94 rfl (lv_at hl 2 rfl) ?_
              refine va_get (D := D) (ci := 4) (v := .ref ht) (C := RX4) (T := TX4) (N := 5) hx hb hts hinX4 hown hK hP 0 rfl rfl 4 (by decide) (hts (.fieldLink RX4 46 "PassSearch" "tally" "LPassSearch$BinTable;") (by decide +kernel)) (fun _ h9 => h9) rfl dX4_traysOfPass_95 ?_
              refine lv_iload_n hx hb dX4_traysOfPass_98 rfl (lv_at hl 0 rfl) ?_
              refine RO_i.callV (rest := [.ref xo, .int (nI (Vc (Kc i))), .int (nI z)]) (c_X0_binAt l D cI cJ ht mb vb kb sc Mc Vc Kc (cntG P C (S k) (Z k) g) i i2 (by omega) (by omega)) ⟨hx, hb, hml, hown, hts⟩ (cwV 1 hts gX4_traysOfPass_X0_binAt rfl rfl rfl (by decide +kernel) ⟨Nat.le_of_ble_eq_true rfl, Nat.le_of_ble_eq_true rfl⟩) hK hP hS hA [13, 14, 15, 16] [0, 1] rfl rfl 13 1 rfl rfl rfl rfl hl.1 rfl (Nat.le_of_ble_eq_true rfl) dX4_traysOfPass_99 ⟨Nat.zero_le _, Nat.zero_le _⟩ (fun v5_ H locs e5_ hP hS => ?_)
              obtain rfl : v5_ = nI (Mc (Kc i) - 1) := e5_
              refine RO_i.callV (rest := [.int (nI (Vc (Kc i))), .int (nI z)]) (c_X4_heightOf l D cI cJ xo hp hi hh ht bn ma va ka sa Ma Va Ka fa (Mc (Kc i) - 1) hta hsa hfa hbi) ⟨hx, hb, hml, hown, hts⟩ (cwV 1 hts gX4_traysOfPass_X4_heightOf rfl rfl rfl (by decide +kernel) ⟨Nat.le_of_ble_eq_true rfl, Nat.le_of_ble_eq_true rfl⟩) hK hP hS hA [0, 9, 10, 11, 12] [0, 1] rfl rfl 0 4 rfl rfl rfl rfl hl.1 rfl (Nat.le_of_ble_eq_true rfl) dX4_traysOfPass_102 ⟨Nat.zero_le _, Nat.zero_le _⟩ (fun v6_ H locs e6_ hP hS => ?_)
              obtain rfl : v6_ = nI (hOf fa (Mc (Kc i) - 1)) := e6_
              refine RO_i.callS (rest := [.int (nI z)]) (c_X3_quotientUp l D (Vc (Kc i)) (hOf fa (Mc (Kc i) - 1)) (hOf_le hfa _).1 (by omega)) ⟨hx, hb, hml, hown, hts⟩ (va_cwS 2 hts gX4_traysOfPass_X3_quotientUp rfl rfl rfl (by decide +kernel) ⟨Nat.le_of_ble_eq_true rfl, Nat.le_of_ble_eq_true rfl⟩) hK hP hS hA [] [] rfl rfl rfl hl.1 rfl (Nat.le_of_ble_eq_true rfl) dX4_traysOfPass_105 ⟨Nat.zero_le _, Nat.zero_le _⟩ (fun v7_ H locs e7_ hP hS => ?_)
              obtain rfl : v7_ = nI ((Vc (Kc i) + hOf fa (Mc (Kc i) - 1) - 1) / hOf fa (Mc (Kc i) - 1)) := e7_
              refine zi_add hx hb dX4_traysOfPass_108  ?_
              refine lv_istore_n (lv' := [(2, .int (nI (z + ((Vc (Kc i) + hOf fa (Mc (Kc i) - 1) - 1) / hOf fa (Mc (Kc i) - 1))))), (3, .int (nI i)), (0, .ref xo), (1, .int (nI k))]) hx hb dX4_traysOfPass_109 rfl hl (by decide) rfl (fun ls hl => ?_)
              refine lv_iinc (v := nI (i + 1)) (lv' := [(3, .int (nI (i + 1))), (2, .int (nI (z + ((Vc (Kc i) + hOf fa (Mc (Kc i) - 1) - 1) / hOf fa (Mc (Kc i) - 1))))), (0, .ref xo), (1, .int (nI k))]) hx hb dX4_traysOfPass_110 hl (k := 1) rfl (by rw [show Int32.ofInt 1 = nI 1 by decide, nI_add]) (by decide) rfl (fun ls hl => ?_)
              refine lv_goto (tgt := 73) hx hb dX4_traysOfPass_113 (by decide) ?_
              exact ih73 (i + 1) (z + ((Vc (Kc i) + hOf fa (Mc (Kc i) - 1) - 1) / hOf fa (Mc (Kc i) - 1))) (by omega) (by rw [sumN_succ, ← j2]) (by omega) _ _ _ hP hD hS (lv_sub hl [0, 1, 2, 3] rfl)
        exact L73 _ 0 0 (by omega) (rfl) (Nat.lt_succ_self _) _ _ _ hP hD hS (lv_sub hl [0, 1, 2, 3] rfl)
      · have hPg := hpp g (by omega)
        have hCg := (hit.2.2.2 g (by omega)).2.1
        have hbn2 := hZk.2.1
        refine lv_aload_n hx hb dX4_traysOfPass_20 rfl (lv_at hl 1 rfl) ?_
        refine va_get (D := D) (ci := 4) (v := .ref hp) (C := RX4) (T := TX4) (N := 5) hx hb hts hinX4 hown hK hP 0 rfl rfl 1 (by decide) (hts (.fieldLink RX4 28 "PassSearch" "plan" "LPassSearch$Plan;") (by decide +kernel)) (fun _ h9 => h9) rfl dX4_traysOfPass_21 ?_
        refine lv_aload_n hx hb dX4_traysOfPass_24 rfl (lv_at hl 1 rfl) ?_
        refine va_get (D := D) (ci := 4) (v := .ref hi) (C := RX4) (T := TX4) (N := 5) hx hb hts hinX4 hown hK hP 0 rfl rfl 2 (by decide) (hts (.fieldLink RX4 35 "PassSearch" "items" "LPassSearch$Items;") (by decide +kernel)) (fun _ h9 => h9) rfl dX4_traysOfPass_25 ?_
        refine lv_iload_n hx hb dX4_traysOfPass_28 rfl (lv_at hl 0 rfl) ?_
        refine RO_l.callV (rest := [.ref hp]) (c_X1_pointOf l D cI cJ hi ia ib ic id gc tt P F C O g (by omega) hgc) ⟨hx, hb, hml, hown, hts⟩ (cwV 1 hts gX4_traysOfPass_X1_pointOf rfl rfl rfl (by decide +kernel) ⟨Nat.le_of_ble_eq_true rfl, Nat.le_of_ble_eq_true rfl⟩) hK hP hS hA [4, 5, 6, 7, 8] [0, 1] rfl rfl 4 2 rfl rfl rfl rfl hl.1 rfl (Nat.le_of_ble_eq_true rfl) dX4_traysOfPass_29 ⟨Nat.zero_le _, Nat.zero_le _⟩ (fun v8_ H locs e8_ hP hS => ?_)
        obtain rfl : v8_ = lN (P g) := e8_
        refine lv_iload_n hx hb dX4_traysOfPass_32 rfl (lv_at hl 2 rfl) ?_
        refine RO_i.callV (rest := []) (c_X2_binOf l D cI cJ hp pz ps bn pt pn Z S (P g) k hk hpn (by omega) hSk ⟨by omega, by omega⟩) ⟨hx, hb, hml, hown, hts⟩ (cwV 2 hts gX4_traysOfPass_X2_binOf rfl rfl rfl (by decide +kernel) ⟨Nat.le_of_ble_eq_true rfl, Nat.le_of_ble_eq_true rfl⟩) hK hP hS hA [1, 2, 3] [0, 1] rfl rfl 1 3 rfl rfl rfl rfl hl.1 rfl (Nat.le_of_ble_eq_true rfl) dX4_traysOfPass_33 ⟨Nat.zero_le _, Nat.zero_le _⟩ (fun v9_ H locs e9_ hP hS => ?_)
        obtain rfl : v9_ = nI (P g / S k % Z k) := e9_
        have hbl : P g / S k % Z k < 65536 := Nat.lt_of_lt_of_le (Nat.mod_lt _ (by omega)) (by omega)
        refine lv_istore_n (lv' := [(3, .int (nI (P g / S k % Z k))), (2, .int (nI g)), (0, .ref xo), (1, .int (nI k))]) hx hb dX4_traysOfPass_36 rfl hl (by decide) rfl (fun ls hl => ?_)
        refine lv_aload_n hx hb dX4_traysOfPass_37 rfl (lv_at hl 2 rfl) ?_
        refine va_get (D := D) (ci := 4) (v := .ref ht) (C := RX4) (T := TX4) (N := 5) hx hb hts hinX4 hown hK hP 0 rfl rfl 4 (by decide) (hts (.fieldLink RX4 46 "PassSearch" "tally" "LPassSearch$BinTable;") (by decide +kernel)) (fun _ h9 => h9) rfl dX4_traysOfPass_38 ?_
        refine lv_iload_n hx hb dX4_traysOfPass_41 rfl (lv_at hl 0 rfl) ?_
        refine lv_aload_n hx hb dX4_traysOfPass_42 rfl (lv_at hl 2 rfl) ?_
        refine va_get (D := D) (ci := 4) (v := .ref ht) (C := RX4) (T := TX4) (N := 5) hx hb hts hinX4 hown hK hP 0 rfl rfl 4 (by decide) (hts (.fieldLink RX4 46 "PassSearch" "tally" "LPassSearch$BinTable;") (by decide +kernel)) (fun _ h9 => h9) rfl dX4_traysOfPass_43 ?_
        refine lv_iload_n hx hb dX4_traysOfPass_46 rfl (lv_at hl 0 rfl) ?_
        refine RO_i.callV (rest := [.int (nI (P g / S k % Z k)), .ref ht]) (c_X0_valueOf l D cI cJ ht mb vb kb sc Mc Vc Kc (cntG P C (S k) (Z k) g) (P g / S k % Z k) i2 (by omega) hbl) ⟨hx, hb, hml, hown, hts⟩ (cwV 1 hts gX4_traysOfPass_X0_valueOf rfl rfl rfl (by decide +kernel) ⟨Nat.le_of_ble_eq_true rfl, Nat.le_of_ble_eq_true rfl⟩) hK hP hS hA [13, 14, 15, 16] [0, 1] rfl rfl 13 1 rfl rfl rfl rfl hl.1 rfl (Nat.le_of_ble_eq_true rfl) dX4_traysOfPass_47 ⟨Nat.zero_le _, Nat.zero_le _⟩ (fun v10_ H locs e10_ hP hS => ?_)
        obtain rfl : v10_ = nI (cntG P C (S k) (Z k) g (P g / S k % Z k)) := e10_
        refine lv_aload_n hx hb dX4_traysOfPass_50 rfl (lv_at hl 2 rfl) ?_
        refine va_get (D := D) (ci := 4) (v := .ref hi) (C := RX4) (T := TX4) (N := 5) hx hb hts hinX4 hown hK hP 0 rfl rfl 2 (by decide) (hts (.fieldLink RX4 35 "PassSearch" "items" "LPassSearch$Items;") (by decide +kernel)) (fun _ h9 => h9) rfl dX4_traysOfPass_51 ?_
        refine lv_iload_n hx hb dX4_traysOfPass_54 rfl (lv_at hl 1 rfl) ?_
        refine RO_i.callV (rest := [.int (nI (cntG P C (S k) (Z k) g (P g / S k % Z k))), .int (nI (P g / S k % Z k)), .ref ht]) (c_X1_countOf l D cI cJ hi ia ib ic id gc tt P F C O g (by omega) hgc) ⟨hx, hb, hml, hown, hts⟩ (cwV 1 hts gX4_traysOfPass_X1_countOf rfl rfl rfl (by decide +kernel) ⟨Nat.le_of_ble_eq_true rfl, Nat.le_of_ble_eq_true rfl⟩) hK hP hS hA [4, 5, 6, 7, 8] [0, 1] rfl rfl 4 2 rfl rfl rfl rfl hl.1 rfl (Nat.le_of_ble_eq_true rfl) dX4_traysOfPass_55 ⟨Nat.zero_le _, Nat.zero_le _⟩ (fun v11_ H locs e11_ hP hS => ?_)
        obtain rfl : v11_ = nI (C g) := e11_
        refine zi_add hx hb dX4_traysOfPass_58  ?_
        refine WR_i.callV (rest := []) (wr := [(xo, .inr (4, [.int (nI bn), .ref hp, .ref hi, .ref hh, .ref ht])), (hp, .inr (3, [.int (nI bn), .ref pz, .ref ps, .long (lN pt), .int (nI pn)])), (pz, aI cI 62 Z), (ps, aJ cJ 63 S), (hi, .inr (2, [.ref ia, .ref ib, .ref ic, .ref id, .int (nI gc), .int (nI tt)])), (ia, aJ cJ 512 P), (ib, aI cI 512 F), (ic, aI cI 512 C), (id, aI cI 512 O), (hh, .inr (1, [.ref ma, .ref va, .ref ka, .int (nI sa)])), (ma, aI cI 1024 Ma), (va, aI cI 1024 Va), (ka, aI cI 512 Ka)]) (c_X0_put l D cI cJ ht mb vb kb sc Mc Vc Kc (cntG P C (S k) (Z k) g) (P g / S k % Z k) (cntG P C (S k) (Z k) g (P g / S k % Z k) + C g) i2 (by omega) hbl (by omega)) ⟨hx, hb, hml, hown, hts⟩ (cwV 2 hts gX4_traysOfPass_X0_put rfl rfl rfl (by decide +kernel) ⟨Nat.le_of_ble_eq_true rfl, Nat.le_of_ble_eq_true rfl⟩) hK hP hD hS hA [13, 14, 15, 16] [0, 1, 2, 3, 4, 5, 6, 7, 8, 9, 10, 11, 12] [0, 1] rfl rfl (by decide) (by decide) (by decide) rfl 13 1 rfl rfl rfl rfl hl.1 rfl (Nat.le_of_ble_eq_true rfl) dX4_traysOfPass_59 ⟨Nat.zero_le _, Nat.zero_le _⟩ (fun v12_ u12_ H locs e12_ hP hD hS => ?_)
        obtain ⟨sd, Md, Vd, Kd⟩ := u12_
        obtain ⟨rfl, hu0, hu1⟩ := e12_
        have hP := hP.sub (ws' := [(xo, .inr (4, [.int (nI bn), .ref hp, .ref hi, .ref hh, .ref ht])), (hp, .inr (3, [.int (nI bn), .ref pz, .ref ps, .long (lN pt), .int (nI pn)])), (pz, aI cI 62 Z), (ps, aJ cJ 63 S), (hi, .inr (2, [.ref ia, .ref ib, .ref ic, .ref id, .int (nI gc), .int (nI tt)])), (ia, aJ cJ 512 P), (ib, aI cI 512 F), (ic, aI cI 512 C), (id, aI cI 512 O), (hh, .inr (1, [.ref ma, .ref va, .ref ka, .int (nI sa)])), (ma, aI cI 1024 Ma), (va, aI cI 1024 Va), (ka, aI cI 512 Ka), (ht, .inr (1, [.ref mb, .ref vb, .ref kb, .int (nI sd)])), (mb, aI cI 1024 Md), (vb, aI cI 1024 Vd), (kb, aI cI 512 Kd)]) [0, 1, 2, 3, 4, 5, 6, 7, 8, 9, 10, 11, 12, 13, 14, 15, 16] rfl
        have hD := hD.sub (ws' := [(xo, .inr (4, [.int (nI bn), .ref hp, .ref hi, .ref hh, .ref ht])), (hp, .inr (3, [.int (nI bn), .ref pz, .ref ps, .long (lN pt), .int (nI pn)])), (pz, aI cI 62 Z), (ps, aJ cJ 63 S), (hi, .inr (2, [.ref ia, .ref ib, .ref ic, .ref id, .int (nI gc), .int (nI tt)])), (ia, aJ cJ 512 P), (ib, aI cI 512 F), (ic, aI cI 512 C), (id, aI cI 512 O), (hh, .inr (1, [.ref ma, .ref va, .ref ka, .int (nI sa)])), (ma, aI cI 1024 Ma), (va, aI cI 1024 Va), (ka, aI cI 512 Ka), (ht, .inr (1, [.ref mb, .ref vb, .ref kb, .int (nI sd)])), (mb, aI cI 1024 Md), (vb, aI cI 1024 Vd), (kb, aI cI 512 Kd)]) [0, 1, 2, 3, 4, 5, 6, 7, 8, 9, 10, 11, 12, 13, 14, 15, 16] (by decide) rfl
        refine lv_pop hx hb dX4_traysOfPass_62 rfl ?_
        refine lv_iinc (v := nI (g + 1)) (lv' := [(2, .int (nI (g + 1))), (3, .int (nI (P g / S k % Z k))), (0, .ref xo), (1, .int (nI k))]) hx hb dX4_traysOfPass_63 hl (k := 1) rfl (by rw [show Int32.ofInt 1 = nI 1 by decide, nI_add]) (by decide) rfl (fun ls hl => ?_)
        refine lv_goto (tgt := 9) hx hb dX4_traysOfPass_66 (by decide) ?_
        exact ih9 (g + 1) sd Md Vd Kd (by omega) (by rw [← cntG_succ]; exact hu0) (by omega) (by omega) _ _ _ hP hD hS (lv_sub hl [0, 2, 3] rfl)
  exact L9 _ 0 0 Md Vb Kb (by omega) (tab_empty hcl) (by omega) (Nat.lt_succ_self _) _ _ _ hP hD hS (lv_sub hl [0, 1, 2] rfl)
set_option maxHeartbeats 4000000 in
set_option maxRecDepth 100000 in
/-- trays -/
theorem c_X4_trays (l : Launch) (D : va_G) (cI cJ : ClassId) (xo hp hi hh ht bn : Nat) (pz ps pt pn : Nat) (Z S : Nat → Nat) (ia ib ic id gc tt : Nat) (P F C O : Nat → Nat) (ma va ka sa : Nat) (Ma Va Ka fa : Nat → Nat) (mb vb kb sb : Nat) (Mb Vb Kb fb : Nat → Nat) (hpl : xPlan bn pt pn Z S) (hit : itOK gc tt P F C) (hpp : ∀ g, g < gc → P g < pt) (hta : tab Ma Va Ka sa fa) (hsa : sa ≤ 512) (hfa : ∀ b, fa b ≤ 100000) (htb : tab Mb Vb Kb sb fb) (hsb : sb ≤ 512) : WR_i l yX4_trays wsX4_trays ({ frames := 4, cells := 0, slots := 0, locals := 90 } : Room) D [(xo, .inr (4, [.int (nI bn), .ref hp, .ref hi, .ref hh, .ref ht])), (hp, .inr (3, [.int (nI bn), .ref pz, .ref ps, .long (lN pt), .int (nI pn)])), (pz, aI cI 62 Z), (ps, aJ cJ 63 S), (hi, .inr (2, [.ref ia, .ref ib, .ref ic, .ref id, .int (nI gc), .int (nI tt)])), (ia, aJ cJ 512 P), (ib, aI cI 512 F), (ic, aI cI 512 C), (id, aI cI 512 O), (hh, .inr (1, [.ref ma, .ref va, .ref ka, .int (nI sa)])), (ma, aI cI 1024 Ma), (va, aI cI 1024 Va), (ka, aI cI 512 Ka), (ht, .inr (1, [.ref mb, .ref vb, .ref kb, .int (nI sb)])), (mb, aI cI 1024 Mb), (vb, aI cI 1024 Vb), (kb, aI cI 512 Kb)] [(cI, .int), (cJ, .long)] [.ref xo] (fun (u : Nat × (Nat → Nat) × (Nat → Nat) × (Nat → Nat)) => [(xo, .inr (4, [.int (nI bn), .ref hp, .ref hi, .ref hh, .ref ht])), (hp, .inr (3, [.int (nI bn), .ref pz, .ref ps, .long (lN pt), .int (nI pn)])), (pz, aI cI 62 Z), (ps, aJ cJ 63 S), (hi, .inr (2, [.ref ia, .ref ib, .ref ic, .ref id, .int (nI gc), .int (nI tt)])), (ia, aJ cJ 512 P), (ib, aI cI 512 F), (ic, aI cI 512 C), (id, aI cI 512 O), (hh, .inr (1, [.ref ma, .ref va, .ref ka, .int (nI sa)])), (ma, aI cI 1024 Ma), (va, aI cI 1024 Va), (ka, aI cI 512 Ka), (ht, .inr (1, [.ref mb, .ref vb, .ref kb, .int (nI u.1)])), (mb, aI cI 1024 u.2.1), (vb, aI cI 1024 u.2.2.1), (kb, aI cI 512 u.2.2.2)]) (fun v u => v = (if pt = 0 then -3 else nI (sumN (fun k => trayP P C fa gc (S k) (Z k)) pn)) ∧ (∃ fb2, tab u.2.1 u.2.2.1 u.2.2.2 u.1 fb2) ∧ u.1 ≤ 512) 0 0 := by
  refine WR_i.of (cc := cX4_trays) (maxL := 3) (by decide) rfl (Nat.le_of_ble_eq_true rfl) ?_
  intro p e s m args below meth c ls A Q hx hb hml hts hown hA hP hD hK hl hin hret
  have hown : s.vm.findClass RX4 = some m.cls := hown
  have hl : lv_has ls 3 [(0, .ref xo)] := hl
  have hS : va_S A s.heap s.heap [] := va_S.rf
  have hinX4 : ∀ w ∈ wsX40, w ∈ wsX4_trays := by decide +kernel
  have hpt := hpl.1
  have hpn := hpl.2.1
  refine lv_aload_n hx hb dX4_trays_0 rfl (lv_at hl 0 rfl) ?_
  refine va_get (D := D) (ci := 4) (v := .ref hp) (C := RX4) (T := TX4) (N := 5) hx hb hts hinX4 hown hK hP 0 rfl rfl 1 (by decide) (hts (.fieldLink RX4 28 "PassSearch" "plan" "LPassSearch$Plan;") (by decide +kernel)) (fun _ h9 => h9) rfl dX4_trays_1 ?_
  refine RO_i.callV (rest := []) (c_X2_isLaid l D cI cJ hp pz ps bn pt pn Z S (by omega)) ⟨hx, hb, hml, hown, hts⟩ (cwV 0 hts gX4_trays_X2_isLaid rfl rfl rfl (by decide +kernel) ⟨Nat.le_of_ble_eq_true rfl, Nat.le_of_ble_eq_true rfl⟩) hK hP hS hA [1, 2, 3] [0, 1] rfl rfl 1 3 rfl rfl rfl rfl hl.1 rfl (Nat.le_of_ble_eq_true rfl) dX4_trays_4 ⟨Nat.zero_le _, Nat.zero_le _⟩ (fun v1_ H locs e1_ hP hS => ?_)
  obtain rfl : v1_ = bI (0 < pt) := e1_
  refine zb_ne (tgt := 13) hx hb dX4_trays_7 (by decide) (fun c7 => ?_) (fun c7 => ?_)
  · refine lv_iconst (v := nI 0) hx hb dX4_trays_13 (by decide) ?_
    refine lv_istore_n (lv' := [(1, .int (nI 0)), (0, .ref xo)]) hx hb dX4_trays_14 rfl hl (by decide) rfl (fun ls hl => ?_)
    refine lv_iconst (v := nI 0) hx hb dX4_trays_15 (by decide) ?_
    refine lv_istore_n (lv' := [(2, .int (nI 0)), (1, .int (nI 0)), (0, .ref xo)]) hx hb dX4_trays_16 rfl hl (by decide) rfl (fun ls hl => ?_)
    have L17 : ∀ (nf : Nat) (k : Nat) (z : Nat) (sc : Nat) (Mc : Nat → Nat) (Vc : Nat → Nat) (Kc : Nat → Nat), (k ≤ pn) → (∃ fc, tab Mc Vc Kc sc fc) → (sc ≤ 512) → (z = sumN (fun k => trayP P C fa gc (S k) (Z k)) k) → pn - k < nf → ∀ (H : Heap) (locs : List Loc) (ls : Array Slot), va_P D vwCl [(xo, .inr (4, [.int (nI bn), .ref hp, .ref hi, .ref hh, .ref ht])), (hp, .inr (3, [.int (nI bn), .ref pz, .ref ps, .long (lN pt), .int (nI pn)])), (pz, aI cI 62 Z), (ps, aJ cJ 63 S), (hi, .inr (2, [.ref ia, .ref ib, .ref ic, .ref id, .int (nI gc), .int (nI tt)])), (ia, aJ cJ 512 P), (ib, aI cI 512 F), (ic, aI cI 512 C), (id, aI cI 512 O), (hh, .inr (1, [.ref ma, .ref va, .ref ka, .int (nI sa)])), (ma, aI cI 1024 Ma), (va, aI cI 1024 Va), (ka, aI cI 512 Ka), (ht, .inr (1, [.ref mb, .ref vb, .ref kb, .int (nI sc)])), (mb, aI cI 1024 Mc), (vb, aI cI 1024 Vc), (kb, aI cI 512 Kc)] H → va_D A [(xo, .inr (4, [.int (nI bn), .ref hp, .ref hi, .ref hh, .ref ht])), (hp, .inr (3, [.int (nI bn), .ref pz, .ref ps, .long (lN pt), .int (nI pn)])), (pz, aI cI 62 Z), (ps, aJ cJ 63 S), (hi, .inr (2, [.ref ia, .ref ib, .ref ic, .ref id, .int (nI gc), .int (nI tt)])), (ia, aJ cJ 512 P), (ib, aI cI 512 F), (ic, aI cI 512 C), (id, aI cI 512 O), (hh, .inr (1, [.ref ma, .ref va, .ref ka, .int (nI sa)])), (ma, aI cI 1024 Ma), (va, aI cI 1024 Va), (ka, aI cI 512 Ka), (ht, .inr (1, [.ref mb, .ref vb, .ref kb, .int (nI sc)])), (mb, aI cI 1024 Mc), (vb, aI cI 1024 Vc), (kb, aI cI 512 Kc)] → va_S A s.heap H locs → lv_has ls 3 [(2, .int (nI k)), (1, .int (nI z)), (0, .ref xo)] → W p l e ({ frames := 4, cells := 0, slots := 0, locals := 90 } : Room) s m args below meth c H locs 0 0 Q (F0 m 17 ls []) := by
      intro nf
      induction nf with
      | zero => intro k z sc Mc Vc Kc i1 i2 i3 i4 hm; exact absurd hm (Nat.not_lt_zero _)
      | succ nf ih17 =>
        intro k z sc Mc Vc Kc i1 i2 i3 i4 hm17 H locs ls hP hD hS hl
        refine lv_iload_n hx hb dX4_trays_17 rfl (lv_at hl 0 rfl) ?_
        refine lv_aload_n hx hb dX4_trays_18 rfl (lv_at hl 2 rfl) ?_
        refine va_get (D := D) (ci := 4) (v := .ref hp) (C := RX4) (T := TX4) (N := 5) hx hb hts hinX4 hown hK hP 0 rfl rfl 1 (by decide) (hts (.fieldLink RX4 28 "PassSearch" "plan" "LPassSearch$Plan;") (by decide +kernel)) (fun _ h9 => h9) rfl dX4_trays_19 ?_
        refine RO_i.callV (rest := [.int (nI k)]) (c_X2_passCount l D cI cJ hp pz ps bn pt pn Z S) ⟨hx, hb, hml, hown, hts⟩ (cwV 0 hts gX4_trays_X2_passCount rfl rfl rfl (by decide +kernel) ⟨Nat.le_of_ble_eq_true rfl, Nat.le_of_ble_eq_true rfl⟩) hK hP hS hA [1, 2, 3] [0, 1] rfl rfl 1 3 rfl rfl rfl rfl hl.1 rfl (Nat.le_of_ble_eq_true rfl) dX4_trays_22 ⟨Nat.zero_le _, Nat.zero_le _⟩ (fun v2_ H locs e2_ hP hS => ?_)
        obtain rfl : v2_ = nI pn := e2_
        refine zi_ge (tgt := 42) hx hb dX4_trays_25 (by decide) (by omega) (by omega) (fun c25 => ?_) (fun c25 => ?_)
        · refine lv_iload_n hx hb dX4_trays_42 rfl (lv_at hl 1 rfl) ?_
          exact hret _ ((sc, Mc, Vc, Kc)) _ _ _ _ hP hD hS (⟨by rw [if_neg (by omega), i4, show k = pn by omega], i2, i3⟩) dX4_trays_43
        · obtain ⟨fc, htc⟩ := i2
          refine lv_iload_n hx hb dX4_trays_28 rfl (lv_at hl 1 rfl) ?_
          refine lv_aload_n hx hb dX4_trays_29 rfl (lv_at hl 2 rfl) ?_
          refine lv_iload_n hx hb dX4_trays_30 rfl (lv_at hl 0 rfl) ?_
          refine WR_i.callV (rest := [.int (nI z)]) (wr := []) (c_X4_traysOfPass l D cI cJ xo hp hi hh ht bn pz ps pt pn Z S ia ib ic id gc tt P F C O ma va ka sa Ma Va Ka fa mb vb kb sc Mc Vc Kc fc k hpl hit hpp hta hsa hfa htc i3 (by omega)) ⟨hx, hb, hml, hown, hts⟩ (cwV 1 hts gX4_trays_X4_traysOfPass rfl rfl rfl (by decide +kernel) ⟨Nat.le_of_ble_eq_true rfl, Nat.le_of_ble_eq_true rfl⟩) hK hP hD hS hA [0, 1, 2, 3, 4, 5, 6, 7, 8, 9, 10, 11, 12, 13, 14, 15, 16] [] [0, 1] rfl rfl (by decide) (by decide) (by decide) rfl 0 4 rfl rfl rfl rfl hl.1 rfl (Nat.le_of_ble_eq_true rfl) dX4_trays_31 ⟨Nat.zero_le _, Nat.zero_le _⟩ (fun v3_ u3_ H locs e3_ hP hD hS => ?_)
          obtain ⟨sd, Md, Vd, Kd⟩ := u3_
          obtain ⟨rfl, hu1, hu2⟩ := e3_
          have hP := hP.sub (ws' := [(xo, .inr (4, [.int (nI bn), .ref hp, .ref hi, .ref hh, .ref ht])), (hp, .inr (3, [.int (nI bn), .ref pz, .ref ps, .long (lN pt), .int (nI pn)])), (pz, aI cI 62 Z), (ps, aJ cJ 63 S), (hi, .inr (2, [.ref ia, .ref ib, .ref ic, .ref id, .int (nI gc), .int (nI tt)])), (ia, aJ cJ 512 P), (ib, aI cI 512 F), (ic, aI cI 512 C), (id, aI cI 512 O), (hh, .inr (1, [.ref ma, .ref va, .ref ka, .int (nI sa)])), (ma, aI cI 1024 Ma), (va, aI cI 1024 Va), (ka, aI cI 512 Ka), (ht, .inr (1, [.ref mb, .ref vb, .ref kb, .int (nI sd)])), (mb, aI cI 1024 Md), (vb, aI cI 1024 Vd), (kb, aI cI 512 Kd)]) [0, 1, 2, 3, 4, 5, 6, 7, 8, 9, 10, 11, 12, 13, 14, 15, 16] rfl
          have hD := hD.sub (ws' := [(xo, .inr (4, [.int (nI bn), .ref hp, .ref hi, .ref hh, .ref ht])), (hp, .inr (3, [.int (nI bn), .ref pz, .ref ps, .long (lN pt), .int (nI pn)])), (pz, aI cI 62 Z), (ps, aJ cJ 63 S), (hi, .inr (2, [.ref ia, .ref ib, .ref ic, .ref id, .int (nI gc), .int (nI tt)])), (ia, aJ cJ 512 P), (ib, aI cI 512 F), (ic, aI cI 512 C), (id, aI cI 512 O), (hh, .inr (1, [.ref ma, .ref va, .ref ka, .int (nI sa)])), (ma, aI cI 1024 Ma), (va, aI cI 1024 Va), (ka, aI cI 512 Ka), (ht, .inr (1, [.ref mb, .ref vb, .ref kb, .int (nI sd)])), (mb, aI cI 1024 Md), (vb, aI cI 1024 Vd), (kb, aI cI 512 Kd)]) [0, 1, 2, 3, 4, 5, 6, 7, 8, 9, 10, 11, 12, 13, 14, 15, 16] (by decide) rfl
          refine zi_add hx hb dX4_trays_34  ?_
          refine lv_istore_n (lv' := [(1, .int (nI (z + (trayP P C fa gc (S k) (Z k))))), (2, .int (nI k)), (0, .ref xo)]) hx hb dX4_trays_35 rfl hl (by decide) rfl (fun ls hl => ?_)
          refine lv_iinc (v := nI (k + 1)) (lv' := [(2, .int (nI (k + 1))), (1, .int (nI (z + (trayP P C fa gc (S k) (Z k))))), (0, .ref xo)]) hx hb dX4_trays_36 hl (k := 1) rfl (by rw [show Int32.ofInt 1 = nI 1 by decide, nI_add]) (by decide) rfl (fun ls hl => ?_)
          refine lv_goto (tgt := 17) hx hb dX4_trays_39 (by decide) ?_
          exact ih17 (k + 1) (z + (trayP P C fa gc (S k) (Z k))) sd Md Vd Kd (by omega) (hu1) (hu2) (by rw [sumN_succ, ← i4]) (by omega) _ _ _ hP hD hS (lv_sub hl [0, 1, 2] rfl)
    exact L17 _ 0 0 sb Mb Vb Kb (by omega) (⟨_, htb⟩) (hsb) (rfl) (Nat.lt_succ_self _) _ _ _ hP hD hS (lv_sub hl [0, 1, 2] rfl)
  · refine lv_bipush (v := (-3)) hx hb dX4_trays_10 (by decide) ?_
    exact hret _ ((sb, Mb, Vb, Kb)) _ _ _ _ hP hD hS (⟨(if_pos (by omega)).symm, ⟨_, htb⟩, hsb⟩) dX4_trays_12
