/-- an int as a long, in Nat -/
def lnat (v : Int32) : Nat := v.toInt64.toBitVec.toNat
theorem lN_self (x : Int64) : x = lN x.toBitVec.toNat := by
  refine Int64.toBitVec_inj.mp (BitVec.eq_of_toNat_eq ?_)
  exact (Nat.mod_eq_of_lt x.toBitVec.isLt).symm
theorem lnat_eq (v : Int32) : v.toInt64 = lN (lnat v) := lN_self v.toInt64
theorem goodIn_up {big big2 ws : List Cond} (h : ∀ w ∈ big, w ∈ big2) (hG : GoodIn big ws) : GoodIn big2 ws := fun w hw => ⟨h w (hG w hw).1, (hG w hw).2⟩
theorem upX4_digits : ∀ w ∈ wsX4_digits, w ∈ wsX4_digitsB := fun _ h => List.mem_cons_of_mem _ (List.mem_append_left _ h)
theorem upL_digits : ∀ w ∈ wsL_digits, w ∈ wsL_digitsB := fun _ h => List.mem_cons_of_mem _ (List.mem_append_left _ h)
theorem atA_L : ∀ w ∈ atA.filter goodWord, w ∈ wsL_digitsB := fun _ h => List.mem_cons_of_mem _ (List.mem_append_right _ (List.mem_cons_of_mem _ h))
theorem gB_X4_digits : GoodIn wsL_digitsB wsX4_digitsB := fun w hw => by
  rcases List.mem_cons.mp hw with h | h
  · rw [h]
    have h1 := ggL_digits_X4_digits (Cond.code yX4_digits cX4_digits 2 (some .int)) List.mem_cons_self
    exact ⟨upL_digits _ h1.1, h1.2⟩
  · rcases List.mem_append.mp h with h | h
    · have h1 := ggL_digits_X4_digits w h
      exact ⟨upL_digits _ h1.1, h1.2⟩
    · exact ⟨atA_L w h, good_of_word (List.mem_filter.mp h).2⟩
theorem gBv_X4_digits : GoodIn wsL_digitsB (wsV RL 15 RX4 yX4_digits wsX4_digitsB) := fun w hw => by
  unfold wsV at hw
  rcases List.mem_append.mp hw with h | h
  · have h1 := gL_digits_X4_digits w (by unfold wsV; exact List.mem_append_left _ h)
    exact ⟨upL_digits _ h1.1, h1.2⟩
  · exact gB_X4_digits w h
set_option maxHeartbeats 4000000 in
set_option maxRecDepth 100000 in
/-- passes -/
theorem c_X4_passes (l : Launch) (D : va_G) (cI cJ : ClassId) (htr : l.stackTraces = false) (xo hp hi hh ht bn : Nat) (pz ps pt pn : Nat) (Z S : Nat → Nat) (ia ib ic id gc tt : Nat) (P F C O : Nat → Nat) (sa : Nat) (x : Int64) (hbn : bn ≤ 65536) : VX_i (fun U => vk_R RX4 51 "fewer than two bins" sa U ∧ ∀ w ∈ bdI, va_Nw w U) clI (bn < 2) l yX4_passes wsX4_passes ({ frames := 7, cells := 1, slots := 6, locals := 170 } : Room) D [(xo, .inr (4, [.int (nI bn), .ref hp, .ref hi, .ref hh, .ref ht])), (hp, .inr (3, [.int (nI bn), .ref pz, .ref ps, .long (lN pt), .int (nI pn)])), (pz, aI cI 62 Z), (ps, aJ cJ 63 S), (hi, .inr (2, [.ref ia, .ref ib, .ref ic, .ref id, .int (nI gc), .int (nI tt)])), (ia, aJ cJ 512 P), (ib, aI cI 512 F), (ic, aI cI 512 C), (id, aI cI 512 O)] [(cI, .int), (cJ, .long)] [.ref xo, .long x] (fun (u : Nat × Nat × (Nat → Nat) × (Nat → Nat) × Nat × Nat) => [(xo, .inr (4, [.int (nI bn), .ref hp, .ref hi, .ref hh, .ref ht])), (hp, .inr (3, [.int (nI bn), .ref pz, .ref ps, .long (lN u.1), .int (nI u.2.1)])), (pz, aI cI 62 u.2.2.1), (ps, aJ cJ 63 u.2.2.2.1), (hi, .inr (2, [.ref ia, .ref ib, .ref ic, .ref id, .int (nI u.2.2.2.2.1), .int (nI u.2.2.2.2.2)])), (ia, aJ cJ 512 P), (ib, aI cI 512 F), (ic, aI cI 512 C), (id, aI cI 512 O)]) (fun v u => 2 ≤ bn ∧ (¬ rnd x → v = -2 ∧ u = (pt, pn, Z, S, gc, tt)) ∧ (rnd x → ∃ n Z2 S2, isPlan bn x.toInt.toNat n Z2 S2 ∧ v = nI n ∧ u = (x.toInt.toNat, n, Z2, S2, 0, 0))) 1 6 := by
  refine VX_i.of (cc := cX4_passes) (maxL := 3) htr (by decide) rfl (Nat.le_of_ble_eq_true rfl) ?_
  intro p e s m args below meth c ls A Q hx hb hml hts hown hA hP hD hK hl hin hpx hthr hret
  have hown : s.vm.findClass RX4 = some m.cls := hown
  have hl : lv_has ls 3 [(0, .ref xo), (1, .long x)] := hl
  have hS : va_S A s.heap s.heap [] := va_S.rf
  have hinX4 : ∀ w ∈ wsX40, w ∈ wsX4_passes := by decide +kernel
  refine lv_aload_n hx hb dX4_passes_0 rfl (lv_at hl 0 rfl) ?_
  refine va_get (D := D) (ci := 4) (v := .int (nI bn)) (C := RX4) (T := TX4) (N := 5) hx hb hts hinX4 hown hK hP 0 rfl rfl 0 (by decide) (hts (.fieldLink RX4 19 "PassSearch" "bins" "I") (by decide +kernel)) (fun _ h9 => h9) rfl dX4_passes_1 ?_
  refine lv_iconst (v := nI 2) hx hb dX4_passes_4 (by decide) ?_
  refine zi_ge (tgt := 18) hx hb dX4_passes_5 (by decide) (by omega) (by omega) (fun c5 => ?_) (fun c5 => ?_)
  · refine lv_lload_n hx hb dX4_passes_18 rfl (lv_at hl 1 rfl) ?_
    refine RO_i.callS (rest := []) (c_X4_isRound l D x) ⟨hx, hb, hml, hown, hts⟩ (va_cwS 1 hts gX4_passes_X4_isRound rfl rfl rfl (by decide +kernel) ⟨Nat.le_of_ble_eq_true rfl, Nat.le_of_ble_eq_true rfl⟩) hK hP hS hA [] [] rfl rfl rfl hl.1 rfl (Nat.le_of_ble_eq_true rfl) dX4_passes_19 ⟨Nat.zero_le _, Nat.zero_le _⟩ (fun v1_ H locs e1_ hP hS => ?_)
    obtain rfl : v1_ = bI (rnd x) := e1_
    refine zb_ne (tgt := 28) hx hb dX4_passes_22 (by decide) (fun c22 => ?_) (fun c22 => ?_)
    · obtain ⟨a, ha, rfl, hxa⟩ := l_of (x := x) (by omega)
      refine lv_aload_n hx hb dX4_passes_28 rfl (lv_at hl 0 rfl) ?_
      refine va_get (D := D) (ci := 4) (v := .ref hp) (C := RX4) (T := TX4) (N := 5) hx hb hts hinX4 hown hK hP 0 rfl rfl 1 (by decide) (hts (.fieldLink RX4 28 "PassSearch" "plan" "LPassSearch$Plan;") (by decide +kernel)) (fun _ h9 => h9) rfl dX4_passes_29 ?_
      refine lv_lload_n hx hb dX4_passes_32 rfl (lv_at hl 1 rfl) ?_
      refine WR_v.callV (rest := []) (wr := [(xo, .inr (4, [.int (nI bn), .ref hp, .ref hi, .ref hh, .ref ht])), (hi, .inr (2, [.ref ia, .ref ib, .ref ic, .ref id, .int (nI gc), .int (nI tt)])), (ia, aJ cJ 512 P), (ib, aI cI 512 F), (ic, aI cI 512 C), (id, aI cI 512 O)]) (c_X2_lay l D cI cJ hp pz ps bn pt pn Z S a ⟨c5, hbn⟩ (by omega)) ⟨hx, hb, hml, hown, hts⟩ (cwV 1 hts gX4_passes_X2_lay rfl rfl rfl (by decide +kernel) ⟨Nat.le_of_ble_eq_true rfl, Nat.le_of_ble_eq_true rfl⟩) hK hP hD hS hA [1, 2, 3] [0, 4, 5, 6, 7, 8] [0, 1] rfl rfl (by decide) (by decide) (by decide) rfl 1 3 rfl rfl rfl rfl hl.1 rfl (Nat.le_of_ble_eq_true rfl) dX4_passes_33 ⟨Nat.zero_le _, Nat.zero_le _⟩ (fun u2_ H locs e2_ hP hD hS => ?_)
      obtain ⟨n, Z2, S2⟩ := u2_
      have hip := e2_
      have hP := hP.sub (ws' := [(xo, .inr (4, [.int (nI bn), .ref hp, .ref hi, .ref hh, .ref ht])), (hp, .inr (3, [.int (nI bn), .ref pz, .ref ps, .long (lN a), .int (nI n)])), (pz, aI cI 62 Z2), (ps, aJ cJ 63 S2), (hi, .inr (2, [.ref ia, .ref ib, .ref ic, .ref id, .int (nI gc), .int (nI tt)])), (ia, aJ cJ 512 P), (ib, aI cI 512 F), (ic, aI cI 512 C), (id, aI cI 512 O)]) [0, 6, 7, 8, 1, 2, 3, 4, 5] rfl
      have hD := hD.sub (ws' := [(xo, .inr (4, [.int (nI bn), .ref hp, .ref hi, .ref hh, .ref ht])), (hp, .inr (3, [.int (nI bn), .ref pz, .ref ps, .long (lN a), .int (nI n)])), (pz, aI cI 62 Z2), (ps, aJ cJ 63 S2), (hi, .inr (2, [.ref ia, .ref ib, .ref ic, .ref id, .int (nI gc), .int (nI tt)])), (ia, aJ cJ 512 P), (ib, aI cI 512 F), (ic, aI cI 512 C), (id, aI cI 512 O)]) [0, 6, 7, 8, 1, 2, 3, 4, 5] (by decide) rfl
      refine lv_aload_n hx hb dX4_passes_36 rfl (lv_at hl 0 rfl) ?_
      refine va_get (D := D) (ci := 4) (v := .ref hi) (C := RX4) (T := TX4) (N := 5) hx hb hts hinX4 hown hK hP 0 rfl rfl 2 (by decide) (hts (.fieldLink RX4 35 "PassSearch" "items" "LPassSearch$Items;") (by decide +kernel)) (fun _ h9 => h9) rfl dX4_passes_37 ?_
      refine WR_v.callV (rest := []) (wr := [(xo, .inr (4, [.int (nI bn), .ref hp, .ref hi, .ref hh, .ref ht])), (hp, .inr (3, [.int (nI bn), .ref pz, .ref ps, .long (lN a), .int (nI n)])), (pz, aI cI 62 Z2), (ps, aJ cJ 63 S2)]) (c_X1_clear l D cI cJ hi ia ib ic id gc tt P F C O) ⟨hx, hb, hml, hown, hts⟩ (cwV 0 hts gX4_passes_X1_clear rfl rfl rfl (by decide +kernel) ⟨Nat.le_of_ble_eq_true rfl, Nat.le_of_ble_eq_true rfl⟩) hK hP hD hS hA [4, 5, 6, 7, 8] [0, 1, 2, 3] [0, 1] rfl rfl (by decide) (by decide) (by decide) rfl 4 2 rfl rfl rfl rfl hl.1 rfl (Nat.le_of_ble_eq_true rfl) dX4_passes_40 ⟨Nat.zero_le _, Nat.zero_le _⟩ (fun u3_ H locs e3_ hP hD hS => ?_)
      have hP := hP.sub (ws' := [(xo, .inr (4, [.int (nI bn), .ref hp, .ref hi, .ref hh, .ref ht])), (hp, .inr (3, [.int (nI bn), .ref pz, .ref ps, .long (lN a), .int (nI n)])), (pz, aI cI 62 Z2), (ps, aJ cJ 63 S2), (hi, .inr (2, [.ref ia, .ref ib, .ref ic, .ref id, .int (nI 0), .int (nI 0)])), (ia, aJ cJ 512 P), (ib, aI cI 512 F), (ic, aI cI 512 C), (id, aI cI 512 O)]) [0, 1, 2, 3, 4, 5, 6, 7, 8] rfl
      have hD := hD.sub (ws' := [(xo, .inr (4, [.int (nI bn), .ref hp, .ref hi, .ref hh, .ref ht])), (hp, .inr (3, [.int (nI bn), .ref pz, .ref ps, .long (lN a), .int (nI n)])), (pz, aI cI 62 Z2), (ps, aJ cJ 63 S2), (hi, .inr (2, [.ref ia, .ref ib, .ref ic, .ref id, .int (nI 0), .int (nI 0)])), (ia, aJ cJ 512 P), (ib, aI cI 512 F), (ic, aI cI 512 C), (id, aI cI 512 O)]) [0, 1, 2, 3, 4, 5, 6, 7, 8] (by decide) rfl
      refine lv_aload_n hx hb dX4_passes_43 rfl (lv_at hl 0 rfl) ?_
      refine va_get (D := D) (ci := 4) (v := .ref hp) (C := RX4) (T := TX4) (N := 5) hx hb hts hinX4 hown hK hP 0 rfl rfl 1 (by decide) (hts (.fieldLink RX4 28 "PassSearch" "plan" "LPassSearch$Plan;") (by decide +kernel)) (fun _ h9 => h9) rfl dX4_passes_44 ?_
      refine RO_i.callV (rest := []) (c_X2_passCount l D cI cJ hp pz ps bn a n Z2 S2) ⟨hx, hb, hml, hown, hts⟩ (cwV 0 hts gX4_passes_X2_passCount rfl rfl rfl (by decide +kernel) ⟨Nat.le_of_ble_eq_true rfl, Nat.le_of_ble_eq_true rfl⟩) hK hP hS hA [1, 2, 3] [0, 1] rfl rfl 1 3 rfl rfl rfl rfl hl.1 rfl (Nat.le_of_ble_eq_true rfl) dX4_passes_47 ⟨Nat.zero_le _, Nat.zero_le _⟩ (fun v4_ H locs e4_ hP hS => ?_)
      obtain rfl : v4_ = nI n := e4_
      refine W.widen (k := 1) (n := 6) (by omega) (by omega) ?_
      exact hret _ ((a, n, Z2, S2, 0, 0)) _ _ _ _ hP hD hS (⟨c5, fun q => absurd c22 q, fun _ => ⟨n, Z2, S2, by rw [hxa]; exact hip, rfl, by rw [hxa]; rfl⟩⟩) dX4_passes_50
    · refine lv_bipush (v := (-2)) hx hb dX4_passes_25 (by decide) ?_
      refine W.widen (k := 1) (n := 6) (by omega) (by omega) ?_
      exact hret _ ((pt, pn, Z, S, gc, tt)) _ _ _ _ hP hD hS (⟨c5, fun _ => ⟨rfl, rfl⟩, fun q => absurd q c22⟩) dX4_passes_27
  · exact hthr RX4 "fewer than two bins" nmI 49 51 53 sa 8 _ _ _ hown (by decide +kernel) (by decide +kernel) (hts (.classLink RX4 49 clI) (by decide +kernel)) (hts (.initialized clI) (by decide +kernel)) hpx.1 (vx_hat (fun w hw => hts w (List.mem_cons_of_mem _ (List.mem_append_right _ hw))) zw_atI (zb_use hpx.2)) (by decide +kernel) hS hP (hl.1.trans hml.symm) dX4_passes_8 dX4_passes_11 dX4_passes_12 dX4_passes_14 dX4_passes_17 (Nat.le_of_ble_eq_true rfl) (Nat.le_of_ble_eq_true rfl) (Nat.le_of_ble_eq_true rfl) (Nat.le_of_ble_eq_true rfl) (Nat.le_of_ble_eq_true rfl) (Nat.le_of_ble_eq_true rfl) (by omega)
set_option maxHeartbeats 4000000 in
set_option maxRecDepth 100000 in
/-- digits -/
theorem c_X4_digits (l : Launch) (D : va_G) (cI cJ : ClassId) (htr : l.stackTraces = false) (xo hp hi hh ht bn : Nat) (pz ps pt pn : Nat) (Z S : Nat → Nat) (sa : Nat) (y : Int32) (hpn : pn ≤ 62) : VX_i (fun U => vk_R RX4 137 "no such pass" sa U ∧ ∀ w ∈ bdA, va_Nw w U) RJx00060 (¬ (0 ≤ y.toInt ∧ y.toInt < (pn : Int))) l yX4_digits wsX4_digitsB ({ frames := 8, cells := 1, slots := 6, locals := 110 } : Room) D [(xo, .inr (4, [.int (nI bn), .ref hp, .ref hi, .ref hh, .ref ht])), (hp, .inr (3, [.int (nI bn), .ref pz, .ref ps, .long (lN pt), .int (nI pn)])), (pz, aI cI 62 Z), (ps, aJ cJ 63 S)] [(cI, .int), (cJ, .long)] [.ref xo, .int y] (fun (_ : Unit) => [(xo, .inr (4, [.int (nI bn), .ref hp, .ref hi, .ref hh, .ref ht])), (hp, .inr (3, [.int (nI bn), .ref pz, .ref ps, .long (lN pt), .int (nI pn)])), (pz, aI cI 62 Z), (ps, aJ cJ 63 S)]) (fun v (_ : Unit) => (0 ≤ y.toInt ∧ y.toInt < (pn : Int)) ∧ v = nI (Z y.toInt.toNat)) 1 6 := by
  refine VX_i.of (cc := cX4_digits) (maxL := 2) htr (by decide) rfl (Nat.le_of_ble_eq_true rfl) ?_
  intro p e s m args below meth c ls A Q hx hb hml hts hown hA hP hD hK hl hin hpx hthr hret
  have hown : s.vm.findClass RX4 = some m.cls := hown
  have hl : lv_has ls 2 [(0, .ref xo), (1, .int y)] := hl
  have hS : va_S A s.heap s.heap [] := va_S.rf
  have hinX4 : ∀ w ∈ wsX40, w ∈ wsX4_digitsB := by decide +kernel
  refine lv_aload_n hx hb dX4_digits_0 rfl (lv_at hl 0 rfl) ?_
  refine va_get (D := D) (ci := 4) (v := .ref hp) (C := RX4) (T := TX4) (N := 5) hx hb hts hinX4 hown hK hP 0 rfl rfl 1 (by decide) (hts (.fieldLink RX4 28 "PassSearch" "plan" "LPassSearch$Plan;") (by decide +kernel)) (fun _ h9 => h9) rfl dX4_digits_1 ?_
  refine lv_iload_n hx hb dX4_digits_4 rfl (lv_at hl 1 rfl) ?_
  refine RO_i.callV (rest := []) (c_X2_hasPass l D cI cJ hp pz ps bn pt pn Z S y (by omega)) ⟨hx, hb, hml, hown, hts⟩ (cwV 1 hts (goodIn_up upX4_digits gX4_digits_X2_hasPass) rfl rfl rfl (by decide +kernel) ⟨Nat.le_of_ble_eq_true rfl, Nat.le_of_ble_eq_true rfl⟩) hK hP hS hA [1, 2, 3] [0, 1] rfl rfl 1 3 rfl rfl rfl rfl hl.1 rfl (Nat.le_of_ble_eq_true rfl) dX4_digits_5 ⟨Nat.zero_le _, Nat.zero_le _⟩ (fun v1_ H locs e1_ hP hS => ?_)
  obtain rfl : v1_ = bI (0 ≤ y.toInt ∧ y.toInt < (pn : Int)) := e1_
  refine zb_ne (tgt := 21) hx hb dX4_digits_8 (by decide) (fun c8 => ?_) (fun c8 => ?_)
  · obtain ⟨k, hk, rfl, hyk⟩ := i_of (x := y) (by omega)
    refine lv_aload_n hx hb dX4_digits_21 rfl (lv_at hl 0 rfl) ?_
    refine va_get (D := D) (ci := 4) (v := .ref hp) (C := RX4) (T := TX4) (N := 5) hx hb hts hinX4 hown hK hP 0 rfl rfl 1 (by decide) (hts (.fieldLink RX4 28 "PassSearch" "plan" "LPassSearch$Plan;") (by decide +kernel)) (fun _ h9 => h9) rfl dX4_digits_22 ?_
    refine lv_iload_n hx hb dX4_digits_25 rfl (lv_at hl 1 rfl) ?_
    refine RO_i.callV (rest := []) (c_X2_sizeOf l D cI cJ hp pz ps bn pt pn Z S k (by omega) hpn) ⟨hx, hb, hml, hown, hts⟩ (cwV 1 hts (goodIn_up upX4_digits gX4_digits_X2_sizeOf) rfl rfl rfl (by decide +kernel) ⟨Nat.le_of_ble_eq_true rfl, Nat.le_of_ble_eq_true rfl⟩) hK hP hS hA [1, 2, 3] [0, 1] rfl rfl 1 3 rfl rfl rfl rfl hl.1 rfl (Nat.le_of_ble_eq_true rfl) dX4_digits_26 ⟨Nat.zero_le _, Nat.zero_le _⟩ (fun v2_ H locs e2_ hP hS => ?_)
    obtain rfl : v2_ = nI (Z k) := e2_
    refine W.widen (k := 1) (n := 6) (by omega) (by omega) ?_
    exact hret _ (()) _ _ _ _ hP hD hS (⟨c8, by rw [hyk]; rfl⟩) dX4_digits_29
  · exact hthr RX4 "no such pass" nmA 135 137 139 sa 11 _ _ _ hown (by decide +kernel) (by decide +kernel) (hts (.classLink RX4 135 RJx00060) (by decide +kernel)) (hts (.initialized RJx00060) (by decide +kernel)) hpx.1 (vx_hat (fun w hw => hts w (List.mem_cons_of_mem _ (List.mem_append_right _ hw))) zw_atA (zb_use hpx.2)) (by decide +kernel) hS hP (hl.1.trans hml.symm) dX4_digits_11 dX4_digits_14 dX4_digits_15 dX4_digits_17 dX4_digits_20 (Nat.le_of_ble_eq_true rfl) (Nat.le_of_ble_eq_true rfl) (Nat.le_of_ble_eq_true rfl) (Nat.le_of_ble_eq_true rfl) (Nat.le_of_ble_eq_true rfl) (Nat.le_of_ble_eq_true rfl) (c8)
set_option maxHeartbeats 4000000 in
set_option maxRecDepth 100000 in
/-- the law's passes -/
theorem c_L_passes (l : Launch) (D : va_G) (cI cJ : ClassId) (htr : l.stackTraces = false) (xo hp hi hh ht bn : Nat) (pz ps pt pn : Nat) (Z S : Nat → Nat) (ia ib ic id gc tt : Nat) (P F C O : Nat → Nat) (ou : Nat) (ov : Nat → Nat) (sa : Nat) (x : Int64) (hbn : bn ≤ 65536) : LW_i (fun U => vk_R RX4 51 "fewer than two bins" sa U ∧ ∀ w ∈ bdI, va_Nw w U) l yL_passes wsL_passes ({ frames := 8, cells := 1, slots := 6, locals := 192 } : Room) D [(xo, .inr (4, [.int (nI bn), .ref hp, .ref hi, .ref hh, .ref ht])), (hp, .inr (3, [.int (nI bn), .ref pz, .ref ps, .long (lN pt), .int (nI pn)])), (pz, aI cI 62 Z), (ps, aJ cJ 63 S), (hi, .inr (2, [.ref ia, .ref ib, .ref ic, .ref id, .int (nI gc), .int (nI tt)])), (ia, aJ cJ 512 P), (ib, aI cI 512 F), (ic, aI cI 512 C), (id, aI cI 512 O), (ou, aJ cJ 1 ov)] [(cI, .int), (cJ, .long)] [.ref xo, .long x, .ref ou] (fun (u : Nat × Nat × (Nat → Nat) × (Nat → Nat) × Nat × Nat × (Nat → Nat)) => [(xo, .inr (4, [.int (nI bn), .ref hp, .ref hi, .ref hh, .ref ht])), (hp, .inr (3, [.int (nI bn), .ref pz, .ref ps, .long (lN u.1), .int (nI u.2.1)])), (pz, aI cI 62 u.2.2.1), (ps, aJ cJ 63 u.2.2.2.1), (hi, .inr (2, [.ref ia, .ref ib, .ref ic, .ref id, .int (nI u.2.2.2.2.1), .int (nI u.2.2.2.2.2.1)])), (ia, aJ cJ 512 P), (ib, aI cI 512 F), (ic, aI cI 512 C), (id, aI cI 512 O), (ou, aJ cJ 1 u.2.2.2.2.2.2)]) (fun v u => (bn < 2 → v = nI 1 ∧ u = (pt, pn, Z, S, gc, tt, ov)) ∧ (2 ≤ bn → v = nI 0 ∧ (¬ rnd x → u = (pt, pn, Z, S, gc, tt, uF ov 0 (lnat (-2)))) ∧ (rnd x → ∃ n Z2 S2, isPlan bn x.toInt.toNat n Z2 S2 ∧ u = (x.toInt.toNat, n, Z2, S2, 0, 0, uF ov 0 (lnat (nI n)))))) 1 6 := by
  refine LW_i.of (cc := cL_passes) (maxL := 5) (by decide) rfl (Nat.le_of_ble_eq_true rfl) ?_
  intro p e s m args below meth c ls A Q hx hb hml hts hown hA hP hD hK hl hZ hpx htab hret
  have hown : s.vm.findClass RL = some m.cls := hown
  have hl : lv_has ls 5 [(0, .ref xo), (1, .long x), (3, .ref ou)] := hl
  have hS : va_S A s.heap s.heap [] := va_S.rf
  refine lv_aload_n hx hb dL_passes_0 rfl (lv_at hl 2 rfl) ?_
  refine lv_iconst (v := nI 0) hx hb dL_passes_1 (by decide) ?_
  refine lv_aload_n hx hb dL_passes_2 rfl (lv_at hl 0 rfl) ?_
  refine lv_lload_n hx hb dL_passes_3 rfl (lv_at hl 1 rfl) ?_
  refine VX_i.callV (rest := [.int (nI 0), .ref ou]) (wr := [(ou, aJ cJ 1 ov)]) (c_X4_passes l D cI cJ htr xo hp hi hh ht bn pz ps pt pn Z S ia ib ic id gc tt P F C O sa x hbn) ⟨hx, hb, hml, hown, hts⟩ (cwV 1 hts gL_passes_X4_passes rfl rfl rfl (by decide +kernel) ⟨(Nat.le_of_ble_eq_true rfl), (Nat.le_of_ble_eq_true rfl)⟩) (fun U V h9 h8 => ⟨vk_R.same h9.symm h8.1, zb_same h9 h8.2⟩) (fun U hW => ⟨vk_R.warm hW hpx.1, zb_warm hW hpx.2⟩) hZ hK hP hD hS hA [0, 1, 2, 3, 4, 5, 6, 7, 8] [9] [0, 1] rfl rfl (by decide) (by decide) (by decide) rfl 0 4 rfl rfl rfl rfl hl.1 rfl (Nat.le_of_ble_eq_true rfl) dL_passes_4 ⟨(Nat.le_of_ble_eq_true rfl), (Nat.le_of_ble_eq_true rfl)⟩ (fun ce qx H locs hpc hP hD hS hce hcv hcl => zx_catch (own := RL) (name := clI) (E := clI) (x := ⟨0, 9, 12, 13⟩) hown htab (by decide) (by decide) (hts (.classLink RL 13 clI) (by decide +kernel)) (zb_use hpx.2 _ List.mem_cons_self) hce hcv hcl ?_) (fun v1_ u1_ H locs e1_ hP hD hS => ?_)
  · refine W.widen (k := 1) (n := 6) (Nat.le_of_ble_eq_true rfl) (Nat.le_of_ble_eq_true rfl) ?_
    refine lv_astore (lv' := [(4, .ref qx), (0, .ref xo), (1, .long x), (3, .ref ou)]) hx hb dL_passes_12 hl (by decide) rfl (fun ls hl => ?_)
    refine lv_iconst (v := nI 1) hx hb dL_passes_14 (by decide) ?_
    exact hret _ ((pt, pn, Z, S, gc, tt, ov)) _ _ _ _ hP hD hS (⟨fun _ => ⟨rfl, rfl⟩, fun q => by omega⟩) dL_passes_15
  · refine W.widen (k := 1) (n := 6) (Nat.le_of_ble_eq_true rfl) (Nat.le_of_ble_eq_true rfl) ?_
    obtain ⟨pt2, pn2, Z2, S2, gc2, tt2⟩ := u1_
    obtain ⟨hb2, hu1, hu2⟩ := e1_
    have hP := hP.sub (ws' := [(xo, .inr (4, [.int (nI bn), .ref hp, .ref hi, .ref hh, .ref ht])), (hp, .inr (3, [.int (nI bn), .ref pz, .ref ps, .long (lN pt2), .int (nI pn2)])), (pz, aI cI 62 Z2), (ps, aJ cJ 63 S2), (hi, .inr (2, [.ref ia, .ref ib, .ref ic, .ref id, .int (nI gc2), .int (nI tt2)])), (ia, aJ cJ 512 P), (ib, aI cI 512 F), (ic, aI cI 512 C), (id, aI cI 512 O), (ou, aJ cJ 1 ov)]) [1, 2, 3, 4, 5, 6, 7, 8, 9, 0] rfl
    have hD := hD.sub (ws' := [(xo, .inr (4, [.int (nI bn), .ref hp, .ref hi, .ref hh, .ref ht])), (hp, .inr (3, [.int (nI bn), .ref pz, .ref ps, .long (lN pt2), .int (nI pn2)])), (pz, aI cI 62 Z2), (ps, aJ cJ 63 S2), (hi, .inr (2, [.ref ia, .ref ib, .ref ic, .ref id, .int (nI gc2), .int (nI tt2)])), (ia, aJ cJ 512 P), (ib, aI cI 512 F), (ic, aI cI 512 C), (id, aI cI 512 O), (ou, aJ cJ 1 ov)]) [1, 2, 3, 4, 5, 6, 7, 8, 9, 0] (by decide) rfl
    refine lv_i2l hx hb dL_passes_7 (lnat_eq _) ?_
    refine zl_ast hx hb hK hP hD hS 9 1 rfl rfl (k := 0) (x := lnat v1_) (by omega) (by omega) dL_passes_8 (fun H locs hP hD hS => ?_)
    have hP : va_P D vwCl [(xo, .inr (4, [.int (nI bn), .ref hp, .ref hi, .ref hh, .ref ht])), (hp, .inr (3, [.int (nI bn), .ref pz, .ref ps, .long (lN pt2), .int (nI pn2)])), (pz, aI cI 62 Z2), (ps, aJ cJ 63 S2), (hi, .inr (2, [.ref ia, .ref ib, .ref ic, .ref id, .int (nI gc2), .int (nI tt2)])), (ia, aJ cJ 512 P), (ib, aI cI 512 F), (ic, aI cI 512 C), (id, aI cI 512 O), (ou, aJ cJ 1 (uF ov 0 (lnat v1_)))] H := hP
    have hD : va_D A [(xo, .inr (4, [.int (nI bn), .ref hp, .ref hi, .ref hh, .ref ht])), (hp, .inr (3, [.int (nI bn), .ref pz, .ref ps, .long (lN pt2), .int (nI pn2)])), (pz, aI cI 62 Z2), (ps, aJ cJ 63 S2), (hi, .inr (2, [.ref ia, .ref ib, .ref ic, .ref id, .int (nI gc2), .int (nI tt2)])), (ia, aJ cJ 512 P), (ib, aI cI 512 F), (ic, aI cI 512 C), (id, aI cI 512 O), (ou, aJ cJ 1 (uF ov 0 (lnat v1_)))] := hD
    refine lv_goto (tgt := 16) hx hb dL_passes_9 (by decide) ?_
    refine lv_iconst (v := nI 0) hx hb dL_passes_16 (by decide) ?_
    exact hret _ ((pt2, pn2, Z2, S2, gc2, tt2, uF ov 0 (lnat v1_))) _ _ _ _ hP hD hS (⟨fun q => by omega, fun _ => ⟨rfl, fun q => by
          obtain ⟨rfl, h9⟩ := hu1 q
          cases h9
          rfl, fun q => by
          obtain ⟨n, Z3, S3, h8, rfl, h9⟩ := hu2 q
          cases h9
          exact ⟨_, _, _, h8, rfl⟩⟩⟩) dL_passes_17
set_option maxHeartbeats 4000000 in
set_option maxRecDepth 100000 in
/-- the law's digits -/
theorem c_L_digits (l : Launch) (D : va_G) (cI cJ : ClassId) (htr : l.stackTraces = false) (xo hp hi hh ht bn : Nat) (pz ps pt pn : Nat) (Z S : Nat → Nat) (ou : Nat) (ov : Nat → Nat) (sa : Nat) (y : Int32) (hpn : pn ≤ 62) : LW_i (fun U => vk_R RX4 137 "no such pass" sa U ∧ ∀ w ∈ bdA, va_Nw w U) l yL_digits wsL_digitsB ({ frames := 9, cells := 1, slots := 6, locals := 131 } : Room) D [(xo, .inr (4, [.int (nI bn), .ref hp, .ref hi, .ref hh, .ref ht])), (hp, .inr (3, [.int (nI bn), .ref pz, .ref ps, .long (lN pt), .int (nI pn)])), (pz, aI cI 62 Z), (ps, aJ cJ 63 S), (ou, aJ cJ 1 ov)] [(cI, .int), (cJ, .long)] [.ref xo, .int y, .ref ou] (fun (u : Nat → Nat) => [(xo, .inr (4, [.int (nI bn), .ref hp, .ref hi, .ref hh, .ref ht])), (hp, .inr (3, [.int (nI bn), .ref pz, .ref ps, .long (lN pt), .int (nI pn)])), (pz, aI cI 62 Z), (ps, aJ cJ 63 S), (ou, aJ cJ 1 u)]) (fun v u => (¬ (0 ≤ y.toInt ∧ y.toInt < (pn : Int)) → v = nI 1 ∧ u = ov) ∧ (0 ≤ y.toInt ∧ y.toInt < (pn : Int) → v = nI 0 ∧ u = uF ov 0 (lnat (nI (Z y.toInt.toNat))))) 1 6 := by
  refine LW_i.of (cc := cL_digits) (maxL := 4) (by decide) rfl (Nat.le_of_ble_eq_true rfl) ?_
  intro p e s m args below meth c ls A Q hx hb hml hts hown hA hP hD hK hl hZ hpx htab hret
  have hown : s.vm.findClass RL = some m.cls := hown
  have hl : lv_has ls 4 [(0, .ref xo), (1, .int y), (2, .ref ou)] := hl
  have hS : va_S A s.heap s.heap [] := va_S.rf
  refine lv_aload_n hx hb dL_digits_0 rfl (lv_at hl 2 rfl) ?_
  refine lv_iconst (v := nI 0) hx hb dL_digits_1 (by decide) ?_
  refine lv_aload_n hx hb dL_digits_2 rfl (lv_at hl 0 rfl) ?_
  refine lv_iload_n hx hb dL_digits_3 rfl (lv_at hl 1 rfl) ?_
  refine VX_i.callV (rest := [.int (nI 0), .ref ou]) (wr := [(ou, aJ cJ 1 ov)]) (c_X4_digits l D cI cJ htr xo hp hi hh ht bn pz ps pt pn Z S sa y hpn) ⟨hx, hb, hml, hown, hts⟩ (cwV 1 hts gBv_X4_digits rfl rfl rfl (by decide +kernel) ⟨(Nat.le_of_ble_eq_true rfl), (Nat.le_of_ble_eq_true rfl)⟩) (fun U V h9 h8 => ⟨vk_R.same h9.symm h8.1, zb_same h9 h8.2⟩) (fun U hW => ⟨vk_R.warm hW hpx.1, zb_warm hW hpx.2⟩) hZ hK hP hD hS hA [0, 1, 2, 3] [4] [0, 1] rfl rfl (by decide) (by decide) (by decide) rfl 0 4 rfl rfl rfl rfl hl.1 rfl (Nat.le_of_ble_eq_true rfl) dL_digits_4 ⟨(Nat.le_of_ble_eq_true rfl), (Nat.le_of_ble_eq_true rfl)⟩ (fun ce qx H locs hpc hP hD hS hce hcv hcl => zx_catch (own := RL) (name := RJx00060) (E := RJx00060) (x := ⟨0, 9, 12, 19⟩) hown htab (by decide) (by decide) (hts (.classLink RL 19 RJx00060) (by decide +kernel)) (zb_use hpx.2 _ List.mem_cons_self) hce hcv hcl ?_) (fun v1_ u1_ H locs e1_ hP hD hS => ?_)
  · refine W.widen (k := 1) (n := 6) (Nat.le_of_ble_eq_true rfl) (Nat.le_of_ble_eq_true rfl) ?_
    refine lv_astore_n (lv' := [(3, .ref qx), (0, .ref xo), (1, .int y), (2, .ref ou)]) hx hb dL_digits_12 rfl hl (by decide) rfl (fun ls hl => ?_)
    refine lv_iconst (v := nI 1) hx hb dL_digits_13 (by decide) ?_
    exact hret _ (ov) _ _ _ _ hP hD hS (⟨fun _ => ⟨rfl, rfl⟩, fun q => absurd q hpc⟩) dL_digits_14
  · refine W.widen (k := 1) (n := 6) (Nat.le_of_ble_eq_true rfl) (Nat.le_of_ble_eq_true rfl) ?_
    obtain ⟨hu1, rfl⟩ := e1_
    have hP := hP.sub (ws' := [(xo, .inr (4, [.int (nI bn), .ref hp, .ref hi, .ref hh, .ref ht])), (hp, .inr (3, [.int (nI bn), .ref pz, .ref ps, .long (lN pt), .int (nI pn)])), (pz, aI cI 62 Z), (ps, aJ cJ 63 S), (ou, aJ cJ 1 ov)]) [1, 2, 3, 4, 0] rfl
    have hD := hD.sub (ws' := [(xo, .inr (4, [.int (nI bn), .ref hp, .ref hi, .ref hh, .ref ht])), (hp, .inr (3, [.int (nI bn), .ref pz, .ref ps, .long (lN pt), .int (nI pn)])), (pz, aI cI 62 Z), (ps, aJ cJ 63 S), (ou, aJ cJ 1 ov)]) [1, 2, 3, 4, 0] (by decide) rfl
    refine lv_i2l hx hb dL_digits_7 (lnat_eq _) ?_
    refine zl_ast hx hb hK hP hD hS 4 1 rfl rfl (k := 0) (x := lnat (nI (Z y.toInt.toNat))) (by omega) (by omega) dL_digits_8 (fun H locs hP hD hS => ?_)
    have hP : va_P D vwCl [(xo, .inr (4, [.int (nI bn), .ref hp, .ref hi, .ref hh, .ref ht])), (hp, .inr (3, [.int (nI bn), .ref pz, .ref ps, .long (lN pt), .int (nI pn)])), (pz, aI cI 62 Z), (ps, aJ cJ 63 S), (ou, aJ cJ 1 (uF ov 0 (lnat (nI (Z y.toInt.toNat)))))] H := hP
    have hD : va_D A [(xo, .inr (4, [.int (nI bn), .ref hp, .ref hi, .ref hh, .ref ht])), (hp, .inr (3, [.int (nI bn), .ref pz, .ref ps, .long (lN pt), .int (nI pn)])), (pz, aI cI 62 Z), (ps, aJ cJ 63 S), (ou, aJ cJ 1 (uF ov 0 (lnat (nI (Z y.toInt.toNat)))))] := hD
    refine lv_goto (tgt := 15) hx hb dL_digits_9 (by decide) ?_
    refine lv_iconst (v := nI 0) hx hb dL_digits_15 (by decide) ?_
    exact hret _ (uF ov 0 (lnat (nI (Z y.toInt.toNat)))) _ _ _ _ hP hD hS (⟨fun q => absurd hu1 q, fun _ => ⟨rfl, rfl⟩⟩) dL_digits_16
