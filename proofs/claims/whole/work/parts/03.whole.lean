/-- what no product passes -/
def sat (x : Nat) : Nat := min x 4611686018427387904
theorem sat_le {x : Nat} (h : x ≤ 4611686018427387904) : sat x = x := Nat.min_eq_left h
theorem sat_ge {x : Nat} (h : 4611686018427387904 ≤ x) : sat x = 4611686018427387904 := Nat.min_eq_right h
theorem sat_top (x : Nat) : sat x ≤ 4611686018427387904 := Nat.min_le_right _ _
theorem sat_lt (x : Nat) : sat x < 9223372036854775808 := Nat.lt_of_le_of_lt (sat_top x) (by decide)
theorem sat_mul (a : Nat) {b : Nat} (h : 1 ≤ b) : sat (sat a * b) = sat (a * b) := by
  rcases Nat.le_total a 4611686018427387904 with q | q
  · rw [sat_le q]
  · rw [sat_ge q, sat_ge (Nat.le_mul_of_pos_right _ h), sat_ge (Nat.le_trans q (Nat.le_mul_of_pos_right _ h))]
theorem sat_mul2 {a b : Nat} (h : 1 ≤ a) (hb : 1 ≤ b) : sat (sat a * sat b) = sat (a * b) := by
  have h1 : 1 ≤ sat b := by unfold sat; omega
  rw [sat_mul a h1, Nat.mul_comm, sat_mul b h, Nat.mul_comm]
theorem sat_pos {a : Nat} (h : 1 ≤ a) : 1 ≤ sat a := by unfold sat; omega
theorem le_sat {n x : Nat} (h : n ≤ 4611686018427387904) : n ≤ sat x ↔ n ≤ x := by unfold sat; omega
theorem sat_lt_iff {n x : Nat} (h : n ≤ 4611686018427387904) : sat x < n ↔ x < n := by unfold sat; omega
set_option maxHeartbeats 4000000 in
set_option maxRecDepth 100000 in
/-- quotient(a, b), b not 0 -/
theorem c_X3_quotient (l : Launch) (D : va_G) (a b : Nat) (ha : a < 9223372036854775808) (h0 : 1 ≤ b) (h1 : b < 9223372036854775808) : RO_l l yX3_quotient wsX3_quotient ({ frames := 0, cells := 0, slots := 0, locals := 0 } : Room) D [] [] [.long (lN a), .long (lN b)] (fun v => v = lN (a / b)) := by
  refine RO_l.of (cc := cX3_quotient) (maxL := 4) (by decide) rfl (Nat.le_of_ble_eq_true rfl) ?_
  intro p e s m args below meth c ls A Q hx hb hml hts hown hA hP hK hl hret
  have hown : s.vm.findClass RX3 = some m.cls := hown
  have hl : lv_has ls 4 [(0, .long (lN a)), (2, .long (lN b))] := hl
  have hS : va_S A s.heap s.heap [] := va_S.rf
  refine lv_lload_n hx hb dX3_quotient_0 rfl (lv_at hl 1 rfl) ?_
  refine lv_lconst (v := lN 1) hx hb dX3_quotient_1 (by decide) ?_
  refine zl_ge (tgt := 10) hx hb dX3_quotient_2 dX3_quotient_3 (by decide) (by omega) (by omega) (fun c2 => ?_) (fun c2 => ?_)
  · refine lv_lload_n hx hb dX3_quotient_10 rfl (lv_at hl 0 rfl) ?_
    refine lv_lload_n hx hb dX3_quotient_11 rfl (lv_at hl 1 rfl) ?_
    refine zl_div hx hb dX3_quotient_12 (by omega) (by omega) (by omega) ?_
    exact hret _ _ _ _ _ hS (rfl) dX3_quotient_13
  · exact False.elim (by omega)
set_option maxHeartbeats 4000000 in
set_option maxRecDepth 100000 in
/-- remainder(a, b), b not 0 -/
theorem c_X3_remainder (l : Launch) (D : va_G) (a b : Nat) (ha : a < 9223372036854775808) (h0 : 1 ≤ b) (h1 : b < 9223372036854775808) : RO_l l yX3_remainder wsX3_remainder ({ frames := 0, cells := 0, slots := 0, locals := 0 } : Room) D [] [] [.long (lN a), .long (lN b)] (fun v => v = lN (a % b)) := by
  refine RO_l.of (cc := cX3_remainder) (maxL := 4) (by decide) rfl (Nat.le_of_ble_eq_true rfl) ?_
  intro p e s m args below meth c ls A Q hx hb hml hts hown hA hP hK hl hret
  have hown : s.vm.findClass RX3 = some m.cls := hown
  have hl : lv_has ls 4 [(0, .long (lN a)), (2, .long (lN b))] := hl
  have hS : va_S A s.heap s.heap [] := va_S.rf
  refine lv_lload_n hx hb dX3_remainder_0 rfl (lv_at hl 1 rfl) ?_
  refine lv_lconst (v := lN 1) hx hb dX3_remainder_1 (by decide) ?_
  refine zl_ge (tgt := 10) hx hb dX3_remainder_2 dX3_remainder_3 (by decide) (by omega) (by omega) (fun c2 => ?_) (fun c2 => ?_)
  · refine lv_lload_n hx hb dX3_remainder_10 rfl (lv_at hl 0 rfl) ?_
    refine lv_lload_n hx hb dX3_remainder_11 rfl (lv_at hl 1 rfl) ?_
    refine zl_rem hx hb dX3_remainder_12 (by omega) (by omega) (by omega) ?_
    exact hret _ _ _ _ _ hS (rfl) dX3_remainder_13
  · exact False.elim (by omega)
set_option maxHeartbeats 4000000 in
set_option maxRecDepth 100000 in
/-- quotientUp(a, b), b not 0 -/
theorem c_X3_quotientUp (l : Launch) (D : va_G) (a b : Nat) (h0 : 1 ≤ b) (h1 : a + b < 2147483648) : RO_i l yX3_quotientUp wsX3_quotientUp ({ frames := 0, cells := 0, slots := 0, locals := 0 } : Room) D [] [] [.int (nI a), .int (nI b)] (fun v => v = nI ((a + b - 1) / b)) := by
  refine RO_i.of (cc := cX3_quotientUp) (maxL := 2) (by decide) rfl (Nat.le_of_ble_eq_true rfl) ?_
  intro p e s m args below meth c ls A Q hx hb hml hts hown hA hP hK hl hret
  have hown : s.vm.findClass RX3 = some m.cls := hown
  have hl : lv_has ls 2 [(0, .int (nI a)), (1, .int (nI b))] := hl
  have hS : va_S A s.heap s.heap [] := va_S.rf
  refine lv_iload_n hx hb dX3_quotientUp_0 rfl (lv_at hl 1 rfl) ?_
  refine lv_iconst (v := nI 1) hx hb dX3_quotientUp_1 (by decide) ?_
  refine zi_ge (tgt := 9) hx hb dX3_quotientUp_2 (by decide) (by omega) (by omega) (fun c2 => ?_) (fun c2 => ?_)
  · refine lv_iload_n hx hb dX3_quotientUp_9 rfl (lv_at hl 0 rfl) ?_
    refine lv_iload_n hx hb dX3_quotientUp_10 rfl (lv_at hl 1 rfl) ?_
    refine zi_add hx hb dX3_quotientUp_11  ?_
    refine lv_iconst (v := nI 1) hx hb dX3_quotientUp_12 (by decide) ?_
    refine zi_sub hx hb dX3_quotientUp_13 (by omega) ?_
    refine lv_iload_n hx hb dX3_quotientUp_14 rfl (lv_at hl 1 rfl) ?_
    refine zi_div hx hb dX3_quotientUp_15 (by omega) (by omega) (by omega) ?_
    exact hret _ _ _ _ _ hS (rfl) dX3_quotientUp_16
  · exact False.elim (by omega)
set_option maxHeartbeats 4000000 in
set_option maxRecDepth 100000 in
/-- product(a, b): never above 2 to the 62 -/
theorem c_X3_product (l : Launch) (D : va_G) (a b : Nat) (ha : a ≤ 4611686018427387904) (h0 : 1 ≤ b) (h1 : b ≤ 4611686018427387904) : RO_l l yX3_product wsX3_product ({ frames := 1, cells := 0, slots := 0, locals := 23 } : Room) D [] [] [.long (lN a), .long (lN b)] (fun v => v = lN (sat (a * b))) := by
  refine RO_l.of (cc := cX3_product) (maxL := 4) (by decide) rfl (Nat.le_of_ble_eq_true rfl) ?_
  intro p e s m args below meth c ls A Q hx hb hml hts hown hA hP hK hl hret
  have hown : s.vm.findClass RX3 = some m.cls := hown
  have hl : lv_has ls 4 [(0, .long (lN a)), (2, .long (lN b))] := hl
  have hS : va_S A s.heap s.heap [] := va_S.rf
  refine lv_lload_n hx hb dX3_product_0 rfl (lv_at hl 0 rfl) ?_
  refine lv_ldc2 (v := 4611686018427387904) hx hb hown (hts (.constantLong RX3 9 (4611686018427387904)) (by decide +kernel)) dX3_product_1 ?_
  refine W.eq (g2 := F0 m 4 ls [.long (lN 4611686018427387904), .long (lN a)]) rfl ?_
  refine lv_lload_n hx hb dX3_product_4 rfl (lv_at hl 1 rfl) ?_
  refine RO_l.callS (rest := [.long (lN a)]) (c_X3_quotient l D 4611686018427387904 b (by decide) h0 (by omega)) ⟨hx, hb, hml, hown, hts⟩ (va_cwS 2 hts gX3_product_X3_quotient rfl rfl rfl (by decide +kernel) ⟨Nat.le_of_ble_eq_true rfl, Nat.le_of_ble_eq_true rfl⟩) hK hP hS hA [] [] rfl rfl rfl hl.1 rfl (Nat.le_of_ble_eq_true rfl) dX3_product_5 ⟨Nat.zero_le _, Nat.zero_le _⟩ (fun v1_ H locs e1_ hP hS => ?_)
  obtain rfl : v1_ = lN (4611686018427387904 / b) := e1_
  refine zl_le (tgt := 18) hx hb dX3_product_8 dX3_product_9 (by decide) (by omega) (Nat.lt_of_le_of_lt (Nat.div_le_self _ _) (by decide)) (fun c8 => ?_) (fun c8 => ?_)
  · refine lv_lload_n hx hb dX3_product_18 rfl (lv_at hl 0 rfl) ?_
    refine lv_lload_n hx hb dX3_product_19 rfl (lv_at hl 1 rfl) ?_
    refine zl_mul hx hb dX3_product_20  ?_
    exact hret _ _ _ _ _ hS (congrArg lN (sat_le ((Nat.le_div_iff_mul_le (by omega)).mp c8)).symm) dX3_product_21
  · refine lv_ldc2 (v := 4611686018427387904) hx hb hown (hts (.constantLong RX3 9 (4611686018427387904)) (by decide +kernel)) dX3_product_12 ?_
    refine W.eq (g2 := F0 m 15 ls [.long (lN 4611686018427387904)]) rfl ?_
    refine lv_goto (tgt := 21) hx hb dX3_product_15 (by decide) ?_
    exact hret _ _ _ _ _ hS (congrArg lN (sat_ge (Nat.le_of_lt (Nat.lt_of_not_le fun q => absurd ((Nat.le_div_iff_mul_le (by omega)).mpr q) (Nat.not_le.mpr c8)))).symm) dX3_product_21
set_option maxHeartbeats 4000000 in
set_option maxRecDepth 100000 in
/-- power(b, n): never above 2 to the 62 -/
theorem c_X3_power (l : Launch) (D : va_G) (b n : Nat) (h0 : 1 ≤ b) (h1 : b ≤ 4611686018427387904) (hn : n < 2147483648) : RO_l l yX3_power wsX3_power ({ frames := 2, cells := 0, slots := 0, locals := 46 } : Room) D [] [] [.long (lN b), .int (nI n)] (fun v => v = lN (sat (b ^ n))) := by
  refine RO_l.of (cc := cX3_power) (maxL := 6) (by decide) rfl (Nat.le_of_ble_eq_true rfl) ?_
  intro p e s m args below meth c ls A Q hx hb hml hts hown hA hP hK hl hret
  have hown : s.vm.findClass RX3 = some m.cls := hown
  have hl : lv_has ls 6 [(0, .long (lN b)), (2, .int (nI n))] := hl
  have hS : va_S A s.heap s.heap [] := va_S.rf
  refine lv_lconst (v := lN 1) hx hb dX3_power_0 (by decide) ?_
  refine lv_topl (fun v1_ e1_ => ?_)
  obtain rfl : v1_ = lN (sat (b ^ 0)) := e1_.trans (congrArg lN (by rw [Nat.pow_zero]; rfl))
  refine lv_lstore_n (lv' := [(3, .long (lN (sat (b ^ 0)))), (0, .long (lN b)), (2, .int (nI n))]) hx hb dX3_power_1 rfl hl (by decide) rfl (fun ls hl => ?_)
  refine lv_iconst (v := nI 0) hx hb dX3_power_2 (by decide) ?_
  refine lv_istore (lv' := [(5, .int (nI 0)), (3, .long (lN (sat (b ^ 0)))), (0, .long (lN b)), (2, .int (nI n))]) hx hb dX3_power_3 hl (by decide) rfl (fun ls hl => ?_)
  have L5 : ∀ (nf : Nat) (k : Nat), (k ≤ n) → n - k < nf → ∀ (H : Heap) (locs : List Loc) (ls : Array Slot), va_P D vwCl [] H → va_S A s.heap H locs → lv_has ls 6 [(3, .long (lN (sat (b ^ k)))), (5, .int (nI k)), (0, .long (lN b)), (2, .int (nI n))] → W p l e ({ frames := 2, cells := 0, slots := 0, locals := 46 } : Room) s m args below meth c H locs 0 0 Q (F0 m 5 ls []) := by
    intro nf
    induction nf with
    | zero => intro k i1 hm; exact absurd hm (Nat.not_lt_zero _)
    | succ nf ih5 =>
      intro k i1 hm5 H locs ls hP hS hl
      refine lv_iload hx hb dX3_power_5 (lv_at hl 1 rfl) ?_
      refine lv_iload_n hx hb dX3_power_7 rfl (lv_at hl 3 rfl) ?_
      refine zi_ge (tgt := 23) hx hb dX3_power_8 (by decide) (by omega) (by omega) (fun c8 => ?_) (fun c8 => ?_)
      · refine lv_lload_n hx hb dX3_power_23 rfl (lv_at hl 0 rfl) ?_
        exact hret _ _ _ _ _ hS (by rw [show k = n by omega]) dX3_power_24
      · refine lv_lload_n hx hb dX3_power_11 rfl (lv_at hl 0 rfl) ?_
        refine lv_lload_n hx hb dX3_power_12 rfl (lv_at hl 2 rfl) ?_
        refine RO_l.callS (rest := []) (c_X3_product l D (sat (b ^ k)) b (sat_top _) h0 h1) ⟨hx, hb, hml, hown, hts⟩ (va_cwS 2 hts gX3_power_X3_product rfl rfl rfl (by decide +kernel) ⟨Nat.le_of_ble_eq_true rfl, Nat.le_of_ble_eq_true rfl⟩) hK hP hS hA [] [] rfl rfl rfl hl.1 rfl (Nat.le_of_ble_eq_true rfl) dX3_power_13 ⟨Nat.zero_le _, Nat.zero_le _⟩ (fun v2_ H locs e2_ hP hS => ?_)
        obtain rfl : v2_ = lN (sat (sat (b ^ k) * b)) := e2_
        refine lv_topl (fun v3_ e3_ => ?_)
        obtain rfl : v3_ = lN (sat (b ^ (k + 1))) := e3_.trans (congrArg lN (by rw [sat_mul _ h0, Nat.pow_succ]))
        refine lv_lstore_n (lv' := [(3, .long (lN (sat (b ^ (k + 1))))), (5, .int (nI k)), (0, .long (lN b)), (2, .int (nI n))]) hx hb dX3_power_16 rfl hl (by decide) rfl (fun ls hl => ?_)
        refine lv_iinc (v := nI (k + 1)) (lv' := [(5, .int (nI (k + 1))), (3, .long (lN (sat (b ^ (k + 1))))), (0, .long (lN b)), (2, .int (nI n))]) hx hb dX3_power_17 hl (k := 1) rfl (by rw [show Int32.ofInt 1 = nI 1 by decide, nI_add]) (by decide) rfl (fun ls hl => ?_)
        refine lv_goto (tgt := 5) hx hb dX3_power_20 (by decide) ?_
        exact ih5 (k + 1) (by omega) (by omega) _ _ _ hP hS (lv_sub hl [1, 0, 2, 3] rfl)
  exact L5 _ 0 (by omega) (Nat.lt_succ_self _) _ _ _ hP hS (lv_sub hl [1, 0, 2, 3] rfl)
