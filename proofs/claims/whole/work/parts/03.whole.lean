/-- what no product passes -/
def sat (x : Nat) : Nat := min x 4611686018427387904
theorem sat_le {x : Nat} (h : x ≤ 4611686018427387904) : sat x = x := Nat.min_eq_left h
theorem sat_ge {x : Nat} (h : 4611686018427387904 ≤ x) : sat x = 4611686018427387904 := Nat.min_eq_right h
theorem sat_top (x : Nat) : sat x ≤ 4611686018427387904 := Nat.min_le_right _ _
theorem sat_lt (x : Nat) : sat x < 9223372036854775808 := Nat.lt_of_le_of_lt (sat_top x) (by decide)
theorem sat_mul (a : Nat) {b : Nat} (h : 1 ≤ b) : sat (sat a * b) = sat (a * b) := by
  rcases Nat.le_total a 4611686018427387904 with q | q
  · rw [sat_le q]
  · rw [sat_ge q, sat_ge (Nat.le_mul_of_pos_right _ h), sat_ge (Nat.le_trans q (Nat.le_mul_of_pos_right _ h))]
theorem sat_mul2 {a b : Nat} (h : 1 ≤ a) (hb : 1 ≤ b) : sat (sat a * sat b) = sat (a * b) := by
  have h1 : 1 ≤ sat b := by unfold sat; omega
  rw [sat_mul a h1, Nat.mul_comm, sat_mul b h, Nat.mul_comm]
theorem sat_pos {a : Nat} (h : 1 ≤ a) : 1 ≤ sat a := by unfold sat; omega
theorem le_sat {n x : Nat} (h : n ≤ 4611686018427387904) : n ≤ sat x ↔ n ≤ x := by unfold sat; omega
theorem sat_lt_iff {n x : Nat} (h : n ≤ 4611686018427387904) : sat x < n ↔ x < n := by unfold sat; omega
set_option maxHeartbeats 4000000 in
set_option maxRecDepth 100000 in
/-- quotient(a, b), b not 0 -/
theorem c_X3_quotient (l : Launch) (D : va_G) (a b : Nat) (ha : a < 9223372036854775808) (h0 : 1 ≤ b) (h1 : b < 9223372036854775808) : RO_l l yX3_quotient wsX3_quotient ({ frames := 0, cells := 0, slots := 0, locals := 0 } : Room) D [] [] [.long (lN a), .long (lN b)] (fun v => v = lN (a / b)) := by
  refine RO_l.of (cc := cX3_quotient) (maxL := 4) (by decide) rfl (Nat.le_of_ble_eq_true rfl) ?_
  intro p e s m args below meth c ls A Q hx hb hml hts hown hA hP hK hl hret
  have hown : s.vm.findClass RX3 = some m.cls := hown
  have hl : lv_has ls 4 [(0, .long (lN a)), (2, .long (lN b))] := hl
  have hS : va_S A s.heap s.heap [] := va_S.rf
  refine lv_lload_n hx hb dX3_quotient_0 rfl (lv_at hl 1 rfl) ?_
  refine lv_lconst (v := lN 1) hx hb dX3_quotient_1 (by decide) ?_
  refine zl_ge (tgt := 10) hx hb dX3_quotient_2 dX3_quotient_3 (by decide) (by omega) (by omega) (fun c2 => ?_) (fun c2 => ?_)
  · refine lv_lload_n hx hb dX3_quotient_10 rfl (lv_at hl 0 rfl) ?_
    refine lv_lload_n hx hb dX3_quotient_11 rfl (lv_at hl 1 rfl) ?_
    refine zl_div hx hb dX3_quotient_12 (by omega) (by omega) (by omega) ?_
    exact hret _ _ _ _ _ hS (rfl) dX3_quotient_13
  · exact False.elim (by omega)
set_option maxHeartbeats 4000000 in
set_option maxRecDepth 100000 in
/-- remainder(a, b), b not 0 -/
theorem c_X3_remainder (l : Launch) (D : va_G) (a b : Nat) (ha : a < 9223372036854775808) (h0 : 1 ≤ b) (h1 : b < 9223372036854775808) : RO_l l yX3_remainder wsX3_remainder ({ frames := 0, cells := 0, slots := 0, locals := 0 } : Room) D [] [] [.long (lN a), .long (lN b)] (fun v => v = lN (a % b)) := by
  refine RO_l.of (cc := cX3_remainder) (maxL := 4) (by decide) rfl (Nat.le_of_ble_eq_true rfl) ?_
  intro p e s m args below meth c ls A Q hx hb hml hts hown hA hP hK hl hret
  have hown : s.vm.findClass RX3 = some m.cls := hown
  have hl : lv_has ls 4 [(0, .long (lN a)), (2, .long (lN b))] := hl
  have hS : va_S A s.heap s.heap [] := va_S.rf
  refine lv_lload_n hx hb dX3_remainder_0 rfl (lv_at hl 1 rfl) ?_
  refine lv_lconst (v := lN 1) hx hb dX3_remainder_1 (by decide) ?_
  refine zl_ge (tgt := 10) hx hb dX3_remainder_2 dX3_remainder_3 (by decide) (by omega) (by omega) (fun c2 => ?_) (fun c2 => ?_)
  · refine lv_lload_n hx hb dX3_remainder_10 rfl (lv_at hl 0 rfl) ?_
    refine lv_lload_n hx hb dX3_remainder_11 rfl (lv_at hl 1 rfl) ?_
    refine zl_rem hx hb dX3_remainder_12 (by omega) (by omega) (by omega) ?_
    exact hret _ _ _ _ _ hS (rfl) dX3_remainder_13
  · exact False.elim (by omega)
set_option maxHeartbeats 4000000 in
set_option maxRecDepth 100000 in
/-- quotientUp(a, b), b not 0 -/
theorem c_X3_quotientUp (l : Launch) (D : va_G) (a b : Nat) (h0 : 1 ≤ b) (h1 : a + b < 2147483648) : RO_i l yX3_quotientUp wsX3_quotientUp ({ frames := 0, cells := 0, slots := 0, locals := 0 } : Room) D [] [] [.int (nI a), .int (nI b)] (fun v => v = nI ((a + b - 1) / b)) := by
  refine RO_i.of (cc := cX3_quotientUp) (maxL := 2) (by decide) rfl (Nat.le_of_ble_eq_true rfl) ?_
  intro p e s m args below meth c ls A Q hx hb hml hts hown hA hP hK hl hret
  have hown : s.vm.findClass RX3 = some m.cls := hown
  have hl : lv_has ls 2 [(0, .int (nI a)), (1, .int (nI b))] := hl
  have hS : va_S A s.heap s.heap [] := va_S.rf
  refine lv_iload_n hx hb dX3_quotientUp_0 rfl (lv_at hl 1 rfl) ?_
  refine lv_iconst (v := nI 1) hx hb dX3_quotientUp_1 (by decide) ?_
  refine zi_ge (tgt := 9) hx hb dX3_quotientUp_2 (by decide) (by omega) (by omega) (fun c2 => ?_) (fun c2 => ?_)
  · refine lv_iload_n hx hb dX3_quotientUp_9 rfl (lv_at hl 0 rfl) ?_
    refine lv_iload_n hx hb dX3_quotientUp_10 rfl (lv_at hl 1 rfl) ?_
    refine zi_add hx hb dX3_quotientUp_11  ?_
    refine lv_iconst (v := nI 1) hx hb dX3_quotientUp_12 (by decide) ?_
    refine zi_sub hx hb dX3_quotientUp_13 (by omega) ?_
    refine lv_iload_n hx hb dX3_quotientUp_14 rfl (lv_at hl 1 rfl) ?_
    refine zi_div hx hb dX3_quotientUp_15 (by omega) (by omega) (by omega) ?_
    exact hret _ _ _ _ _ hS (rfl) dX3_quotientUp_16
  · exact False.elim (by omega)
set_option maxHeartbeats 4000000 in
set_option maxRecDepth 100000 in
/-- product(a, b): never above 2 to the 62 -/
theorem c_X3_product (l : Launch) (D : va_G) (a b : Nat) (ha : a ≤ 4611686018427387904) (h0 : 1 ≤ b) (h1 : b ≤ 4611686018427387904) : RO_l l yX3_product wsX3_product ({ frames := 1, cells := 0, slots := 0, locals := 23 } : Room) D [] [] [.long (lN a), .long (lN b)] (fun v => v = lN (sat (a * b))) := by
  refine RO_l.of (cc := cX3_product) (maxL := 4) (by decide) rfl (Nat.le_of_ble_eq_true rfl) ?_
  intro p e s m args below meth c ls A Q hx hb hml hts hown hA hP hK hl hret
  have hown : s.vm.findClass RX3 = some m.cls := hown
  have hl : lv_has ls 4 [(0, .long (lN a)), (2, .long (lN b))] := hl
  have hS : va_S A s.heap s.heap [] := va_S.rf
  refine lv_lload_n hx hb dX3_product_0 rfl (lv_at hl 0 rfl) ?_
  refine lv_ldc2 (v := 4611686018427387904) hx hb hown (hts (.constantLong RX3 9 (4611686018427387904)) (by decide +kernel)) dX3_product_1 ?_
  refine W.eq (g2 := F0 m 4 ls [.long (lN 4611686018427387904), .long (lN a)]) rfl ?_
  refine lv_lload_n hx hb dX3_product_4 rfl (lv_at hl 1 rfl) ?_
  refine RO_l.callS (rest := [.long (lN a)]) (c_X3_quotient l D 4611686018427387904 b (by decide) h0 (by omega)) ⟨hx, hb, hml, hown, hts⟩ (va_cwS 2 hts gX3_product_X3_quotient rfl rfl rfl (by decide +kernel) ⟨Nat.le_of_ble_eq_true rfl, Nat.le_of_ble_eq_true rfl⟩) hK hP hS hA [] [] rfl rfl rfl hl.1 rfl (Nat.le_of_ble_eq_true rfl) dX3_product_5 ⟨Nat.zero_le _, Nat.zero_le _⟩ (fun v1_ H locs e1_ hP hS => ?_)
  obtain rfl : v1_ = lN (4611686018427387904 / b) := e1_
  refine zl_le (tgt := 18) hx hb dX3_product_8 dX3_product_9 (by decide) (by omega) (Nat.lt_of_le_of_lt (Nat.div_le_self _ _) (by decide)) (fun c8 => ?_) (fun c8 => ?_)
  · refine lv_lload_n hx hb dX3_product_18 rfl (lv_at hl 0 rfl) ?_
    refine lv_lload_n hx hb dX3_product_19 rfl (lv_at hl 1 rfl) ?_
    refine zl_mul hx hb dX3_product_20  ?_
    exact hret _ _ _ _ _ hS (congrArg lN (sat_le ((Nat.le_div_iff_mul_le (by omega)).mp c8)).symm) dX3_product_21
  · refine lv_ldc2 (v := 4611686018427387904) hx hb hown (hts (.constantLong RX3 9 (4611686018427387904)) (by decide +kernel)) dX3_product_12 ?_
    refine W.eq (g2 := F0 m 15 ls [.long (lN 4611686018427387904)]) rfl ?_
    refine lv_goto (tgt := 21) hx hb dX3_product_15 (by decide) ?_
    exact hret _ _ _ _ _ hS (congrArg lN (sat_ge (Nat.le_of_lt (Nat.lt_of_not_le fun q => absurd ((Nat.le_div_iff_mul_le (by omega)).mpr q) (Nat.not_le.mpr c8)))).symm) dX3_product_21
set_option maxHeartbeats 4000000 in
set_option maxRecDepth 100000 in
/-- power(b, n): never above 2 to the 62 -/
theorem c_X3_power (l : Launch) (D : va_G) (b n : Nat) (h0 : 1 ≤ b) (h1 : b ≤ 4611686018427387904) (hn : n < 2147483648) : RO_l l yX3_power wsX3_power ({ frames := 2, cells := 0, slots := 0, locals := 46 } : Room) D [] [] [.long (lN b), .int (nI n)] (fun v => v = lN (sat (b ^ n))) := by
  refine RO_l.of (cc := cX3_power) (maxL := 6) (by decide) rfl (Nat.le_of_ble_eq_true rfl) ?_
  intro p e s m args below meth c ls A Q hx hb hml hts hown hA hP hK hl hret
  have hown : s.vm.findClass RX3 = some m.cls := hown
  have hl : lv_has ls 6 [(0, .long (lN b)), (2, .int (nI n))] := hl
  have hS : va_S A s.heap s.heap [] := va_S.rf
  refine lv_lconst (v := lN 1) hx hb dX3_power_0 (by decide) ?_
  refine lv_topl (fun v1_ e1_ => ?_)
  obtain rfl : v1_ = lN (sat (b ^ 0)) := e1_.trans (congrArg lN (by rw [Nat.pow_zero]; rfl))
  refine lv_lstore_n (lv' := [(3, .long (lN (sat (b ^ 0)))), (0, .long (lN b)), (2, .int (nI n))]) hx hb dX3_power_1 rfl hl (by decide) rfl (fun ls hl => ?_)
  refine lv_iconst (v := nI 0) hx hb dX3_power_2 (by decide) ?_
  refine lv_istore (lv' := [(5, .int (nI 0)), (3, .long (lN (sat (b ^ 0)))), (0, .long (lN b)), (2, .int (nI n))]) hx hb dX3_power_3 hl (by decide) rfl (fun ls hl => ?_)
  have L5 : ∀ (nf : Nat) (k : Nat), (k ≤ n) → n - k < nf → ∀ (H : Heap) (locs : List Loc) (ls : Array Slot), va_P D vwCl [] H → va_S A s.heap H locs → lv_has ls 6 [(3, .long (lN (sat (b ^ k)))), (5, .int (nI k)), (0, .long (lN b)), (2, .int (nI n))] → W p l e ({ frames := 2, cells := 0, slots := 0, locals := 46 } : Room) s m args below meth c H locs 0 0 Q (F0 m 5 ls []) := by
    intro nf
    induction nf with
    | zero => intro k i1 hm; exact absurd hm (Nat.not_lt_zero _)
    | succ nf ih5 =>
      intro k i1 hm5 H locs ls hP hS hl
      refine lv_iload hx hb dX3_power_5 (lv_at hl 1 rfl) ?_
      refine lv_iload_n hx hb dX3_power_7 rfl (lv_at hl 3 rfl) ?_
      refine zi_ge (tgt := 23) hx hb dX3_power_8 (by decide) (by omega) (by omega) (fun c8 => ?_) (fun c8 => ?_)
      · refine lv_lload_n hx hb dX3_power_23 rfl (lv_at hl 0 rfl) ?_
        exact hret _ _ _ _ _ hS (by rw [show k = n by omega]) dX3_power_24
      · refine lv_lload_n hx hb dX3_power_11 rfl (lv_at hl 0 rfl) ?_
        refine lv_lload_n hx hb dX3_power_12 rfl (lv_at hl 2 rfl) ?_
        refine RO_l.callS (rest := []) (c_X3_product l D (sat (b ^ k)) b (sat_top _) h0 h1) ⟨hx, hb, hml, hown, hts⟩ (va_cwS 2 hts gX3_power_X3_product rfl rfl rfl (by decide +kernel) ⟨Nat.le_of_ble_eq_true rfl, Nat.le_of_ble_eq_true rfl⟩) hK hP hS hA [] [] rfl rfl rfl hl.1 rfl (Nat.le_of_ble_eq_true rfl) dX3_power_13 ⟨Nat.zero_le _, Nat.zero_le _⟩ (fun v2_ H locs e2_ hP hS => ?_)
        obtain rfl : v2_ = lN (sat (sat (b ^ k) * b)) := e2_
        refine lv_topl (fun v3_ e3_ => ?_)
        obtain rfl : v3_ = lN (sat (b ^ (k + 1))) := e3_.trans (congrArg lN (by rw [sat_mul _ h0, Nat.pow_succ]))
        refine lv_lstore_n (lv' := [(3, .long (lN (sat (b ^ (k + 1))))), (5, .int (nI k)), (0, .long (lN b)), (2, .int (nI n))]) hx hb dX3_power_16 rfl hl (by decide) rfl (fun ls hl => ?_)
        refine lv_iinc (v := nI (k + 1)) (lv' := [(5, .int (nI (k + 1))), (3, .long (lN (sat (b ^ (k + 1))))), (0, .long (lN b)), (2, .int (nI n))]) hx hb dX3_power_17 hl (k := 1) rfl (by rw [show Int32.ofInt 1 = nI 1 by decide, nI_add]) (by decide) rfl (fun ls hl => ?_)
        refine lv_goto (tgt := 5) hx hb dX3_power_20 (by decide) ?_
        exact ih5 (k + 1) (by omega) (by omega) _ _ _ hP hS (lv_sub hl [1, 0, 2, 3] rfl)
  exact L5 _ 0 (by omega) (Nat.lt_succ_self _) _ _ _ hP hS (lv_sub hl [1, 0, 2, 3] rfl)
/-- so many passes are just as many as are needed -/
def isExp (b q x : Nat) : Prop := q ≤ b ^ x ∧ ∀ j, j < x → b ^ j < q
theorem isExp_one {b q x y : Nat} (h1 : isExp b q x) (h2 : isExp b q y) : x = y := by
  rcases Nat.lt_trichotomy x y with h | h | h
  · exact absurd (h2.2 x h) (Nat.not_lt.mpr h1.1)
  · exact h
  · exact absurd (h1.2 y h) (Nat.not_lt.mpr h2.1)
theorem pow62 {b : Nat} (h : 2 ≤ b) : 4611686018427387904 ≤ b ^ 62 := Nat.le_trans (by decide) (Nat.pow_le_pow_left h 62)
theorem half64 {t : Nat} (h : t < 64) : 2 ^ (64 - t) = 2 * 2 ^ (64 - (t + 1)) := by
  rw [show 64 - t = (64 - (t + 1)) + 1 by omega, Nat.pow_succ, Nat.mul_comm]
/-- the least base, up to mo -/
def isBase (q n mo x : Nat) : Prop := 2 ≤ x ∧ x ≤ mo + 1 ∧ (∀ b, 2 ≤ b → b < x → b ^ n < q) ∧ (x ≤ mo → q ≤ x ^ n)
/-- the widest product of n numbers with the sum z -/
def wide (z n : Nat) : Nat := (z / n + 1) ^ (z % n) * (z / n) ^ (n - z % n)
set_option maxHeartbeats 4000000 in
set_option maxRecDepth 100000 in
/-- leastExponent -/
theorem c_X3_leastExponent (l : Launch) (D : va_G) (b q : Nat) (h0 : 2 ≤ b) (h1 : b ≤ 4611686018427387904) (hq : q ≤ 4611686018427387904) : RO_i l yX3_leastExponent wsX3_leastExponent ({ frames := 2, cells := 0, slots := 0, locals := 46 } : Room) D [] [] [.long (lN b), .long (lN q)] (fun v => ∃ x, v = nI x ∧ x ≤ 62 ∧ isExp b q x) := by
  refine RO_i.of (cc := cX3_leastExponent) (maxL := 7) (by decide) rfl (Nat.le_of_ble_eq_true rfl) ?_
  intro p e s m args below meth c ls A Q hx hb hml hts hown hA hP hK hl hret
  have hown : s.vm.findClass RX3 = some m.cls := hown
  have hl : lv_has ls 7 [(0, .long (lN b)), (2, .long (lN q))] := hl
  have hS : va_S A s.heap s.heap [] := va_S.rf
  refine lv_lconst (v := lN 1) hx hb dX3_leastExponent_0 (by decide) ?_
  refine lv_topl (fun v1_ e1_ => ?_)
  obtain rfl : v1_ = lN (sat (b ^ 0)) := e1_.trans (congrArg lN (by rw [Nat.pow_zero]; rfl))
  refine lv_lstore (lv' := [(4, .long (lN (sat (b ^ 0)))), (0, .long (lN b)), (2, .long (lN q))]) hx hb dX3_leastExponent_1 hl (by decide) rfl (fun ls hl => ?_)
  refine lv_iconst (v := nI 0) hx hb dX3_leastExponent_3 (by decide) ?_
  refine lv_istore (lv' := [(6, .int (nI 0)), (4, .long (lN (sat (b ^ 0)))), (0, .long (lN b)), (2, .long (lN q))]) hx hb dX3_leastExponent_4 hl (by decide) rfl (fun ls hl => ?_)
  have L6 : ∀ (nf : Nat) (k : Nat), (k ≤ 62) → (∀ j, j < k → b ^ j < q) → 62 - k < nf → ∀ (H : Heap) (locs : List Loc) (ls : Array Slot), va_P D vwCl [] H → va_S A s.heap H locs → lv_has ls 7 [(4, .long (lN (sat (b ^ k)))), (6, .int (nI k)), (0, .long (lN b)), (2, .long (lN q))] → W p l e ({ frames := 2, cells := 0, slots := 0, locals := 46 } : Room) s m args below meth c H locs 0 0 Q (F0 m 6 ls []) := by
    intro nf
    induction nf with
    | zero => intro k i1 i2 hm; exact absurd hm (Nat.not_lt_zero _)
    | succ nf ih6 =>
      intro k i1 i2 hm6 H locs ls hP hS hl
      refine lv_iload hx hb dX3_leastExponent_6 (lv_at hl 1 rfl) ?_
      refine lv_bipush (v := nI 62) hx hb dX3_leastExponent_8 (by decide) ?_
      refine zi_ge (tgt := 34) hx hb dX3_leastExponent_10 (by decide) (by omega) (by omega) (fun c10 => ?_) (fun c10 => ?_)
      · refine lv_iload hx hb dX3_leastExponent_34 (lv_at hl 1 rfl) ?_
        exact hret _ _ _ _ _ hS (⟨k, rfl, i1, by rw [show k = 62 by omega]; exact Nat.le_trans hq (pow62 h0), i2⟩) dX3_leastExponent_36
      · refine lv_lload hx hb dX3_leastExponent_13 (lv_at hl 0 rfl) ?_
        refine lv_lload_n hx hb dX3_leastExponent_15 rfl (lv_at hl 3 rfl) ?_
        refine zl_ge (tgt := 34) hx hb dX3_leastExponent_16 dX3_leastExponent_17 (by decide) (sat_lt _) (by omega) (fun c16 => ?_) (fun c16 => ?_)
        · refine lv_iload hx hb dX3_leastExponent_34 (lv_at hl 1 rfl) ?_
          exact hret _ _ _ _ _ hS (⟨k, rfl, i1, (le_sat hq).mp c16, i2⟩) dX3_leastExponent_36
        · refine lv_lload hx hb dX3_leastExponent_20 (lv_at hl 0 rfl) ?_
          refine lv_lload_n hx hb dX3_leastExponent_22 rfl (lv_at hl 2 rfl) ?_
          refine RO_l.callS (rest := []) (c_X3_product l D (sat (b ^ k)) b (sat_top _) (by omega) h1) ⟨hx, hb, hml, hown, hts⟩ (va_cwS 2 hts gX3_leastExponent_X3_product rfl rfl rfl (by decide +kernel) ⟨Nat.le_of_ble_eq_true rfl, Nat.le_of_ble_eq_true rfl⟩) hK hP hS hA [] [] rfl rfl rfl hl.1 rfl (Nat.le_of_ble_eq_true rfl) dX3_leastExponent_23 ⟨Nat.zero_le _, Nat.zero_le _⟩ (fun v2_ H locs e2_ hP hS => ?_)
          obtain rfl : v2_ = lN (sat (sat (b ^ k) * b)) := e2_
          refine lv_topl (fun v3_ e3_ => ?_)
          obtain rfl : v3_ = lN (sat (b ^ (k + 1))) := e3_.trans (congrArg lN (by rw [sat_mul _ (by omega), Nat.pow_succ]))
          refine lv_lstore (lv' := [(4, .long (lN (sat (b ^ (k + 1))))), (6, .int (nI k)), (0, .long (lN b)), (2, .long (lN q))]) hx hb dX3_leastExponent_26 hl (by decide) rfl (fun ls hl => ?_)
          refine lv_iinc (v := nI (k + 1)) (lv' := [(6, .int (nI (k + 1))), (4, .long (lN (sat (b ^ (k + 1))))), (0, .long (lN b)), (2, .long (lN q))]) hx hb dX3_leastExponent_28 hl (k := 1) rfl (by rw [show Int32.ofInt 1 = nI 1 by decide, nI_add]) (by decide) rfl (fun ls hl => ?_)
          refine lv_goto (tgt := 6) hx hb dX3_leastExponent_31 (by decide) ?_
          exact ih6 (k + 1) (by omega) (fun j hj => if hk : j < k then i2 j hk else by rw [show j = k by omega]; exact (sat_lt_iff hq).mp c16) (by omega) _ _ _ hP hS (lv_sub hl [1, 0, 2, 3] rfl)
  exact L6 _ 0 (by omega) (fun j hj => absurd hj (Nat.not_lt_zero _)) (Nat.lt_succ_self _) _ _ _ hP hS (lv_sub hl [1, 0, 2, 3] rfl)
set_option maxHeartbeats 4000000 in
set_option maxRecDepth 100000 in
/-- leastBase -/
theorem c_X3_leastBase (l : Launch) (D : va_G) (q n mo : Nat) (hq : q ≤ 4611686018427387904) (hn : n < 2147483648) (h0 : 1 ≤ mo) (h1 : mo ≤ 2147483648) : RO_l l yX3_leastBase wsX3_leastBase ({ frames := 3, cells := 0, slots := 0, locals := 71 } : Room) D [] [] [.long (lN q), .int (nI n), .long (lN mo)] (fun v => ∃ x, v = lN x ∧ isBase q n mo x) := by
  refine RO_l.of (cc := cX3_leastBase) (maxL := 12) (by decide) rfl (Nat.le_of_ble_eq_true rfl) ?_
  intro p e s m args below meth c ls A Q hx hb hml hts hown hA hP hK hl hret
  have hown : s.vm.findClass RX3 = some m.cls := hown
  have hl : lv_has ls 12 [(0, .long (lN q)), (2, .int (nI n)), (3, .long (lN mo))] := hl
  have hS : va_S A s.heap s.heap [] := va_S.rf
  refine lv_ldc2 (v := 2) hx hb hown (hts (.constantLong RX3 20 (2)) (by decide +kernel)) dX3_leastBase_0 ?_
  refine W.eq (g2 := F0 m 3 ls [.long (lN 2)]) rfl ?_
  refine lv_lstore (lv' := [(5, .long (lN 2)), (0, .long (lN q)), (2, .int (nI n)), (3, .long (lN mo))]) hx hb dX3_leastBase_3 hl (by decide) rfl (fun ls hl => ?_)
  refine lv_lload_n hx hb dX3_leastBase_5 rfl (lv_at hl 3 rfl) ?_
  refine lv_lconst (v := lN 1) hx hb dX3_leastBase_6 (by decide) ?_
  refine zl_add hx hb dX3_leastBase_7  ?_
  refine lv_lstore (lv' := [(7, .long (lN (mo + 1))), (5, .long (lN 2)), (0, .long (lN q)), (2, .int (nI n)), (3, .long (lN mo))]) hx hb dX3_leastBase_8 hl (by decide) rfl (fun ls hl => ?_)
  refine lv_iconst (v := nI 0) hx hb dX3_leastBase_10 (by decide) ?_
  refine lv_istore (lv' := [(9, .int (nI 0)), (7, .long (lN (mo + 1))), (5, .long (lN 2)), (0, .long (lN q)), (2, .int (nI n)), (3, .long (lN mo))]) hx hb dX3_leastBase_11 hl (by decide) rfl (fun ls hl => ?_)
  have L13 : ∀ (nf : Nat) (lo : Nat) (hi : Nat) (t : Nat), (2 ≤ lo ∧ lo ≤ hi ∧ hi ≤ mo + 1 ∧ t ≤ 64) → (hi - lo < 2 ^ (64 - t)) → (∀ b, 2 ≤ b → b < lo → b ^ n < q) → (hi ≤ mo → q ≤ hi ^ n) → 64 - t < nf → ∀ (H : Heap) (locs : List Loc) (ls : Array Slot), va_P D vwCl [] H → va_S A s.heap H locs → lv_has ls 12 [(5, .long (lN lo)), (7, .long (lN hi)), (9, .int (nI t)), (0, .long (lN q)), (2, .int (nI n)), (3, .long (lN mo))] → W p l e ({ frames := 3, cells := 0, slots := 0, locals := 71 } : Room) s m args below meth c H locs 0 0 Q (F0 m 13 ls []) := by
    intro nf
    induction nf with
    | zero => intro lo hi t i1 i2 i3 i4 hm; exact absurd hm (Nat.not_lt_zero _)
    | succ nf ih13 =>
      intro lo hi t i1 i2 i3 i4 hm13 H locs ls hP hS hl
      refine lv_iload hx hb dX3_leastBase_13 (lv_at hl 2 rfl) ?_
      refine lv_bipush (v := nI 64) hx hb dX3_leastBase_15 (by decide) ?_
      refine zi_ge (tgt := 69) hx hb dX3_leastBase_17 (by decide) (by omega) (by omega) (fun c17 => ?_) (fun c17 => ?_)
      · refine lv_lload hx hb dX3_leastBase_69 (lv_at hl 0 rfl) ?_
        exact hret _ _ _ _ _ hS (⟨lo, rfl, by omega, by omega, i3, by rw [show 64 - t = 0 by omega] at i2; rw [show lo = hi by omega]; exact i4⟩) dX3_leastBase_71
      · refine lv_lload hx hb dX3_leastBase_20 (lv_at hl 0 rfl) ?_
        refine lv_lload hx hb dX3_leastBase_22 (lv_at hl 1 rfl) ?_
        refine zl_ge (tgt := 69) hx hb dX3_leastBase_24 dX3_leastBase_25 (by decide) (by omega) (by omega) (fun c24 => ?_) (fun c24 => ?_)
        · refine lv_lload hx hb dX3_leastBase_69 (lv_at hl 0 rfl) ?_
          exact hret _ _ _ _ _ hS (⟨lo, rfl, by omega, by omega, i3, by rw [show lo = hi by omega]; exact i4⟩) dX3_leastBase_71
        · refine lv_lload hx hb dX3_leastBase_28 (lv_at hl 0 rfl) ?_
          refine lv_lload hx hb dX3_leastBase_30 (lv_at hl 1 rfl) ?_
          refine zl_add hx hb dX3_leastBase_32  ?_
          refine lv_ldc2 (v := 2) hx hb hown (hts (.constantLong RX3 20 (2)) (by decide +kernel)) dX3_leastBase_33 ?_
          refine W.eq (g2 := F0 m 36 ls [.long (lN 2), .long (lN (lo + hi))]) rfl ?_
          refine zl_div hx hb dX3_leastBase_36 (by omega) (by omega) (by omega) ?_
          refine lv_lstore (lv' := [(10, .long (lN ((lo + hi) / 2))), (5, .long (lN lo)), (7, .long (lN hi)), (9, .int (nI t)), (0, .long (lN q)), (2, .int (nI n)), (3, .long (lN mo))]) hx hb dX3_leastBase_37 hl (by decide) rfl (fun ls hl => ?_)
          refine lv_lload hx hb dX3_leastBase_39 (lv_at hl 0 rfl) ?_
          refine lv_iload_n hx hb dX3_leastBase_41 rfl (lv_at hl 5 rfl) ?_
          refine RO_l.callS (rest := []) (c_X3_power l D ((lo + hi) / 2) n (by omega) (by omega) hn) ⟨hx, hb, hml, hown, hts⟩ (va_cwS 2 hts gX3_leastBase_X3_power rfl rfl rfl (by decide +kernel) ⟨Nat.le_of_ble_eq_true rfl, Nat.le_of_ble_eq_true rfl⟩) hK hP hS hA [] [] rfl rfl rfl hl.1 rfl (Nat.le_of_ble_eq_true rfl) dX3_leastBase_42 ⟨Nat.zero_le _, Nat.zero_le _⟩ (fun v1_ H locs e1_ hP hS => ?_)
          obtain rfl : v1_ = lN (sat (((lo + hi) / 2) ^ n)) := e1_
          refine lv_lload_n hx hb dX3_leastBase_45 rfl (lv_at hl 4 rfl) ?_
          refine zl_lt (tgt := 57) hx hb dX3_leastBase_46 dX3_leastBase_47 (by decide) (sat_lt _) (by omega) (fun c46 => ?_) (fun c46 => ?_)
          · refine lv_lload hx hb dX3_leastBase_57 (lv_at hl 0 rfl) ?_
            refine lv_lconst (v := lN 1) hx hb dX3_leastBase_59 (by decide) ?_
            refine zl_add hx hb dX3_leastBase_60  ?_
            refine lv_lstore (lv' := [(5, .long (lN (((lo + hi) / 2) + 1))), (10, .long (lN ((lo + hi) / 2))), (7, .long (lN hi)), (9, .int (nI t)), (0, .long (lN q)), (2, .int (nI n)), (3, .long (lN mo))]) hx hb dX3_leastBase_61 hl (by decide) rfl (fun ls hl => ?_)
            refine lv_iinc (v := nI (t + 1)) (lv' := [(9, .int (nI (t + 1))), (5, .long (lN (((lo + hi) / 2) + 1))), (10, .long (lN ((lo + hi) / 2))), (7, .long (lN hi)), (0, .long (lN q)), (2, .int (nI n)), (3, .long (lN mo))]) hx hb dX3_leastBase_63 hl (k := 3) rfl (by rw [show Int32.ofInt 1 = nI 1 by decide, nI_add]) (by decide) rfl (fun ls hl => ?_)
            refine lv_goto (tgt := 13) hx hb dX3_leastBase_66 (by decide) ?_
            have h64 := half64 (t := t) (by omega)
            exact ih13 (((lo + hi) / 2) + 1) hi (t + 1) (by omega) (by omega) (fun b h2 h3 => Nat.lt_of_le_of_lt (Nat.pow_le_pow_left (show b ≤ (lo + hi) / 2 by omega) n) ((sat_lt_iff hq).mp c46)) (i4) (by omega) _ _ _ hP hS (lv_sub hl [1, 3, 0, 4, 5, 6] rfl)
          · refine lv_lload hx hb dX3_leastBase_50 (lv_at hl 0 rfl) ?_
            refine lv_lstore (lv' := [(7, .long (lN ((lo + hi) / 2))), (10, .long (lN ((lo + hi) / 2))), (5, .long (lN lo)), (9, .int (nI t)), (0, .long (lN q)), (2, .int (nI n)), (3, .long (lN mo))]) hx hb dX3_leastBase_52 hl (by decide) rfl (fun ls hl => ?_)
            refine lv_goto (tgt := 63) hx hb dX3_leastBase_54 (by decide) ?_
            refine lv_iinc (v := nI (t + 1)) (lv' := [(9, .int (nI (t + 1))), (7, .long (lN ((lo + hi) / 2))), (10, .long (lN ((lo + hi) / 2))), (5, .long (lN lo)), (0, .long (lN q)), (2, .int (nI n)), (3, .long (lN mo))]) hx hb dX3_leastBase_63 hl (k := 3) rfl (by rw [show Int32.ofInt 1 = nI 1 by decide, nI_add]) (by decide) rfl (fun ls hl => ?_)
            refine lv_goto (tgt := 13) hx hb dX3_leastBase_66 (by decide) ?_
            have h64 := half64 (t := t) (by omega)
            exact ih13 lo ((lo + hi) / 2) (t + 1) (by omega) (by omega) (i3) (fun _ => (le_sat hq).mp c46) (by omega) _ _ _ hP hS (lv_sub hl [3, 1, 0, 4, 5, 6] rfl)
  exact L13 _ 2 (mo + 1) 0 (by omega) (Nat.lt_of_le_of_lt (show mo + 1 - 2 ≤ 2147483648 by omega) (by decide)) (fun b h2 h3 => by omega) (fun h => by omega) (Nat.lt_succ_self _) _ _ _ hP hS (lv_sub hl [2, 1, 0, 3, 4, 5] rfl)
set_option maxHeartbeats 4000000 in
set_option maxRecDepth 100000 in
/-- widestProduct -/
theorem c_X3_widestProduct (l : Launch) (D : va_G) (z n : Nat) (h0 : 1 ≤ n) (h1 : n ≤ z) (h2 : z < 2147483647) : RO_l l yX3_widestProduct wsX3_widestProduct ({ frames := 3, cells := 0, slots := 0, locals := 71 } : Room) D [] [] [.int (nI z), .int (nI n)] (fun v => v = lN (sat (wide z n))) := by
  refine RO_l.of (cc := cX3_widestProduct) (maxL := 4) (by decide) rfl (Nat.le_of_ble_eq_true rfl) ?_
  intro p e s m args below meth c ls A Q hx hb hml hts hown hA hP hK hl hret
  have hown : s.vm.findClass RX3 = some m.cls := hown
  have hl : lv_has ls 4 [(0, .int (nI z)), (1, .int (nI n))] := hl
  have hS : va_S A s.heap s.heap [] := va_S.rf
  have hd : z / n ≤ z := Nat.div_le_self _ _
  have hd1 : 1 ≤ z / n := Nat.div_pos h1 h0
  have hr : z % n < n := Nat.mod_lt _ h0
  refine lv_iload_n hx hb dX3_widestProduct_0 rfl (lv_at hl 0 rfl) ?_
  refine z_i2l hx hb dX3_widestProduct_1 (by omega) ?_
  refine lv_iload_n hx hb dX3_widestProduct_2 rfl (lv_at hl 1 rfl) ?_
  refine z_i2l hx hb dX3_widestProduct_3 (by omega) ?_
  refine RO_l.callS (rest := []) (c_X3_quotient l D z n (by omega) h0 (by omega)) ⟨hx, hb, hml, hown, hts⟩ (va_cwS 2 hts gX3_widestProduct_X3_quotient rfl rfl rfl (by decide +kernel) ⟨Nat.le_of_ble_eq_true rfl, Nat.le_of_ble_eq_true rfl⟩) hK hP hS hA [] [] rfl rfl rfl hl.1 rfl (Nat.le_of_ble_eq_true rfl) dX3_widestProduct_4 ⟨Nat.zero_le _, Nat.zero_le _⟩ (fun v1_ H locs e1_ hP hS => ?_)
  obtain rfl : v1_ = lN (z / n) := e1_
  refine z_l2i hx hb dX3_widestProduct_7 ?_
  refine lv_istore_n (lv' := [(2, .int (nI (z / n))), (0, .int (nI z)), (1, .int (nI n))]) hx hb dX3_widestProduct_8 rfl hl (by decide) rfl (fun ls hl => ?_)
  refine lv_iload_n hx hb dX3_widestProduct_9 rfl (lv_at hl 1 rfl) ?_
  refine z_i2l hx hb dX3_widestProduct_10 (by omega) ?_
  refine lv_iload_n hx hb dX3_widestProduct_11 rfl (lv_at hl 2 rfl) ?_
  refine z_i2l hx hb dX3_widestProduct_12 (by omega) ?_
  refine RO_l.callS (rest := []) (c_X3_remainder l D z n (by omega) h0 (by omega)) ⟨hx, hb, hml, hown, hts⟩ (va_cwS 2 hts gX3_widestProduct_X3_remainder rfl rfl rfl (by decide +kernel) ⟨Nat.le_of_ble_eq_true rfl, Nat.le_of_ble_eq_true rfl⟩) hK hP hS hA [] [] rfl rfl rfl hl.1 rfl (Nat.le_of_ble_eq_true rfl) dX3_widestProduct_13 ⟨Nat.zero_le _, Nat.zero_le _⟩ (fun v2_ H locs e2_ hP hS => ?_)
  obtain rfl : v2_ = lN (z % n) := e2_
  refine z_l2i hx hb dX3_widestProduct_16 ?_
  refine lv_istore_n (lv' := [(3, .int (nI (z % n))), (2, .int (nI (z / n))), (0, .int (nI z)), (1, .int (nI n))]) hx hb dX3_widestProduct_17 rfl hl (by decide) rfl (fun ls hl => ?_)
  refine lv_iload_n hx hb dX3_widestProduct_18 rfl (lv_at hl 1 rfl) ?_
  refine lv_iconst (v := nI 1) hx hb dX3_widestProduct_19 (by decide) ?_
  refine zi_add hx hb dX3_widestProduct_20  ?_
  refine z_i2l hx hb dX3_widestProduct_21 (by omega) ?_
  refine lv_iload_n hx hb dX3_widestProduct_22 rfl (lv_at hl 0 rfl) ?_
  refine RO_l.callS (rest := []) (c_X3_power l D (z / n + 1) (z % n) (by omega) (by omega) (by omega)) ⟨hx, hb, hml, hown, hts⟩ (va_cwS 2 hts gX3_widestProduct_X3_power rfl rfl rfl (by decide +kernel) ⟨Nat.le_of_ble_eq_true rfl, Nat.le_of_ble_eq_true rfl⟩) hK hP hS hA [] [] rfl rfl rfl hl.1 rfl (Nat.le_of_ble_eq_true rfl) dX3_widestProduct_23 ⟨Nat.zero_le _, Nat.zero_le _⟩ (fun v3_ H locs e3_ hP hS => ?_)
  obtain rfl : v3_ = lN (sat ((z / n + 1) ^ (z % n))) := e3_
  refine lv_iload_n hx hb dX3_widestProduct_26 rfl (lv_at hl 1 rfl) ?_
  refine z_i2l hx hb dX3_widestProduct_27 (by omega) ?_
  refine lv_iload_n hx hb dX3_widestProduct_28 rfl (lv_at hl 3 rfl) ?_
  refine lv_iload_n hx hb dX3_widestProduct_29 rfl (lv_at hl 0 rfl) ?_
  refine zi_sub hx hb dX3_widestProduct_30 (by omega) ?_
  refine RO_l.callS (rest := [.long (lN (sat ((z / n + 1) ^ (z % n))))]) (c_X3_power l D (z / n) (n - z % n) (by omega) (by omega) (by omega)) ⟨hx, hb, hml, hown, hts⟩ (va_cwS 2 hts gX3_widestProduct_X3_power rfl rfl rfl (by decide +kernel) ⟨Nat.le_of_ble_eq_true rfl, Nat.le_of_ble_eq_true rfl⟩) hK hP hS hA [] [] rfl rfl rfl hl.1 rfl (Nat.le_of_ble_eq_true rfl) dX3_widestProduct_31 ⟨Nat.zero_le _, Nat.zero_le _⟩ (fun v4_ H locs e4_ hP hS => ?_)
  obtain rfl : v4_ = lN (sat ((z / n) ^ (n - z % n))) := e4_
  refine RO_l.callS (rest := []) (c_X3_product l D (sat ((z / n + 1) ^ (z % n))) (sat ((z / n) ^ (n - z % n))) (sat_top _) (sat_pos (Nat.pow_pos (by omega))) (sat_top _)) ⟨hx, hb, hml, hown, hts⟩ (va_cwS 2 hts gX3_widestProduct_X3_product rfl rfl rfl (by decide +kernel) ⟨Nat.le_of_ble_eq_true rfl, Nat.le_of_ble_eq_true rfl⟩) hK hP hS hA [] [] rfl rfl rfl hl.1 rfl (Nat.le_of_ble_eq_true rfl) dX3_widestProduct_34 ⟨Nat.zero_le _, Nat.zero_le _⟩ (fun v5_ H locs e5_ hP hS => ?_)
  obtain rfl : v5_ = lN (sat (sat ((z / n + 1) ^ (z % n)) * sat ((z / n) ^ (n - z % n)))) := e5_
  exact hret _ _ _ _ _ hS (congrArg lN (sat_mul2 (Nat.pow_pos (by omega)) (Nat.pow_pos (by omega)))) dX3_widestProduct_37
